set_option maxRecDepth 4000 in
theorem ke_F_X8_named (x0 : Int32) (t : mk_S) : KeP t (F_X8_named x0 t) := by
  have h0 : Ke t t := Ke.rf
  unfold F_X8_named
  repeat' (with_reducible first | exact ke_none | exact ke_some (by assumption) | exact ke_rz (by assumption) | refine ke_ite ?_ ?_ | refine ke_gd ?_ | refine ke_bindS (by first | exact KeS.tr (by assumption) (kes_pi _ _ _ _ _) | exact KeS.tr (by assumption) (kes_st _ _ _ _ _) | exact KeS.tr (by assumption) (kes_stl _ _ _ _) | exact KeS.tr (by assumption) (kes_cp _ _ _ _ _ _)) (fun _ _ => ?_) | refine ke_bindV (fun _ => ?_))
set_option maxRecDepth 4000 in
theorem ke_B_X8_isHere_20 : ∀ (n : Nat) (x0 : Nat) (x1 : Nat) (x2 : Int32) (t : mk_S), KeP t (B_X8_isHere_20  n x0 x1 x2 t) := by
  intro n
  induction n with
  | zero =>
    intro x0 x1 x2 t
    exact ke_none
  | succ n ih =>
    intro x0 x1 x2 t
    have h0 : Ke t t := Ke.rf
    rw [B_X8_isHere_20]
    repeat' (with_reducible first | exact ke_none | exact ke_some (by assumption) | exact ke_rz (by assumption) | exact KeP.tr (by assumption) (ih _ _ _ _) | exact KeP.tr (by assumption) (ke_sln _ _) | exact KeP.tr (by assumption) (ke_sch _ _ _) | refine ke_ite ?_ ?_ | refine ke_gd ?_ | refine ke_bindO (by first | exact KeP.tr (by assumption) (ih _ _ _ _) | exact KeP.tr (by assumption) (ke_sln _ _) | exact KeP.tr (by assumption) (ke_sch _ _ _)) (fun _ _ => ?_) | refine ke_bindS (by first | exact KeS.tr (by assumption) (kes_pi _ _ _ _ _) | exact KeS.tr (by assumption) (kes_st _ _ _ _ _) | exact KeS.tr (by assumption) (kes_stl _ _ _ _) | exact KeS.tr (by assumption) (kes_cp _ _ _ _ _ _)) (fun _ _ => ?_) | refine ke_bindV (fun _ => ?_))
set_option maxRecDepth 4000 in
theorem ke_F_X8_isHere (x0 : Nat) (x1 : Nat) (t : mk_S) : KeP t (F_X8_isHere x0 x1 t) := by
  have h0 : Ke t t := Ke.rf
  unfold F_X8_isHere
  repeat' (with_reducible first | exact ke_none | exact ke_some (by assumption) | exact ke_rz (by assumption) | exact KeP.tr (by assumption) (ke_B_X8_isHere_20 _ _ _ _ _) | exact KeP.tr (by assumption) (ke_sln _ _) | refine ke_ite ?_ ?_ | refine ke_gd ?_ | refine ke_bindO (by first | exact KeP.tr (by assumption) (ke_B_X8_isHere_20 _ _ _ _ _) | exact KeP.tr (by assumption) (ke_sln _ _)) (fun _ _ => ?_) | refine ke_bindS (by first | exact KeS.tr (by assumption) (kes_pi _ _ _ _ _) | exact KeS.tr (by assumption) (kes_st _ _ _ _ _) | exact KeS.tr (by assumption) (kes_stl _ _ _ _) | exact KeS.tr (by assumption) (kes_cp _ _ _ _ _ _)) (fun _ _ => ?_) | refine ke_bindV (fun _ => ?_))
set_option maxRecDepth 4000 in
theorem ke_B_X8_readWord_94 (k61 : Nat → Int32 → mk_S → Option (Unit × mk_S)) (h_k61 : ∀ (y0 : Nat) (y1 : Int32) (y2 : mk_S), KeP y2 (k61 y0 y1 y2)) (x0 : Nat) (x1 : Int32) (t : mk_S) : KeP t (B_X8_readWord_94 k61 x0 x1 t) := by
  have h0 : Ke t t := Ke.rf
  unfold B_X8_readWord_94
  repeat' (with_reducible first | exact ke_none | exact ke_some (by assumption) | exact ke_rz (by assumption) | exact KeP.tr (by assumption) (h_k61 _ _ _) | refine ke_ite ?_ ?_ | refine ke_gd ?_ | refine ke_bindO (by first | exact KeP.tr (by assumption) (h_k61 _ _ _)) (fun _ _ => ?_) | refine ke_bindS (by first | exact KeS.tr (by assumption) (kes_pi _ _ _ _ _) | exact KeS.tr (by assumption) (kes_st _ _ _ _ _) | exact KeS.tr (by assumption) (kes_stl _ _ _ _) | exact KeS.tr (by assumption) (kes_cp _ _ _ _ _ _)) (fun _ _ => ?_) | refine ke_bindV (fun _ => ?_))
set_option maxRecDepth 4000 in
theorem ke_B_X8_readWord_61 : ∀ (n : Nat) (x0 : Nat) (x1 : Int32) (t : mk_S), KeP t (B_X8_readWord_61  n x0 x1 t) := by
  intro n
  induction n with
  | zero =>
    intro x0 x1 t
    exact ke_none
  | succ n ih =>
    intro x0 x1 t
    have h0 : Ke t t := Ke.rf
    rw [B_X8_readWord_61]
    repeat' (with_reducible first | exact ke_none | exact ke_some (by assumption) | exact ke_rz (by assumption) | exact KeP.tr (by assumption) (ke_F_X8_named _ _) | exact KeP.tr (by assumption) (ke_F_X8_isHere _ _ _) | exact KeP.tr (by assumption) (ke_B_X8_readWord_94 _ (by assumption) _ _ _) | exact KeP.tr (by assumption) (ih _ _ _) | refine ke_ite ?_ ?_ | refine ke_gd ?_ | refine ke_bindO (by first | exact KeP.tr (by assumption) (ke_F_X8_named _ _) | exact KeP.tr (by assumption) (ke_F_X8_isHere _ _ _) | exact KeP.tr (by assumption) (ke_B_X8_readWord_94 _ (by assumption) _ _ _) | exact KeP.tr (by assumption) (ih _ _ _)) (fun _ _ => ?_) | refine ke_bindS (by first | exact KeS.tr (by assumption) (kes_pi _ _ _ _ _) | exact KeS.tr (by assumption) (kes_st _ _ _ _ _) | exact KeS.tr (by assumption) (kes_stl _ _ _ _) | exact KeS.tr (by assumption) (kes_cp _ _ _ _ _ _)) (fun _ _ => ?_) | refine ke_bindV (fun _ => ?_))
set_option maxRecDepth 4000 in
theorem ke_B_X8_readWord_50 (x0 : Nat) (t : mk_S) : KeP t (B_X8_readWord_50 x0 t) := by
  have h0 : Ke t t := Ke.rf
  unfold B_X8_readWord_50
  repeat' (with_reducible first | exact ke_none | exact ke_some (by assumption) | exact ke_rz (by assumption) | exact KeP.tr (by assumption) (ke_B_X8_readWord_61 _ _ _ _) | refine ke_ite ?_ ?_ | refine ke_gd ?_ | refine ke_bindO (by first | exact KeP.tr (by assumption) (ke_B_X8_readWord_61 _ _ _ _)) (fun _ _ => ?_) | refine ke_bindS (by first | exact KeS.tr (by assumption) (kes_pi _ _ _ _ _) | exact KeS.tr (by assumption) (kes_st _ _ _ _ _) | exact KeS.tr (by assumption) (kes_stl _ _ _ _) | exact KeS.tr (by assumption) (kes_cp _ _ _ _ _ _)) (fun _ _ => ?_) | refine ke_bindV (fun _ => ?_))
set_option maxRecDepth 4000 in
theorem ke_B_X8_readWord_0 : ∀ (n : Nat) (x0 : Nat) (t : mk_S), KeP t (B_X8_readWord_0  n x0 t) := by
  intro n
  induction n with
  | zero =>
    intro x0 t
    exact ke_none
  | succ n ih =>
    intro x0 t
    have h0 : Ke t t := Ke.rf
    rw [B_X8_readWord_0]
    repeat' (with_reducible first | exact ke_none | exact ke_some (by assumption) | exact ke_rz (by assumption) | exact KeP.tr (by assumption) (ke_B_X8_readWord_50 _ _) | exact KeP.tr (by assumption) (ke_F_X8_byteAt _ _ _) | exact KeP.tr (by assumption) (ih _ _) | refine ke_ite ?_ ?_ | refine ke_gd ?_ | refine ke_bindO (by first | exact KeP.tr (by assumption) (ke_B_X8_readWord_50 _ _) | exact KeP.tr (by assumption) (ke_F_X8_byteAt _ _ _) | exact KeP.tr (by assumption) (ih _ _)) (fun _ _ => ?_) | refine ke_bindS (by first | exact KeS.tr (by assumption) (kes_pi _ _ _ _ _) | exact KeS.tr (by assumption) (kes_st _ _ _ _ _) | exact KeS.tr (by assumption) (kes_stl _ _ _ _) | exact KeS.tr (by assumption) (kes_cp _ _ _ _ _ _)) (fun _ _ => ?_) | refine ke_bindV (fun _ => ?_))
set_option maxRecDepth 4000 in
theorem ke_F_X8_readWord (x0 : Nat) (t : mk_S) : KeP t (F_X8_readWord x0 t) := by
  have h0 : Ke t t := Ke.rf
  unfold F_X8_readWord
  repeat' (with_reducible first | exact ke_none | exact ke_some (by assumption) | exact ke_rz (by assumption) | exact KeP.tr (by assumption) (ke_B_X8_readWord_0 _ _ _) | refine ke_ite ?_ ?_ | refine ke_gd ?_ | refine ke_bindO (by first | exact KeP.tr (by assumption) (ke_B_X8_readWord_0 _ _ _)) (fun _ _ => ?_) | refine ke_bindS (by first | exact KeS.tr (by assumption) (kes_pi _ _ _ _ _) | exact KeS.tr (by assumption) (kes_st _ _ _ _ _) | exact KeS.tr (by assumption) (kes_stl _ _ _ _) | exact KeS.tr (by assumption) (kes_cp _ _ _ _ _ _)) (fun _ _ => ?_) | refine ke_bindV (fun _ => ?_))
set_option maxRecDepth 4000 in
theorem ke_B_X8_readSign_71 (s0 : Nat) (s1 : Int32) (t : mk_S) : KeP t (B_X8_readSign_71 s0 s1 t) := by
  have h0 : Ke t t := Ke.rf
  unfold B_X8_readSign_71
  repeat' (with_reducible first | exact ke_none | exact ke_some (by assumption) | exact ke_rz (by assumption) | refine ke_ite ?_ ?_ | refine ke_gd ?_ | refine ke_bindS (by first | exact KeS.tr (by assumption) (kes_pi _ _ _ _ _) | exact KeS.tr (by assumption) (kes_st _ _ _ _ _) | exact KeS.tr (by assumption) (kes_stl _ _ _ _) | exact KeS.tr (by assumption) (kes_cp _ _ _ _ _ _)) (fun _ _ => ?_) | refine ke_bindV (fun _ => ?_))
set_option maxRecDepth 4000 in
theorem ke_B_X8_readSign_32 (x0 : Nat) (x1 : Int32) (t : mk_S) : KeP t (B_X8_readSign_32 x0 x1 t) := by
  have h0 : Ke t t := Ke.rf
  unfold B_X8_readSign_32
  repeat' (with_reducible first | exact ke_none | exact ke_some (by assumption) | exact ke_rz (by assumption) | exact KeP.tr (by assumption) (ke_F_X8_byteAt _ _ _) | exact KeP.tr (by assumption) (ke_B_X8_readSign_71 _ _ _) | refine ke_ite ?_ ?_ | refine ke_gd ?_ | refine ke_bindO (by first | exact KeP.tr (by assumption) (ke_F_X8_byteAt _ _ _) | exact KeP.tr (by assumption) (ke_B_X8_readSign_71 _ _ _)) (fun _ _ => ?_) | refine ke_bindS (by first | exact KeS.tr (by assumption) (kes_pi _ _ _ _ _) | exact KeS.tr (by assumption) (kes_st _ _ _ _ _) | exact KeS.tr (by assumption) (kes_stl _ _ _ _) | exact KeS.tr (by assumption) (kes_cp _ _ _ _ _ _)) (fun _ _ => ?_) | refine ke_bindV (fun _ => ?_))
set_option maxRecDepth 4000 in
theorem ke_B_X8_readSign_20 (x0 : Nat) (x1 : Int32) (t : mk_S) : KeP t (B_X8_readSign_20 x0 x1 t) := by
  have h0 : Ke t t := Ke.rf
  unfold B_X8_readSign_20
  repeat' (with_reducible first | exact ke_none | exact ke_some (by assumption) | exact ke_rz (by assumption) | exact KeP.tr (by assumption) (ke_B_X8_readSign_32 _ _ _) | refine ke_ite ?_ ?_ | refine ke_gd ?_ | refine ke_bindO (by first | exact KeP.tr (by assumption) (ke_B_X8_readSign_32 _ _ _)) (fun _ _ => ?_) | refine ke_bindS (by first | exact KeS.tr (by assumption) (kes_pi _ _ _ _ _) | exact KeS.tr (by assumption) (kes_st _ _ _ _ _) | exact KeS.tr (by assumption) (kes_stl _ _ _ _) | exact KeS.tr (by assumption) (kes_cp _ _ _ _ _ _)) (fun _ _ => ?_) | refine ke_bindV (fun _ => ?_))
set_option maxRecDepth 4000 in
theorem ke_F_X8_readSign (x0 : Nat) (x1 : Int32) (t : mk_S) : KeP t (F_X8_readSign x0 x1 t) := by
  have h0 : Ke t t := Ke.rf
  unfold F_X8_readSign
  repeat' (with_reducible first | exact ke_none | exact ke_some (by assumption) | exact ke_rz (by assumption) | exact KeP.tr (by assumption) (ke_B_X8_readSign_20 _ _ _) | refine ke_ite ?_ ?_ | refine ke_gd ?_ | refine ke_bindO (by first | exact KeP.tr (by assumption) (ke_B_X8_readSign_20 _ _ _)) (fun _ _ => ?_) | refine ke_bindS (by first | exact KeS.tr (by assumption) (kes_pi _ _ _ _ _) | exact KeS.tr (by assumption) (kes_st _ _ _ _ _) | exact KeS.tr (by assumption) (kes_stl _ _ _ _) | exact KeS.tr (by assumption) (kes_cp _ _ _ _ _ _)) (fun _ _ => ?_) | refine ke_bindV (fun _ => ?_))
set_option maxRecDepth 4000 in
theorem ke_B_X8_advance_92 (x0 : Nat) (x1 : Int32) (t : mk_S) : KeP t (B_X8_advance_92 x0 x1 t) := by
  have h0 : Ke t t := Ke.rf
  unfold B_X8_advance_92
  repeat' (with_reducible first | exact ke_none | exact ke_some (by assumption) | exact ke_rz (by assumption) | exact KeP.tr (by assumption) (ke_F_X8_readSign _ _ _) | refine ke_ite ?_ ?_ | refine ke_gd ?_ | refine ke_bindO (by first | exact KeP.tr (by assumption) (ke_F_X8_readSign _ _ _)) (fun _ _ => ?_) | refine ke_bindS (by first | exact KeS.tr (by assumption) (kes_pi _ _ _ _ _) | exact KeS.tr (by assumption) (kes_st _ _ _ _ _) | exact KeS.tr (by assumption) (kes_stl _ _ _ _) | exact KeS.tr (by assumption) (kes_cp _ _ _ _ _ _)) (fun _ _ => ?_) | refine ke_bindV (fun _ => ?_))
set_option maxRecDepth 4000 in
theorem ke_B_X8_advance_73 (x0 : Nat) (x1 : Int32) (t : mk_S) : KeP t (B_X8_advance_73 x0 x1 t) := by
  have h0 : Ke t t := Ke.rf
  unfold B_X8_advance_73
  repeat' (with_reducible first | exact ke_none | exact ke_some (by assumption) | exact ke_rz (by assumption) | exact KeP.tr (by assumption) (ke_B_X8_advance_92 _ _ _) | exact KeP.tr (by assumption) (ke_F_X8_readWord _ _) | refine ke_ite ?_ ?_ | refine ke_gd ?_ | refine ke_bindO (by first | exact KeP.tr (by assumption) (ke_B_X8_advance_92 _ _ _) | exact KeP.tr (by assumption) (ke_F_X8_readWord _ _)) (fun _ _ => ?_) | refine ke_bindS (by first | exact KeS.tr (by assumption) (kes_pi _ _ _ _ _) | exact KeS.tr (by assumption) (kes_st _ _ _ _ _) | exact KeS.tr (by assumption) (kes_stl _ _ _ _) | exact KeS.tr (by assumption) (kes_cp _ _ _ _ _ _)) (fun _ _ => ?_) | refine ke_bindV (fun _ => ?_))
set_option maxRecDepth 4000 in
theorem ke_B_X8_advance_37 (x0 : Nat) (t : mk_S) : KeP t (B_X8_advance_37 x0 t) := by
  have h0 : Ke t t := Ke.rf
  unfold B_X8_advance_37
  repeat' (with_reducible first | exact ke_none | exact ke_some (by assumption) | exact ke_rz (by assumption) | exact KeP.tr (by assumption) (ke_F_X8_byteAt _ _ _) | exact KeP.tr (by assumption) (ke_B_X8_advance_73 _ _ _) | exact KeP.tr (by assumption) (ke_F_X8_readNumber _ _) | refine ke_ite ?_ ?_ | refine ke_gd ?_ | refine ke_bindO (by first | exact KeP.tr (by assumption) (ke_F_X8_byteAt _ _ _) | exact KeP.tr (by assumption) (ke_B_X8_advance_73 _ _ _) | exact KeP.tr (by assumption) (ke_F_X8_readNumber _ _)) (fun _ _ => ?_) | refine ke_bindS (by first | exact KeS.tr (by assumption) (kes_pi _ _ _ _ _) | exact KeS.tr (by assumption) (kes_st _ _ _ _ _) | exact KeS.tr (by assumption) (kes_stl _ _ _ _) | exact KeS.tr (by assumption) (kes_cp _ _ _ _ _ _)) (fun _ _ => ?_) | refine ke_bindV (fun _ => ?_))
set_option maxRecDepth 4000 in
theorem ke_B_X8_advance_0 : ∀ (n : Nat) (x0 : Nat) (t : mk_S), KeP t (B_X8_advance_0  n x0 t) := by
  intro n
  induction n with
  | zero =>
    intro x0 t
    exact ke_none
  | succ n ih =>
    intro x0 t
    have h0 : Ke t t := Ke.rf
    rw [B_X8_advance_0]
    repeat' (with_reducible first | exact ke_none | exact ke_some (by assumption) | exact ke_rz (by assumption) | exact KeP.tr (by assumption) (ke_B_X8_advance_37 _ _) | exact KeP.tr (by assumption) (ke_F_X8_byteAt _ _ _) | exact KeP.tr (by assumption) (ih _ _) | refine ke_ite ?_ ?_ | refine ke_gd ?_ | refine ke_bindO (by first | exact KeP.tr (by assumption) (ke_B_X8_advance_37 _ _) | exact KeP.tr (by assumption) (ke_F_X8_byteAt _ _ _) | exact KeP.tr (by assumption) (ih _ _)) (fun _ _ => ?_) | refine ke_bindS (by first | exact KeS.tr (by assumption) (kes_pi _ _ _ _ _) | exact KeS.tr (by assumption) (kes_st _ _ _ _ _) | exact KeS.tr (by assumption) (kes_stl _ _ _ _) | exact KeS.tr (by assumption) (kes_cp _ _ _ _ _ _)) (fun _ _ => ?_) | refine ke_bindV (fun _ => ?_))
set_option maxRecDepth 4000 in
theorem ke_F_X8_advance (x0 : Nat) (t : mk_S) : KeP t (F_X8_advance x0 t) := by
  have h0 : Ke t t := Ke.rf
  unfold F_X8_advance
  repeat' (with_reducible first | exact ke_none | exact ke_some (by assumption) | exact ke_rz (by assumption) | exact KeP.tr (by assumption) (ke_B_X8_advance_0 _ _ _) | refine ke_ite ?_ ?_ | refine ke_gd ?_ | refine ke_bindO (by first | exact KeP.tr (by assumption) (ke_B_X8_advance_0 _ _ _)) (fun _ _ => ?_) | refine ke_bindS (by first | exact KeS.tr (by assumption) (kes_pi _ _ _ _ _) | exact KeS.tr (by assumption) (kes_st _ _ _ _ _) | exact KeS.tr (by assumption) (kes_stl _ _ _ _) | exact KeS.tr (by assumption) (kes_cp _ _ _ _ _ _)) (fun _ _ => ?_) | refine ke_bindV (fun _ => ?_))
set_option maxRecDepth 4000 in
theorem ke_F_X8_fail (x0 : Nat) (x1 : Int32) (t : mk_S) : KeP t (F_X8_fail x0 x1 t) := by
  have h0 : Ke t t := Ke.rf
  unfold F_X8_fail
  repeat' (with_reducible first | exact ke_none | exact ke_some (by assumption) | exact ke_rz (by assumption) | refine ke_ite ?_ ?_ | refine ke_gd ?_ | refine ke_bindS (by first | exact KeS.tr (by assumption) (kes_pi _ _ _ _ _) | exact KeS.tr (by assumption) (kes_st _ _ _ _ _) | exact KeS.tr (by assumption) (kes_stl _ _ _ _) | exact KeS.tr (by assumption) (kes_cp _ _ _ _ _ _)) (fun _ _ => ?_) | refine ke_bindV (fun _ => ?_))
set_option maxRecDepth 4000 in
theorem ke_B_X4_mayStand_55 (t : mk_S) : KeP t (B_X4_mayStand_55 t) := by
  have h0 : Ke t t := Ke.rf
  unfold B_X4_mayStand_55
  repeat' (with_reducible first | exact ke_none | exact ke_some (by assumption) | exact ke_rz (by assumption) | refine ke_ite ?_ ?_ | refine ke_gd ?_ | refine ke_bindS (by first | exact KeS.tr (by assumption) (kes_pi _ _ _ _ _) | exact KeS.tr (by assumption) (kes_st _ _ _ _ _) | exact KeS.tr (by assumption) (kes_stl _ _ _ _) | exact KeS.tr (by assumption) (kes_cp _ _ _ _ _ _)) (fun _ _ => ?_) | refine ke_bindV (fun _ => ?_))
set_option maxRecDepth 4000 in
theorem ke_B_X4_mayStand_73 (t : mk_S) : KeP t (B_X4_mayStand_73 t) := by
  have h0 : Ke t t := Ke.rf
  unfold B_X4_mayStand_73
  repeat' (with_reducible first | exact ke_none | exact ke_some (by assumption) | exact ke_rz (by assumption) | refine ke_ite ?_ ?_ | refine ke_gd ?_ | refine ke_bindS (by first | exact KeS.tr (by assumption) (kes_pi _ _ _ _ _) | exact KeS.tr (by assumption) (kes_st _ _ _ _ _) | exact KeS.tr (by assumption) (kes_stl _ _ _ _) | exact KeS.tr (by assumption) (kes_cp _ _ _ _ _ _)) (fun _ _ => ?_) | refine ke_bindV (fun _ => ?_))
set_option maxRecDepth 4000 in
theorem ke_B_X4_mayStand_91 (t : mk_S) : KeP t (B_X4_mayStand_91 t) := by
  have h0 : Ke t t := Ke.rf
  unfold B_X4_mayStand_91
  repeat' (with_reducible first | exact ke_none | exact ke_some (by assumption) | exact ke_rz (by assumption) | refine ke_ite ?_ ?_ | refine ke_gd ?_ | refine ke_bindS (by first | exact KeS.tr (by assumption) (kes_pi _ _ _ _ _) | exact KeS.tr (by assumption) (kes_st _ _ _ _ _) | exact KeS.tr (by assumption) (kes_stl _ _ _ _) | exact KeS.tr (by assumption) (kes_cp _ _ _ _ _ _)) (fun _ _ => ?_) | refine ke_bindV (fun _ => ?_))
set_option maxRecDepth 4000 in
theorem ke_F_X4_mayStand (x0 : Int32) (x1 : Nat) (x2 : Int32) (t : mk_S) : KeP t (F_X4_mayStand x0 x1 x2 t) := by
  have h0 : Ke t t := Ke.rf
  unfold F_X4_mayStand
  repeat' (with_reducible first | exact ke_none | exact ke_some (by assumption) | exact ke_rz (by assumption) | exact KeP.tr (by assumption) (ke_B_X4_mayStand_55 _) | exact KeP.tr (by assumption) (ke_B_X4_mayStand_73 _) | exact KeP.tr (by assumption) (ke_B_X4_mayStand_91 _) | refine ke_ite ?_ ?_ | refine ke_gd ?_ | refine ke_bindO (by first | exact KeP.tr (by assumption) (ke_B_X4_mayStand_55 _) | exact KeP.tr (by assumption) (ke_B_X4_mayStand_73 _) | exact KeP.tr (by assumption) (ke_B_X4_mayStand_91 _)) (fun _ _ => ?_) | refine ke_bindS (by first | exact KeS.tr (by assumption) (kes_pi _ _ _ _ _) | exact KeS.tr (by assumption) (kes_st _ _ _ _ _) | exact KeS.tr (by assumption) (kes_stl _ _ _ _) | exact KeS.tr (by assumption) (kes_cp _ _ _ _ _ _)) (fun _ _ => ?_) | refine ke_bindV (fun _ => ?_))
set_option maxRecDepth 4000 in
theorem ke_F_X8_isSound (x0 : Nat) (t : mk_S) : KeP t (F_X8_isSound x0 t) := by
  have h0 : Ke t t := Ke.rf
  unfold F_X8_isSound
  repeat' (with_reducible first | exact ke_none | exact ke_some (by assumption) | exact ke_rz (by assumption) | refine ke_ite ?_ ?_ | refine ke_gd ?_ | refine ke_bindS (by first | exact KeS.tr (by assumption) (kes_pi _ _ _ _ _) | exact KeS.tr (by assumption) (kes_st _ _ _ _ _) | exact KeS.tr (by assumption) (kes_stl _ _ _ _) | exact KeS.tr (by assumption) (kes_cp _ _ _ _ _ _)) (fun _ _ => ?_) | refine ke_bindV (fun _ => ?_))
set_option maxRecDepth 4000 in
theorem ke_B_X11_within_14 (t : mk_S) : KeP t (B_X11_within_14 t) := by
  have h0 : Ke t t := Ke.rf
  unfold B_X11_within_14
  repeat' (with_reducible first | exact ke_none | exact ke_some (by assumption) | exact ke_rz (by assumption) | refine ke_ite ?_ ?_ | refine ke_gd ?_ | refine ke_bindS (by first | exact KeS.tr (by assumption) (kes_pi _ _ _ _ _) | exact KeS.tr (by assumption) (kes_st _ _ _ _ _) | exact KeS.tr (by assumption) (kes_stl _ _ _ _) | exact KeS.tr (by assumption) (kes_cp _ _ _ _ _ _)) (fun _ _ => ?_) | refine ke_bindV (fun _ => ?_))
set_option maxRecDepth 4000 in
theorem ke_F_X11_within (x0 : Int32) (x1 : Int32) (x2 : Int32) (t : mk_S) : KeP t (F_X11_within x0 x1 x2 t) := by
  have h0 : Ke t t := Ke.rf
  unfold F_X11_within
  repeat' (with_reducible first | exact ke_none | exact ke_some (by assumption) | exact ke_rz (by assumption) | exact KeP.tr (by assumption) (ke_B_X11_within_14 _) | refine ke_ite ?_ ?_ | refine ke_gd ?_ | refine ke_bindO (by first | exact KeP.tr (by assumption) (ke_B_X11_within_14 _)) (fun _ _ => ?_) | refine ke_bindS (by first | exact KeS.tr (by assumption) (kes_pi _ _ _ _ _) | exact KeS.tr (by assumption) (kes_st _ _ _ _ _) | exact KeS.tr (by assumption) (kes_stl _ _ _ _) | exact KeS.tr (by assumption) (kes_cp _ _ _ _ _ _)) (fun _ _ => ?_) | refine ke_bindV (fun _ => ?_))
set_option maxRecDepth 4000 in
theorem ke_B_X4_next_46 (x0 : Nat) (x1 : Int32) (t : mk_S) : KeP t (B_X4_next_46 x0 x1 t) := by
  have h0 : Ke t t := Ke.rf
  unfold B_X4_next_46
  repeat' (with_reducible first | exact ke_none | exact ke_some (by assumption) | exact ke_rz (by assumption) | exact KeP.tr (by assumption) (ke_F_X8_isSound _ _) | refine ke_ite ?_ ?_ | refine ke_gd ?_ | refine ke_bindO (by first | exact KeP.tr (by assumption) (ke_F_X8_isSound _ _)) (fun _ _ => ?_) | refine ke_bindS (by first | exact KeS.tr (by assumption) (kes_pi _ _ _ _ _) | exact KeS.tr (by assumption) (kes_st _ _ _ _ _) | exact KeS.tr (by assumption) (kes_stl _ _ _ _) | exact KeS.tr (by assumption) (kes_cp _ _ _ _ _ _)) (fun _ _ => ?_) | refine ke_bindV (fun _ => ?_))
set_option maxRecDepth 4000 in
theorem ke_F_X4_next (x0 : Nat) (x1 : Int32) (x2 : Int32) (t : mk_S) : KeP t (F_X4_next x0 x1 x2 t) := by
  have h0 : Ke t t := Ke.rf
  unfold F_X4_next
  repeat' (with_reducible first | exact ke_none | exact ke_some (by assumption) | exact ke_rz (by assumption) | exact KeP.tr (by assumption) (ke_F_X8_isSound _ _) | exact KeP.tr (by assumption) (ke_B_X4_next_46 _ _ _) | exact KeP.tr (by assumption) (ke_F_X8_advance _ _) | exact KeP.tr (by assumption) (ke_F_X11_within _ _ _ _) | exact KeP.tr (by assumption) (ke_F_X8_fail _ _ _) | refine ke_ite ?_ ?_ | refine ke_gd ?_ | refine ke_bindO (by first | exact KeP.tr (by assumption) (ke_F_X8_isSound _ _) | exact KeP.tr (by assumption) (ke_B_X4_next_46 _ _ _) | exact KeP.tr (by assumption) (ke_F_X8_advance _ _) | exact KeP.tr (by assumption) (ke_F_X11_within _ _ _ _) | exact KeP.tr (by assumption) (ke_F_X8_fail _ _ _)) (fun _ _ => ?_) | refine ke_bindS (by first | exact KeS.tr (by assumption) (kes_pi _ _ _ _ _) | exact KeS.tr (by assumption) (kes_st _ _ _ _ _) | exact KeS.tr (by assumption) (kes_stl _ _ _ _) | exact KeS.tr (by assumption) (kes_cp _ _ _ _ _ _)) (fun _ _ => ?_) | refine ke_bindV (fun _ => ?_))
set_option maxRecDepth 4000 in
theorem ke_F_X4_readPlateau (x0 : Nat) (x1 : Nat) (t : mk_S) : KeP t (F_X4_readPlateau x0 x1 t) := by
  have h0 : Ke t t := Ke.rf
  unfold F_X4_readPlateau
  repeat' (with_reducible first | exact ke_none | exact ke_some (by assumption) | exact ke_rz (by assumption) | exact KeP.tr (by assumption) (ke_F_X4_next _ _ _ _) | refine ke_ite ?_ ?_ | refine ke_gd ?_ | refine ke_bindO (by first | exact KeP.tr (by assumption) (ke_F_X4_next _ _ _ _)) (fun _ _ => ?_) | refine ke_bindS (by first | exact KeS.tr (by assumption) (kes_pi _ _ _ _ _) | exact KeS.tr (by assumption) (kes_st _ _ _ _ _) | exact KeS.tr (by assumption) (kes_stl _ _ _ _) | exact KeS.tr (by assumption) (kes_cp _ _ _ _ _ _)) (fun _ _ => ?_) | refine ke_bindV (fun _ => ?_))
set_option maxRecDepth 4000 in
theorem ke_F_X4_readPerson (x0 : Nat) (x1 : Nat) (t : mk_S) : KeP t (F_X4_readPerson x0 x1 t) := by
  have h0 : Ke t t := Ke.rf
  unfold F_X4_readPerson
  repeat' (with_reducible first | exact ke_none | exact ke_some (by assumption) | exact ke_rz (by assumption) | exact KeP.tr (by assumption) (ke_F_X3_cells _ _) | exact KeP.tr (by assumption) (ke_F_X4_next _ _ _ _) | refine ke_ite ?_ ?_ | refine ke_gd ?_ | refine ke_bindO (by first | exact KeP.tr (by assumption) (ke_F_X3_cells _ _) | exact KeP.tr (by assumption) (ke_F_X4_next _ _ _ _)) (fun _ _ => ?_) | refine ke_bindS (by first | exact KeS.tr (by assumption) (kes_pi _ _ _ _ _) | exact KeS.tr (by assumption) (kes_st _ _ _ _ _) | exact KeS.tr (by assumption) (kes_stl _ _ _ _) | exact KeS.tr (by assumption) (kes_cp _ _ _ _ _ _)) (fun _ _ => ?_) | refine ke_bindV (fun _ => ?_))
set_option maxRecDepth 4000 in
theorem ke_F_X4_readMill (x0 : Nat) (x1 : Nat) (t : mk_S) : KeP t (F_X4_readMill x0 x1 t) := by
  have h0 : Ke t t := Ke.rf
  unfold F_X4_readMill
  repeat' (with_reducible first | exact ke_none | exact ke_some (by assumption) | exact ke_rz (by assumption) | exact KeP.tr (by assumption) (ke_F_X3_cells _ _) | exact KeP.tr (by assumption) (ke_F_X4_next _ _ _ _) | refine ke_ite ?_ ?_ | refine ke_gd ?_ | refine ke_bindO (by first | exact KeP.tr (by assumption) (ke_F_X3_cells _ _) | exact KeP.tr (by assumption) (ke_F_X4_next _ _ _ _)) (fun _ _ => ?_) | refine ke_bindS (by first | exact KeS.tr (by assumption) (kes_pi _ _ _ _ _) | exact KeS.tr (by assumption) (kes_st _ _ _ _ _) | exact KeS.tr (by assumption) (kes_stl _ _ _ _) | exact KeS.tr (by assumption) (kes_cp _ _ _ _ _ _)) (fun _ _ => ?_) | refine ke_bindV (fun _ => ?_))
set_option maxRecDepth 4000 in
theorem ke_F_X4_readRoof (x0 : Nat) (x1 : Nat) (t : mk_S) : KeP t (F_X4_readRoof x0 x1 t) := by
  have h0 : Ke t t := Ke.rf
  unfold F_X4_readRoof
  repeat' (with_reducible first | exact ke_none | exact ke_some (by assumption) | exact ke_rz (by assumption) | exact KeP.tr (by assumption) (ke_F_X3_cells _ _) | exact KeP.tr (by assumption) (ke_F_X4_next _ _ _ _) | refine ke_ite ?_ ?_ | refine ke_gd ?_ | refine ke_bindO (by first | exact KeP.tr (by assumption) (ke_F_X3_cells _ _) | exact KeP.tr (by assumption) (ke_F_X4_next _ _ _ _)) (fun _ _ => ?_) | refine ke_bindS (by first | exact KeS.tr (by assumption) (kes_pi _ _ _ _ _) | exact KeS.tr (by assumption) (kes_st _ _ _ _ _) | exact KeS.tr (by assumption) (kes_stl _ _ _ _) | exact KeS.tr (by assumption) (kes_cp _ _ _ _ _ _)) (fun _ _ => ?_) | refine ke_bindV (fun _ => ?_))
set_option maxRecDepth 4000 in
theorem ke_B_X4_readClause_64 (x0 : Nat) (t : mk_S) : KeP t (B_X4_readClause_64 x0 t) := by
  have h0 : Ke t t := Ke.rf
  unfold B_X4_readClause_64
  repeat' (with_reducible first | exact ke_none | exact ke_some (by assumption) | exact ke_rz (by assumption) | exact KeP.tr (by assumption) (ke_F_X8_fail _ _ _) | refine ke_ite ?_ ?_ | refine ke_gd ?_ | refine ke_bindO (by first | exact KeP.tr (by assumption) (ke_F_X8_fail _ _ _)) (fun _ _ => ?_) | refine ke_bindS (by first | exact KeS.tr (by assumption) (kes_pi _ _ _ _ _) | exact KeS.tr (by assumption) (kes_st _ _ _ _ _) | exact KeS.tr (by assumption) (kes_stl _ _ _ _) | exact KeS.tr (by assumption) (kes_cp _ _ _ _ _ _)) (fun _ _ => ?_) | refine ke_bindV (fun _ => ?_))
set_option maxRecDepth 4000 in
theorem ke_B_X4_readClause_58 (x0 : Nat) (x1 : Nat) (x3 : Int32) (s0 : Int32) (s1 : Nat) (s2 : Int32) (t : mk_S) : KeP t (B_X4_readClause_58 x0 x1 x3 s0 s1 s2 t) := by
  have h0 : Ke t t := Ke.rf
  unfold B_X4_readClause_58
  repeat' (with_reducible first | exact ke_none | exact ke_some (by assumption) | exact ke_rz (by assumption) | exact KeP.tr (by assumption) (ke_F_X4_mayStand _ _ _ _) | exact KeP.tr (by assumption) (ke_B_X4_readClause_64 _ _) | exact KeP.tr (by assumption) (ke_F_X4_readPlateau _ _ _) | exact KeP.tr (by assumption) (ke_F_X4_readPerson _ _ _) | exact KeP.tr (by assumption) (ke_F_X4_readMill _ _ _) | exact KeP.tr (by assumption) (ke_F_X4_readRoof _ _ _) | refine ke_ite ?_ ?_ | refine ke_gd ?_ | refine ke_bindO (by first | exact KeP.tr (by assumption) (ke_F_X4_mayStand _ _ _ _) | exact KeP.tr (by assumption) (ke_B_X4_readClause_64 _ _) | exact KeP.tr (by assumption) (ke_F_X4_readPlateau _ _ _) | exact KeP.tr (by assumption) (ke_F_X4_readPerson _ _ _) | exact KeP.tr (by assumption) (ke_F_X4_readMill _ _ _) | exact KeP.tr (by assumption) (ke_F_X4_readRoof _ _ _)) (fun _ _ => ?_) | refine ke_bindS (by first | exact KeS.tr (by assumption) (kes_pi _ _ _ _ _) | exact KeS.tr (by assumption) (kes_st _ _ _ _ _) | exact KeS.tr (by assumption) (kes_stl _ _ _ _) | exact KeS.tr (by assumption) (kes_cp _ _ _ _ _ _)) (fun _ _ => ?_) | refine ke_bindV (fun _ => ?_))
set_option maxRecDepth 4000 in
theorem ke_B_X4_readClause_41 (x0 : Nat) (x1 : Nat) (x2 : Int32) (x3 : Int32) (t : mk_S) : KeP t (B_X4_readClause_41 x0 x1 x2 x3 t) := by
  have h0 : Ke t t := Ke.rf
  unfold B_X4_readClause_41
  repeat' (with_reducible first | exact ke_none | exact ke_some (by assumption) | exact ke_rz (by assumption) | exact KeP.tr (by assumption) (ke_B_X4_readClause_64 _ _) | exact KeP.tr (by assumption) (ke_B_X4_readClause_58 _ _ _ _ _ _ _) | refine ke_ite ?_ ?_ | refine ke_gd ?_ | refine ke_bindO (by first | exact KeP.tr (by assumption) (ke_B_X4_readClause_64 _ _) | exact KeP.tr (by assumption) (ke_B_X4_readClause_58 _ _ _ _ _ _ _)) (fun _ _ => ?_) | refine ke_bindS (by first | exact KeS.tr (by assumption) (kes_pi _ _ _ _ _) | exact KeS.tr (by assumption) (kes_st _ _ _ _ _) | exact KeS.tr (by assumption) (kes_stl _ _ _ _) | exact KeS.tr (by assumption) (kes_cp _ _ _ _ _ _)) (fun _ _ => ?_) | refine ke_bindV (fun _ => ?_))
set_option maxRecDepth 4000 in
theorem ke_F_X4_readClause (x0 : Nat) (x1 : Nat) (x2 : Int32) (t : mk_S) : KeP t (F_X4_readClause x0 x1 x2 t) := by
  have h0 : Ke t t := Ke.rf
  unfold F_X4_readClause
  repeat' (with_reducible first | exact ke_none | exact ke_some (by assumption) | exact ke_rz (by assumption) | exact KeP.tr (by assumption) (ke_B_X4_readClause_41 _ _ _ _ _) | exact KeP.tr (by assumption) (ke_F_X8_fail _ _ _) | refine ke_ite ?_ ?_ | refine ke_gd ?_ | refine ke_bindO (by first | exact KeP.tr (by assumption) (ke_B_X4_readClause_41 _ _ _ _ _) | exact KeP.tr (by assumption) (ke_F_X8_fail _ _ _)) (fun _ _ => ?_) | refine ke_bindS (by first | exact KeS.tr (by assumption) (kes_pi _ _ _ _ _) | exact KeS.tr (by assumption) (kes_st _ _ _ _ _) | exact KeS.tr (by assumption) (kes_stl _ _ _ _) | exact KeS.tr (by assumption) (kes_cp _ _ _ _ _ _)) (fun _ _ => ?_) | refine ke_bindV (fun _ => ?_))
set_option maxRecDepth 4000 in
theorem ke_B_X4_read_64 (k12 : Nat → Nat → Int32 → Int32 → mk_S → Option (Int32 × mk_S)) (h_k12 : ∀ (y0 : Nat) (y1 : Nat) (y2 : Int32) (y3 : Int32) (y4 : mk_S), KeP y4 (k12 y0 y1 y2 y3 y4)) (x0 : Nat) (x1 : Nat) (x3 : Int32) (s0 : Int32) (t : mk_S) : KeP t (B_X4_read_64 k12 x0 x1 x3 s0 t) := by
  have h0 : Ke t t := Ke.rf
  unfold B_X4_read_64
  repeat' (with_reducible first | exact ke_none | exact ke_some (by assumption) | exact ke_rz (by assumption) | exact KeP.tr (by assumption) (h_k12 _ _ _ _ _) | refine ke_ite ?_ ?_ | refine ke_gd ?_ | refine ke_bindO (by first | exact KeP.tr (by assumption) (h_k12 _ _ _ _ _)) (fun _ _ => ?_) | refine ke_bindS (by first | exact KeS.tr (by assumption) (kes_pi _ _ _ _ _) | exact KeS.tr (by assumption) (kes_st _ _ _ _ _) | exact KeS.tr (by assumption) (kes_stl _ _ _ _) | exact KeS.tr (by assumption) (kes_cp _ _ _ _ _ _)) (fun _ _ => ?_) | refine ke_bindV (fun _ => ?_))
set_option maxRecDepth 4000 in
theorem ke_B_X4_read_63 (k12 : Nat → Nat → Int32 → Int32 → mk_S → Option (Int32 × mk_S)) (h_k12 : ∀ (y0 : Nat) (y1 : Nat) (y2 : Int32) (y3 : Int32) (y4 : mk_S), KeP y4 (k12 y0 y1 y2 y3 y4)) (x0 : Nat) (x1 : Nat) (x3 : Int32) (t : mk_S) : KeP t (B_X4_read_63 k12 x0 x1 x3 t) := by
  have h0 : Ke t t := Ke.rf
  unfold B_X4_read_63
  repeat' (with_reducible first | exact ke_none | exact ke_some (by assumption) | exact ke_rz (by assumption) | exact KeP.tr (by assumption) (ke_B_X4_read_64 _ (by assumption) _ _ _ _ _) | exact KeP.tr (by assumption) (h_k12 _ _ _ _ _) | refine ke_ite ?_ ?_ | refine ke_gd ?_ | refine ke_bindO (by first | exact KeP.tr (by assumption) (ke_B_X4_read_64 _ (by assumption) _ _ _ _ _) | exact KeP.tr (by assumption) (h_k12 _ _ _ _ _)) (fun _ _ => ?_) | refine ke_bindS (by first | exact KeS.tr (by assumption) (kes_pi _ _ _ _ _) | exact KeS.tr (by assumption) (kes_st _ _ _ _ _) | exact KeS.tr (by assumption) (kes_stl _ _ _ _) | exact KeS.tr (by assumption) (kes_cp _ _ _ _ _ _)) (fun _ _ => ?_) | refine ke_bindV (fun _ => ?_))
set_option maxRecDepth 4000 in
theorem ke_B_X4_read_43 (k12 : Nat → Nat → Int32 → Int32 → mk_S → Option (Int32 × mk_S)) (h_k12 : ∀ (y0 : Nat) (y1 : Nat) (y2 : Int32) (y3 : Int32) (y4 : mk_S), KeP y4 (k12 y0 y1 y2 y3 y4)) (x0 : Nat) (x1 : Nat) (x3 : Int32) (t : mk_S) : KeP t (B_X4_read_43 k12 x0 x1 x3 t) := by
  have h0 : Ke t t := Ke.rf
  unfold B_X4_read_43
  repeat' (with_reducible first | exact ke_none | exact ke_some (by assumption) | exact ke_rz (by assumption) | exact KeP.tr (by assumption) (ke_F_X8_isSound _ _) | exact KeP.tr (by assumption) (ke_B_X4_read_63 _ (by assumption) _ _ _ _) | exact KeP.tr (by assumption) (ke_B_X4_read_64 _ (by assumption) _ _ _ _ _) | exact KeP.tr (by assumption) (h_k12 _ _ _ _ _) | refine ke_ite ?_ ?_ | refine ke_gd ?_ | refine ke_bindO (by first | exact KeP.tr (by assumption) (ke_F_X8_isSound _ _) | exact KeP.tr (by assumption) (ke_B_X4_read_63 _ (by assumption) _ _ _ _) | exact KeP.tr (by assumption) (ke_B_X4_read_64 _ (by assumption) _ _ _ _ _) | exact KeP.tr (by assumption) (h_k12 _ _ _ _ _)) (fun _ _ => ?_) | refine ke_bindS (by first | exact KeS.tr (by assumption) (kes_pi _ _ _ _ _) | exact KeS.tr (by assumption) (kes_st _ _ _ _ _) | exact KeS.tr (by assumption) (kes_stl _ _ _ _) | exact KeS.tr (by assumption) (kes_cp _ _ _ _ _ _)) (fun _ _ => ?_) | refine ke_bindV (fun _ => ?_))
set_option maxRecDepth 4000 in
theorem ke_B_X4_read_71 (x0 : Nat) (t : mk_S) : KeP t (B_X4_read_71 x0 t) := by
  have h0 : Ke t t := Ke.rf
  unfold B_X4_read_71
  repeat' (with_reducible first | exact ke_none | exact ke_some (by assumption) | exact ke_rz (by assumption) | exact KeP.tr (by assumption) (ke_F_X8_isSound _ _) | exact KeP.tr (by assumption) (ke_F_X8_fail _ _ _) | refine ke_ite ?_ ?_ | refine ke_gd ?_ | refine ke_bindO (by first | exact KeP.tr (by assumption) (ke_F_X8_isSound _ _) | exact KeP.tr (by assumption) (ke_F_X8_fail _ _ _)) (fun _ _ => ?_) | refine ke_bindS (by first | exact KeS.tr (by assumption) (kes_pi _ _ _ _ _) | exact KeS.tr (by assumption) (kes_st _ _ _ _ _) | exact KeS.tr (by assumption) (kes_stl _ _ _ _) | exact KeS.tr (by assumption) (kes_cp _ _ _ _ _ _)) (fun _ _ => ?_) | refine ke_bindV (fun _ => ?_))
set_option maxRecDepth 4000 in
theorem ke_B_X4_read_12 : ∀ (n : Nat) (x0 : Nat) (x1 : Nat) (x2 : Int32) (x3 : Int32) (t : mk_S), KeP t (B_X4_read_12  n x0 x1 x2 x3 t) := by
  intro n
  induction n with
  | zero =>
    intro x0 x1 x2 x3 t
    exact ke_none
  | succ n ih =>
    intro x0 x1 x2 x3 t
    have h0 : Ke t t := Ke.rf
    rw [B_X4_read_12]
    repeat' (with_reducible first | exact ke_none | exact ke_some (by assumption) | exact ke_rz (by assumption) | exact KeP.tr (by assumption) (ke_B_X4_read_71 _ _) | exact KeP.tr (by assumption) (ke_F_X8_advance _ _) | exact KeP.tr (by assumption) (ke_F_X4_readClause _ _ _ _) | exact KeP.tr (by assumption) (ke_F_X8_isSound _ _) | exact KeP.tr (by assumption) (ke_B_X4_read_43 _ (by assumption) _ _ _ _) | exact KeP.tr (by assumption) (ih _ _ _ _ _) | refine ke_ite ?_ ?_ | refine ke_gd ?_ | refine ke_bindO (by first | exact KeP.tr (by assumption) (ke_B_X4_read_71 _ _) | exact KeP.tr (by assumption) (ke_F_X8_advance _ _) | exact KeP.tr (by assumption) (ke_F_X4_readClause _ _ _ _) | exact KeP.tr (by assumption) (ke_F_X8_isSound _ _) | exact KeP.tr (by assumption) (ke_B_X4_read_43 _ (by assumption) _ _ _ _) | exact KeP.tr (by assumption) (ih _ _ _ _ _)) (fun _ _ => ?_) | refine ke_bindS (by first | exact KeS.tr (by assumption) (kes_pi _ _ _ _ _) | exact KeS.tr (by assumption) (kes_st _ _ _ _ _) | exact KeS.tr (by assumption) (kes_stl _ _ _ _) | exact KeS.tr (by assumption) (kes_cp _ _ _ _ _ _)) (fun _ _ => ?_) | refine ke_bindV (fun _ => ?_))
set_option maxRecDepth 4000 in
theorem ke_F_X4_read (x0 : Nat) (x1 : Nat) (t : mk_S) : KeP t (F_X4_read x0 x1 t) := by
  have h0 : Ke t t := Ke.rf
  unfold F_X4_read
  repeat' (with_reducible first | exact ke_none | exact ke_some (by assumption) | exact ke_rz (by assumption) | exact KeP.tr (by assumption) (ke_F_X8_open _ _) | exact KeP.tr (by assumption) (ke_F_X3_clear _ _) | exact KeP.tr (by assumption) (ke_B_X4_read_12 _ _ _ _ _ _) | refine ke_ite ?_ ?_ | refine ke_gd ?_ | refine ke_bindO (by first | exact KeP.tr (by assumption) (ke_F_X8_open _ _) | exact KeP.tr (by assumption) (ke_F_X3_clear _ _) | exact KeP.tr (by assumption) (ke_B_X4_read_12 _ _ _ _ _ _)) (fun _ _ => ?_) | refine ke_bindS (by first | exact KeS.tr (by assumption) (kes_pi _ _ _ _ _) | exact KeS.tr (by assumption) (kes_st _ _ _ _ _) | exact KeS.tr (by assumption) (kes_stl _ _ _ _) | exact KeS.tr (by assumption) (kes_cp _ _ _ _ _ _)) (fun _ _ => ?_) | refine ke_bindV (fun _ => ?_))
set_option maxRecDepth 4000 in
theorem ke_F_X5_clear (x0 : Nat) (t : mk_S) : KeP t (F_X5_clear x0 t) := by
  have h0 : Ke t t := Ke.rf
  unfold F_X5_clear
  repeat' (with_reducible first | exact ke_none | exact ke_some (by assumption) | exact ke_rz (by assumption) | refine ke_ite ?_ ?_ | refine ke_gd ?_ | refine ke_bindS (by first | exact KeS.tr (by assumption) (kes_pi _ _ _ _ _) | exact KeS.tr (by assumption) (kes_st _ _ _ _ _) | exact KeS.tr (by assumption) (kes_stl _ _ _ _) | exact KeS.tr (by assumption) (kes_cp _ _ _ _ _ _)) (fun _ _ => ?_) | refine ke_bindV (fun _ => ?_))
set_option maxRecDepth 4000 in
theorem ke_F_X5_add (x0 : Nat) (x1 : Int32) (x2 : Int32) (t : mk_S) : KeP t (F_X5_add x0 x1 x2 t) := by
  have h0 : Ke t t := Ke.rf
  unfold F_X5_add
  repeat' (with_reducible first | exact ke_none | exact ke_some (by assumption) | exact ke_rz (by assumption) | refine ke_ite ?_ ?_ | refine ke_gd ?_ | refine ke_bindS (by first | exact KeS.tr (by assumption) (kes_pi _ _ _ _ _) | exact KeS.tr (by assumption) (kes_st _ _ _ _ _) | exact KeS.tr (by assumption) (kes_stl _ _ _ _) | exact KeS.tr (by assumption) (kes_cp _ _ _ _ _ _)) (fun _ _ => ?_) | refine ke_bindV (fun _ => ?_))
set_option maxRecDepth 4000 in
theorem ke_F_X5_addClause (x0 : Nat) (x1 : Int32) (x2 : Int32) (t : mk_S) : KeP t (F_X5_addClause x0 x1 x2 t) := by
  have h0 : Ke t t := Ke.rf
  unfold F_X5_addClause
  repeat' (with_reducible first | exact ke_none | exact ke_some (by assumption) | exact ke_rz (by assumption) | refine ke_ite ?_ ?_ | refine ke_gd ?_ | refine ke_bindS (by first | exact KeS.tr (by assumption) (kes_pi _ _ _ _ _) | exact KeS.tr (by assumption) (kes_st _ _ _ _ _) | exact KeS.tr (by assumption) (kes_stl _ _ _ _) | exact KeS.tr (by assumption) (kes_cp _ _ _ _ _ _)) (fun _ _ => ?_) | refine ke_bindV (fun _ => ?_))
set_option maxRecDepth 4000 in
theorem ke_B_X6_readClause_32 (x0 : Nat) (x2 : Nat) (t : mk_S) : KeP t (B_X6_readClause_32 x0 x2 t) := by
  have h0 : Ke t t := Ke.rf
  unfold B_X6_readClause_32
  repeat' (with_reducible first | exact ke_none | exact ke_some (by assumption) | exact ke_rz (by assumption) | refine ke_ite ?_ ?_ | refine ke_gd ?_ | refine ke_bindS (by first | exact KeS.tr (by assumption) (kes_pi _ _ _ _ _) | exact KeS.tr (by assumption) (kes_st _ _ _ _ _) | exact KeS.tr (by assumption) (kes_stl _ _ _ _) | exact KeS.tr (by assumption) (kes_cp _ _ _ _ _ _)) (fun _ _ => ?_) | refine ke_bindV (fun _ => ?_))
set_option maxRecDepth 4000 in
theorem ke_F_X6_readClause (x0 : Nat) (x1 : Nat) (x2 : Nat) (t : mk_S) : KeP t (F_X6_readClause x0 x1 x2 t) := by
  have h0 : Ke t t := Ke.rf
  unfold F_X6_readClause
  repeat' (with_reducible first | exact ke_none | exact ke_some (by assumption) | exact ke_rz (by assumption) | exact KeP.tr (by assumption) (ke_B_X6_readClause_32 _ _ _) | exact KeP.tr (by assumption) (ke_F_X8_fail _ _ _) | refine ke_ite ?_ ?_ | refine ke_gd ?_ | refine ke_bindO (by first | exact KeP.tr (by assumption) (ke_B_X6_readClause_32 _ _ _) | exact KeP.tr (by assumption) (ke_F_X8_fail _ _ _)) (fun _ _ => ?_) | refine ke_bindS (by first | exact KeS.tr (by assumption) (kes_pi _ _ _ _ _) | exact KeS.tr (by assumption) (kes_st _ _ _ _ _) | exact KeS.tr (by assumption) (kes_stl _ _ _ _) | exact KeS.tr (by assumption) (kes_cp _ _ _ _ _ _)) (fun _ _ => ?_) | refine ke_bindV (fun _ => ?_))
set_option maxRecDepth 4000 in
theorem ke_F_X6_countItem (x0 : Nat) (x1 : Nat) (t : mk_S) : KeP t (F_X6_countItem x0 x1 t) := by
  have h0 : Ke t t := Ke.rf
  unfold F_X6_countItem
  repeat' (with_reducible first | exact ke_none | exact ke_some (by assumption) | exact ke_rz (by assumption) | exact KeP.tr (by assumption) (ke_F_X8_fail _ _ _) | refine ke_ite ?_ ?_ | refine ke_gd ?_ | refine ke_bindO (by first | exact KeP.tr (by assumption) (ke_F_X8_fail _ _ _)) (fun _ _ => ?_) | refine ke_bindS (by first | exact KeS.tr (by assumption) (kes_pi _ _ _ _ _) | exact KeS.tr (by assumption) (kes_st _ _ _ _ _) | exact KeS.tr (by assumption) (kes_stl _ _ _ _) | exact KeS.tr (by assumption) (kes_cp _ _ _ _ _ _)) (fun _ _ => ?_) | refine ke_bindV (fun _ => ?_))
set_option maxRecDepth 4000 in
theorem ke_B_X6_readValue_51 (x0 : Nat) (x1 : Nat) (x2 : Nat) (t : mk_S) : KeP t (B_X6_readValue_51 x0 x1 x2 t) := by
  have h0 : Ke t t := Ke.rf
  unfold B_X6_readValue_51
  repeat' (with_reducible first | exact ke_none | exact ke_some (by assumption) | exact ke_rz (by assumption) | exact KeP.tr (by assumption) (ke_F_X6_countItem _ _ _) | exact KeP.tr (by assumption) (ke_F_X5_add _ _ _ _) | refine ke_ite ?_ ?_ | refine ke_gd ?_ | refine ke_bindO (by first | exact KeP.tr (by assumption) (ke_F_X6_countItem _ _ _) | exact KeP.tr (by assumption) (ke_F_X5_add _ _ _ _)) (fun _ _ => ?_) | refine ke_bindS (by first | exact KeS.tr (by assumption) (kes_pi _ _ _ _ _) | exact KeS.tr (by assumption) (kes_st _ _ _ _ _) | exact KeS.tr (by assumption) (kes_stl _ _ _ _) | exact KeS.tr (by assumption) (kes_cp _ _ _ _ _ _)) (fun _ _ => ?_) | refine ke_bindV (fun _ => ?_))
set_option maxRecDepth 4000 in
theorem ke_B_X6_readValue_28 (x0 : Nat) (x1 : Nat) (x2 : Nat) (t : mk_S) : KeP t (B_X6_readValue_28 x0 x1 x2 t) := by
  have h0 : Ke t t := Ke.rf
  unfold B_X6_readValue_28
  repeat' (with_reducible first | exact ke_none | exact ke_some (by assumption) | exact ke_rz (by assumption) | exact KeP.tr (by assumption) (ke_F_X8_fail _ _ _) | exact KeP.tr (by assumption) (ke_B_X6_readValue_51 _ _ _ _) | refine ke_ite ?_ ?_ | refine ke_gd ?_ | refine ke_bindO (by first | exact KeP.tr (by assumption) (ke_F_X8_fail _ _ _) | exact KeP.tr (by assumption) (ke_B_X6_readValue_51 _ _ _ _)) (fun _ _ => ?_) | refine ke_bindS (by first | exact KeS.tr (by assumption) (kes_pi _ _ _ _ _) | exact KeS.tr (by assumption) (kes_st _ _ _ _ _) | exact KeS.tr (by assumption) (kes_stl _ _ _ _) | exact KeS.tr (by assumption) (kes_cp _ _ _ _ _ _)) (fun _ _ => ?_) | refine ke_bindV (fun _ => ?_))
set_option maxRecDepth 4000 in
theorem ke_F_X6_readValue (x0 : Nat) (x1 : Nat) (x2 : Nat) (t : mk_S) : KeP t (F_X6_readValue x0 x1 x2 t) := by
  have h0 : Ke t t := Ke.rf
  unfold F_X6_readValue
  repeat' (with_reducible first | exact ke_none | exact ke_some (by assumption) | exact ke_rz (by assumption) | exact KeP.tr (by assumption) (ke_B_X6_readValue_28 _ _ _ _) | exact KeP.tr (by assumption) (ke_F_X5_isWord _ _) | exact KeP.tr (by assumption) (ke_F_X8_fail _ _ _) | exact KeP.tr (by assumption) (ke_B_X6_readValue_51 _ _ _ _) | refine ke_ite ?_ ?_ | refine ke_gd ?_ | refine ke_bindO (by first | exact KeP.tr (by assumption) (ke_B_X6_readValue_28 _ _ _ _) | exact KeP.tr (by assumption) (ke_F_X5_isWord _ _) | exact KeP.tr (by assumption) (ke_F_X8_fail _ _ _) | exact KeP.tr (by assumption) (ke_B_X6_readValue_51 _ _ _ _)) (fun _ _ => ?_) | refine ke_bindS (by first | exact KeS.tr (by assumption) (kes_pi _ _ _ _ _) | exact KeS.tr (by assumption) (kes_st _ _ _ _ _) | exact KeS.tr (by assumption) (kes_stl _ _ _ _) | exact KeS.tr (by assumption) (kes_cp _ _ _ _ _ _)) (fun _ _ => ?_) | refine ke_bindV (fun _ => ?_))
set_option maxRecDepth 4000 in
theorem ke_F_X6_push (x0 : Nat) (x1 : Int32) (t : mk_S) : KeP t (F_X6_push x0 x1 t) := by
  have h0 : Ke t t := Ke.rf
  unfold F_X6_push
  repeat' (with_reducible first | exact ke_none | exact ke_some (by assumption) | exact ke_rz (by assumption) | refine ke_ite ?_ ?_ | refine ke_gd ?_ | refine ke_bindS (by first | exact KeS.tr (by assumption) (kes_pi _ _ _ _ _) | exact KeS.tr (by assumption) (kes_st _ _ _ _ _) | exact KeS.tr (by assumption) (kes_stl _ _ _ _) | exact KeS.tr (by assumption) (kes_cp _ _ _ _ _ _)) (fun _ _ => ?_) | refine ke_bindV (fun _ => ?_))
set_option maxRecDepth 4000 in
theorem ke_B_X6_readFact_33 (x0 : Nat) (x1 : Nat) (t : mk_S) : KeP t (B_X6_readFact_33 x0 x1 t) := by
  have h0 : Ke t t := Ke.rf
  unfold B_X6_readFact_33
  repeat' (with_reducible first | exact ke_none | exact ke_some (by assumption) | exact ke_rz (by assumption) | exact KeP.tr (by assumption) (ke_F_X6_push _ _ _) | exact KeP.tr (by assumption) (ke_F_X8_fail _ _ _) | refine ke_ite ?_ ?_ | refine ke_gd ?_ | refine ke_bindO (by first | exact KeP.tr (by assumption) (ke_F_X6_push _ _ _) | exact KeP.tr (by assumption) (ke_F_X8_fail _ _ _)) (fun _ _ => ?_) | refine ke_bindS (by first | exact KeS.tr (by assumption) (kes_pi _ _ _ _ _) | exact KeS.tr (by assumption) (kes_st _ _ _ _ _) | exact KeS.tr (by assumption) (kes_stl _ _ _ _) | exact KeS.tr (by assumption) (kes_cp _ _ _ _ _ _)) (fun _ _ => ?_) | refine ke_bindV (fun _ => ?_))
set_option maxRecDepth 4000 in
theorem ke_F_X6_readFact (x0 : Nat) (x1 : Nat) (x2 : Nat) (t : mk_S) : KeP t (F_X6_readFact x0 x1 x2 t) := by
  have h0 : Ke t t := Ke.rf
  unfold F_X6_readFact
  repeat' (with_reducible first | exact ke_none | exact ke_some (by assumption) | exact ke_rz (by assumption) | exact KeP.tr (by assumption) (ke_B_X6_readFact_33 _ _ _) | exact KeP.tr (by assumption) (ke_F_X6_readValue _ _ _ _) | refine ke_ite ?_ ?_ | refine ke_gd ?_ | refine ke_bindO (by first | exact KeP.tr (by assumption) (ke_B_X6_readFact_33 _ _ _) | exact KeP.tr (by assumption) (ke_F_X6_readValue _ _ _ _)) (fun _ _ => ?_) | refine ke_bindS (by first | exact KeS.tr (by assumption) (kes_pi _ _ _ _ _) | exact KeS.tr (by assumption) (kes_st _ _ _ _ _) | exact KeS.tr (by assumption) (kes_stl _ _ _ _) | exact KeS.tr (by assumption) (kes_cp _ _ _ _ _ _)) (fun _ _ => ?_) | refine ke_bindV (fun _ => ?_))
set_option maxRecDepth 4000 in
theorem ke_F_X6_bindingOf (x0 : Int32) (t : mk_S) : KeP t (F_X6_bindingOf x0 t) := by
  have h0 : Ke t t := Ke.rf
  unfold F_X6_bindingOf
  repeat' (with_reducible first | exact ke_none | exact ke_some (by assumption) | exact ke_rz (by assumption) | refine ke_ite ?_ ?_ | refine ke_gd ?_ | refine ke_bindS (by first | exact KeS.tr (by assumption) (kes_pi _ _ _ _ _) | exact KeS.tr (by assumption) (kes_st _ _ _ _ _) | exact KeS.tr (by assumption) (kes_stl _ _ _ _) | exact KeS.tr (by assumption) (kes_cp _ _ _ _ _ _)) (fun _ _ => ?_) | refine ke_bindV (fun _ => ?_))
set_option maxRecDepth 4000 in
theorem ke_B_X6_release_74 (k0 : Nat → Int32 → Nat → mk_S → Option (Unit × mk_S)) (h_k0 : ∀ (y0 : Nat) (y1 : Int32) (y2 : Nat) (y3 : mk_S), KeP y3 (k0 y0 y1 y2 y3)) (x0 : Nat) (x1 : Int32) (x2 : Nat) (s0 : Nat) (s1 : Int32) (s2 : Int32) (t : mk_S) : KeP t (B_X6_release_74 k0 x0 x1 x2 s0 s1 s2 t) := by
  have h0 : Ke t t := Ke.rf
  unfold B_X6_release_74
  repeat' (with_reducible first | exact ke_none | exact ke_some (by assumption) | exact ke_rz (by assumption) | exact KeP.tr (by assumption) (h_k0 _ _ _ _) | refine ke_ite ?_ ?_ | refine ke_gd ?_ | refine ke_bindO (by first | exact KeP.tr (by assumption) (h_k0 _ _ _ _)) (fun _ _ => ?_) | refine ke_bindS (by first | exact KeS.tr (by assumption) (kes_pi _ _ _ _ _) | exact KeS.tr (by assumption) (kes_st _ _ _ _ _) | exact KeS.tr (by assumption) (kes_stl _ _ _ _) | exact KeS.tr (by assumption) (kes_cp _ _ _ _ _ _)) (fun _ _ => ?_) | refine ke_bindV (fun _ => ?_))
set_option maxRecDepth 4000 in
theorem ke_B_X6_release_0 : ∀ (n : Nat) (x0 : Nat) (x1 : Int32) (x2 : Nat) (t : mk_S), KeP t (B_X6_release_0  n x0 x1 x2 t) := by
  intro n
  induction n with
  | zero =>
    intro x0 x1 x2 t
    exact ke_none
  | succ n ih =>
    intro x0 x1 x2 t
    have h0 : Ke t t := Ke.rf
    rw [B_X6_release_0]
    repeat' (with_reducible first | exact ke_none | exact ke_some (by assumption) | exact ke_rz (by assumption) | exact KeP.tr (by assumption) (ke_F_X6_bindingOf _ _) | exact KeP.tr (by assumption) (ke_F_X5_add _ _ _ _) | exact KeP.tr (by assumption) (ke_B_X6_release_74 _ (by assumption) _ _ _ _ _ _ _) | exact KeP.tr (by assumption) (ih _ _ _ _) | refine ke_ite ?_ ?_ | refine ke_gd ?_ | refine ke_bindO (by first | exact KeP.tr (by assumption) (ke_F_X6_bindingOf _ _) | exact KeP.tr (by assumption) (ke_F_X5_add _ _ _ _) | exact KeP.tr (by assumption) (ke_B_X6_release_74 _ (by assumption) _ _ _ _ _ _ _) | exact KeP.tr (by assumption) (ih _ _ _ _)) (fun _ _ => ?_) | refine ke_bindS (by first | exact KeS.tr (by assumption) (kes_pi _ _ _ _ _) | exact KeS.tr (by assumption) (kes_st _ _ _ _ _) | exact KeS.tr (by assumption) (kes_stl _ _ _ _) | exact KeS.tr (by assumption) (kes_cp _ _ _ _ _ _)) (fun _ _ => ?_) | refine ke_bindV (fun _ => ?_))
set_option maxRecDepth 4000 in
theorem ke_F_X6_release (x0 : Nat) (x1 : Int32) (x2 : Nat) (t : mk_S) : KeP t (F_X6_release x0 x1 x2 t) := by
  have h0 : Ke t t := Ke.rf
  unfold F_X6_release
  repeat' (with_reducible first | exact ke_none | exact ke_some (by assumption) | exact ke_rz (by assumption) | exact KeP.tr (by assumption) (ke_B_X6_release_0 _ _ _ _ _) | refine ke_ite ?_ ?_ | refine ke_gd ?_ | refine ke_bindO (by first | exact KeP.tr (by assumption) (ke_B_X6_release_0 _ _ _ _ _)) (fun _ _ => ?_) | refine ke_bindS (by first | exact KeS.tr (by assumption) (kes_pi _ _ _ _ _) | exact KeS.tr (by assumption) (kes_st _ _ _ _ _) | exact KeS.tr (by assumption) (kes_stl _ _ _ _) | exact KeS.tr (by assumption) (kes_cp _ _ _ _ _ _)) (fun _ _ => ?_) | refine ke_bindV (fun _ => ?_))
set_option maxRecDepth 4000 in
theorem ke_F_X6_join (x0 : Nat) (x1 : Int32) (x2 : Nat) (t : mk_S) : KeP t (F_X6_join x0 x1 x2 t) := by
  have h0 : Ke t t := Ke.rf
  unfold F_X6_join
  repeat' (with_reducible first | exact ke_none | exact ke_some (by assumption) | exact ke_rz (by assumption) | exact KeP.tr (by assumption) (ke_F_X6_bindingOf _ _) | exact KeP.tr (by assumption) (ke_F_X6_release _ _ _ _) | exact KeP.tr (by assumption) (ke_F_X6_push _ _ _) | refine ke_ite ?_ ?_ | refine ke_gd ?_ | refine ke_bindO (by first | exact KeP.tr (by assumption) (ke_F_X6_bindingOf _ _) | exact KeP.tr (by assumption) (ke_F_X6_release _ _ _ _) | exact KeP.tr (by assumption) (ke_F_X6_push _ _ _)) (fun _ _ => ?_) | refine ke_bindS (by first | exact KeS.tr (by assumption) (kes_pi _ _ _ _ _) | exact KeS.tr (by assumption) (kes_st _ _ _ _ _) | exact KeS.tr (by assumption) (kes_stl _ _ _ _) | exact KeS.tr (by assumption) (kes_cp _ _ _ _ _ _)) (fun _ _ => ?_) | refine ke_bindV (fun _ => ?_))
set_option maxRecDepth 4000 in
theorem ke_F_X6_closeBracket (x0 : Nat) (x1 : Nat) (x2 : Nat) (t : mk_S) : KeP t (F_X6_closeBracket x0 x1 x2 t) := by
  have h0 : Ke t t := Ke.rf
  unfold F_X6_closeBracket
  repeat' (with_reducible first | exact ke_none | exact ke_some (by assumption) | exact ke_rz (by assumption) | exact KeP.tr (by assumption) (ke_F_X6_release _ _ _ _) | exact KeP.tr (by assumption) (ke_F_X8_fail _ _ _) | refine ke_ite ?_ ?_ | refine ke_gd ?_ | refine ke_bindO (by first | exact KeP.tr (by assumption) (ke_F_X6_release _ _ _ _) | exact KeP.tr (by assumption) (ke_F_X8_fail _ _ _)) (fun _ _ => ?_) | refine ke_bindS (by first | exact KeS.tr (by assumption) (kes_pi _ _ _ _ _) | exact KeS.tr (by assumption) (kes_st _ _ _ _ _) | exact KeS.tr (by assumption) (kes_stl _ _ _ _) | exact KeS.tr (by assumption) (kes_cp _ _ _ _ _ _)) (fun _ _ => ?_) | refine ke_bindV (fun _ => ?_))
set_option maxRecDepth 4000 in
theorem ke_B_X6_closeClause_41 (x0 : Nat) (x1 : Nat) (s0 : Nat) (s1 : Int32) (s2 : Int32) (t : mk_S) : KeP t (B_X6_closeClause_41 x0 x1 s0 s1 s2 t) := by
  have h0 : Ke t t := Ke.rf
  unfold B_X6_closeClause_41
  repeat' (with_reducible first | exact ke_none | exact ke_some (by assumption) | exact ke_rz (by assumption) | exact KeP.tr (by assumption) (ke_F_X5_addClause _ _ _ _) | refine ke_ite ?_ ?_ | refine ke_gd ?_ | refine ke_bindO (by first | exact KeP.tr (by assumption) (ke_F_X5_addClause _ _ _ _)) (fun _ _ => ?_) | refine ke_bindS (by first | exact KeS.tr (by assumption) (kes_pi _ _ _ _ _) | exact KeS.tr (by assumption) (kes_st _ _ _ _ _) | exact KeS.tr (by assumption) (kes_stl _ _ _ _) | exact KeS.tr (by assumption) (kes_cp _ _ _ _ _ _)) (fun _ _ => ?_) | refine ke_bindV (fun _ => ?_))
set_option maxRecDepth 4000 in
theorem ke_B_X6_closeClause_18 (x0 : Nat) (x1 : Nat) (x2 : Nat) (t : mk_S) : KeP t (B_X6_closeClause_18 x0 x1 x2 t) := by
  have h0 : Ke t t := Ke.rf
  unfold B_X6_closeClause_18
  repeat' (with_reducible first | exact ke_none | exact ke_some (by assumption) | exact ke_rz (by assumption) | exact KeP.tr (by assumption) (ke_B_X6_closeClause_41 _ _ _ _ _ _) | refine ke_ite ?_ ?_ | refine ke_gd ?_ | refine ke_bindO (by first | exact KeP.tr (by assumption) (ke_B_X6_closeClause_41 _ _ _ _ _ _)) (fun _ _ => ?_) | refine ke_bindS (by first | exact KeS.tr (by assumption) (kes_pi _ _ _ _ _) | exact KeS.tr (by assumption) (kes_st _ _ _ _ _) | exact KeS.tr (by assumption) (kes_stl _ _ _ _) | exact KeS.tr (by assumption) (kes_cp _ _ _ _ _ _)) (fun _ _ => ?_) | refine ke_bindV (fun _ => ?_))
set_option maxRecDepth 4000 in
theorem ke_F_X6_closeClause (x0 : Nat) (x1 : Nat) (x2 : Nat) (t : mk_S) : KeP t (F_X6_closeClause x0 x1 x2 t) := by
  have h0 : Ke t t := Ke.rf
  unfold F_X6_closeClause
  repeat' (with_reducible first | exact ke_none | exact ke_some (by assumption) | exact ke_rz (by assumption) | exact KeP.tr (by assumption) (ke_F_X6_release _ _ _ _) | exact KeP.tr (by assumption) (ke_B_X6_closeClause_18 _ _ _ _) | exact KeP.tr (by assumption) (ke_F_X8_fail _ _ _) | refine ke_ite ?_ ?_ | refine ke_gd ?_ | refine ke_bindO (by first | exact KeP.tr (by assumption) (ke_F_X6_release _ _ _ _) | exact KeP.tr (by assumption) (ke_B_X6_closeClause_18 _ _ _ _) | exact KeP.tr (by assumption) (ke_F_X8_fail _ _ _)) (fun _ _ => ?_) | refine ke_bindS (by first | exact KeS.tr (by assumption) (kes_pi _ _ _ _ _) | exact KeS.tr (by assumption) (kes_st _ _ _ _ _) | exact KeS.tr (by assumption) (kes_stl _ _ _ _) | exact KeS.tr (by assumption) (kes_cp _ _ _ _ _ _)) (fun _ _ => ?_) | refine ke_bindV (fun _ => ?_))
set_option maxRecDepth 4000 in
theorem ke_B_X6_readBehind_212 (x1 : Nat) (t : mk_S) : KeP t (B_X6_readBehind_212 x1 t) := by
  have h0 : Ke t t := Ke.rf
  unfold B_X6_readBehind_212
  repeat' (with_reducible first | exact ke_none | exact ke_some (by assumption) | exact ke_rz (by assumption) | exact KeP.tr (by assumption) (ke_F_X8_fail _ _ _) | refine ke_ite ?_ ?_ | refine ke_gd ?_ | refine ke_bindO (by first | exact KeP.tr (by assumption) (ke_F_X8_fail _ _ _)) (fun _ _ => ?_) | refine ke_bindS (by first | exact KeS.tr (by assumption) (kes_pi _ _ _ _ _) | exact KeS.tr (by assumption) (kes_st _ _ _ _ _) | exact KeS.tr (by assumption) (kes_stl _ _ _ _) | exact KeS.tr (by assumption) (kes_cp _ _ _ _ _ _)) (fun _ _ => ?_) | refine ke_bindV (fun _ => ?_))
set_option maxRecDepth 4000 in
theorem ke_B_X6_readBehind_190 (x0 : Nat) (x1 : Nat) (x2 : Nat) (x5 : Int32) (t : mk_S) : KeP t (B_X6_readBehind_190 x0 x1 x2 x5 t) := by
  have h0 : Ke t t := Ke.rf
  unfold B_X6_readBehind_190
  repeat' (with_reducible first | exact ke_none | exact ke_some (by assumption) | exact ke_rz (by assumption) | exact KeP.tr (by assumption) (ke_B_X6_readBehind_212 _ _) | exact KeP.tr (by assumption) (ke_F_X6_closeClause _ _ _ _) | refine ke_ite ?_ ?_ | refine ke_gd ?_ | refine ke_bindO (by first | exact KeP.tr (by assumption) (ke_B_X6_readBehind_212 _ _) | exact KeP.tr (by assumption) (ke_F_X6_closeClause _ _ _ _)) (fun _ _ => ?_) | refine ke_bindS (by first | exact KeS.tr (by assumption) (kes_pi _ _ _ _ _) | exact KeS.tr (by assumption) (kes_st _ _ _ _ _) | exact KeS.tr (by assumption) (kes_stl _ _ _ _) | exact KeS.tr (by assumption) (kes_cp _ _ _ _ _ _)) (fun _ _ => ?_) | refine ke_bindV (fun _ => ?_))
set_option maxRecDepth 4000 in
theorem ke_B_X6_readBehind_154 (x0 : Nat) (x1 : Nat) (x2 : Nat) (x3 : Int32) (x5 : Int32) (t : mk_S) : KeP t (B_X6_readBehind_154 x0 x1 x2 x3 x5 t) := by
  have h0 : Ke t t := Ke.rf
  unfold B_X6_readBehind_154
  repeat' (with_reducible first | exact ke_none | exact ke_some (by assumption) | exact ke_rz (by assumption) | exact KeP.tr (by assumption) (ke_F_X6_release _ _ _ _) | exact KeP.tr (by assumption) (ke_B_X6_readBehind_190 _ _ _ _ _) | refine ke_ite ?_ ?_ | refine ke_gd ?_ | refine ke_bindO (by first | exact KeP.tr (by assumption) (ke_F_X6_release _ _ _ _) | exact KeP.tr (by assumption) (ke_B_X6_readBehind_190 _ _ _ _ _)) (fun _ _ => ?_) | refine ke_bindS (by first | exact KeS.tr (by assumption) (kes_pi _ _ _ _ _) | exact KeS.tr (by assumption) (kes_st _ _ _ _ _) | exact KeS.tr (by assumption) (kes_stl _ _ _ _) | exact KeS.tr (by assumption) (kes_cp _ _ _ _ _ _)) (fun _ _ => ?_) | refine ke_bindV (fun _ => ?_))
set_option maxRecDepth 4000 in
theorem ke_B_X6_readBehind_131 (x0 : Nat) (x1 : Nat) (x2 : Nat) (x3 : Int32) (x5 : Int32) (t : mk_S) : KeP t (B_X6_readBehind_131 x0 x1 x2 x3 x5 t) := by
  have h0 : Ke t t := Ke.rf
  unfold B_X6_readBehind_131
  repeat' (with_reducible first | exact ke_none | exact ke_some (by assumption) | exact ke_rz (by assumption) | exact KeP.tr (by assumption) (ke_B_X6_readBehind_154 _ _ _ _ _ _) | exact KeP.tr (by assumption) (ke_F_X6_closeBracket _ _ _ _) | refine ke_ite ?_ ?_ | refine ke_gd ?_ | refine ke_bindO (by first | exact KeP.tr (by assumption) (ke_B_X6_readBehind_154 _ _ _ _ _ _) | exact KeP.tr (by assumption) (ke_F_X6_closeBracket _ _ _ _)) (fun _ _ => ?_) | refine ke_bindS (by first | exact KeS.tr (by assumption) (kes_pi _ _ _ _ _) | exact KeS.tr (by assumption) (kes_st _ _ _ _ _) | exact KeS.tr (by assumption) (kes_stl _ _ _ _) | exact KeS.tr (by assumption) (kes_cp _ _ _ _ _ _)) (fun _ _ => ?_) | refine ke_bindV (fun _ => ?_))
set_option maxRecDepth 4000 in
theorem ke_B_X6_readBehind_109 (x0 : Nat) (x1 : Nat) (x2 : Nat) (x3 : Int32) (x5 : Int32) (t : mk_S) : KeP t (B_X6_readBehind_109 x0 x1 x2 x3 x5 t) := by
  have h0 : Ke t t := Ke.rf
  unfold B_X6_readBehind_109
  repeat' (with_reducible first | exact ke_none | exact ke_some (by assumption) | exact ke_rz (by assumption) | exact KeP.tr (by assumption) (ke_B_X6_readBehind_131 _ _ _ _ _ _) | exact KeP.tr (by assumption) (ke_F_X6_join _ _ _ _) | refine ke_ite ?_ ?_ | refine ke_gd ?_ | refine ke_bindO (by first | exact KeP.tr (by assumption) (ke_B_X6_readBehind_131 _ _ _ _ _ _) | exact KeP.tr (by assumption) (ke_F_X6_join _ _ _ _)) (fun _ _ => ?_) | refine ke_bindS (by first | exact KeS.tr (by assumption) (kes_pi _ _ _ _ _) | exact KeS.tr (by assumption) (kes_st _ _ _ _ _) | exact KeS.tr (by assumption) (kes_stl _ _ _ _) | exact KeS.tr (by assumption) (kes_cp _ _ _ _ _ _)) (fun _ _ => ?_) | refine ke_bindV (fun _ => ?_))
set_option maxRecDepth 4000 in
theorem ke_B_X6_readBehind_95 (x0 : Nat) (x1 : Nat) (x2 : Nat) (x3 : Int32) (x5 : Int32) (t : mk_S) : KeP t (B_X6_readBehind_95 x0 x1 x2 x3 x5 t) := by
  have h0 : Ke t t := Ke.rf
  unfold B_X6_readBehind_95
  repeat' (with_reducible first | exact ke_none | exact ke_some (by assumption) | exact ke_rz (by assumption) | exact KeP.tr (by assumption) (ke_B_X6_readBehind_109 _ _ _ _ _ _) | exact KeP.tr (by assumption) (ke_B_X6_readBehind_131 _ _ _ _ _ _) | refine ke_ite ?_ ?_ | refine ke_gd ?_ | refine ke_bindO (by first | exact KeP.tr (by assumption) (ke_B_X6_readBehind_109 _ _ _ _ _ _) | exact KeP.tr (by assumption) (ke_B_X6_readBehind_131 _ _ _ _ _ _)) (fun _ _ => ?_) | refine ke_bindS (by first | exact KeS.tr (by assumption) (kes_pi _ _ _ _ _) | exact KeS.tr (by assumption) (kes_st _ _ _ _ _) | exact KeS.tr (by assumption) (kes_stl _ _ _ _) | exact KeS.tr (by assumption) (kes_cp _ _ _ _ _ _)) (fun _ _ => ?_) | refine ke_bindV (fun _ => ?_))
set_option maxRecDepth 4000 in
theorem ke_B_X6_readBehind_57 (x0 : Nat) (x1 : Nat) (x2 : Nat) (x3 : Int32) (x4 : Int32) (x5 : Int32) (t : mk_S) : KeP t (B_X6_readBehind_57 x0 x1 x2 x3 x4 x5 t) := by
  have h0 : Ke t t := Ke.rf
  unfold B_X6_readBehind_57
  repeat' (with_reducible first | exact ke_none | exact ke_some (by assumption) | exact ke_rz (by assumption) | exact KeP.tr (by assumption) (ke_F_X6_countItem _ _ _) | exact KeP.tr (by assumption) (ke_F_X6_join _ _ _ _) | exact KeP.tr (by assumption) (ke_B_X6_readBehind_95 _ _ _ _ _ _) | refine ke_ite ?_ ?_ | refine ke_gd ?_ | refine ke_bindO (by first | exact KeP.tr (by assumption) (ke_F_X6_countItem _ _ _) | exact KeP.tr (by assumption) (ke_F_X6_join _ _ _ _) | exact KeP.tr (by assumption) (ke_B_X6_readBehind_95 _ _ _ _ _ _)) (fun _ _ => ?_) | refine ke_bindS (by first | exact KeS.tr (by assumption) (kes_pi _ _ _ _ _) | exact KeS.tr (by assumption) (kes_st _ _ _ _ _) | exact KeS.tr (by assumption) (kes_stl _ _ _ _) | exact KeS.tr (by assumption) (kes_cp _ _ _ _ _ _)) (fun _ _ => ?_) | refine ke_bindV (fun _ => ?_))
set_option maxRecDepth 4000 in
theorem ke_B_X6_readBehind_27 (x0 : Nat) (x1 : Nat) (x2 : Nat) (x3 : Int32) (x4 : Int32) (s0 : Int32) (t : mk_S) : KeP t (B_X6_readBehind_27 x0 x1 x2 x3 x4 s0 t) := by
  have h0 : Ke t t := Ke.rf
  unfold B_X6_readBehind_27
  repeat' (with_reducible first | exact ke_none | exact ke_some (by assumption) | exact ke_rz (by assumption) | exact KeP.tr (by assumption) (ke_B_X6_readBehind_57 _ _ _ _ _ _ _) | exact KeP.tr (by assumption) (ke_F_X6_join _ _ _ _) | refine ke_ite ?_ ?_ | refine ke_gd ?_ | refine ke_bindO (by first | exact KeP.tr (by assumption) (ke_B_X6_readBehind_57 _ _ _ _ _ _ _) | exact KeP.tr (by assumption) (ke_F_X6_join _ _ _ _)) (fun _ _ => ?_) | refine ke_bindS (by first | exact KeS.tr (by assumption) (kes_pi _ _ _ _ _) | exact KeS.tr (by assumption) (kes_st _ _ _ _ _) | exact KeS.tr (by assumption) (kes_stl _ _ _ _) | exact KeS.tr (by assumption) (kes_cp _ _ _ _ _ _)) (fun _ _ => ?_) | refine ke_bindV (fun _ => ?_))
