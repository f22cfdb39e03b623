def R_law : String := "WhimWindLaw"
def lw_P (b : Addr) (xs : List Int32) (args : Array Value) (s : State) : Prop := args = #[.ref b] ∧ s.IntsAt b xs ∧ xs.length ≤ 3072 ∧ (Jvm.Cond.and given_1 narrow_1).before args s = true
def lw_Q (_ : Array Value) (s : State) (o : Outcome) (t : State) : Prop := o = .returned (some (.int 1)) ∧ Framed s o t [] 600000 7302250
def lw_Z (below : List Frame) (a : Array Value) (s : State) : State → Prop := fun t => ∃ o, t.status = .running ∧ Ended t below o ∧ lw_Q a s o t
/-- the law's own end, with 1 on the stack, nothing written that was there before, its room as the claim has it -/
theorem lw_ret {p : Program} {l : Launch} {e : Env} {s : State} {m : MethodId} {below : List Frame} {meth : Method} {c : Code} {b : Nat} (hx : p.tables.exec = Jvm.exec) (hb : c.code = code) (hr : meth.sig.returnType = ret) (hlocks : meth.locks = false) {pc : Nat} {H : Heap} {ls : Array Slot} (hdg : decode code pc = .ok (.ireturn, 1)) : W p l e room_1 s m #[Value.ref b] below meth c H [] 600000 7302250 (lw_Z below #[Value.ref b] s) (F0 m pc ls [.int 1]) := by
  intro T hT X
  obtain ⟨fs, hret, hrun, hended, hW, hframe⟩ := X.leave (v := some (.int 1)) (hlocks := hlocks) (fun h => by rw [hr] at h; cases h)
  have hmeth' : T.vm.method? m = some meth := X.method'
  refine ⟨T.setFrames fs, ?_, .returned (some (.int 1)), hrun, hended, rfl, ⟨_, rfl⟩, hW, hframe⟩
  jvm_step X.here [X.here.top, hx, hb, hdg, hmeth', hr, ret, narrow_b1]
  (try refine ⟨rfl, ?_⟩); (try refine ⟨rfl, ?_⟩)
  first | (intro acts; rw [hret _ acts rfl rfl rfl]) | rw [hret _ _ rfl rfl rfl]
  exact Steps.refl _
/-- what holds at the law's entry: the machine, the code, the tables' words (any of lw_tbl by 'hts w (by decide +kernel)'), the script of L ints xs at the cell b, what the Statement gives of the start (any of its parts by flat_of_before) -/
def lw_At (p : Program) (s : State) (m : MethodId) (meth : Method) (c : Code) (b L : Nat) (xs : Nat → Int32) : Prop :=
  p.tables.exec = Jvm.exec ∧ c.code = code ∧ meth.sig.returnType = ret ∧ c.maxLocals = 4 ∧ s.vm.findClass R_law = some m.cls ∧ (∀ w ∈ lw_tbl, w.before #[Value.ref b] s = true) ∧ va_X b L xs s s.heap ∧ b < s.heap.size ∧ meth.locks = false ∧ (Jvm.Cond.and given_1 narrow_1).before #[Value.ref b] s = true

/-- the arrays from outside: the tables of steps, the script (length first) -/
def law_g (L : Nat) (xs : Nat → Int32) : Nat → Nat → Int32 := fun a j =>
  if a = 2000000 then (match j with | 0 => 4 | 1 => -1 | 2 => 0 | 3 => 1 | 4 => 0 | _ => 0)
  else if a = 2000001 then (match j with | 0 => 4 | 1 => 0 | 2 => 1 | 3 => 0 | 4 => -1 | _ => 0)
  else if a = 3000000 then (match j with | 0 => Int32.ofNat L | k + 1 => xs k)
  else 0
def law_t0 (L : Nat) (xs : Nat → Int32) : mk_S := ([], law_g L xs, fun _ _ => 0)
theorem nr_mem {b : Nat} {s : State} (hgv : (Jvm.Cond.and given_1 narrow_1).before #[Value.ref b] s = true) {i : Nat} {w : Cond} (h : (flatC narrow_1)[i]? = some w) : w.before #[Value.ref b] s = true :=
  flat_of_before _ hgv w (List.mem_append_right _ (List.mem_of_getElem? h))
theorem st_cls {b : Nat} {s : State} (hts : ∀ w ∈ lw_tbl, w.before #[Value.ref b] s = true) : ∃ D : va_G, ∀ (k : Nat) (q : vw_C), vwCl[k]? = some q → u_Kn s q.1 q.2.1 q.2.2 (D.1 k) (D.2 k) := by
  have key : ∀ k : Nat, ∃ x : ClassId × (Nat → Nat), ∀ q : vw_C, vwCl[k]? = some q → u_Kn s q.1 q.2.1 q.2.2 x.1 x.2 := by
    intro k
    match k with
    | 0 =>
      obtain ⟨c, iS, h⟩ := u_known (C := RX0) (T := TX0) (N := 3) (n := 3) hts (fun w hw => by obtain ⟨k, hk, e⟩ := List.mem_map.mp hw; rw [← e]; exact (List.mem_filter.mp (cw_0 k (List.mem_range.mp hk))).1) (hts _ (List.mem_filter.mp (mk_w2 (i := 9) rfl rfl)).1)
      exact ⟨(c, iS), fun q hq => by cases hq; exact h⟩
    | 1 =>
      obtain ⟨c, iS, h⟩ := u_known (C := RX1) (T := TX1) (N := 4) (n := 4) hts (fun w hw => by obtain ⟨k, hk, e⟩ := List.mem_map.mp hw; rw [← e]; exact (List.mem_filter.mp (cw_1 k (List.mem_range.mp hk))).1) (hts _ (List.mem_filter.mp (mk_w2 (i := 29) rfl rfl)).1)
      exact ⟨(c, iS), fun q hq => by cases hq; exact h⟩
    | 2 =>
      obtain ⟨c, iS, h⟩ := u_known (C := RX2) (T := TX2) (N := 14) (n := 14) hts (fun w hw => by obtain ⟨k, hk, e⟩ := List.mem_map.mp hw; rw [← e]; exact (List.mem_filter.mp (cw_2 k (List.mem_range.mp hk))).1) (hts _ (List.mem_filter.mp (mk_w1 (i := 176) rfl rfl)).1)
      exact ⟨(c, iS), fun q hq => by cases hq; exact h⟩
    | 3 =>
      obtain ⟨c, iS, h⟩ := u_known (C := RX3) (T := TX3) (N := 12) (n := 12) hts (fun w hw => by obtain ⟨k, hk, e⟩ := List.mem_map.mp hw; rw [← e]; exact (List.mem_filter.mp (cw_3 k (List.mem_range.mp hk))).1) (hts _ (List.mem_filter.mp (mk_w1 (i := 98) rfl rfl)).1)
      exact ⟨(c, iS), fun q hq => by cases hq; exact h⟩
    | 4 =>
      obtain ⟨c, iS, h⟩ := u_known (C := RX5) (T := TX5) (N := 8) (n := 8) hts (fun w hw => by obtain ⟨k, hk, e⟩ := List.mem_map.mp hw; rw [← e]; exact (List.mem_filter.mp (cw_4 k (List.mem_range.mp hk))).1) (hts _ (List.mem_filter.mp (mk_w2 (i := 96) rfl rfl)).1)
      exact ⟨(c, iS), fun q hq => by cases hq; exact h⟩
    | 5 =>
      obtain ⟨c, iS, h⟩ := u_known (C := RX6) (T := TX6) (N := 8) (n := 8) hts (fun w hw => by obtain ⟨k, hk, e⟩ := List.mem_map.mp hw; rw [← e]; exact (List.mem_filter.mp (cw_5 k (List.mem_range.mp hk))).1) (hts _ (List.mem_filter.mp (mk_w1 (i := 67) rfl rfl)).1)
      exact ⟨(c, iS), fun q hq => by cases hq; exact h⟩
    | 6 =>
      obtain ⟨c, iS, h⟩ := u_known (C := RX7) (T := TX7) (N := 9) (n := 9) hts (fun w hw => by obtain ⟨k, hk, e⟩ := List.mem_map.mp hw; rw [← e]; exact (List.mem_filter.mp (cw_6 k (List.mem_range.mp hk))).1) (hts _ (List.mem_filter.mp (mk_w1 (i := 190) rfl rfl)).1)
      exact ⟨(c, iS), fun q hq => by cases hq; exact h⟩
    | 7 =>
      obtain ⟨c, iS, h⟩ := u_known (C := RX8) (T := TX8) (N := 7) (n := 7) hts (fun w hw => by obtain ⟨k, hk, e⟩ := List.mem_map.mp hw; rw [← e]; exact (List.mem_filter.mp (cw_7 k (List.mem_range.mp hk))).1) (hts _ (List.mem_filter.mp (mk_w1 (i := 31) rfl rfl)).1)
      exact ⟨(c, iS), fun q hq => by cases hq; exact h⟩
    | 8 =>
      obtain ⟨c, iS, h⟩ := u_known (C := RX9) (T := TX9) (N := 1) (n := 1) hts (fun w hw => by obtain ⟨k, hk, e⟩ := List.mem_map.mp hw; rw [← e]; exact (List.mem_filter.mp (cw_8 k (List.mem_range.mp hk))).1) (hts _ (List.mem_filter.mp (mk_w2 (i := 82) rfl rfl)).1)
      exact ⟨(c, iS), fun q hq => by cases hq; exact h⟩
    | 9 =>
      obtain ⟨c, iS, h⟩ := u_known (C := RX10) (T := TX10) (N := 6) (n := 6) hts (fun w hw => by obtain ⟨k, hk, e⟩ := List.mem_map.mp hw; rw [← e]; exact (List.mem_filter.mp (cw_9 k (List.mem_range.mp hk))).1) (hts _ (List.mem_filter.mp (mk_w1 (i := 182) rfl rfl)).1)
      exact ⟨(c, iS), fun q hq => by cases hq; exact h⟩
    | 10 =>
      obtain ⟨c, iS, h⟩ := u_known (C := RX11) (T := TX11) (N := 7) (n := 7) hts (fun w hw => by obtain ⟨k, hk, e⟩ := List.mem_map.mp hw; rw [← e]; exact (List.mem_filter.mp (cw_10 k (List.mem_range.mp hk))).1) (hts _ (List.mem_filter.mp (mk_w1 (i := 23) rfl rfl)).1)
      exact ⟨(c, iS), fun q hq => by cases hq; exact h⟩
    | 11 =>
      obtain ⟨c, iS, h⟩ := u_known (C := RX12) (T := TX12) (N := 64) (n := 64) hts (fun w hw => by obtain ⟨k, hk, e⟩ := List.mem_map.mp hw; rw [← e]; exact (List.mem_filter.mp (cw_11 k (List.mem_range.mp hk))).1) (hts _ (List.mem_filter.mp (mk_w5 (i := 163) rfl rfl)).1)
      exact ⟨(c, iS), fun q hq => by cases hq; exact h⟩
    | k + 12 => exact ⟨(0, fun _ => 0), fun q hq => by simp [vwCl] at hq⟩
  obtain ⟨f, hf⟩ := Classical.axiomOfChoice key
  exact ⟨(fun k => (f k).1, fun k => (f k).2), fun k q hq => hf k q hq⟩
theorem st_arr {b : Nat} {s : State} (hts : ∀ w ∈ lw_tbl, w.before #[Value.ref b] s = true) : ∃ ac : Nat → ClassId, ∀ (k : Nat) (q : ClassId × FieldType), (mk_tys ac)[k]? = some q → ArrOfT s q.1 q.2 ∧ va_RA s q.1 q.2 := by
  have key : ∀ j : Nat, ∃ cA : ClassId, j < 8 → ArrOfT s cA (mk_aty j) ∧ va_RA s cA (mk_aty j) := by
    intro j
    match j with
    | 0 =>
      obtain ⟨c, k, comp, h1, h2, h3⟩ := Cond.arrayClass_spec (hts _ (List.mem_filter.mp (mk_w1 (i := 65) rfl rfl)).1)
      exact ⟨c, fun _ => ⟨fun n z => ⟨fun k h => (by cases h), k, h2, comp, h3⟩, h1⟩⟩
    | 1 =>
      obtain ⟨c, k, comp, h1, h2, h3⟩ := Cond.arrayClass_spec (hts _ (List.mem_filter.mp (mk_w2 (i := 91) rfl rfl)).1)
      exact ⟨c, fun _ => ⟨fun n z => ⟨fun k h => (by cases h), k, h2, comp, h3⟩, h1⟩⟩
    | 2 =>
      obtain ⟨c, k, comp, h1, h2, h3⟩ := Cond.arrayClass_spec (hts _ (List.mem_filter.mp (mk_w3 (i := 148) rfl rfl)).1)
      exact ⟨c, fun _ => ⟨fun n z => ⟨fun k h => (by cases h), k, h2, comp, h3⟩, h1⟩⟩
    | 3 =>
      obtain ⟨c, k, comp, h1, h2, h3⟩ := Cond.arrayClass_spec (hts _ (List.mem_filter.mp (mk_w2 (i := 200) rfl rfl)).1)
      exact ⟨c, fun _ => ⟨fun n z => ⟨fun k h => (by cases h), k, h2, comp, h3⟩, h1⟩⟩
    | 4 =>
      obtain ⟨comp, c, k, h1, -, h2, h3, h4⟩ := Cond.arrayOver_spec (hts _ (mk_in2 (List.mem_of_getElem? (i := 15) rfl)))
      exact ⟨c, fun _ => ⟨fun n z => ⟨fun k h => (by cases h), k, h2, comp, h3⟩, k, comp, h2, h3, h1, h4⟩⟩
    | 5 =>
      obtain ⟨comp, c, k, h1, -, h2, h3, h4⟩ := Cond.arrayOver_spec (hts _ (mk_in2 (List.mem_of_getElem? (i := 80) rfl)))
      exact ⟨c, fun _ => ⟨fun n z => ⟨fun k h => (by cases h), k, h2, comp, h3⟩, k, comp, h2, h3, h1, h4⟩⟩
    | 6 =>
      obtain ⟨comp, c, k, h1, -, h2, h3, h4⟩ := Cond.arrayOver_spec (hts _ (mk_in2 (List.mem_of_getElem? (i := 176) rfl)))
      exact ⟨c, fun _ => ⟨fun n z => ⟨fun k h => (by cases h), k, h2, comp, h3⟩, k, comp, h2, h3, h1, h4⟩⟩
    | 7 =>
      obtain ⟨comp, c, k, h1, h2, h3, h4⟩ := Cond.arrayOver_specA (hts _ (mk_in2 (List.mem_of_getElem? (i := 95) rfl)))
      exact ⟨c, fun _ => ⟨fun n z => ⟨fun k h => (by cases h), k, h2, comp, h3⟩, h4⟩⟩
    | j + 8 => exact ⟨0, fun h => absurd h (by omega)⟩
  obtain ⟨ac, hac⟩ := Classical.axiomOfChoice key
  refine ⟨ac, fun k q hq => ?_⟩
  have hk : k < 8 := by have := (List.getElem?_eq_some_iff.mp hq).1; simpa [mk_tys] using this
  rw [mk_tys_at ac hk] at hq
  cases hq
  exact hac k hk
theorem st_str {b : Nat} {s : State} {A : Nat → Prop} (hA : ∀ a : Nat, a < s.heap.size → ¬ A a) (hts : ∀ w ∈ lw_tbl, w.before #[Value.ref b] s = true) (hgv : (Jvm.Cond.and given_1 narrow_1).before #[Value.ref b] s = true) : ∃ aS : Nat → Nat × Nat, ∀ i, i < 41 → vk_S 1 [(mk_str i).2.2.2.length] [(mk_str i).2.2.2] (fun _ => (aS i).1) (fun _ => (aS i).2) A s s.heap ∧ vk_R (mk_str i).1 (mk_str i).2.1 (mk_str i).2.2.1 (aS i).1 s := by
  have mk1 : ∀ (own : String) (k : Nat) (tx : String) (bs : List Int32), bs.length < 2 ^ 31 → (Cond.stringRef own k tx).before #[Value.ref b] s = true → (Cond.exactly (Term.string own k) "java/lang/String").before #[Value.ref b] s = true → (Cond.eq (.field (Term.string own k) "java/lang/String" "coder" "B") (.int 0)).before #[Value.ref b] s = true → (Cond.arrayOf (.field (Term.string own k) "java/lang/String" "value" "[B") .byte).before #[Value.ref b] s = true → (Cond.eq (.length (.field (Term.string own k) "java/lang/String" "value" "[B")) (.int (Int32.ofNat bs.length))).before #[Value.ref b] s = true → (∀ j : Nat, j < bs.length → (Cond.eq (.elem (.field (Term.string own k) "java/lang/String" "value" "[B") (.int (Int32.ofNat j))) (.int (bs.getD j 0))).before #[Value.ref b] s = true) → ∃ q : Nat × Nat, vk_S 1 [bs.length] [bs] (fun _ => q.1) (fun _ => q.2) A s s.heap ∧ vk_R own k tx q.1 s := by
    intro own k tx bs h0 h1 h2 h3 h4 h5 h6
    obtain ⟨adK, adV, hS, hT⟩ := vk_Sof (N := 1) (tm := fun _ => Term.string own k) (len := [bs.length]) (byt := [bs]) (A := A) (args := #[Value.ref b]) (s := s) (fun i hi => by rw [show i = 0 by omega]; exact h0) (fun _ _ => h2) (fun _ _ => h3) (fun _ _ => h4) (fun i hi => by rw [show i = 0 by omega]; exact h5) (fun i hi j hj => by rw [show i = 0 by omega] at hj ⊢; exact h6 j hj) (fun i j hi hj hne => absurd (by omega) hne) hA
    refine ⟨(adK 0, adV 0), ⟨fun i hi => ?_, fun i j hi hj _ => by omega⟩, vk_R.of h1 (hT 0 (by omega))⟩
    rw [show i = 0 by omega]
    exact hS.1 0 (by omega)
  have key : ∀ i : Nat, ∃ q : Nat × Nat, i < 41 → vk_S 1 [(mk_str i).2.2.2.length] [(mk_str i).2.2.2] (fun _ => q.1) (fun _ => q.2) A s s.heap ∧ vk_R (mk_str i).1 (mk_str i).2.1 (mk_str i).2.2.1 q.1 s := by
    intro i
    match i with
    | 0 =>
      obtain ⟨q, hq⟩ := mk1 "WhimWind$Tape" 65 "person" [112, 101, 114, 115, 111, 110] (by decide) (hts _ (mk_in3 (List.mem_of_getElem? (i := 10) rfl))) (nr_mem hgv (i := 57) rfl) (nr_mem hgv (i := 58) rfl) (nr_mem hgv (i := 59) rfl) (nr_mem hgv (i := 60) rfl) (fun j hj => match j, hj with
        | 0, _ => nr_mem hgv (i := 61) rfl
        | 1, _ => nr_mem hgv (i := 62) rfl
        | 2, _ => nr_mem hgv (i := 63) rfl
        | 3, _ => nr_mem hgv (i := 64) rfl
        | 4, _ => nr_mem hgv (i := 65) rfl
        | 5, _ => nr_mem hgv (i := 66) rfl
        | n + 6, h => absurd h (by simp))
      exact ⟨q, fun _ => hq⟩
    | 1 =>
      obtain ⟨q, hq⟩ := mk1 "WhimWind$Tape" 67 "urge" [117, 114, 103, 101] (by decide) (hts _ (mk_in3 (List.mem_of_getElem? (i := 11) rfl))) (nr_mem hgv (i := 67) rfl) (nr_mem hgv (i := 68) rfl) (nr_mem hgv (i := 69) rfl) (nr_mem hgv (i := 70) rfl) (fun j hj => match j, hj with
        | 0, _ => nr_mem hgv (i := 71) rfl
        | 1, _ => nr_mem hgv (i := 72) rfl
        | 2, _ => nr_mem hgv (i := 73) rfl
        | 3, _ => nr_mem hgv (i := 74) rfl
        | n + 4, h => absurd h (by simp))
      exact ⟨q, fun _ => hq⟩
    | 2 =>
      obtain ⟨q, hq⟩ := mk1 "WhimWind$Tape" 69 "steady" [115, 116, 101, 97, 100, 121] (by decide) (hts _ (mk_in3 (List.mem_of_getElem? (i := 12) rfl))) (nr_mem hgv (i := 75) rfl) (nr_mem hgv (i := 76) rfl) (nr_mem hgv (i := 77) rfl) (nr_mem hgv (i := 78) rfl) (fun j hj => match j, hj with
        | 0, _ => nr_mem hgv (i := 79) rfl
        | 1, _ => nr_mem hgv (i := 80) rfl
        | 2, _ => nr_mem hgv (i := 81) rfl
        | 3, _ => nr_mem hgv (i := 82) rfl
        | 4, _ => nr_mem hgv (i := 83) rfl
        | 5, _ => nr_mem hgv (i := 84) rfl
        | n + 6, h => absurd h (by simp))
      exact ⟨q, fun _ => hq⟩
    | 3 =>
      obtain ⟨q, hq⟩ := mk1 "WhimWind$Tape" 71 "faces" [102, 97, 99, 101, 115] (by decide) (hts _ (mk_in3 (List.mem_of_getElem? (i := 13) rfl))) (nr_mem hgv (i := 85) rfl) (nr_mem hgv (i := 86) rfl) (nr_mem hgv (i := 87) rfl) (nr_mem hgv (i := 88) rfl) (fun j hj => match j, hj with
        | 0, _ => nr_mem hgv (i := 89) rfl
        | 1, _ => nr_mem hgv (i := 90) rfl
        | 2, _ => nr_mem hgv (i := 91) rfl
        | 3, _ => nr_mem hgv (i := 92) rfl
        | 4, _ => nr_mem hgv (i := 93) rfl
        | n + 5, h => absurd h (by simp))
      exact ⟨q, fun _ => hq⟩
    | 4 =>
      obtain ⟨q, hq⟩ := mk1 "WhimWind$Tape" 73 "row" [114, 111, 119] (by decide) (hts _ (mk_in3 (List.mem_of_getElem? (i := 14) rfl))) (nr_mem hgv (i := 94) rfl) (nr_mem hgv (i := 95) rfl) (nr_mem hgv (i := 96) rfl) (nr_mem hgv (i := 97) rfl) (fun j hj => match j, hj with
        | 0, _ => nr_mem hgv (i := 98) rfl
        | 1, _ => nr_mem hgv (i := 99) rfl
        | 2, _ => nr_mem hgv (i := 100) rfl
        | n + 3, h => absurd h (by simp))
      exact ⟨q, fun _ => hq⟩
    | 5 =>
      obtain ⟨q, hq⟩ := mk1 "WhimWind$Tape" 75 "column" [99, 111, 108, 117, 109, 110] (by decide) (hts _ (mk_in3 (List.mem_of_getElem? (i := 15) rfl))) (nr_mem hgv (i := 101) rfl) (nr_mem hgv (i := 102) rfl) (nr_mem hgv (i := 103) rfl) (nr_mem hgv (i := 104) rfl) (fun j hj => match j, hj with
        | 0, _ => nr_mem hgv (i := 105) rfl
        | 1, _ => nr_mem hgv (i := 106) rfl
        | 2, _ => nr_mem hgv (i := 107) rfl
        | 3, _ => nr_mem hgv (i := 108) rfl
        | 4, _ => nr_mem hgv (i := 109) rfl
        | 5, _ => nr_mem hgv (i := 110) rfl
        | n + 6, h => absurd h (by simp))
      exact ⟨q, fun _ => hq⟩
    | 6 =>
      obtain ⟨q, hq⟩ := mk1 "WhimWind$Tape" 77 "wind" [119, 105, 110, 100] (by decide) (hts _ (mk_in3 (List.mem_of_getElem? (i := 16) rfl))) (nr_mem hgv (i := 111) rfl) (nr_mem hgv (i := 112) rfl) (nr_mem hgv (i := 113) rfl) (nr_mem hgv (i := 114) rfl) (fun j hj => match j, hj with
        | 0, _ => nr_mem hgv (i := 115) rfl
        | 1, _ => nr_mem hgv (i := 116) rfl
        | 2, _ => nr_mem hgv (i := 117) rfl
        | 3, _ => nr_mem hgv (i := 118) rfl
        | n + 4, h => absurd h (by simp))
      exact ⟨q, fun _ => hq⟩
    | 7 =>
      obtain ⟨q, hq⟩ := mk1 "WhimWind$Tape" 79 "acted" [97, 99, 116, 101, 100] (by decide) (hts _ (mk_in3 (List.mem_of_getElem? (i := 17) rfl))) (nr_mem hgv (i := 119) rfl) (nr_mem hgv (i := 120) rfl) (nr_mem hgv (i := 121) rfl) (nr_mem hgv (i := 122) rfl) (fun j hj => match j, hj with
        | 0, _ => nr_mem hgv (i := 123) rfl
        | 1, _ => nr_mem hgv (i := 124) rfl
        | 2, _ => nr_mem hgv (i := 125) rfl
        | 3, _ => nr_mem hgv (i := 126) rfl
        | 4, _ => nr_mem hgv (i := 127) rfl
        | n + 5, h => absurd h (by simp))
      exact ⟨q, fun _ => hq⟩
    | 8 =>
      obtain ⟨q, hq⟩ := mk1 "WhimWind$Tape" 81 "since" [115, 105, 110, 99, 101] (by decide) (hts _ (mk_in3 (List.mem_of_getElem? (i := 18) rfl))) (nr_mem hgv (i := 128) rfl) (nr_mem hgv (i := 129) rfl) (nr_mem hgv (i := 130) rfl) (nr_mem hgv (i := 131) rfl) (fun j hj => match j, hj with
        | 0, _ => nr_mem hgv (i := 132) rfl
        | 1, _ => nr_mem hgv (i := 133) rfl
        | 2, _ => nr_mem hgv (i := 134) rfl
        | 3, _ => nr_mem hgv (i := 135) rfl
        | 4, _ => nr_mem hgv (i := 136) rfl
        | n + 5, h => absurd h (by simp))
      exact ⟨q, fun _ => hq⟩
    | 9 =>
      obtain ⟨q, hq⟩ := mk1 "WhimWind$Tape" 83 "ground" [103, 114, 111, 117, 110, 100] (by decide) (hts _ (mk_in3 (List.mem_of_getElem? (i := 19) rfl))) (nr_mem hgv (i := 137) rfl) (nr_mem hgv (i := 138) rfl) (nr_mem hgv (i := 139) rfl) (nr_mem hgv (i := 140) rfl) (fun j hj => match j, hj with
        | 0, _ => nr_mem hgv (i := 141) rfl
        | 1, _ => nr_mem hgv (i := 142) rfl
        | 2, _ => nr_mem hgv (i := 143) rfl
        | 3, _ => nr_mem hgv (i := 144) rfl
        | 4, _ => nr_mem hgv (i := 145) rfl
        | 5, _ => nr_mem hgv (i := 146) rfl
        | n + 6, h => absurd h (by simp))
      exact ⟨q, fun _ => hq⟩
    | 10 =>
      obtain ⟨q, hq⟩ := mk1 "WhimWind$Tape" 85 "off" [111, 102, 102] (by decide) (hts _ (mk_in3 (List.mem_of_getElem? (i := 20) rfl))) (nr_mem hgv (i := 147) rfl) (nr_mem hgv (i := 148) rfl) (nr_mem hgv (i := 149) rfl) (nr_mem hgv (i := 150) rfl) (fun j hj => match j, hj with
        | 0, _ => nr_mem hgv (i := 151) rfl
        | 1, _ => nr_mem hgv (i := 152) rfl
        | 2, _ => nr_mem hgv (i := 153) rfl
        | n + 3, h => absurd h (by simp))
      exact ⟨q, fun _ => hq⟩
    | 11 =>
      obtain ⟨q, hq⟩ := mk1 "WhimWind$Tape" 87 "hour" [104, 111, 117, 114] (by decide) (hts _ (mk_in3 (List.mem_of_getElem? (i := 21) rfl))) (nr_mem hgv (i := 154) rfl) (nr_mem hgv (i := 155) rfl) (nr_mem hgv (i := 156) rfl) (nr_mem hgv (i := 157) rfl) (fun j hj => match j, hj with
        | 0, _ => nr_mem hgv (i := 158) rfl
        | 1, _ => nr_mem hgv (i := 159) rfl
        | 2, _ => nr_mem hgv (i := 160) rfl
        | 3, _ => nr_mem hgv (i := 161) rfl
        | n + 4, h => absurd h (by simp))
      exact ⟨q, fun _ => hq⟩
    | 12 =>
      obtain ⟨q, hq⟩ := mk1 "WhimWind$Tape" 89 "if" [105, 102] (by decide) (hts _ (mk_in3 (List.mem_of_getElem? (i := 22) rfl))) (nr_mem hgv (i := 162) rfl) (nr_mem hgv (i := 163) rfl) (nr_mem hgv (i := 164) rfl) (nr_mem hgv (i := 165) rfl) (fun j hj => match j, hj with
        | 0, _ => nr_mem hgv (i := 166) rfl
        | 1, _ => nr_mem hgv (i := 167) rfl
        | n + 2, h => absurd h (by simp))
      exact ⟨q, fun _ => hq⟩
    | 13 =>
      obtain ⟨q, hq⟩ := mk1 "WhimWind$Tape" 91 "and" [97, 110, 100] (by decide) (hts _ (mk_in3 (List.mem_of_getElem? (i := 23) rfl))) (nr_mem hgv (i := 168) rfl) (nr_mem hgv (i := 169) rfl) (nr_mem hgv (i := 170) rfl) (nr_mem hgv (i := 171) rfl) (fun j hj => match j, hj with
        | 0, _ => nr_mem hgv (i := 172) rfl
        | 1, _ => nr_mem hgv (i := 173) rfl
        | 2, _ => nr_mem hgv (i := 174) rfl
        | n + 3, h => absurd h (by simp))
      exact ⟨q, fun _ => hq⟩
    | 14 =>
      obtain ⟨q, hq⟩ := mk1 "WhimWind$Tape" 93 "or" [111, 114] (by decide) (hts _ (mk_in3 (List.mem_of_getElem? (i := 24) rfl))) (nr_mem hgv (i := 175) rfl) (nr_mem hgv (i := 176) rfl) (nr_mem hgv (i := 177) rfl) (nr_mem hgv (i := 178) rfl) (fun j hj => match j, hj with
        | 0, _ => nr_mem hgv (i := 179) rfl
        | 1, _ => nr_mem hgv (i := 180) rfl
        | n + 2, h => absurd h (by simp))
      exact ⟨q, fun _ => hq⟩
    | 15 =>
      obtain ⟨q, hq⟩ := mk1 "WhimWind$Tape" 95 "not" [110, 111, 116] (by decide) (hts _ (mk_in3 (List.mem_of_getElem? (i := 25) rfl))) (nr_mem hgv (i := 181) rfl) (nr_mem hgv (i := 182) rfl) (nr_mem hgv (i := 183) rfl) (nr_mem hgv (i := 184) rfl) (fun j hj => match j, hj with
        | 0, _ => nr_mem hgv (i := 185) rfl
        | 1, _ => nr_mem hgv (i := 186) rfl
        | 2, _ => nr_mem hgv (i := 187) rfl
        | n + 3, h => absurd h (by simp))
      exact ⟨q, fun _ => hq⟩
    | 16 =>
      obtain ⟨q, hq⟩ := mk1 "WhimWind$Tape" 97 "whim" [119, 104, 105, 109] (by decide) (hts _ (mk_in3 (List.mem_of_getElem? (i := 26) rfl))) (nr_mem hgv (i := 188) rfl) (nr_mem hgv (i := 189) rfl) (nr_mem hgv (i := 190) rfl) (nr_mem hgv (i := 191) rfl) (fun j hj => match j, hj with
        | 0, _ => nr_mem hgv (i := 192) rfl
        | 1, _ => nr_mem hgv (i := 193) rfl
        | 2, _ => nr_mem hgv (i := 194) rfl
        | 3, _ => nr_mem hgv (i := 195) rfl
        | n + 4, h => absurd h (by simp))
      exact ⟨q, fun _ => hq⟩
    | 17 =>
      obtain ⟨q, hq⟩ := mk1 "WhimWind$Tape" 99 "plateau" [112, 108, 97, 116, 101, 97, 117] (by decide) (hts _ (mk_in3 (List.mem_of_getElem? (i := 27) rfl))) (nr_mem hgv (i := 196) rfl) (nr_mem hgv (i := 197) rfl) (nr_mem hgv (i := 198) rfl) (nr_mem hgv (i := 199) rfl) (fun j hj => match j, hj with
        | 0, _ => nr_mem hgv (i := 200) rfl
        | 1, _ => nr_mem hgv (i := 201) rfl
        | 2, _ => nr_mem hgv (i := 202) rfl
        | 3, _ => nr_mem hgv (i := 203) rfl
        | 4, _ => nr_mem hgv (i := 204) rfl
        | 5, _ => nr_mem hgv (i := 205) rfl
        | 6, _ => nr_mem hgv (i := 206) rfl
        | n + 7, h => absurd h (by simp))
      exact ⟨q, fun _ => hq⟩
    | 18 =>
      obtain ⟨q, hq⟩ := mk1 "WhimWind$Tape" 101 "mill" [109, 105, 108, 108] (by decide) (hts _ (mk_in3 (List.mem_of_getElem? (i := 28) rfl))) (nr_mem hgv (i := 207) rfl) (nr_mem hgv (i := 208) rfl) (nr_mem hgv (i := 209) rfl) (nr_mem hgv (i := 210) rfl) (fun j hj => match j, hj with
        | 0, _ => nr_mem hgv (i := 211) rfl
        | 1, _ => nr_mem hgv (i := 212) rfl
        | 2, _ => nr_mem hgv (i := 213) rfl
        | 3, _ => nr_mem hgv (i := 214) rfl
        | n + 4, h => absurd h (by simp))
      exact ⟨q, fun _ => hq⟩
    | 19 =>
      obtain ⟨q, hq⟩ := mk1 "WhimWind$Tape" 103 "roof" [114, 111, 111, 102] (by decide) (hts _ (mk_in3 (List.mem_of_getElem? (i := 29) rfl))) (nr_mem hgv (i := 215) rfl) (nr_mem hgv (i := 216) rfl) (nr_mem hgv (i := 217) rfl) (nr_mem hgv (i := 218) rfl) (fun j hj => match j, hj with
        | 0, _ => nr_mem hgv (i := 219) rfl
        | 1, _ => nr_mem hgv (i := 220) rfl
        | 2, _ => nr_mem hgv (i := 221) rfl
        | 3, _ => nr_mem hgv (i := 222) rfl
        | n + 4, h => absurd h (by simp))
      exact ⟨q, fun _ => hq⟩
    | 20 =>
      obtain ⟨q, hq⟩ := mk1 "WhimWind$Tape" 105 "" [] (by decide) (hts _ (mk_in3 (List.mem_of_getElem? (i := 30) rfl))) (nr_mem hgv (i := 223) rfl) (nr_mem hgv (i := 224) rfl) (nr_mem hgv (i := 225) rfl) (nr_mem hgv (i := 226) rfl) (fun j hj => match j, hj with
        | n + 0, h => absurd h (by simp))
      exact ⟨q, fun _ => hq⟩
    | 21 =>
      obtain ⟨q, hq⟩ := mk1 "WhimWindModel" 170 "person" [112, 101, 114, 115, 111, 110] (by decide) (hts _ (mk_in6 (List.mem_of_getElem? (i := 160) rfl))) (nr_mem hgv (i := 239) rfl) (nr_mem hgv (i := 240) rfl) (nr_mem hgv (i := 241) rfl) (nr_mem hgv (i := 242) rfl) (fun j hj => match j, hj with
        | 0, _ => nr_mem hgv (i := 243) rfl
        | 1, _ => nr_mem hgv (i := 244) rfl
        | 2, _ => nr_mem hgv (i := 245) rfl
        | 3, _ => nr_mem hgv (i := 246) rfl
        | 4, _ => nr_mem hgv (i := 247) rfl
        | 5, _ => nr_mem hgv (i := 248) rfl
        | n + 6, h => absurd h (by simp))
      exact ⟨q, fun _ => hq⟩
    | 22 =>
      obtain ⟨q, hq⟩ := mk1 "WhimWindModel" 172 "urge" [117, 114, 103, 101] (by decide) (hts _ (mk_in7 (List.mem_of_getElem? (i := 2) rfl))) (nr_mem hgv (i := 277) rfl) (nr_mem hgv (i := 278) rfl) (nr_mem hgv (i := 279) rfl) (nr_mem hgv (i := 280) rfl) (fun j hj => match j, hj with
        | 0, _ => nr_mem hgv (i := 281) rfl
        | 1, _ => nr_mem hgv (i := 282) rfl
        | 2, _ => nr_mem hgv (i := 283) rfl
        | 3, _ => nr_mem hgv (i := 284) rfl
        | n + 4, h => absurd h (by simp))
      exact ⟨q, fun _ => hq⟩
    | 23 =>
      obtain ⟨q, hq⟩ := mk1 "WhimWindModel" 173 "steady" [115, 116, 101, 97, 100, 121] (by decide) (hts _ (mk_in7 (List.mem_of_getElem? (i := 3) rfl))) (nr_mem hgv (i := 286) rfl) (nr_mem hgv (i := 287) rfl) (nr_mem hgv (i := 288) rfl) (nr_mem hgv (i := 289) rfl) (fun j hj => match j, hj with
        | 0, _ => nr_mem hgv (i := 290) rfl
        | 1, _ => nr_mem hgv (i := 291) rfl
        | 2, _ => nr_mem hgv (i := 292) rfl
        | 3, _ => nr_mem hgv (i := 293) rfl
        | 4, _ => nr_mem hgv (i := 294) rfl
        | 5, _ => nr_mem hgv (i := 295) rfl
        | n + 6, h => absurd h (by simp))
      exact ⟨q, fun _ => hq⟩
    | 24 =>
      obtain ⟨q, hq⟩ := mk1 "WhimWindModel" 174 "faces" [102, 97, 99, 101, 115] (by decide) (hts _ (mk_in7 (List.mem_of_getElem? (i := 4) rfl))) (nr_mem hgv (i := 297) rfl) (nr_mem hgv (i := 298) rfl) (nr_mem hgv (i := 299) rfl) (nr_mem hgv (i := 300) rfl) (fun j hj => match j, hj with
        | 0, _ => nr_mem hgv (i := 301) rfl
        | 1, _ => nr_mem hgv (i := 302) rfl
        | 2, _ => nr_mem hgv (i := 303) rfl
        | 3, _ => nr_mem hgv (i := 304) rfl
        | 4, _ => nr_mem hgv (i := 305) rfl
        | n + 5, h => absurd h (by simp))
      exact ⟨q, fun _ => hq⟩
    | 25 =>
      obtain ⟨q, hq⟩ := mk1 "WhimWindModel" 175 "row" [114, 111, 119] (by decide) (hts _ (mk_in7 (List.mem_of_getElem? (i := 5) rfl))) (nr_mem hgv (i := 307) rfl) (nr_mem hgv (i := 308) rfl) (nr_mem hgv (i := 309) rfl) (nr_mem hgv (i := 310) rfl) (fun j hj => match j, hj with
        | 0, _ => nr_mem hgv (i := 311) rfl
        | 1, _ => nr_mem hgv (i := 312) rfl
        | 2, _ => nr_mem hgv (i := 313) rfl
        | n + 3, h => absurd h (by simp))
      exact ⟨q, fun _ => hq⟩
    | 26 =>
      obtain ⟨q, hq⟩ := mk1 "WhimWindModel" 177 "column" [99, 111, 108, 117, 109, 110] (by decide) (hts _ (mk_in7 (List.mem_of_getElem? (i := 6) rfl))) (nr_mem hgv (i := 315) rfl) (nr_mem hgv (i := 316) rfl) (nr_mem hgv (i := 317) rfl) (nr_mem hgv (i := 318) rfl) (fun j hj => match j, hj with
        | 0, _ => nr_mem hgv (i := 319) rfl
        | 1, _ => nr_mem hgv (i := 320) rfl
        | 2, _ => nr_mem hgv (i := 321) rfl
        | 3, _ => nr_mem hgv (i := 322) rfl
        | 4, _ => nr_mem hgv (i := 323) rfl
        | 5, _ => nr_mem hgv (i := 324) rfl
        | n + 6, h => absurd h (by simp))
      exact ⟨q, fun _ => hq⟩
    | 27 =>
      obtain ⟨q, hq⟩ := mk1 "WhimWindModel" 179 "wind" [119, 105, 110, 100] (by decide) (hts _ (mk_in7 (List.mem_of_getElem? (i := 7) rfl))) (nr_mem hgv (i := 326) rfl) (nr_mem hgv (i := 327) rfl) (nr_mem hgv (i := 328) rfl) (nr_mem hgv (i := 329) rfl) (fun j hj => match j, hj with
        | 0, _ => nr_mem hgv (i := 330) rfl
        | 1, _ => nr_mem hgv (i := 331) rfl
        | 2, _ => nr_mem hgv (i := 332) rfl
        | 3, _ => nr_mem hgv (i := 333) rfl
        | n + 4, h => absurd h (by simp))
      exact ⟨q, fun _ => hq⟩
    | 28 =>
      obtain ⟨q, hq⟩ := mk1 "WhimWindModel" 181 "acted" [97, 99, 116, 101, 100] (by decide) (hts _ (mk_in7 (List.mem_of_getElem? (i := 8) rfl))) (nr_mem hgv (i := 335) rfl) (nr_mem hgv (i := 336) rfl) (nr_mem hgv (i := 337) rfl) (nr_mem hgv (i := 338) rfl) (fun j hj => match j, hj with
        | 0, _ => nr_mem hgv (i := 339) rfl
        | 1, _ => nr_mem hgv (i := 340) rfl
        | 2, _ => nr_mem hgv (i := 341) rfl
        | 3, _ => nr_mem hgv (i := 342) rfl
        | 4, _ => nr_mem hgv (i := 343) rfl
        | n + 5, h => absurd h (by simp))
      exact ⟨q, fun _ => hq⟩
    | 29 =>
      obtain ⟨q, hq⟩ := mk1 "WhimWindModel" 182 "since" [115, 105, 110, 99, 101] (by decide) (hts _ (mk_in7 (List.mem_of_getElem? (i := 9) rfl))) (nr_mem hgv (i := 345) rfl) (nr_mem hgv (i := 346) rfl) (nr_mem hgv (i := 347) rfl) (nr_mem hgv (i := 348) rfl) (fun j hj => match j, hj with
        | 0, _ => nr_mem hgv (i := 349) rfl
        | 1, _ => nr_mem hgv (i := 350) rfl
        | 2, _ => nr_mem hgv (i := 351) rfl
        | 3, _ => nr_mem hgv (i := 352) rfl
        | 4, _ => nr_mem hgv (i := 353) rfl
        | n + 5, h => absurd h (by simp))
      exact ⟨q, fun _ => hq⟩
    | 30 =>
      obtain ⟨q, hq⟩ := mk1 "WhimWindModel" 184 "ground" [103, 114, 111, 117, 110, 100] (by decide) (hts _ (mk_in7 (List.mem_of_getElem? (i := 10) rfl))) (nr_mem hgv (i := 355) rfl) (nr_mem hgv (i := 356) rfl) (nr_mem hgv (i := 357) rfl) (nr_mem hgv (i := 358) rfl) (fun j hj => match j, hj with
        | 0, _ => nr_mem hgv (i := 359) rfl
        | 1, _ => nr_mem hgv (i := 360) rfl
        | 2, _ => nr_mem hgv (i := 361) rfl
        | 3, _ => nr_mem hgv (i := 362) rfl
        | 4, _ => nr_mem hgv (i := 363) rfl
        | 5, _ => nr_mem hgv (i := 364) rfl
        | n + 6, h => absurd h (by simp))
      exact ⟨q, fun _ => hq⟩
    | 31 =>
      obtain ⟨q, hq⟩ := mk1 "WhimWindModel" 185 "off" [111, 102, 102] (by decide) (hts _ (mk_in7 (List.mem_of_getElem? (i := 11) rfl))) (nr_mem hgv (i := 366) rfl) (nr_mem hgv (i := 367) rfl) (nr_mem hgv (i := 368) rfl) (nr_mem hgv (i := 369) rfl) (fun j hj => match j, hj with
        | 0, _ => nr_mem hgv (i := 370) rfl
        | 1, _ => nr_mem hgv (i := 371) rfl
        | 2, _ => nr_mem hgv (i := 372) rfl
        | n + 3, h => absurd h (by simp))
      exact ⟨q, fun _ => hq⟩
    | 32 =>
      obtain ⟨q, hq⟩ := mk1 "WhimWindModel" 187 "hour" [104, 111, 117, 114] (by decide) (hts _ (mk_in7 (List.mem_of_getElem? (i := 12) rfl))) (nr_mem hgv (i := 374) rfl) (nr_mem hgv (i := 375) rfl) (nr_mem hgv (i := 376) rfl) (nr_mem hgv (i := 377) rfl) (fun j hj => match j, hj with
        | 0, _ => nr_mem hgv (i := 378) rfl
        | 1, _ => nr_mem hgv (i := 379) rfl
        | 2, _ => nr_mem hgv (i := 380) rfl
        | 3, _ => nr_mem hgv (i := 381) rfl
        | n + 4, h => absurd h (by simp))
      exact ⟨q, fun _ => hq⟩
    | 33 =>
      obtain ⟨q, hq⟩ := mk1 "WhimWindModel" 268 "not" [110, 111, 116] (by decide) (hts _ (mk_in7 (List.mem_of_getElem? (i := 26) rfl))) (nr_mem hgv (i := 390) rfl) (nr_mem hgv (i := 391) rfl) (nr_mem hgv (i := 392) rfl) (nr_mem hgv (i := 393) rfl) (fun j hj => match j, hj with
        | 0, _ => nr_mem hgv (i := 394) rfl
        | 1, _ => nr_mem hgv (i := 395) rfl
        | 2, _ => nr_mem hgv (i := 396) rfl
        | n + 3, h => absurd h (by simp))
      exact ⟨q, fun _ => hq⟩
    | 34 =>
      obtain ⟨q, hq⟩ := mk1 "WhimWindModel" 282 "and" [97, 110, 100] (by decide) (hts _ (mk_in7 (List.mem_of_getElem? (i := 43) rfl))) (nr_mem hgv (i := 398) rfl) (nr_mem hgv (i := 399) rfl) (nr_mem hgv (i := 400) rfl) (nr_mem hgv (i := 401) rfl) (fun j hj => match j, hj with
        | 0, _ => nr_mem hgv (i := 402) rfl
        | 1, _ => nr_mem hgv (i := 403) rfl
        | 2, _ => nr_mem hgv (i := 404) rfl
        | n + 3, h => absurd h (by simp))
      exact ⟨q, fun _ => hq⟩
    | 35 =>
      obtain ⟨q, hq⟩ := mk1 "WhimWindModel" 284 "or" [111, 114] (by decide) (hts _ (mk_in7 (List.mem_of_getElem? (i := 44) rfl))) (nr_mem hgv (i := 406) rfl) (nr_mem hgv (i := 407) rfl) (nr_mem hgv (i := 408) rfl) (nr_mem hgv (i := 409) rfl) (fun j hj => match j, hj with
        | 0, _ => nr_mem hgv (i := 410) rfl
        | 1, _ => nr_mem hgv (i := 411) rfl
        | n + 2, h => absurd h (by simp))
      exact ⟨q, fun _ => hq⟩
    | 36 =>
      obtain ⟨q, hq⟩ := mk1 "WhimWindModel" 286 "plateau" [112, 108, 97, 116, 101, 97, 117] (by decide) (hts _ (mk_in6 (List.mem_of_getElem? (i := 159) rfl))) (nr_mem hgv (i := 227) rfl) (nr_mem hgv (i := 228) rfl) (nr_mem hgv (i := 229) rfl) (nr_mem hgv (i := 230) rfl) (fun j hj => match j, hj with
        | 0, _ => nr_mem hgv (i := 231) rfl
        | 1, _ => nr_mem hgv (i := 232) rfl
        | 2, _ => nr_mem hgv (i := 233) rfl
        | 3, _ => nr_mem hgv (i := 234) rfl
        | 4, _ => nr_mem hgv (i := 235) rfl
        | 5, _ => nr_mem hgv (i := 236) rfl
        | 6, _ => nr_mem hgv (i := 237) rfl
        | n + 7, h => absurd h (by simp))
      exact ⟨q, fun _ => hq⟩
    | 37 =>
      obtain ⟨q, hq⟩ := mk1 "WhimWindModel" 288 "mill" [109, 105, 108, 108] (by decide) (hts _ (mk_in6 (List.mem_of_getElem? (i := 161) rfl))) (nr_mem hgv (i := 250) rfl) (nr_mem hgv (i := 251) rfl) (nr_mem hgv (i := 252) rfl) (nr_mem hgv (i := 253) rfl) (fun j hj => match j, hj with
        | 0, _ => nr_mem hgv (i := 254) rfl
        | 1, _ => nr_mem hgv (i := 255) rfl
        | 2, _ => nr_mem hgv (i := 256) rfl
        | 3, _ => nr_mem hgv (i := 257) rfl
        | n + 4, h => absurd h (by simp))
      exact ⟨q, fun _ => hq⟩
    | 38 =>
      obtain ⟨q, hq⟩ := mk1 "WhimWindModel" 290 "roof" [114, 111, 111, 102] (by decide) (hts _ (mk_in6 (List.mem_of_getElem? (i := 162) rfl))) (nr_mem hgv (i := 259) rfl) (nr_mem hgv (i := 260) rfl) (nr_mem hgv (i := 261) rfl) (nr_mem hgv (i := 262) rfl) (fun j hj => match j, hj with
        | 0, _ => nr_mem hgv (i := 263) rfl
        | 1, _ => nr_mem hgv (i := 264) rfl
        | 2, _ => nr_mem hgv (i := 265) rfl
        | 3, _ => nr_mem hgv (i := 266) rfl
        | n + 4, h => absurd h (by simp))
      exact ⟨q, fun _ => hq⟩
    | 39 =>
      obtain ⟨q, hq⟩ := mk1 "WhimWindModel" 328 "whim" [119, 104, 105, 109] (by decide) (hts _ (mk_in6 (List.mem_of_getElem? (i := 218) rfl))) (nr_mem hgv (i := 268) rfl) (nr_mem hgv (i := 269) rfl) (nr_mem hgv (i := 270) rfl) (nr_mem hgv (i := 271) rfl) (fun j hj => match j, hj with
        | 0, _ => nr_mem hgv (i := 272) rfl
        | 1, _ => nr_mem hgv (i := 273) rfl
        | 2, _ => nr_mem hgv (i := 274) rfl
        | 3, _ => nr_mem hgv (i := 275) rfl
        | n + 4, h => absurd h (by simp))
      exact ⟨q, fun _ => hq⟩
    | 40 =>
      obtain ⟨q, hq⟩ := mk1 "WhimWindModel" 330 "if" [105, 102] (by decide) (hts _ (mk_in7 (List.mem_of_getElem? (i := 13) rfl))) (nr_mem hgv (i := 383) rfl) (nr_mem hgv (i := 384) rfl) (nr_mem hgv (i := 385) rfl) (nr_mem hgv (i := 386) rfl) (fun j hj => match j, hj with
        | 0, _ => nr_mem hgv (i := 387) rfl
        | 1, _ => nr_mem hgv (i := 388) rfl
        | n + 2, h => absurd h (by simp))
      exact ⟨q, fun _ => hq⟩
    | i + 41 => exact ⟨(0, 0), fun h => absurd h (by omega)⟩
  obtain ⟨f, hf⟩ := Classical.axiomOfChoice key
  exact ⟨f, hf⟩
theorem st_tab {b L : Nat} {xs : Nat → Int32} {s : State} {A : Nat → Prop} (hA : ∀ a : Nat, a < s.heap.size → ¬ A a) (hts : ∀ w ∈ lw_tbl, w.before #[Value.ref b] s = true) (hgv : (Jvm.Cond.and given_1 narrow_1).before #[Value.ref b] s = true) : ∃ t1 t2 : Nat, va_T .int t1 4 (fun j => .int (law_g L xs 2000000 (j + 1))) A s s.heap ∧ va_Z "WhimWind" "ROW_STEP" "[I" (.ref t1) A s s.heap ∧ va_T .int t2 4 (fun j => .int (law_g L xs 2000001 (j + 1))) A s s.heap ∧ va_Z "WhimWind" "COLUMN_STEP" "[I" (.ref t2) A s s.heap := by
  obtain ⟨t1, e1, h1⟩ := va_Tof (tm := Term.static "WhimWind" "ROW_STEP" "[I") (ty := .int) (N := 4) (f := fun j => .int (law_g L xs 2000000 (j + 1))) (A := A) (by decide) (nr_mem hgv (i := 8) rfl) (va_eqt (nr_mem hgv (i := 9) rfl)) (fun j hj => match j, hj with
    | 0, _ => va_eqt (nr_mem hgv (i := 10) rfl)
    | 1, _ => va_eqt (nr_mem hgv (i := 11) rfl)
    | 2, _ => va_eqt (nr_mem hgv (i := 12) rfl)
    | 3, _ => va_eqt (nr_mem hgv (i := 13) rfl)
    | n + 4, h => absurd h (by omega)) hA
  obtain ⟨t2, e2, h2⟩ := va_Tof (tm := Term.static "WhimWind" "COLUMN_STEP" "[I") (ty := .int) (N := 4) (f := fun j => .int (law_g L xs 2000001 (j + 1))) (A := A) (by decide) (nr_mem hgv (i := 15) rfl) (va_eqt (nr_mem hgv (i := 16) rfl)) (fun j hj => match j, hj with
    | 0, _ => va_eqt (nr_mem hgv (i := 17) rfl)
    | 1, _ => va_eqt (nr_mem hgv (i := 18) rfl)
    | 2, _ => va_eqt (nr_mem hgv (i := 19) rfl)
    | 3, _ => va_eqt (nr_mem hgv (i := 20) rfl)
    | n + 4, h => absurd h (by omega)) hA
  exact ⟨t1, t2, h1, va_Zof (hts _ (mk_in4 (List.mem_of_getElem? (i := 123) rfl))) (hts _ (mk_in1 (List.mem_of_getElem? (i := 1) rfl))) e1 hA, h2, va_Zof (hts _ (mk_in4 (List.mem_of_getElem? (i := 125) rfl))) (hts _ (mk_in1 (List.mem_of_getElem? (i := 1) rfl))) e2 hA⟩
/-- what is owed of the functions alone: on every script the law's function answers 1, in the room -/
def law_pure : Prop := ∀ (L : Nat) (xs : Nat → Int32), L ≤ 3072 → ∃ t1, F_L_law (law_t0 L xs) = some (1, t1) ∧ mk_cn t1 ≤ 600000 ∧ mk_sn t1 ≤ 7302250
theorem st_start (hpure : law_pure) {p : Program} {e : Env} {s : State} {m : MethodId} {below : List Frame} {meth : Method} {c : Code} (l : Launch) {b L : Nat} {xs : Nat → Int32} (hL : L ≤ 3072) (C0 : lw_At p s m meth c b L xs) : W p l e room_1 s m #[Value.ref b] below meth c s.heap [] 0 0 (lw_Z below #[Value.ref b] s) (entryFrame m ([Value.ref b] : List Value).toArray 4) := by
  obtain ⟨hx, hb, hr, hml, hown, hts, hX, hbl, hlocks, hgv⟩ := C0
  have hA0 : ∀ a : Nat, a < s.heap.size → ¬ (fun q : Nat => s.heap.size ≤ q) a := fun a h => Nat.not_le.mpr h
  obtain ⟨D, hD⟩ := st_cls hts
  obtain ⟨ac, hac⟩ := st_arr hts
  obtain ⟨aS, hS⟩ := st_str hA0 hts hgv
  obtain ⟨t1, t2, hT1, hZ1, hT2, hZ2⟩ := st_tab (L := L) (xs := xs) hA0 hts hgv
  have hZc : va_Z "java/lang/String" "COMPACT_STRINGS" "Z" (.int 1) (fun q : Nat => s.heap.size ≤ q) s s.heap := va_Zof (hts _ (mk_in3 (List.mem_of_getElem? (i := 44) rfl))) (hts _ (mk_in1 (List.mem_of_getElem? (i := 14) rfl))) (va_eqi (nr_mem hgv (i := 2) rfl)) hA0
  have hZs : va_Zq "jdk/internal/util/Preconditions" "SIOOBE_FORMATTER" "Ljava/util/function/BiFunction;" (fun q : Nat => s.heap.size ≤ q) s s.heap := va_Zqof (hts _ (mk_in3 (List.mem_of_getElem? (i := 60) rfl))) (hts _ (mk_in1 (List.mem_of_getElem? (i := 16) rfl))) (nr_mem hgv (i := 3) rfl) hA0
  obtain ⟨sf, hsf⟩ : ∃ sf : Nat, va_Z "jdk/internal/util/Preconditions" "SIOOBE_FORMATTER" "Ljava/util/function/BiFunction;" .null (fun q : Nat => s.heap.size ≤ q) s s.heap ∨ va_Z "jdk/internal/util/Preconditions" "SIOOBE_FORMATTER" "Ljava/util/function/BiFunction;" (.ref sf) (fun q : Nat => s.heap.size ≤ q) s s.heap := by
    rcases hZs with h | ⟨t, h⟩
    · exact ⟨0, Or.inl h⟩
    · exact ⟨t, Or.inr h⟩
  obtain ⟨ad, ha⟩ : ∃ ad : Nat → Nat, (∀ i, i < 41 → ad (1000000 + i) = (aS i).1 ∧ ad (1500000 + i) = (aS i).2) ∧ ad 1600000 = sf ∧ ad 2000000 = t1 ∧ ad 2000001 = t2 ∧ ad 3000000 = b := by
    refine ⟨fun a => if a = 3000000 then b else if a = 2000001 then t2 else if a = 2000000 then t1 else if a = 1600000 then sf else if 1500000 ≤ a then (aS (a - 1500000)).2 else (aS (a - 1000000)).1, fun i hi => ⟨?_, ?_⟩, ?_, ?_, ?_, ?_⟩
    · simp only
      rw [if_neg (by omega), if_neg (by omega), if_neg (by omega), if_neg (by omega), if_neg (by omega), Nat.add_sub_cancel_left]
    · simp only
      rw [if_neg (by omega), if_neg (by omega), if_neg (by omega), if_neg (by omega), if_pos (by omega), Nat.add_sub_cancel_left]
    · simp
    · simp
    · simp
    · simp
  obtain ⟨ha1, ha2, ha3, ha4, ha5⟩ := ha
  have hTx : va_T .int b (law_g L xs 3000000 0).toNatClampNeg (fun j => .int (law_g L xs 3000000 (j + 1))) (fun q : Nat => s.heap.size ≤ q) s s.heap := by
    obtain ⟨scr, g1, g2, g3, g4, g5⟩ := hX
    have e : (law_g L xs 3000000 0).toNatClampNeg = L := by
      show (Int32.ofNat L).toNatClampNeg = L
      exact nI_clamp (n := L) (by omega)
    rw [e]
    exact ⟨scr, g1, g2, g3, by omega, by rw [g4], g5, hA0 b hbl⟩
  have hE : mk_E D ac (law_g L xs) ad (fun q : Nat => s.heap.size ≤ q) s := by
    refine ⟨⟨hD, hac⟩, fun w hw => ?_, fun _ h => h, ⟨fun a haa => ?_, by rw [ha3]; exact hZ1, by rw [ha4]; exact hZ2⟩, ⟨fun i hi => ?_, hZc, by rw [ha2]; exact hsf, ⟨hts _ (mk_in2 (List.mem_of_getElem? (i := 15) rfl)), hts _ (mk_in2 (List.mem_of_getElem? (i := 80) rfl)), hts _ (mk_in2 (List.mem_of_getElem? (i := 176) rfl)), hts _ (mk_in2 (List.mem_of_getElem? (i := 95) rfl))⟩⟩⟩
    · have h1 := hts w (List.mem_filter.mp hw).1
      have h2 : lw_nest w = true := (List.mem_filter.mp hw).2
      cases w <;> first | exact va_Nw.of rfl h1 | (exact absurd h2 (by simp [lw_nest]))
    · simp only [mk_xs, List.mem_cons, List.not_mem_nil, or_false] at haa
      rcases haa with q | q | q
      · subst q; rw [ha3]; exact hT1
      · subst q; rw [ha4]; exact hT2
      · subst q; rw [ha5]; exact hTx
    · rw [(ha1 i hi).1, (ha1 i hi).2]
      exact hS i hi
  obtain ⟨t9, hF, hcn, hsn⟩ := hpure L xs hL
  obtain ⟨hg, hXX⟩ := p_L_law (law_t0 L xs) (1, t9) hF
  have hl := lv_entry ([.ref b]) (n := 4) (Nat.le_of_ble_eq_true rfl)
  rw [lg_entry_eq]
  generalize (lg_sl ([.ref b]) ++ List.replicate (4 - (lg_sl ([.ref b])).length) Slot.unset).toArray = ls at hl ⊢
  have hLL : mk_L ls 4 ad [some (.ref 3000000), none, none, none] := by
    refine ⟨hl.1, hl.2.1, fun i v hi => ?_⟩
    match i, hi with
    | 0, hi =>
      cases hi
      show ls[0]? = some (.val (.ref (ad 3000000)))
      rw [ha5]
      exact hl.2.2 (0, .ref b) (by simp [lv_args])
    | 1, hi => cases hi
    | 2, hi => cases hi
    | 3, hi => cases hi
    | i + 4, hi => simp at hi
  have hgo := hXX p l e room_1 s m #[Value.ref b] below meth c (lw_Z below #[Value.ref b] s) D ac (law_g L xs) (fun q : Nat => s.heap.size ≤ q) 0 0 s.heap [] ls ad
    ⟨hx, hb, hml, hown, fun w hw => hts w (List.mem_filter.mp hw).1, fun h => absurd h (by decide), by decide, by decide⟩ ⟨Nat.zero_le _, Nat.zero_le _, hcn, hsn⟩ hE
    ⟨fun k q h => by simp [mk_ws, law_t0] at h, ⟨fun i j p q h => by simp [mk_ws, law_t0] at h, fun k q h => by simp [mk_ws, law_t0] at h⟩, fun K hK => by simp [law_t0] at hK, by simp [law_t0], fun _ _ => rfl⟩ va_S.rf hLL ⟨fun v hv => ?_, fun v hv => by cases hv⟩ ?_
  · exact hgo
  · simp only [List.mem_cons, Option.some.injEq, List.not_mem_nil, or_false, reduceCtorEq] at hv
    subst hv
    exact mk_wv_big (by omega)
  · intro H1 locs1 ls1 ad1 pc1 _ _ hS1 _ hr1
    refine va_forget (fun q hq => hS1.2.2 q hq) ?_
    refine W.widen (k := 600000) (n := 7302250) (by simp only [Nat.sub_zero]; exact hcn) (by simp only [Nat.sub_zero]; exact hsn) ?_
    exact lw_ret hx hb hr hlocks hr1.1
