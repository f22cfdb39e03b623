/-! THE SMALL MACHINE: a flat state (kinds of cells, ints, longs) under places that are numbers; what the JVM's heap is of it; one step of the bytecode as a row. -/
abbrev mk_K : Type := Nat × Nat × List (Option Nat)
abbrev mk_S : Type := List mk_K × (Nat → Nat → Int32) × (Nat → Nat → Int64)
abbrev mk_M : Type := MethodName × ByteArray × Nat × Option FieldType × Nat × Nat
abbrev mk_Z : Type := Option Value × mk_S
def mk_tr (ad : Nat → Nat) (v : Value) : Value := match v with
  | .ref a => .ref (ad a)
  | w => w
def mk_wv (n : Nat) (v : Value) : Prop := match v with
  | .ref a => a < n ∨ 1000000 ≤ a
  | _ => True
def lw_gw : List Cond := lw_tbl.filter goodWord
def lw_nest (w : Cond) : Bool := match w with
  | .fieldLinkNest .. => true
  | .methodLinkNest .. => true
  | _ => false
def lw_nw : List Cond := lw_tbl.filter lw_nest
def mk_aty (j : Nat) : FieldType := match j with
  | 0 => .int
  | 1 => .long
  | 2 => .byte
  | 3 => .boolean
  | 4 => .object "WhimWind$State"
  | 5 => .object "WhimWind$Rule"
  | 6 => .object "WhimWind$World"
  | _ => .array .int
def mk_tys (ac : Nat → ClassId) : List (ClassId × FieldType) := (List.range 8).map (fun j => (ac j, mk_aty j))
theorem mk_tys_at (ac : Nat → ClassId) {j : Nat} (h : j < 8) : (mk_tys ac)[j]? = some (ac j, mk_aty j) := by
  simp [mk_tys, h]
/-- which fields hold references: by the class's place in vwCl -/
def mk_isR (ci k : Nat) : Bool := match vwCl[ci]? with
  | some q => match (q.2.1 k).2.2.1.toList with
    | 'L' :: _ => true
    | '[' :: _ => true
    | _ => false
  | none => false
def mk_fs (ad : Nat → Nat) (s : mk_S) (i : Nat) (K : mk_K) : List Value := (List.range K.2.1).map (fun k => if mk_isR K.1 k then va_rf ((K.2.2.getD k none).map ad) else .int (s.2.1 i k))
def mk_e (ac ad : Nat → Nat) (s : mk_S) (i : Nat) (K : mk_K) : va_E :=
  if K.1 < 100 then .inr (K.1, mk_fs ad s i K)
  else if K.1 = 101 then .inl (ac 1, K.2.1, .inr (.inl (s.2.2 i)))
  else if K.1 ≤ 103 then .inl (ac (K.1 - 100), K.2.1, .inl (s.2.1 i))
  else .inl (ac (K.1 - 100), K.2.1, .inr (.inr (.inr (.inr (fun j => (K.2.2.getD j none).map ad)))))
def mk_ws (ac ad : Nat → Nat) (s : mk_S) : va_W := s.1.mapIdx (fun i K => (ad i, mk_e ac ad s i K))
theorem mk_ws_at (ac ad : Nat → Nat) (s : mk_S) (i : Nat) : (mk_ws ac ad s)[i]? = (s.1[i]?).map (fun K => (ad i, mk_e ac ad s i K)) := by
  simp [mk_ws]
theorem mk_ws_len (ac ad : Nat → Nat) (s : mk_S) : (mk_ws ac ad s).length = s.1.length := by simp [mk_ws]
def mk_cn (s : mk_S) : Nat := s.1.length
def mk_sn (s : mk_S) : Nat := (s.1.map (fun K => K.2.1)).sum
def mk_same (ad ad1 : Nat → Nat) (n : Nat) : Prop := ∀ a, (a < n ∨ 1000000 ≤ a) → ad1 a = ad a
theorem mk_same.rf {ad : Nat → Nat} {n : Nat} : mk_same ad ad n := fun _ _ => rfl
theorem mk_same.trans {ad ad1 ad2 : Nat → Nat} {n n1 : Nat} (h : mk_same ad ad1 n) (h1 : mk_same ad1 ad2 n1) (hn : n ≤ n1) : mk_same ad ad2 n := fun a ha => (h1 a (ha.imp (fun q => Nat.lt_of_lt_of_le q hn) id)).trans (h a ha)
theorem mk_tr_same {ad ad1 : Nat → Nat} {n : Nat} (h : mk_same ad ad1 n) {v : Value} (hv : mk_wv n v) : mk_tr ad1 v = mk_tr ad v := by
  cases v <;> simp [mk_tr]
  exact h _ hv
theorem mk_tr_map {ad ad1 : Nat → Nat} {n : Nat} (h : mk_same ad ad1 n) {S : List Value} (hv : ∀ v ∈ S, mk_wv n v) : S.map (mk_tr ad1) = S.map (mk_tr ad) :=
  List.map_congr_left fun v q => mk_tr_same h (hv v q)
theorem mk_wv.mono {n n1 : Nat} (hn : n ≤ n1) {v : Value} (h : mk_wv n v) : mk_wv n1 v := by
  cases v <;> first | exact h.imp (fun q => Nat.lt_of_lt_of_le q hn) id | exact trivial
theorem mk_tr_cat (ad : Nat → Nat) (v : Value) : (mk_tr ad v).category = v.category := by cases v <;> rfl
theorem mk_cat_map (ad : Nat → Nat) (S : List Value) : ((S.map (mk_tr ad)).map fun v => v.category) = S.map fun v => v.category := by
  rw [List.map_map]
  exact List.map_congr_left fun v _ => mk_tr_cat ad v
/-- the JVM's heap holds the state -/
def mk_R (D : va_G) (ac : Nat → Nat) (g : Nat → Nat → Int32) (ad : Nat → Nat) (A : Nat → Prop) (s : mk_S) (H : Heap) : Prop :=
  va_P D vwCl (mk_ws ac ad s) H ∧ va_D A (mk_ws ac ad s) ∧ (∀ K ∈ s.1, ∀ a, some a ∈ K.2.2 → a < s.1.length) ∧ s.1.length ≤ 1000000 ∧ ∀ a, 2000000 ≤ a → s.2.1 a = g a
/-- read-only int arrays from outside: the two tables of steps, the script -/
def mk_xs : List Nat := [2000000, 2000001, 3000000]
def mk_X3 (g : Nat → Nat → Int32) (ad : Nat → Nat) (A : Nat → Prop) (U : State) (H : Heap) : Prop :=
  (∀ a ∈ mk_xs, va_T .int (ad a) (g a 0).toNatClampNeg (fun j => .int (g a (j + 1))) A U H) ∧ va_Z "WhimWind" "ROW_STEP" "[I" (.ref (ad 2000000)) A U H ∧ va_Z "WhimWind" "COLUMN_STEP" "[I" (.ref (ad 2000001)) A U H
/-- the String constants: class, entry, text, its bytes -/
def mk_strs : List (String × Nat × String × List Int32) := [("WhimWind$Tape", 65, "person", [112, 101, 114, 115, 111, 110]),
  ("WhimWind$Tape", 67, "urge", [117, 114, 103, 101]),
  ("WhimWind$Tape", 69, "steady", [115, 116, 101, 97, 100, 121]),
  ("WhimWind$Tape", 71, "faces", [102, 97, 99, 101, 115]),
  ("WhimWind$Tape", 73, "row", [114, 111, 119]),
  ("WhimWind$Tape", 75, "column", [99, 111, 108, 117, 109, 110]),
  ("WhimWind$Tape", 77, "wind", [119, 105, 110, 100]),
  ("WhimWind$Tape", 79, "acted", [97, 99, 116, 101, 100]),
  ("WhimWind$Tape", 81, "since", [115, 105, 110, 99, 101]),
  ("WhimWind$Tape", 83, "ground", [103, 114, 111, 117, 110, 100]),
  ("WhimWind$Tape", 85, "off", [111, 102, 102]),
  ("WhimWind$Tape", 87, "hour", [104, 111, 117, 114]),
  ("WhimWind$Tape", 89, "if", [105, 102]),
  ("WhimWind$Tape", 91, "and", [97, 110, 100]),
  ("WhimWind$Tape", 93, "or", [111, 114]),
  ("WhimWind$Tape", 95, "not", [110, 111, 116]),
  ("WhimWind$Tape", 97, "whim", [119, 104, 105, 109]),
  ("WhimWind$Tape", 99, "plateau", [112, 108, 97, 116, 101, 97, 117]),
  ("WhimWind$Tape", 101, "mill", [109, 105, 108, 108]),
  ("WhimWind$Tape", 103, "roof", [114, 111, 111, 102]),
  ("WhimWind$Tape", 105, "", []),
  ("WhimWindModel", 170, "person", [112, 101, 114, 115, 111, 110]),
  ("WhimWindModel", 172, "urge", [117, 114, 103, 101]),
  ("WhimWindModel", 173, "steady", [115, 116, 101, 97, 100, 121]),
  ("WhimWindModel", 174, "faces", [102, 97, 99, 101, 115]),
  ("WhimWindModel", 175, "row", [114, 111, 119]),
  ("WhimWindModel", 177, "column", [99, 111, 108, 117, 109, 110]),
  ("WhimWindModel", 179, "wind", [119, 105, 110, 100]),
  ("WhimWindModel", 181, "acted", [97, 99, 116, 101, 100]),
  ("WhimWindModel", 182, "since", [115, 105, 110, 99, 101]),
  ("WhimWindModel", 184, "ground", [103, 114, 111, 117, 110, 100]),
  ("WhimWindModel", 185, "off", [111, 102, 102]),
  ("WhimWindModel", 187, "hour", [104, 111, 117, 114]),
  ("WhimWindModel", 268, "not", [110, 111, 116]),
  ("WhimWindModel", 282, "and", [97, 110, 100]),
  ("WhimWindModel", 284, "or", [111, 114]),
  ("WhimWindModel", 286, "plateau", [112, 108, 97, 116, 101, 97, 117]),
  ("WhimWindModel", 288, "mill", [109, 105, 108, 108]),
  ("WhimWindModel", 290, "roof", [114, 111, 111, 102]),
  ("WhimWindModel", 328, "whim", [119, 104, 105, 109]),
  ("WhimWindModel", 330, "if", [105, 102])]
theorem va_AOA.moved {u U : State} (hvm : u.vm.Alike U.vm) (h : va_AOA .int u) : va_AOA .int U := by
  unfold va_AOA Cond.before Cond.holds at h
  simp only [Cond.value, beq_iff_eq] at h
  cases hc : u.vm.findClass (FieldType.array .int).toString with
  | none => simp [hc] at h
  | some comp =>
    simp only [hc, Option.bind_some, Option.bind_eq_some_iff, Option.map_eq_some_iff] at h
    obtain ⟨c, hi0, k, hk, hb⟩ := h
    have f1 : U.vm.findClass (FieldType.array .int).toString = some comp := by rw [hvm.findClass]; exact hc
    obtain ⟨k', hk', he⟩ := hvm.2.2 _ _ hk
    have hbq : U.vm.bare = u.vm.bare := by first | exact hvm.bare_eq | exact hvm.bare_eq.symm
    have hi : (U.vm.classes.findIdx? fun (x : Class) => match x.kind with | .array component _ => component == comp | _ => false) = some c := by
      have e1 := va_idx_bare U.vm comp
      have e2 := va_idx_bare u.vm comp
      rw [hbq] at e1
      exact e1.symm.trans (e2.trans hi0)
    have hkind : k'.kind = k.kind := by rw [he]
    unfold va_AOA Cond.before Cond.holds
    simp only [Cond.value, beq_iff_eq]
    rw [f1, Option.bind_some]
    refine Option.bind_eq_some_iff.mpr ⟨c, hi, Option.map_eq_some_iff.mpr ⟨k', hk', ?_⟩⟩
    rw [hkind, hvm.findClass]
    exact hb
/-- arrays of references can be made -/
def mk_AO (U : State) : Prop := va_AO "WhimWind$State" U ∧ va_AO "WhimWind$Rule" U ∧ va_AO "WhimWind$World" U ∧ va_AOA .int U
theorem mk_AO.moved {u U : State} (hvm : u.vm.Alike U.vm) (h : mk_AO u) : mk_AO U := ⟨h.1.moved hvm, h.2.1.moved hvm, h.2.2.1.moved hvm, h.2.2.2.moved hvm⟩
def mk_str (i : Nat) : String × Nat × String × List Int32 := mk_strs.getD i ("", 0, "", [])
def mk_Y (ad : Nat → Nat) (A : Nat → Prop) (U : State) (H : Heap) : Prop :=
  (∀ i, i < 41 → vk_S 1 [(mk_str i).2.2.2.length] [(mk_str i).2.2.2] (fun _ => ad (1000000 + i)) (fun _ => ad (1500000 + i)) A U H ∧ vk_R (mk_str i).1 (mk_str i).2.1 (mk_str i).2.2.1 (ad (1000000 + i)) U) ∧ va_Z "java/lang/String" "COMPACT_STRINGS" "Z" (.int 1) A U H ∧ (va_Z "jdk/internal/util/Preconditions" "SIOOBE_FORMATTER" "Ljava/util/function/BiFunction;" .null A U H ∨ va_Z "jdk/internal/util/Preconditions" "SIOOBE_FORMATTER" "Ljava/util/function/BiFunction;" (.ref (ad 1600000)) A U H) ∧ mk_AO U
def mk_E (D : va_G) (ac : Nat → Nat) (g : Nat → Nat → Int32) (ad : Nat → Nat) (A : Nat → Prop) (U : State) : Prop :=
  va_K D vwCl (mk_tys ac) U ∧ (∀ w ∈ lw_nw, va_Nw w U) ∧ (∀ q, U.heap.size ≤ q → A q) ∧ mk_X3 g ad A U U.heap ∧ mk_Y ad A U U.heap
theorem mk_X3.next {g : Nat → Nat → Int32} {ad : Nat → Nat} {A B : Nat → Prop} {u U : State} {H H1 : Heap} (h : mk_X3 g ad A u H) (hvm : u.vm.Alike U.vm) (hq : ∀ a : Nat, a < H.size → ¬ A a → H1[a]? = H[a]?) (hAB : ∀ q, B q → A q) : mk_X3 g ad B U H1 :=
  ⟨fun a ha => (((h.1 a ha).moved hvm).kept hq).narrow hAB, ((h.2.1.moved hvm).kept hq).narrow hAB, ((h.2.2.moved hvm).kept hq).narrow hAB⟩
theorem mk_Nw.warm {w : Cond} (hw : w ∈ lw_nw) {s U : State} (hW : s.WarmedH U.vm) (h : va_Nw w s) : va_Nw w U := by
  have h2 : lw_nest w = true := (List.mem_filter.mp hw).2
  cases w <;> first | exact h.warmF hW | exact h.warmM hW | (exact absurd h2 (by simp [lw_nest]))
theorem mk_Nw.same {w : Cond} (hw : w ∈ lw_nw) {u U : State} (hv : u.vm = U.vm) (h : va_Nw w u) : va_Nw w U := by
  have h2 : lw_nest w = true := (List.mem_filter.mp hw).2
  cases w <;> first | exact va_Nw.same rfl hv h | (exact absurd h2 (by simp [lw_nest]))
theorem mk_Y.next {ad : Nat → Nat} {A B : Nat → Prop} {u U : State} {H H1 : Heap} (h : mk_Y ad A u H) (hW : u.WarmedH U.vm) (hq : ∀ a : Nat, a < H.size → ¬ A a → H1[a]? = H[a]?) (hAB : ∀ q, B q → A q) : mk_Y ad B U H1 := by
  refine ⟨fun i hi => ⟨(((h.1 i hi).1.moved hW.alike).kept hq).narrow hAB, (h.1 i hi).2.warm hW⟩, ((h.2.1.moved hW.alike).kept hq).narrow hAB, ?_, h.2.2.2.moved hW.alike⟩
  rcases h.2.2.1 with q | q
  · exact Or.inl (((q.moved hW.alike).kept hq).narrow hAB)
  · exact Or.inr (((q.moved hW.alike).kept hq).narrow hAB)
/-- the surroundings, further on -/
theorem mk_E.next {D : va_G} {ac : Nat → Nat} {g : Nat → Nat → Int32} {ad : Nat → Nat} {A B : Nat → Prop} {s U : State} {H : Heap} {locs : List Loc} (h : mk_E D ac g ad A s) (hS : va_S A s.heap H locs) (hU : U.heap = H) (hW : s.WarmedH U.vm) (hAB : ∀ q, B q → A q) (hB : ∀ q, U.heap.size ≤ q → B q) : mk_E D ac g ad B U := by
  obtain ⟨h1, h2, h3, h4, h5⟩ := h
  exact ⟨h1.moved hW.alike, fun w hw => mk_Nw.warm hw hW (h2 w hw), hB, by rw [hU]; exact h4.next hW.alike hS.2.1 hAB, by rw [hU]; exact h5.next hW hS.2.1 hAB⟩
theorem mk_E.same {D : va_G} {ac : Nat → Nat} {g : Nat → Nat → Int32} {ad : Nat → Nat} {A : Nat → Prop} {u U : State} (h : mk_E D ac g ad A u) (hv : u.vm = U.vm) (hh : U.heap = u.heap) : mk_E D ac g ad A U := by
  obtain ⟨h1, h2, h3, h4, h5⟩ := h
  have al : u.vm.Alike U.vm := by rw [hv]; exact Vm.Alike.refl _
  refine ⟨h1.moved al, fun w hw => mk_Nw.same hw hv (h2 w hw), by rw [hh]; exact h3, by rw [hh]; exact h4.next al (fun _ _ _ => rfl) (fun _ q => q), ?_⟩
  rw [hh]
  refine ⟨fun i hi => ⟨(h5.1 i hi).1.moved al, (h5.1 i hi).2.same hv.symm⟩, h5.2.1.moved al, ?_, h5.2.2.2.moved al⟩
  rcases h5.2.2.1 with q | q
  · exact Or.inl (q.moved al)
  · exact Or.inr (q.moved al)
theorem mk_E.ad {D : va_G} {ac : Nat → Nat} {g : Nat → Nat → Int32} {ad ad1 : Nat → Nat} {A : Nat → Prop} {U : State} {n : Nat} (h : mk_E D ac g ad A U) (hs : mk_same ad ad1 n) : mk_E D ac g ad1 A U := by
  obtain ⟨h1, h2, h3, h4, h5⟩ := h
  have e : ∀ i, ad1 (1000000 + i) = ad (1000000 + i) := fun i => hs _ (Or.inr (Nat.le_add_right _ _))
  have e5 : ∀ i, ad1 (1500000 + i) = ad (1500000 + i) := fun i => hs _ (Or.inr (by omega))
  have ex : ∀ a ∈ mk_xs, ad1 a = ad a := fun a ha => hs a (Or.inr (by simp [mk_xs] at ha; omega))
  refine ⟨h1, h2, h3, ⟨fun a ha => by rw [ex a ha]; exact h4.1 a ha, by rw [ex _ (by simp [mk_xs])]; exact h4.2.1, by rw [ex _ (by simp [mk_xs])]; exact h4.2.2⟩, ⟨fun i hi => ?_, h5.2.1, ?_, h5.2.2.2⟩⟩
  · simp only [e, e5]
    exact h5.1 i hi
  · rw [hs 1600000 (Or.inr (by omega))]
    exact h5.2.2.1
/-- what is fixed of a running method -/
def mk_C (M : mk_M) (R : Room) (p : Program) (s : State) (m : MethodId) (args : Array Value) (meth : Method) (c : Code) : Prop :=
  p.tables.exec = Jvm.exec ∧ c.code = M.2.1 ∧ c.maxLocals = M.2.2.1 ∧ s.vm.findClass M.1.cls = some m.cls ∧ (∀ w ∈ lw_gw, w.before args s = true) ∧ (M.1.name = "<init>" → meth.name = "<init>") ∧ M.2.2.2.2.1 ≤ R.frames ∧ M.2.2.2.2.2 ≤ R.locals
def mk_B (R : Room) (c0 s0 : Nat) (s : mk_S) (r : mk_Z) : Prop := c0 ≤ mk_cn s ∧ s0 ≤ mk_sn s ∧ mk_cn r.2 ≤ R.cells + c0 ∧ mk_sn r.2 ≤ R.slots + s0
def mk_L (ls : Array Slot) (nL : Nat) (ad : Nat → Nat) (L : List (Option Value)) : Prop := ls.size = nL ∧ lv_wf ls ∧ ∀ (i : Nat) (v : Value), L[i]? = some (some v) → ls[i]? = some (.val (mk_tr ad v))
def mk_wf (n : Nat) (L : List (Option Value)) (S : List Value) : Prop := (∀ v, some v ∈ L → mk_wv n v) ∧ ∀ v ∈ S, mk_wv n v
/-- an answer can be given at a place of the code -/
def mk_rt (M : mk_M) (pc : Nat) (v : Option Value) : Prop := match v with
  | none => decode M.2.1 pc = .ok (.return_, 1) ∧ M.2.2.2.1 = none
  | some (.int x) => decode M.2.1 pc = .ok (.ireturn, 1) ∧ ∃ ty, M.2.2.2.1 = some ty ∧ narrow ty (.int x) = .int x
  | some (.long _) => decode M.2.1 pc = .ok (.lreturn, 1) ∧ M.2.2.2.1 = some .long
  | some (.ref _) => decode M.2.1 pc = .ok (.areturn, 1) ∧ ∃ n, M.2.2.2.1 = some (.object n)
  | some .null => decode M.2.1 pc = .ok (.areturn, 1) ∧ ∃ n, M.2.2.2.1 = some (.object n)
  | _ => False
def mk_wr (r : mk_Z) : Prop := ∀ v, r.1 = some v → mk_wv r.2.1.length v
/-- from here the method comes to its end with the answer and the state r -/
def mk_X (M : mk_M) (pc : Nat) (L : List (Option Value)) (S : List Value) (t : mk_S) (r : mk_Z) : Prop :=
  ∀ (p : Program) (l : Launch) (e : Env) (R : Room) (s : State) (m : MethodId) (args : Array Value) (below : List Frame) (meth : Method) (c : Code) (Q : State → Prop) (D : va_G) (ac : Nat → Nat) (g : Nat → Nat → Int32) (A : Nat → Prop) (c0 s0 : Nat) (H : Heap) (locs : List Loc) (ls : Array Slot) (ad : Nat → Nat),
    mk_C M R p s m args meth c → mk_B R c0 s0 t r → mk_E D ac g ad A s → mk_R D ac g ad A t H → va_S A s.heap H locs → mk_L ls M.2.2.1 ad L → mk_wf t.1.length L S →
    (∀ (H1 : Heap) (locs1 : List Loc) (ls1 : Array Slot) (ad1 : Nat → Nat) (pc1 : Nat), mk_same ad ad1 t.1.length → mk_R D ac g ad1 A r.2 H1 → va_S A s.heap H1 locs1 → mk_wr r → mk_rt M pc1 r.1 → W p l e R s m args below meth c H1 locs1 (mk_cn r.2 - c0) (mk_sn r.2 - s0) Q (F0 m pc1 ls1 ((r.1.map (mk_tr ad1)).toList))) →
    W p l e R s m args below meth c H locs (mk_cn t - c0) (mk_sn t - s0) Q (F0 m pc ls (S.map (mk_tr ad)))
def mk_gr (t : mk_S) (r : mk_Z) : Prop := mk_cn t ≤ mk_cn r.2 ∧ mk_sn t ≤ mk_sn r.2
/-- the walk from here does what o says, if o says anything -/
def mk_O {α : Type} (w : α → Option Value) (M : mk_M) (pc : Nat) (L : List (Option Value)) (S : List Value) (t : mk_S) (o : Option (α × mk_S)) : Prop := ∀ z, o = some z → mk_gr t (w z.1, z.2) ∧ mk_X M pc L S t (w z.1, z.2)
