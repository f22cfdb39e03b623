/-- an array class over arrays of a type -/
def va_AOA (ty : FieldType) (U : State) : Prop := (Cond.arrayOver (.array ty)).before #[] U = true
theorem va_AOA.use {ty : FieldType} {A : Array Value} {U : State} (h : va_AOA ty U) : (Cond.arrayOver (.array ty)).before A U = true := h
def vr_up {α : Type} (f : Nat → α) (l : List Nat) (v : α) : Nat → α := fun a => if a ∈ l then v else f a
theorem vr_up_in {α : Type} {f : Nat → α} {l : List Nat} {v : α} {a : Nat} (h : a ∈ l) : vr_up f l v a = v := if_pos h
theorem vr_up_ne {α : Type} {f : Nat → α} {l : List Nat} {v : α} {a : Nat} (h : a ∉ l) : vr_up f l v a = f a := if_neg h
theorem vr_rows {L l : List Nat} {f : Nat → va_E} {e : va_E} (h : ∀ a, a ∈ l → a ∉ L) : va_pl L f ++ l.map (fun a => (a, e)) = va_pl (L ++ l) (vr_up f l e) := by
  unfold va_pl
  rw [List.map_append]
  congr 1
  · apply List.map_congr_left
    intro a ha
    rw [vr_up_ne (fun q => h a q ha)]
  · apply List.map_congr_left
    intro a ha
    rw [vr_up_in ha]
theorem vr_lay {X rows : va_W} {x : Nat × va_E} {pl : va_W} {D : va_G} {cl : List vw_C} {H : Heap} (hP : va_P D cl (((X ++ pl) ++ [x]) ++ rows) H) : va_P D cl ((X ++ [x]) ++ (pl ++ rows)) H := by
  rw [List.append_assoc (X ++ pl)] at hP
  have h := va_P.swap hP
  rw [← List.append_assoc X] at h
  have h2 := va_P.swap h
  rw [List.append_assoc (X ++ [x])] at h2
  exact h2
theorem vr_layD {X rows : va_W} {x : Nat × va_E} {pl : va_W} {A : Nat → Prop} (hD : va_D A (((X ++ pl) ++ [x]) ++ rows)) : va_D A ((X ++ [x]) ++ (pl ++ rows)) := by
  rw [List.append_assoc (X ++ pl)] at hD
  have h := va_D.swap hD
  rw [← List.append_assoc X] at h
  have h2 := va_D.swap h
  rw [List.append_assoc (X ++ [x])] at h2
  exact h2
theorem vr_outer (c : ClassId) (N h0 : Nat) : ∀ i : Nat, Jvm.Free.Multi.outerC c N h0 i = arrV c N (fun j => va_rf (if j < i then some (h0 + 1 + j) else none))
  | 0 => by
    show ({ cls := c, slots := Array.replicate N .null, vm := .none } : Cell) = _
    rw [arrV_new]
    refine congrArg (arrV c N) (funext fun j => ?_)
    simp [va_rf]
  | i + 1 => by
    show (Jvm.Free.Multi.outerC c N h0 i).setSlot i (.ref (h0 + 1 + i)) = _
    rw [vr_outer c N h0 i, arrV_store]
    refine congrArg (arrV c N) (funext fun j => ?_)
    by_cases e : j = i
    · subst e
      simp [updV, va_rf]
    · by_cases h : j < i
      · simp [updV, e, h, Nat.lt_succ_of_lt h]
      · simp [updV, e, h, show ¬ j < i + 1 by omega]
section VGM
variable {p : Program} {l : Launch} {e : Env} {R : Room} {s : State} {m : MethodId} {args : Array Value} {below : List Frame} {meth : Method} {c : Code} {H : Heap} {locs : List Loc} {cells slots : Nat} {Q : State → Prop}
variable {cc : ByteArray} {pc : Nat} {ls : Array Slot} {rest : List Value} {D : va_G} {cl : List vw_C} {A : Nat → Prop} {a : Nat} {tys : List (ClassId × FieldType)} {ws : va_W} {H0 : Heap}
theorem va_mna {X : va_W} {L : List Nat} {f : Nat → va_E} {cc : ByteArray} (hexec : p.tables.exec = Jvm.exec) (hb : c.code = cc) {own : String} {index : Nat} {ty : FieldType} {cy : ClassId} (hown : s.vm.findClass own = some m.cls) (hclink : (Cond.classLink own index ("[" ++ (FieldType.array ty).toString)).before args s = true) (hover : va_AOA ty s) (harr : (Cond.arrayClass ty).before args s = true) (hcy : s.vm.findClass (FieldType.array ty).toString = some cy)
    (hK : va_K D cl tys s) (hP : va_P D cl (X ++ va_pl L f) H) (hD : va_D A (X ++ va_pl L f)) (hS : va_S A H0 H locs) (hA : ∀ q, H0.size ≤ q → A q) {n k : Int32} {N' K' : Nat} {z : vp_A} (hn : ¬ n < 0) (hk : ¬ k < 0) (hN : n.toNatClampNeg = N') (hM : k.toNatClampNeg = K')
    (hb1 : N' * 4 ≤ 536870912) (hb2 : K' * componentBytes ty ≤ 536870912) (hb3 : K' ≤ 536870912) (hdf : fits ty (defaultValue ty) = true) (hdd : (defaultValue ty).isDefault = true) (hcells : cells + (1 + N') ≤ R.cells) (hslots : slots + (N' + N' * K') ≤ R.slots) (hz : ∀ c : ClassId, Jvm.Free.Multi.innerC c K' (defaultValue ty) = vp_cell c z) (hdg : decode cc pc = .ok (.multianewarray index 2, 4))
    (kk : ∀ (q : Nat) (r : Nat → Nat) (cA : ClassId) (H1 : Heap), (∀ i j : Nat, i < N' → j < N' → r i = r j → i = j) → (∀ i : Nat, i < N' → r i ∉ L) → va_K D cl (tys ++ [(cA, .array ty)]) s →
      va_P D cl ((X ++ [(q, .inl (cA, N', .inr (.inr (.inr (.inr (fun i => if i < N' then some (r i) else none))))))]) ++ va_pl (L ++ (List.range N').map r) (vr_up f ((List.range N').map r) (.inl (cy, z)))) H1 → va_D A ((X ++ [(q, .inl (cA, N', .inr (.inr (.inr (.inr (fun i => if i < N' then some (r i) else none))))))]) ++ va_pl (L ++ (List.range N').map r) (vr_up f ((List.range N').map r) (.inl (cy, z)))) → va_S A H0 H1 locs →
      W p l e R s m args below meth c H1 locs (cells + 1 + N') (slots + N' + N' * K') Q (F0 m (pc + 4) ls (.ref q :: rest))) : W p l e R s m args below meth c H locs cells slots Q (F0 m pc ls (.int k :: .int n :: rest)) := by
  subst hN
  subst hM
  intro T hT Xs
  obtain ⟨vm₁, cA, comp, -, fA, fC, hO, -, X', step⟩ := Xs.multianewarray2F hexec hown hclink (va_AOA.use hover) harr (g := F0 m pc ls (.int k :: .int n :: rest)) rfl (by rw [hb]; exact hdg) rfl hn hk hb1 hb2 hb3 hdf hdd hcells hslots
  have ec : some cy = some comp := hcy.symm.trans fC
  cases ec
  generalize hF : Jvm.Free.Multi.fill (T.setVm vm₁) cA cy n.toNatClampNeg k.toNatClampNeg (defaultValue ty) n.toNatClampNeg = F at X' step
  have hTh : (T.setVm vm₁).heap = H := hT
  obtain ⟨f1, f2, -, -⟩ := Jvm.Free.Multi.fill_facts (T.setVm vm₁) cA cy n.toNatClampNeg k.toNatClampNeg (defaultValue ty) n.toNatClampNeg
  rw [hF, hTh] at f1 f2
  have hold : ∀ x : Nat, x < H.size → F.heap[x]? = H[x]? := fun x hx => by
    have := Jvm.Free.Multi.fill_old (T.setVm vm₁) cA cy n.toNatClampNeg k.toNatClampNeg (defaultValue ty) (a := x) (by rw [hTh]; exact hx) n.toNatClampNeg
    rw [hF, hTh] at this
    exact this
  have hrow : ∀ j : Nat, j < n.toNatClampNeg → F.heap[H.size + 1 + j]? = some (vp_cell cy z) := fun j hj => by
    have := Jvm.Free.Multi.fill_inner (T.setVm vm₁) cA cy n.toNatClampNeg k.toNatClampNeg (defaultValue ty) n.toNatClampNeg j hj
    rw [hF, hTh, hz] at this
    exact this
  have hout : Jvm.Free.Multi.outerC cA n.toNatClampNeg H.size n.toNatClampNeg = vp_cell cA (n.toNatClampNeg, .inr (.inr (.inr (.inr (fun i => if i < n.toNatClampNeg then some (H.size + 1 + i) else none))))) := by
    rw [vp_cell_q]
    exact vr_outer cA n.toNatClampNeg H.size n.toNatClampNeg
  rw [hout] at f2
  have hlt : ∀ a, a ∈ L → a < H.size := fun a ha => by
    obtain ⟨k9, hk9⟩ := va_pl_get (X := X) (f := f) ha
    exact (hP k9 _ hk9).lt
  have hnl : ∀ i : Nat, i < n.toNatClampNeg → H.size + 1 + i ∉ L := fun i _ h => by
    have := hlt _ h
    omega
  have hnm : ∀ a, a ∈ (List.range n.toNatClampNeg).map (fun i => H.size + 1 + i) → a ∉ L := fun a ha h => by
    obtain ⟨i, -, rfl⟩ := List.mem_map.mp ha
    have := hlt _ h
    omega
  have hP0 : va_P D cl (X ++ va_pl L f) F.heap := hP.kept (fun k9 x hx => hold x.1 ((hP k9 x hx).lt))
  have hP1 : va_P D cl ((X ++ va_pl L f) ++ [(H.size, .inl (cA, n.toNatClampNeg, .inr (.inr (.inr (.inr (fun i => if i < n.toNatClampNeg then some (H.size + 1 + i) else none))))))]) F.heap := hP0.app (fun k9 x hx => by
    have h0 : k9 < 1 := (List.getElem?_eq_some_iff.mp hx).1
    rw [show k9 = 0 by omega] at hx
    cases hx
    exact f2)
  have hP2 : va_P D cl (((X ++ va_pl L f) ++ [(H.size, .inl (cA, n.toNatClampNeg, .inr (.inr (.inr (.inr (fun i => if i < n.toNatClampNeg then some (H.size + 1 + i) else none))))))]) ++ ((List.range n.toNatClampNeg).map (fun i => H.size + 1 + i)).map (fun a => (a, .inl (cy, z)))) F.heap := hP1.app (fun k9 x hx => by
    obtain ⟨a, ha, rfl⟩ := List.mem_map.mp (List.mem_of_getElem? hx)
    obtain ⟨i, hi, rfl⟩ := List.mem_map.mp ha
    exact hrow i (List.mem_range.mp hi))
  have hD2 : va_D A (((X ++ va_pl L f) ++ [(H.size, .inl (cA, n.toNatClampNeg, .inr (.inr (.inr (.inr (fun i => if i < n.toNatClampNeg then some (H.size + 1 + i) else none))))))]) ++ ((List.range n.toNatClampNeg).map (fun i => H.size + 1 + i)).map (fun a => (a, .inl (cy, z)))) := by
    have hD1 := hD.push (e := .inl (cA, n.toNatClampNeg, .inr (.inr (.inr (.inr (fun i => if i < n.toNatClampNeg then some (H.size + 1 + i) else none)))))) hP rfl (hA _ hS.1)
    generalize hW1 : (X ++ va_pl L f) ++ [(H.size, .inl (cA, n.toNatClampNeg, .inr (.inr (.inr (.inr (fun i => if i < n.toNatClampNeg then some (H.size + 1 + i) else none))))))] = W1 at hD1 hP1 ⊢
    have hle : ∀ (k9 : Nat) (x : Nat × va_E), W1[k9]? = some x → x.1 ≤ H.size := fun k9 x hx => by
      rw [← hW1] at hx
      by_cases hl : k9 < (X ++ va_pl L f).length
      · rw [List.getElem?_append_left hl] at hx
        exact Nat.le_of_lt ((hP k9 x hx).lt)
      · rw [List.getElem?_append_right (by omega)] at hx
        have h0 : k9 - (X ++ va_pl L f).length < 1 := (List.getElem?_eq_some_iff.mp hx).1
        rw [show k9 - (X ++ va_pl L f).length = 0 by omega] at hx
        cases hx
        exact Nat.le_refl _
    have hr : ∀ (k9 : Nat) (x : Nat × va_E), (((List.range n.toNatClampNeg).map (fun i => H.size + 1 + i)).map (fun a => ((a, .inl (cy, z)) : Nat × va_E)))[k9]? = some x → x.1 = H.size + 1 + k9 := fun k9 x hx => by
      rw [List.getElem?_map, List.getElem?_map] at hx
      by_cases h9 : k9 < n.toNatClampNeg
      · rw [List.getElem?_range h9] at hx
        cases hx
        rfl
      · have hn0 : (List.range n.toNatClampNeg)[k9]? = none := List.getElem?_eq_none (by rw [List.length_range]; omega)
        rw [hn0] at hx
        cases hx
    refine ⟨fun i j x y hi hj hxy => ?_, fun k9 x hx => ?_⟩
    · by_cases h1 : i < W1.length <;> by_cases h2 : j < W1.length
      · rw [List.getElem?_append_left h1] at hi
        rw [List.getElem?_append_left h2] at hj
        exact hD1.1 i j x y hi hj hxy
      · rw [List.getElem?_append_left h1] at hi
        rw [List.getElem?_append_right (by omega)] at hj
        have := hle _ _ hi
        have := hr _ _ hj
        omega
      · rw [List.getElem?_append_right (by omega)] at hi
        rw [List.getElem?_append_left h2] at hj
        have := hle _ _ hj
        have := hr _ _ hi
        omega
      · rw [List.getElem?_append_right (by omega)] at hi hj
        have := hr _ _ hi
        have := hr _ _ hj
        omega
    · by_cases h1 : k9 < W1.length
      · rw [List.getElem?_append_left h1] at hx
        exact hD1.2 k9 x hx
      · rw [List.getElem?_append_right (by omega)] at hx
        have := hr _ _ hx
        exact hA _ (by have := hS.1; omega)
  have hAr : ArrOfT s cA (.array ty) := fun N9 z9 => by
    obtain ⟨-, k9, hk9, cm9, hkk9⟩ := (hO 0 0 0).1
    exact ⟨(fun q hq => by cases hq), k9, hk9, cm9, hkk9⟩
  have hK2 : va_K D cl (tys ++ [(cA, .array ty)]) s := ⟨hK.1, fun k9 x hx => by
    by_cases hl : k9 < tys.length
    · rw [List.getElem?_append_left hl] at hx
      exact hK.2 k9 x hx
    · rw [List.getElem?_append_right (by omega)] at hx
      have h0 : k9 - tys.length < 1 := (List.getElem?_eq_some_iff.mp hx).1
      rw [show k9 - tys.length = 0 by omega] at hx
      cases hx
      exact ⟨hAr, fA⟩⟩
  obtain ⟨t, a1, b1⟩ := kk H.size (fun i => H.size + 1 + i) cA F.heap (fun i j _ _ h => by have h9 : H.size + 1 + i = H.size + 1 + j := h; omega) hnl hK2 (by rw [← vr_rows hnm]; exact vr_lay hP2) (by rw [← vr_rows hnm]; exact vr_layD hD2) ⟨by rw [f1]; have := hS.1; omega, fun x h1 h2 => (hold x (Nat.lt_of_lt_of_le h1 hS.1)).trans (hS.2.1 x h1 h2), hS.2.2⟩ F rfl X'
  refine ⟨t, step t ?_, b1⟩
  have e : T.heap.size = H.size := by rw [hT]
  rw [e]
  exact a1
end VGM


def RX0 : String := "WhimWind$History"
def TX0 : u_T := fun k => match k with
  | 0 => ("WhimWind$History", "states", "[LWhimWind$State;", true)
  | 1 => ("WhimWind$History", "next", "I", false)
  | _ => ("WhimWind$History", "size", "I", false)
def tyX0 : Nat → FieldType := fun k => match k with
  | 0 => .array (.object "WhimWind$State")
  | 1 => .int
  | _ => .int
abbrev wsX00 : List Cond := u_ws RX0 TX0 3
theorem nmX0 : ∀ a, a < 3 → ∀ b, b < 3 → a ≠ b → (TX0 a).2.1 ≠ (TX0 b).2.1 := by decide +kernel
theorem tyX0_ok : ∀ k, k < 3 → parseFieldDescriptor (TX0 k).2.2.1 = some (tyX0 k) := by decide +kernel
abbrev cX0_init : ByteArray := prog_2_method_1_code
def yX0_init : MethodName := ⟨RX0, "<init>", "()V"⟩
abbrev cX0_clear : ByteArray := prog_2_method_2_code
def yX0_clear : MethodName := ⟨RX0, "clear", "()V"⟩
abbrev cX0_keep : ByteArray := prog_2_method_3_code
def yX0_keep : MethodName := ⟨RX0, "keep", "(LWhimWind$State;)V"⟩
abbrev cX0_goBack : ByteArray := prog_2_method_4_code
def yX0_goBack : MethodName := ⟨RX0, "goBack", "(LWhimWind$State;)Z"⟩
abbrev cX0_copyFrom : ByteArray := prog_2_method_5_code
def yX0_copyFrom : MethodName := ⟨RX0, "copyFrom", "(LWhimWind$History;)V"⟩
def RX1 : String := "WhimWind$Notes"
def TX1 : u_T := fun k => match k with
  | 0 => ("WhimWind$Notes", "hour", "[I", true)
  | 1 => ("WhimWind$Notes", "cell", "[I", true)
  | 2 => ("WhimWind$Notes", "wind", "[I", true)
  | _ => ("WhimWind$Notes", "size", "I", false)
def tyX1 : Nat → FieldType := fun k => match k with
  | 0 => .array .int
  | 1 => .array .int
  | 2 => .array .int
  | _ => .int
abbrev wsX10 : List Cond := u_ws RX1 TX1 4
theorem nmX1 : ∀ a, a < 4 → ∀ b, b < 4 → a ≠ b → (TX1 a).2.1 ≠ (TX1 b).2.1 := by decide +kernel
theorem tyX1_ok : ∀ k, k < 4 → parseFieldDescriptor (TX1 k).2.2.1 = some (tyX1 k) := by decide +kernel
abbrev cX1_init : ByteArray := prog_3_method_1_code
def yX1_init : MethodName := ⟨RX1, "<init>", "()V"⟩
abbrev cX1_add : ByteArray := prog_3_method_2_code
def yX1_add : MethodName := ⟨RX1, "add", "(III)Z"⟩
abbrev cX1_lastHour : ByteArray := prog_3_method_3_code
def yX1_lastHour : MethodName := ⟨RX1, "lastHour", "()I"⟩
abbrev cX1_areSo : ByteArray := prog_3_method_4_code
def yX1_areSo : MethodName := ⟨RX1, "areSo", "(ILWhimWind$State;)Z"⟩
abbrev cX1_copyFrom : ByteArray := prog_3_method_5_code
def yX1_copyFrom : MethodName := ⟨RX1, "copyFrom", "(LWhimWind$Notes;)V"⟩
def RX2 : String := "WhimWind$Outlook"
def TX2 : u_T := fun k => match k with
  | 0 => ("WhimWind$Outlook", "now", "LWhimWind$World;", true)
  | 1 => ("WhimWind$Outlook", "rules", "[LWhimWind$Rule;", true)
  | 2 => ("WhimWind$Outlook", "ruleCount", "I", false)
  | 3 => ("WhimWind$Outlook", "weather", "LWhimWind$Weather;", true)
  | 4 => ("WhimWind$Outlook", "trial", "LWhimWind$State;", true)
  | 5 => ("WhimWind$Outlook", "gust", "[I", true)
  | 6 => ("WhimWind$Outlook", "shares", "[I", true)
  | 7 => ("WhimWind$Outlook", "oneHas", "[I", true)
  | 8 => ("WhimWind$Outlook", "otherHas", "[I", true)
  | 9 => ("WhimWind$Outlook", "winds", "[[I", true)
  | 10 => ("WhimWind$Outlook", "bestWay", "I", false)
  | 11 => ("WhimWind$Outlook", "bestRoofs", "I", false)
  | 12 => ("WhimWind$Outlook", "bestGround", "I", false)
  | _ => ("WhimWind$Outlook", "drawn", "I", false)
def tyX2 : Nat → FieldType := fun k => match k with
  | 0 => .object "WhimWind$World"
  | 1 => .array (.object "WhimWind$Rule")
  | 2 => .int
  | 3 => .object "WhimWind$Weather"
  | 4 => .object "WhimWind$State"
  | 5 => .array .int
  | 6 => .array .int
  | 7 => .array .int
  | 8 => .array .int
  | 9 => .array (.array .int)
  | 10 => .int
  | 11 => .int
  | 12 => .int
  | _ => .int
abbrev wsX20 : List Cond := u_ws RX2 TX2 14
theorem nmX2 : ∀ a, a < 14 → ∀ b, b < 14 → a ≠ b → (TX2 a).2.1 ≠ (TX2 b).2.1 := by decide +kernel
theorem tyX2_ok : ∀ k, k < 14 → parseFieldDescriptor (TX2 k).2.2.1 = some (tyX2 k) := by decide +kernel
abbrev cX2_init : ByteArray := prog_4_method_1_code
def yX2_init : MethodName := ⟨RX2, "<init>", "()V"⟩
abbrev cX2_inForce : ByteArray := prog_4_method_2_code
def yX2_inForce : MethodName := ⟨RX2, "inForce", "()LWhimWind$Rule;"⟩
abbrev cX2_numbered : ByteArray := prog_4_method_3_code
def yX2_numbered : MethodName := ⟨RX2, "numbered", "(I)LWhimWind$Rule;"⟩
abbrev cX2_goOn : ByteArray := prog_4_method_4_code
def yX2_goOn : MethodName := ⟨RX2, "goOn", "(II)V"⟩
abbrev cX2_aheadBy : ByteArray := prog_4_method_5_code
def yX2_aheadBy : MethodName := ⟨RX2, "aheadBy", "(III)I"⟩
abbrev cX2_firstHour : ByteArray := prog_4_method_6_code
def yX2_firstHour : MethodName := ⟨RX2, "firstHour", "(II)I"⟩
abbrev cX2_forgetWays : ByteArray := prog_4_method_7_code
def yX2_forgetWays : MethodName := ⟨RX2, "forgetWays", "()V"⟩
abbrev cX2_offer : ByteArray := prog_4_method_8_code
def yX2_offer : MethodName := ⟨RX2, "offer", "(I)V"⟩
abbrev cX2_best : ByteArray := prog_4_method_9_code
def yX2_best : MethodName := ⟨RX2, "best", "(I)I"⟩
abbrev cX2_bestCell : ByteArray := prog_4_method_10_code
def yX2_bestCell : MethodName := ⟨RX2, "bestCell", "(III)I"⟩
abbrev cX2_bestFace : ByteArray := prog_4_method_11_code
def yX2_bestFace : MethodName := ⟨RX2, "bestFace", "(III)I"⟩
abbrev cX2_bestStill : ByteArray := prog_4_method_12_code
def yX2_bestStill : MethodName := ⟨RX2, "bestStill", "(II)I"⟩
abbrev cX2_leastWine : ByteArray := prog_4_method_13_code
def yX2_leastWine : MethodName := ⟨RX2, "leastWine", "(IIII)I"⟩
abbrev cX2_blowers : ByteArray := prog_4_method_14_code
def yX2_blowers : MethodName := ⟨RX2, "blowers", "(III)I"⟩
abbrev cX2_sharesOf : ByteArray := prog_4_method_15_code
def yX2_sharesOf : MethodName := ⟨RX2, "sharesOf", "(I)I"⟩
abbrev cX2_longestLull : ByteArray := prog_4_method_16_code
def yX2_longestLull : MethodName := ⟨RX2, "longestLull", "(II)I"⟩
abbrev cX2_windiest : ByteArray := prog_4_method_17_code
def yX2_windiest : MethodName := ⟨RX2, "windiest", "(II)I"⟩
abbrev cX2_restsOf : ByteArray := prog_4_method_18_code
def yX2_restsOf : MethodName := ⟨RX2, "restsOf", "(IIII)I"⟩
abbrev cX2_playTwo : ByteArray := prog_4_method_19_code
def yX2_playTwo : MethodName := ⟨RX2, "playTwo", "(IIII)V"⟩
abbrev cX2_isRest : ByteArray := prog_4_method_20_code
def yX2_isRest : MethodName := ⟨RX2, "isRest", "(I)Z"⟩
abbrev cX2_fitting : ByteArray := prog_4_method_21_code
def yX2_fitting : MethodName := ⟨RX2, "fitting", "()I"⟩
abbrev cX2_isFitting : ByteArray := prog_4_method_22_code
def yX2_isFitting : MethodName := ⟨RX2, "isFitting", "(LWhimWind$Rule;)Z"⟩
abbrev cX2_bestLook : ByteArray := prog_4_method_23_code
def yX2_bestLook : MethodName := ⟨RX2, "bestLook", "(III)I"⟩
abbrev cX2_fillWinds : ByteArray := prog_4_method_24_code
def yX2_fillWinds : MethodName := ⟨RX2, "fillWinds", "(II)V"⟩
abbrev cX2_mostAlike : ByteArray := prog_4_method_25_code
def yX2_mostAlike : MethodName := ⟨RX2, "mostAlike", "(II)I"⟩
abbrev cX2_yearsOfNotions : ByteArray := prog_4_method_26_code
def yX2_yearsOfNotions : MethodName := ⟨RX2, "yearsOfNotions", "(IIII)I"⟩
abbrev cX2_goThroughNotions : ByteArray := prog_4_method_27_code
def yX2_goThroughNotions : MethodName := ⟨RX2, "goThroughNotions", "(II)V"⟩
abbrev cX2_draw : ByteArray := prog_4_method_28_code
def yX2_draw : MethodName := ⟨RX2, "draw", "()I"⟩
def RX3 : String := "WhimWind$Plateau"
def TX3 : u_T := fun k => match k with
  | 0 => ("WhimWind$Plateau", "side", "I", false)
  | 1 => ("WhimWind$Plateau", "catches", "I", false)
  | 2 => ("WhimWind$Plateau", "people", "I", false)
  | 3 => ("WhimWind$Plateau", "mills", "I", false)
  | 4 => ("WhimWind$Plateau", "roofs", "I", false)
  | 5 => ("WhimWind$Plateau", "cell", "[I", true)
  | 6 => ("WhimWind$Plateau", "steady", "[I", true)
  | 7 => ("WhimWind$Plateau", "faces", "[I", true)
  | 8 => ("WhimWind$Plateau", "millCell", "[I", true)
  | 9 => ("WhimWind$Plateau", "can", "[I", true)
  | 10 => ("WhimWind$Plateau", "roofCell", "[I", true)
  | _ => ("WhimWind$Plateau", "holds", "[I", true)
def tyX3 : Nat → FieldType := fun k => match k with
  | 0 => .int
  | 1 => .int
  | 2 => .int
  | 3 => .int
  | 4 => .int
  | 5 => .array .int
  | 6 => .array .int
  | 7 => .array .int
  | 8 => .array .int
  | 9 => .array .int
  | 10 => .array .int
  | _ => .array .int
abbrev wsX30 : List Cond := u_ws RX3 TX3 12
theorem nmX3 : ∀ a, a < 12 → ∀ b, b < 12 → a ≠ b → (TX3 a).2.1 ≠ (TX3 b).2.1 := by decide +kernel
theorem tyX3_ok : ∀ k, k < 12 → parseFieldDescriptor (TX3 k).2.2.1 = some (tyX3 k) := by decide +kernel
abbrev cX3_init : ByteArray := prog_5_method_1_code
def yX3_init : MethodName := ⟨RX3, "<init>", "()V"⟩
abbrev cX3_isThere : ByteArray := prog_5_method_2_code
def yX3_isThere : MethodName := ⟨RX3, "isThere", "()Z"⟩
abbrev cX3_cells : ByteArray := prog_5_method_3_code
def yX3_cells : MethodName := ⟨RX3, "cells", "()I"⟩
abbrev cX3_rowOf : ByteArray := prog_5_method_4_code
def yX3_rowOf : MethodName := ⟨RX3, "rowOf", "(I)I"⟩
abbrev cX3_columnOf : ByteArray := prog_5_method_5_code
def yX3_columnOf : MethodName := ⟨RX3, "columnOf", "(I)I"⟩
abbrev cX3_has : ByteArray := prog_5_method_6_code
def yX3_has : MethodName := ⟨RX3, "has", "(II)Z"⟩
abbrev cX3_clear : ByteArray := prog_5_method_7_code
def yX3_clear : MethodName := ⟨RX3, "clear", "()V"⟩
abbrev cX3_copyFrom : ByteArray := prog_5_method_8_code
def yX3_copyFrom : MethodName := ⟨RX3, "copyFrom", "(LWhimWind$Plateau;)V"⟩
def RX4 : String := "WhimWind$PlateauReader"
def TX4 : u_T := fun k => match k with
  | _ => ("", "", "", false)
def tyX4 : Nat → FieldType := fun k => match k with
  | _ => .int
abbrev wsX40 : List Cond := u_ws RX4 TX4 0
theorem nmX4 : ∀ a, a < 0 → ∀ b, b < 0 → a ≠ b → (TX4 a).2.1 ≠ (TX4 b).2.1 := by decide +kernel
theorem tyX4_ok : ∀ k, k < 0 → parseFieldDescriptor (TX4 k).2.2.1 = some (tyX4 k) := by decide +kernel
abbrev cX4_read : ByteArray := prog_6_method_2_code
def yX4_read : MethodName := ⟨RX4, "read", "(LWhimWind$Tape;LWhimWind$Plateau;)I"⟩
abbrev cX4_readClause : ByteArray := prog_6_method_3_code
def yX4_readClause : MethodName := ⟨RX4, "readClause", "(LWhimWind$Tape;LWhimWind$Plateau;I)V"⟩
abbrev cX4_mayStand : ByteArray := prog_6_method_4_code
def yX4_mayStand : MethodName := ⟨RX4, "mayStand", "(ILWhimWind$Plateau;Z)Z"⟩
abbrev cX4_readPlateau : ByteArray := prog_6_method_5_code
def yX4_readPlateau : MethodName := ⟨RX4, "readPlateau", "(LWhimWind$Tape;LWhimWind$Plateau;)V"⟩
abbrev cX4_readPerson : ByteArray := prog_6_method_6_code
def yX4_readPerson : MethodName := ⟨RX4, "readPerson", "(LWhimWind$Tape;LWhimWind$Plateau;)V"⟩
abbrev cX4_readMill : ByteArray := prog_6_method_7_code
def yX4_readMill : MethodName := ⟨RX4, "readMill", "(LWhimWind$Tape;LWhimWind$Plateau;)V"⟩
abbrev cX4_readRoof : ByteArray := prog_6_method_8_code
def yX4_readRoof : MethodName := ⟨RX4, "readRoof", "(LWhimWind$Tape;LWhimWind$Plateau;)V"⟩
abbrev cX4_next : ByteArray := prog_6_method_9_code
def yX4_next : MethodName := ⟨RX4, "next", "(LWhimWind$Tape;II)I"⟩
def RX5 : String := "WhimWind$Rule"
def TX5 : u_T := fun k => match k with
  | 0 => ("WhimWind$Rule", "code", "[I", true)
  | 1 => ("WhimWind$Rule", "extra", "[I", true)
  | 2 => ("WhimWind$Rule", "length", "I", false)
  | 3 => ("WhimWind$Rule", "clauses", "I", false)
  | 4 => ("WhimWind$Rule", "sumAt", "[I", true)
  | 5 => ("WhimWind$Rule", "testAt", "[I", true)
  | 6 => ("WhimWind$Rule", "endAt", "[I", true)
  | _ => ("WhimWind$Rule", "pile", "[J", true)
def tyX5 : Nat → FieldType := fun k => match k with
  | 0 => .array .int
  | 1 => .array .int
  | 2 => .int
  | 3 => .int
  | 4 => .array .int
  | 5 => .array .int
  | 6 => .array .int
  | _ => .array .long
abbrev wsX50 : List Cond := u_ws RX5 TX5 8
theorem nmX5 : ∀ a, a < 8 → ∀ b, b < 8 → a ≠ b → (TX5 a).2.1 ≠ (TX5 b).2.1 := by decide +kernel
theorem tyX5_ok : ∀ k, k < 8 → parseFieldDescriptor (TX5 k).2.2.1 = some (tyX5 k) := by decide +kernel
abbrev cX5_init : ByteArray := prog_7_method_1_code
def yX5_init : MethodName := ⟨RX5, "<init>", "()V"⟩
abbrev cX5_clear : ByteArray := prog_7_method_2_code
def yX5_clear : MethodName := ⟨RX5, "clear", "()V"⟩
abbrev cX5_add : ByteArray := prog_7_method_3_code
def yX5_add : MethodName := ⟨RX5, "add", "(II)V"⟩
abbrev cX5_addClause : ByteArray := prog_7_method_4_code
def yX5_addClause : MethodName := ⟨RX5, "addClause", "(II)V"⟩
abbrev cX5_says : ByteArray := prog_7_method_5_code
def yX5_says : MethodName := ⟨RX5, "says", "([J)Z"⟩
abbrev cX5_worth : ByteArray := prog_7_method_6_code
def yX5_worth : MethodName := ⟨RX5, "worth", "(II[J)J"⟩
abbrev cX5_isWord : ByteArray := prog_7_method_7_code
def yX5_isWord : MethodName := ⟨RX5, "isWord", "(I)Z"⟩
abbrev cX5_joined : ByteArray := prog_7_method_8_code
def yX5_joined : MethodName := ⟨RX5, "joined", "(IJJ)J"⟩
def RX6 : String := "WhimWind$RuleReader"
def TX6 : u_T := fun k => match k with
  | 0 => ("WhimWind$RuleReader", "waiting", "[I", true)
  | 1 => ("WhimWind$RuleReader", "top", "I", false)
  | 2 => ("WhimWind$RuleReader", "deep", "I", false)
  | 3 => ("WhimWind$RuleReader", "items", "I", false)
  | 4 => ("WhimWind$RuleReader", "next", "I", false)
  | 5 => ("WhimWind$RuleReader", "part", "I", false)
  | 6 => ("WhimWind$RuleReader", "sumFrom", "I", false)
  | _ => ("WhimWind$RuleReader", "testFrom", "I", false)
def tyX6 : Nat → FieldType := fun k => match k with
  | 0 => .array .int
  | 1 => .int
  | 2 => .int
  | 3 => .int
  | 4 => .int
  | 5 => .int
  | 6 => .int
  | _ => .int
abbrev wsX60 : List Cond := u_ws RX6 TX6 8
theorem nmX6 : ∀ a, a < 8 → ∀ b, b < 8 → a ≠ b → (TX6 a).2.1 ≠ (TX6 b).2.1 := by decide +kernel
theorem tyX6_ok : ∀ k, k < 8 → parseFieldDescriptor (TX6 k).2.2.1 = some (tyX6 k) := by decide +kernel
abbrev cX6_init : ByteArray := prog_8_method_1_code
def yX6_init : MethodName := ⟨RX6, "<init>", "()V"⟩
abbrev cX6_read : ByteArray := prog_8_method_2_code
def yX6_read : MethodName := ⟨RX6, "read", "(LWhimWind$Tape;LWhimWind$Rule;)I"⟩
abbrev cX6_readOn : ByteArray := prog_8_method_3_code
def yX6_readOn : MethodName := ⟨RX6, "readOn", "(LWhimWind$Tape;LWhimWind$Rule;)V"⟩
abbrev cX6_readClause : ByteArray := prog_8_method_4_code
def yX6_readClause : MethodName := ⟨RX6, "readClause", "(LWhimWind$Tape;LWhimWind$Rule;)V"⟩
abbrev cX6_readValue : ByteArray := prog_8_method_5_code
def yX6_readValue : MethodName := ⟨RX6, "readValue", "(LWhimWind$Tape;LWhimWind$Rule;)V"⟩
abbrev cX6_readFact : ByteArray := prog_8_method_6_code
def yX6_readFact : MethodName := ⟨RX6, "readFact", "(LWhimWind$Tape;LWhimWind$Rule;)V"⟩
abbrev cX6_readBehind : ByteArray := prog_8_method_7_code
def yX6_readBehind : MethodName := ⟨RX6, "readBehind", "(LWhimWind$Tape;LWhimWind$Rule;)V"⟩
abbrev cX6_closeBracket : ByteArray := prog_8_method_8_code
def yX6_closeBracket : MethodName := ⟨RX6, "closeBracket", "(LWhimWind$Tape;LWhimWind$Rule;)V"⟩
abbrev cX6_closeClause : ByteArray := prog_8_method_9_code
def yX6_closeClause : MethodName := ⟨RX6, "closeClause", "(LWhimWind$Tape;LWhimWind$Rule;)V"⟩
abbrev cX6_countItem : ByteArray := prog_8_method_10_code
def yX6_countItem : MethodName := ⟨RX6, "countItem", "(LWhimWind$Tape;)V"⟩
abbrev cX6_join : ByteArray := prog_8_method_11_code
def yX6_join : MethodName := ⟨RX6, "join", "(ILWhimWind$Rule;)V"⟩
abbrev cX6_push : ByteArray := prog_8_method_12_code
def yX6_push : MethodName := ⟨RX6, "push", "(I)V"⟩
abbrev cX6_release : ByteArray := prog_8_method_13_code
def yX6_release : MethodName := ⟨RX6, "release", "(ILWhimWind$Rule;)V"⟩
abbrev cX6_bindingOf : ByteArray := prog_8_method_14_code
def yX6_bindingOf : MethodName := ⟨RX6, "bindingOf", "(I)I"⟩
def RX7 : String := "WhimWind$State"
def TX7 : u_T := fun k => match k with
  | 0 => ("WhimWind$State", "cell", "[I", true)
  | 1 => ("WhimWind$State", "faces", "[I", true)
  | 2 => ("WhimWind$State", "urge", "[I", true)
  | 3 => ("WhimWind$State", "acted", "[I", true)
  | 4 => ("WhimWind$State", "since", "[I", true)
  | 5 => ("WhimWind$State", "ground", "[I", true)
  | 6 => ("WhimWind$State", "wind", "[I", true)
  | 7 => ("WhimWind$State", "off", "I", false)
  | _ => ("WhimWind$State", "hour", "I", false)
def tyX7 : Nat → FieldType := fun k => match k with
  | 0 => .array .int
  | 1 => .array .int
  | 2 => .array .int
  | 3 => .array .int
  | 4 => .array .int
  | 5 => .array .int
  | 6 => .array .int
  | 7 => .int
  | _ => .int
abbrev wsX70 : List Cond := u_ws RX7 TX7 9
theorem nmX7 : ∀ a, a < 9 → ∀ b, b < 9 → a ≠ b → (TX7 a).2.1 ≠ (TX7 b).2.1 := by decide +kernel
theorem tyX7_ok : ∀ k, k < 9 → parseFieldDescriptor (TX7 k).2.2.1 = some (tyX7 k) := by decide +kernel
abbrev cX7_init : ByteArray := prog_9_method_1_code
def yX7_init : MethodName := ⟨RX7, "<init>", "()V"⟩
abbrev cX7_begin : ByteArray := prog_9_method_2_code
def yX7_begin : MethodName := ⟨RX7, "begin", "(LWhimWind$Plateau;)V"⟩
abbrev cX7_copyFrom : ByteArray := prog_9_method_3_code
def yX7_copyFrom : MethodName := ⟨RX7, "copyFrom", "(LWhimWind$State;)V"⟩
abbrev cX7_urgeOn : ByteArray := prog_9_method_4_code
def yX7_urgeOn : MethodName := ⟨RX7, "urgeOn", "(II)V"⟩
abbrev cX7_windAt : ByteArray := prog_9_method_5_code
def yX7_windAt : MethodName := ⟨RX7, "windAt", "(I)I"⟩
abbrev cX7_windInAll : ByteArray := prog_9_method_6_code
def yX7_windInAll : MethodName := ⟨RX7, "windInAll", "()I"⟩
abbrev cX7_groundInAll : ByteArray := prog_9_method_7_code
def yX7_groundInAll : MethodName := ⟨RX7, "groundInAll", "()I"⟩
abbrev cX7_actedInAll : ByteArray := prog_9_method_8_code
def yX7_actedInAll : MethodName := ⟨RX7, "actedInAll", "()I"⟩
abbrev cX7_sum : ByteArray := prog_9_method_9_code
def yX7_sum : MethodName := ⟨RX7, "sum", "([I)I"⟩
abbrev cX7_share : ByteArray := prog_9_method_10_code
def yX7_share : MethodName := ⟨RX7, "share", "(II)I"⟩
def RX8 : String := "WhimWind$Tape"
def TX8 : u_T := fun k => match k with
  | 0 => ("WhimWind$Tape", "bytes", "[I", true)
  | 1 => ("WhimWind$Tape", "length", "I", false)
  | 2 => ("WhimWind$Tape", "at", "I", false)
  | 3 => ("WhimWind$Tape", "fault", "I", false)
  | 4 => ("WhimWind$Tape", "sign", "I", false)
  | 5 => ("WhimWind$Tape", "spot", "I", false)
  | _ => ("WhimWind$Tape", "number", "I", false)
def tyX8 : Nat → FieldType := fun k => match k with
  | 0 => .array .int
  | 1 => .int
  | 2 => .int
  | 3 => .int
  | 4 => .int
  | 5 => .int
  | _ => .int
abbrev wsX80 : List Cond := u_ws RX8 TX8 7
theorem nmX8 : ∀ a, a < 7 → ∀ b, b < 7 → a ≠ b → (TX8 a).2.1 ≠ (TX8 b).2.1 := by decide +kernel
theorem tyX8_ok : ∀ k, k < 7 → parseFieldDescriptor (TX8 k).2.2.1 = some (tyX8 k) := by decide +kernel
abbrev cX8_init : ByteArray := prog_10_method_1_code
def yX8_init : MethodName := ⟨RX8, "<init>", "()V"⟩
abbrev cX8_add : ByteArray := prog_10_method_2_code
def yX8_add : MethodName := ⟨RX8, "add", "(I)V"⟩
abbrev cX8_clear : ByteArray := prog_10_method_3_code
def yX8_clear : MethodName := ⟨RX8, "clear", "()V"⟩
abbrev cX8_open : ByteArray := prog_10_method_4_code
def yX8_open : MethodName := ⟨RX8, "open", "()V"⟩
abbrev cX8_isSound : ByteArray := prog_10_method_5_code
def yX8_isSound : MethodName := ⟨RX8, "isSound", "()Z"⟩
abbrev cX8_fail : ByteArray := prog_10_method_6_code
def yX8_fail : MethodName := ⟨RX8, "fail", "(I)V"⟩
abbrev cX8_advance : ByteArray := prog_10_method_7_code
def yX8_advance : MethodName := ⟨RX8, "advance", "()V"⟩
abbrev cX8_byteAt : ByteArray := prog_10_method_8_code
def yX8_byteAt : MethodName := ⟨RX8, "byteAt", "(I)I"⟩
abbrev cX8_readNumber : ByteArray := prog_10_method_9_code
def yX8_readNumber : MethodName := ⟨RX8, "readNumber", "()V"⟩
abbrev cX8_readWord : ByteArray := prog_10_method_10_code
def yX8_readWord : MethodName := ⟨RX8, "readWord", "()V"⟩
abbrev cX8_readSign : ByteArray := prog_10_method_11_code
def yX8_readSign : MethodName := ⟨RX8, "readSign", "(I)V"⟩
abbrev cX8_isHere : ByteArray := prog_10_method_12_code
def yX8_isHere : MethodName := ⟨RX8, "isHere", "(Ljava/lang/String;)Z"⟩
abbrev cX8_named : ByteArray := prog_10_method_13_code
def yX8_named : MethodName := ⟨RX8, "named", "(I)Ljava/lang/String;"⟩
def RX9 : String := "WhimWind$Weather"
def TX9 : u_T := fun k => match k with
  | _ => ("WhimWind$Weather", "words", "[J", true)
def tyX9 : Nat → FieldType := fun k => match k with
  | _ => .array .long
abbrev wsX90 : List Cond := u_ws RX9 TX9 1
theorem nmX9 : ∀ a, a < 1 → ∀ b, b < 1 → a ≠ b → (TX9 a).2.1 ≠ (TX9 b).2.1 := by decide +kernel
theorem tyX9_ok : ∀ k, k < 1 → parseFieldDescriptor (TX9 k).2.2.1 = some (tyX9 k) := by decide +kernel
abbrev cX9_init : ByteArray := prog_11_method_1_code
def yX9_init : MethodName := ⟨RX9, "<init>", "()V"⟩
abbrev cX9_pass : ByteArray := prog_11_method_2_code
def yX9_pass : MethodName := ⟨RX9, "pass", "(LWhimWind$Plateau;LWhimWind$Rule;LWhimWind$State;I)I"⟩
abbrev cX9_giversOf : ByteArray := prog_11_method_3_code
def yX9_giversOf : MethodName := ⟨RX9, "giversOf", "(LWhimWind$Plateau;LWhimWind$Rule;LWhimWind$State;I)I"⟩
abbrev cX9_tell : ByteArray := prog_11_method_4_code
def yX9_tell : MethodName := ⟨RX9, "tell", "(LWhimWind$Plateau;LWhimWind$State;I)V"⟩
abbrev cX9_blow : ByteArray := prog_11_method_5_code
def yX9_blow : MethodName := ⟨RX9, "blow", "(LWhimWind$Plateau;LWhimWind$State;I)V"⟩
abbrev cX9_puff : ByteArray := prog_11_method_6_code
def yX9_puff : MethodName := ⟨RX9, "puff", "(LWhimWind$Plateau;LWhimWind$State;I[I)V"⟩
abbrev cX9_grind : ByteArray := prog_11_method_7_code
def yX9_grind : MethodName := ⟨RX9, "grind", "(LWhimWind$Plateau;LWhimWind$State;)V"⟩
abbrev cX9_unroof : ByteArray := prog_11_method_8_code
def yX9_unroof : MethodName := ⟨RX9, "unroof", "(LWhimWind$Plateau;LWhimWind$State;)V"⟩
abbrev cX9_spread : ByteArray := prog_11_method_9_code
def yX9_spread : MethodName := ⟨RX9, "spread", "(LWhimWind$Plateau;LWhimWind$State;)V"⟩
def RX10 : String := "WhimWind$World"
def TX10 : u_T := fun k => match k with
  | 0 => ("WhimWind$World", "told", "LWhimWind$Plateau;", true)
  | 1 => ("WhimWind$World", "state", "LWhimWind$State;", true)
  | 2 => ("WhimWind$World", "acts", "LWhimWind$History;", true)
  | 3 => ("WhimWind$World", "notes", "LWhimWind$Notes;", true)
  | 4 => ("WhimWind$World", "force", "I", false)
  | _ => ("WhimWind$World", "x", "I", false)
def tyX10 : Nat → FieldType := fun k => match k with
  | 0 => .object "WhimWind$Plateau"
  | 1 => .object "WhimWind$State"
  | 2 => .object "WhimWind$History"
  | 3 => .object "WhimWind$Notes"
  | 4 => .int
  | _ => .int
abbrev wsX100 : List Cond := u_ws RX10 TX10 6
theorem nmX10 : ∀ a, a < 6 → ∀ b, b < 6 → a ≠ b → (TX10 a).2.1 ≠ (TX10 b).2.1 := by decide +kernel
theorem tyX10_ok : ∀ k, k < 6 → parseFieldDescriptor (TX10 k).2.2.1 = some (tyX10 k) := by decide +kernel
abbrev cX10_init : ByteArray := prog_12_method_1_code
def yX10_init : MethodName := ⟨RX10, "<init>", "()V"⟩
abbrev cX10_begin : ByteArray := prog_12_method_2_code
def yX10_begin : MethodName := ⟨RX10, "begin", "(LWhimWind$Plateau;)V"⟩
abbrev cX10_copyFrom : ByteArray := prog_12_method_3_code
def yX10_copyFrom : MethodName := ⟨RX10, "copyFrom", "(LWhimWind$World;)V"⟩
def RX11 : String := "WhimWind"
def TX11 : u_T := fun k => match k with
  | 0 => ("WhimWind", "tape", "LWhimWind$Tape;", true)
  | 1 => ("WhimWind", "ruleReader", "LWhimWind$RuleReader;", true)
  | 2 => ("WhimWind", "draft", "LWhimWind$Plateau;", true)
  | 3 => ("WhimWind", "outlook", "LWhimWind$Outlook;", true)
  | 4 => ("WhimWind", "now", "LWhimWind$World;", true)
  | 5 => ("WhimWind", "images", "[LWhimWind$World;", true)
  | _ => ("WhimWind", "imageMade", "[Z", true)
def tyX11 : Nat → FieldType := fun k => match k with
  | 0 => .object "WhimWind$Tape"
  | 1 => .object "WhimWind$RuleReader"
  | 2 => .object "WhimWind$Plateau"
  | 3 => .object "WhimWind$Outlook"
  | 4 => .object "WhimWind$World"
  | 5 => .array (.object "WhimWind$World")
  | _ => .array .boolean
abbrev wsX110 : List Cond := u_ws RX11 TX11 7
theorem nmX11 : ∀ a, a < 7 → ∀ b, b < 7 → a ≠ b → (TX11 a).2.1 ≠ (TX11 b).2.1 := by decide +kernel
theorem tyX11_ok : ∀ k, k < 7 → parseFieldDescriptor (TX11 k).2.2.1 = some (tyX11 k) := by decide +kernel
abbrev cX11_init : ByteArray := prog_1_method_1_code
def yX11_init : MethodName := ⟨RX11, "<init>", "()V"⟩
abbrev cX11_feed : ByteArray := prog_1_method_2_code
def yX11_feed : MethodName := ⟨RX11, "feed", "(IIIII)I"⟩
abbrev cX11_end : ByteArray := prog_1_method_3_code
def yX11_end : MethodName := ⟨RX11, "end", "(I)I"⟩
abbrev cX11_plateau : ByteArray := prog_1_method_4_code
def yX11_plateau : MethodName := ⟨RX11, "plateau", "()I"⟩
abbrev cX11_rule : ByteArray := prog_1_method_5_code
def yX11_rule : MethodName := ⟨RX11, "rule", "()I"⟩
abbrev cX11_force : ByteArray := prog_1_method_6_code
def yX11_force : MethodName := ⟨RX11, "force", "(I)I"⟩
abbrev cX11_person : ByteArray := prog_1_method_7_code
def yX11_person : MethodName := ⟨RX11, "person", "(II)I"⟩
abbrev cX11_mill : ByteArray := prog_1_method_8_code
def yX11_mill : MethodName := ⟨RX11, "mill", "(II)I"⟩
abbrev cX11_roof : ByteArray := prog_1_method_9_code
def yX11_roof : MethodName := ⟨RX11, "roof", "(II)I"⟩
abbrev cX11_wind : ByteArray := prog_1_method_10_code
def yX11_wind : MethodName := ⟨RX11, "wind", "(I)I"⟩
abbrev cX11_count : ByteArray := prog_1_method_11_code
def yX11_count : MethodName := ⟨RX11, "count", "(I)I"⟩
abbrev cX11_hour : ByteArray := prog_1_method_12_code
def yX11_hour : MethodName := ⟨RX11, "hour", "()I"⟩
abbrev cX11_wine : ByteArray := prog_1_method_13_code
def yX11_wine : MethodName := ⟨RX11, "wine", "(II)I"⟩
abbrev cX11_place : ByteArray := prog_1_method_14_code
def yX11_place : MethodName := ⟨RX11, "place", "(II)I"⟩
abbrev cX11_face : ByteArray := prog_1_method_15_code
def yX11_face : MethodName := ⟨RX11, "face", "(II)I"⟩
abbrev cX11_mend : ByteArray := prog_1_method_16_code
def yX11_mend : MethodName := ⟨RX11, "mend", "(I)I"⟩
abbrev cX11_undo : ByteArray := prog_1_method_17_code
def yX11_undo : MethodName := ⟨RX11, "undo", "()I"⟩
abbrev cX11_ahead : ByteArray := prog_1_method_18_code
def yX11_ahead : MethodName := ⟨RX11, "ahead", "(III)I"⟩
abbrev cX11_whim : ByteArray := prog_1_method_19_code
def yX11_whim : MethodName := ⟨RX11, "whim", "(I)I"⟩
abbrev cX11_storm : ByteArray := prog_1_method_20_code
def yX11_storm : MethodName := ⟨RX11, "storm", "(I)I"⟩
abbrev cX11_stand : ByteArray := prog_1_method_21_code
def yX11_stand : MethodName := ⟨RX11, "stand", "(III)I"⟩
abbrev cX11_turn : ByteArray := prog_1_method_22_code
def yX11_turn : MethodName := ⟨RX11, "turn", "(III)I"⟩
abbrev cX11_takes : ByteArray := prog_1_method_23_code
def yX11_takes : MethodName := ⟨RX11, "takes", "(IIII)I"⟩
abbrev cX11_blown : ByteArray := prog_1_method_24_code
def yX11_blown : MethodName := ⟨RX11, "blown", "(III)I"⟩
abbrev cX11_still : ByteArray := prog_1_method_25_code
def yX11_still : MethodName := ⟨RX11, "still", "(II)I"⟩
abbrev cX11_lull : ByteArray := prog_1_method_26_code
def yX11_lull : MethodName := ⟨RX11, "lull", "(II)I"⟩
abbrev cX11_harvest : ByteArray := prog_1_method_27_code
def yX11_harvest : MethodName := ⟨RX11, "harvest", "(II)I"⟩
abbrev cX11_rests : ByteArray := prog_1_method_28_code
def yX11_rests : MethodName := ⟨RX11, "rests", "(IIII)I"⟩
abbrev cX11_pence : ByteArray := prog_1_method_29_code
def yX11_pence : MethodName := ⟨RX11, "pence", "(II)I"⟩
abbrev cX11_note : ByteArray := prog_1_method_30_code
def yX11_note : MethodName := ⟨RX11, "note", "(III)I"⟩
abbrev cX11_ruled : ByteArray := prog_1_method_31_code
def yX11_ruled : MethodName := ⟨RX11, "ruled", "(I)I"⟩
abbrev cX11_look : ByteArray := prog_1_method_32_code
def yX11_look : MethodName := ⟨RX11, "look", "(II)I"⟩
abbrev cX11_seed : ByteArray := prog_1_method_33_code
def yX11_seed : MethodName := ⟨RX11, "seed", "(I)I"⟩
abbrev cX11_notions : ByteArray := prog_1_method_34_code
def yX11_notions : MethodName := ⟨RX11, "notions", "(IIII)I"⟩
abbrev cX11_image : ByteArray := prog_1_method_35_code
def yX11_image : MethodName := ⟨RX11, "image", "(I)I"⟩
abbrev cX11_back : ByteArray := prog_1_method_36_code
def yX11_back : MethodName := ⟨RX11, "back", "(I)I"⟩
abbrev cX11_within : ByteArray := prog_1_method_37_code
def yX11_within : MethodName := ⟨RX11, "within", "(III)Z"⟩
abbrev cX11_isPerson : ByteArray := prog_1_method_38_code
def yX11_isPerson : MethodName := ⟨RX11, "isPerson", "(I)Z"⟩
abbrev cX11_isMill : ByteArray := prog_1_method_39_code
def yX11_isMill : MethodName := ⟨RX11, "isMill", "(I)Z"⟩
abbrev cX11_isRoof : ByteArray := prog_1_method_40_code
def yX11_isRoof : MethodName := ⟨RX11, "isRoof", "(I)Z"⟩
abbrev cX11_isCell : ByteArray := prog_1_method_41_code
def yX11_isCell : MethodName := ⟨RX11, "isCell", "(I)Z"⟩
abbrev cX11_isAhead : ByteArray := prog_1_method_42_code
def yX11_isAhead : MethodName := ⟨RX11, "isAhead", "(II)Z"⟩
abbrev cX11_isWayAsked : ByteArray := prog_1_method_43_code
def yX11_isWayAsked : MethodName := ⟨RX11, "isWayAsked", "(II)Z"⟩
def RX12 : String := "WhimWindModel"
def TX12 : u_T := fun k => match k with
  | 0 => ("WhimWindModel", "thrown", "I", false)
  | 1 => ("WhimWindModel", "scalar", "[I", true)
  | 2 => ("WhimWindModel", "at", "[I", true)
  | 3 => ("WhimWindModel", "faces", "[I", true)
  | 4 => ("WhimWindModel", "urge", "[I", true)
  | 5 => ("WhimWindModel", "acted", "[I", true)
  | 6 => ("WhimWindModel", "last", "[I", true)
  | 7 => ("WhimWindModel", "ground", "[I", true)
  | 8 => ("WhimWindModel", "winds", "[I", true)
  | 9 => ("WhimWindModel", "steady", "[I", true)
  | 10 => ("WhimWindModel", "millAt", "[I", true)
  | 11 => ("WhimWindModel", "can", "[I", true)
  | 12 => ("WhimWindModel", "roofAt", "[I", true)
  | 13 => ("WhimWindModel", "holds", "[I", true)
  | 14 => ("WhimWindModel", "noteHour", "[I", true)
  | 15 => ("WhimWindModel", "noteCell", "[I", true)
  | 16 => ("WhimWindModel", "noteWind", "[I", true)
  | 17 => ("WhimWindModel", "toldAt", "[I", true)
  | 18 => ("WhimWindModel", "toldFaces", "[I", true)
  | 19 => ("WhimWindModel", "newScalar", "[I", true)
  | 20 => ("WhimWindModel", "newAt", "[I", true)
  | 21 => ("WhimWindModel", "newFaces", "[I", true)
  | 22 => ("WhimWindModel", "newSteady", "[I", true)
  | 23 => ("WhimWindModel", "newMill", "[I", true)
  | 24 => ("WhimWindModel", "newCan", "[I", true)
  | 25 => ("WhimWindModel", "newRoof", "[I", true)
  | 26 => ("WhimWindModel", "newHolds", "[I", true)
  | 27 => ("WhimWindModel", "taped", "I", false)
  | 28 => ("WhimWindModel", "p", "I", false)
  | 29 => ("WhimWindModel", "fault", "I", false)
  | 30 => ("WhimWindModel", "slot", "I", false)
  | 31 => ("WhimWindModel", "rules", "I", false)
  | 32 => ("WhimWindModel", "entries", "I", false)
  | 33 => ("WhimWindModel", "deep", "I", false)
  | 34 => ("WhimWindModel", "counted", "I", false)
  | 35 => ("WhimWindModel", "opened", "I", false)
  | 36 => ("WhimWindModel", "words", "I", false)
  | 37 => ("WhimWindModel", "tape", "[B", true)
  | 38 => ("WhimWindModel", "sort", "[I", true)
  | 39 => ("WhimWindModel", "number", "[I", true)
  | 40 => ("WhimWindModel", "clauses", "[I", true)
  | 41 => ("WhimWindModel", "sumAt", "[I", true)
  | 42 => ("WhimWindModel", "testAt", "[I", true)
  | 43 => ("WhimWindModel", "endAt", "[I", true)
  | 44 => ("WhimWindModel", "open", "[I", true)
  | 45 => ("WhimWindModel", "asked", "[J", true)
  | 46 => ("WhimWindModel", "stack", "[J", true)
  | 47 => ("WhimWindModel", "stilled", "I", false)
  | 48 => ("WhimWindModel", "past", "[I", true)
  | 49 => ("WhimWindModel", "pastOf", "[I", true)
  | 50 => ("WhimWindModel", "pastMany", "I", false)
  | 51 => ("WhimWindModel", "pastAt", "I", false)
  | 52 => ("WhimWindModel", "takesBack", "Z", false)
  | 53 => ("WhimWindModel", "bestWay", "I", false)
  | 54 => ("WhimWindModel", "fewestOff", "I", false)
  | 55 => ("WhimWindModel", "mostGround", "I", false)
  | 56 => ("WhimWindModel", "firstHas", "[I", true)
  | 57 => ("WhimWindModel", "secondHas", "[I", true)
  | 58 => ("WhimWindModel", "lay", "[I", true)
  | 59 => ("WhimWindModel", "shows", "[I", true)
  | 60 => ("WhimWindModel", "images", "[I", true)
  | 61 => ("WhimWindModel", "isMade", "[Z", true)
  | 62 => ("WhimWindModel", "imageAt", "I", false)
  | _ => ("WhimWindModel", "goesBack", "Z", false)
def tyX12 : Nat → FieldType := fun k => match k with
  | 0 => .int
  | 1 => .array .int
  | 2 => .array .int
  | 3 => .array .int
  | 4 => .array .int
  | 5 => .array .int
  | 6 => .array .int
  | 7 => .array .int
  | 8 => .array .int
  | 9 => .array .int
  | 10 => .array .int
  | 11 => .array .int
  | 12 => .array .int
  | 13 => .array .int
  | 14 => .array .int
  | 15 => .array .int
  | 16 => .array .int
  | 17 => .array .int
  | 18 => .array .int
  | 19 => .array .int
  | 20 => .array .int
  | 21 => .array .int
  | 22 => .array .int
  | 23 => .array .int
  | 24 => .array .int
  | 25 => .array .int
  | 26 => .array .int
  | 27 => .int
  | 28 => .int
  | 29 => .int
  | 30 => .int
  | 31 => .int
  | 32 => .int
  | 33 => .int
  | 34 => .int
  | 35 => .int
  | 36 => .int
  | 37 => .array .byte
  | 38 => .array .int
  | 39 => .array .int
  | 40 => .array .int
  | 41 => .array .int
  | 42 => .array .int
  | 43 => .array .int
  | 44 => .array .int
  | 45 => .array .long
  | 46 => .array .long
  | 47 => .int
  | 48 => .array .int
  | 49 => .array .int
  | 50 => .int
  | 51 => .int
  | 52 => .boolean
  | 53 => .int
  | 54 => .int
  | 55 => .int
  | 56 => .array .int
  | 57 => .array .int
  | 58 => .array .int
  | 59 => .array .int
  | 60 => .array .int
  | 61 => .array .boolean
  | 62 => .int
  | _ => .boolean
abbrev wsX120 : List Cond := u_ws RX12 TX12 64
theorem nmX12 : ∀ a, a < 64 → ∀ b, b < 64 → a ≠ b → (TX12 a).2.1 ≠ (TX12 b).2.1 := by decide +kernel
theorem tyX12_ok : ∀ k, k < 64 → parseFieldDescriptor (TX12 k).2.2.1 = some (tyX12 k) := by decide +kernel
abbrev cX12_init : ByteArray := prog_14_method_1_code
def yX12_init : MethodName := ⟨RX12, "<init>", "()V"⟩
abbrev cX12_in : ByteArray := prog_14_method_3_code
def yX12_in : MethodName := ⟨RX12, "in", "(JJJ)Z"⟩
abbrev cX12_bits : ByteArray := prog_14_method_4_code
def yX12_bits : MethodName := ⟨RX12, "bits", "(I)I"⟩
abbrev cX12_has : ByteArray := prog_14_method_5_code
def yX12_has : MethodName := ⟨RX12, "has", "(II)Z"⟩
abbrev cX12_isPlateau : ByteArray := prog_14_method_6_code
def yX12_isPlateau : MethodName := ⟨RX12, "isPlateau", "()Z"⟩
abbrev cX12_cells : ByteArray := prog_14_method_7_code
def yX12_cells : MethodName := ⟨RX12, "cells", "()I"⟩
abbrev cX12_isCell : ByteArray := prog_14_method_8_code
def yX12_isCell : MethodName := ⟨RX12, "isCell", "(I)Z"⟩
abbrev cX12_isPerson : ByteArray := prog_14_method_9_code
def yX12_isPerson : MethodName := ⟨RX12, "isPerson", "(I)Z"⟩
abbrev cX12_isMill : ByteArray := prog_14_method_10_code
def yX12_isMill : MethodName := ⟨RX12, "isMill", "(I)Z"⟩
abbrev cX12_isRoof : ByteArray := prog_14_method_11_code
def yX12_isRoof : MethodName := ⟨RX12, "isRoof", "(I)Z"⟩
abbrev cX12_feed : ByteArray := prog_14_method_12_code
def yX12_feed : MethodName := ⟨RX12, "feed", "(IIIII)I"⟩
abbrev cX12_put : ByteArray := prog_14_method_13_code
def yX12_put : MethodName := ⟨RX12, "put", "(I)V"⟩
abbrev cX12_end : ByteArray := prog_14_method_14_code
def yX12_end : MethodName := ⟨RX12, "end", "(I)I"⟩
abbrev cX12_wordOf : ByteArray := prog_14_method_15_code
def yX12_wordOf : MethodName := ⟨RX12, "wordOf", "(I)Ljava/lang/String;"⟩
abbrev cX12_fails : ByteArray := prog_14_method_16_code
def yX12_fails : MethodName := ⟨RX12, "fails", "(II)V"⟩
abbrev cX12_sign : ByteArray := prog_14_method_17_code
def yX12_sign : MethodName := ⟨RX12, "sign", "()I"⟩
abbrev cX12_blanks : ByteArray := prog_14_method_18_code
def yX12_blanks : MethodName := ⟨RX12, "blanks", "()V"⟩
abbrev cX12_isDigit : ByteArray := prog_14_method_19_code
def yX12_isDigit : MethodName := ⟨RX12, "isDigit", "()Z"⟩
abbrev cX12_stood : ByteArray := prog_14_method_20_code
def yX12_stood : MethodName := ⟨RX12, "stood", "(Ljava/lang/String;)Z"⟩
abbrev cX12_isNext : ByteArray := prog_14_method_21_code
def yX12_isNext : MethodName := ⟨RX12, "isNext", "(Ljava/lang/String;)Z"⟩
abbrev cX12_entry : ByteArray := prog_14_method_22_code
def yX12_entry : MethodName := ⟨RX12, "entry", "(II)V"⟩
abbrev cX12_isCounted : ByteArray := prog_14_method_23_code
def yX12_isCounted : MethodName := ⟨RX12, "isCounted", "(I)V"⟩
abbrev cX12_digits : ByteArray := prog_14_method_24_code
def yX12_digits : MethodName := ⟨RX12, "digits", "(I)I"⟩
abbrev cX12_value : ByteArray := prog_14_method_25_code
def yX12_value : MethodName := ⟨RX12, "value", "()V"⟩
abbrev cX12_term : ByteArray := prog_14_method_26_code
def yX12_term : MethodName := ⟨RX12, "term", "()V"⟩
abbrev cX12_sum : ByteArray := prog_14_method_27_code
def yX12_sum : MethodName := ⟨RX12, "sum", "()V"⟩
abbrev cX12_compared : ByteArray := prog_14_method_28_code
def yX12_compared : MethodName := ⟨RX12, "compared", "()V"⟩
abbrev cX12_top : ByteArray := prog_14_method_29_code
def yX12_top : MethodName := ⟨RX12, "top", "()I"⟩
abbrev cX12_opens : ByteArray := prog_14_method_30_code
def yX12_opens : MethodName := ⟨RX12, "opens", "(I)V"⟩
abbrev cX12_answers : ByteArray := prog_14_method_31_code
def yX12_answers : MethodName := ⟨RX12, "answers", "(I)V"⟩
abbrev cX12_fact : ByteArray := prog_14_method_32_code
def yX12_fact : MethodName := ⟨RX12, "fact", "()Z"⟩
abbrev cX12_test : ByteArray := prog_14_method_33_code
def yX12_test : MethodName := ⟨RX12, "test", "()V"⟩
abbrev cX12_amount : ByteArray := prog_14_method_34_code
def yX12_amount : MethodName := ⟨RX12, "amount", "(II)I"⟩
abbrev cX12_plateauWord : ByteArray := prog_14_method_35_code
def yX12_plateauWord : MethodName := ⟨RX12, "plateauWord", "(I)Ljava/lang/String;"⟩
abbrev cX12_plateauPart : ByteArray := prog_14_method_36_code
def yX12_plateauPart : MethodName := ⟨RX12, "plateauPart", "(I)V"⟩
abbrev cX12_isFull : ByteArray := prog_14_method_37_code
def yX12_isFull : MethodName := ⟨RX12, "isFull", "(II)Z"⟩
abbrev cX12_plateauClause : ByteArray := prog_14_method_38_code
def yX12_plateauClause : MethodName := ⟨RX12, "plateauClause", "(I)V"⟩
abbrev cX12_copies : ByteArray := prog_14_method_39_code
def yX12_copies : MethodName := ⟨RX12, "copies", "([I[I)V"⟩
abbrev cX12_goesOn : ByteArray := prog_14_method_40_code
def yX12_goesOn : MethodName := ⟨RX12, "goesOn", "()Z"⟩
abbrev cX12_starts : ByteArray := prog_14_method_41_code
def yX12_starts : MethodName := ⟨RX12, "starts", "()V"⟩
abbrev cX12_readsAll : ByteArray := prog_14_method_42_code
def yX12_readsAll : MethodName := ⟨RX12, "readsAll", "()V"⟩
abbrev cX12_begins : ByteArray := prog_14_method_43_code
def yX12_begins : MethodName := ⟨RX12, "begins", "()V"⟩
abbrev cX12_plateau : ByteArray := prog_14_method_44_code
def yX12_plateau : MethodName := ⟨RX12, "plateau", "()I"⟩
abbrev cX12_ruleClause : ByteArray := prog_14_method_45_code
def yX12_ruleClause : MethodName := ⟨RX12, "ruleClause", "(I)V"⟩
abbrev cX12_rule : ByteArray := prog_14_method_46_code
def yX12_rule : MethodName := ⟨RX12, "rule", "()I"⟩
abbrev cX12_force : ByteArray := prog_14_method_47_code
def yX12_force : MethodName := ⟨RX12, "force", "(I)I"⟩
abbrev cX12_wanted : ByteArray := prog_14_method_48_code
def yX12_wanted : MethodName := ⟨RX12, "wanted", "()J"⟩
abbrev cX12_truth : ByteArray := prog_14_method_49_code
def yX12_truth : MethodName := ⟨RX12, "truth", "(Z)J"⟩
abbrev cX12_both : ByteArray := prog_14_method_50_code
def yX12_both : MethodName := ⟨RX12, "both", "(IJJ)J"⟩
abbrev cX12_answer : ByteArray := prog_14_method_51_code
def yX12_answer : MethodName := ⟨RX12, "answer", "(III)J"⟩
abbrev cX12_sinceOf : ByteArray := prog_14_method_52_code
def yX12_sinceOf : MethodName := ⟨RX12, "sinceOf", "(I)I"⟩
abbrev cX12_person : ByteArray := prog_14_method_53_code
def yX12_person : MethodName := ⟨RX12, "person", "(II)I"⟩
abbrev cX12_mill : ByteArray := prog_14_method_54_code
def yX12_mill : MethodName := ⟨RX12, "mill", "(II)I"⟩
abbrev cX12_roof : ByteArray := prog_14_method_55_code
def yX12_roof : MethodName := ⟨RX12, "roof", "(II)I"⟩
abbrev cX12_wind : ByteArray := prog_14_method_56_code
def yX12_wind : MethodName := ⟨RX12, "wind", "(I)I"⟩
abbrev cX12_allGround : ByteArray := prog_14_method_57_code
def yX12_allGround : MethodName := ⟨RX12, "allGround", "()I"⟩
abbrev cX12_allWind : ByteArray := prog_14_method_58_code
def yX12_allWind : MethodName := ⟨RX12, "allWind", "()I"⟩
abbrev cX12_allActed : ByteArray := prog_14_method_59_code
def yX12_allActed : MethodName := ⟨RX12, "allActed", "()I"⟩
abbrev cX12_upTo : ByteArray := prog_14_method_60_code
def yX12_upTo : MethodName := ⟨RX12, "upTo", "(II)I"⟩
abbrev cX12_before : ByteArray := prog_14_method_61_code
def yX12_before : MethodName := ⟨RX12, "before", "(II)I"⟩
abbrev cX12_puffIn : ByteArray := prog_14_method_62_code
def yX12_puffIn : MethodName := ⟨RX12, "puffIn", "(II)I"⟩
abbrev cX12_givesWay : ByteArray := prog_14_method_63_code
def yX12_givesWay : MethodName := ⟨RX12, "givesWay", "(I)Z"⟩
abbrev cX12_blows : ByteArray := prog_14_method_64_code
def yX12_blows : MethodName := ⟨RX12, "blows", "(I)V"⟩
abbrev cX12_works : ByteArray := prog_14_method_65_code
def yX12_works : MethodName := ⟨RX12, "works", "()V"⟩
abbrev cX12_goes : ByteArray := prog_14_method_66_code
def yX12_goes : MethodName := ⟨RX12, "goes", "()I"⟩
abbrev cX12_goFor : ByteArray := prog_14_method_67_code
def yX12_goFor : MethodName := ⟨RX12, "goFor", "(I)V"⟩
abbrev cX12_moves : ByteArray := prog_14_method_68_code
def yX12_moves : MethodName := ⟨RX12, "moves", "(I)I"⟩
abbrev cX12_movesRow : ByteArray := prog_14_method_69_code
def yX12_movesRow : MethodName := ⟨RX12, "movesRow", "([I)V"⟩
abbrev cX12_movesAll : ByteArray := prog_14_method_70_code
def yX12_movesAll : MethodName := ⟨RX12, "movesAll", "(IZ)V"⟩
abbrev cX12_keepsAct : ByteArray := prog_14_method_71_code
def yX12_keepsAct : MethodName := ⟨RX12, "keepsAct", "()V"⟩
abbrev cX12_undo : ByteArray := prog_14_method_72_code
def yX12_undo : MethodName := ⟨RX12, "undo", "()I"⟩
abbrev cX12_hour : ByteArray := prog_14_method_73_code
def yX12_hour : MethodName := ⟨RX12, "hour", "()I"⟩
abbrev cX12_wine : ByteArray := prog_14_method_74_code
def yX12_wine : MethodName := ⟨RX12, "wine", "(II)I"⟩
abbrev cX12_place : ByteArray := prog_14_method_75_code
def yX12_place : MethodName := ⟨RX12, "place", "(II)I"⟩
abbrev cX12_face : ByteArray := prog_14_method_76_code
def yX12_face : MethodName := ⟨RX12, "face", "(II)I"⟩
abbrev cX12_mend : ByteArray := prog_14_method_77_code
def yX12_mend : MethodName := ⟨RX12, "mend", "(I)I"⟩
abbrev cX12_keepsAll : ByteArray := prog_14_method_78_code
def yX12_keepsAll : MethodName := ⟨RX12, "keepsAll", "()V"⟩
abbrev cX12_laysBack : ByteArray := prog_14_method_79_code
def yX12_laysBack : MethodName := ⟨RX12, "laysBack", "()V"⟩
abbrev cX12_ahead : ByteArray := prog_14_method_80_code
def yX12_ahead : MethodName := ⟨RX12, "ahead", "(III)I"⟩
abbrev cX12_whim : ByteArray := prog_14_method_81_code
def yX12_whim : MethodName := ⟨RX12, "whim", "(I)I"⟩
abbrev cX12_storm : ByteArray := prog_14_method_82_code
def yX12_storm : MethodName := ⟨RX12, "storm", "(I)I"⟩
abbrev cX12_startsWays : ByteArray := prog_14_method_83_code
def yX12_startsWays : MethodName := ⟨RX12, "startsWays", "()V"⟩
abbrev cX12_tries : ByteArray := prog_14_method_84_code
def yX12_tries : MethodName := ⟨RX12, "tries", "(II)V"⟩
abbrev cX12_ofWays : ByteArray := prog_14_method_85_code
def yX12_ofWays : MethodName := ⟨RX12, "ofWays", "(I)I"⟩
abbrev cX12_stand : ByteArray := prog_14_method_86_code
def yX12_stand : MethodName := ⟨RX12, "stand", "(III)I"⟩
abbrev cX12_turn : ByteArray := prog_14_method_87_code
def yX12_turn : MethodName := ⟨RX12, "turn", "(III)I"⟩
abbrev cX12_takes : ByteArray := prog_14_method_88_code
def yX12_takes : MethodName := ⟨RX12, "takes", "(IIII)I"⟩
abbrev cX12_blown : ByteArray := prog_14_method_89_code
def yX12_blown : MethodName := ⟨RX12, "blown", "(III)I"⟩
abbrev cX12_still : ByteArray := prog_14_method_90_code
def yX12_still : MethodName := ⟨RX12, "still", "(II)I"⟩
abbrev cX12_lull : ByteArray := prog_14_method_91_code
def yX12_lull : MethodName := ⟨RX12, "lull", "(II)I"⟩
abbrev cX12_harvest : ByteArray := prog_14_method_92_code
def yX12_harvest : MethodName := ⟨RX12, "harvest", "(II)I"⟩
abbrev cX12_laysFaces : ByteArray := prog_14_method_93_code
def yX12_laysFaces : MethodName := ⟨RX12, "laysFaces", "(III)V"⟩
abbrev cX12_isRest : ByteArray := prog_14_method_94_code
def yX12_isRest : MethodName := ⟨RX12, "isRest", "(I)Z"⟩
abbrev cX12_rests : ByteArray := prog_14_method_95_code
def yX12_rests : MethodName := ⟨RX12, "rests", "(IIII)I"⟩
abbrev cX12_pence : ByteArray := prog_14_method_96_code
def yX12_pence : MethodName := ⟨RX12, "pence", "(II)I"⟩
abbrev cX12_note : ByteArray := prog_14_method_97_code
def yX12_note : MethodName := ⟨RX12, "note", "(III)I"⟩
abbrev cX12_couldRule : ByteArray := prog_14_method_98_code
def yX12_couldRule : MethodName := ⟨RX12, "couldRule", "(I)Z"⟩
abbrev cX12_ruled : ByteArray := prog_14_method_99_code
def yX12_ruled : MethodName := ⟨RX12, "ruled", "(I)I"⟩
abbrev cX12_mostAlike : ByteArray := prog_14_method_100_code
def yX12_mostAlike : MethodName := ⟨RX12, "mostAlike", "(II)I"⟩
abbrev cX12_look : ByteArray := prog_14_method_101_code
def yX12_look : MethodName := ⟨RX12, "look", "(II)I"⟩
abbrev cX12_seed : ByteArray := prog_14_method_102_code
def yX12_seed : MethodName := ⟨RX12, "seed", "(I)I"⟩
abbrev cX12_draws : ByteArray := prog_14_method_103_code
def yX12_draws : MethodName := ⟨RX12, "draws", "(I)I"⟩
abbrev cX12_drawsNotion : ByteArray := prog_14_method_104_code
def yX12_drawsNotion : MethodName := ⟨RX12, "drawsNotion", "(I)V"⟩
abbrev cX12_notions : ByteArray := prog_14_method_105_code
def yX12_notions : MethodName := ⟨RX12, "notions", "(IIII)I"⟩
abbrev cX12_count : ByteArray := prog_14_method_106_code
def yX12_count : MethodName := ⟨RX12, "count", "(I)I"⟩
abbrev cX12_carryRow : ByteArray := prog_14_method_107_code
def yX12_carryRow : MethodName := ⟨RX12, "carryRow", "([I)V"⟩
abbrev cX12_carriesAll : ByteArray := prog_14_method_108_code
def yX12_carriesAll : MethodName := ⟨RX12, "carriesAll", "(IZ)V"⟩
abbrev cX12_image : ByteArray := prog_14_method_109_code
def yX12_image : MethodName := ⟨RX12, "image", "(I)I"⟩
abbrev cX12_back : ByteArray := prog_14_method_110_code
def yX12_back : MethodName := ⟨RX12, "back", "(I)I"⟩
def RJx145de : String := "java/io/Serializable"
def TJx145de : u_T := fun k => match k with
  | _ => ("", "", "", false)
def tyJx145de : Nat → FieldType := fun k => match k with
  | _ => .int
abbrev wsJx145de0 : List Cond := u_ws RJx145de TJx145de 0
theorem nmJx145de : ∀ a, a < 0 → ∀ b, b < 0 → a ≠ b → (TJx145de a).2.1 ≠ (TJx145de b).2.1 := by decide +kernel
theorem tyJx145de_ok : ∀ k, k < 0 → parseFieldDescriptor (TJx145de k).2.2.1 = some (tyJx145de k) := by decide +kernel
def RJx9f9b0 : String := "java/lang/CharSequence"
def TJx9f9b0 : u_T := fun k => match k with
  | _ => ("", "", "", false)
def tyJx9f9b0 : Nat → FieldType := fun k => match k with
  | _ => .int
abbrev wsJx9f9b00 : List Cond := u_ws RJx9f9b0 TJx9f9b0 0
theorem nmJx9f9b0 : ∀ a, a < 0 → ∀ b, b < 0 → a ≠ b → (TJx9f9b0 a).2.1 ≠ (TJx9f9b0 b).2.1 := by decide +kernel
theorem tyJx9f9b0_ok : ∀ k, k < 0 → parseFieldDescriptor (TJx9f9b0 k).2.2.1 = some (tyJx9f9b0 k) := by decide +kernel
def RJxb160c : String := "java/lang/Comparable"
def TJxb160c : u_T := fun k => match k with
  | _ => ("", "", "", false)
def tyJxb160c : Nat → FieldType := fun k => match k with
  | _ => .int
abbrev wsJxb160c0 : List Cond := u_ws RJxb160c TJxb160c 0
theorem nmJxb160c : ∀ a, a < 0 → ∀ b, b < 0 → a ≠ b → (TJxb160c a).2.1 ≠ (TJxb160c b).2.1 := by decide +kernel
theorem tyJxb160c_ok : ∀ k, k < 0 → parseFieldDescriptor (TJxb160c k).2.2.1 = some (tyJxb160c k) := by decide +kernel
def RJ6 : String := "java/lang/Integer"
def TJ6 : u_T := fun k => match k with
  | _ => ("", "", "", false)
def tyJ6 : Nat → FieldType := fun k => match k with
  | _ => .int
abbrev wsJ60 : List Cond := u_ws RJ6 TJ6 0
theorem nmJ6 : ∀ a, a < 0 → ∀ b, b < 0 → a ≠ b → (TJ6 a).2.1 ≠ (TJ6 b).2.1 := by decide +kernel
theorem tyJ6_ok : ∀ k, k < 0 → parseFieldDescriptor (TJ6 k).2.2.1 = some (tyJ6 k) := by decide +kernel
abbrev cJ6_bitCount_0f7a4 : ByteArray := prog_15_method_49_code
def yJ6_bitCount_0f7a4 : MethodName := ⟨RJ6, "bitCount", "(I)I"⟩
def RJ9 : String := "java/lang/Math"
def TJ9 : u_T := fun k => match k with
  | _ => ("", "", "", false)
def tyJ9 : Nat → FieldType := fun k => match k with
  | _ => .int
abbrev wsJ90 : List Cond := u_ws RJ9 TJ9 0
theorem nmJ9 : ∀ a, a < 0 → ∀ b, b < 0 → a ≠ b → (TJ9 a).2.1 ≠ (TJ9 b).2.1 := by decide +kernel
theorem tyJ9_ok : ∀ k, k < 0 → parseFieldDescriptor (TJ9 k).2.2.1 = some (tyJ9 k) := by decide +kernel
abbrev cJ9_max_7cf53 : ByteArray := prog_16_method_65_code
def yJ9_max_7cf53 : MethodName := ⟨RJ9, "max", "(II)I"⟩
abbrev cJ9_min_7cf53 : ByteArray := prog_16_method_69_code
def yJ9_min_7cf53 : MethodName := ⟨RJ9, "min", "(II)I"⟩
def RJ0 : String := "java/lang/String"
def TJ0 : u_T := fun k => match k with
  | _ => ("", "", "", false)
def tyJ0 : Nat → FieldType := fun k => match k with
  | _ => .int
abbrev wsJ00 : List Cond := u_ws RJ0 TJ0 0
theorem nmJ0 : ∀ a, a < 0 → ∀ b, b < 0 → a ≠ b → (TJ0 a).2.1 ≠ (TJ0 b).2.1 := by decide +kernel
theorem tyJ0_ok : ∀ k, k < 0 → parseFieldDescriptor (TJ0 k).2.2.1 = some (tyJ0 k) := by decide +kernel
abbrev cJ0_length_8abf5 : ByteArray := prog_17_method_54_code
def yJ0_length_8abf5 : MethodName := ⟨RJ0, "length", "()I"⟩
abbrev cJ0_charAt_5068e : ByteArray := prog_17_method_56_code
def yJ0_charAt_5068e : MethodName := ⟨RJ0, "charAt", "(I)C"⟩
abbrev cJ0_coder_7d493 : ByteArray := prog_17_method_152_code
def yJ0_coder_7d493 : MethodName := ⟨RJ0, "coder", "()B"⟩
abbrev cJ0_isLatin1_aae02 : ByteArray := prog_17_method_154_code
def yJ0_isLatin1_aae02 : MethodName := ⟨RJ0, "isLatin1", "()Z"⟩
abbrev cJ0_checkIndex_df160 : ByteArray := prog_17_method_155_code
def yJ0_checkIndex_df160 : MethodName := ⟨RJ0, "checkIndex", "(II)V"⟩
def RJ1 : String := "java/lang/StringLatin1"
def TJ1 : u_T := fun k => match k with
  | _ => ("", "", "", false)
def tyJ1 : Nat → FieldType := fun k => match k with
  | _ => .int
abbrev wsJ10 : List Cond := u_ws RJ1 TJ1 0
theorem nmJ1 : ∀ a, a < 0 → ∀ b, b < 0 → a ≠ b → (TJ1 a).2.1 ≠ (TJ1 b).2.1 := by decide +kernel
theorem tyJ1_ok : ∀ k, k < 0 → parseFieldDescriptor (TJ1 k).2.2.1 = some (tyJ1 k) := by decide +kernel
abbrev cJ1_charAt_3b067 : ByteArray := prog_18_method_2_code
def yJ1_charAt_3b067 : MethodName := ⟨RJ1, "charAt", "([BI)C"⟩
def RJ2 : String := "java/lang/StringUTF16"
def TJ2 : u_T := fun k => match k with
  | _ => ("", "", "", false)
def tyJ2 : Nat → FieldType := fun k => match k with
  | _ => .int
abbrev wsJ20 : List Cond := u_ws RJ2 TJ2 0
theorem nmJ2 : ∀ a, a < 0 → ∀ b, b < 0 → a ≠ b → (TJ2 a).2.1 ≠ (TJ2 b).2.1 := by decide +kernel
theorem tyJ2_ok : ∀ k, k < 0 → parseFieldDescriptor (TJ2 k).2.2.1 = some (tyJ2 k) := by decide +kernel
abbrev cJ2_getChar_3b067 : ByteArray := prog_19_method_5_code
def yJ2_getChar_3b067 : MethodName := ⟨RJ2, "getChar", "([BI)C"⟩
abbrev cJ2_length_9d52b : ByteArray := prog_19_method_6_code
def yJ2_length_9d52b : MethodName := ⟨RJ2, "length", "([B)I"⟩
abbrev cJ2_charAt_3b067 : ByteArray := prog_19_method_83_code
def yJ2_charAt_3b067 : MethodName := ⟨RJ2, "charAt", "([BI)C"⟩
abbrev cJ2_checkIndex_2214a : ByteArray := prog_19_method_91_code
def yJ2_checkIndex_2214a : MethodName := ⟨RJ2, "checkIndex", "(I[B)V"⟩
def RJ10 : String := "java/lang/System"
def TJ10 : u_T := fun k => match k with
  | _ => ("", "", "", false)
def tyJ10 : Nat → FieldType := fun k => match k with
  | _ => .int
abbrev wsJ100 : List Cond := u_ws RJ10 TJ10 0
theorem nmJ10 : ∀ a, a < 0 → ∀ b, b < 0 → a ≠ b → (TJ10 a).2.1 ≠ (TJ10 b).2.1 := by decide +kernel
theorem tyJ10_ok : ∀ k, k < 0 → parseFieldDescriptor (TJ10 k).2.2.1 = some (tyJ10 k) := by decide +kernel
def RJxfd54e : String := "java/lang/constant/Constable"
def TJxfd54e : u_T := fun k => match k with
  | _ => ("", "", "", false)
def tyJxfd54e : Nat → FieldType := fun k => match k with
  | _ => .int
abbrev wsJxfd54e0 : List Cond := u_ws RJxfd54e TJxfd54e 0
theorem nmJxfd54e : ∀ a, a < 0 → ∀ b, b < 0 → a ≠ b → (TJxfd54e a).2.1 ≠ (TJxfd54e b).2.1 := by decide +kernel
theorem tyJxfd54e_ok : ∀ k, k < 0 → parseFieldDescriptor (TJxfd54e k).2.2.1 = some (tyJxfd54e k) := by decide +kernel
def RJx3cf43 : String := "java/lang/constant/ConstantDesc"
def TJx3cf43 : u_T := fun k => match k with
  | _ => ("", "", "", false)
def tyJx3cf43 : Nat → FieldType := fun k => match k with
  | _ => .int
abbrev wsJx3cf430 : List Cond := u_ws RJx3cf43 TJx3cf43 0
theorem nmJx3cf43 : ∀ a, a < 0 → ∀ b, b < 0 → a ≠ b → (TJx3cf43 a).2.1 ≠ (TJx3cf43 b).2.1 := by decide +kernel
theorem tyJx3cf43_ok : ∀ k, k < 0 → parseFieldDescriptor (TJx3cf43 k).2.2.1 = some (tyJx3cf43 k) := by decide +kernel
def RJ7 : String := "java/util/Arrays"
def TJ7 : u_T := fun k => match k with
  | _ => ("", "", "", false)
def tyJ7 : Nat → FieldType := fun k => match k with
  | _ => .int
abbrev wsJ70 : List Cond := u_ws RJ7 TJ7 0
theorem nmJ7 : ∀ a, a < 0 → ∀ b, b < 0 → a ≠ b → (TJ7 a).2.1 ≠ (TJ7 b).2.1 := by decide +kernel
theorem tyJ7_ok : ∀ k, k < 0 → parseFieldDescriptor (TJ7 k).2.2.1 = some (tyJ7 k) := by decide +kernel
abbrev cJ7_fill_53178 : ByteArray := prog_21_method_103_code
def yJ7_fill_53178 : MethodName := ⟨RJ7, "fill", "([II)V"⟩
def RJ3 : String := "jdk/internal/util/Preconditions"
def TJ3 : u_T := fun k => match k with
  | _ => ("", "", "", false)
def tyJ3 : Nat → FieldType := fun k => match k with
  | _ => .int
abbrev wsJ30 : List Cond := u_ws RJ3 TJ3 0
theorem nmJ3 : ∀ a, a < 0 → ∀ b, b < 0 → a ≠ b → (TJ3 a).2.1 ≠ (TJ3 b).2.1 := by decide +kernel
theorem tyJ3_ok : ∀ k, k < 0 → parseFieldDescriptor (TJ3 k).2.2.1 = some (tyJ3 k) := by decide +kernel
abbrev cJ3_checkIndex_8e157 : ByteArray := prog_22_method_11_code
def yJ3_checkIndex_8e157 : MethodName := ⟨RJ3, "checkIndex", "(IILjava/util/function/BiFunction;)I"⟩
def RL : String := "WhimWindLaw"
abbrev cL_law : ByteArray := code
def yL_law : MethodName := ⟨RL, "law", "([I)Z"⟩
abbrev vwCl : List vw_C := [(RX0, TX0, 3), (RX1, TX1, 4), (RX2, TX2, 14), (RX3, TX3, 12), (RX5, TX5, 8), (RX6, TX6, 8), (RX7, TX7, 9), (RX8, TX8, 7), (RX9, TX9, 1), (RX10, TX10, 6), (RX11, TX11, 7), (RX12, TX12, 64)]
