section MKS
variable {α : Type} {w : α → Option Value} {M : mk_M} {pc pc1 : Nat} {L L1 : List (Option Value)} {S S1 : List Value} {t : mk_S} {o : Option (α × mk_S)}
theorem mk_O.stp (h : ∀ (p : Program) (l : Launch) (e : Env) (R : Room) (s : State) (m : MethodId) (args : Array Value) (below : List Frame) (meth : Method) (c : Code) (Q : State → Prop) (H : Heap) (locs : List Loc) (cells slots : Nat) (ls : Array Slot) (ad : Nat → Nat), mk_C M R p s m args meth c → mk_L ls M.2.2.1 ad L → W p l e R s m args below meth c H locs cells slots Q (F0 m pc1 ls (S1.map (mk_tr ad))) → W p l e R s m args below meth c H locs cells slots Q (F0 m pc ls (S.map (mk_tr ad))))
    (hw : ∀ n, mk_wf n L S → mk_wf n L S1) (k : mk_O w M pc1 L S1 t o) : mk_O w M pc L S t o := by
  intro z hz
  obtain ⟨k1, k2⟩ := k z hz
  refine ⟨k1, ?_⟩
  intro p l e R s m args below meth c Q D ac g A c0 s0 H locs ls ad hC hB hE hR hS hL hf hq
  exact h p l e R s m args below meth c Q H locs _ _ ls ad hC hL (k2 p l e R s m args below meth c Q D ac g A c0 s0 H locs ls ad hC hB hE hR hS hL (hw _ hf) hq)
theorem mk_O.ite {c : Prop} [Decidable c] {pc2 : Nat} {o1 o2 : Option (α × mk_S)} (h : ∀ (p : Program) (l : Launch) (e : Env) (R : Room) (s : State) (m : MethodId) (args : Array Value) (below : List Frame) (meth : Method) (cd : Code) (Q : State → Prop) (H : Heap) (locs : List Loc) (cells slots : Nat) (ls : Array Slot) (ad : Nat → Nat), mk_C M R p s m args meth cd → (c → W p l e R s m args below meth cd H locs cells slots Q (F0 m pc1 ls (S1.map (mk_tr ad)))) → (¬ c → W p l e R s m args below meth cd H locs cells slots Q (F0 m pc2 ls (S1.map (mk_tr ad)))) → W p l e R s m args below meth cd H locs cells slots Q (F0 m pc ls (S.map (mk_tr ad))))
    (hw : ∀ n, mk_wf n L S → mk_wf n L S1) (k1 : c → mk_O w M pc1 L S1 t o1) (k2 : ¬ c → mk_O w M pc2 L S1 t o2) : mk_O w M pc L S t (if c then o1 else o2) := by
  intro z hz
  by_cases hc : c
  · rw [if_pos hc] at hz
    obtain ⟨a1, a2⟩ := k1 hc z hz
    refine ⟨a1, ?_⟩
    intro p l e R s m args below meth cd Q D ac g A c0 s0 H locs ls ad hC hB hE hR hS hL hf hq
    exact h p l e R s m args below meth cd Q H locs _ _ ls ad hC (fun _ => a2 p l e R s m args below meth cd Q D ac g A c0 s0 H locs ls ad hC hB hE hR hS hL (hw _ hf) hq) (fun q => absurd hc q)
  · rw [if_neg hc] at hz
    obtain ⟨a1, a2⟩ := k2 hc z hz
    refine ⟨a1, ?_⟩
    intro p l e R s m args below meth cd Q D ac g A c0 s0 H locs ls ad hC hB hE hR hS hL hf hq
    exact h p l e R s m args below meth cd Q H locs _ _ ls ad hC (fun q => absurd q hc) (fun _ => a2 p l e R s m args below meth cd Q D ac g A c0 s0 H locs ls ad hC hB hE hR hS hL (hw _ hf) hq)
theorem mk_wf.pop {n : Nat} {v : Value} (h : mk_wf n L (v :: S)) : mk_wf n L S := ⟨h.1, fun x hx => h.2 x (List.mem_cons_of_mem _ hx)⟩
theorem mk_wf.top {n : Nat} {v : Value} (h : mk_wf n L (v :: S)) : mk_wv n v := h.2 v List.mem_cons_self
theorem mk_wf.push {n : Nat} {v : Value} (h : mk_wf n L S) (hv : mk_wv n v) : mk_wf n L (v :: S) := ⟨h.1, fun x hx => (List.mem_cons.mp hx).elim (fun e => e ▸ hv) (h.2 x)⟩
theorem mk_wf.int {n : Nat} {x : Int32} (h : mk_wf n L S) : mk_wf n L (.int x :: S) := h.push trivial
theorem mk_wf.long {n : Nat} {x : Int64} (h : mk_wf n L S) : mk_wf n L (.long x :: S) := h.push trivial
theorem mk_wf.null {n : Nat} (h : mk_wf n L S) : mk_wf n L (.null :: S) := h.push trivial
theorem mk_L.at {ls : Array Slot} {nL : Nat} {ad : Nat → Nat} (h : mk_L ls nL ad L) {i : Nat} {v : Value} (hi : L[i]? = some (some v)) : ls[i]? = some (.val (mk_tr ad v)) := h.2.2 i v hi
theorem mk_wf.at {n : Nat} (h : mk_wf n L S) {i : Nat} {v : Value} (hi : L[i]? = some (some v)) : mk_wv n v := h.1 v (List.mem_of_getElem? hi)

theorem xo_iconst {i : Int} {v : Int32} (hv : Int32.ofInt i = v) (hd : decode M.2.1 pc = .ok (.iconst i, 1)) (k : mk_O w M (pc + 1) L (.int v :: S) t o) : mk_O w M pc L (S) t o :=
  mk_O.stp (fun p l e R s m args below meth c Q H locs cells slots ls ad hC hL kk => lv_iconst hC.1 hC.2.1 hd hv kk) (fun n h => h.int) k
theorem xo_bipush {i : Int} {v : Int32} (hv : (Int8.ofInt i).toInt32 = v) (hd : decode M.2.1 pc = .ok (.bipush i, 2)) (k : mk_O w M (pc + 2) L (.int v :: S) t o) : mk_O w M pc L (S) t o :=
  mk_O.stp (fun p l e R s m args below meth c Q H locs cells slots ls ad hC hL kk => lv_bipush hC.1 hC.2.1 hd hv kk) (fun n h => h.int) k
theorem xo_sipush {i : Int} {v : Int32} (hv : (Int16.ofInt i).toInt32 = v) (hd : decode M.2.1 pc = .ok (.sipush i, 3)) (k : mk_O w M (pc + 3) L (.int v :: S) t o) : mk_O w M pc L (S) t o :=
  mk_O.stp (fun p l e R s m args below meth c Q H locs cells slots ls ad hC hL kk => lv_sipush hC.1 hC.2.1 hd hv kk) (fun n h => h.int) k
theorem xo_lconst {i : Fin 2} {v : Int64} (hv : Int64.ofNat (i : Nat) = v) (hd : decode M.2.1 pc = .ok (.lconst i, 1)) (k : mk_O w M (pc + 1) L (.long v :: S) t o) : mk_O w M pc L (S) t o :=
  mk_O.stp (fun p l e R s m args below meth c Q H locs cells slots ls ad hC hL kk => lv_lconst hC.1 hC.2.1 hd hv kk) (fun n h => h.long) k
theorem xo_ldc {i : Nat} {v : Int32} (hv : Cond.constant M.1.cls i v ∈ lw_gw) (hd : decode M.2.1 pc = .ok (.ldc i, 2)) (k : mk_O w M (pc + 2) L (.int v :: S) t o) : mk_O w M pc L (S) t o :=
  mk_O.stp (fun p l e R s m args below meth c Q H locs cells slots ls ad hC hL kk => lv_ldc hC.1 hC.2.1 hC.2.2.2.1 (hC.2.2.2.2.1 _ hv) hd kk) (fun n h => h.int) k
theorem xo_ldcw {i : Nat} {v : Int32} (hv : Cond.constant M.1.cls i v ∈ lw_gw) (hd : decode M.2.1 pc = .ok (.ldc_w i, 3)) (k : mk_O w M (pc + 3) L (.int v :: S) t o) : mk_O w M pc L (S) t o :=
  mk_O.stp (fun p l e R s m args below meth c Q H locs cells slots ls ad hC hL kk => lv_ldcw hC.1 hC.2.1 hC.2.2.2.1 (hC.2.2.2.2.1 _ hv) hd kk) (fun n h => h.int) k
theorem xo_ldc2 {i : Nat} {v : Int64} (hv : Cond.constantLong M.1.cls i v ∈ lw_gw) (hd : decode M.2.1 pc = .ok (.ldc2_w i, 3)) (k : mk_O w M (pc + 3) L (.long v :: S) t o) : mk_O w M pc L (S) t o :=
  mk_O.stp (fun p l e R s m args below meth c Q H locs cells slots ls ad hC hL kk => lv_ldc2 hC.1 hC.2.1 hC.2.2.2.1 (hC.2.2.2.2.1 _ hv) hd kk) (fun n h => h.long) k
theorem xo_anull  (hd : decode M.2.1 pc = .ok (.aconst_null, 1)) (k : mk_O w M (pc + 1) L (.null :: S) t o) : mk_O w M pc L (S) t o :=
  mk_O.stp (fun p l e R s m args below meth c Q H locs cells slots ls ad hC hL kk => lv_null hC.1 hC.2.1 hd kk) (fun n h => h.null) k
theorem xo_iload_n {j : Fin 4} {i : Nat} {x : Int32} (hi : (j : Nat) = i) (hl : L[i]? = some (some (.int x))) (hd : decode M.2.1 pc = .ok (.iload_n j, 1)) (k : mk_O w M (pc + 1) L (.int x :: S) t o) : mk_O w M pc L (S) t o :=
  mk_O.stp (fun p l e R s m args below meth c Q H locs cells slots ls ad hC hL kk => lv_iload_n hC.1 hC.2.1 hd hi (hL.at hl) kk) (fun n h => h.int) k
theorem xo_iload {i : Nat} {x : Int32} (hl : L[i]? = some (some (.int x))) (hd : decode M.2.1 pc = .ok (.iload i, 2)) (k : mk_O w M (pc + 2) L (.int x :: S) t o) : mk_O w M pc L (S) t o :=
  mk_O.stp (fun p l e R s m args below meth c Q H locs cells slots ls ad hC hL kk => lv_iload hC.1 hC.2.1 hd (hL.at hl) kk) (fun n h => h.int) k
theorem xo_lload_n {j : Fin 4} {i : Nat} {x : Int64} (hi : (j : Nat) = i) (hl : L[i]? = some (some (.long x))) (hd : decode M.2.1 pc = .ok (.lload_n j, 1)) (k : mk_O w M (pc + 1) L (.long x :: S) t o) : mk_O w M pc L (S) t o :=
  mk_O.stp (fun p l e R s m args below meth c Q H locs cells slots ls ad hC hL kk => lv_lload_n hC.1 hC.2.1 hd hi (hL.at hl) kk) (fun n h => h.long) k
theorem xo_lload {i : Nat} {x : Int64} (hl : L[i]? = some (some (.long x))) (hd : decode M.2.1 pc = .ok (.lload i, 2)) (k : mk_O w M (pc + 2) L (.long x :: S) t o) : mk_O w M pc L (S) t o :=
  mk_O.stp (fun p l e R s m args below meth c Q H locs cells slots ls ad hC hL kk => lv_lload hC.1 hC.2.1 hd (hL.at hl) kk) (fun n h => h.long) k
theorem xo_aload_n {j : Fin 4} {i : Nat} {a : Nat} (hi : (j : Nat) = i) (hl : L[i]? = some (some (.ref a))) (hd : decode M.2.1 pc = .ok (.aload_n j, 1)) (k : mk_O w M (pc + 1) L (.ref a :: S) t o) : mk_O w M pc L (S) t o :=
  mk_O.stp (fun p l e R s m args below meth c Q H locs cells slots ls ad hC hL kk => lv_aload_n hC.1 hC.2.1 hd hi (hL.at hl) kk) (fun n h => h.push (h.at hl)) k
theorem xo_aload {i : Nat} {a : Nat} (hl : L[i]? = some (some (.ref a))) (hd : decode M.2.1 pc = .ok (.aload i, 2)) (k : mk_O w M (pc + 2) L (.ref a :: S) t o) : mk_O w M pc L (S) t o :=
  mk_O.stp (fun p l e R s m args below meth c Q H locs cells slots ls ad hC hL kk => lv_aload hC.1 hC.2.1 hd (hL.at hl) kk) (fun n h => h.push (h.at hl)) k
theorem xo_iadd {x y : Int32}  (hd : decode M.2.1 pc = .ok (.iadd, 1)) (k : mk_O w M (pc + 1) L (.int (x + y) :: S) t o) : mk_O w M pc L (.int y :: .int x :: S) t o :=
  mk_O.stp (fun p l e R s m args below meth c Q H locs cells slots ls ad hC hL kk => lv_iadd hC.1 hC.2.1 hd  kk) (fun n h => h.pop.pop.int) k
theorem xo_isub {x y : Int32}  (hd : decode M.2.1 pc = .ok (.isub, 1)) (k : mk_O w M (pc + 1) L (.int (x - y) :: S) t o) : mk_O w M pc L (.int y :: .int x :: S) t o :=
  mk_O.stp (fun p l e R s m args below meth c Q H locs cells slots ls ad hC hL kk => lv_isub hC.1 hC.2.1 hd  kk) (fun n h => h.pop.pop.int) k
theorem xo_imul {x y : Int32}  (hd : decode M.2.1 pc = .ok (.imul, 1)) (k : mk_O w M (pc + 1) L (.int (x * y) :: S) t o) : mk_O w M pc L (.int y :: .int x :: S) t o :=
  mk_O.stp (fun p l e R s m args below meth c Q H locs cells slots ls ad hC hL kk => lv_imul hC.1 hC.2.1 hd  kk) (fun n h => h.pop.pop.int) k
theorem xo_iand {x y : Int32}  (hd : decode M.2.1 pc = .ok (.iand, 1)) (k : mk_O w M (pc + 1) L (.int (x &&& y) :: S) t o) : mk_O w M pc L (.int y :: .int x :: S) t o :=
  mk_O.stp (fun p l e R s m args below meth c Q H locs cells slots ls ad hC hL kk => lv_iand hC.1 hC.2.1 hd  kk) (fun n h => h.pop.pop.int) k
theorem xo_ior {x y : Int32}  (hd : decode M.2.1 pc = .ok (.ior, 1)) (k : mk_O w M (pc + 1) L (.int (x ||| y) :: S) t o) : mk_O w M pc L (.int y :: .int x :: S) t o :=
  mk_O.stp (fun p l e R s m args below meth c Q H locs cells slots ls ad hC hL kk => lv_ior hC.1 hC.2.1 hd  kk) (fun n h => h.pop.pop.int) k
theorem xo_ixor {x y : Int32}  (hd : decode M.2.1 pc = .ok (.ixor, 1)) (k : mk_O w M (pc + 1) L (.int (x ^^^ y) :: S) t o) : mk_O w M pc L (.int y :: .int x :: S) t o :=
  mk_O.stp (fun p l e R s m args below meth c Q H locs cells slots ls ad hC hL kk => lv_ixor hC.1 hC.2.1 hd  kk) (fun n h => h.pop.pop.int) k
theorem xo_ladd {x y : Int64}  (hd : decode M.2.1 pc = .ok (.ladd, 1)) (k : mk_O w M (pc + 1) L (.long (x + y) :: S) t o) : mk_O w M pc L (.long y :: .long x :: S) t o :=
  mk_O.stp (fun p l e R s m args below meth c Q H locs cells slots ls ad hC hL kk => lv_ladd hC.1 hC.2.1 hd  kk) (fun n h => h.pop.pop.long) k
theorem xo_lsub {x y : Int64}  (hd : decode M.2.1 pc = .ok (.lsub, 1)) (k : mk_O w M (pc + 1) L (.long (x - y) :: S) t o) : mk_O w M pc L (.long y :: .long x :: S) t o :=
  mk_O.stp (fun p l e R s m args below meth c Q H locs cells slots ls ad hC hL kk => lv_lsub hC.1 hC.2.1 hd  kk) (fun n h => h.pop.pop.long) k
theorem xo_lmul {x y : Int64}  (hd : decode M.2.1 pc = .ok (.lmul, 1)) (k : mk_O w M (pc + 1) L (.long (x * y) :: S) t o) : mk_O w M pc L (.long y :: .long x :: S) t o :=
  mk_O.stp (fun p l e R s m args below meth c Q H locs cells slots ls ad hC hL kk => lv_lmul hC.1 hC.2.1 hd  kk) (fun n h => h.pop.pop.long) k
theorem xo_land {x y : Int64}  (hd : decode M.2.1 pc = .ok (.land, 1)) (k : mk_O w M (pc + 1) L (.long (x &&& y) :: S) t o) : mk_O w M pc L (.long y :: .long x :: S) t o :=
  mk_O.stp (fun p l e R s m args below meth c Q H locs cells slots ls ad hC hL kk => lv_land hC.1 hC.2.1 hd  kk) (fun n h => h.pop.pop.long) k
theorem xo_lor {x y : Int64}  (hd : decode M.2.1 pc = .ok (.lor, 1)) (k : mk_O w M (pc + 1) L (.long (x ||| y) :: S) t o) : mk_O w M pc L (.long y :: .long x :: S) t o :=
  mk_O.stp (fun p l e R s m args below meth c Q H locs cells slots ls ad hC hL kk => lv_lor hC.1 hC.2.1 hd  kk) (fun n h => h.pop.pop.long) k
theorem xo_ishl {x y : Int32}  (hd : decode M.2.1 pc = .ok (.ishl, 1)) (k : mk_O w M (pc + 1) L (.int (x <<< (y &&& 31)) :: S) t o) : mk_O w M pc L (.int y :: .int x :: S) t o :=
  mk_O.stp (fun p l e R s m args below meth c Q H locs cells slots ls ad hC hL kk => lv_ishl hC.1 hC.2.1 hd  kk) (fun n h => h.pop.pop.int) k
theorem xo_ishr {x y : Int32}  (hd : decode M.2.1 pc = .ok (.ishr, 1)) (k : mk_O w M (pc + 1) L (.int (x >>> (y &&& 31)) :: S) t o) : mk_O w M pc L (.int y :: .int x :: S) t o :=
  mk_O.stp (fun p l e R s m args below meth c Q H locs cells slots ls ad hC hL kk => lv_ishr hC.1 hC.2.1 hd  kk) (fun n h => h.pop.pop.int) k
theorem xo_iushr {x y : Int32} (hd : decode M.2.1 pc = .ok (.iushr, 1)) (k : mk_O w M (pc + 1) L (.int ((x.toUInt32 >>> (y.toUInt32 &&& Int32.toUInt32 31)).toInt32) :: S) t o) : mk_O w M pc L (.int y :: .int x :: S) t o :=
  mk_O.stp (fun p l e R s m args below meth c Q H locs cells slots ls ad hC hL kk => lv_iushr hC.1 hC.2.1 hd rfl kk) (fun n h => h.pop.pop.int) k
theorem xo_lcmp {x y : Int64} (hd : decode M.2.1 pc = .ok (.lcmp, 1)) (k : mk_O w M (pc + 1) L (.int (lg_cmp x y) :: S) t o) : mk_O w M pc L (.long y :: .long x :: S) t o :=
  mk_O.stp (fun p l e R s m args below meth c Q H locs cells slots ls ad hC hL kk => W.lcmp hC.1 hC.2.1 hd kk) (fun n h => h.pop.pop.int) k
theorem xo_i2l {x : Int32} (hd : decode M.2.1 pc = .ok (.i2l, 1)) (k : mk_O w M (pc + 1) L (.long x.toInt64 :: S) t o) : mk_O w M pc L (.int x :: S) t o :=
  mk_O.stp (fun p l e R s m args below meth c Q H locs cells slots ls ad hC hL kk => lv_i2l hC.1 hC.2.1 hd rfl kk) (fun n h => h.pop.long) k
theorem xo_l2i {x : Int64} (hd : decode M.2.1 pc = .ok (.l2i, 1)) (k : mk_O w M (pc + 1) L (.int x.toInt32 :: S) t o) : mk_O w M pc L (.long x :: S) t o :=
  mk_O.stp (fun p l e R s m args below meth c Q H locs cells slots ls ad hC hL kk => lv_l2i hC.1 hC.2.1 hd rfl kk) (fun n h => h.pop.int) k
theorem xo_i2b {x : Int32} (hd : decode M.2.1 pc = .ok (.i2b, 1)) (k : mk_O w M (pc + 1) L (.int x.toInt8.toInt32 :: S) t o) : mk_O w M pc L (.int x :: S) t o :=
  mk_O.stp (fun p l e R s m args below meth c Q H locs cells slots ls ad hC hL kk => lv_i2b hC.1 hC.2.1 hd rfl kk) (fun n h => h.pop.int) k
theorem xo_dup {v : Value} (hc : v.category = 1) (hd : decode M.2.1 pc = .ok (.dup, 1)) (k : mk_O w M (pc + 1) L (v :: v :: S) t o) : mk_O w M pc L (v :: S) t o :=
  mk_O.stp (fun p l e R s m args below meth c Q H locs cells slots ls ad hC hL kk => lv_dup hC.1 hC.2.1 hd ((mk_tr_cat ad v).trans hc) kk) (fun n h => h.push h.top) k
theorem xo_dup2 {v u : Value} (hc : v.category = 1) (hc2 : u.category = 1) (hd : decode M.2.1 pc = .ok (.dup2, 1)) (k : mk_O w M (pc + 1) L (v :: u :: v :: u :: S) t o) : mk_O w M pc L (v :: u :: S) t o :=
  mk_O.stp (fun p l e R s m args below meth c Q H locs cells slots ls ad hC hL kk => lv_dup2_11 hC.1 hC.2.1 hd ((mk_tr_cat ad v).trans hc) ((mk_tr_cat ad u).trans hc2) kk) (fun n h => (h.push h.pop.top).push h.top) k
theorem xo_pop {v : Value} (hc : v.category = 1) (hd : decode M.2.1 pc = .ok (.pop, 1)) (k : mk_O w M (pc + 1) L (S) t o) : mk_O w M pc L (v :: S) t o :=
  mk_O.stp (fun p l e R s m args below meth c Q H locs cells slots ls ad hC hL kk => lv_pop hC.1 hC.2.1 hd ((mk_tr_cat ad v).trans hc) kk) (fun n h => h.pop) k
theorem xo_goto {off : Int} {tgt : Nat} (hd : decode M.2.1 pc = .ok (.goto off, 3)) (ht : (pc : Int) + off = (tgt : Int)) (k : mk_O w M tgt L S t o) : mk_O w M pc L S t o :=
  mk_O.stp (fun p l e R s m args below meth c Q H locs cells slots ls ad hC hL kk => lv_goto hC.1 hC.2.1 hd ht kk) (fun n h => h) k
theorem xo_idiv {x y : Int32} (hd : decode M.2.1 pc = .ok (.idiv, 1)) (k : ¬ y = 0 → mk_O w M (pc + 1) L (.int (x / y) :: S) t o) : mk_O w M pc L (.int y :: .int x :: S) t (if y = 0 then none else o) := by
  by_cases hy : y = 0
  · rw [if_pos hy]
    intro z hz
    cases hz
  · rw [if_neg hy]
    exact mk_O.stp (fun p l e R s m args below meth c Q H locs cells slots ls ad hC hL kk => lv_idiv hC.1 hC.2.1 hd hy kk) (fun n h => h.pop.pop.int) (k hy)
theorem xo_irem {x y : Int32} (hd : decode M.2.1 pc = .ok (.irem, 1)) (k : ¬ y = 0 → mk_O w M (pc + 1) L (.int (x - x / y * y) :: S) t o) : mk_O w M pc L (.int y :: .int x :: S) t (if y = 0 then none else o) := by
  by_cases hy : y = 0
  · rw [if_pos hy]
    intro z hz
    cases hz
  · rw [if_neg hy]
    exact mk_O.stp (fun p l e R s m args below meth c Q H locs cells slots ls ad hC hL kk => lv_irem hC.1 hC.2.1 hd hy kk) (fun n h => h.pop.pop.int) (k hy)
theorem xo_ldiv {x y : Int64} (hd : decode M.2.1 pc = .ok (.ldiv, 1)) (k : ¬ y = 0 → mk_O w M (pc + 1) L (.long (x / y) :: S) t o) : mk_O w M pc L (.long y :: .long x :: S) t (if y = 0 then none else o) := by
  by_cases hy : y = 0
  · rw [if_pos hy]
    intro z hz
    cases hz
  · rw [if_neg hy]
    exact mk_O.stp (fun p l e R s m args below meth c Q H locs cells slots ls ad hC hL kk => lv_ldiv hC.1 hC.2.1 hd hy kk) (fun n h => h.pop.pop.long) (k hy)
theorem xo_lrem {x y : Int64} (hd : decode M.2.1 pc = .ok (.lrem, 1)) (k : ¬ y = 0 → mk_O w M (pc + 1) L (.long (x - x / y * y) :: S) t o) : mk_O w M pc L (.long y :: .long x :: S) t (if y = 0 then none else o) := by
  by_cases hy : y = 0
  · rw [if_pos hy]
    intro z hz
    cases hz
  · rw [if_neg hy]
    exact mk_O.stp (fun p l e R s m args below meth c Q H locs cells slots ls ad hC hL kk => lv_lrem hC.1 hC.2.1 hd hy kk) (fun n h => h.pop.pop.long) (k hy)
theorem xo_if_eq {x : Int32} {off : Int} {tgt : Nat} {o1 o2 : Option (α × mk_S)} (hd : decode M.2.1 pc = .ok (.ifCond .eq off, 3)) (ht : (pc : Int) + off = (tgt : Int)) (k1 : x = 0 → mk_O w M (tgt) L S t o1) (k2 : ¬ x = 0 → mk_O w M (pc + 3) L S t o2) : mk_O w M pc L (.int x :: S) t (if x = 0 then o1 else o2) :=
  mk_O.ite (fun p l e R s m args below meth cd Q H locs cells slots ls ad hC k1 k2 => lv_if_eq hC.1 hC.2.1 hd ht k1 k2) (fun n h => h.pop) k1 k2
theorem xo_if_ne {x : Int32} {off : Int} {tgt : Nat} {o1 o2 : Option (α × mk_S)} (hd : decode M.2.1 pc = .ok (.ifCond .ne off, 3)) (ht : (pc : Int) + off = (tgt : Int)) (k1 : x = 0 → mk_O w M (pc + 3) L S t o1) (k2 : ¬ x = 0 → mk_O w M (tgt) L S t o2) : mk_O w M pc L (.int x :: S) t (if x = 0 then o1 else o2) :=
  mk_O.ite (fun p l e R s m args below meth cd Q H locs cells slots ls ad hC k1 k2 => lv_if_ne hC.1 hC.2.1 hd ht k2 k1) (fun n h => h.pop) k1 k2
theorem xo_if_lt {x : Int32} {off : Int} {tgt : Nat} {o1 o2 : Option (α × mk_S)} (hd : decode M.2.1 pc = .ok (.ifCond .lt off, 3)) (ht : (pc : Int) + off = (tgt : Int)) (k1 : x < 0 → mk_O w M (tgt) L S t o1) (k2 : ¬ x < 0 → mk_O w M (pc + 3) L S t o2) : mk_O w M pc L (.int x :: S) t (if x < 0 then o1 else o2) :=
  mk_O.ite (fun p l e R s m args below meth cd Q H locs cells slots ls ad hC k1 k2 => lv_if_lt hC.1 hC.2.1 hd ht k1 k2) (fun n h => h.pop) k1 k2
theorem xo_if_ge {x : Int32} {off : Int} {tgt : Nat} {o1 o2 : Option (α × mk_S)} (hd : decode M.2.1 pc = .ok (.ifCond .ge off, 3)) (ht : (pc : Int) + off = (tgt : Int)) (k1 : 0 ≤ x → mk_O w M (tgt) L S t o1) (k2 : ¬ 0 ≤ x → mk_O w M (pc + 3) L S t o2) : mk_O w M pc L (.int x :: S) t (if 0 ≤ x then o1 else o2) :=
  mk_O.ite (fun p l e R s m args below meth cd Q H locs cells slots ls ad hC k1 k2 => lv_if_ge hC.1 hC.2.1 hd ht k1 k2) (fun n h => h.pop) k1 k2
theorem xo_if_gt {x : Int32} {off : Int} {tgt : Nat} {o1 o2 : Option (α × mk_S)} (hd : decode M.2.1 pc = .ok (.ifCond .gt off, 3)) (ht : (pc : Int) + off = (tgt : Int)) (k1 : 0 < x → mk_O w M (tgt) L S t o1) (k2 : ¬ 0 < x → mk_O w M (pc + 3) L S t o2) : mk_O w M pc L (.int x :: S) t (if 0 < x then o1 else o2) :=
  mk_O.ite (fun p l e R s m args below meth cd Q H locs cells slots ls ad hC k1 k2 => lv_if_gt hC.1 hC.2.1 hd ht k1 k2) (fun n h => h.pop) k1 k2
theorem xo_if_le {x : Int32} {off : Int} {tgt : Nat} {o1 o2 : Option (α × mk_S)} (hd : decode M.2.1 pc = .ok (.ifCond .le off, 3)) (ht : (pc : Int) + off = (tgt : Int)) (k1 : x ≤ 0 → mk_O w M (tgt) L S t o1) (k2 : ¬ x ≤ 0 → mk_O w M (pc + 3) L S t o2) : mk_O w M pc L (.int x :: S) t (if x ≤ 0 then o1 else o2) :=
  mk_O.ite (fun p l e R s m args below meth cd Q H locs cells slots ls ad hC k1 k2 => lv_if_le hC.1 hC.2.1 hd ht k1 k2) (fun n h => h.pop) k1 k2
theorem xo_icmp_eq {x y : Int32} {off : Int} {tgt : Nat} {o1 o2 : Option (α × mk_S)} (hd : decode M.2.1 pc = .ok (.if_icmp .eq off, 3)) (ht : (pc : Int) + off = (tgt : Int)) (k1 : x = y → mk_O w M (tgt) L S t o1) (k2 : ¬ x = y → mk_O w M (pc + 3) L S t o2) : mk_O w M pc L (.int y :: .int x :: S) t (if x = y then o1 else o2) :=
  mk_O.ite (fun p l e R s m args below meth cd Q H locs cells slots ls ad hC k1 k2 => lv_icmp_eq hC.1 hC.2.1 hd ht k1 k2) (fun n h => h.pop.pop) k1 k2
theorem xo_icmp_ne {x y : Int32} {off : Int} {tgt : Nat} {o1 o2 : Option (α × mk_S)} (hd : decode M.2.1 pc = .ok (.if_icmp .ne off, 3)) (ht : (pc : Int) + off = (tgt : Int)) (k1 : x = y → mk_O w M (pc + 3) L S t o1) (k2 : ¬ x = y → mk_O w M (tgt) L S t o2) : mk_O w M pc L (.int y :: .int x :: S) t (if x = y then o1 else o2) :=
  mk_O.ite (fun p l e R s m args below meth cd Q H locs cells slots ls ad hC k1 k2 => lv_icmp_ne hC.1 hC.2.1 hd ht k2 k1) (fun n h => h.pop.pop) k1 k2
theorem xo_icmp_lt {x y : Int32} {off : Int} {tgt : Nat} {o1 o2 : Option (α × mk_S)} (hd : decode M.2.1 pc = .ok (.if_icmp .lt off, 3)) (ht : (pc : Int) + off = (tgt : Int)) (k1 : x < y → mk_O w M (tgt) L S t o1) (k2 : ¬ x < y → mk_O w M (pc + 3) L S t o2) : mk_O w M pc L (.int y :: .int x :: S) t (if x < y then o1 else o2) :=
  mk_O.ite (fun p l e R s m args below meth cd Q H locs cells slots ls ad hC k1 k2 => lv_icmp_lt hC.1 hC.2.1 hd ht k1 k2) (fun n h => h.pop.pop) k1 k2
theorem xo_icmp_ge {x y : Int32} {off : Int} {tgt : Nat} {o1 o2 : Option (α × mk_S)} (hd : decode M.2.1 pc = .ok (.if_icmp .ge off, 3)) (ht : (pc : Int) + off = (tgt : Int)) (k1 : y ≤ x → mk_O w M (tgt) L S t o1) (k2 : ¬ y ≤ x → mk_O w M (pc + 3) L S t o2) : mk_O w M pc L (.int y :: .int x :: S) t (if y ≤ x then o1 else o2) :=
  mk_O.ite (fun p l e R s m args below meth cd Q H locs cells slots ls ad hC k1 k2 => lv_icmp_ge hC.1 hC.2.1 hd ht k1 k2) (fun n h => h.pop.pop) k1 k2
theorem xo_icmp_gt {x y : Int32} {off : Int} {tgt : Nat} {o1 o2 : Option (α × mk_S)} (hd : decode M.2.1 pc = .ok (.if_icmp .gt off, 3)) (ht : (pc : Int) + off = (tgt : Int)) (k1 : y < x → mk_O w M (tgt) L S t o1) (k2 : ¬ y < x → mk_O w M (pc + 3) L S t o2) : mk_O w M pc L (.int y :: .int x :: S) t (if y < x then o1 else o2) :=
  mk_O.ite (fun p l e R s m args below meth cd Q H locs cells slots ls ad hC k1 k2 => lv_icmp_gt hC.1 hC.2.1 hd ht k1 k2) (fun n h => h.pop.pop) k1 k2
theorem xo_icmp_le {x y : Int32} {off : Int} {tgt : Nat} {o1 o2 : Option (α × mk_S)} (hd : decode M.2.1 pc = .ok (.if_icmp .le off, 3)) (ht : (pc : Int) + off = (tgt : Int)) (k1 : x ≤ y → mk_O w M (tgt) L S t o1) (k2 : ¬ x ≤ y → mk_O w M (pc + 3) L S t o2) : mk_O w M pc L (.int y :: .int x :: S) t (if x ≤ y then o1 else o2) :=
  mk_O.ite (fun p l e R s m args below meth cd Q H locs cells slots ls ad hC k1 k2 => lv_icmp_le hC.1 hC.2.1 hd ht k1 k2) (fun n h => h.pop.pop) k1 k2
end MKS
