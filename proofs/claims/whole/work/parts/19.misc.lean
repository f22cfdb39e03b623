theorem mk_wv_big {n a : Nat} (h : 1000000 ≤ a) : mk_wv n (.ref a) := Or.inr h
section MKW
variable {α : Type} {w : α → Option Value} {M : mk_M} {pc pc1 : Nat} {L : List (Option Value)} {S S1 : List Value} {t t1 : mk_S} {o : Option (α × mk_S)}
theorem mk_O.cs {c : Prop} [Decidable c] {o1 o2 : Option (α × mk_S)} (k1 : c → mk_O w M pc L S t o1) (k2 : ¬ c → mk_O w M pc L S t o2) : mk_O w M pc L S t (if c then o1 else o2) := by
  by_cases h : c
  · rw [if_pos h]; exact k1 h
  · rw [if_neg h]; exact k2 h
theorem xo_tab {x kx : Int32} {j : Nat} {dflt lo hi off : Int} {offs : Array Int} {len tgt : Nat} (hx : x = kx) (hd : decode M.2.1 pc = .ok (.tableswitch dflt lo hi offs, len)) (h1 : ¬ kx.toInt < lo) (h2 : ¬ hi < kx.toInt) (hj : (kx.toInt - lo).toNat = j) (ho : offs[j]? = some off) (ht : (pc : Int) + off = (tgt : Int)) (k : mk_O w M tgt L S t o) : mk_O w M pc L (.int x :: S) t o := by
  subst hx
  subst hj
  exact mk_O.stp (fun p l e R s m args below meth c Q H locs cells slots ls ad hC hL kk => lv_tableIn hC.1 hC.2.1 hd h1 h2 ho ht kk) (fun n h => h.pop) k
theorem xo_tabo {x : Int32} {dflt lo hi : Int} {offs : Array Int} {len tgt : Nat} (hd : decode M.2.1 pc = .ok (.tableswitch dflt lo hi offs, len)) (h : x.toInt < lo ∨ hi < x.toInt) (ht : (pc : Int) + dflt = (tgt : Int)) (k : mk_O w M tgt L S t o) : mk_O w M pc L (.int x :: S) t o :=
  mk_O.stp (fun p l e R s m args below meth c Q H locs cells slots ls ad hC hL kk => lv_tableOut hC.1 hC.2.1 hd h ht kk) (fun n h => h.pop) k
theorem xo_look {x : Int32} {dflt off : Int} {ps : Array (Int × Int)} {len tgt : Nat} (hd : decode M.2.1 pc = .ok (.lookupswitch dflt ps, len)) (hp : (ps.toList.zip (ps.toList.drop 1)).all (fun (a, next) => a.1 < next.1) = true) (ho : Op.lookupswitch.offset ps.toList dflt x.toInt = off) (ht : (pc : Int) + off = (tgt : Int)) (k : mk_O w M tgt L S t o) : mk_O w M pc L (.int x :: S) t o :=
  mk_O.stp (fun p l e R s m args below meth c Q H locs cells slots ls ad hC hL kk => lv_lookup hC.1 hC.2.1 hd hp ho ht kk) (fun n h => h.pop) k
def mk_LO (own : String) (index : Nat) : Prop := Cond.methodLink own index Lib.objectInit ∈ lw_gw ∧ Cond.instanceMethod Lib.objectInit ∈ lw_gw ∧ Cond.code Lib.objectInit ⟨#[0xb1]⟩ 1 none ∈ lw_gw
theorem xo_obj {index a : Nat} (hl : mk_LO M.1.cls index) (hfr : 1 ≤ M.2.2.2.2.1) (hlo : (S.map fun v => v.category).sum + 12 ≤ M.2.2.2.2.2) (hd : decode M.2.1 pc = .ok (.invokespecial index, 3)) (kk : mk_O w M (pc + 3) L S t o) : mk_O w M pc L (.ref a :: S) t o := by
  refine mk_O.rd (fun p l e R s m args below meth c Q D ac g A H locs cells slots ls ad hC hsz hE hR hS _ _ kk => ?_) (fun hh h => h.pop) kk
  refine W.objInit hC.1 hC.2.1 hC.2.2.2.1 (hC.2.2.2.2.1 _ hl.1) (hC.2.2.2.2.1 _ hl.2.1) (hC.2.2.2.2.1 _ hl.2.2) rfl (hsz.trans hC.2.2.1.symm) rfl hd (Nat.le_trans hfr hC.2.2.2.2.2.2.1) ?_ kk
  show 2 * 0 + ((S.map (mk_tr ad)).map fun v => v.category).sum + 12 ≤ R.locals
  rw [mk_cat_map, Nat.mul_zero, Nat.zero_add]
  exact Nat.le_trans hlo hC.2.2.2.2.2.2.2
theorem xo_row {index : Nat} {host : String} (hl : Cond.fieldLinkNest M.1.cls index "WhimWind" "ROW_STEP" "[I" host ∈ lw_nw) (hd : decode M.2.1 pc = .ok (.getstatic index, 3)) (kk : mk_O w M (pc + 3) L (.ref 2000000 :: S) t o) : mk_O w M pc L S t o :=
  mk_O.rd (fun p l e R s m args below meth c Q D ac g A H locs cells slots ls ad hC hsz hE hR hS _ _ kk => va_getsN hC.1 hC.2.1 hE.2.2.2.1.2.1 hS hC.2.2.2.1 (va_Nw.use rfl (hE.2.1 _ hl)) (fun _ h => h) hd kk) (fun hh h => h.push (v := .ref 2000000) (mk_wv_big (by omega))) kk
theorem xo_col {index : Nat} {host : String} (hl : Cond.fieldLinkNest M.1.cls index "WhimWind" "COLUMN_STEP" "[I" host ∈ lw_nw) (hd : decode M.2.1 pc = .ok (.getstatic index, 3)) (kk : mk_O w M (pc + 3) L (.ref 2000001 :: S) t o) : mk_O w M pc L S t o :=
  mk_O.rd (fun p l e R s m args below meth c Q D ac g A H locs cells slots ls ad hC hsz hE hR hS _ _ kk => va_getsN hC.1 hC.2.1 hE.2.2.2.1.2.2 hS hC.2.2.2.1 (va_Nw.use rfl (hE.2.1 _ hl)) (fun _ h => h) hd kk) (fun hh h => h.push (v := .ref 2000001) (mk_wv_big (by omega))) kk
theorem xo_str {i index : Nat} (hi : i < 41) (h1 : (mk_str i).1 = M.1.cls) (h2 : (mk_str i).2.1 = index) (hd : decode M.2.1 pc = .ok (.ldc index, 2)) (kk : mk_O w M (pc + 2) L (.ref (1000000 + i) :: S) t o) : mk_O w M pc L S t o := by
  refine mk_O.rd (fun p l e R s m args below meth c Q D ac g A H locs cells slots ls ad hC hsz hE hR hS _ _ kk => ?_) (fun hh h => h.push (v := .ref (1000000 + i)) (mk_wv_big (by omega))) kk
  have hk := (hE.2.2.2.2.1 i hi).2
  rw [h1, h2] at hk
  exact va_ldcS hC.1 hC.2.1 hC.2.2.2.1 hk hd kk
/-! the JDK's String over our constants -/
theorem xo_sget {i index : Nat} {n d : String} {v : Value} (hi : i < 41) (hv : (n = "coder" ∧ d = "B" ∧ v = .int 0) ∨ (n = "value" ∧ d = "[B" ∧ v = .ref (1500000 + i))) (hl : Cond.fieldLink M.1.cls index "java/lang/String" n d ∈ lw_gw) (hd : decode M.2.1 pc = .ok (.getfield index, 3)) (kk : mk_O w M (pc + 3) L (v :: S) t o) : mk_O w M pc L (.ref (1000000 + i) :: S) t o := by
  refine mk_O.rd (fun p l e R s m args below meth c Q D ac g A H locs cells slots ls ad hC hsz hE hR hS _ _ kk => ?_) (fun hh h => h.pop.push ?_) kk
  · have hk := (hE.2.2.2.2.1 i hi).1.1 0 (by omega)
    rcases hv with ⟨rfl, rfl, rfl⟩ | ⟨rfl, rfl, rfl⟩
    · exact vk_getf hC.1 hC.2.1 hk.2.1 hS hC.2.2.2.1 (hC.2.2.2.2.1 _ hl) (fun _ h => h) hd kk
    · exact vk_getf hC.1 hC.2.1 hk.2.2.1 hS hC.2.2.2.1 (hC.2.2.2.2.1 _ hl) (fun _ h => h) hd kk
  · rcases hv with ⟨-, -, rfl⟩ | ⟨-, -, rfl⟩
    · trivial
    · exact mk_wv_big (by omega)
theorem xo_salen {i : Nat} (hi : i < 41) (hd : decode M.2.1 pc = .ok (.arraylength, 1)) (kk : mk_O w M (pc + 1) L (.int (Int32.ofNat (mk_str i).2.2.2.length) :: S) t o) : mk_O w M pc L (.ref (1500000 + i) :: S) t o := by
  refine mk_O.rd (fun p l e R s m args below meth c Q D ac g A H locs cells slots ls ad hC hsz hE hR hS _ _ kk => ?_) (fun hh h => h.pop.int) kk
  have hk := ((hE.2.2.2.2.1 i hi).1.1 0 (by omega)).2.2.2
  exact va_tlen hC.1 hC.2.1 hk hS rfl hd kk
theorem xo_sald {i : Nat} {k : Int32} (hi : i < 41) (hk : vp_in k (mk_str i).2.2.2.length) (hd : decode M.2.1 pc = .ok (.baload, 1)) (kk : mk_O w M (pc + 1) L (.int ((mk_str i).2.2.2.getD k.toNatClampNeg 0) :: S) t o) : mk_O w M pc L (.int k :: .ref (1500000 + i) :: S) t o := by
  refine mk_O.rd (fun p l e R s m args below meth c Q D ac g A H locs cells slots ls ad hC hsz hE hR hS _ _ kk => ?_) (fun hh h => h.pop.pop.int) kk
  have hq := ((hE.2.2.2.2.1 i hi).1.1 0 (by omega)).2.2.2
  exact va_tb hC.1 hC.2.1 hq hS hk rfl hd kk
theorem xo_cst {index : Nat} (hl : Cond.fieldLink M.1.cls index "java/lang/String" "COMPACT_STRINGS" "Z" ∈ lw_gw) (hd : decode M.2.1 pc = .ok (.getstatic index, 3)) (kk : mk_O w M (pc + 3) L (.int 1 :: S) t o) : mk_O w M pc L S t o :=
  mk_O.rd (fun p l e R s m args below meth c Q D ac g A H locs cells slots ls ad hC hsz hE hR hS _ _ kk => va_gets hC.1 hC.2.1 hE.2.2.2.2.2.1 hS hC.2.2.2.1 (hC.2.2.2.2.1 _ hl) (fun _ h => h) hd kk) (fun hh h => h.int) kk
theorem xo_sio {index : Nat} (hl : Cond.fieldLink M.1.cls index "jdk/internal/util/Preconditions" "SIOOBE_FORMATTER" "Ljava/util/function/BiFunction;" ∈ lw_gw) (hd : decode M.2.1 pc = .ok (.getstatic index, 3)) (k1 : mk_O w M (pc + 3) L (.null :: S) t o) (k2 : mk_O w M (pc + 3) L (.ref 1600000 :: S) t o) : mk_O w M pc L S t o := by
  intro z hz
  obtain ⟨a1, a2⟩ := k1 z hz
  obtain ⟨b1, b2⟩ := k2 z hz
  refine ⟨a1, ?_⟩
  intro p l e R s m args below meth c Q D ac g A c0 s0 H locs ls ad hC hB hE hR hS hL hf hq
  rcases hE.2.2.2.2.2.2.1 with q | q
  · exact va_gets hC.1 hC.2.1 q hS hC.2.2.2.1 (hC.2.2.2.2.1 _ hl) (fun _ h => h) hd (a2 p l e R s m args below meth c Q D ac g A c0 s0 H locs ls ad hC hB hE hR hS hL hf.null hq)
  · exact va_gets hC.1 hC.2.1 q hS hC.2.2.2.1 (hC.2.2.2.2.1 _ hl) (fun _ h => h) hd (b2 p l e R s m args below meth c Q D ac g A c0 s0 H locs ls ad hC hB hE hR hS hL (hf.push (v := .ref 1600000) (mk_wv_big (by omega))) hq)
theorem xo_i2c {x : Int32} (hd : decode M.2.1 pc = .ok (.i2c, 1)) (k : mk_O w M (pc + 1) L (.int (x.toUInt32 % 65536).toInt32 :: S) t o) : mk_O w M pc L (.int x :: S) t o :=
  mk_O.stp (fun p l e R s m args below meth c Q H locs cells slots ls ad hC hL kk => lv_i2c hC.1 hC.2.1 hd rfl kk) (fun n h => h.pop.int) k
/-- an answer of a narrow type -/
theorem xo_nret {x : Int32} {ty : FieldType} (hd : decode M.2.1 pc = .ok (.ireturn, 1)) (hr : M.2.2.2.1 = some ty) (hn : narrow ty (.int x) = .int x) : mk_O mk_wi M pc L [.int x] t (some (x, t)) :=
  mk_O.ret ⟨hd, _, hr, hn⟩ (fun n h v hv => by cases hv; trivial) (fun _ => rfl)
/-- a call of a method of String on one of our constants -/
theorem mk_O.callT {β : Type} {wc : β → Option Value} {N : mk_M} {S0 : List Value} {oc : Option (β × mk_S)} {f : β × mk_S → Option (α × mk_S)} {index np i : Nat} {As1 : List Value} (hi : i < 41) (hMD : mk_MD N np) (hMV : mk_MV N) (hlk : Cond.methodLink M.1.cls index N.1 ∈ lw_gw) (hnp : As1.length = np) (hcat : (S.map fun v => v.category).sum ≤ 8) (hroom : N.2.2.2.2.1 + 1 ≤ M.2.2.2.2.1 ∧ 8 + (N.2.2.1 + 11) + N.2.2.2.2.2 ≤ M.2.2.2.2.2) (hd : decode M.2.1 pc = .ok (.invokevirtual index, 3)) (hS0 : S0 = As1.reverse ++ .ref (1000000 + i) :: S) (hq : N.1.cls = "java/lang/String") (hct : ∀ z, oc = some z → mk_Ct N (.ref (1000000 + i) :: As1) t (wc z.1, z.2))
    (kk : ∀ z, oc = some z → mk_O w M (pc + 3) L ((wc z.1).toList ++ S) z.2 (f z)) : mk_O w M pc L S0 t (oc.bind f) := by
  subst hS0
  refine mk_O.call hct (fun v hv => ?_) (fun p l e R s m args below meth c D ac g A H locs cells slots ls ad r z hz hC hsz hE hR hS hf hMet hpre => ?_) kk
  · rw [List.mem_append, List.mem_reverse, List.mem_cons]
    rcases hv with h | h
    · rcases List.mem_cons.mp h with h | h
      · exact Or.inr (Or.inl h)
      · exact Or.inl h
    · exact Or.inr (Or.inr h)
  have hrm : (mk_rm N t r).frames + 1 ≤ R.frames ∧ 8 + (N.2.2.1 + 11) + (mk_rm N t r).locals ≤ R.locals := ⟨Nat.le_trans hroom.1 hC.2.2.2.2.2.2.1, Nat.le_trans hroom.2 hC.2.2.2.2.2.2.2⟩
  have hd2 : N.1.cls ≠ "java/lang/invoke/MethodHandle" ∧ N.1.cls ≠ "java/lang/invoke/VarHandle" ∧ (parseMethodDescriptor N.1.desc).map (fun d => d.parameters.length) = some np := hMD.2.2
  have hrec := vk_recv (hE.2.2.2.2.1 i hi).1 (i := 0) (by omega) hS
  rw [← hq] at hrec
  have hpv : PreV s H N.1.cls (ad (1000000 + i)) (mk_Pc D ac g ad H.size (.ref (1000000 + i) :: As1) t) (As1.map (mk_tr ad)) := ⟨hpre.1, hrec, hpre.2⟩
  exact va_runV (ws := mk_wM N) (bytes := N.2.1) (maxL := N.2.2.1) (ret := N.2.2.2.1) (index := index) (n := np) (C := N.1.cls) ⟨hC.1, hC.2.1, hC.2.2.1, hC.2.2.2.1, hC.2.2.2.2.1⟩ hMet ⟨callB_of np hC.2.2.2.2.1 (mk_good hMD) rfl rfl rfl (hC.2.2.2.2.1 _ hMD.2.1) (hC.2.2.2.2.1 _ hlk) hd2 hrm, hC.2.2.2.2.1 _ hMV.1, hC.2.2.2.2.1 _ hMV.2⟩ hpv rfl (by rw [List.length_map]; exact hnp) hsz (by rw [mk_S_map]; rfl) (by rw [mk_cat_map]; show 2 * 0 + _ ≤ 8; omega) hd hf
end MKW
