section MKV
variable {α : Type} {w : α → Option Value} {M : mk_M} {pc : Nat} {L : List (Option Value)} {S : List Value} {t : mk_S} {o : Option (α × mk_S)}
/-- a String constant by the wide instruction -/
theorem mk_ldcwS {p : Program} {l : Launch} {e : Env} {R : Room} {s : State} {m : MethodId} {args : Array Value} {below : List Frame} {meth : Method} {c : Code} {H : Heap} {locs : List Loc} {cells slots : Nat} {Q : State → Prop} {cc : ByteArray} {ls : Array Slot} {rest : List Value} (hexec : p.tables.exec = Jvm.exec) (hb : c.code = cc) {own tx : String} {index q : Nat} (hown : s.vm.findClass own = some m.cls) (hZ : vk_R own index tx q s) (hdg : decode cc pc = .ok (.ldc_w index, 3))
    (k : W p l e R s m args below meth c H locs cells slots Q (F0 m (pc + 3) ls (.ref q :: rest))) : W p l e R s m args below meth c H locs cells slots Q (F0 m pc ls rest) := by
  intro T hT X
  obtain ⟨u, a1, b1⟩ := k T hT X
  refine ⟨u, ?_, b1⟩
  have hdg' : decode c.code (F0 m pc ls rest).pc = .ok (.ldc_w index, 3) := by rw [hb]; exact hdg
  obtain ⟨k1, cf, i, a', hk, hcf, hcp, -, hr, hev'⟩ := Cond.stringRef_spec hown hZ.1
  cases hZ.2.symm.trans hev'
  obtain ⟨k', hk', he⟩ := X.warmed.alike.2.2 _ _ hk
  have hr' : k'.resolved[index]? = some (some (.string q)) := by
    rcases X.warmed.entry hk hk' index with h | ⟨h, -⟩
    · rw [h]; exact hr
    · rw [hr] at h; cases h
  jvm_step X.here [hexec, hdg', ldc_w.wp_string (e := e) (s := T) (f := F0 m pc ls rest) X.here.top hk' (by rw [he]; exact hcf) hcp hr']
  exact a1
theorem xo_strw {i index : Nat} (hi : i < 41) (h1 : (mk_str i).1 = M.1.cls) (h2 : (mk_str i).2.1 = index) (hd : decode M.2.1 pc = .ok (.ldc_w index, 3)) (kk : mk_O w M (pc + 3) L (.ref (1000000 + i) :: S) t o) : mk_O w M pc L S t o := by
  refine mk_O.rd (fun p l e R s m args below meth c Q D ac g A H locs cells slots ls ad hC hsz hE hR hS _ _ kk => ?_) (fun hh h => h.push (v := .ref (1000000 + i)) (mk_wv_big (by omega))) kk
  have hk := (hE.2.2.2.2.1 i hi).2
  rw [h1, h2] at hk
  exact mk_ldcwS hC.1 hC.2.1 hC.2.2.2.1 hk hd kk
end MKV
