/-! what lies outside stays: each method of the class writes into its own cells alone (rows by program) -/
def Ke (t t1 : mk_S) : Prop := t1.1.length = t.1.length ∧ ∀ a, t.1.length ≤ a → t1.2.1 a = t.2.1 a
def KeP {α : Type} (t : mk_S) (o : Option (α × mk_S)) : Prop := ∀ z, o = some z → Ke t z.2
def KeS (t : mk_S) (o : Option mk_S) : Prop := ∀ t1, o = some t1 → Ke t t1
set_option maxRecDepth 4000 in
theorem Ke.rf {t : mk_S} : Ke t t := ⟨rfl, fun _ _ => rfl⟩
set_option maxRecDepth 4000 in
theorem Ke.trans {t t1 t2 : mk_S} (h : Ke t t1) (h2 : Ke t1 t2) : Ke t t2 := ⟨h2.1.trans h.1, fun a ha => (h2.2 a (by rw [h.1]; exact ha)).trans (h.2 a ha)⟩
set_option maxRecDepth 4000 in
theorem KeP.tr {α : Type} {t t1 : mk_S} {o : Option (α × mk_S)} (h : Ke t t1) (h2 : KeP t1 o) : KeP t o := fun z hz => h.trans (h2 z hz)
set_option maxRecDepth 4000 in
theorem KeS.tr {t t1 : mk_S} {o : Option mk_S} (h : Ke t t1) (h2 : KeS t1 o) : KeS t o := fun z hz => h.trans (h2 z hz)
set_option maxRecDepth 4000 in
theorem ke_none {α : Type} {t : mk_S} : KeP t (none : Option (α × mk_S)) := fun z hz => by cases hz
set_option maxRecDepth 4000 in
theorem ke_some {α : Type} {t t1 : mk_S} {a : α} (h : Ke t t1) : KeP t (some (a, t1)) := fun z hz => by cases hz; exact h
set_option maxRecDepth 4000 in
theorem ke_ite {α : Type} {t : mk_S} {c : Prop} [Decidable c] {a b : Option (α × mk_S)} (h1 : KeP t a) (h2 : KeP t b) : KeP t (if c then a else b) := by
  split
  · exact h1
  · exact h2
set_option maxRecDepth 4000 in
theorem ke_nn {α : Type} {t : mk_S} {r : Option Nat} {f : Nat → Option (α × mk_S)} {o : Option (α × mk_S)} (h1 : ∀ a, KeP t (f a)) (h2 : KeP t o) : KeP t (mk_nn r f o) := by
  cases r with
  | none => exact h2
  | some a => exact h1 a
set_option maxRecDepth 4000 in
theorem ke_gd {α : Type} {t t1 : mk_S} {a ci : Nat} {o : Option (α × mk_S)} (h : KeP t o) : KeP t (mk_gd t1 a ci o) := by
  unfold mk_gd
  split
  · split
    · exact h
    · exact ke_none
  · exact ke_none
set_option maxRecDepth 4000 in
theorem ke_rz {t t1 : mk_S} {x : Int32} (h : Ke t t1) : KeP t (mk_rz x t1) := by
  unfold mk_rz
  split
  · exact ke_some h
  · exact ke_none
set_option maxRecDepth 4000 in
theorem ke_bindO {α β : Type} {t : mk_S} {o : Option (β × mk_S)} {f : β × mk_S → Option (α × mk_S)} (h : KeP t o) (h2 : ∀ z : β × mk_S, Ke t z.2 → KeP t (f z)) : KeP t (o.bind f) := fun z hz => by
  cases o with
  | none => cases hz
  | some y => exact h2 y (h y rfl) z hz
set_option maxRecDepth 4000 in
theorem ke_bindS {α : Type} {t : mk_S} {o : Option mk_S} {f : mk_S → Option (α × mk_S)} (h : KeS t o) (h2 : ∀ z : mk_S, Ke t z → KeP t (f z)) : KeP t (o.bind f) := fun z hz => by
  cases o with
  | none => cases hz
  | some y => exact h2 y (h y rfl) z hz
set_option maxRecDepth 4000 in
theorem ke_bindV {α β : Type} {t : mk_S} {o : Option β} {f : β → Option (α × mk_S)} (h2 : ∀ z : β, KeP t (f z)) : KeP t (o.bind f) := fun z hz => by
  cases o with
  | none => cases hz
  | some y => exact h2 y z hz
set_option maxRecDepth 4000 in
theorem ke_at {t : mk_S} {a : Nat} {K : mk_K} (h : t.1[a]? = some K) : a < t.1.length := by
  rcases Nat.lt_or_ge a t.1.length with c | c
  · exact c
  · rw [List.getElem?_eq_none c] at h; cases h
set_option maxRecDepth 4000 in
theorem kes_up {t : mk_S} {a k : Nat} {v : Int32} (h : a < t.1.length) : Ke t (t.1, mk_u2 t.2.1 a k v, t.2.2) := ⟨rfl, fun i hi => mk_u2_ne (by omega)⟩
set_option maxRecDepth 4000 in
theorem kes_pi (t : mk_S) (a ci k : Nat) (v : Int32) : KeS t (mk_pi t a ci k v) := fun t1 h => by
  unfold mk_pi at h
  cases hK : t.1[a]? with
  | none => rw [hK] at h; cases h
  | some K =>
    rw [hK] at h
    simp only [] at h
    split at h
    · cases h; exact kes_up (ke_at hK)
    · cases h
set_option maxRecDepth 4000 in
theorem kes_st (tag : Nat) (t : mk_S) (a : Nat) (i x : Int32) : KeS t (mk_st tag t a i x) := fun t1 h => by
  unfold mk_st at h
  cases hK : t.1[a]? with
  | none => rw [hK] at h; cases h
  | some K =>
    rw [hK] at h
    simp only [] at h
    split at h
    · cases h; exact kes_up (ke_at hK)
    · cases h
set_option maxRecDepth 4000 in
theorem kes_stl (t : mk_S) (a : Nat) (i : Int32) (x : Int64) : KeS t (mk_stl t a i x) := fun t1 h => by
  unfold mk_stl at h
  cases hK : t.1[a]? with
  | none => rw [hK] at h; cases h
  | some K =>
    rw [hK] at h
    simp only [] at h
    split at h
    · cases h; exact ⟨rfl, fun _ _ => rfl⟩
    · cases h
set_option maxRecDepth 4000 in
theorem kes_cp (t : mk_S) (a : Nat) (sp : Int32) (b : Nat) (dp n : Int32) : KeS t (mk_cp t a sp b dp n) := fun t1 h => by
  unfold mk_cp at h
  cases hK : t.1[a]? with
  | none => rw [hK] at h; cases h
  | some K =>
    cases hJ : t.1[b]? with
    | none => rw [hK, hJ] at h; cases h
    | some J =>
      rw [hK, hJ] at h
      simp only [] at h
      split at h
      · cases h
        exact ⟨rfl, fun i hi => va_up_ne _ _ (by have := ke_at hJ; omega)⟩
      · cases h
set_option maxRecDepth 4000 in
theorem ke_sln (a : Nat) (t : mk_S) : KeP t (mk_sln a t) := fun z h => by
  unfold mk_sln at h
  split at h
  · have e := congrArg Prod.snd (Option.some.inj h)
    have e : t = z.2 := e
    rw [← e]; exact Ke.rf
  · cases h
set_option maxRecDepth 4000 in
theorem ke_sch (a : Nat) (x : Int32) (t : mk_S) : KeP t (mk_sch a x t) := fun z h => by
  unfold mk_sch F_J1 F_JC at h
  split at h
  · split at h
    · cases h
    · split at h
      · have e := congrArg Prod.snd (Option.some.inj h)
        have e : t = z.2 := e
        rw [← e]; exact Ke.rf
      · cases h
  · cases h
