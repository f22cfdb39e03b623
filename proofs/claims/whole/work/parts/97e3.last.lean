set_option maxRecDepth 4000 in
/-- at the text's end a step is the last -/
theorem rst_end {T : TT} {a nx pt : Nat} {st : List Nat} {it : Nat} {cl : RT} {c1 cd : List (Nat × Nat)} (ha : T.1 ≤ a) (hb : ∀ i, bt T i < 256 ∨ bt T i = 1000) (hn : nx ≤ 4) : (rst T (0, a, nx, pt, st, it, cl, c1, cd)).1 ≠ 0 ∨ (rst T (0, a, nx, pt, st, it, cl, c1, cd)).2.2.1 = 4 := by
  have e0 : sp isB T a = a := sp_stop (by rw [bt_end ha]; rfl)
  have e1 : sgn1 T a = 1000 := (sg_b (T := T) (s := a) (c := 1000) (hb a) (by omega) rfl rfl (by omega) (by omega)).mpr (bt_end ha)
  have hf : ∀ f, (ft (1 + f)).1 ≠ 0 := fun f h => by have : 1 + f = 0 := h; omega
  have hV : ∀ pt, (sV T a pt st it cl c1 cd).1 ≠ 0 := fun pt => by
    unfold sV
    rw [if_neg (by omega)]
    show 1 + 8 * a + 0 ≠ 0; omega
  rcases (show nx = 0 ∨ nx = 1 ∨ nx = 2 ∨ nx = 3 ∨ nx = 4 by omega) with z | z | z | z | z <;> subst z
  · left
    show (sC T (sp isB T a) st it cl).1 ≠ 0
    rw [e0]
    unfold sC
    rw [if_neg (by omega)]
    show 1 + 8 * a + 0 ≠ 0; omega
  · left
    show (sV T (sp isB T a) pt st it cl c1 cd).1 ≠ 0
    rw [e0]; exact hV pt
  · left
    show (sF T (sp isB T a) pt st it cl c1 cd).1 ≠ 0
    rw [e0]
    unfold sF
    rw [if_neg (by omega)]; exact hV 1
  · show (sB T (sp isB T a) pt st it cl c1 cd).1 ≠ 0 ∨ (sB T (sp isB T a) pt st it cl c1 cd).2.2.1 = 4
    have hb0 : bd 1000 = 0 := rfl
    rw [e0]
    unfold sB sE
    rw [e1, hb0, if_neg (by omega), if_neg (by omega), if_neg (by omega), if_neg (by omega), if_neg (by omega)]
    split
    · split
      · right
        show (if 1000 = 59 then 0 else 4) = 4
        rfl
      · left
        show 1 + 8 * a + 0 ≠ 0; omega
    · left
      show 1 + 8 * a + 0 ≠ 0; omega
  · right; rfl
