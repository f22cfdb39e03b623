/-! texts: bytes (1000 behind the end), spans, words, numbers -/
def bt (T : TT) (i : Nat) : Nat := if i < T.1 then T.2 i else 1000
def spf (P : Nat → Bool) (T : TT) : Nat → Nat → Nat
  | 0, i => i
  | f + 1, i => if P (bt T i) then spf P T f (i + 1) else i
def sp (P : Nat → Bool) (T : TT) (i : Nat) : Nat := spf P T (T.1 - i) i
set_option maxRecDepth 4000 in
theorem bt_end {T : TT} {i : Nat} (h : T.1 ≤ i) : bt T i = 1000 := if_neg (by omega)
set_option maxRecDepth 4000 in
theorem bt_in {T : TT} {i : Nat} (h : i < T.1) : bt T i = T.2 i := if_pos h
set_option maxRecDepth 4000 in
theorem sp_stop {P : Nat → Bool} {T : TT} {i : Nat} (h : P (bt T i) = false) : sp P T i = i := by
  unfold sp
  cases T.1 - i with
  | zero => rfl
  | succ f => simp [spf, h]
set_option maxRecDepth 4000 in
theorem sp_go {P : Nat → Bool} {T : TT} {i : Nat} (hP : P 1000 = false) (h : P (bt T i) = true) : i < T.1 ∧ sp P T i = sp P T (i + 1) := by
  have hi : i < T.1 := by
    apply Classical.byContradiction
    intro c
    rw [bt_end (by omega), hP] at h
    cases h
  refine ⟨hi, ?_⟩
  unfold sp
  obtain ⟨d, hd⟩ : ∃ d, T.1 - i = d + 1 := ⟨T.1 - i - 1, by omega⟩
  have e : T.1 - (i + 1) = d := by omega
  rw [hd, e]
  simp [spf, h]
set_option maxRecDepth 4000 in
theorem sp_all {P : Nat → Bool} {T : TT} (hP : P 1000 = false) : ∀ (n i : Nat), T.1 - i ≤ n → i ≤ sp P T i ∧ (i ≤ T.1 → sp P T i ≤ T.1) ∧ P (bt T (sp P T i)) = false ∧ ∀ j, i ≤ j → j < sp P T i → P (bt T j) = true := by
  intro n
  induction n with
  | zero =>
    intro i hi
    have e : P (bt T i) = false := by rw [bt_end (by omega)]; exact hP
    rw [sp_stop e]
    exact ⟨Nat.le_refl _, id, e, fun j h1 h2 => by omega⟩
  | succ n ih =>
    intro i hi
    cases h : P (bt T i) with
    | false => rw [sp_stop h]; exact ⟨Nat.le_refl _, id, h, fun j h1 h2 => by omega⟩
    | true =>
      obtain ⟨h1, h2⟩ := sp_go hP h
      obtain ⟨a, b, c, d⟩ := ih (i + 1) (by omega)
      rw [h2]
      refine ⟨by omega, fun _ => b (by omega), c, fun j h3 h4 => ?_⟩
      rcases Nat.eq_or_lt_of_le h3 with e | e
      · subst e; exact h
      · exact d j (by omega) h4
set_option maxRecDepth 4000 in
theorem sp_ge {P : Nat → Bool} {T : TT} (hP : P 1000 = false) (i : Nat) : i ≤ sp P T i := (sp_all hP _ i (Nat.le_refl _)).1
set_option maxRecDepth 4000 in
theorem sp_le {P : Nat → Bool} {T : TT} (hP : P 1000 = false) {i : Nat} (h : i ≤ T.1) : sp P T i ≤ T.1 := (sp_all hP _ i (Nat.le_refl _)).2.1 h
set_option maxRecDepth 4000 in
theorem sp_end {P : Nat → Bool} {T : TT} (hP : P 1000 = false) (i : Nat) : P (bt T (sp P T i)) = false := (sp_all hP _ i (Nat.le_refl _)).2.2.1
set_option maxRecDepth 4000 in
theorem sp_mid {P : Nat → Bool} {T : TT} (hP : P 1000 = false) {i j : Nat} (h1 : i ≤ j) (h2 : j < sp P T i) : P (bt T j) = true := (sp_all hP _ i (Nat.le_refl _)).2.2.2 j h1 h2
set_option maxRecDepth 4000 in
theorem sp_sp {P : Nat → Bool} {T : TT} (hP : P 1000 = false) (i : Nat) : sp P T (sp P T i) = sp P T i := sp_stop (sp_end hP i)
set_option maxRecDepth 4000 in
theorem sp_cap {P : Nat → Bool} {T : TT} (hP : P 1000 = false) {i c : Nat} (h : i ≤ c) (hc : T.1 ≤ c) : sp P T i ≤ c := by
  by_cases g : i ≤ T.1
  · exact Nat.le_trans (sp_le hP g) hc
  · rw [sp_stop (by rw [bt_end (by omega)]; exact hP)]; exact h
def isB (b : Nat) : Bool := decide (b = 32)
def isD (b : Nat) : Bool := decide (48 ≤ b ∧ b ≤ 57)
def isL (b : Nat) : Bool := decide (97 ≤ b ∧ b ≤ 122)
set_option maxRecDepth 4000 in
theorem isD_T {b : Nat} (h1 : 48 ≤ b) (h2 : b ≤ 57) : isD b = true := decide_eq_true ⟨h1, h2⟩
set_option maxRecDepth 4000 in
theorem isD_F {b : Nat} (h : b < 48 ∨ 57 < b) : isD b = false := decide_eq_false (by omega)
set_option maxRecDepth 4000 in
theorem isL_T {b : Nat} (h1 : 97 ≤ b) (h2 : b ≤ 122) : isL b = true := decide_eq_true ⟨h1, h2⟩
set_option maxRecDepth 4000 in
theorem isL_F {b : Nat} (h : b < 97 ∨ 122 < b) : isL b = false := decide_eq_false (by omega)
set_option maxRecDepth 4000 in
theorem isD_of {b : Nat} (h : isD b = true) : 48 ≤ b ∧ b ≤ 57 := of_decide_eq_true h
set_option maxRecDepth 4000 in
theorem isL_of {b : Nat} (h : isL b = true) : 97 ≤ b ∧ b ≤ 122 := of_decide_eq_true h
set_option maxRecDepth 4000 in
theorem isB_of {b : Nat} (h : isB b = true) : b = 32 := of_decide_eq_true h
set_option maxRecDepth 4000 in
theorem isB_no {b : Nat} (h : isB b = false) : b ≠ 32 := of_decide_eq_false h
set_option maxRecDepth 4000 in
theorem isD_no {b : Nat} (h : isD b = false) : ¬ (48 ≤ b ∧ b ≤ 57) := of_decide_eq_false h
set_option maxRecDepth 4000 in
theorem isL_no {b : Nat} (h : isL b = false) : ¬ (97 ≤ b ∧ b ≤ 122) := of_decide_eq_false h
set_option maxRecDepth 4000 in
theorem hB : isB 1000 = false := rfl
set_option maxRecDepth 4000 in
theorem hD : isD 1000 = false := rfl
set_option maxRecDepth 4000 in
theorem hL : isL 1000 = false := rfl
/-- a sign as a number of the machine -/
def sI (s : Nat) : Int32 := if s = 1000 then -nI 1 else nI s
set_option maxRecDepth 4000 in
theorem sI_n {s : Nat} (h : s ≠ 1000) : sI s = nI s := if_neg h
set_option maxRecDepth 4000 in
theorem sI_e : sI 1000 = -nI 1 := rfl
set_option maxRecDepth 4000 in
theorem sI_eqc {s c : Nat} (hs : s < 100000) (hc : c < 1000) : (sI s = nI c) = (s = c) := by
  unfold sI
  split
  · rename_i h
    subst h
    exact propext ⟨fun e => absurd (e.symm) (by rw [m1_eq (by omega)]; exact id), fun e => by omega⟩
  · exact eq_I (by omega) (by omega)
set_option maxRecDepth 4000 in
theorem sI_end {s : Nat} (hs : s < 100000) : (sI s = -nI 1) = (s = 1000) := by
  unfold sI
  split
  · rename_i h
    exact propext ⟨fun _ => h, fun _ => rfl⟩
  · rename_i h
    rw [m1_eq (by omega)]
    exact propext ⟨fun e => e.elim, fun e => h e⟩
set_option maxRecDepth 4000 in
theorem m1_ltc {c : Nat} (hc : c < 2147483648) : -nI 1 < nI c := of_eq_true (m1_T hc)
set_option maxRecDepth 4000 in
theorem sI_ltc {s c : Nat} (hs : s < 100000) (hc : c < 1000) : (sI s < nI c) = (s = 1000 ∨ s < c) := by
  unfold sI
  split
  · rename_i h
    exact propext ⟨fun _ => .inl h, fun _ => m1_ltc (by omega)⟩
  · rename_i h
    rw [lt_I (by omega) (by omega)]
    exact propext ⟨fun e => .inr e, fun e => by omega⟩
set_option maxRecDepth 4000 in
theorem sI_gtc {s c : Nat} (hs : s < 100000) (hc : c < 1000) : (nI c < sI s) = (c < s ∧ s ≠ 1000) := by
  unfold sI
  split
  · rename_i h
    refine propext ⟨fun e => absurd (Int32.lt_trans e (m1_ltc (c := c) (by omega))) (Int32.lt_irrefl), fun e => absurd h e.2⟩
  · rename_i h
    rw [lt_I (by omega) (by omega)]
    exact propext ⟨fun e => ⟨e, h⟩, fun e => e.1⟩
set_option maxRecDepth 4000 in
theorem bt_lt {T : TT} (h : ∀ i, i < T.1 → T.2 i < 256) (i : Nat) : bt T i < 256 ∨ bt T i = 1000 := by
  unfold bt
  split
  · rename_i c
    exact .inl (h i c)
  · exact .inr rfl
/-! words -/
def wdl : List (List Nat) := [[112, 101, 114, 115, 111, 110], [117, 114, 103, 101], [115, 116, 101, 97, 100, 121], [102, 97, 99, 101, 115], [114, 111, 119], [99, 111, 108, 117, 109, 110], [119, 105, 110, 100], [97, 99, 116, 101, 100], [115, 105, 110, 99, 101], [103, 114, 111, 117, 110, 100], [111, 102, 102], [104, 111, 117, 114], [105, 102], [97, 110, 100], [111, 114], [110, 111, 116], [119, 104, 105, 109], [112, 108, 97, 116, 101, 97, 117], [109, 105, 108, 108], [114, 111, 111, 102], [], [112, 101, 114, 115, 111, 110], [117, 114, 103, 101], [115, 116, 101, 97, 100, 121], [102, 97, 99, 101, 115], [114, 111, 119], [99, 111, 108, 117, 109, 110], [119, 105, 110, 100], [97, 99, 116, 101, 100], [115, 105, 110, 99, 101], [103, 114, 111, 117, 110, 100], [111, 102, 102], [104, 111, 117, 114], [110, 111, 116], [97, 110, 100], [111, 114], [112, 108, 97, 116, 101, 97, 117], [109, 105, 108, 108], [114, 111, 111, 102], [119, 104, 105, 109], [105, 102]]
def wd (k : Nat) : List Nat := wdl.getD k []
set_option maxRecDepth 4000 in
theorem wd_str : ∀ k, k < 41 → (mk_str k).2.2.2 = (wd k).map nI := by decide +kernel
set_option maxRecDepth 4000 in
theorem wd_len : ∀ k, k < 41 → (wd k).length ≤ 7 := by decide +kernel
set_option maxRecDepth 4000 in
theorem wd_pos : ∀ k, k < 41 → k ≠ 20 → 2 ≤ (wd k).length := by decide +kernel
set_option maxRecDepth 4000 in
theorem wd_chr : ∀ k, k < 41 → ∀ j, j < (wd k).length → 97 ≤ (wd k).getD j 0 ∧ (wd k).getD j 0 ≤ 122 := by decide +kernel
set_option maxRecDepth 4000 in
theorem wd_inj : ∀ k, k < 20 → ∀ j, j < 20 → wd k = wd j → k = j := by decide +kernel
set_option maxRecDepth 4000 in
theorem wsln {k : Nat} (h : k < 41) (t : mk_S) : mk_sln (1000000 + k) t = some (nI (wd k).length, t) := by
  unfold mk_sln
  rw [if_pos (by omega), Nat.add_sub_cancel_left, wd_str k h, List.length_map]
  rfl
set_option maxRecDepth 4000 in
theorem wsch {k i : Nat} (h : k < 41) (hi : i < (wd k).length) (t : mk_S) : mk_sch (1000000 + k) (nI i) t = some (nI ((wd k).getD i 0), t) := by
  have h7 := wd_len k h
  unfold mk_sch
  rw [if_pos (by omega), Nat.add_sub_cancel_left]
  unfold F_J1 F_JC
  rw [wd_str k h, List.length_map, nI_clamp (by omega)]
  have e1 : (nI i < Int32.ofNat (wd k).length) = True := lt_T (b := (wd k).length) hi (by omega)
  have e2 : (nI i < 0) = False := nI_lt0 (by omega)
  simp only [e1, e2, if_true, if_false, ob_some, List.getD_eq_getElem?_getD, List.getElem?_map]
  rw [List.getElem?_eq_getElem hi]
  rfl
/-- whether the bytes from s on are those -/
def eqf (T : TT) (s : Nat) (w : List Nat) : Nat → Bool
  | 0 => true
  | i + 1 => eqf T s w i && decide (T.2 (s + i) = w.getD i 0)
def stW (T : TT) (s : Nat) (w : List Nat) : Bool := decide (sp isL T s = s + w.length) && eqf T s w w.length
set_option maxRecDepth 4000 in
theorem eqf_all {T : TT} {s : Nat} {w : List Nat} : ∀ n, eqf T s w n = true ↔ ∀ i, i < n → T.2 (s + i) = w.getD i 0 := by
  intro n
  induction n with
  | zero => exact ⟨fun _ i h => by omega, fun _ => rfl⟩
  | succ n ih =>
    simp only [eqf, Bool.and_eq_true, decide_eq_true_eq, ih]
    refine ⟨fun h i hi => ?_, fun h => ⟨fun i hi => h i (by omega), h n (by omega)⟩⟩
    rcases Nat.lt_or_ge i n with c | c
    · exact h.1 i c
    · have : i = n := by omega
      subst this; exact h.2
set_option maxRecDepth 4000 in
theorem stW_len {T : TT} {s : Nat} {w : List Nat} (h : stW T s w = true) : sp isL T s = s + w.length := by
  simp only [stW, Bool.and_eq_true, decide_eq_true_eq] at h
  exact h.1
set_option maxRecDepth 4000 in
theorem stW_un {T : TT} {s : Nat} {w v : List Nat} (h : stW T s w = true) (h2 : stW T s v = true) : w = v := by
  have e := stW_len h
  have e2 := stW_len h2
  have el : w.length = v.length := by omega
  simp only [stW, Bool.and_eq_true, decide_eq_true_eq] at h h2
  have a := (eqf_all _).mp h.2
  have b := (eqf_all _).mp h2.2
  apply List.ext_getElem el
  intro i h1 h3
  have a1 := a i h1
  have b1 := b i h3
  rw [a1] at b1
  simpa [List.getD_eq_getElem?_getD, List.getElem?_eq_getElem h1, List.getElem?_eq_getElem h3] using b1
set_option maxRecDepth 4000 in
theorem stW_no {T : TT} {s : Nat} {w : List Nat} (h : isL (bt T s) = false) (hw : 0 < w.length) : stW T s w = false := by
  have e := sp_stop h
  cases c : stW T s w with
  | false => rfl
  | true => have := stW_len c; omega
def wixf (T : TT) (s : Nat) : Nat → Nat → Nat
  | 0, k => k
  | f + 1, k => if stW T s (wd k) then k else wixf T s f (k + 1)
def wix (T : TT) (s : Nat) : Nat := wixf T s 20 0
set_option maxRecDepth 4000 in
theorem wixf_le {T : TT} {s : Nat} : ∀ f k, k ≤ wixf T s f k ∧ wixf T s f k ≤ k + f := by
  intro f
  induction f with
  | zero => intro k; exact ⟨Nat.le_refl _, Nat.le_refl _⟩
  | succ f ih =>
    intro k
    unfold wixf
    split
    · omega
    · have := ih (k + 1); omega
set_option maxRecDepth 4000 in
theorem wix_le (T : TT) (s : Nat) : wix T s ≤ 20 := (wixf_le 20 0).2
set_option maxRecDepth 4000 in
theorem wixf_is {T : TT} {s : Nat} : ∀ f k, wixf T s f k < k + f → stW T s (wd (wixf T s f k)) = true := by
  intro f
  induction f with
  | zero => intro k h; simp only [wixf] at h; omega
  | succ f ih =>
    intro k h
    unfold wixf at h ⊢
    split
    · rename_i c; exact c
    · rename_i c
      rw [if_neg c] at h
      exact ih (k + 1) (by omega)
set_option maxRecDepth 4000 in
theorem wixf_no {T : TT} {s : Nat} : ∀ f k j, k ≤ j → j < wixf T s f k → stW T s (wd j) = false := by
  intro f
  induction f with
  | zero => intro k j h1 h2; simp only [wixf] at h2; omega
  | succ f ih =>
    intro k j h1 h2
    unfold wixf at h2
    split at h2
    · omega
    · rename_i c
      rcases Nat.eq_or_lt_of_le h1 with e | e
      · subst e; simpa using c
      · exact ih (k + 1) j e h2
set_option maxRecDepth 4000 in
/-- which word it is: by its place among the twenty -/
theorem stW_iff {T : TT} {s k : Nat} (hk : k < 20) : stW T s (wd k) = decide (wix T s = k) := by
  by_cases h : wix T s = k
  · rw [decide_eq_true h, ← h]
    exact wixf_is 20 0 (by have : wixf T s 20 0 = k := h; omega)
  · rw [decide_eq_false h]
    cases c : stW T s (wd k) with
    | false => rfl
    | true =>
      exfalso
      rcases Nat.lt_or_ge (wix T s) 20 with g | g
      · have := wixf_is (T := T) (s := s) 20 0 (by have : wixf T s 20 0 = wix T s := rfl; omega)
        exact h (wd_inj _ g _ hk (stW_un this c))
      · have := wixf_no (T := T) (s := s) 20 0 k (by omega) (by have : wixf T s 20 0 = wix T s := rfl; omega)
        rw [this] at c; cases c
set_option maxRecDepth 4000 in
theorem wix_nl {T : TT} {s : Nat} (h : isL (bt T s) = false) : wix T s = 20 := by
  have h20 := wix_le T s
  apply Classical.byContradiction
  intro c
  have e := stW_iff (T := T) (s := s) (k := wix T s) (by omega)
  rw [stW_no h (by have := wd_pos (wix T s) (by omega) (by omega); omega)] at e
  simp at e
set_option maxRecDepth 4000 in
theorem wix_end {T : TT} {s : Nat} (h : wix T s < 20) : sp isL T s = s + (wd (wix T s)).length := by
  have e := stW_iff (T := T) (s := s) h
  rw [decide_eq_true rfl] at e
  exact stW_len e
/-! numbers -/
def nval (T : TT) (s : Nat) : Nat → Nat
  | 0 => 0
  | k + 1 => nval T s k * 10 + (T.2 (s + k) - 48)
def numI (T : TT) (s k : Nat) : Int32 := if k ≤ 5 then nI (nval T s k) else -nI 1
set_option maxRecDepth 4000 in
theorem nval_lt {T : TT} {s : Nat} : ∀ k, (∀ j, j < k → isD (T.2 (s + j)) = true) → nval T s k < 10 ^ k := by
  intro k
  induction k with
  | zero => intro _; exact Nat.zero_lt_one
  | succ k ih =>
    intro h
    have a := ih (fun j hj => h j (by omega))
    have b := isD_of (h k (by omega))
    have e : 10 ^ (k + 1) = 10 ^ k * 10 := Nat.pow_succ ..
    simp only [nval]
    omega
/-! signs: which, where it begins, where it ends -/
def sgn1 (T : TT) (s : Nat) : Nat := if isD (bt T s) then 256 else if isL (bt T s) then (if wix T s < 20 then 300 + wix T s else 259) else if bt T s = 60 ∧ bt T (s + 1) = 61 then 257 else if bt T s = 62 ∧ bt T (s + 1) = 61 then 258 else bt T s
def end1 (T : TT) (s : Nat) : Nat := if isD (bt T s) then sp isD T s else if isL (bt T s) then sp isL T s else if bt T s = 1000 then s else if (bt T s = 60 ∨ bt T s = 62) ∧ bt T (s + 1) = 61 then s + 2 else s + 1
set_option maxRecDepth 4000 in
theorem end1_le {T : TT} {s : Nat} (h : s ≤ T.1) : s ≤ end1 T s ∧ end1 T s ≤ T.1 ∧ (bt T s ≠ 1000 → s < end1 T s) := by
  have g : bt T s ≠ 1000 → s < T.1 := fun c => by
    apply Classical.byContradiction
    intro d
    exact c (bt_end (by omega))
  unfold end1
  split
  · rename_i c
    obtain ⟨c1, c2⟩ := sp_go hD c
    refine ⟨sp_ge hD s, sp_le hD h, fun _ => ?_⟩
    have := sp_ge (P := isD) (T := T) hD (s + 1)
    omega
  · split
    · rename_i c
      obtain ⟨c1, c2⟩ := sp_go hL c
      refine ⟨sp_ge hL s, sp_le hL h, fun _ => ?_⟩
      have := sp_ge (P := isL) (T := T) hL (s + 1)
      omega
    · split
      · rename_i c
        exact ⟨Nat.le_refl _, h, fun d => absurd c d⟩
      · rename_i c
        have := g c
        split
        · rename_i d
          have : s + 1 < T.1 := by
            apply Classical.byContradiction
            intro e
            have := bt_end (T := T) (i := s + 1) (by omega)
            omega
          omega
        · omega
/-! the class -/
def TC (T : TT) (m : Nat → Nat → Int32) : Prop := m 1 1 = nI T.1 ∧ T.1 ≤ 400 ∧ ∀ i, i < T.1 → m 2 i = nI (T.2 i) ∧ T.2 i < 256
def TF (m m1 : Nat → Nat → Int32) : Prop := (∀ j, j ≠ 1 → m1 j = m j) ∧ m1 1 1 = m 1 1 ∧ m1 1 3 = m 1 3
set_option maxRecDepth 4000 in
theorem TF.trans {m m1 m2 : Nat → Nat → Int32} (h : TF m m1) (h2 : TF m1 m2) : TF m m2 := ⟨fun j hj => (h2.1 j hj).trans (h.1 j hj), h2.2.1.trans h.2.1, h2.2.2.trans h.2.2⟩
set_option maxRecDepth 4000 in
theorem TF.rf {m : Nat → Nat → Int32} : TF m m := ⟨fun _ _ => rfl, rfl, rfl⟩
set_option maxRecDepth 4000 in
theorem TF.up {m m1 : Nat → Nat → Int32} {k : Nat} {v : Int32} (h : TF m m1) (h1 : k ≠ 1) (h3 : k ≠ 3) : TF m (mk_u2 m1 1 k v) := ⟨fun j hj => (mk_u2_ne hj).trans (h.1 j hj), (u2_b (by omega)).trans h.2.1, (u2_b (by omega)).trans h.2.2⟩
set_option maxRecDepth 4000 in
theorem TC.tf {T : TT} {m m1 : Nat → Nat → Int32} (h : TC T m) (e : TF m m1) : TC T m1 := ⟨e.2.1.trans h.1, h.2.1, fun i hi => by rw [e.1 2 (by omega)]; exact h.2.2 i hi⟩
set_option maxRecDepth 4000 in
theorem TC.up {T : TT} {m : Nat → Nat → Int32} {k : Nat} {v : Int32} (h : TC T m) (h1 : k ≠ 1) : TC T (mk_u2 m 1 k v) := ⟨(u2_b (by omega)).trans h.1, h.2.1, fun i hi => by rw [u2_a (by omega)]; exact h.2.2 i hi⟩
set_option maxRecDepth 4000 in
theorem TC.b {T : TT} {m : Nat → Nat → Int32} (h : TC T m) (i : Nat) : bt T i < 256 ∨ bt T i = 1000 := bt_lt (fun i hi => (h.2.2 i hi).2) i
set_option maxRecDepth 4000 in
theorem byC {T : TT} {m : Nat → Nat → Int32} {q : Nat → Nat → Int64} {i : Nat} (h : TC T m) (hi : i < 100000) : F_X8_byteAt 1 (nI i) (KS, m, q) = some (sI (bt T i), (KS, m, q)) := by
  obtain ⟨h1, h2, h3⟩ := h
  unfold F_X8_byteAt B_X8_byteAt_28
  by_cases c : i < T.1
  · obtain ⟨h4, h5⟩ := h3 i c
    rw [bt_in c, sI_n (by omega)]
    simp (disch := omega) only [ob_some, reduceIte, lit, le_T, le_F, lt_T, lt_F, eq_T, eq_F, nI_add, gac_0_0, gac_0_1, gac_0_2, gac_0_3, gac_0_4, gac_0_5, gac_0_6, gac_1_0, gic_1_1, gic_1_2, gic_1_3, gic_1_4, gic_1_5, gic_1_6, gac_3_0, gic_3_1, gic_3_2, gic_3_3, gic_3_4, gic_3_5, gic_3_6, gic_3_7, gic_5_0, gic_5_1, gic_5_2, gic_5_3, gic_5_4, gac_5_5, gac_5_6, gac_5_7, gac_5_8, gac_5_9, gac_5_10, gac_5_11, gac_13_0, gac_13_1, gic_13_2, gac_13_3, gac_13_4, gac_13_5, gac_13_6, gac_13_7, gac_13_8, gac_13_9, gic_13_10, gic_13_11, gic_13_12, gic_13_13, gac_14_0, gac_14_1, gac_14_2, gac_14_3, gic_14_4, gic_14_5, gic_15_0, gic_15_1, gic_15_2, gic_15_3, gic_15_4, gac_15_5, gac_15_6, gac_15_7, gac_15_8, gac_15_9, gac_15_10, gac_15_11, gac_23_0, gac_23_1, gac_23_2, gac_23_3, gac_23_4, gac_23_5, gac_23_6, gic_23_7, gic_23_8, gac_31_0, gic_31_1, gic_31_2, gac_193_0, gac_193_1, gac_193_2, gic_193_3, gac_198_0, gac_200_0, gac_200_1, gac_200_2, gac_200_3, gac_200_4, gac_200_5, gac_200_6, gic_200_7, gic_200_8, pic_1_1, pic_1_2, pic_1_3, pic_1_4, pic_1_5, pic_1_6, pic_3_1, pic_3_2, pic_3_3, pic_3_4, pic_3_5, pic_3_6, pic_3_7, pic_5_0, pic_5_1, pic_5_2, pic_5_3, pic_5_4, pic_13_2, pic_13_10, pic_13_11, pic_13_12, pic_13_13, pic_14_4, pic_14_5, pic_15_0, pic_15_1, pic_15_2, pic_15_3, pic_15_4, pic_23_7, pic_23_8, pic_31_1, pic_31_2, pic_193_3, pic_200_7, pic_200_8, gdc_0, gdc_1, gdc_3, gdc_5, gdc_13, gdc_14, gdc_15, gdc_23, gdc_31, gdc_193, gdc_198, gdc_200, ldc_2, stc_2, ldc_4, stc_4, ldc_6, stc_6, ldc_7, stc_7, ldc_8, stc_8, ldc_9, stc_9, ldc_10, stc_10, ldc_11, stc_11, ldc_12, stc_12, ldc_16, stc_16, ldc_17, stc_17, ldc_18, stc_18, ldc_19, stc_19, ldc_20, stc_20, ldc_21, stc_21, ldc_22, stc_22, ldc_24, stc_24, ldc_25, stc_25, ldc_26, stc_26, ldc_27, stc_27, ldc_28, stc_28, ldc_29, stc_29, ldc_30, stc_30, ldc_194, stc_194, ldc_195, stc_195, ldc_196, stc_196, ldc_199, stc_199, ldc_201, stc_201, ldc_202, stc_202, ldc_203, stc_203, ldc_204, stc_204, ldc_205, stc_205, ldc_206, stc_206, ldc_207, stc_207, ldc_208, stc_208, ldc_209, stc_209, ldc_210, stc_210, ldc_211, stc_211, ldc_213, stc_213, ldc_214, stc_214, ldc_215, stc_215, ldc_216, stc_216, ldc_217, stc_217, ldc_218, stc_218, ldc_219, stc_219, ldc_263, stc_263, lda_197, lda_262, lda_212, lda_32, u2_s, u2_a, u2_b, h1, h4]
  · rw [bt_end (by omega), sI_e]
    simp (disch := omega) only [ob_some, reduceIte, lit, le_T, le_F, lt_T, lt_F, eq_T, eq_F, nI_add, gac_0_0, gac_0_1, gac_0_2, gac_0_3, gac_0_4, gac_0_5, gac_0_6, gac_1_0, gic_1_1, gic_1_2, gic_1_3, gic_1_4, gic_1_5, gic_1_6, gac_3_0, gic_3_1, gic_3_2, gic_3_3, gic_3_4, gic_3_5, gic_3_6, gic_3_7, gic_5_0, gic_5_1, gic_5_2, gic_5_3, gic_5_4, gac_5_5, gac_5_6, gac_5_7, gac_5_8, gac_5_9, gac_5_10, gac_5_11, gac_13_0, gac_13_1, gic_13_2, gac_13_3, gac_13_4, gac_13_5, gac_13_6, gac_13_7, gac_13_8, gac_13_9, gic_13_10, gic_13_11, gic_13_12, gic_13_13, gac_14_0, gac_14_1, gac_14_2, gac_14_3, gic_14_4, gic_14_5, gic_15_0, gic_15_1, gic_15_2, gic_15_3, gic_15_4, gac_15_5, gac_15_6, gac_15_7, gac_15_8, gac_15_9, gac_15_10, gac_15_11, gac_23_0, gac_23_1, gac_23_2, gac_23_3, gac_23_4, gac_23_5, gac_23_6, gic_23_7, gic_23_8, gac_31_0, gic_31_1, gic_31_2, gac_193_0, gac_193_1, gac_193_2, gic_193_3, gac_198_0, gac_200_0, gac_200_1, gac_200_2, gac_200_3, gac_200_4, gac_200_5, gac_200_6, gic_200_7, gic_200_8, pic_1_1, pic_1_2, pic_1_3, pic_1_4, pic_1_5, pic_1_6, pic_3_1, pic_3_2, pic_3_3, pic_3_4, pic_3_5, pic_3_6, pic_3_7, pic_5_0, pic_5_1, pic_5_2, pic_5_3, pic_5_4, pic_13_2, pic_13_10, pic_13_11, pic_13_12, pic_13_13, pic_14_4, pic_14_5, pic_15_0, pic_15_1, pic_15_2, pic_15_3, pic_15_4, pic_23_7, pic_23_8, pic_31_1, pic_31_2, pic_193_3, pic_200_7, pic_200_8, gdc_0, gdc_1, gdc_3, gdc_5, gdc_13, gdc_14, gdc_15, gdc_23, gdc_31, gdc_193, gdc_198, gdc_200, ldc_2, stc_2, ldc_4, stc_4, ldc_6, stc_6, ldc_7, stc_7, ldc_8, stc_8, ldc_9, stc_9, ldc_10, stc_10, ldc_11, stc_11, ldc_12, stc_12, ldc_16, stc_16, ldc_17, stc_17, ldc_18, stc_18, ldc_19, stc_19, ldc_20, stc_20, ldc_21, stc_21, ldc_22, stc_22, ldc_24, stc_24, ldc_25, stc_25, ldc_26, stc_26, ldc_27, stc_27, ldc_28, stc_28, ldc_29, stc_29, ldc_30, stc_30, ldc_194, stc_194, ldc_195, stc_195, ldc_196, stc_196, ldc_199, stc_199, ldc_201, stc_201, ldc_202, stc_202, ldc_203, stc_203, ldc_204, stc_204, ldc_205, stc_205, ldc_206, stc_206, ldc_207, stc_207, ldc_208, stc_208, ldc_209, stc_209, ldc_210, stc_210, ldc_211, stc_211, ldc_213, stc_213, ldc_214, stc_214, ldc_215, stc_215, ldc_216, stc_216, ldc_217, stc_217, ldc_218, stc_218, ldc_219, stc_219, ldc_263, stc_263, lda_197, lda_262, lda_212, lda_32, u2_s, u2_a, u2_b, h1]
set_option maxRecDepth 4000 in
theorem skC {T : TT} {q : Nat → Nat → Int64} : ∀ (n i f : Nat) (m : Nat → Nat → Int32), T.1 - i ≤ n → n < f → i ≤ T.1 → TC T m → m 1 2 = nI i → ∃ m1, B_X8_advance_0 f 1 (KS, m, q) = B_X8_advance_37 1 (KS, m1, q) ∧ TF m m1 ∧ m1 1 2 = nI (sp isB T i) := by
  intro n
  induction n with
  | zero =>
    intro i f m hi hf hi2 hT h2
    obtain ⟨f, rfl⟩ : ∃ g, f = g + 1 := ⟨f - 1, by omega⟩
    have hl := hT.2.1
    rw [sp_stop (by rw [bt_end (by omega)]; rfl)]
    refine ⟨m, ?_, TF.rf, h2⟩
    rw [B_X8_advance_0]
    simp (disch := omega) only [ob_some, reduceIte, lit, le_T, le_F, lt_T, lt_F, eq_T, eq_F, nI_add, gac_0_0, gac_0_1, gac_0_2, gac_0_3, gac_0_4, gac_0_5, gac_0_6, gac_1_0, gic_1_1, gic_1_2, gic_1_3, gic_1_4, gic_1_5, gic_1_6, gac_3_0, gic_3_1, gic_3_2, gic_3_3, gic_3_4, gic_3_5, gic_3_6, gic_3_7, gic_5_0, gic_5_1, gic_5_2, gic_5_3, gic_5_4, gac_5_5, gac_5_6, gac_5_7, gac_5_8, gac_5_9, gac_5_10, gac_5_11, gac_13_0, gac_13_1, gic_13_2, gac_13_3, gac_13_4, gac_13_5, gac_13_6, gac_13_7, gac_13_8, gac_13_9, gic_13_10, gic_13_11, gic_13_12, gic_13_13, gac_14_0, gac_14_1, gac_14_2, gac_14_3, gic_14_4, gic_14_5, gic_15_0, gic_15_1, gic_15_2, gic_15_3, gic_15_4, gac_15_5, gac_15_6, gac_15_7, gac_15_8, gac_15_9, gac_15_10, gac_15_11, gac_23_0, gac_23_1, gac_23_2, gac_23_3, gac_23_4, gac_23_5, gac_23_6, gic_23_7, gic_23_8, gac_31_0, gic_31_1, gic_31_2, gac_193_0, gac_193_1, gac_193_2, gic_193_3, gac_198_0, gac_200_0, gac_200_1, gac_200_2, gac_200_3, gac_200_4, gac_200_5, gac_200_6, gic_200_7, gic_200_8, pic_1_1, pic_1_2, pic_1_3, pic_1_4, pic_1_5, pic_1_6, pic_3_1, pic_3_2, pic_3_3, pic_3_4, pic_3_5, pic_3_6, pic_3_7, pic_5_0, pic_5_1, pic_5_2, pic_5_3, pic_5_4, pic_13_2, pic_13_10, pic_13_11, pic_13_12, pic_13_13, pic_14_4, pic_14_5, pic_15_0, pic_15_1, pic_15_2, pic_15_3, pic_15_4, pic_23_7, pic_23_8, pic_31_1, pic_31_2, pic_193_3, pic_200_7, pic_200_8, gdc_0, gdc_1, gdc_3, gdc_5, gdc_13, gdc_14, gdc_15, gdc_23, gdc_31, gdc_193, gdc_198, gdc_200, ldc_2, stc_2, ldc_4, stc_4, ldc_6, stc_6, ldc_7, stc_7, ldc_8, stc_8, ldc_9, stc_9, ldc_10, stc_10, ldc_11, stc_11, ldc_12, stc_12, ldc_16, stc_16, ldc_17, stc_17, ldc_18, stc_18, ldc_19, stc_19, ldc_20, stc_20, ldc_21, stc_21, ldc_22, stc_22, ldc_24, stc_24, ldc_25, stc_25, ldc_26, stc_26, ldc_27, stc_27, ldc_28, stc_28, ldc_29, stc_29, ldc_30, stc_30, ldc_194, stc_194, ldc_195, stc_195, ldc_196, stc_196, ldc_199, stc_199, ldc_201, stc_201, ldc_202, stc_202, ldc_203, stc_203, ldc_204, stc_204, ldc_205, stc_205, ldc_206, stc_206, ldc_207, stc_207, ldc_208, stc_208, ldc_209, stc_209, ldc_210, stc_210, ldc_211, stc_211, ldc_213, stc_213, ldc_214, stc_214, ldc_215, stc_215, ldc_216, stc_216, ldc_217, stc_217, ldc_218, stc_218, ldc_219, stc_219, ldc_263, stc_263, lda_197, lda_262, lda_212, lda_32, u2_s, u2_a, u2_b, h2, hT.1]
  | succ n ih =>
    intro i f m hi hf hi2 hT h2
    obtain ⟨f, rfl⟩ : ∃ g, f = g + 1 := ⟨f - 1, by omega⟩
    have hl := hT.2.1
    have hb := hT.b i
    by_cases c : i < T.1
    · by_cases d : bt T i = 32
      · obtain ⟨-, e⟩ := sp_go (P := isB) (T := T) (i := i) hB (by rw [d]; rfl)
        obtain ⟨m1, a1, a2, a3⟩ := ih (i + 1) f (mk_u2 m 1 2 (nI (i + 1))) (by omega) (by omega) (by omega) (hT.up (by omega)) u2_s
        refine ⟨m1, ?_, (TF.rf.up (by omega) (by omega)).trans a2, by rw [e]; exact a3⟩
        rw [← a1, B_X8_advance_0]
        simp (disch := omega) only [ob_some, reduceIte, lit, le_T, le_F, lt_T, lt_F, eq_T, eq_F, nI_add, gac_0_0, gac_0_1, gac_0_2, gac_0_3, gac_0_4, gac_0_5, gac_0_6, gac_1_0, gic_1_1, gic_1_2, gic_1_3, gic_1_4, gic_1_5, gic_1_6, gac_3_0, gic_3_1, gic_3_2, gic_3_3, gic_3_4, gic_3_5, gic_3_6, gic_3_7, gic_5_0, gic_5_1, gic_5_2, gic_5_3, gic_5_4, gac_5_5, gac_5_6, gac_5_7, gac_5_8, gac_5_9, gac_5_10, gac_5_11, gac_13_0, gac_13_1, gic_13_2, gac_13_3, gac_13_4, gac_13_5, gac_13_6, gac_13_7, gac_13_8, gac_13_9, gic_13_10, gic_13_11, gic_13_12, gic_13_13, gac_14_0, gac_14_1, gac_14_2, gac_14_3, gic_14_4, gic_14_5, gic_15_0, gic_15_1, gic_15_2, gic_15_3, gic_15_4, gac_15_5, gac_15_6, gac_15_7, gac_15_8, gac_15_9, gac_15_10, gac_15_11, gac_23_0, gac_23_1, gac_23_2, gac_23_3, gac_23_4, gac_23_5, gac_23_6, gic_23_7, gic_23_8, gac_31_0, gic_31_1, gic_31_2, gac_193_0, gac_193_1, gac_193_2, gic_193_3, gac_198_0, gac_200_0, gac_200_1, gac_200_2, gac_200_3, gac_200_4, gac_200_5, gac_200_6, gic_200_7, gic_200_8, pic_1_1, pic_1_2, pic_1_3, pic_1_4, pic_1_5, pic_1_6, pic_3_1, pic_3_2, pic_3_3, pic_3_4, pic_3_5, pic_3_6, pic_3_7, pic_5_0, pic_5_1, pic_5_2, pic_5_3, pic_5_4, pic_13_2, pic_13_10, pic_13_11, pic_13_12, pic_13_13, pic_14_4, pic_14_5, pic_15_0, pic_15_1, pic_15_2, pic_15_3, pic_15_4, pic_23_7, pic_23_8, pic_31_1, pic_31_2, pic_193_3, pic_200_7, pic_200_8, gdc_0, gdc_1, gdc_3, gdc_5, gdc_13, gdc_14, gdc_15, gdc_23, gdc_31, gdc_193, gdc_198, gdc_200, ldc_2, stc_2, ldc_4, stc_4, ldc_6, stc_6, ldc_7, stc_7, ldc_8, stc_8, ldc_9, stc_9, ldc_10, stc_10, ldc_11, stc_11, ldc_12, stc_12, ldc_16, stc_16, ldc_17, stc_17, ldc_18, stc_18, ldc_19, stc_19, ldc_20, stc_20, ldc_21, stc_21, ldc_22, stc_22, ldc_24, stc_24, ldc_25, stc_25, ldc_26, stc_26, ldc_27, stc_27, ldc_28, stc_28, ldc_29, stc_29, ldc_30, stc_30, ldc_194, stc_194, ldc_195, stc_195, ldc_196, stc_196, ldc_199, stc_199, ldc_201, stc_201, ldc_202, stc_202, ldc_203, stc_203, ldc_204, stc_204, ldc_205, stc_205, ldc_206, stc_206, ldc_207, stc_207, ldc_208, stc_208, ldc_209, stc_209, ldc_210, stc_210, ldc_211, stc_211, ldc_213, stc_213, ldc_214, stc_214, ldc_215, stc_215, ldc_216, stc_216, ldc_217, stc_217, ldc_218, stc_218, ldc_219, stc_219, ldc_263, stc_263, lda_197, lda_262, lda_212, lda_32, u2_s, u2_a, u2_b, h2, hT.1, byC hT, sI_eqc, d]
      · rw [sp_stop (by simp [isB, d])]
        refine ⟨m, ?_, TF.rf, h2⟩
        rw [B_X8_advance_0]
        simp (disch := omega) only [ob_some, reduceIte, lit, le_T, le_F, lt_T, lt_F, eq_T, eq_F, nI_add, gac_0_0, gac_0_1, gac_0_2, gac_0_3, gac_0_4, gac_0_5, gac_0_6, gac_1_0, gic_1_1, gic_1_2, gic_1_3, gic_1_4, gic_1_5, gic_1_6, gac_3_0, gic_3_1, gic_3_2, gic_3_3, gic_3_4, gic_3_5, gic_3_6, gic_3_7, gic_5_0, gic_5_1, gic_5_2, gic_5_3, gic_5_4, gac_5_5, gac_5_6, gac_5_7, gac_5_8, gac_5_9, gac_5_10, gac_5_11, gac_13_0, gac_13_1, gic_13_2, gac_13_3, gac_13_4, gac_13_5, gac_13_6, gac_13_7, gac_13_8, gac_13_9, gic_13_10, gic_13_11, gic_13_12, gic_13_13, gac_14_0, gac_14_1, gac_14_2, gac_14_3, gic_14_4, gic_14_5, gic_15_0, gic_15_1, gic_15_2, gic_15_3, gic_15_4, gac_15_5, gac_15_6, gac_15_7, gac_15_8, gac_15_9, gac_15_10, gac_15_11, gac_23_0, gac_23_1, gac_23_2, gac_23_3, gac_23_4, gac_23_5, gac_23_6, gic_23_7, gic_23_8, gac_31_0, gic_31_1, gic_31_2, gac_193_0, gac_193_1, gac_193_2, gic_193_3, gac_198_0, gac_200_0, gac_200_1, gac_200_2, gac_200_3, gac_200_4, gac_200_5, gac_200_6, gic_200_7, gic_200_8, pic_1_1, pic_1_2, pic_1_3, pic_1_4, pic_1_5, pic_1_6, pic_3_1, pic_3_2, pic_3_3, pic_3_4, pic_3_5, pic_3_6, pic_3_7, pic_5_0, pic_5_1, pic_5_2, pic_5_3, pic_5_4, pic_13_2, pic_13_10, pic_13_11, pic_13_12, pic_13_13, pic_14_4, pic_14_5, pic_15_0, pic_15_1, pic_15_2, pic_15_3, pic_15_4, pic_23_7, pic_23_8, pic_31_1, pic_31_2, pic_193_3, pic_200_7, pic_200_8, gdc_0, gdc_1, gdc_3, gdc_5, gdc_13, gdc_14, gdc_15, gdc_23, gdc_31, gdc_193, gdc_198, gdc_200, ldc_2, stc_2, ldc_4, stc_4, ldc_6, stc_6, ldc_7, stc_7, ldc_8, stc_8, ldc_9, stc_9, ldc_10, stc_10, ldc_11, stc_11, ldc_12, stc_12, ldc_16, stc_16, ldc_17, stc_17, ldc_18, stc_18, ldc_19, stc_19, ldc_20, stc_20, ldc_21, stc_21, ldc_22, stc_22, ldc_24, stc_24, ldc_25, stc_25, ldc_26, stc_26, ldc_27, stc_27, ldc_28, stc_28, ldc_29, stc_29, ldc_30, stc_30, ldc_194, stc_194, ldc_195, stc_195, ldc_196, stc_196, ldc_199, stc_199, ldc_201, stc_201, ldc_202, stc_202, ldc_203, stc_203, ldc_204, stc_204, ldc_205, stc_205, ldc_206, stc_206, ldc_207, stc_207, ldc_208, stc_208, ldc_209, stc_209, ldc_210, stc_210, ldc_211, stc_211, ldc_213, stc_213, ldc_214, stc_214, ldc_215, stc_215, ldc_216, stc_216, ldc_217, stc_217, ldc_218, stc_218, ldc_219, stc_219, ldc_263, stc_263, lda_197, lda_262, lda_212, lda_32, u2_s, u2_a, u2_b, h2, hT.1, byC hT, sI_eqc, d]
    · rw [sp_stop (by rw [bt_end (by omega)]; rfl)]
      refine ⟨m, ?_, TF.rf, h2⟩
      rw [B_X8_advance_0]
      simp (disch := omega) only [ob_some, reduceIte, lit, le_T, le_F, lt_T, lt_F, eq_T, eq_F, nI_add, gac_0_0, gac_0_1, gac_0_2, gac_0_3, gac_0_4, gac_0_5, gac_0_6, gac_1_0, gic_1_1, gic_1_2, gic_1_3, gic_1_4, gic_1_5, gic_1_6, gac_3_0, gic_3_1, gic_3_2, gic_3_3, gic_3_4, gic_3_5, gic_3_6, gic_3_7, gic_5_0, gic_5_1, gic_5_2, gic_5_3, gic_5_4, gac_5_5, gac_5_6, gac_5_7, gac_5_8, gac_5_9, gac_5_10, gac_5_11, gac_13_0, gac_13_1, gic_13_2, gac_13_3, gac_13_4, gac_13_5, gac_13_6, gac_13_7, gac_13_8, gac_13_9, gic_13_10, gic_13_11, gic_13_12, gic_13_13, gac_14_0, gac_14_1, gac_14_2, gac_14_3, gic_14_4, gic_14_5, gic_15_0, gic_15_1, gic_15_2, gic_15_3, gic_15_4, gac_15_5, gac_15_6, gac_15_7, gac_15_8, gac_15_9, gac_15_10, gac_15_11, gac_23_0, gac_23_1, gac_23_2, gac_23_3, gac_23_4, gac_23_5, gac_23_6, gic_23_7, gic_23_8, gac_31_0, gic_31_1, gic_31_2, gac_193_0, gac_193_1, gac_193_2, gic_193_3, gac_198_0, gac_200_0, gac_200_1, gac_200_2, gac_200_3, gac_200_4, gac_200_5, gac_200_6, gic_200_7, gic_200_8, pic_1_1, pic_1_2, pic_1_3, pic_1_4, pic_1_5, pic_1_6, pic_3_1, pic_3_2, pic_3_3, pic_3_4, pic_3_5, pic_3_6, pic_3_7, pic_5_0, pic_5_1, pic_5_2, pic_5_3, pic_5_4, pic_13_2, pic_13_10, pic_13_11, pic_13_12, pic_13_13, pic_14_4, pic_14_5, pic_15_0, pic_15_1, pic_15_2, pic_15_3, pic_15_4, pic_23_7, pic_23_8, pic_31_1, pic_31_2, pic_193_3, pic_200_7, pic_200_8, gdc_0, gdc_1, gdc_3, gdc_5, gdc_13, gdc_14, gdc_15, gdc_23, gdc_31, gdc_193, gdc_198, gdc_200, ldc_2, stc_2, ldc_4, stc_4, ldc_6, stc_6, ldc_7, stc_7, ldc_8, stc_8, ldc_9, stc_9, ldc_10, stc_10, ldc_11, stc_11, ldc_12, stc_12, ldc_16, stc_16, ldc_17, stc_17, ldc_18, stc_18, ldc_19, stc_19, ldc_20, stc_20, ldc_21, stc_21, ldc_22, stc_22, ldc_24, stc_24, ldc_25, stc_25, ldc_26, stc_26, ldc_27, stc_27, ldc_28, stc_28, ldc_29, stc_29, ldc_30, stc_30, ldc_194, stc_194, ldc_195, stc_195, ldc_196, stc_196, ldc_199, stc_199, ldc_201, stc_201, ldc_202, stc_202, ldc_203, stc_203, ldc_204, stc_204, ldc_205, stc_205, ldc_206, stc_206, ldc_207, stc_207, ldc_208, stc_208, ldc_209, stc_209, ldc_210, stc_210, ldc_211, stc_211, ldc_213, stc_213, ldc_214, stc_214, ldc_215, stc_215, ldc_216, stc_216, ldc_217, stc_217, ldc_218, stc_218, ldc_219, stc_219, ldc_263, stc_263, lda_197, lda_262, lda_212, lda_32, u2_s, u2_a, u2_b, h2, hT.1]
