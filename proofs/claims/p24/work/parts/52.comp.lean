/-! the component's objects: one address for each, by a number -/
def beF (σ : ST) (b : Nat) : List Value := [.int (nI b), .int (nI (σ.1 1 b)), .int (nI (σ.1 2 b)), .int (nI (σ.1 3 b)), .int (nI (σ.1 4 b)), .int (nI (σ.1 42 b)), .long (σ.2.2 b)]
def roF (A : Nat → Nat) (σ : ST) (r : Nat) : List Value := [.int (nI (σ.1 8 r)), .int (nI (σ.1 9 r)), .int (nI (σ.1 10 r)), .int (nI (σ.1 11 r)), .int (nI (σ.1 12 r)), .int (nI (σ.1 13 r)), .int (nI (σ.1 14 r)), .ref (A (40 + r)), .ref (A (60 + r)), .int (nI (σ.1 15 r)), .int (σ.2.1 16 r)]
def enB (A : Nat → Nat) (v : Int32) : Option Nat := if v = -1 then none else some (A (10 + cl v))
def enF (A : Nat → Nat) (σ : ST) (k : Nat) : List Value := [.int (nI (k % 12)), .int (nI (σ.1 20 k)), .int (nI (σ.1 21 k)), .int (σ.2.1 22 k), va_rf (enB A (σ.2.1 23 k)), .int (nI (σ.1 24 k)), .int (nI (σ.1 25 k)), .int (nI (σ.1 26 k)), .int (nI (σ.1 27 k)), .int (σ.2.1 28 k), .int (nI (σ.1 29 k))]
def liV (g : GP) (A : Nat → Nat) (c n : Nat) : va_E := lE (nI n) (nI n) (if n = 0 then gA g 0 else A c)
def byV (g : GP) (A : Nat → Nat) (σ : ST) (r : Nat) : va_E := .inl (gC g 4, 12, .inr (.inr (.inr (.inr (fun j => if j < 12 ∧ σ.1 41 (12 * r + j) = 1 then some (A (100 + (12 * r + j))) else none)))))
def whA (A : Nat → Nat) (σ : ST) (r : Nat) : Nat → Nat := fun e => A (100 + (12 * r + σ.1 19 (12 * r + e)))
def cV (g : GP) (A : Nat → Nat) (σ : ST) (c : Nat) : va_E :=
  if c = 0 then .inr (4, [.ref (A 1), .ref (A 3), .int (nI (σ.1 7 0)), .int (nI (σ.1 30 0))])
  else if c = 1 then liV g A 2 (σ.1 6 0) else if c = 2 then oE g (cpL (σ.1 6 0)) (lF (fun i => A (10 + i)) (σ.1 6 0))
  else if c = 3 then liV g A 4 (σ.1 18 0) else if c = 4 then oE g (cpL (σ.1 18 0)) (lF (fun i => A (30 + i)) (σ.1 18 0))
  else if c < 30 then .inr (1, if 10 ≤ c then beF σ (c - 10) else []) else if c < 40 then .inr (3, roF A σ (c - 30))
  else if c < 50 then liV g A (10 + c) (σ.1 17 (c - 40)) else if c < 60 then oE g (cpL (σ.1 17 (c - 50))) (lF (whA A σ (c - 50)) (σ.1 17 (c - 50)))
  else if c < 100 then byV g A σ (c - 60) else .inr (2, enF A σ (c - 100))
def lvB (σ : ST) (c : Nat) : Bool :=
  if c = 0 then true else if c = 1 then true else if c = 2 then decide (0 < σ.1 6 0) else if c = 3 then true else if c = 4 then decide (0 < σ.1 18 0)
  else if c < 30 then decide (10 ≤ c) && decide (c - 10 < σ.1 6 0) && decide (c < 26) else if c < 40 then decide (c - 30 < σ.1 18 0) && decide (c < 38)
  else if c < 50 then decide (c - 40 < σ.1 18 0) && decide (c < 48) else if c < 60 then decide (c - 50 < σ.1 18 0) && decide (c < 58) && decide (0 < σ.1 17 (c - 50))
  else if c < 100 then decide (c - 60 < σ.1 18 0) && decide (c < 68) else decide (c < 196) && decide (σ.1 41 (c - 100) = 1)
def CM (g : GP) (A : Nat → Nat) (M0 : MM) (σ : ST) (M : MM) : Prop := (∀ c, lvB σ c = true → M (A c) = some (cV g A σ c)) ∧ (∀ c c', lvB σ c = true → lvB σ c' = true → A c = A c' → c = c') ∧ ∀ x, (∀ c, lvB σ c = true → x ≠ A c) → M x = M0 x
section CMs
variable {g : GP} {A : Nat → Nat} {M0 M : MM} {σ σ' : ST}
theorem CM.c (h : CM g A M0 σ M) : M (A 0) = some (.inr (4, [.ref (A 1), .ref (A 3), .int (nI (σ.1 7 0)), .int (nI (σ.1 30 0))])) := h.1 0 rfl
theorem lv_b {b : Nat} (hb : b < σ.1 6 0) (h : b < 16) : lvB σ (10 + b) = true := by
  unfold lvB
  rw [if_neg (by omega), if_neg (by omega), if_neg (by omega), if_neg (by omega), if_neg (by omega), if_pos (by omega)]
  simp; omega
theorem lv_r {r : Nat} (hb : r < σ.1 18 0) (h : r < 8) : lvB σ (30 + r) = true := by
  unfold lvB
  rw [if_neg (by omega), if_neg (by omega), if_neg (by omega), if_neg (by omega), if_neg (by omega), if_neg (by omega), if_pos (by omega)]
  simp; omega
theorem lv_l {r : Nat} (hb : r < σ.1 18 0) (h : r < 8) : lvB σ (40 + r) = true := by
  unfold lvB
  rw [if_neg (by omega), if_neg (by omega), if_neg (by omega), if_neg (by omega), if_neg (by omega), if_neg (by omega), if_neg (by omega), if_pos (by omega)]
  simp; omega
theorem lv_d {r : Nat} (hb : r < σ.1 18 0) (h : r < 8) (h0 : 0 < σ.1 17 r) : lvB σ (50 + r) = true := by
  unfold lvB
  rw [if_neg (by omega), if_neg (by omega), if_neg (by omega), if_neg (by omega), if_neg (by omega), if_neg (by omega), if_neg (by omega), if_neg (by omega), if_pos (by omega)]
  have e : 50 + r - 50 = r := by omega
  rw [e]
  simp; omega
theorem lv_y {r : Nat} (hb : r < σ.1 18 0) (h : r < 8) : lvB σ (60 + r) = true := by
  unfold lvB
  rw [if_neg (by omega), if_neg (by omega), if_neg (by omega), if_neg (by omega), if_neg (by omega), if_neg (by omega), if_neg (by omega), if_neg (by omega), if_neg (by omega), if_pos (by omega)]
  simp; omega
theorem lv_e {k : Nat} (hb : σ.1 41 k = 1) (h : k < 96) : lvB σ (100 + k) = true := by
  unfold lvB
  rw [if_neg (by omega), if_neg (by omega), if_neg (by omega), if_neg (by omega), if_neg (by omega), if_neg (by omega), if_neg (by omega), if_neg (by omega), if_neg (by omega), if_neg (by omega)]
  have e : 100 + k - 100 = k := by omega
  rw [e]
  simp [hb]; omega
theorem cV_b {b : Nat} (h : b < 16) : cV g A σ (10 + b) = .inr (1, beF σ b) := by
  unfold cV
  rw [if_neg (by omega), if_neg (by omega), if_neg (by omega), if_neg (by omega), if_neg (by omega), if_pos (by omega), if_pos (by omega)]
  rw [show 10 + b - 10 = b by omega]
theorem cV_r {r : Nat} (h : r < 8) : cV g A σ (30 + r) = .inr (3, roF A σ r) := by
  unfold cV
  rw [if_neg (by omega), if_neg (by omega), if_neg (by omega), if_neg (by omega), if_neg (by omega), if_neg (by omega), if_pos (by omega)]
  rw [show 30 + r - 30 = r by omega]
theorem cV_l {r : Nat} (h : r < 8) : cV g A σ (40 + r) = liV g A (50 + r) (σ.1 17 r) := by
  unfold cV
  rw [if_neg (by omega), if_neg (by omega), if_neg (by omega), if_neg (by omega), if_neg (by omega), if_neg (by omega), if_neg (by omega), if_pos (by omega)]
  rw [show 40 + r - 40 = r by omega, show 10 + (40 + r) = 50 + r by omega]
theorem cV_d {r : Nat} (h : r < 8) : cV g A σ (50 + r) = oE g (cpL (σ.1 17 r)) (lF (whA A σ r) (σ.1 17 r)) := by
  unfold cV
  rw [if_neg (by omega), if_neg (by omega), if_neg (by omega), if_neg (by omega), if_neg (by omega), if_neg (by omega), if_neg (by omega), if_neg (by omega), if_pos (by omega)]
  rw [show 50 + r - 50 = r by omega]
theorem cV_y {r : Nat} (h : r < 8) : cV g A σ (60 + r) = byV g A σ r := by
  unfold cV
  rw [if_neg (by omega), if_neg (by omega), if_neg (by omega), if_neg (by omega), if_neg (by omega), if_neg (by omega), if_neg (by omega), if_neg (by omega), if_neg (by omega), if_pos (by omega)]
  rw [show 60 + r - 60 = r by omega]
theorem cV_e {k : Nat} : cV g A σ (100 + k) = .inr (2, enF A σ k) := by
  unfold cV
  rw [if_neg (by omega), if_neg (by omega), if_neg (by omega), if_neg (by omega), if_neg (by omega), if_neg (by omega), if_neg (by omega), if_neg (by omega), if_neg (by omega), if_neg (by omega)]
  rw [show 100 + k - 100 = k by omega]
theorem CM.b (h : CM g A M0 σ M) {b : Nat} (hb : b < σ.1 6 0) (h6 : b < 16) : M (A (10 + b)) = some (.inr (1, beF σ b)) := (h.1 _ (lv_b hb h6)).trans (congrArg some (cV_b h6))
theorem CM.r (h : CM g A M0 σ M) {r : Nat} (hb : r < σ.1 18 0) (h8 : r < 8) : M (A (30 + r)) = some (.inr (3, roF A σ r)) := (h.1 _ (lv_r hb h8)).trans (congrArg some (cV_r h8))
theorem CM.l (h : CM g A M0 σ M) {r : Nat} (hb : r < σ.1 18 0) (h8 : r < 8) : M (A (40 + r)) = some (liV g A (50 + r) (σ.1 17 r)) := (h.1 _ (lv_l hb h8)).trans (congrArg some (cV_l h8))
theorem CM.d (h : CM g A M0 σ M) {r : Nat} (hb : r < σ.1 18 0) (h8 : r < 8) (h0 : 0 < σ.1 17 r) : M (A (50 + r)) = some (oE g (cpL (σ.1 17 r)) (lF (whA A σ r) (σ.1 17 r))) := (h.1 _ (lv_d hb h8 h0)).trans (congrArg some (cV_d h8))
theorem CM.y (h : CM g A M0 σ M) {r : Nat} (hb : r < σ.1 18 0) (h8 : r < 8) : M (A (60 + r)) = some (byV g A σ r) := (h.1 _ (lv_y hb h8)).trans (congrArg some (cV_y h8))
theorem CM.e (h : CM g A M0 σ M) {k : Nat} (hb : σ.1 41 k = 1) (h9 : k < 96) : M (A (100 + k)) = some (.inr (2, enF A σ k)) := (h.1 _ (lv_e hb h9)).trans (congrArg some cV_e)
theorem CM.lb (h : CM g A M0 σ M) : M (A 1) = some (liV g A 2 (σ.1 6 0)) := h.1 1 rfl
theorem CM.lr (h : CM g A M0 σ M) : M (A 3) = some (liV g A 4 (σ.1 18 0)) := h.1 3 rfl
theorem CM.db (h : CM g A M0 σ M) (h0 : 0 < σ.1 6 0) : M (A 2) = some (oE g (cpL (σ.1 6 0)) (lF (fun i => A (10 + i)) (σ.1 6 0))) := h.1 2 (by show decide _ = true; simp [h0])
theorem CM.dr (h : CM g A M0 σ M) (h0 : 0 < σ.1 18 0) : M (A 4) = some (oE g (cpL (σ.1 18 0)) (lF (fun i => A (30 + i)) (σ.1 18 0))) := h.1 4 (by show decide _ = true; simp [h0])
/-- a store into one of the cells -/
theorem CM.put (h : CM g A M0 σ M) {c : Nat} {e : va_E} (hc : lvB σ c = true) (he : e = cV g A σ' c) (hl : ∀ c', lvB σ' c' = lvB σ c') (ho : ∀ c', c' ≠ c → cV g A σ' c' = cV g A σ c') : CM g A M0 σ' (mup M (A c) e) := by
  obtain ⟨h1, h2, h3⟩ := h
  refine ⟨fun c' hc' => ?_, fun c1 c2 k1 k2 => h2 c1 c2 (by rw [← hl]; exact k1) (by rw [← hl]; exact k2), fun x hx => ?_⟩
  · rw [hl] at hc'
    by_cases e1 : c' = c
    · subst e1; rw [mup_s, he]
    · rw [mup_n (fun z => e1 (h2 c' c hc' hc z)), ho c' e1]
      exact h1 c' hc'
  · rw [mup_n (hx c (by rw [hl]; exact hc))]
    exact h3 x (fun c' hc' => hx c' (by rw [hl]; exact hc'))
theorem CM.st (h : CM g A M0 σ M) (hl : ∀ c', lvB σ' c' = lvB σ c') (ho : ∀ c', cV g A σ' c' = cV g A σ c') : CM g A M0 σ' M :=
  ⟨fun c hc => (h.1 c ((hl c).symm.trans hc)).trans (congrArg some (ho c).symm), fun c c' h1 h2 => h.2.1 c c' ((hl c).symm.trans h1) ((hl c').symm.trans h2), fun x hx => h.2.2 x (fun c hc => hx c ((hl c).trans hc))⟩
end CMs
/-- which slots the objects hold -/
theorem lv_uN {σ : ST} {s i v : Nat} (h : ¬ s = 6 ∧ ¬ s = 18 ∧ ¬ s = 17 ∧ ¬ s = 41) (c : Nat) : lvB (uN σ s i v) c = lvB σ c := by
  unfold lvB uN
  simp only [show ¬ (6 = s) from fun z => h.1 z.symm, show ¬ (18 = s) from fun z => h.2.1 z.symm, show ¬ (17 = s) from fun z => h.2.2.1 z.symm, show ¬ (41 = s) from fun z => h.2.2.2 z.symm, false_and, if_false]
theorem lv_uR {σ : ST} {s i : Nat} {v : Int32} (c : Nat) : lvB (uR σ s i v) c = lvB σ c := rfl
theorem lv_uD {σ : ST} {i : Nat} {v : Int64} (c : Nat) : lvB (uD σ i v) c = lvB σ c := rfl
