/-! lists of the component -/
theorem c_lsize {l : Launch} (hl : l.stackTraces = false) {g : GP} {M : MM} {A : Nat → Nat} {a0 c n : Nat} (hL : M a0 = some (liV g A c n)) : CT l g yJx4a65c_size_8abf5 cJx4a65c_size_8abf5 1 (some .int) 0 0 0 0 [.ref a0] M (pI (fun r9 M9 => nI n = r9 ∧ M = M9)) nX := c_Jx4a65c_size_8abf5 hl hL
theorem liV_pos {g : GP} {A : Nat → Nat} {c n : Nat} (h : 0 < n) : liV g A c n = lE (nI n) (nI n) (A c) := by
  unfold liV
  rw [if_neg (by omega)]
theorem cpL_ge {n : Nat} (h : n ≤ 22) : n ≤ cpL n ∧ cpL n < 1000 := by unfold cpL; (repeat' split) <;> omega
theorem lF_i {ad : Nat → Nat} {n i : Nat} (h : i < n) : lF ad n i = some (ad i) := if_pos h
theorem c_lget {l : Launch} (hl : l.stackTraces = false) {g : GP} {M : MM} {A : Nat → Nat} {a0 c n i : Nat} {ad : Nat → Nat} (hL : M a0 = some (liV g A c n)) (hD : 0 < n → M (A c) = some (oE g (cpL n) (lF ad n))) (hi : i < n) (hn : n ≤ 22) : CT l g yJx4a65c_get_915e3 cJx4a65c_get_915e3 2 (some (.object "java/lang/Object")) 3 93 0 0 [.ref a0, .int (nI i)] M (pR (fun r9 M9 => ad i = r9 ∧ M = M9)) nX := by
  have h0 : 0 < n := by omega
  rw [liV_pos h0] at hL
  exact c_Jx4a65c_get_915e3 hl hL (hD h0) hi (cpL_ge hn).1 (cpL_ge hn).2 (lF_i hi)
theorem eO_t {A : Nat → Nat} {σ : ST} {r j : Nat} (h : σ.1 41 (12 * r + j) = 1) : va_rf (eO A σ r j) = .ref (A (100 + (12 * r + j))) := by
  unfold eO; rw [if_pos h]; rfl
theorem eO_f {A : Nat → Nat} {σ : ST} {r j : Nat} (h : ¬ σ.1 41 (12 * r + j) = 1) : va_rf (eO A σ r j) = .null := by
  unfold eO; rw [if_neg h]; rfl
theorem enB_f {A : Nat → Nat} {v : Int32} (h : v = -1) : va_rf (enB A v) = .null := by
  unfold enB; rw [if_pos h]; rfl
theorem enB_t {A : Nat → Nat} {v : Int32} {b : Nat} (h : v = nI b) (hb : b < 2 ^ 31) : va_rf (enB A v) = .ref (A (10 + b)) := by
  unfold enB; rw [h, if_neg (nI_m1 hb), cl_nI hb]; rfl
