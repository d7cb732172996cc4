/-! numbers as the walks write them; the reference's state -/
def bz (p : Bool) : Nat := if p then 1 else 0
theorem bz_t : bz true = 1 := rfl
theorem bz_f : bz false = 0 := rfl
theorem bz_le (p : Bool) : bz p ≤ 1 := by cases p <;> decide
theorem nI_bz0 {p : Bool} : nI (bz p) = 0 ↔ p = false := by cases p <;> decide
theorem nI_bz1 {p : Bool} : ¬ nI (bz p) = 0 ↔ p = true := by cases p <;> decide
theorem bz_01 (p : Bool) : nI (bz p) = 0 ∨ nI (bz p) = 1 := by cases p <;> decide
theorem nI_z {n : Nat} (h : n < 2 ^ 31) : nI n = 0 ↔ n = 0 := nI_eq h (by decide)
theorem iincN (v k : Nat) : nI v + Int32.ofInt (k : Int) = nI (v + k) := nI_add v k
theorem nI_m1 {n : Nat} (h : n < 2 ^ 31) : ¬ nI n = -1 := by
  intro e
  have h1 := congrArg Int32.toInt e
  rw [nI_toInt h] at h1
  have h2 : (-1 : Int32).toInt = -1 := by decide
  omega
section XN
variable {K : KX} {g : GP} {cc : ByteArray} {own : String} {nL : Nat} {ret : Option FieldType} {hh : List (Nat × Nat × Nat × Nat)} {fr lo mc ms : Nat} {Q : State → Prop} {M : MM} {a b pc : Nat} {L : List (Nat × Value)} {st : List Value}
theorem x_iaddN (F : Fx K g cc own nL ret hh fr lo mc ms) {x y : Nat} (d : decode cc pc = .ok (.iadd, 1)) (kk : XW K g nL Q M a b (pc + 1) L (.int (nI (x + y)) :: st)) : XW K g nL Q M a b pc L (.int (nI y) :: .int (nI x) :: st) := x_iadd F d (by rw [nI_add]; exact kk)
theorem x_imulN (F : Fx K g cc own nL ret hh fr lo mc ms) {x y : Nat} (d : decode cc pc = .ok (.imul, 1)) (kk : XW K g nL Q M a b (pc + 1) L (.int (nI (x * y)) :: st)) : XW K g nL Q M a b pc L (.int (nI y) :: .int (nI x) :: st) := x_imul F d (by rw [pk_mul]; exact kk)
theorem x_isubN (F : Fx K g cc own nL ret hh fr lo mc ms) {x y : Nat} (d : decode cc pc = .ok (.isub, 1)) (h : y ≤ x) (kk : XW K g nL Q M a b (pc + 1) L (.int (nI (x - y)) :: st)) : XW K g nL Q M a b pc L (.int (nI y) :: .int (nI x) :: st) := x_isub F d (by rw [pk_sub h]; exact kk)
theorem x_idivN (F : Fx K g cc own nL ret hh fr lo mc ms) {x y : Nat} (d : decode cc pc = .ok (.idiv, 1)) (h : x < 2 ^ 31) (h0 : 0 < y) (h1 : y < 2 ^ 31) (kk : XW K g nL Q M a b (pc + 1) L (.int (nI (x / y)) :: st)) : XW K g nL Q M a b pc L (.int (nI y) :: .int (nI x) :: st) := x_idiv F d (nI_ne0 h0 h1) (by rw [pk_div h h0 h1]; exact kk)
theorem x_iremN (F : Fx K g cc own nL ret hh fr lo mc ms) {x y : Nat} (d : decode cc pc = .ok (.irem, 1)) (h : x < 2 ^ 31) (h0 : 0 < y) (h1 : y < 2 ^ 31) (kk : XW K g nL Q M a b (pc + 1) L (.int (nI (x % y)) :: st)) : XW K g nL Q M a b pc L (.int (nI y) :: .int (nI x) :: st) := x_irem F d (nI_ne0 h0 h1) (by rw [pk_rem h h0 h1]; exact kk)
/-- the top (or what is below it) written otherwise -/
theorem x_ri0 {x y : Int32} (h : x = y) (kk : XW K g nL Q M a b pc L (.int y :: st)) : XW K g nL Q M a b pc L (.int x :: st) := by subst h; exact kk
theorem x_ri1 {x y : Int32} {v : Value} (h : x = y) (kk : XW K g nL Q M a b pc L (v :: .int y :: st)) : XW K g nL Q M a b pc L (v :: .int x :: st) := by subst h; exact kk
theorem x_rr0 {x y : Nat} (h : x = y) (kk : XW K g nL Q M a b pc L (.ref y :: st)) : XW K g nL Q M a b pc L (.ref x :: st) := by subst h; exact kk
theorem x_rv0 {x y : Value} (h : x = y) (kk : XW K g nL Q M a b pc L (y :: st)) : XW K g nL Q M a b pc L (x :: st) := by subst h; exact kk
theorem x_rl0 {x y : Int64} (h : x = y) (kk : XW K g nL Q M a b pc L (.long y :: st)) : XW K g nL Q M a b pc L (.long x :: st) := by subst h; exact kk
end XN
-- the abstract state: natural numbers, ints, days
abbrev ST : Type := (Nat → Nat → Nat) × (Nat → Nat → Int32) × (Nat → Int64)
def uN (σ : ST) (k i v : Nat) : ST := (fun k' j => if k' = k ∧ j = i then v else σ.1 k' j, σ.2)
def uR (σ : ST) (k i : Nat) (v : Int32) : ST := (σ.1, fun k' j => if k' = k ∧ j = i then v else σ.2.1 k' j, σ.2.2)
def uD (σ : ST) (i : Nat) (v : Int64) : ST := (σ.1, σ.2.1, fun j => if j = i then v else σ.2.2 j)
def rA (m : Nat → Nat) (k : Nat) : Nat := m k
def mK (k : Nat) : Bool := (decide (1 ≤ k) && decide (k ≤ 5)) || (decide (8 ≤ k) && decide (k ≤ 17)) || (decide (19 ≤ k) && decide (k ≤ 29)) || decide (k = 31)
def mL (k : Nat) : Nat := if k ≤ 5 then 16 else if k ≤ 17 then 8 else if k ≤ 29 then 96 else 625
def mQ (k : Nat) : Bool := decide (k = 0) || mK k
def mF (m : Nat → Nat) (σ : ST) : List Value := [.int (nI (σ.1 0 0)), .ref (rA m 1), .ref (rA m 2), .ref (rA m 3), .ref (rA m 4), .ref (rA m 5), .int (nI (σ.1 6 0)), .int (nI (σ.1 7 0)), .ref (rA m 8), .ref (rA m 9), .ref (rA m 10), .ref (rA m 11), .ref (rA m 12), .ref (rA m 13), .ref (rA m 14), .ref (rA m 15), .ref (rA m 16), .ref (rA m 17), .int (nI (σ.1 18 0)), .ref (rA m 19), .ref (rA m 20), .ref (rA m 21), .ref (rA m 22), .ref (rA m 23), .ref (rA m 24), .ref (rA m 25), .ref (rA m 26), .ref (rA m 27), .ref (rA m 28), .ref (rA m 29), .int (nI (σ.1 30 0)), .ref (rA m 31)]
def kZ (k : Nat) : Bool := (decide (24 ≤ k) && decide (k ≤ 27)) || decide (k = 31)
def kR0 (k : Nat) : Bool := decide (k = 16) || decide (k = 22) || decide (k = 23) || decide (k = 28)
def mA (g : GP) (k : Nat) (σ : ST) : va_E := if k = 5 then .inl (gC g 1, 16, .inr (.inl σ.2.2)) else if kZ k then .inl (gC g 2, mL k, .inl (fun i => nI (σ.1 k i))) else if kR0 k then .inl (gC g 0, mL k, .inl (σ.2.1 k)) else .inl (gC g 0, mL k, .inl (fun i => nI (σ.1 k i)))
def RM (g : GP) (m : Nat → Nat) (M0 : MM) (σ : ST) (M : MM) : Prop := M (m 0) = some (.inr (5, mF m σ)) ∧ (∀ k, mK k = true → M (rA m k) = some (mA g k σ)) ∧ (∀ q, (∀ k, mQ k = true → ¬ q = m k) → M q = M0 q) ∧ ∀ k k', mQ k = true → mQ k' = true → m k = m k' → k = k'
theorem mK_lt {k : Nat} (h : mK k = true) : k < 32 := by
  unfold mK at h
  simp at h
  omega
theorem mK_Q {k : Nat} (h : mK k = true) : mQ k = true := by unfold mQ; rw [h]; simp
theorem mK_0 {k : Nat} (h : mK k = true) : ¬ k = 0 := by
  intro z
  subst z
  cases h
theorem RM.inj {g : GP} {m : Nat → Nat} {M0 M : MM} {σ : ST} (h : RM g m M0 σ M) {k k' : Nat} (hk : mK k = true) (hk' : mK k' = true) (e : rA m k = rA m k') : k = k' := h.2.2.2 k k' (mK_Q hk) (mK_Q hk') e
theorem RM.ne0 {g : GP} {m : Nat → Nat} {M0 M : MM} {σ : ST} (h : RM g m M0 σ M) {k : Nat} (hk : mK k = true) : ¬ rA m k = m 0 := fun e => mK_0 hk (h.2.2.2 k 0 (mK_Q hk) rfl e)
theorem RM.frame {g : GP} {m : Nat → Nat} {M0 M : MM} {σ σ' : ST} {e : va_E} (h : RM g m M0 σ M) {k0 : Nat} (hq : mQ k0 = true) (h1 : mup M (m k0) e (m 0) = some (.inr (5, mF m σ'))) (h2 : ∀ k, mK k = true → mup M (m k0) e (rA m k) = some (mA g k σ')) : RM g m M0 σ' (mup M (m k0) e) := by
  refine ⟨h1, h2, fun x hx => ?_, h.2.2.2⟩
  rw [mup_n (hx k0 hq)]
  exact h.2.2.1 x hx
theorem RM.arr {g : GP} {m : Nat → Nat} {k : Nat} {M0 M : MM} {σ σ' : ST} {e : va_E} (h : RM g m M0 σ M) (hk : mK k = true) (he : e = mA g k σ') (hf : mF m σ' = mF m σ) (ho : ∀ k', mK k' = true → k' ≠ k → mA g k' σ' = mA g k' σ) : RM g m M0 σ' (mup M (rA m k) e) := by
  refine RM.frame (k0 := k) h (mK_Q hk) ?_ (fun k' hk' => ?_)
  · show mup M (rA m k) e (m 0) = _
    rw [mup_n (fun z => h.ne0 hk z.symm), hf]
    exact h.1
  · by_cases e1 : k' = k
    · subst e1
      show mup M (rA m k') e (rA m k') = _
      rw [mup_s, he]
    · show mup M (rA m k) e (rA m k') = _
      rw [mup_n (fun z => e1 (h.inj hk' hk z)), ho k' hk' e1]
      exact h.2.1 k' hk'
theorem mA_uN {g : GP} {σ : ST} {k i v k' : Nat} (h : k' ≠ k) : mA g k' (uN σ k i v) = mA g k' σ := by
  unfold mA uN
  simp [h]
theorem mA_uR {g : GP} {σ : ST} {k i k' : Nat} {v : Int32} (h : k' ≠ k) : mA g k' (uR σ k i v) = mA g k' σ := by
  unfold mA uR
  simp [h]
theorem mA_uD {g : GP} {σ : ST} {i k' : Nat} {v : Int64} (h : k' ≠ 5) : mA g k' (uD σ i v) = mA g k' σ := by
  unfold mA uD
  simp [h]
theorem mF_uN {m : Nat → Nat} {σ : ST} {k i v : Nat} (h : mK k = true) : mF m (uN σ k i v) = mF m σ := by
  have h0 : k ≠ 0 ∧ k ≠ 6 ∧ k ≠ 7 ∧ k ≠ 18 ∧ k ≠ 30 := by
    unfold mK at h
    simp at h
    omega
  unfold mF uN
  simp [Ne.symm h0.1, Ne.symm h0.2.1, Ne.symm h0.2.2.1, Ne.symm h0.2.2.2.1, Ne.symm h0.2.2.2.2]
theorem upd_nI {f : Nat → Nat} {i v : Nat} : upd (fun j => nI (f j)) i (nI v) = fun j => nI (if j = i then v else f j) := by
  funext j
  unfold upd
  by_cases h : j = i <;> simp [h]
theorem nI_le0 {n : Nat} (h : n < 2 ^ 31) : nI n ≤ 0 ↔ n = 0 := by
  have := nI_leI (a := n) (b := 0) h (by decide)
  exact this.trans Nat.le_zero
theorem nI_bzI {p : Bool} : nI (bz p) = nI 1 ↔ p = true := by cases p <;> decide
theorem nI_bzO {p : Bool} : ¬ nI (bz p) = nI 1 ↔ p = false := by cases p <;> decide
theorem nI_dn {n : Nat} (h : n < 2 ^ 31) : nI n - nI 1 < 0 ↔ n = 0 := by
  have h5 : (0 : Int32).toInt = 0 := by decide
  rw [Int32.lt_iff_toInt_lt]
  rcases Nat.eq_zero_or_pos n with rfl | h0
  · simp; decide
  · rw [pk_sub h0, nI_toInt (by omega)]
    omega
