/-! what the methods answer, over the abstract state (one word for both sides) -/
def cl (x0 : Int32) : Nat := x0.toNatClampNeg
theorem cl_nI {n : Nat} (h : n < 2 ^ 31) : cl (nI n) = n := nI_clamp h
def inR (x0 a0 b0 : Int32) : Bool := decide (a0 ≤ x0) && decide (x0 ≤ b0)
/-- a number among the first n -/
def inN (x0 : Int32) (n : Nat) : Bool := decide (0 ≤ x0.toInt ∧ x0.toInt < n)
theorem inN_t {x0 : Int32} {n : Nat} (hn : n < 2 ^ 31) (h : inN x0 n = true) : ∃ j : Nat, j < n ∧ x0 = nI j := by
  have h1 := of_decide_eq_true h
  exact vp_in_of (vp_in_iff.mpr h1) hn
theorem inN_nI {j n : Nat} (hj : j < 2 ^ 31) : inN (nI j) n = decide (j < n) := by
  unfold inN
  rw [nI_toInt hj]
  simp
theorem inR_N {x0 : Int32} {n : Nat} (hn : n < 2 ^ 31) : inR x0 (nI 0) (nI n - nI 1) = inN x0 n := by
  unfold inR inN
  rw [Bool.eq_iff_iff]
  simp only [Bool.and_eq_true, decide_eq_true_eq, Int32.le_iff_toInt_le]
  have h1 : (nI n - nI 1).toInt = (n : Int) - 1 := by
    rcases Nat.eq_zero_or_pos n with rfl | h0
    · decide
    · rw [pk_sub h0, nI_toInt (by omega)]
      omega
  have h2 : (nI 0).toInt = 0 := by decide
  rw [h1, h2]
  omega
theorem inR_t {x0 : Int32} {a0 b0 : Nat} (ha : a0 < 2 ^ 31) (hb : b0 < 2 ^ 31) (h : inR x0 (nI a0) (nI b0) = true) : ∃ j : Nat, a0 ≤ j ∧ j ≤ b0 ∧ x0 = nI j := by
  unfold inR at h
  simp only [Bool.and_eq_true, decide_eq_true_eq] at h
  obtain ⟨h1, h2⟩ := h
  have h3 : ¬ x0 < 0 := by
    intro z
    have := Int32.lt_iff_toInt_lt.mp z
    have h4 := Int32.le_iff_toInt_le.mp h1
    rw [nI_toInt ha] at h4
    have h5 : (0 : Int32).toInt = 0 := by decide
    omega
  obtain ⟨j, hj, rfl⟩ := nI_of h3
  exact ⟨j, (nI_leI ha hj).mp h1, (nI_leI hj hb).mp h2, rfl⟩
theorem inR_nI {j a0 b0 : Nat} (hj : j < 2 ^ 31) (ha : a0 < 2 ^ 31) (hb : b0 < 2 ^ 31) : inR (nI j) (nI a0) (nI b0) = (decide (a0 ≤ j) && decide (j ≤ b0)) := by
  unfold inR
  rw [Bool.eq_iff_iff]
  simp [nI_leI ha hj, nI_leI hj hb]
def anyB (p : Nat → Bool) : Nat → Bool
  | 0 => false
  | n + 1 => anyB p n || p n
def allB (p : Nat → Bool) : Nat → Bool
  | 0 => true
  | n + 1 => allB p n && p n
theorem anyB_iff {p : Nat → Bool} : ∀ {n : Nat}, anyB p n = true ↔ ∃ k, k < n ∧ p k = true
  | 0 => ⟨fun h => (by cases h), fun ⟨_, h, _⟩ => absurd h (Nat.not_lt_zero _)⟩
  | n + 1 => by
    simp only [anyB, Bool.or_eq_true, anyB_iff (n := n)]
    constructor
    · rintro (⟨k, h1, h2⟩ | h)
      · exact ⟨k, Nat.lt_succ_of_lt h1, h2⟩
      · exact ⟨n, Nat.lt_succ_self n, h⟩
    · rintro ⟨k, h1, h2⟩
      rcases Nat.lt_succ_iff_lt_or_eq.mp h1 with h | rfl
      · exact Or.inl ⟨k, h, h2⟩
      · exact Or.inr h2
theorem allB_iff {p : Nat → Bool} : ∀ {n : Nat}, allB p n = true ↔ ∀ k, k < n → p k = true
  | 0 => ⟨fun _ _ h => absurd h (Nat.not_lt_zero _), fun _ => rfl⟩
  | n + 1 => by
    simp only [allB, Bool.and_eq_true, allB_iff (n := n)]
    constructor
    · rintro ⟨h1, h2⟩ k hk
      rcases Nat.lt_succ_iff_lt_or_eq.mp hk with h | rfl
      · exact h1 k h
      · exact h2
    · intro h
      exact ⟨fun k hk => h k (Nat.lt_succ_of_lt hk), h n (Nat.lt_succ_self n)⟩
def adst (x y : Nat) : Nat := if x < y then y - x else x - y
def plIn (σ : ST) (r : Nat) : Nat := fb_ct (fun j => decide (¬ σ.2.1 22 (12 * r + j) = -1)) 12
def potS (σ : ST) (r : Nat) : Nat := if σ.1 15 r = 0 then 0 else σ.1 13 r + σ.1 14 r * plIn σ r
def tellsS (σ : ST) (r : Nat) (y : Int32) : Int32 := if y = 0 then nI (σ.1 15 r) else if y = 1 then nI (σ.1 17 r) else if y = 2 then nI (plIn σ r) else if y = 3 then nI (potS σ r) else σ.2.1 16 r
def hasE (σ : ST) (r j : Nat) : Bool := anyB (fun k => decide (σ.1 19 (12 * r + k) = j)) (σ.1 17 r)
def getO (σ : ST) (r j p o : Nat) : Bool := decide (o = r) || decide (σ.2.1 22 (12 * o + j) = -1) || (decide (0 < adst (σ.1 10 r + p) (σ.1 10 o + cl (σ.2.1 22 (12 * o + j)))) && decide (adst (σ.1 9 r) (σ.1 9 o) ≤ 400 * adst (σ.1 10 r + p) (σ.1 10 o + cl (σ.2.1 22 (12 * o + j)))))
def getsS (σ : ST) (r j p : Nat) : Bool := allB (getO σ r j p) (σ.1 18 0)
def takS (σ : ST) (r : Nat) (v : Int32) : Nat := fb_ct (fun j => decide (σ.2.1 22 (12 * r + j) = v)) 12
def fitS (σ : ST) (r j p : Nat) : Bool := (σ.1 20 (12 * r + j)).testBit p && decide (takS σ r (nI p) < σ.1 12 r) && getsS σ r j p
/-- the first from i on, of k places, for which f holds; else -1 -/
def fF (f : Nat → Bool) : Nat → Nat → Int32
  | _, 0 => -1
  | i, k + 1 => if f i then nI i else fF f (i + 1) k
def plcS (σ : ST) (r j : Nat) : Int32 := if fitS σ r j (σ.1 21 (12 * r + j)) then nI (σ.1 21 (12 * r + j)) else fF (fitS σ r j) 0 (σ.1 11 r)
def plU (σ : ST) (r j : Nat) : ST := uR σ 22 (12 * r + j) (plcS σ r j)
/-- the reference's numbers are small: what a walk needs so that nothing overflows and each index is in its row -/
def Bd (σ : ST) : Prop := σ.1 6 0 ≤ 16 ∧ σ.1 7 0 ≤ 12 ∧ σ.1 18 0 ≤ 8 ∧
  (∀ r, r < 8 → σ.1 9 r ≤ 2000 ∧ σ.1 10 r ≤ 60 ∧ σ.1 11 r ≤ 4 ∧ σ.1 12 r ≤ 4 ∧ σ.1 13 r ≤ 99999 ∧ σ.1 14 r ≤ 999 ∧ σ.1 15 r ≤ 3 ∧ σ.1 17 r ≤ 12 ∧ σ.1 8 r ≤ 1) ∧
  (∀ k, k < 96 → σ.1 19 k < 12 ∧ σ.1 20 k < 16 ∧ σ.1 21 k < 4 ∧ σ.1 24 k ≤ 1 ∧ σ.1 25 k ≤ 1 ∧ σ.1 26 k ≤ 1 ∧ σ.1 27 k ≤ 1 ∧ σ.1 29 k ≤ 300000) ∧
  (∀ k, k < 96 → (σ.2.1 22 k = -1 ∨ ∃ p, p < 4 ∧ σ.2.1 22 k = nI p) ∧ (σ.2.1 23 k = -1 ∨ ∃ b, b < 16 ∧ σ.2.1 23 k = nI b) ∧ (σ.2.1 28 k = -1 ∨ ∃ v, v ≤ 100 ∧ σ.2.1 28 k = nI v)) ∧
  (∀ b, b < 16 → σ.1 1 b ≤ 1 ∧ σ.1 2 b ≤ 512 ∧ σ.1 3 b ≤ 512 ∧ σ.1 4 b ≤ 25600) ∧ σ.1 30 0 ≤ 65536
theorem tb_sh {a0 p : Nat} (ha : a0 < 2 ^ 31) (hp : p < 31) : (nI a0 >>> (nI p &&& 31)) &&& nI 1 = nI (bz (a0.testBit p)) := by
  have h1 : nI a0 >>> (nI p &&& 31) = nI (a0 / 2 ^ p) := pk_shrN ha (nI p &&& 31) p (by
    have : ∀ q, q < 32 → ((nI q &&& 31).toBitVec.smod 32).toNat = q := by decide
    exact this p (by omega))
  rw [h1]
  have h2 := pk_andN (n := a0 / 2 ^ p) (Nat.lt_of_le_of_lt (Nat.div_le_self _ _) (by omega)) (m := nI 1) 1 (by decide)
  rw [h2, Nat.testBit_eq_decide_div_mod_eq]
  have h3 : a0 / 2 ^ p % 2 < 2 := Nat.mod_lt _ (by decide)
  congr 1
  unfold bz
  rw [Nat.pow_one]
  by_cases h4 : a0 / 2 ^ p % 2 = 1 <;> simp [h4]
  omega
theorem pl_cl {x0 : Int32} {n : Nat} (hn : n ≤ 1000) (h : x0 = -1 ∨ ∃ p, p < n ∧ x0 = nI p) (h1 : ¬ x0 = -1) : x0 = nI (cl x0) ∧ cl x0 < n := by
  rcases h with h | ⟨p, h2, rfl⟩
  · exact absurd h h1
  · rw [cl_nI (by omega)]
    exact ⟨rfl, h2⟩
theorem fF_down {f : Nat → Bool} {n i : Nat} (h : i < n) : fF f (n - (i + 1)) (i + 1) = if f (n - i - 1) then nI (n - i - 1) else fF f (n - i) i := by
  have e1 : n - (i + 1) = n - i - 1 := rfl
  have e2 : n - i - 1 + 1 = n - i := by omega
  rw [e1, fF, e2]
theorem Bd_u0 {σ : ST} {c : Nat} (h : Bd σ) : Bd (uN σ 0 0 c) := h
theorem adst_le (x y : Nat) : adst x y ≤ x + y := by unfold adst; split <;> omega
