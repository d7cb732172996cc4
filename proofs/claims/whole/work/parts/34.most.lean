/-! the reference's 'most': what may be reached, row by row -/
def unS (x : Nat) : Nat := if x = 0 then 1 else if x = 1 then 5 else if x = 2 then 25 else 125
theorem unS_rng (p : Nat) : 1 ≤ unS p ∧ unS p ≤ 125 := by unfold unS; repeat' split
                                                          all_goals omega
def cB (σ : ST) (f : Nat → Nat) : ST := (fun k j => if k = 31 then f j else σ.1 k j, σ.2)
def fN (f : Nat → Nat) (i v : Nat) : Nat → Nat := fun j => if j = i then v else f j
theorem cB_self (σ : ST) : cB σ (σ.1 31) = σ := by
  unfold cB
  have : (fun k j => if k = 31 then σ.1 31 j else σ.1 k j) = σ.1 := by
    funext k j
    split
    · rename_i h
      subst h
      rfl
    · rfl
  rw [this]
theorem uN_cB {σ : ST} {f : Nat → Nat} {i v : Nat} : uN (cB σ f) 31 i v = cB σ (fN f i v) := by
  unfold uN cB fN
  congr 1
  funext k j
  by_cases h : k = 31 <;> by_cases h2 : j = i <;> simp [h, h2]
def fIn (σ : ST) (n : Nat) : Nat → Nat := fun j => if j < n then bz (decide (j = 0)) else σ.1 31 j
theorem fIn_0 (σ : ST) : fIn σ 0 = σ.1 31 := rfl
theorem fIn_s (σ : ST) (n : Nat) : fN (fIn σ n) n (bz (decide (n = 0))) = fIn σ (n + 1) := by
  funext j
  unfold fN fIn
  by_cases h : j = n
  · subst h; simp
  · by_cases h2 : j < n
    · simp [h, h2, Nat.lt_succ_of_lt h2]
    · simp [h, h2, show ¬ j < n + 1 by omega]
def hasP (σ : ST) (r j k p : Nat) : Bool := (σ.1 20 (12 * r + j)).testBit p && decide (k / unS p % 5 < σ.1 12 r)
def gPf (σ : ST) (r j : Nat) (f : Nat → Nat) (k : Nat) : Nat → (Nat → Nat)
  | 0 => f
  | p + 1 => if decide (¬ f k = 0) && hasP σ r j k p && getsS σ r j p then fN (gPf σ r j f k p) (k + unS p) 1 else gPf σ r j f k p
def gKf (σ : ST) (r j : Nat) (f : Nat → Nat) : Nat → (Nat → Nat)
  | 0 => f
  | n + 1 => gPf σ r j (gKf σ r j f n) (625 - n - 1) (σ.1 11 r)
def gEf (σ : ST) (r : Nat) : Nat → (Nat → Nat)
  | 0 => fIn σ 625
  | e + 1 => gKf σ r (σ.1 19 (12 * r + e)) (gEf σ r e) 625
def dgS (k : Nat) : Nat := k % 5 + k / 5 % 5 + k / 25 % 5 + k / 125
def mxS (f : Nat → Nat) : Nat → Nat
  | 0 => 0
  | k + 1 => if ¬ f k = 0 ∧ mxS f k < dgS k then dgS k else mxS f k
theorem gPf_k {σ : ST} {r j : Nat} {f : Nat → Nat} {k : Nat} : ∀ p, gPf σ r j f k p k = f k
  | 0 => rfl
  | p + 1 => by
    have h := (unS_rng p).1
    simp only [gPf]
    split
    · unfold fN
      rw [if_neg (by omega)]
      exact gPf_k p
    · exact gPf_k p
theorem gPf_0 {σ : ST} {r j : Nat} {f : Nat → Nat} {k : Nat} (h : f k = 0) : ∀ p, gPf σ r j f k p = f
  | 0 => rfl
  | p + 1 => by
    simp only [gPf]
    rw [gPf_0 h p]
    simp [h]
theorem gPf_01 {σ : ST} {r j : Nat} {f : Nat → Nat} {k : Nat} (h : ∀ q, f q ≤ 1) : ∀ p q, gPf σ r j f k p q ≤ 1
  | 0, q => h q
  | p + 1, q => by
    simp only [gPf]
    split
    · unfold fN
      split
      · omega
      · exact gPf_01 h p q
    · exact gPf_01 h p q
theorem gKf_01 {σ : ST} {r j : Nat} {f : Nat → Nat} (h : ∀ q, f q ≤ 1) : ∀ n q, gKf σ r j f n q ≤ 1
  | 0, q => h q
  | n + 1, q => gPf_01 (gKf_01 h n) _ q
theorem unS_k {k p d : Nat} (hk : k < 625) (hd : d ≤ 4) (h : k / unS p % 5 < d) : k + unS p < 625 := by
  unfold unS at h ⊢
  split
  · rename_i z
    simp only [z, if_true] at h
    omega
  · split
    · rename_i z1 z2
      rw [if_neg z1, if_pos z2] at h
      omega
    · split
      · rename_i z1 z2 z3
        rw [if_neg z1, if_neg z2, if_pos z3] at h
        omega
      · rename_i z1 z2 z3
        rw [if_neg z1, if_neg z2, if_neg z3] at h
        omega
theorem Bd_cB {σ : ST} {f : Nat → Nat} (h : Bd σ) : Bd (cB σ f) := h
theorem dg_le {k : Nat} (h : k < 625) : dgS k ≤ 16 := by unfold dgS; omega
theorem mxS_le {f : Nat → Nat} : ∀ {n : Nat}, n ≤ 625 → mxS f n ≤ 16
  | 0, _ => Nat.zero_le _
  | n + 1, h => by
    have := dg_le (k := n) (by omega)
    have := mxS_le (f := f) (n := n) (by omega)
    simp only [mxS]
    split <;> omega
theorem fIn_01 {σ : ST} (h : ∀ q, σ.1 31 q ≤ 1) (n q : Nat) : fIn σ n q ≤ 1 := by
  unfold fIn
  split
  · exact bz_le _
  · exact h q
theorem gEf_01 {σ : ST} {r : Nat} (h : ∀ q, σ.1 31 q ≤ 1) : ∀ e q, gEf σ r e q ≤ 1
  | 0, q => fIn_01 h 625 q
  | e + 1, q => gKf_01 (gEf_01 h e) 625 q
theorem nI_m1b {n : Nat} (h : n < 625) : nI (625 - n - 1) + Int32.ofInt (-1) = nI (625 - (n + 1)) - nI 1 := by
  rw [Int32.sub_eq_add_neg]
  rfl
theorem mxS_a {f : Nat → Nat} {i : Nat} (h : ¬ f i = 0) (h2 : mxS f i < dgS i) : nI (dgS i) = nI (mxS f (i + 1)) := congrArg nI (if_pos ⟨h, h2⟩).symm
theorem mxS_b {f : Nat → Nat} {i : Nat} (h : ¬ ¬ f i = 0) : nI (mxS f i) = nI (mxS f (i + 1)) := congrArg nI (if_neg (fun z => h z.1)).symm
theorem mxS_c {f : Nat → Nat} {i : Nat} (h : ¬ mxS f i < dgS i) : nI (mxS f i) = nI (mxS f (i + 1)) := congrArg nI (if_neg (fun z => h z.2)).symm
theorem gPf_a {σ : ST} {r j k p : Nat} {f : Nat → Nat} (h : decide (¬ f k = 0) = true) (h1 : hasP σ r j k p = true) (h2 : getsS σ r j p = true) : fN (gPf σ r j f k p) (k + unS p) 1 = gPf σ r j f k (p + 1) := by
  simp only [gPf]; rw [if_pos (by rw [h, h1, h2]; rfl)]
theorem gPf_b {σ : ST} {r j k p : Nat} {f : Nat → Nat} (h1 : hasP σ r j k p = false) : gPf σ r j f k p = gPf σ r j f k (p + 1) := by
  simp only [gPf]; rw [if_neg (by rw [h1]; simp)]
theorem gPf_c {σ : ST} {r j k p : Nat} {f : Nat → Nat} (h1 : getsS σ r j p = false) : gPf σ r j f k p = gPf σ r j f k (p + 1) := by
  simp only [gPf]; rw [if_neg (by rw [h1]; simp)]
