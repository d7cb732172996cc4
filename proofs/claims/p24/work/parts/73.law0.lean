/-! what holds between two calls of the law -/
def popN (w : Int64) : Nat := fb_ct (bitL w) 64
def Inv (c : Nat) (σ : ST) : Prop :=
  Bd σ ∧ (∀ b, σ.1 2 b ≤ c ∧ σ.1 3 b ≤ c ∧ σ.1 4 b ≤ 50 * c) ∧ IW σ ∧ ID σ ∧ IBe σ ∧
  (∀ b, σ.1 6 0 ≤ b → σ.1 2 b = 0 ∧ σ.1 3 b = 0 ∧ σ.1 4 b = 0 ∧ σ.1 42 b = 0 ∧ σ.2.2 b = 0) ∧
  ((∀ k, k < 96 → σ.1 41 k = 1 → k < 12 * σ.1 18 0) ∧ (∀ r, σ.1 18 0 ≤ r → σ.1 15 r = 0 ∧ σ.1 17 r = 0 ∧ σ.2.1 16 r = 0)) ∧
  (∀ k, 12 * σ.1 18 0 ≤ k → σ.1 24 k = 0 ∧ σ.1 25 k = 0 ∧ σ.1 26 k = 0 ∧ σ.1 27 k = 0 ∧ σ.1 29 k = 0 ∧ ¬ σ.1 41 k = 1) ∧
  (∀ r, r < σ.1 18 0 → 1 ≤ σ.1 11 r) ∧
  (∀ k, k < 96 → σ.1 41 k = 1 → (σ.1 20 k).testBit (σ.1 21 k) = true) ∧
  (∀ r j, r < σ.1 18 0 → j < 12 → ¬ σ.1 24 (12 * r + j) = 0 → ¬ σ.2.1 23 (12 * r + j) = -1 ∧ ¬ σ.2.1 22 (12 * r + j) = -1) ∧
  (∀ r j, r < σ.1 18 0 → j < 12 → ¬ σ.1 26 (12 * r + j) = 0 → ¬ σ.2.1 22 (12 * r + j) = -1) ∧
  (∀ q, σ.1 31 q ≤ 1) ∧
  (∀ b, popN (σ.2.2 b) = σ.1 42 b) ∧
  (∀ r j, r < σ.1 18 0 → j < 12 → σ.1 15 r ≤ 1 → σ.2.1 23 (12 * r + j) = -1 ∧ σ.1 24 (12 * r + j) = 0 ∧ σ.1 26 (12 * r + j) = 0) ∧
  (∀ r j, r < σ.1 18 0 → j < 12 → σ.2.1 22 (12 * r + j) = -1 ∨ ∃ p, p < σ.1 11 r ∧ σ.2.1 22 (12 * r + j) = nI p) ∧
  (∀ r j, r < σ.1 18 0 → j < 12 → σ.1 41 (12 * r + j) = 1 → σ.1 20 (12 * r + j) < 2 ^ σ.1 11 r) ∧
  (∀ r j, r < σ.1 18 0 → j < 12 → ¬ σ.1 15 r = 3 → σ.1 29 (12 * r + j) = 0)
section IV
variable {c : Nat} {σ : ST}
theorem Inv.B (h : Inv c σ) : Bd σ := h.1
theorem Inv.ct (h : Inv c σ) : ∀ b, σ.1 2 b ≤ c ∧ σ.1 3 b ≤ c ∧ σ.1 4 b ≤ 50 * c := h.2.1
theorem Inv.W (h : Inv c σ) : IW σ := h.2.2.1
theorem Inv.D (h : Inv c σ) : ID σ := h.2.2.2.1
theorem Inv.be (h : Inv c σ) : IBe σ := h.2.2.2.2.1
theorem Inv.zb (h : Inv c σ) : ∀ b, σ.1 6 0 ≤ b → σ.1 2 b = 0 ∧ σ.1 3 b = 0 ∧ σ.1 4 b = 0 ∧ σ.1 42 b = 0 ∧ σ.2.2 b = 0 := h.2.2.2.2.2.1
theorem Inv.zr (h : Inv c σ) : (∀ k, k < 96 → σ.1 41 k = 1 → k < 12 * σ.1 18 0) ∧ (∀ r, σ.1 18 0 ≤ r → σ.1 15 r = 0 ∧ σ.1 17 r = 0 ∧ σ.2.1 16 r = 0) := h.2.2.2.2.2.2.1
theorem Inv.zk (h : Inv c σ) : ∀ k, 12 * σ.1 18 0 ≤ k → σ.1 24 k = 0 ∧ σ.1 25 k = 0 ∧ σ.1 26 k = 0 ∧ σ.1 27 k = 0 ∧ σ.1 29 k = 0 ∧ ¬ σ.1 41 k = 1 := h.2.2.2.2.2.2.2.1
theorem Inv.p1 (h : Inv c σ) : ∀ r, r < σ.1 18 0 → 1 ≤ σ.1 11 r := h.2.2.2.2.2.2.2.2.1
theorem Inv.wi (h : Inv c σ) : ∀ k, k < 96 → σ.1 41 k = 1 → (σ.1 20 k).testBit (σ.1 21 k) = true := h.2.2.2.2.2.2.2.2.2.1
theorem Inv.br (h : Inv c σ) : ∀ r j, r < σ.1 18 0 → j < 12 → ¬ σ.1 24 (12 * r + j) = 0 → ¬ σ.2.1 23 (12 * r + j) = -1 ∧ ¬ σ.2.1 22 (12 * r + j) = -1 := h.2.2.2.2.2.2.2.2.2.2.1
theorem Inv.pl (h : Inv c σ) : ∀ r j, r < σ.1 18 0 → j < 12 → ¬ σ.1 26 (12 * r + j) = 0 → ¬ σ.2.1 22 (12 * r + j) = -1 := h.2.2.2.2.2.2.2.2.2.2.2.1
theorem Inv.h31 (h : Inv c σ) : ∀ q, σ.1 31 q ≤ 1 := h.2.2.2.2.2.2.2.2.2.2.2.2.1
theorem Inv.pc (h : Inv c σ) : ∀ b, popN (σ.2.2 b) = σ.1 42 b := h.2.2.2.2.2.2.2.2.2.2.2.2.2.1
theorem Inv.st (h : Inv c σ) : ∀ r j, r < σ.1 18 0 → j < 12 → σ.1 15 r ≤ 1 → σ.2.1 23 (12 * r + j) = -1 ∧ σ.1 24 (12 * r + j) = 0 ∧ σ.1 26 (12 * r + j) = 0 := h.2.2.2.2.2.2.2.2.2.2.2.2.2.2.1
theorem Inv.pp (h : Inv c σ) : ∀ r j, r < σ.1 18 0 → j < 12 → σ.2.1 22 (12 * r + j) = -1 ∨ ∃ p, p < σ.1 11 r ∧ σ.2.1 22 (12 * r + j) = nI p := h.2.2.2.2.2.2.2.2.2.2.2.2.2.2.2.1
theorem Inv.se (h : Inv c σ) : ∀ r j, r < σ.1 18 0 → j < 12 → σ.1 41 (12 * r + j) = 1 → σ.1 20 (12 * r + j) < 2 ^ σ.1 11 r := h.2.2.2.2.2.2.2.2.2.2.2.2.2.2.2.2.1
theorem Inv.mo (h : Inv c σ) : ∀ r j, r < σ.1 18 0 → j < 12 → ¬ σ.1 15 r = 3 → σ.1 29 (12 * r + j) = 0 := h.2.2.2.2.2.2.2.2.2.2.2.2.2.2.2.2.2
/-- what the calls ask for -/
theorem Inv.hbr (h : Inv c σ) : ∀ r j, r < σ.1 18 0 → j < σ.1 7 0 → ¬ σ.1 24 (12 * r + j) = 0 → ∃ b, b < σ.1 6 0 ∧ σ.2.1 23 (12 * r + j) = nI b := by
  intro r j hr hj hn
  have h7 := h.B.2.1
  have h18 := h.B.2.2.1
  have h41 : σ.1 41 (12 * r + j) = 1 := by
    by_cases c1 : σ.1 41 (12 * r + j) = 1
    · exact c1
    · exact absurd (h.D r j hr (by omega) c1).2.1 hn
  exact h.be _ (by omega) h41 (h.br r j hr (by omega) hn).1
theorem Inv.hpl (h : Inv c σ) : ∀ r j, r < σ.1 18 0 → j < σ.1 7 0 → ¬ σ.1 26 (12 * r + j) = 0 → ¬ σ.2.1 22 (12 * r + j) = -1 := fun r j hr hj => h.pl r j hr (Nat.lt_of_lt_of_le hj h.B.2.1)
theorem Inv.hw (h : Inv c σ) : ∀ r k, r < σ.1 18 0 → k < σ.1 17 r → σ.1 19 (12 * r + k) < 12 := fun r k hr hk => ((h.W r hr).1 k hk).1
/-- who has not entered leaves room for one more -/
theorem pig {N : Nat} {w : Nat → Nat} : ∀ {n : Nat}, (∀ e, e < n → w e < N) → (∀ e e', e < n → e' < n → w e = w e' → e = e') → n ≤ N := by
  intro n h1 h2
  have h := pm_gen (N := N) (fun _ => 1) w n h1 h2
  rw [fb_sm_const] at h
  have h3 : fb_sm (fun j => if inW w n j = true then 1 else 0) N ≤ fb_sm (fun _ => 1) N := fb_sm_le (fun k _ => by split <;> omega)
  rw [fb_sm_const] at h3
  omega
theorem Inv.hlt (h : Inv c σ) : ∀ r j, r < σ.1 18 0 → j < σ.1 7 0 → hasE σ r j = false → σ.1 17 r < 12 := by
  intro r j hr hj hn
  have h7 := h.B.2.1
  obtain ⟨h1, h2, h3⟩ := h.W r hr
  have hne : ∀ e, e < σ.1 17 r → ¬ whS σ r e = j := fun e he z => by
    have h4 : hasE σ r j = true := by
      unfold hasE
      rw [anyB_iff]
      exact ⟨e, he, decide_eq_true z⟩
    rw [hn] at h4
    cases h4
  have := pig (N := 12) (w := fun e => if e = σ.1 17 r then j else whS σ r e) (n := σ.1 17 r + 1) (fun e he => by
    show (if e = σ.1 17 r then j else whS σ r e) < 12
    split
    · omega
    · exact (h1 e (by omega)).1) (fun e e' he he' z => by
    have z : (if e = σ.1 17 r then j else whS σ r e) = (if e' = σ.1 17 r then j else whS σ r e') := z
    by_cases c1 : e = σ.1 17 r
    · by_cases c2 : e' = σ.1 17 r
      · omega
      · rw [if_pos c1, if_neg c2] at z
        exact absurd z.symm (hne e' (by omega))
    · by_cases c2 : e' = σ.1 17 r
      · rw [if_neg c1, if_pos c2] at z
        exact absurd z (hne e (by omega))
      · rw [if_neg c1, if_neg c2] at z
        exact h2 e e' (by omega) (by omega) z)
  omega
theorem Inv_0 (h : Inv c σ) (v : Nat) : Inv c (uN σ 0 0 v) := h
theorem Inv_s (h : Inv c σ) : Inv (c + 1) σ := ⟨h.1, fun b => ⟨Nat.le_succ_of_le (h.ct b).1, Nat.le_succ_of_le (h.ct b).2.1, Nat.le_trans (h.ct b).2.2 (by omega)⟩, h.2.2⟩
end IV
theorem lv_u0 {σ : ST} {v c : Nat} : lvB (uN σ 0 0 v) c = lvB σ c := lv_uN (by decide) c
