/-! who has entered: sums over the entries are sums over the riders -/
theorem sm_one {N a0 : Nat} (v : Nat → Nat) (h : a0 < N) : fb_sm (fun j => if j = a0 then v j else 0) N = v a0 := by
  have h1 := fb_sm_upd (fun _ => 0) (v a0) h
  have h2 : fb_sm (fun j => if j = a0 then v j else 0) N = fb_sm (fun k => if k = a0 then v a0 else 0) N := fb_sm_cong (fun k _ => by by_cases c : k = a0 <;> simp [c])
  rw [h2]
  have h3 : fb_sm (fun _ => 0) N = 0 := by rw [fb_sm_const]; omega
  simp only [h3] at h1
  omega
def inW (w : Nat → Nat) (n j : Nat) : Bool := anyB (fun e => decide (w e = j)) n
theorem inW_iff {w : Nat → Nat} {n j : Nat} : inW w n j = true ↔ ∃ e, e < n ∧ w e = j := by
  unfold inW
  rw [anyB_iff]
  simp
theorem pm_gen {N : Nat} (F w : Nat → Nat) : ∀ n, (∀ e, e < n → w e < N) → (∀ e e', e < n → e' < n → w e = w e' → e = e') → fb_sm (fun e => F (w e)) n = fb_sm (fun j => if inW w n j = true then F j else 0) N
  | 0, _, _ => by
    have : fb_sm (fun j => if inW w 0 j = true then F j else 0) N = fb_sm (fun _ => 0) N := fb_sm_cong (fun k _ => rfl)
    rw [this, fb_sm_const]
    exact (Nat.mul_zero N).symm
  | n + 1, h1, h2 => by
    have ih := pm_gen F w n (fun e he => h1 e (by omega)) (fun e e' he he' => h2 e e' (by omega) (by omega))
    rw [fb_sm_succ, ih, ← sm_one F (h1 n (by omega)), ← fb_sm_add]
    refine fb_sm_cong (fun j _ => ?_)
    by_cases c : j = w n
    · subst c
      have c1 : ¬ inW w n (w n) = true := fun z => by
        obtain ⟨e, he, z⟩ := inW_iff.mp z
        have := h2 e n (by omega) (by omega) z
        omega
      have c2 : inW w (n + 1) (w n) = true := inW_iff.mpr ⟨n, by omega, rfl⟩
      simp [c1, c2]
    · have c3 : inW w (n + 1) j = inW w n j := by
        rw [Bool.eq_iff_iff, inW_iff, inW_iff]
        constructor
        · rintro ⟨e, he, z⟩
          refine ⟨e, ?_, z⟩
          have : e ≠ n := fun y => c (by rw [← z, y])
          omega
        · rintro ⟨e, he, z⟩
          exact ⟨e, by omega, z⟩
      simp only [c, if_false, Nat.add_zero, c3]
theorem ct_sm (p : Nat → Bool) : ∀ n, fb_ct p n = fb_sm (fun k => bz (p k)) n
  | 0 => rfl
  | n + 1 => by rw [fb_ct_succ, fb_sm_succ, ct_sm p n]; rfl
def whS (σ : ST) (r e : Nat) : Nat := σ.1 19 (12 * r + e)
def IW (σ : ST) : Prop := ∀ r, r < σ.1 18 0 → (∀ e, e < σ.1 17 r → whS σ r e < 12 ∧ σ.1 41 (12 * r + whS σ r e) = 1) ∧ (∀ e e', e < σ.1 17 r → e' < σ.1 17 r → whS σ r e = whS σ r e' → e = e') ∧ (∀ j, j < 12 → σ.1 41 (12 * r + j) = 1 → ∃ e, e < σ.1 17 r ∧ whS σ r e = j)
/-- one who did not enter has nothing -/
def ID (σ : ST) : Prop := ∀ r j, r < σ.1 18 0 → j < 12 → ¬ σ.1 41 (12 * r + j) = 1 → (σ.2.1 22 (12 * r + j) = -1 ∧ σ.2.1 23 (12 * r + j) = -1 ∧ σ.2.1 28 (12 * r + j) = -1) ∧ σ.1 24 (12 * r + j) = 0 ∧ σ.1 25 (12 * r + j) = 0 ∧ σ.1 26 (12 * r + j) = 0 ∧ σ.1 27 (12 * r + j) = 0 ∧ σ.1 29 (12 * r + j) = 0
theorem pm_sm {σ : ST} (h : IW σ) {r : Nat} (hr : r < σ.1 18 0) (F : Nat → Nat) (hF : ∀ j, j < 12 → ¬ σ.1 41 (12 * r + j) = 1 → F j = 0) : fb_sm (fun e => F (whS σ r e)) (σ.1 17 r) = fb_sm F 12 := by
  obtain ⟨h1, h2, h3⟩ := h r hr
  rw [pm_gen (N := 12) F (whS σ r) (σ.1 17 r) (fun e he => (h1 e he).1) h2]
  refine fb_sm_cong (fun j hj => ?_)
  by_cases c : inW (whS σ r) (σ.1 17 r) j = true
  · rw [if_pos c]
  · rw [if_neg c, hF j hj (fun z => c (inW_iff.mpr (h3 j hj z)))]
theorem pm_ct {σ : ST} (h : IW σ) {r : Nat} (hr : r < σ.1 18 0) (p : Nat → Bool) (hF : ∀ j, j < 12 → ¬ σ.1 41 (12 * r + j) = 1 → p j = false) : fb_ct (fun e => p (whS σ r e)) (σ.1 17 r) = fb_ct p 12 := by
  rw [ct_sm, ct_sm]
  exact pm_sm h hr (fun j => bz (p j)) (fun j hj hn => by show bz (p j) = 0; rw [hF j hj hn]; rfl)
theorem pm_any {σ : ST} (h : IW σ) {r : Nat} (hr : r < σ.1 18 0) (p : Nat → Bool) (hF : ∀ j, j < 12 → ¬ σ.1 41 (12 * r + j) = 1 → p j = true) : allB (fun e => p (whS σ r e)) (σ.1 17 r) = allB p 12 := by
  obtain ⟨h1, h2, h3⟩ := h r hr
  rw [Bool.eq_iff_iff, allB_iff, allB_iff]
  constructor
  · intro z j hj
    by_cases c : σ.1 41 (12 * r + j) = 1
    · obtain ⟨e, he, rfl⟩ := h3 j hj c
      exact z e he
    · exact hF j hj c
  · intro z e he
    exact z _ (h1 e he).1
/-- places counted over the entries -/
def cIn (σ : ST) (r : Nat) (v : Int32) : Nat := fb_ct (fun e => decide (σ.2.1 22 (12 * r + whS σ r e) = v)) (σ.1 17 r)
theorem cIn_le {σ : ST} {r : Nat} {v : Int32} : cIn σ r v ≤ σ.1 17 r := fb_ct_le _ _
theorem cIn_tak {σ : ST} (h : IW σ) (hD : ID σ) {r : Nat} (hr : r < σ.1 18 0) {v : Int32} (hv : ¬ v = -1) : cIn σ r v = takS σ r v :=
  pm_ct h hr (fun j => decide (σ.2.1 22 (12 * r + j) = v)) (fun j hj hn => by
    rw [(hD r j hr hj hn).1.1]
    exact decide_eq_false (fun z => hv z.symm))
theorem cIn_pl {σ : ST} (h : IW σ) (hD : ID σ) {r : Nat} (hr : r < σ.1 18 0) : σ.1 17 r - cIn σ r (-1) = plIn σ r := by
  have h1 := fb_ct_not (fun e => decide (σ.2.1 22 (12 * r + whS σ r e) = -1)) (σ.1 17 r)
  have h2 : fb_ct (fun k => !decide (σ.2.1 22 (12 * r + whS σ r k) = -1)) (σ.1 17 r) = plIn σ r := by
    rw [show plIn σ r = fb_ct (fun j => decide (¬ σ.2.1 22 (12 * r + j) = -1)) 12 from rfl, ← pm_ct h hr (fun j => decide (¬ σ.2.1 22 (12 * r + j) = -1)) (fun j hj hn => by rw [(hD r j hr hj hn).1.1]; rfl)]
    refine fb_ct_cong (fun k _ => ?_)
    simp
  unfold cIn
  omega
def eO (A : Nat → Nat) (σ : ST) (r j : Nat) : Option Nat := if σ.1 41 (12 * r + j) = 1 then some (A (100 + (12 * r + j))) else none
