/-! what else holds between two calls: an entry, a rodeo's money, a beast -/
def EJ (σ : ST) (t r j : Nat) : Prop :=
  (σ.1 41 (12 * r + j) = 1 → j < σ.1 7 0) ∧
  (t = 0 → σ.2.1 22 (12 * r + j) = -1) ∧
  (¬ σ.2.1 23 (12 * r + j) = -1 → (∃ b, b < σ.1 6 0 ∧ σ.2.1 23 (12 * r + j) = nI b ∧ bitL (σ.2.2 b) (dayS σ r j) = true) ∧ ¬ σ.2.1 22 (12 * r + j) = -1 ∧ 2 ≤ t) ∧
  (¬ σ.2.1 23 (12 * r + j) = -1 → σ.2.1 28 (12 * r + j) = -1 → ¬ σ.1 24 (12 * r + j) = 0) ∧
  (¬ σ.1 24 (12 * r + j) = 0 → σ.2.1 28 (12 * r + j) = -1 ∧ t = 2 ∧ ¬ σ.2.1 23 (12 * r + j) = -1) ∧
  (¬ σ.2.1 28 (12 * r + j) = -1 → ¬ σ.2.1 23 (12 * r + j) = -1) ∧
  (¬ σ.1 26 (12 * r + j) = 0 → t = 2 ∧ ¬ σ.2.1 28 (12 * r + j) = -1) ∧
  (¬ σ.1 27 (12 * r + j) = 0 → ¬ σ.2.1 28 (12 * r + j) = -1) ∧
  (¬ σ.1 29 (12 * r + j) = 0 → t = 3 ∧ ¬ σ.2.1 28 (12 * r + j) = -1)
def MJ (σ : ST) (t r : Nat) : Prop :=
  (t = 3 → σ.2.1 16 r + nI (fb_sm (fun j => σ.1 29 (12 * r + j)) 12) = nI (σ.1 13 r + σ.1 14 r * plIn σ r)) ∧ (¬ t = 3 → σ.2.1 16 r = 0)
def BJ (σ : ST) (b : Nat) : Prop := (σ.1 3 b ≤ σ.1 2 b ∧ σ.1 4 b ≤ 50 * σ.1 2 b) ∧ ∀ d, bitL (σ.2.2 b) d = true → bitL (σ.2.2 b) (d + 1) = false
def JV (f : Nat → Nat) (σ : ST) : Prop := (∀ r j, r < σ.1 18 0 → j < 12 → EJ σ (f r) r j) ∧ (∀ r, r < σ.1 18 0 → MJ σ (f r) r) ∧ ∀ b, BJ σ b
theorem EJ_up {σ τ : ST} {t r j : Nat} (h : EJ σ t r j) (e41 : τ.1 41 (12 * r + j) = σ.1 41 (12 * r + j)) (e7 : σ.1 7 0 ≤ τ.1 7 0) (e6 : σ.1 6 0 ≤ τ.1 6 0)
    (e22 : τ.2.1 22 (12 * r + j) = σ.2.1 22 (12 * r + j)) (e23 : τ.2.1 23 (12 * r + j) = σ.2.1 23 (12 * r + j)) (e28 : τ.2.1 28 (12 * r + j) = σ.2.1 28 (12 * r + j))
    (e24 : τ.1 24 (12 * r + j) = σ.1 24 (12 * r + j)) (e26 : τ.1 26 (12 * r + j) = σ.1 26 (12 * r + j)) (e27 : τ.1 27 (12 * r + j) = σ.1 27 (12 * r + j)) (e29 : τ.1 29 (12 * r + j) = σ.1 29 (12 * r + j))
    (e10 : τ.1 10 r = σ.1 10 r) (ed : ∀ b d, bitL (σ.2.2 b) d = true → bitL (τ.2.2 b) d = true) : EJ τ t r j := by
  have ey : dayS τ r j = dayS σ r j := by unfold dayS; rw [e10, e22]
  unfold EJ at h ⊢
  rw [e41, e22, e23, e28, e24, e26, e27, e29, ey]
  obtain ⟨h1, h2, h3, h4, h5, h6, h7, h8, h9⟩ := h
  refine ⟨fun z => Nat.lt_of_lt_of_le (h1 z) e7, h2, fun z => ?_, h4, h5, h6, h7, h8, h9⟩
  obtain ⟨⟨b, z1, z2, z3⟩, z4⟩ := h3 z
  exact ⟨⟨b, by omega, z2, ed _ _ z3⟩, z4⟩
theorem plIn_cg {σ τ : ST} {r : Nat} (e22 : ∀ j, j < 12 → τ.2.1 22 (12 * r + j) = σ.2.1 22 (12 * r + j)) : plIn τ r = plIn σ r := fb_ct_cong (fun j hj => by rw [e22 j hj])
theorem MJ_up {σ τ : ST} {t r : Nat} (h : MJ σ t r) (e16 : τ.2.1 16 r = σ.2.1 16 r) (e13 : τ.1 13 r = σ.1 13 r) (e14 : τ.1 14 r = σ.1 14 r)
    (e29 : ∀ j, j < 12 → τ.1 29 (12 * r + j) = σ.1 29 (12 * r + j)) (e22 : ∀ j, j < 12 → τ.2.1 22 (12 * r + j) = σ.2.1 22 (12 * r + j)) : MJ τ t r := by
  unfold MJ at h ⊢
  rw [e16, e13, e14, plIn_cg e22, fb_sm_cong e29]
  exact h
theorem BJ_up {σ τ : ST} {b : Nat} (h : BJ σ b) (e2 : τ.1 2 b = σ.1 2 b) (e3 : τ.1 3 b = σ.1 3 b) (e4 : τ.1 4 b = σ.1 4 b) (ed : τ.2.2 b = σ.2.2 b) : BJ τ b := by
  unfold BJ at h ⊢
  rw [e2, e3, e4, ed]
  exact h
theorem JV_f {f f' : Nat → Nat} {σ : ST} (h : JV f σ) (e : ∀ r, r < σ.1 18 0 → f' r = f r) : JV f' σ :=
  ⟨fun r j hr hj => by rw [e r hr]; exact h.1 r j hr hj, fun r hr => by rw [e r hr]; exact h.2.1 r hr, h.2.2⟩
/-- an entry of one who has nothing -/
theorem EJ_0 {σ : ST} {t r j : Nat} (h1 : σ.1 41 (12 * r + j) = 1 → j < σ.1 7 0) (h22 : t = 0 → σ.2.1 22 (12 * r + j) = -1) (h23 : σ.2.1 23 (12 * r + j) = -1) (h28 : σ.2.1 28 (12 * r + j) = -1)
    (h24 : σ.1 24 (12 * r + j) = 0) (h26 : σ.1 26 (12 * r + j) = 0) (h27 : σ.1 27 (12 * r + j) = 0) (h29 : σ.1 29 (12 * r + j) = 0) : EJ σ t r j :=
  ⟨h1, h22, fun z => absurd h23 z, fun z => absurd h23 z, fun z => absurd h24 z, fun z => absurd h28 z, fun z => absurd h26 z, fun z => absurd h27 z, fun z => absurd h29 z⟩
theorem JV_rider {f : Nat → Nat} {σ : ST} (h : JV f σ) : JV f (rdU σ) :=
  ⟨fun r j hr hj => EJ_up (h.1 r j hr hj) rfl (Nat.le_succ _) (Nat.le_refl _) rfl rfl rfl rfl rfl rfl rfl rfl (fun _ _ z => z), fun r hr => MJ_up (h.2.1 r hr) rfl rfl rfl (fun _ _ => rfl) (fun _ _ => rfl), fun b => BJ_up (h.2.2 b) rfl rfl rfl rfl⟩
theorem JV_hide {f : Nat → Nat} {σ : ST} {v : Nat} (h : JV f σ) : JV f (uN σ 30 0 v) :=
  ⟨fun r j hr hj => EJ_up (h.1 r j hr hj) rfl (Nat.le_refl _) (Nat.le_refl _) rfl rfl rfl rfl rfl rfl rfl rfl (fun _ _ z => z), fun r hr => MJ_up (h.2.1 r hr) rfl rfl rfl (fun _ _ => rfl) (fun _ _ => rfl), fun b => BJ_up (h.2.2 b) rfl rfl rfl rfl⟩
theorem JV_beast {f : Nat → Nat} {σ : ST} {x0 : Int32} (h : JV f σ) : JV f (beU σ x0) :=
  ⟨fun r j hr hj => EJ_up (h.1 r j hr hj) rfl (Nat.le_refl _) (Nat.le_succ _) rfl rfl rfl rfl rfl rfl rfl rfl (fun _ _ z => z), fun r hr => MJ_up (h.2.1 r hr) rfl rfl rfl (fun _ _ => rfl) (fun _ _ => rfl), fun b => BJ_up (h.2.2 b) rfl rfl rfl rfl⟩
theorem JV_enter {f : Nat → Nat} {σ : ST} {r0 j0 s0 w0 : Nat} (h : JV f σ) (hj0 : j0 < σ.1 7 0) (h12 : σ.1 7 0 ≤ 12) : JV f (enU σ r0 j0 s0 w0) := by
  have e41 : ∀ k, (enU σ r0 j0 s0 w0).1 41 k = if k = 12 * r0 + j0 then 1 else σ.1 41 k := fun k => by unfold enU; simp [uN]
  refine ⟨fun r j hr hj => ?_, fun r hr => MJ_up (h.2.1 r hr) rfl rfl rfl (fun _ _ => rfl) (fun _ _ => rfl), fun b => BJ_up (h.2.2 b) rfl rfl rfl rfl⟩
  have h9 := h.1 r j hr hj
  obtain ⟨h1, h2⟩ := h9
  refine ⟨fun z => ?_, h2⟩
  rw [e41] at z
  show j < σ.1 7 0
  by_cases c : 12 * r + j = 12 * r0 + j0
  · omega
  · rw [if_neg c] at z; exact h1 z
theorem JV_rodeo {c : Nat} {σ : ST} {a0 a1 a2 a3 a4 a5 a6 : Int32} (hI : Inv c σ) (h : JV (σ.1 15) σ) : JV ((roU σ a0 a1 a2 a3 a4 a5 a6).1 15) (roU σ a0 a1 a2 a3 a4 a5 a6) := by
  obtain ⟨τ, ht⟩ : ∃ τ, τ = roU σ a0 a1 a2 a3 a4 a5 a6 := ⟨_, rfl⟩
  have hv := roU_v (σ := σ) (a0 := a0) (a1 := a1) (a2 := a2) (a3 := a3) (a4 := a4) (a5 := a5) (a6 := a6)
  have tR : ∀ s k, ¬ (s = 22 ∨ s = 23 ∨ s = 28) → τ.2.1 s k = σ.2.1 s k := fun s k hs => by
    rw [ht]
    have key : ∀ j, (roB (roA σ (σ.1 18 0) a0 a1 a2 a3 a4 a5 a6) (σ.1 18 0) j).2.1 s k = σ.2.1 s k := by
      intro j
      induction j with
      | zero => rfl
      | succ j ih =>
        have e : (roB (roA σ (σ.1 18 0) a0 a1 a2 a3 a4 a5 a6) (σ.1 18 0) (j + 1)).2.1 s k = (roB (roA σ (σ.1 18 0) a0 a1 a2 a3 a4 a5 a6) (σ.1 18 0) j).2.1 s k := by
          simp only [roB, uR]
          rw [if_neg (fun z => hs (by omega)), if_neg (fun z => hs (by omega)), if_neg (fun z => hs (by omega))]
        rw [e]; exact ih
    exact key 12
  have tD : τ.2.2 = σ.2.2 := by
    rw [ht]
    have key : ∀ j, (roB (roA σ (σ.1 18 0) a0 a1 a2 a3 a4 a5 a6) (σ.1 18 0) j).2.2 = σ.2.2 := by
      intro j
      induction j with
      | zero => rfl
      | succ j ih => exact ih
    exact key 12
  have tN : ∀ s k, τ.1 s k = if s = 18 ∧ k = 0 then σ.1 18 0 + 1 else (roA σ (σ.1 18 0) a0 a1 a2 a3 a4 a5 a6).1 s k := fun s k => by
    rw [ht]; unfold roU
    have e := roB_1 (σ := roA σ (σ.1 18 0) a0 a1 a2 a3 a4 a5 a6) (q := σ.1 18 0) 12
    show (if s = 18 ∧ k = 0 then σ.1 18 0 + 1 else (roB (roA σ (σ.1 18 0) a0 a1 a2 a3 a4 a5 a6) (σ.1 18 0) 12).1 s k) = _
    rw [e]
  have tA : ∀ s k, (¬ (8 ≤ s ∧ s ≤ 14) ∨ ¬ k = σ.1 18 0) → (roA σ (σ.1 18 0) a0 a1 a2 a3 a4 a5 a6).1 s k = σ.1 s k := fun s k hs => by
    simp only [roA, uN]
    rw [if_neg (by omega), if_neg (by omega), if_neg (by omega), if_neg (by omega), if_neg (by omega), if_neg (by omega), if_neg (by omega)]
  have t18 : τ.1 18 0 = σ.1 18 0 + 1 := by rw [tN]; simp
  have tS : ∀ s k, ¬ s = 18 → (¬ (8 ≤ s ∧ s ≤ 14) ∨ ¬ k = σ.1 18 0) → τ.1 s k = σ.1 s k := fun s k h1 h2 => by rw [tN, if_neg (fun z => h1 z.1), tA s k h2]
  have tv : ∀ s k, (s = 22 ∨ s = 23 ∨ s = 28) → τ.2.1 s k = if 12 * σ.1 18 0 ≤ k ∧ k < 12 * σ.1 18 0 + 12 then -1 else σ.2.1 s k := fun s k hs => by rw [ht]; exact hv s k hs
  rw [← ht]
  have k18 := hI.B.2.2.1
  refine ⟨fun r j hr hj => ?_, fun r hr => ?_, fun b => BJ_up (h.2.2 b) (tS 2 b (by decide) (by omega)) (tS 3 b (by decide) (by omega)) (tS 4 b (by decide) (by omega)) (by rw [tD])⟩
  · rw [t18] at hr
    by_cases z : r = σ.1 18 0
    · have hz := hI.zk (12 * r + j) (by omega)
      refine EJ_0 (fun y => ?_) (fun _ => ?_) ?_ ?_ ?_ ?_ ?_ ?_
      · rw [tS 41 _ (by decide) (by omega)] at y; exact absurd y hz.2.2.2.2.2
      · rw [tv 22 _ (by decide), if_pos (by omega)]
      · rw [tv 23 _ (by decide), if_pos (by omega)]
      · rw [tv 28 _ (by decide), if_pos (by omega)]
      · rw [tS 24 _ (by decide) (by omega)]; exact hz.1
      · rw [tS 26 _ (by decide) (by omega)]; exact hz.2.2.1
      · rw [tS 27 _ (by decide) (by omega)]; exact hz.2.2.2.1
      · rw [tS 29 _ (by decide) (by omega)]; exact hz.2.2.2.2.1
    · rw [tS 15 r (by decide) (by omega)]
      refine EJ_up (h.1 r j (by omega) hj) (tS 41 _ (by decide) (by omega)) (Nat.le_of_eq (tS 7 _ (by decide) (by omega)).symm) (Nat.le_of_eq (tS 6 _ (by decide) (by omega)).symm) ?_ ?_ ?_ (tS 24 _ (by decide) (by omega)) (tS 26 _ (by decide) (by omega)) (tS 27 _ (by decide) (by omega)) (tS 29 _ (by decide) (by omega)) (tS 10 _ (by decide) (by omega)) (fun b d y => by rw [tD]; exact y)
      · rw [tv 22 _ (by decide), if_neg (by omega)]
      · rw [tv 23 _ (by decide), if_neg (by omega)]
      · rw [tv 28 _ (by decide), if_neg (by omega)]
  · rw [t18] at hr
    by_cases z : r = σ.1 18 0
    · have hz := hI.zr.2 r (by omega)
      rw [tS 15 r (by decide) (by omega), hz.1]
      refine ⟨fun y => absurd y (by decide), fun _ => ?_⟩
      rw [tR 16 r (by decide)]
      exact hz.2.2
    · rw [tS 15 r (by decide) (by omega)]
      refine MJ_up (h.2.1 r (by omega)) (tR 16 r (by decide)) (tS 13 r (by decide) (by omega)) (tS 14 r (by decide) (by omega)) (fun j hj => tS 29 _ (by decide) (by omega)) (fun j hj => ?_)
      rw [tv 22 _ (by decide), if_neg (by omega)]
theorem JV_close {c r : Nat} {σ : ST} (hI : Inv c σ) (h : JV (σ.1 15) σ) (hr : r < σ.1 18 0) (h15 : σ.1 15 r = 0) : JV ((clU σ r).1 15) (clU σ r) := by
  have k18 := hI.B.2.2.1
  have hout := clE_out hI.W hr (fun j hj h41 => ⟨hI.wi _ (by omega) h41, hI.se r j hr hj h41⟩) (σ.1 17 r) (Nat.le_refl _)
  obtain ⟨τ, ht⟩ : ∃ τ, τ = clU σ r := ⟨_, rfl⟩
  have e1 : ∀ s k, τ.1 s k = if s = 15 ∧ k = r then 1 else σ.1 s k := fun s k => by
    rw [ht]
    show (if s = 15 ∧ k = r then 1 else (clE σ r (σ.1 17 r)).1 s k) = _
    rw [clE_1]
  have eR : ∀ s k, s ≠ 22 → τ.2.1 s k = σ.2.1 s k := fun s k hs => by rw [ht]; exact congrFun (clE_R hs _) k
  have eD : τ.2.2 = σ.2.2 := by rw [ht]; exact clE_D _
  have e22 : ∀ k, ¬ (12 * r ≤ k ∧ k < 12 * r + 12) → τ.2.1 22 k = σ.2.1 22 k := fun k hk => by
    rw [ht]
    rcases hout k with h8 | ⟨h8, -⟩
    · exact h8
    · exact absurd h8 hk
  have eS : ∀ s k, ¬ s = 15 → τ.1 s k = σ.1 s k := fun s k hs => by rw [e1, if_neg (fun z => hs z.1)]
  rw [← ht]
  refine ⟨fun r' j hr' hj => ?_, fun r' hr' => ?_, fun b => BJ_up (h.2.2 b) (eS 2 b (by decide)) (eS 3 b (by decide)) (eS 4 b (by decide)) (by rw [eD])⟩
  · rw [eS 18 0 (by decide)] at hr'
    by_cases z : r' = r
    · subst z
      have h9 := h.1 r' j hr' hj
      rw [h15] at h9
      obtain ⟨h1, h2, h3, h4, h5, h6, h7, h8, h0⟩ := h9
      have q23 : σ.2.1 23 (12 * r' + j) = -1 := (hI.st r' j hr' hj (by omega)).1
      have q28 : σ.2.1 28 (12 * r' + j) = -1 := Classical.byContradiction (fun y => h6 y q23)
      refine EJ_0 (fun y => ?_) (fun y => ?_) ?_ ?_ ?_ ?_ ?_ ?_
      · rw [eS 41 _ (by decide)] at y; rw [eS 7 _ (by decide)]; exact h1 y
      · rw [e1, if_pos ⟨rfl, rfl⟩] at y; cases y
      · rw [eR 23 _ (by decide)]; exact q23
      · rw [eR 28 _ (by decide)]; exact q28
      · rw [eS 24 _ (by decide)]; exact (hI.st r' j hr' hj (by omega)).2.1
      · rw [eS 26 _ (by decide)]; exact (hI.st r' j hr' hj (by omega)).2.2
      · rw [eS 27 _ (by decide)]; exact Classical.byContradiction (fun y => h8 y q28)
      · rw [eS 29 _ (by decide)]; exact Classical.byContradiction (fun y => (h0 y).2 q28)
    · rw [e1, if_neg (fun y => z y.2)]
      exact EJ_up (h.1 r' j hr' hj) (eS 41 _ (by decide)) (Nat.le_of_eq (eS 7 _ (by decide)).symm) (Nat.le_of_eq (eS 6 _ (by decide)).symm) (e22 _ (by omega)) (eR 23 _ (by decide)) (eR 28 _ (by decide)) (eS 24 _ (by decide)) (eS 26 _ (by decide)) (eS 27 _ (by decide)) (eS 29 _ (by decide)) (eS 10 _ (by decide)) (fun b d y => by rw [eD]; exact y)
  · rw [eS 18 0 (by decide)] at hr'
    by_cases z : r' = r
    · subst z
      rw [e1, if_pos ⟨rfl, rfl⟩]
      refine ⟨fun y => absurd y (by decide), fun _ => ?_⟩
      rw [eR 16 _ (by decide)]
      have h9 := h.2.1 r' hr'
      exact h9.2 (by omega)
    · rw [e1, if_neg (fun y => z y.2)]
      exact MJ_up (h.2.1 r' hr') (eR 16 _ (by decide)) (eS 13 _ (by decide)) (eS 14 _ (by decide)) (fun j hj => eS 29 _ (by decide)) (fun j hj => e22 _ (by omega))
