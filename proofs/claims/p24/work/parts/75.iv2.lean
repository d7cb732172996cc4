/-! a draw keeps it -/
def ISt (σ : ST) : Prop := ∀ r j, r < σ.1 18 0 → j < 12 → σ.1 15 r ≤ 1 → σ.2.1 23 (12 * r + j) = -1 ∧ σ.1 24 (12 * r + j) = 0 ∧ σ.1 26 (12 * r + j) = 0
def InvA (c : Nat) (σ : ST) : Prop :=
  Bd σ ∧ (∀ b, σ.1 2 b ≤ c ∧ σ.1 3 b ≤ c ∧ σ.1 4 b ≤ 50 * c) ∧ IW σ ∧ ID σ ∧ IBe σ ∧
  (∀ b, σ.1 6 0 ≤ b → σ.1 2 b = 0 ∧ σ.1 3 b = 0 ∧ σ.1 4 b = 0 ∧ σ.1 42 b = 0 ∧ σ.2.2 b = 0) ∧
  ((∀ k, k < 96 → σ.1 41 k = 1 → k < 12 * σ.1 18 0) ∧ (∀ r, σ.1 18 0 ≤ r → σ.1 15 r = 0 ∧ σ.1 17 r = 0 ∧ σ.2.1 16 r = 0)) ∧
  (∀ k, 12 * σ.1 18 0 ≤ k → σ.1 24 k = 0 ∧ σ.1 25 k = 0 ∧ σ.1 26 k = 0 ∧ σ.1 27 k = 0 ∧ σ.1 29 k = 0 ∧ ¬ σ.1 41 k = 1) ∧
  (∀ r, r < σ.1 18 0 → 1 ≤ σ.1 11 r) ∧
  (∀ k, k < 96 → σ.1 41 k = 1 → (σ.1 20 k).testBit (σ.1 21 k) = true) ∧
  (∀ r j, r < σ.1 18 0 → j < 12 → ¬ σ.1 24 (12 * r + j) = 0 → ¬ σ.2.1 23 (12 * r + j) = -1 ∧ ¬ σ.2.1 22 (12 * r + j) = -1) ∧
  (∀ r j, r < σ.1 18 0 → j < 12 → ¬ σ.1 26 (12 * r + j) = 0 → ¬ σ.2.1 22 (12 * r + j) = -1) ∧
  (∀ q, σ.1 31 q ≤ 1) ∧
  (∀ b, popN (σ.2.2 b) = σ.1 42 b) ∧
  (∀ r j, r < σ.1 18 0 → j < 12 → σ.2.1 22 (12 * r + j) = -1 ∨ ∃ p, p < σ.1 11 r ∧ σ.2.1 22 (12 * r + j) = nI p) ∧
  (∀ r j, r < σ.1 18 0 → j < 12 → σ.1 41 (12 * r + j) = 1 → σ.1 20 (12 * r + j) < 2 ^ σ.1 11 r) ∧
  (∀ r j, r < σ.1 18 0 → j < 12 → ¬ σ.1 15 r = 3 → σ.1 29 (12 * r + j) = 0)
theorem Inv_A {c : Nat} {σ : ST} (h : Inv c σ) : InvA c σ := by
  obtain ⟨a1, a2, a3, a4, a5, a6, a7, a8, a9, a10, a11, a12, a13, a14, a15, a16, a17, a18⟩ := h
  exact ⟨a1, a2, a3, a4, a5, a6, a7, a8, a9, a10, a11, a12, a13, a14, a16, a17, a18⟩
theorem InvA_I {c : Nat} {σ : ST} (h : InvA c σ) (hs : ISt σ) : Inv c σ := by
  obtain ⟨a1, a2, a3, a4, a5, a6, a7, a8, a9, a10, a11, a12, a13, a14, a16, a17, a18⟩ := h
  exact ⟨a1, a2, a3, a4, a5, a6, a7, a8, a9, a10, a11, a12, a13, a14, hs, a16, a17, a18⟩
theorem InvA_s {c : Nat} {σ : ST} (h : InvA c σ) : InvA (c + 1) σ := ⟨h.1, fun b => ⟨Nat.le_succ_of_le (h.2.1 b).1, Nat.le_succ_of_le (h.2.1 b).2.1, Nat.le_trans (h.2.1 b).2.2 (by omega)⟩, h.2.2⟩
set_option maxRecDepth 100000 in
theorem bitD_all : ∀ day, day < 64 → ∀ d, d < 64 → bitL (bitD day) d = decide (d = day) := by decide +kernel
theorem bitL_or {w v : Int64} {d : Nat} : bitL (w ||| v) d = (bitL w d || bitL v d) := by
  unfold bitL
  rw [Int64.toBitVec_or, BitVec.getLsbD_or]
theorem popN_up {w : Int64} {day : Nat} (hd : day < 64) (h : bitL w day = false) : popN (w ||| bitD day) = popN w + 1 := by
  unfold popN
  rw [ct_sm, ct_sm]
  have h1 := fb_sm_upd (fun k => bz (bitL w k)) 1 hd
  have h2 : fb_sm (fun k => bz (bitL (w ||| bitD day) k)) 64 = fb_sm (fun k => if k = day then 1 else bz (bitL w k)) 64 := fb_sm_cong (fun k hk => by
    rw [bitL_or, bitD_all day hd k hk]
    by_cases z : k = day
    · rw [if_pos z, decide_eq_true z, Bool.or_true]; rfl
    · rw [if_neg z, decide_eq_false z, Bool.or_false])
  rw [h2]
  have h3 : bz (bitL w day) = 0 := by rw [h]; rfl
  simp only [h3] at h1
  omega
/-- what a draw changes -/
theorem drw_facts {σ : ST} {r j : Nat} (h6 : σ.1 6 0 ≤ 16) (hday : dayS σ r j < 64) : ∃ (v24 : Nat) (v23 : Int32), (∀ i, (drwU σ r j).1 24 i = if i = 12 * r + j then v24 else σ.1 24 i) ∧ (∀ i, (drwU σ r j).2.1 23 i = if i = 12 * r + j then v23 else σ.2.1 23 i) ∧
    ((v24 = 0 ∧ v23 = -1 ∧ (∀ b, (drwU σ r j).2.2 b = σ.2.2 b ∧ (drwU σ r j).1 42 b = σ.1 42 b)) ∨
     (v24 = 1 ∧ ∃ b0, b0 < σ.1 6 0 ∧ v23 = nI b0 ∧ bitL (σ.2.2 b0) (dayS σ r j) = false ∧ ∀ b, (drwU σ r j).2.2 b = (if b = b0 then σ.2.2 b0 ||| bitD (dayS σ r j) else σ.2.2 b) ∧ (drwU σ r j).1 42 b = if b = b0 then σ.1 42 b0 + 1 else σ.1 42 b)) := by
  by_cases c : manS σ r (dayS σ r j) = 0
  · refine ⟨0, -1, ?_, ?_, Or.inl ⟨rfl, rfl, ?_⟩⟩
    · intro i; unfold drwU; rw [if_pos c]; simp [uN, uR]
    · intro i; unfold drwU; rw [if_pos c]; simp [uN, uR]
    · intro b; unfold drwU; rw [if_pos c]; exact ⟨rfl, rfl⟩
  · obtain ⟨b, hb, hcan, -, hv⟩ := drwF_some c
    have hrest : bitL (σ.2.2 b) (dayS σ r j) = false := by
      unfold canS at hcan
      have h2 := (Bool.and_eq_true_iff.mp hcan).2
      unfold restS at h2
      have h3 := rest1_iff.mp (allB_iff.mp h2 1 (by decide))
      rcases h3 with h3 | h3 | h3
      · omega
      · omega
      · exact h3
    have hb31 : b < 2 ^ 31 := by omega
    refine ⟨1, nI b, ?_, ?_, Or.inr ⟨rfl, b, hb, rfl, hrest, ?_⟩⟩
    · intro i; unfold drwU; rw [if_neg c]; simp [uN, uR, uD]
    · intro i; unfold drwU; rw [if_neg c, hv]; simp [uN, uR, uD]
    · intro b'; unfold drwU; rw [if_neg c, hv, cl_nI hb31]
      refine ⟨rfl, ?_⟩
      simp [uN, uR, uD]
theorem InvA_drw {c : Nat} {σ : ST} {r j : Nat} (h : InvA c σ) (hr : r < σ.1 18 0) (hj : j < 12) (h41 : σ.1 41 (12 * r + j) = 1) (hp : ¬ σ.2.1 22 (12 * r + j) = -1) : InvA c (drwU σ r j) := by
  obtain ⟨a1, a2, a3, a4, a5, a6, a7, a8, a9, a10, a11, a12, a13, a14, a16, a17, a18⟩ := h
  have hday : dayS σ r j < 64 := by
    obtain ⟨h6, h7, h18, hr8, hk96, hp96, hb16, hh⟩ := a1
    have b2 := pl_cl (by decide) (hp96 (12 * r + j) (by omega)).1 hp
    have b3 := hr8 r (by omega)
    unfold dayS
    omega
  obtain ⟨v24, v23, f24, f23, hv⟩ := drw_facts a1.1 hday
  obtain ⟨e, he⟩ : ∃ e, e = drwU σ r j := ⟨_, rfl⟩
  have eN : ∀ k, k ≠ 24 ∧ k ≠ 30 ∧ k ≠ 42 → e.1 k = σ.1 k := fun k hk => by rw [he]; exact drwU_N hk
  have eR : ∀ k, k ≠ 23 → e.2.1 k = σ.2.1 k := fun k hk => by rw [he]; exact drwU_R hk
  have hBe : Bd e := by rw [he]; exact Bd_drw a1
  have hIe : IBe e := by rw [he]; exact IBe_drw a5
  rw [← he] at f24 f23 hv ⊢
  have k18 := a1.2.2.1
  refine ⟨hBe, ?_, ?_, ?_, hIe, ?_, ?_, ?_, ?_, ?_, ?_, ?_, ?_, ?_, ?_, ?_, ?_⟩
  · rw [eN 2 (by decide), eN 3 (by decide), eN 4 (by decide)]; exact a2
  · exact IW_of (fun s q hs => congrFun (eN s (by omega)) q) a3
  · intro r' j' hr' hj' hn
    rw [eN 18 (by decide)] at hr'
    rw [eN 41 (by decide)] at hn
    have hne : ¬ 12 * r' + j' = 12 * r + j := fun z => hn (by rw [z]; exact h41)
    rw [eR 22 (by decide), eR 28 (by decide), f23, if_neg hne, f24, if_neg hne, eN 25 (by decide), eN 26 (by decide), eN 27 (by decide), eN 29 (by decide)]
    exact a4 r' j' hr' hj' hn
  · intro b hb
    rw [eN 6 (by decide)] at hb
    rw [eN 2 (by decide), eN 3 (by decide), eN 4 (by decide)]
    have := a6 b hb
    rcases hv with ⟨-, -, h1⟩ | ⟨-, b0, hb0, -, -, h1⟩
    · rw [(h1 b).1, (h1 b).2]; exact this
    · rw [(h1 b).1, (h1 b).2, if_neg (by omega), if_neg (by omega)]; exact this
  · rw [eN 41 (by decide), eN 18 (by decide), eN 15 (by decide), eN 17 (by decide), eR 16 (by decide)]; exact a7
  · intro k hk
    rw [eN 18 (by decide)] at hk
    rw [f24, if_neg (by omega), eN 25 (by decide), eN 26 (by decide), eN 27 (by decide), eN 29 (by decide), eN 41 (by decide)]
    exact a8 k hk
  · rw [eN 18 (by decide), eN 11 (by decide)]; exact a9
  · rw [eN 41 (by decide), eN 20 (by decide), eN 21 (by decide)]; exact a10
  · intro r' j' hr' hj' hn
    rw [eN 18 (by decide)] at hr'
    rw [eR 22 (by decide), f23]
    rw [f24] at hn
    by_cases z : 12 * r' + j' = 12 * r + j
    · rw [if_pos z] at hn
      rw [if_pos z, z]
      rcases hv with ⟨h1, -⟩ | ⟨-, b0, hb0, h1, -⟩
      · exact absurd h1 hn
      · rw [h1]
        have := a1.1
        exact ⟨nI_m1 (by omega), hp⟩
    · rw [if_neg z] at hn
      rw [if_neg z]
      exact a11 r' j' hr' hj' hn
  · rw [eN 18 (by decide), eN 26 (by decide), eR 22 (by decide)]; exact a12
  · rw [eN 31 (by decide)]; exact a13
  · intro b
    rcases hv with ⟨-, -, h1⟩ | ⟨-, b0, hb0, -, h2, h1⟩
    · rw [(h1 b).1, (h1 b).2]; exact a14 b
    · rw [(h1 b).1, (h1 b).2]
      by_cases z : b = b0
      · rw [if_pos z, if_pos z, popN_up hday h2, a14 b0]
      · rw [if_neg z, if_neg z]; exact a14 b
  · rw [eN 18 (by decide), eN 11 (by decide), eR 22 (by decide)]; exact a16
  · rw [eN 18 (by decide), eN 41 (by decide), eN 20 (by decide), eN 11 (by decide)]; exact a17
  · rw [eN 18 (by decide), eN 15 (by decide), eN 29 (by decide)]; exact a18
