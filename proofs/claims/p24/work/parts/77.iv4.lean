/-! ride, close keep it -/
theorem cdRi_3 {c : Nat} {σ : ST} {x0 y0 mk w : Int32} (h : Inv c σ) (hz : cdRi σ x0 y0 mk w = 0) : ∃ r j b q, r < σ.1 18 0 ∧ j < 12 ∧ b < σ.1 6 0 ∧ q ≤ 456975 ∧ cl x0 = r ∧ cl y0 = j ∧ cl mk = q ∧ σ.1 15 r = 2 ∧ ¬ σ.1 24 (12 * r + j) = 0 ∧ σ.2.1 23 (12 * r + j) = nI b ∧ σ.1 41 (12 * r + j) = 1 := by
  have h1 := cdRi_1 hz
  have h2 := cdRi_2 hz
  have h18 := h.B.2.2.1
  have h7 := h.B.2.1
  have hin : (inN x0 (σ.1 18 0) && inN y0 (σ.1 7 0)) = true := by
    unfold cdRi at hz
    by_cases z : (inN x0 (σ.1 18 0) && inN y0 (σ.1 7 0)) = false
    · rw [if_pos z] at hz; cases hz
    · simpa using z
  have z2 := Bool.and_eq_true_iff.mp hin
  obtain ⟨r, hr, rfl⟩ := inN_t (n := σ.1 18 0) (x0 := x0) (by omega) z2.1
  obtain ⟨j, hj, rfl⟩ := inN_t (n := σ.1 7 0) (x0 := y0) (by omega) z2.2
  obtain ⟨q, -, hq, rfl⟩ := inR_t (by decide) (by decide) h1.1
  rw [cl_nI (n := r) (by omega), cl_nI (n := j) (by omega)] at h2
  obtain ⟨b, hb, e⟩ := h.hbr r j hr hj h2.2
  have h41 : σ.1 41 (12 * r + j) = 1 := by
    by_cases z : σ.1 41 (12 * r + j) = 1
    · exact z
    · exact absurd (h.D r j hr (by omega) z).2.1 h2.2
  exact ⟨r, j, b, q, hr, by omega, hb, hq, cl_nI (by omega), cl_nI (by omega), cl_nI (by omega), h2.1, h2.2, e, h41⟩
theorem IV_ride {c : Nat} {σ : ST} {x0 y0 mk w : Int32} {f : Bool} (h : Inv c σ) (h5 : c < 512) (hz : cdRi σ x0 y0 mk w = 0) : Inv (c + 1) (ridU σ (12 * cl x0 + cl y0) (cl (σ.2.1 23 (12 * cl x0 + cl y0))) (cl mk) (cl w) f) := by
  obtain ⟨r, j, b, q, hr, hj, hb, hq, e1, e2, e3, h15, h24, h23, h41⟩ := cdRi_3 h hz
  have k6 := h.B.1
  rw [e1, e2, e3, h23, cl_nI (n := b) (by omega)]
  obtain ⟨a1, a2, a3, a4, a5, a6, a7, a8, a9, a10, a11, a12, a13, a14, a15, a16, a17, a18⟩ := h
  have k18 := a1.2.2.1
  obtain ⟨k, hk⟩ : ∃ k, k = 12 * r + j := ⟨_, rfl⟩
  rw [← hk] at h24 h23 h41 ⊢
  obtain ⟨τ, ht⟩ : ∃ τ, τ = ridU σ k b q (cl w) f := ⟨_, rfl⟩
  rw [← ht]
  have hmB : mkB q ≤ 50 := by unfold mkB; omega
  have hmA : mkA q ≤ 100 := by unfold mkA; omega
  have tN : ∀ s i, ¬ s = 2 → ¬ s = 3 → ¬ s = 4 → ¬ s = 24 → ¬ s = 26 → ¬ s = 27 → τ.1 s i = σ.1 s i := fun s i h1 h2 h3 h4 h5 h6 => by rw [ht]; simp [ridU, uN, uR, h1, h2, h3, h4, h5, h6]
  have tO : ∀ s i, ¬ s = 2 → ¬ s = 3 → ¬ s = 4 → ¬ i = k → τ.1 s i = σ.1 s i ∧ τ.2.1 s i = σ.2.1 s i := fun s i h1 h2 h3 h4 => by rw [ht]; simp [ridU, uN, uR, h1, h2, h3, h4]
  have tR : ∀ s i, ¬ s = 28 → τ.2.1 s i = σ.2.1 s i := fun s i h1 => by rw [ht]; simp [ridU, uN, uR, h1]
  have tD : τ.2.2 = σ.2.2 := by rw [ht]; rfl
  have t2 : ∀ i, τ.1 2 i = if i = b then σ.1 2 b + 1 else σ.1 2 i := fun i => by rw [ht]; simp [ridU, uN, uR]
  have t3 : ∀ i, τ.1 3 i = if i = b then σ.1 3 b + (if rcS (cl w) f = true then 0 else 1) else σ.1 3 i := fun i => by rw [ht]; simp [ridU, uN, uR]
  have t4 : ∀ i, τ.1 4 i = if i = b then σ.1 4 b + mkB q else σ.1 4 i := fun i => by rw [ht]; simp [ridU, uN, uR]
  have t24 : τ.1 24 k = 0 := by rw [ht]; simp [ridU, uN, uR]
  have t27 : τ.1 27 k ≤ 1 := by rw [ht]; simp only [ridU, uN, uR]; simp; exact bz_le _
  have t26 : τ.1 26 k ≤ 1 := by rw [ht]; simp only [ridU, uN, uR]; simp; exact bz_le _
  have t28 : ∃ v, v ≤ 100 ∧ τ.2.1 28 k = nI v := by
    have : τ.2.1 28 k = if rcS (cl w) f = true then nI (mkA q) else nI 0 := by rw [ht]; simp [ridU, uN, uR]
    rw [this]
    split
    · exact ⟨_, hmA, rfl⟩
    · exact ⟨0, by omega, rfl⟩
  have ctb := a2 b
  have hz3 : (if rcS (cl w) f = true then 0 else 1) ≤ 1 := by split <;> omega
  have t18 : τ.1 18 0 = σ.1 18 0 := tN 18 0 (by decide) (by decide) (by decide) (by decide) (by decide) (by decide)
  have t41 : ∀ i, τ.1 41 i = σ.1 41 i := fun i => tN 41 i (by decide) (by decide) (by decide) (by decide) (by decide) (by decide)
  have t15 : ∀ i, τ.1 15 i = σ.1 15 i := fun i => tN 15 i (by decide) (by decide) (by decide) (by decide) (by decide) (by decide)
  have t11 : ∀ i, τ.1 11 i = σ.1 11 i := fun i => tN 11 i (by decide) (by decide) (by decide) (by decide) (by decide) (by decide)
  have t20 : ∀ i, τ.1 20 i = σ.1 20 i := fun i => tN 20 i (by decide) (by decide) (by decide) (by decide) (by decide) (by decide)
  have t29 : ∀ i, τ.1 29 i = σ.1 29 i := fun i => tN 29 i (by decide) (by decide) (by decide) (by decide) (by decide) (by decide)
  have hpl : ¬ σ.2.1 22 k = -1 := by rw [hk]; exact (a11 r j hr hj (by rw [← hk]; exact h24)).2
  have hct : ∀ i, τ.1 2 i ≤ c + 1 ∧ τ.1 3 i ≤ c + 1 ∧ τ.1 4 i ≤ 50 * (c + 1) := by
    intro i
    have hci := a2 i
    rw [t2, t3, t4]
    by_cases z : i = b
    · rw [if_pos z, if_pos z, if_pos z]; exact ⟨by omega, by omega, by omega⟩
    · rw [if_neg z, if_neg z, if_neg z]; exact ⟨by omega, by omega, by omega⟩
  refine ⟨?_, hct, IW_of (fun s q' hs => tN s q' (by omega) (by omega) (by omega) (by omega) (by omega) (by omega)) a3, ?_, ?_, ?_, ?_, ?_, ?_, ?_, ?_, ?_, ?_, ?_, ?_, ?_, ?_, ?_⟩
  · obtain ⟨b1, b2, b3, b4, b5, b6, b7, b8⟩ := a1
    refine ⟨by rw [tN 6 0 (by decide) (by decide) (by decide) (by decide) (by decide) (by decide)]; exact b1, by rw [tN 7 0 (by decide) (by decide) (by decide) (by decide) (by decide) (by decide)]; exact b2, by rw [t18]; exact b3, fun r' hr' => ?_, fun k' hk' => ?_, fun k' hk' => ?_, fun b' hb' => ?_, by rw [tN 30 0 (by decide) (by decide) (by decide) (by decide) (by decide) (by decide)]; exact b8⟩
    · rw [tN 9 _ (by decide) (by decide) (by decide) (by decide) (by decide) (by decide), tN 10 _ (by decide) (by decide) (by decide) (by decide) (by decide) (by decide), t11, tN 12 _ (by decide) (by decide) (by decide) (by decide) (by decide) (by decide), tN 13 _ (by decide) (by decide) (by decide) (by decide) (by decide) (by decide), tN 14 _ (by decide) (by decide) (by decide) (by decide) (by decide) (by decide), t15, tN 17 _ (by decide) (by decide) (by decide) (by decide) (by decide) (by decide), tN 8 _ (by decide) (by decide) (by decide) (by decide) (by decide) (by decide)]
      exact b4 r' hr'
    · have := b5 k' hk'
      rw [tN 19 _ (by decide) (by decide) (by decide) (by decide) (by decide) (by decide), t20, tN 21 _ (by decide) (by decide) (by decide) (by decide) (by decide) (by decide), tN 25 _ (by decide) (by decide) (by decide) (by decide) (by decide) (by decide), t29]
      by_cases z : k' = k
      · rw [z] at this ⊢
        exact ⟨this.1, this.2.1, this.2.2.1, by rw [t24]; omega, this.2.2.2.2.1, t26, t27, this.2.2.2.2.2.2.2⟩
      · rw [(tO 24 _ (by decide) (by decide) (by decide) z).1, (tO 26 _ (by decide) (by decide) (by decide) z).1, (tO 27 _ (by decide) (by decide) (by decide) z).1]
        exact this
    · have := b6 k' hk'
      rw [tR 22 _ (by decide), tR 23 _ (by decide)]
      by_cases z : k' = k
      · rw [z] at this ⊢
        exact ⟨this.1, this.2.1, Or.inr t28⟩
      · rw [(tO 28 _ (by decide) (by decide) (by decide) z).2]
        exact this
    · have h9 := hct b'
      have h8 := b7 b' hb'
      exact ⟨by rw [tN 1 _ (by decide) (by decide) (by decide) (by decide) (by decide) (by decide)]; exact h8.1, by omega, by omega, by omega⟩
  · intro r' j' hr' hj' hn'
    rw [t18] at hr'
    rw [t41] at hn'
    have hne : ¬ 12 * r' + j' = k := fun z => hn' (by rw [z]; exact h41)
    rw [(tO 22 _ (by decide) (by decide) (by decide) hne).2, (tO 23 _ (by decide) (by decide) (by decide) hne).2, (tO 28 _ (by decide) (by decide) (by decide) hne).2, (tO 24 _ (by decide) (by decide) (by decide) hne).1, (tO 25 _ (by decide) (by decide) (by decide) hne).1, (tO 26 _ (by decide) (by decide) (by decide) hne).1, (tO 27 _ (by decide) (by decide) (by decide) hne).1, t29]
    exact a4 r' j' hr' hj' hn'
  · intro k' hk' h9 hn'
    rw [t41] at h9
    rw [tR 23 _ (by decide)] at hn' ⊢
    rw [tN 6 0 (by decide) (by decide) (by decide) (by decide) (by decide) (by decide)]
    exact a5 k' hk' h9 hn'
  · intro i hi
    rw [tN 6 0 (by decide) (by decide) (by decide) (by decide) (by decide) (by decide)] at hi
    rw [t2, t3, t4, if_neg (by omega), if_neg (by omega), if_neg (by omega), tN 42 _ (by decide) (by decide) (by decide) (by decide) (by decide) (by decide), tD]
    exact a6 i hi
  · refine ⟨fun k' hk' h9 => ?_, fun r' hr' => ?_⟩
    · rw [t41] at h9; rw [t18]; exact a7.1 k' hk' h9
    · rw [t18] at hr'; rw [t15, tN 17 _ (by decide) (by decide) (by decide) (by decide) (by decide) (by decide), tR 16 _ (by decide)]; exact a7.2 r' hr'
  · intro k' hk'
    rw [t18] at hk'
    have hne : ¬ k' = k := by omega
    rw [(tO 24 _ (by decide) (by decide) (by decide) hne).1, (tO 25 _ (by decide) (by decide) (by decide) hne).1, (tO 26 _ (by decide) (by decide) (by decide) hne).1, (tO 27 _ (by decide) (by decide) (by decide) hne).1, t29, t41]
    exact a8 k' hk'
  · intro r' hr'; rw [t18] at hr'; rw [t11]; exact a9 r' hr'
  · intro k' hk' h9; rw [t41] at h9; rw [t20, tN 21 _ (by decide) (by decide) (by decide) (by decide) (by decide) (by decide)]; exact a10 k' hk' h9
  · intro r' j' hr' hj' hn'
    rw [t18] at hr'
    rw [tR 22 _ (by decide), tR 23 _ (by decide)]
    by_cases z : 12 * r' + j' = k
    · rw [z, t24] at hn'; exact absurd rfl hn'
    · rw [(tO 24 _ (by decide) (by decide) (by decide) z).1] at hn'; exact a11 r' j' hr' hj' hn'
  · intro r' j' hr' hj' hn'
    rw [t18] at hr'
    rw [tR 22 _ (by decide)]
    by_cases z : 12 * r' + j' = k
    · rw [z]; exact hpl
    · rw [(tO 26 _ (by decide) (by decide) (by decide) z).1] at hn'; exact a12 r' j' hr' hj' hn'
  · intro q'; rw [tN 31 _ (by decide) (by decide) (by decide) (by decide) (by decide) (by decide)]; exact a13 q'
  · intro i; rw [tD, tN 42 _ (by decide) (by decide) (by decide) (by decide) (by decide) (by decide)]; exact a14 i
  · intro r' j' hr' hj' hs
    rw [t18] at hr'
    rw [t15] at hs
    have hne : ¬ 12 * r' + j' = k := fun z => by
      have : r' = r := by omega
      rw [this, h15] at hs; omega
    rw [tR 23 _ (by decide), (tO 24 _ (by decide) (by decide) (by decide) hne).1, (tO 26 _ (by decide) (by decide) (by decide) hne).1]
    exact a15 r' j' hr' hj' hs
  · intro r' j' hr' hj'; rw [t18] at hr'; rw [tR 22 _ (by decide), t11]; exact a16 r' j' hr' hj'
  · intro r' j' hr' hj' h9; rw [t18] at hr'; rw [t41] at h9; rw [t20, t11]; exact a17 r' j' hr' hj' h9
  · intro r' j' hr' hj' h9; rw [t18] at hr'; rw [t15] at h9; rw [t29]; exact a18 r' j' hr' hj' h9
theorem plcS_pp {σ : ST} {r j : Nat} (hw : (σ.1 20 (12 * r + j)).testBit (σ.1 21 (12 * r + j)) = true) (hs : σ.1 20 (12 * r + j) < 2 ^ σ.1 11 r) : plcS σ r j = -1 ∨ ∃ p, p < σ.1 11 r ∧ plcS σ r j = nI p := by
  unfold plcS
  split
  · exact Or.inr ⟨_, may_w hs hw, rfl⟩
  · rcases fF_rng (f := fitS σ r j) (σ.1 11 r) 0 with h | ⟨p, -, h2, -, h4⟩
    · exact Or.inl h
    · exact Or.inr ⟨p, by omega, h4⟩
theorem clE_out {σ : ST} {r : Nat} (hW : IW σ) (hr : r < σ.1 18 0) (hwi : ∀ j, j < 12 → σ.1 41 (12 * r + j) = 1 → (σ.1 20 (12 * r + j)).testBit (σ.1 21 (12 * r + j)) = true ∧ σ.1 20 (12 * r + j) < 2 ^ σ.1 11 r) : ∀ e, e ≤ σ.1 17 r → ∀ k, (clE σ r e).2.1 22 k = σ.2.1 22 k ∨ ((12 * r ≤ k ∧ k < 12 * r + 12) ∧ ((clE σ r e).2.1 22 k = -1 ∨ ∃ p, p < σ.1 11 r ∧ (clE σ r e).2.1 22 k = nI p))
  | 0, _, _ => Or.inl rfl
  | e + 1, he, k => by
    have ih := clE_out hW hr hwi e (by omega) k
    have hw := (hW r hr).1 e (by omega)
    rw [clE_s]
    by_cases z : k = 12 * r + whS σ r e
    · have e1 : (uR (clE σ r e) 22 (12 * r + whS σ r e) (plcS (clE σ r e) r (whS σ r e))).2.1 22 k = plcS (clE σ r e) r (whS σ r e) := if_pos ⟨rfl, z⟩
      rw [e1]
      have h2 := hwi _ hw.1 hw.2
      have h3 := plcS_pp (σ := clE σ r e) (r := r) (j := whS σ r e) (by rw [clE_1]; exact h2.1) (by rw [clE_1]; exact h2.2)
      rw [clE_1] at h3
      exact Or.inr ⟨by omega, h3⟩
    · have e1 : (uR (clE σ r e) 22 (12 * r + whS σ r e) (plcS (clE σ r e) r (whS σ r e))).2.1 22 k = (clE σ r e).2.1 22 k := if_neg (fun y => z y.2)
      rw [e1]
      exact ih
theorem IV_close {c : Nat} {σ : ST} {x0 : Int32} (h : Inv c σ) (h5 : c < 512) (hz : cdSt σ x0 0 = 0) : Inv (c + 1) (clU σ (cl x0)) := by
  obtain ⟨r, hr, rfl, h15, e⟩ := cdSt_1 h.B.2.2.1 hz
  rw [e]
  have k18 := h.B.2.2.1
  have h17 := (h.B.2.2.2.1 r (by omega)).2.2.2.2.2.2.2.1
  have hout := clE_out h.W hr (fun j hj h41 => ⟨h.wi _ (by omega) h41, h.se r j hr hj h41⟩) (σ.1 17 r) (Nat.le_refl _)
  have hst := h.st
  obtain ⟨τ, ht⟩ : ∃ τ, τ = clE σ r (σ.1 17 r) := ⟨_, rfl⟩
  have e1 : τ.1 = σ.1 := by rw [ht]; exact clE_1 _
  have eR : ∀ k, k ≠ 22 → τ.2.1 k = σ.2.1 k := fun k hk => by rw [ht]; exact clE_R hk _
  have eD : τ.2.2 = σ.2.2 := by rw [ht]; exact clE_D _
  have hB : Bd τ := by rw [ht]; exact Bd_cl h.B (by omega) _ h17
  have hD : ID τ := by rw [ht]; exact ID_cl h.W h.D hr _ (Nat.le_refl _)
  rw [← ht] at hout
  have hU : clU σ r = uN τ 15 r 1 := by rw [ht]; rfl
  obtain ⟨a1, a2, a3, a4, a5, a6, a7, a8, a9, a10, a11, a12, a13, a14, a15, a16, a17, a18⟩ := Inv_s h
  have hA : InvA (c + 1) τ := by
    refine ⟨hB, by rw [e1]; exact a2, IW_of (fun s q _ => by rw [e1]) a3, hD, ?_, by rw [e1, eD]; exact a6, by rw [e1, eR 16 (by decide)]; exact a7, by rw [e1]; exact a8, by rw [e1]; exact a9, by rw [e1]; exact a10, ?_, ?_, by rw [e1]; exact a13, by rw [e1, eD]; exact a14, ?_, by rw [e1]; exact a17, by rw [e1]; exact a18⟩
    · intro k hk h41 hn
      rw [e1] at h41 ⊢
      rw [eR 23 (by decide)] at hn ⊢
      exact a5 k hk h41 hn
    · intro r' j' hr' hj' hn
      rw [e1] at hr' hn
      rw [eR 23 (by decide)]
      have h9 := a11 r' j' hr' hj' hn
      refine ⟨h9.1, ?_⟩
      rcases hout (12 * r' + j') with h8 | ⟨h8, -⟩
      · rw [h8]; exact h9.2
      · have : r' = r := by omega
        rw [this] at hn
        exact absurd (hst r j' hr hj' (by omega)).2.1 hn
    · intro r' j' hr' hj' hn
      rw [e1] at hr' hn
      rcases hout (12 * r' + j') with h8 | ⟨h8, -⟩
      · rw [h8]; exact a12 r' j' hr' hj' hn
      · have : r' = r := by omega
        rw [this] at hn
        exact absurd (hst r j' hr hj' (by omega)).2.2 hn
    · intro r' j' hr' hj'
      rw [e1] at hr' ⊢
      rcases hout (12 * r' + j') with h8 | ⟨h8, h9⟩
      · rw [h8]; exact a16 r' j' hr' hj'
      · have : r' = r := by omega
        rw [this] at h9 ⊢
        exact h9
  have hr1 : r < τ.1 18 0 := by rw [e1]; exact hr
  rw [hU]
  refine InvA_I (InvA_15 hA hr1 (by decide) (fun _ j hj => by rw [e1]; exact a18 r j hr hj (by omega))) (fun r' j hr' hj hs => ?_)
  have hr' : r' < τ.1 18 0 := hr'
  rw [e1] at hr'
  show τ.2.1 23 (12 * r' + j) = -1 ∧ τ.1 24 (12 * r' + j) = 0 ∧ τ.1 26 (12 * r' + j) = 0
  rw [eR 23 (by decide), e1]
  by_cases z : r' = r
  · rw [z]; exact hst r j hr hj (by omega)
  · have e15 : (uN τ 15 r 1).1 15 r' = τ.1 15 r' := if_neg (fun y => z y.2)
    rw [e15, e1] at hs
    exact a15 r' j hr' hj hs
