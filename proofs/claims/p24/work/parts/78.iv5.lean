/-! enter, rodeo keep it -/
theorem IV_enter {c : Nat} {σ : ST} {x0 y0 s0 w0 : Int32} (h : Inv c σ) (h5 : c < 512) (hz : cdEn σ x0 y0 s0 w0 = 0) : Inv (c + 1) (enU σ (cl x0) (cl y0) (cl s0) (cl w0)) := by
  obtain ⟨⟨i1, i2⟩, hmay, h15, hnE⟩ := cdEn_1 hz
  have k18 := h.B.2.2.1
  have k7 := h.B.2.1
  obtain ⟨r, hr, rfl⟩ := inN_t (n := σ.1 18 0) (x0 := x0) (by omega) i1
  obtain ⟨j, hj, rfl⟩ := inN_t (n := σ.1 7 0) (x0 := y0) (by omega) i2
  have b11 := (h.B.2.2.2.1 r (by omega)).2.2.1
  obtain ⟨-, m2, -, m4, m5⟩ := mayE_1 (x0 := nI r) (by rw [cl_nI (by omega)]; exact b11) hmay
  rw [cl_nI (n := r) (by omega)] at m2 h15 hnE ⊢
  rw [cl_nI (n := j) (by omega)] at hnE ⊢
  have p16 := p2_16 b11
  have hj12 : j < 12 := by omega
  have h12 := h.hlt r j hr hj hnE
  have h41 : ¬ σ.1 41 (12 * r + j) = 1 := fun z => by
    rw [(has_41 h.W hr hj12).mpr z] at hnE; cases hnE
  obtain ⟨s0, hs0⟩ : ∃ z, z = cl s0 := ⟨_, rfl⟩
  obtain ⟨w0, hw0⟩ : ∃ z, z = cl w0 := ⟨_, rfl⟩
  rw [← hs0] at m2 m5 ⊢
  rw [← hw0] at m4 m5 ⊢
  obtain ⟨k, hk⟩ : ∃ k, k = 12 * r + j := ⟨_, rfl⟩
  obtain ⟨n, hn⟩ : ∃ n, n = σ.1 17 r := ⟨_, rfl⟩
  rw [← hn] at h12
  rw [← hk] at h41
  obtain ⟨τ, ht⟩ : ∃ τ, τ = enU σ r j s0 w0 := ⟨_, rfl⟩
  rw [← ht]
  have tN : ∀ s i, ¬ s = 17 → ¬ s = 19 → ¬ s = 20 → ¬ s = 21 → ¬ s = 41 → τ.1 s i = σ.1 s i := fun s i h1 h2 h3 h4 h5 => by rw [ht]; simp [enU, uN, h1, h2, h3, h4, h5]
  have tR : τ.2 = σ.2 := by rw [ht]; rfl
  have t17 : ∀ i, τ.1 17 i = if i = r then n + 1 else σ.1 17 i := fun i => by rw [ht, hn]; simp [enU, uN]
  have t41 : ∀ i, τ.1 41 i = if i = k then 1 else σ.1 41 i := fun i => by rw [ht, hk]; simp [enU, uN]
  have t19 : ∀ i, τ.1 19 i = if i = 12 * r + n then j else σ.1 19 i := fun i => by rw [ht, hn]; simp [enU, uN]
  have t20 : ∀ i, τ.1 20 i = if i = k then s0 else σ.1 20 i := fun i => by rw [ht, hk]; simp [enU, uN]
  have t21 : ∀ i, τ.1 21 i = if i = k then w0 else σ.1 21 i := fun i => by rw [ht, hk]; simp [enU, uN]
  have t : ∀ s i, (¬ s = 17 ∧ ¬ s = 19 ∧ ¬ s = 20 ∧ ¬ s = 21 ∧ ¬ s = 41) → τ.1 s i = σ.1 s i := fun s i h => tN s i h.1 h.2.1 h.2.2.1 h.2.2.2.1 h.2.2.2.2
  have t18 : τ.1 18 0 = σ.1 18 0 := t 18 0 (by decide)
  obtain ⟨a1, a2, a3, a4, a5, a6, a7, a8, a9, a10, a11, a12, a13, a14, a15, a16, a17, a18⟩ := Inv_s h
  obtain ⟨b1, b2, b3, b4, b5, b6, b7, b8⟩ := a1
  have hwne : ∀ e, e < n → ¬ σ.1 19 (12 * r + e) = j := fun e he z => by
    have h9 := ((a3 r hr).1 e (by omega)).2
    unfold whS at h9
    rw [z, ← hk] at h9
    exact h41 h9
  refine ⟨⟨by rw [t 6 0 (by decide)]; exact b1, by rw [t 7 0 (by decide)]; exact b2, by rw [t18]; exact b3, fun r' hr' => ?_, fun k' hk' => ?_, by rw [tR]; exact b6, fun b' hb' => ?_, by rw [t 30 0 (by decide)]; exact b8⟩, ?_, ?_, ?_, ?_, ?_, ?_, ?_, ?_, ?_, ?_, ?_, ?_, ?_, ?_, ?_, ?_, ?_⟩
  · have h9 := b4 r' hr'
    rw [t 9 _ (by decide), t 10 _ (by decide), t 11 _ (by decide), t 12 _ (by decide), t 13 _ (by decide), t 14 _ (by decide), t 15 _ (by decide), t 8 _ (by decide), t17]
    refine ⟨h9.1, h9.2.1, h9.2.2.1, h9.2.2.2.1, h9.2.2.2.2.1, h9.2.2.2.2.2.1, h9.2.2.2.2.2.2.1, ?_, h9.2.2.2.2.2.2.2.2⟩
    split
    · omega
    · exact h9.2.2.2.2.2.2.2.1
  · have h9 := b5 k' hk'
    rw [t19, t20, t21, t 24 _ (by decide), t 25 _ (by decide), t 26 _ (by decide), t 27 _ (by decide), t 29 _ (by decide)]
    refine ⟨?_, ?_, ?_, h9.2.2.2⟩
    · split
      · exact hj12
      · exact h9.1
    · split
      · omega
      · exact h9.2.1
    · split
      · exact m4
      · exact h9.2.2.1
  · rw [t 1 _ (by decide), t 2 _ (by decide), t 3 _ (by decide), t 4 _ (by decide)]; exact b7 b' hb'
  · intro b; rw [t 2 _ (by decide), t 3 _ (by decide), t 4 _ (by decide)]; exact a2 b
  · intro r' hr'
    rw [t18] at hr'
    obtain ⟨c1, c2, c3⟩ := a3 r' hr'
    have h17 := (b4 r' (by omega)).2.2.2.2.2.2.2.1
    by_cases z : r' = r
    · subst z
      rw [← hn] at c1 c2 c3
      have ew : ∀ e, whS τ r' e = if e = n then j else whS σ r' e := fun e => by
        show τ.1 19 (12 * r' + e) = _
        rw [t19]
        by_cases y : e = n
        · rw [if_pos y, if_pos (by rw [y])]
        · rw [if_neg y, if_neg (by omega)]; rfl
      rw [t17, if_pos rfl]
      refine ⟨fun e he => ?_, fun e e' he he' hee => ?_, fun j' hj' h9 => ?_⟩
      · rw [ew]
        by_cases y : e = n
        · rw [if_pos y]; exact ⟨hj12, by rw [t41, if_pos hk.symm]⟩
        · rw [if_neg y]
          have := c1 e (by omega)
          refine ⟨this.1, ?_⟩
          rw [t41]; split
          · rfl
          · exact this.2
      · rw [ew, ew] at hee
        by_cases y : e = n
        · by_cases y' : e' = n
          · omega
          · rw [if_pos y, if_neg y'] at hee
            exact absurd hee.symm (hwne e' (by omega))
        · by_cases y' : e' = n
          · rw [if_neg y, if_pos y'] at hee
            exact absurd hee (hwne e (by omega))
          · rw [if_neg y, if_neg y'] at hee
            exact c2 e e' (by omega) (by omega) hee
      · by_cases y : j' = j
        · exact ⟨n, by omega, by rw [ew, if_pos rfl, y]⟩
        · rw [t41, if_neg (by omega)] at h9
          obtain ⟨e, he, h8⟩ := c3 j' hj' h9
          exact ⟨e, by omega, by rw [ew, if_neg (by omega)]; exact h8⟩
    · have ew : ∀ e, e < σ.1 17 r' → whS τ r' e = whS σ r' e := fun e he => by
        show τ.1 19 (12 * r' + e) = σ.1 19 (12 * r' + e)
        rw [t19, if_neg (by omega)]
      rw [t17, if_neg z]
      refine ⟨fun e he => ?_, fun e e' he he' hee => ?_, fun j' hj' h9 => ?_⟩
      · have := c1 e he
        rw [ew e he, t41, if_neg (by omega)]
        exact this
      · rw [ew e he, ew e' he'] at hee
        exact c2 e e' he he' hee
      · rw [t41, if_neg (by omega)] at h9
        obtain ⟨e, he, h8⟩ := c3 j' hj' h9
        exact ⟨e, he, by rw [ew e he]; exact h8⟩
  · intro r' j' hr' hj' hn'
    rw [t18] at hr'
    rw [t41] at hn'
    rw [tR, t 24 _ (by decide), t 25 _ (by decide), t 26 _ (by decide), t 27 _ (by decide), t 29 _ (by decide)]
    by_cases z : 12 * r' + j' = k
    · rw [if_pos z] at hn'; exact absurd rfl hn'
    · rw [if_neg z] at hn'; exact a4 r' j' hr' hj' hn'
  · intro k' hk' h9 hn'
    rw [t41] at h9
    rw [tR] at hn' ⊢
    rw [t 6 0 (by decide)]
    by_cases z : k' = k
    · rw [z, hk] at hn'
      rw [hk] at h41
      exact absurd (a4 r j hr hj12 h41).1.2.1 hn'
    · rw [if_neg z] at h9
      exact a5 k' hk' h9 hn'
  · intro b hb
    rw [t 6 0 (by decide)] at hb
    rw [t 2 _ (by decide), t 3 _ (by decide), t 4 _ (by decide), t 42 _ (by decide), tR]
    exact a6 b hb
  · refine ⟨fun k' hk' h9 => ?_, fun r' hr' => ?_⟩
    · rw [t41] at h9
      rw [t18]
      by_cases z : k' = k
      · omega
      · rw [if_neg z] at h9; exact a7.1 k' hk' h9
    · rw [t18] at hr'
      rw [t 15 _ (by decide), t17, if_neg (by omega), tR]
      exact a7.2 r' hr'
  · intro k' hk'
    rw [t18] at hk'
    rw [t 24 _ (by decide), t 25 _ (by decide), t 26 _ (by decide), t 27 _ (by decide), t 29 _ (by decide), t41, if_neg (by omega)]
    exact a8 k' hk'
  · intro r' hr'; rw [t18] at hr'; rw [t 11 _ (by decide)]; exact a9 r' hr'
  · intro k' hk' h9
    rw [t41] at h9
    rw [t20, t21]
    by_cases z : k' = k
    · rw [if_pos z, if_pos z]; exact m5
    · rw [if_neg z] at h9; rw [if_neg z, if_neg z]; exact a10 k' hk' h9
  · intro r' j' hr' hj' hn'; rw [t18] at hr'; rw [t 24 _ (by decide)] at hn'; rw [tR]; exact a11 r' j' hr' hj' hn'
  · intro r' j' hr' hj' hn'; rw [t18] at hr'; rw [t 26 _ (by decide)] at hn'; rw [tR]; exact a12 r' j' hr' hj' hn'
  · intro q; rw [t 31 _ (by decide)]; exact a13 q
  · intro b; rw [tR, t 42 _ (by decide)]; exact a14 b
  · intro r' j' hr' hj' hs; rw [t18] at hr'; rw [t 15 _ (by decide)] at hs; rw [tR, t 24 _ (by decide), t 26 _ (by decide)]; exact a15 r' j' hr' hj' hs
  · intro r' j' hr' hj'; rw [t18] at hr'; rw [tR, t 11 _ (by decide)]; exact a16 r' j' hr' hj'
  · intro r' j' hr' hj' h9
    rw [t18] at hr'
    rw [t41] at h9
    rw [t20, t 11 _ (by decide)]
    by_cases z : 12 * r' + j' = k
    · rw [if_pos z]
      have : r' = r := by omega
      rw [this]; exact m2.2
    · rw [if_neg z] at h9; rw [if_neg z]; exact a17 r' j' hr' hj' h9
  · intro r' j' hr' hj' h9; rw [t18] at hr'; rw [t 15 _ (by decide)] at h9; rw [t 29 _ (by decide)]; exact a18 r' j' hr' hj' h9
theorem roB_v {σ : ST} {q : Nat} : ∀ j s k, (s = 22 ∨ s = 23 ∨ s = 28) → (roB σ q j).2.1 s k = if 12 * q ≤ k ∧ k < 12 * q + j then -1 else σ.2.1 s k
  | 0, s, k, _ => (if_neg (by omega)).symm
  | j + 1, s, k, hs => by
    have ih := roB_v (σ := σ) (q := q) j s k hs
    by_cases z : k = 12 * q + j
    · rw [if_pos (by omega)]
      subst z
      simp only [roB, uR]
      rcases hs with rfl | rfl | rfl <;> simp
    · have e : (roB σ q (j + 1)).2.1 s k = (roB σ q j).2.1 s k := by
        simp only [roB, uR]
        rw [if_neg (fun y => z y.2), if_neg (fun y => z y.2), if_neg (fun y => z y.2)]
      rw [e, ih]
      by_cases y : 12 * q ≤ k ∧ k < 12 * q + j
      · rw [if_pos y, if_pos (by omega)]
      · rw [if_neg y, if_neg (by omega)]
theorem roU_v {σ : ST} {a0 a1 a2 a3 a4 a5 a6 : Int32} : ∀ s k, (s = 22 ∨ s = 23 ∨ s = 28) → (roU σ a0 a1 a2 a3 a4 a5 a6).2.1 s k = if 12 * σ.1 18 0 ≤ k ∧ k < 12 * σ.1 18 0 + 12 then -1 else σ.2.1 s k := fun s k hs => roB_v (σ := roA σ (σ.1 18 0) a0 a1 a2 a3 a4 a5 a6) 12 s k hs
theorem IV_rodeo {c : Nat} {σ : ST} {a0 a1 a2 a3 a4 a5 a6 : Int32} (h : Inv c σ) (h5 : c < 512) (hz : cdRo σ a0 a1 a2 a3 a4 a5 a6 = 0) : Inv (c + 1) (roU σ a0 a1 a2 a3 a4 a5 a6) := by
  obtain ⟨hok, h8⟩ := cdRo_1 hz
  obtain ⟨o0, o1, o2, o3, o4, o5, o6⟩ := okRo_1 hok
  obtain ⟨v8, -, hv8, rfl⟩ := inR_t (by decide) (by decide) o0
  obtain ⟨v9, -, hv9, rfl⟩ := inR_t (by decide) (by decide) o1
  obtain ⟨v10, -, hv10, rfl⟩ := inR_t (by decide) (by decide) o2
  obtain ⟨v11, hu11, hv11, rfl⟩ := inR_t (by decide) (by decide) o3
  obtain ⟨v12, -, hv12, rfl⟩ := inR_t (by decide) (by decide) o4
  obtain ⟨v13, -, hv13, rfl⟩ := inR_t (by decide) (by decide) o5
  obtain ⟨v14, -, hv14, rfl⟩ := inR_t (by decide) (by decide) o6
  have k18 := h.B.2.2.1
  have hb := roU_B (σ := σ) (b8 := v8) (b9 := v9) (b10 := v10) (b11 := v11) (b12 := v12) (b13 := v13) (b14 := v14) (by omega) (by omega) (by omega) (by omega) (by omega) (by omega) (by omega)
  obtain ⟨τ, ht⟩ : ∃ τ, τ = roU σ (nI v8) (nI v9) (nI v10) (nI v11) (nI v12) (nI v13) (nI v14) := ⟨_, rfl⟩
  rw [← ht] at hb ⊢
  obtain ⟨n, hn⟩ : ∃ n, n = σ.1 18 0 := ⟨_, rfl⟩
  have t18 : τ.1 18 0 = n + 1 := by rw [ht, hn]; exact roU_18
  have tN : ∀ s i, (¬ s = 18 ∧ ¬ (8 ≤ s ∧ s ≤ 14)) → τ.1 s i = σ.1 s i := fun s i hs => by rw [ht]; exact roU_N s i hs.1 hs.2
  have tM : ∀ s i, ¬ s = 18 → ¬ i = n → τ.1 s i = σ.1 s i := fun s i hs hi => by rw [ht]; exact roU_M s i hs (by rw [← hn]; exact hi)
  have t16 : τ.2.1 16 = σ.2.1 16 := by rw [ht]; exact roU_16
  have tv : ∀ s k, (s = 22 ∨ s = 23 ∨ s = 28) → τ.2.1 s k = if 12 * n ≤ k ∧ k < 12 * n + 12 then -1 else σ.2.1 s k := fun s k hs => by rw [ht, hn]; exact roU_v s k hs
  have tD : τ.2.2 = σ.2.2 := by rw [ht]; exact roU_D
  obtain ⟨a1, a2, a3, a4, a5, a6, a7, a8, a9, a10, a11, a12, a13, a14, a15, a16, a17, a18⟩ := Inv_s h
  obtain ⟨b1, b2, b3, b4, b5, b6, b7, b8⟩ := a1
  rw [← hn] at h8 k18 hb a7 a8
  have z15 := (a7.2 n (Nat.le_refl _)).1
  have z17 := (a7.2 n (Nat.le_refl _)).2.1
  have b8' : τ.1 8 n = v8 := hb 8 (by omega) (by omega)
  have b9' : τ.1 9 n = v9 := hb 9 (by omega) (by omega)
  have b10' : τ.1 10 n = v10 := hb 10 (by omega) (by omega)
  have b11' : τ.1 11 n = v11 := hb 11 (by omega) (by omega)
  have b12' : τ.1 12 n = v12 := hb 12 (by omega) (by omega)
  have b13' : τ.1 13 n = v13 := hb 13 (by omega) (by omega)
  have b14' : τ.1 14 n = v14 := hb 14 (by omega) (by omega)
  have z8 : ∀ j, σ.1 24 (12 * n + j) = 0 ∧ σ.1 25 (12 * n + j) = 0 ∧ σ.1 26 (12 * n + j) = 0 ∧ σ.1 27 (12 * n + j) = 0 ∧ σ.1 29 (12 * n + j) = 0 ∧ ¬ σ.1 41 (12 * n + j) = 1 := fun j => a8 (12 * n + j) (by omega)
  refine ⟨⟨by rw [tN 6 0 (by omega)]; exact b1, by rw [tN 7 0 (by omega)]; exact b2, by rw [t18]; omega, fun r' hr' => ?_, fun k' hk' => ?_, fun k' hk' => ?_, fun b' hb' => ?_, by rw [tN 30 0 (by omega)]; exact b8⟩, ?_, ?_, ?_, ?_, ?_, ?_, ?_, ?_, ?_, ?_, ?_, ?_, ?_, ?_, ?_, ?_, ?_⟩
  · by_cases z : r' = n
    · subst z
      rw [b8', b9', b10', b11', b12', b13', b14', tN 15 _ (by omega), tN 17 _ (by omega), z15, z17]
      exact ⟨hv9, hv10, hv11, hv12, hv13, hv14, by omega, by omega, hv8⟩
    · rw [tM 9 _ (by decide) z, tM 10 _ (by decide) z, tM 11 _ (by decide) z, tM 12 _ (by decide) z, tM 13 _ (by decide) z, tM 14 _ (by decide) z, tM 15 _ (by decide) z, tM 17 _ (by decide) z, tM 8 _ (by decide) z]
      exact b4 r' hr'
  · rw [tN 19 _ (by omega), tN 20 _ (by omega), tN 21 _ (by omega), tN 24 _ (by omega), tN 25 _ (by omega), tN 26 _ (by omega), tN 27 _ (by omega), tN 29 _ (by omega)]
    exact b5 k' hk'
  · have h9 := b6 k' hk'
    rw [tv 22 k' (by omega), tv 23 k' (by omega), tv 28 k' (by omega)]
    by_cases z : 12 * n ≤ k' ∧ k' < 12 * n + 12
    · rw [if_pos z, if_pos z, if_pos z]; exact ⟨Or.inl rfl, Or.inl rfl, Or.inl rfl⟩
    · rw [if_neg z, if_neg z, if_neg z]; exact h9
  · rw [tN 1 _ (by omega), tN 2 _ (by omega), tN 3 _ (by omega), tN 4 _ (by omega)]; exact b7 b' hb'
  · intro b; rw [tN 2 _ (by omega), tN 3 _ (by omega), tN 4 _ (by omega)]; exact a2 b
  · intro r' hr'
    rw [t18] at hr'
    have ew : ∀ e, whS τ r' e = whS σ r' e := fun e => tN 19 _ (by omega)
    rw [tN 17 _ (by omega)]
    by_cases z : r' = n
    · subst z
      rw [z17]
      refine ⟨fun e he => absurd he (Nat.not_lt_zero _), fun e e' he => absurd he (Nat.not_lt_zero _), fun j hj h9 => ?_⟩
      rw [tN 41 _ (by omega)] at h9
      exact absurd h9 (z8 j).2.2.2.2.2
    · obtain ⟨c1, c2, c3⟩ := a3 r' (by omega)
      refine ⟨fun e he => ?_, fun e e' he he' hee => ?_, fun j hj h9 => ?_⟩
      · rw [ew, tN 41 _ (by omega)]; exact c1 e he
      · rw [ew, ew] at hee; exact c2 e e' he he' hee
      · rw [tN 41 _ (by omega)] at h9
        obtain ⟨e, he, h7⟩ := c3 j hj h9
        exact ⟨e, he, by rw [ew]; exact h7⟩
  · intro r' j' hr' hj' hn'
    rw [t18] at hr'
    rw [tN 41 _ (by omega)] at hn'
    rw [tv 22 _ (by omega), tv 23 _ (by omega), tv 28 _ (by omega), tN 24 _ (by omega), tN 25 _ (by omega), tN 26 _ (by omega), tN 27 _ (by omega), tN 29 _ (by omega)]
    by_cases z : r' = n
    · subst z
      rw [if_pos (by omega), if_pos (by omega), if_pos (by omega)]
      have := z8 j'
      exact ⟨⟨rfl, rfl, rfl⟩, this.1, this.2.1, this.2.2.1, this.2.2.2.1, this.2.2.2.2.1⟩
    · rw [if_neg (by omega), if_neg (by omega), if_neg (by omega)]
      exact a4 r' j' (by omega) hj' hn'
  · intro k' hk' h9 hn'
    rw [tN 41 _ (by omega)] at h9
    have hlt := a7.1 k' hk' h9
    rw [tv 23 _ (by omega), if_neg (by omega)] at hn' ⊢
    rw [tN 6 0 (by omega)]
    exact a5 k' hk' h9 hn'
  · intro b hb'
    rw [tN 6 0 (by omega)] at hb'
    rw [tN 2 _ (by omega), tN 3 _ (by omega), tN 4 _ (by omega), tN 42 _ (by omega), tD]
    exact a6 b hb'
  · refine ⟨fun k' hk' h9 => ?_, fun r' hr' => ?_⟩
    · rw [tN 41 _ (by omega)] at h9
      have := a7.1 k' hk' h9
      rw [t18]; omega
    · rw [t18] at hr'
      rw [tN 15 _ (by omega), tN 17 _ (by omega), t16]
      exact a7.2 r' (by omega)
  · intro k' hk'
    rw [t18] at hk'
    rw [tN 24 _ (by omega), tN 25 _ (by omega), tN 26 _ (by omega), tN 27 _ (by omega), tN 29 _ (by omega), tN 41 _ (by omega)]
    exact a8 k' (by omega)
  · intro r' hr'
    rw [t18] at hr'
    by_cases z : r' = n
    · rw [z, b11']; exact hu11
    · rw [tM 11 _ (by decide) z]; exact a9 r' (by omega)
  · intro k' hk' h9
    rw [tN 41 _ (by omega)] at h9
    rw [tN 20 _ (by omega), tN 21 _ (by omega)]
    exact a10 k' hk' h9
  · intro r' j' hr' hj' hn'
    rw [t18] at hr'
    rw [tN 24 _ (by omega)] at hn'
    by_cases z : r' = n
    · rw [z] at hn'; exact absurd (z8 j').1 hn'
    · rw [tv 22 _ (by omega), tv 23 _ (by omega), if_neg (by omega), if_neg (by omega)]
      exact a11 r' j' (by omega) hj' hn'
  · intro r' j' hr' hj' hn'
    rw [t18] at hr'
    rw [tN 26 _ (by omega)] at hn'
    by_cases z : r' = n
    · rw [z] at hn'; exact absurd (z8 j').2.2.1 hn'
    · rw [tv 22 _ (by omega), if_neg (by omega)]
      exact a12 r' j' (by omega) hj' hn'
  · intro q; rw [tN 31 _ (by omega)]; exact a13 q
  · intro b; rw [tD, tN 42 _ (by omega)]; exact a14 b
  · intro r' j' hr' hj' hs
    rw [t18] at hr'
    rw [tN 15 _ (by omega)] at hs
    rw [tv 23 _ (by omega), tN 24 _ (by omega), tN 26 _ (by omega)]
    by_cases z : r' = n
    · rw [z, if_pos (by omega)]; exact ⟨rfl, (z8 j').1, (z8 j').2.2.1⟩
    · rw [if_neg (by omega)]; exact a15 r' j' (by omega) hj' hs
  · intro r' j' hr' hj'
    rw [t18] at hr'
    rw [tv 22 _ (by omega)]
    by_cases z : r' = n
    · rw [z, if_pos (by omega)]; exact Or.inl rfl
    · rw [if_neg (by omega), tM 11 _ (by decide) z]; exact a16 r' j' (by omega) hj'
  · intro r' j' hr' hj' h9
    rw [t18] at hr'
    rw [tN 41 _ (by omega)] at h9
    by_cases z : r' = n
    · rw [z] at h9; exact absurd h9 (z8 j').2.2.2.2.2
    · rw [tN 20 _ (by omega), tM 11 _ (by decide) z]; exact a17 r' j' (by omega) hj' h9
  · intro r' j' hr' hj' h9
    rw [t18] at hr'
    rw [tN 15 _ (by omega)] at h9
    rw [tN 29 _ (by omega)]
    by_cases z : r' = n
    · rw [z]; exact (z8 j').2.2.2.2.1
    · exact a18 r' j' (by omega) hj' h9
