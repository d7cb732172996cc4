/-! each call keeps what holds between calls: the small ones -/
theorem IV_rider {c : Nat} {σ : ST} (h : Inv c σ) (h5 : c < 512) (hz : cdRd σ = 0) : Inv (c + 1) (rdU σ) := by
  have h7 : ¬ σ.1 7 0 = 12 := fun z => by unfold cdRd at hz; rw [if_pos z] at hz; cases hz
  obtain ⟨⟨a1, a2, a3⟩, b1⟩ := Inv_s h
  exact ⟨⟨a1, (show σ.1 7 0 + 1 ≤ 12 by omega), a3⟩, b1⟩
theorem IV_hide {c : Nat} {σ : ST} {x0 : Int32} (h : Inv c σ) (h5 : c < 512) (hz : cdHi x0 = 0) : Inv (c + 1) (uN σ 30 0 (cl x0)) := by
  have h7 : cl x0 ≤ 65536 := by
    unfold cdHi at hz
    by_cases z : inR x0 (nI 0) (nI 65536) = true
    · obtain ⟨j, h1, h2, rfl⟩ := inR_t (by decide) (by decide) z
      rw [cl_nI (Nat.lt_of_le_of_lt h2 (by decide))]
      exact h2
    · rw [if_neg z] at hz; cases hz
  obtain ⟨⟨a1, a2, a3, a4, a5, a6, a7, a8⟩, b1⟩ := Inv_s h
  exact ⟨⟨a1, a2, a3, a4, a5, a6, a7, h7⟩, b1⟩
theorem IV_beast {c : Nat} {σ : ST} {x0 : Int32} (h : Inv c σ) (h5 : c < 512) (hz : cdBe σ x0 = 0) : Inv (c + 1) (beU σ x0) := by
  obtain ⟨h1, h2⟩ := cdBe_1 hz
  obtain ⟨kd, -, hkd, rfl⟩ := inR_t (by decide) (by decide) h1
  obtain ⟨⟨b1, b2, b3, b4, b5, b6, b7, b8⟩, a2, a3, a4, a5, a6, a7⟩ := Inv_s h
  have hm : ∀ i, (beU σ (nI kd)).1 1 i = if i = σ.1 6 0 then kd else σ.1 1 i := fun i => by
    unfold beU
    rw [cl_nI (by omega)]
    simp [uN]
  refine ⟨⟨(show σ.1 6 0 + 1 ≤ 16 by omega), b2, b3, b4, b5, b6, fun b hb => ⟨?_, (b7 b hb).2⟩, b8⟩, a2, a3, a4, fun k hk h41 hn => ?_, fun b hb => a6 b (show σ.1 6 0 ≤ b from Nat.le_trans (Nat.le_succ _) hb), a7⟩
  · rw [hm]
    split
    · exact hkd
    · exact (b7 b hb).1
  · obtain ⟨b, hb, e⟩ := a5 k hk h41 hn
    exact ⟨b, Nat.lt_succ_of_lt hb, e⟩
