/-! draw, answer, ride keep it -/
theorem InvA_drE {c : Nat} {σ : ST} {r p : Nat} (h : InvA c σ) (hr : r < σ.1 18 0) (hp : p < 4) : ∀ e, e ≤ σ.1 17 r → InvA c (drE σ r p e)
  | 0, _ => h
  | e + 1, he => by
    have ih := InvA_drE h hr hp e (by omega)
    have hw := (h.2.2.1 r hr).1 e (by omega)
    unfold whS at hw
    by_cases z : σ.2.1 22 (12 * r + σ.1 19 (12 * r + e)) = nI p
    · rw [drE_t z]
      refine InvA_drw ih (by rw [drE_N (by decide)]; exact hr) hw.1 (by rw [drE_N (by decide)]; exact hw.2) ?_
      rw [drE_R (by decide), z]
      exact nI_m1 (by omega)
    · rw [drE_f z]; exact ih
theorem InvA_drP {c : Nat} {σ : ST} {r : Nat} (h : InvA c σ) (hr : r < σ.1 18 0) : ∀ p, p ≤ 4 → InvA c (drP σ r p)
  | 0, _ => h
  | p + 1, hp => by
    have ih := InvA_drP h hr p (by omega)
    have e17 : (drP σ r p).1 17 = σ.1 17 := drP_N (by decide) p
    show InvA c (drE (drP σ r p) r p (σ.1 17 r))
    exact InvA_drE ih (by rw [drP_N (by decide)]; exact hr) (by omega) _ (by rw [e17]; exact Nat.le_refl _)
theorem drw_out {σ : ST} {r j k : Nat} (h6 : σ.1 6 0 ≤ 16) (hd : dayS σ r j < 64) (h : ¬ k = 12 * r + j) : (drwU σ r j).1 24 k = σ.1 24 k ∧ (drwU σ r j).2.1 23 k = σ.2.1 23 k := by
  obtain ⟨v24, v23, f24, f23, -⟩ := drw_facts h6 hd
  exact ⟨by rw [f24, if_neg h], by rw [f23, if_neg h]⟩
theorem day_lt {σ : ST} {r j : Nat} (hB : Bd σ) (hr : r < σ.1 18 0) (hj : j < 12) (hp : ¬ σ.2.1 22 (12 * r + j) = -1) : dayS σ r j < 64 := by
  obtain ⟨h6, h7, h18, hr8, hk96, hp96, hb16, hh⟩ := hB
  have b2 := pl_cl (by decide) (hp96 (12 * r + j) (by omega)).1 hp
  have b3 := hr8 r (by omega)
  unfold dayS
  omega
theorem drE_out {c : Nat} {σ : ST} {r p k : Nat} (h : InvA c σ) (hr : r < σ.1 18 0) (hp : p < 4) (hk : k < 12 * r ∨ 12 * r + 12 ≤ k) : ∀ e, e ≤ σ.1 17 r → (drE σ r p e).1 24 k = σ.1 24 k ∧ (drE σ r p e).2.1 23 k = σ.2.1 23 k
  | 0, _ => ⟨rfl, rfl⟩
  | e + 1, he => by
    have ih := drE_out h hr hp hk e (by omega)
    have hA := InvA_drE h hr hp e (by omega)
    have hw := (h.2.2.1 r hr).1 e (by omega)
    unfold whS at hw
    by_cases z : σ.2.1 22 (12 * r + σ.1 19 (12 * r + e)) = nI p
    · rw [drE_t z]
      have hd := day_lt (σ := drE σ r p e) (r := r) (j := σ.1 19 (12 * r + e)) hA.1 (by rw [drE_N (by decide)]; exact hr) hw.1 (by rw [drE_R (by decide), z]; exact nI_m1 (by omega))
      have ho := drw_out (k := k) hA.1.1 hd (by omega)
      rw [ho.1, ho.2]
      exact ih
    · rw [drE_f z]; exact ih
theorem drP_out {c : Nat} {σ : ST} {r k : Nat} (h : InvA c σ) (hr : r < σ.1 18 0) (hk : k < 12 * r ∨ 12 * r + 12 ≤ k) : ∀ p, p ≤ 4 → (drP σ r p).1 24 k = σ.1 24 k ∧ (drP σ r p).2.1 23 k = σ.2.1 23 k
  | 0, _ => ⟨rfl, rfl⟩
  | p + 1, hp => by
    have ih := drP_out h hr hk p (by omega)
    have hA := InvA_drP h hr p (by omega)
    have e17 : (drP σ r p).1 17 = σ.1 17 := drP_N (by decide) p
    have := drE_out (p := p) hA (by rw [drP_N (by decide)]; exact hr) (by omega) hk (σ.1 17 r) (by rw [e17]; exact Nat.le_refl _)
    show (drE (drP σ r p) r p (σ.1 17 r)).1 24 k = _ ∧ (drE (drP σ r p) r p (σ.1 17 r)).2.1 23 k = _
    rw [this.1, this.2]
    exact ih
/-- a rodeo's state set -/
theorem InvA_15 {c : Nat} {σ : ST} {r v : Nat} (h : InvA c σ) (hr : r < σ.1 18 0) (hv : v ≤ 3) (hm : ¬ v = 3 → ∀ j, j < 12 → σ.1 29 (12 * r + j) = 0) : InvA c (uN σ 15 r v) := by
  obtain ⟨a1, a2, a3, a4, a5, a6, a7, a8, a9, a10, a11, a12, a13, a14, a16, a17, a18⟩ := h
  have e15 : ∀ i, (uN σ 15 r v).1 15 i = if i = r then v else σ.1 15 i := fun i => by simp [uN]
  refine ⟨Bd_st a1 hv, a2, a3, a4, a5, a6, ⟨a7.1, fun r' hr' => ?_⟩, a8, a9, a10, a11, a12, a13, a14, a16, a17, fun r' j hr' hj hn => ?_⟩
  · have hr' : σ.1 18 0 ≤ r' := hr'
    rw [e15, if_neg (by omega)]
    exact a7.2 r' hr'
  · rw [e15] at hn
    by_cases z : r' = r
    · rw [if_pos z] at hn
      rw [z]
      exact hm hn j hj
    · rw [if_neg z] at hn
      exact a18 r' j hr' hj hn
theorem cdSt_1 {σ : ST} {x0 : Int32} {v : Nat} (h18 : σ.1 18 0 ≤ 8) (hz : cdSt σ x0 v = 0) : ∃ r, r < σ.1 18 0 ∧ x0 = nI r ∧ σ.1 15 r = v ∧ cl x0 = r := by
  unfold cdSt at hz
  by_cases z : inN x0 (σ.1 18 0) = false
  · rw [if_pos z] at hz; cases hz
  · rw [if_neg z] at hz
    obtain ⟨r, hr, rfl⟩ := inN_t (n := σ.1 18 0) (x0 := x0) (by omega) (by simpa using z)
    rw [cl_nI (by omega)] at hz
    by_cases z2 : σ.1 15 r = v
    · exact ⟨r, hr, rfl, z2, cl_nI (by omega)⟩
    · rw [if_pos z2] at hz; cases hz
theorem IV_draw {c : Nat} {σ : ST} {x0 : Int32} (h : Inv c σ) (h5 : c < 512) (hz : cdSt σ x0 1 = 0) : Inv (c + 1) (drnU σ (cl x0)) := by
  obtain ⟨r, hr, rfl, h15, e⟩ := cdSt_1 h.B.2.2.1 hz
  rw [e]
  have hA := Inv_A (Inv_s h)
  have hP := InvA_drP hA hr (σ.1 11 r) (h.B.2.2.2.1 r (by have := h.B.2.2.1; omega)).2.2.1
  have eN : ∀ k, k ≠ 24 ∧ k ≠ 30 ∧ k ≠ 42 → (drP σ r (σ.1 11 r)).1 k = σ.1 k := fun k hk => drP_N hk _
  have h2 : InvA (c + 1) (drnU σ r) := InvA_15 hP (by rw [eN 18 (by decide)]; exact hr) (by decide) (fun _ j hj => by
    rw [eN 29 (by decide)]
    exact h.mo r j hr hj (by omega))
  refine InvA_I h2 (fun r' j hr' hj hs => ?_)
  have e15 : (drnU σ r).1 15 r' = if r' = r then 2 else σ.1 15 r' := by
    show (if 15 = 15 ∧ r' = r then 2 else (drP σ r (σ.1 11 r)).1 15 r') = _
    rw [eN 15 (by decide)]
    simp
  have hr' : r' < σ.1 18 0 := by
    have : (drnU σ r).1 18 0 = σ.1 18 0 := by
      show (drP σ r (σ.1 11 r)).1 18 0 = _
      rw [eN 18 (by decide)]
    rw [this] at hr'; exact hr'
  rw [e15] at hs
  by_cases z : r' = r
  · rw [if_pos z] at hs; omega
  · rw [if_neg z] at hs
    have ho := drP_out (k := 12 * r' + j) hA hr (by omega) (σ.1 11 r) (h.B.2.2.2.1 r (by have := h.B.2.2.1; omega)).2.2.1
    show (drP σ r (σ.1 11 r)).2.1 23 (12 * r' + j) = -1 ∧ (drP σ r (σ.1 11 r)).1 24 (12 * r' + j) = 0 ∧ (drP σ r (σ.1 11 r)).1 26 (12 * r' + j) = 0
    rw [ho.1, ho.2, eN 26 (by decide)]
    exact h.st r' j hr' hj hs
theorem cdAn_2 {σ : ST} {x0 y0 : Int32} (h18 : σ.1 18 0 ≤ 8) (h7 : σ.1 7 0 ≤ 12) (hz : cdAn σ x0 y0 = 0) : ∃ r j, r < σ.1 18 0 ∧ j < 12 ∧ cl x0 = r ∧ cl y0 = j ∧ ¬ σ.1 26 (12 * r + j) = 0 := by
  have h1 := cdAn_1 hz
  unfold cdAn at hz
  by_cases z : (inN x0 (σ.1 18 0) && inN y0 (σ.1 7 0)) = false
  · rw [if_pos z] at hz; cases hz
  · have z2 := Bool.and_eq_true_iff.mp (by simpa using z : (inN x0 (σ.1 18 0) && inN y0 (σ.1 7 0)) = true)
    obtain ⟨r, hr, rfl⟩ := inN_t (by omega) z2.1
    obtain ⟨j, hj, rfl⟩ := inN_t (by omega) z2.2
    rw [cl_nI (by omega), cl_nI (by omega)] at h1
    exact ⟨r, j, hr, by omega, cl_nI (by omega), cl_nI (by omega), h1⟩
theorem IV_answer {c : Nat} {σ : ST} {x0 y0 : Int32} {f : Bool} (h : Inv c σ) (h5 : c < 512) (hz : cdAn σ x0 y0 = 0) : Inv (c + 1) (ansU σ (cl x0) (cl y0) f) := by
  obtain ⟨r, j, hr, hj, e1, e2, hn⟩ := cdAn_2 h.B.2.2.1 h.B.2.1 hz
  rw [e1, e2]
  have h41 : σ.1 41 (12 * r + j) = 1 := by
    by_cases z : σ.1 41 (12 * r + j) = 1
    · exact z
    · exact absurd (h.D r j hr hj z).2.2.2.1 hn
  have h15 : ¬ σ.1 15 r ≤ 1 := fun z => hn (h.st r j hr hj z).2.2
  have hp := h.pl r j hr hj hn
  obtain ⟨a1, a2, a3, a4, a5, a6, a7, a8, a9, a10, a11, a12, a13, a14, a15, a16, a17, a18⟩ := Inv_s h
  have k18 := a1.2.2.1
  cases f with
  | false =>
    have hU : ansU σ r j false = uN σ 26 (12 * r + j) 0 := rfl
    rw [hU]
    have e26 : ∀ i, (uN σ 26 (12 * r + j) 0).1 26 i = if i = 12 * r + j then 0 else σ.1 26 i := fun i => by simp [uN]
    refine ⟨Bd_26 a1, a2, a3, fun r' j' hr' hj' hn' => ?_, a5, a6, a7, fun k hk => ?_, a9, a10, a11, fun r' j' hr' hj' hn' => ?_, a13, a14, fun r' j' hr' hj' hs => ?_, a16, a17, a18⟩
    · have := a4 r' j' hr' hj' hn'
      refine ⟨this.1, this.2.1, this.2.2.1, ?_, this.2.2.2.2⟩
      rw [e26]; split
      · rfl
      · exact this.2.2.2.1
    · have := a8 k hk
      refine ⟨this.1, this.2.1, ?_, this.2.2.2⟩
      rw [e26]; split
      · rfl
      · exact this.2.2.1
    · rw [e26] at hn'
      by_cases z : 12 * r' + j' = 12 * r + j
      · rw [if_pos z] at hn'; exact absurd rfl hn'
      · rw [if_neg z] at hn'; exact a12 r' j' hr' hj' hn'
    · have := a15 r' j' hr' hj' hs
      refine ⟨this.1, this.2.1, ?_⟩
      rw [e26]; split
      · rfl
      · exact this.2.2
  | true =>
    obtain ⟨τ, ht⟩ : ∃ τ, τ = uN (uN (uR (uN σ 26 (12 * r + j) 0) 28 (12 * r + j) (-1)) 27 (12 * r + j) 0) 25 (12 * r + j) 1 := ⟨_, rfl⟩
    have hU : ansU σ r j true = drwU τ r j := by rw [ht]; rfl
    rw [hU]
    have tN : ∀ s i, ¬ s = 25 → ¬ s = 26 → ¬ s = 27 → τ.1 s i = σ.1 s i := fun s i h1 h2 h3 => by rw [ht]; simp [uN, uR, h1, h2, h3]
    have tO : ∀ s i, ¬ i = 12 * r + j → τ.1 s i = σ.1 s i ∧ τ.2.1 s i = σ.2.1 s i := fun s i h1 => by rw [ht]; simp [uN, uR, h1]
    have tR : ∀ s i, ¬ s = 28 → τ.2.1 s i = σ.2.1 s i := fun s i h1 => by rw [ht]; simp [uN, uR, h1]
    have tD : τ.2.2 = σ.2.2 := by rw [ht]; rfl
    have t26 : τ.1 26 (12 * r + j) = 0 := by rw [ht]; simp [uN, uR]
    have hB : Bd τ := by rw [ht]; exact Bd_ans a1
    have hA : InvA (c + 1) τ := by
      refine ⟨hB, ?_, IW_of (fun s q hs => tN s q (by omega) (by omega) (by omega)) a3, fun r' j' hr' hj' hn' => ?_, ?_, ?_, ?_, fun k hk => ?_, ?_, ?_, fun r' j' hr' hj' hn' => ?_, fun r' j' hr' hj' hn' => ?_, ?_, ?_, ?_, ?_, ?_⟩
      · intro b; rw [tN 2 b (by decide) (by decide) (by decide), tN 3 b (by decide) (by decide) (by decide), tN 4 b (by decide) (by decide) (by decide)]; exact a2 b
      · rw [tN 18 0 (by decide) (by decide) (by decide)] at hr'
        rw [tN 41 _ (by decide) (by decide) (by decide)] at hn'
        have hne : ¬ 12 * r' + j' = 12 * r + j := fun z => hn' (by rw [z]; exact h41)
        rw [(tO 22 _ hne).2, (tO 23 _ hne).2, (tO 28 _ hne).2, (tO 24 _ hne).1, (tO 25 _ hne).1, (tO 26 _ hne).1, (tO 27 _ hne).1, (tO 29 _ hne).1]
        exact a4 r' j' hr' hj' hn'
      · intro k hk h41' hn'
        rw [tN 41 k (by decide) (by decide) (by decide)] at h41'
        rw [tR 23 k (by decide)] at hn' ⊢
        rw [tN 6 0 (by decide) (by decide) (by decide)]
        exact a5 k hk h41' hn'
      · intro b hb
        rw [tN 6 0 (by decide) (by decide) (by decide)] at hb
        rw [tN 2 b (by decide) (by decide) (by decide), tN 3 b (by decide) (by decide) (by decide), tN 4 b (by decide) (by decide) (by decide), tN 42 b (by decide) (by decide) (by decide), tD]
        exact a6 b hb
      · refine ⟨fun k hk h9 => ?_, fun r' hr' => ?_⟩
        · rw [tN 41 k (by decide) (by decide) (by decide)] at h9
          rw [tN 18 0 (by decide) (by decide) (by decide)]
          exact a7.1 k hk h9
        · rw [tN 18 0 (by decide) (by decide) (by decide)] at hr'
          rw [tN 15 r' (by decide) (by decide) (by decide), tN 17 r' (by decide) (by decide) (by decide), tR 16 r' (by decide)]
          exact a7.2 r' hr'
      · rw [tN 18 0 (by decide) (by decide) (by decide)] at hk
        have hne : ¬ k = 12 * r + j := by omega
        rw [(tO 24 _ hne).1, (tO 25 _ hne).1, (tO 26 _ hne).1, (tO 27 _ hne).1, (tO 29 _ hne).1, (tO 41 _ hne).1]
        exact a8 k hk
      · intro r' hr'
        rw [tN 18 0 (by decide) (by decide) (by decide)] at hr'
        rw [tN 11 r' (by decide) (by decide) (by decide)]
        exact a9 r' hr'
      · intro k hk h9
        rw [tN 41 k (by decide) (by decide) (by decide)] at h9
        rw [tN 20 k (by decide) (by decide) (by decide), tN 21 k (by decide) (by decide) (by decide)]
        exact a10 k hk h9
      · rw [tN 18 0 (by decide) (by decide) (by decide)] at hr'
        rw [tN 24 _ (by decide) (by decide) (by decide)] at hn'
        rw [tR 23 _ (by decide), tR 22 _ (by decide)]
        exact a11 r' j' hr' hj' hn'
      · rw [tN 18 0 (by decide) (by decide) (by decide)] at hr'
        rw [tR 22 _ (by decide)]
        by_cases z : 12 * r' + j' = 12 * r + j
        · rw [z]; exact hp
        · rw [(tO 26 _ z).1] at hn'
          exact a12 r' j' hr' hj' hn'
      · intro q; rw [tN 31 q (by decide) (by decide) (by decide)]; exact a13 q
      · intro b; rw [tD, tN 42 b (by decide) (by decide) (by decide)]; exact a14 b
      · intro r' j' hr' hj'
        rw [tN 18 0 (by decide) (by decide) (by decide)] at hr'
        rw [tN 11 r' (by decide) (by decide) (by decide), tR 22 _ (by decide)]
        exact a16 r' j' hr' hj'
      · intro r' j' hr' hj' h9
        rw [tN 18 0 (by decide) (by decide) (by decide)] at hr'
        rw [tN 41 _ (by decide) (by decide) (by decide)] at h9
        rw [tN 20 _ (by decide) (by decide) (by decide), tN 11 r' (by decide) (by decide) (by decide)]
        exact a17 r' j' hr' hj' h9
      · intro r' j' hr' hj' h9
        rw [tN 18 0 (by decide) (by decide) (by decide)] at hr'
        rw [tN 15 r' (by decide) (by decide) (by decide)] at h9
        rw [tN 29 _ (by decide) (by decide) (by decide)]
        exact a18 r' j' hr' hj' h9
    have t18 : r < τ.1 18 0 := by rw [tN 18 0 (by decide) (by decide) (by decide)]; exact hr
    have tp : ¬ τ.2.1 22 (12 * r + j) = -1 := by rw [tR 22 _ (by decide)]; exact hp
    have hX := InvA_drw hA t18 hj (by rw [tN 41 _ (by decide) (by decide) (by decide)]; exact h41) tp
    refine InvA_I hX (fun r' j' hr' hj' hs => ?_)
    rw [drwU_N (by decide), tN 18 0 (by decide) (by decide) (by decide)] at hr'
    rw [drwU_N (by decide), tN 15 r' (by decide) (by decide) (by decide)] at hs
    have hne : ¬ 12 * r' + j' = 12 * r + j := fun z => by
      have : r' = r := by omega
      rw [this] at hs
      exact h15 hs
    have ho := drw_out (k := 12 * r' + j') hB.1 (day_lt hB t18 hj tp) hne
    rw [ho.1, ho.2, drwU_N (by decide), (tO 26 _ hne).1, (tO 24 _ hne).1, (tO 23 _ hne).2]
    exact a15 r' j' hr' hj' hs
