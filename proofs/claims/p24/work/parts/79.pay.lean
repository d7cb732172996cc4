/-! pay: the component's sums are the reference's -/
theorem shC_S {pt f b : Nat} : ∀ N, shC pt f b N = fb_sm (fun i => pt * (50 - 10 * (f + 1 + i)) / 100) (min b N - f)
  | 0 => by
    rw [show min b 0 - f = 0 by omega]; rfl
  | N + 1 => by
    have ih := shC_S (pt := pt) (f := f) (b := b) N
    by_cases c : f ≤ N ∧ N < b
    · rw [shC_y c, ih, show min b (N + 1) - f = (min b N - f) + 1 by omega, fb_sm_succ]
      have e : 50 - 10 * (f + 1 + (min b N - f)) = 40 - 10 * N := by omega
      rw [e]
    · rw [shC_n c, ih, show min b (N + 1) - f = min b N - f by omega]
theorem shC_shS {pt f b : Nat} : shC pt f b 4 = shS pt (f + 1) b := by
  rw [shC_S]
  unfold shS
  rw [show min b 4 + 1 - (f + 1) = min b 4 - f by omega]
theorem betE_S {σ : ST} {r : Nat} {v : Int32} (hW : IW σ) (hD : ID σ) (hr : r < σ.1 18 0) : betE σ r v = betS σ r v ∧ likE σ r v = likS σ r v ∧ ccN σ r = couN σ r := by
  refine ⟨?_, ?_, ?_⟩
  · exact pm_ct hW hr (fun j => decide (¬ σ.1 27 (12 * r + j) = 0) && decide (v < σ.2.1 28 (12 * r + j))) (fun j hj hn => by rw [(hD r j hr hj hn).2.2.2.2.1]; rfl)
  · exact pm_ct hW hr (fun j => decide (¬ σ.1 27 (12 * r + j) = 0) && decide (σ.2.1 28 (12 * r + j) = v)) (fun j hj hn => by rw [(hD r j hr hj hn).2.2.2.2.1]; rfl)
  · exact pm_ct hW hr (fun j => decide (¬ σ.1 27 (12 * r + j) = 0)) (fun j hj hn => by rw [(hD r j hr hj hn).2.2.2.2.1]; rfl)
theorem gotS_py {σ : ST} {r j : Nat} (hW : IW σ) (hD : ID σ) (hr : r < σ.1 18 0) : gotS σ r j = if σ.1 27 (12 * r + j) = 0 then 0 else plM σ r (potS σ r) (σ.2.1 28 (12 * r + j)) + grS σ r := by
  unfold gotS plM grS
  have h := betE_S (v := σ.2.1 28 (12 * r + j)) hW hD hr
  rw [h.1, h.2.1, h.2.2, shC_shS, shC_shS]
theorem sub_nI {x : Int32} {b c : Nat} : x - nI b - nI c = x - nI (b + c) := by
  rw [← nI_add, Int32.sub_eq_add_neg, Int32.sub_eq_add_neg, Int32.sub_eq_add_neg, Int32.neg_add, Int32.add_assoc, Int32.sub_eq_add_neg]
theorem sub_n0 {x : Int32} : x - nI 0 = x := Int32.sub_zero x
theorem lefS_sm {σ : ST} {r : Nat} : ∀ j, lefS σ r j = nI (potS σ r) - nI (fb_sm (gotS σ r) j)
  | 0 => (sub_n0).symm
  | j + 1 => by
    show lefS σ r j - nI (gotS σ r j) = _
    rw [lefS_sm j, sub_nI, fb_sm_succ]
theorem lfE_sm {σ : ST} {r pt gr : Nat} : ∀ e, lfE σ r pt gr e = nI pt - nI (fb_sm (fun e => if σ.1 27 (12 * r + whS σ r e) = 0 then 0 else plM σ r pt (σ.2.1 28 (12 * r + whS σ r e)) + gr) e)
  | 0 => (sub_n0).symm
  | e + 1 => by
    by_cases c : σ.1 27 (12 * r + whS σ r e) = 0
    · rw [lfE_n c, lfE_sm e, fb_sm_succ, if_pos c]; rfl
    · rw [lfE_y c, lfE_sm e, sub_nI, fb_sm_succ, if_neg c]
theorem gotU_29 {σ : ST} {r : Nat} : ∀ j k, (gotU σ r j).1 29 k = if 12 * r ≤ k ∧ k < 12 * r + j then gotS σ r (k - 12 * r) else σ.1 29 k
  | 0, k => (if_neg (by omega)).symm
  | j + 1, k => by
    have ih := gotU_29 (σ := σ) (r := r) j k
    show (if 29 = 29 ∧ k = 12 * r + j then gotS σ r j else (gotU σ r j).1 29 k) = _
    by_cases z : k = 12 * r + j
    · rw [if_pos ⟨rfl, z⟩, if_pos (by omega), z, Nat.add_sub_cancel_left]
    · rw [if_neg (fun y => z y.2), ih]
      by_cases y : 12 * r ≤ k ∧ k < 12 * r + j
      · rw [if_pos y, if_pos (by omega)]
      · rw [if_neg y, if_neg (by omega)]
theorem pyE_29 {σ : ST} {r pt gr k : Nat} : ∀ e, ((∃ e', e' < e ∧ k = 12 * r + whS σ r e' ∧ ¬ σ.1 27 k = 0) → (pyE σ r pt gr e).1 29 k = plM σ r pt (σ.2.1 28 k) + gr) ∧ ((¬ ∃ e', e' < e ∧ k = 12 * r + whS σ r e' ∧ ¬ σ.1 27 k = 0) → (pyE σ r pt gr e).1 29 k = σ.1 29 k)
  | 0 => ⟨fun ⟨e', h, _⟩ => absurd h (Nat.not_lt_zero _), fun _ => rfl⟩
  | e + 1 => by
    obtain ⟨i1, i2⟩ := pyE_29 (σ := σ) (r := r) (pt := pt) (gr := gr) (k := k) e
    by_cases c : σ.1 27 (12 * r + whS σ r e) = 0
    · rw [pyE_n c]
      refine ⟨fun ⟨e', h1, h2, h3⟩ => i1 ⟨e', ?_, h2, h3⟩, fun h => i2 (fun ⟨e', h1, h2, h3⟩ => h ⟨e', by omega, h2, h3⟩)⟩
      rcases Nat.lt_succ_iff_lt_or_eq.mp h1 with h4 | h4
      · exact h4
      · rw [h4] at h2; rw [h2] at h3; exact absurd c h3
    · rw [pyE_y c]
      by_cases z : k = 12 * r + whS σ r e
      · have e1 : (uN (pyE σ r pt gr e) 29 (12 * r + whS σ r e) (plM σ r pt (σ.2.1 28 (12 * r + whS σ r e)) + gr)).1 29 k = plM σ r pt (σ.2.1 28 k) + gr := by rw [z]; exact if_pos ⟨rfl, rfl⟩
        exact ⟨fun _ => e1, fun h => absurd ⟨e, Nat.lt_succ_self e, z, by rw [z]; exact c⟩ h⟩
      · have e1 : (uN (pyE σ r pt gr e) 29 (12 * r + whS σ r e) (plM σ r pt (σ.2.1 28 (12 * r + whS σ r e)) + gr)).1 29 k = (pyE σ r pt gr e).1 29 k := if_neg (fun y => z y.2)
        rw [e1]
        refine ⟨fun ⟨e', h1, h2, h3⟩ => i1 ⟨e', ?_, h2, h3⟩, fun h => i2 (fun ⟨e', h1, h2, h3⟩ => h ⟨e', by omega, h2, h3⟩)⟩
        rcases Nat.lt_succ_iff_lt_or_eq.mp h1 with h4 | h4
        · exact h4
        · rw [h4] at h2; exact absurd h2 z
theorem cdPa_1 {σ : ST} {x0 : Int32} (h18 : σ.1 18 0 ≤ 8) (hz : cdPa σ x0 = 0) : ∃ r, r < σ.1 18 0 ∧ cl x0 = r ∧ σ.1 15 r = 2 := by
  unfold cdPa at hz
  by_cases z : inN x0 (σ.1 18 0) = false
  · rw [if_pos z] at hz; cases hz
  · rw [if_neg z] at hz
    obtain ⟨r, hr, rfl⟩ := inN_t (n := σ.1 18 0) (x0 := x0) (by omega) (by simpa using z)
    rw [cl_nI (by omega)] at hz
    by_cases z2 : payB σ r = false
    · rw [if_pos z2] at hz; cases hz
    · have z3 : payB σ r = true := by simpa using z2
      unfold payB at z3
      exact ⟨r, hr, cl_nI (by omega), of_decide_eq_true (Bool.and_eq_true_iff.mp z3).1⟩
theorem SQ_pay0 {c r : Nat} {σ : ST} (h : Inv c σ) (hr : r < σ.1 18 0) (h15 : σ.1 15 r = 2) : payU σ r = pyU σ r := by
  have hW := h.W
  have hD := h.D
  obtain ⟨w1, w2, w3⟩ := hW r hr
  have e1 : gotU σ r 12 = pyE σ r (potS σ r) (grS σ r) (σ.1 17 r) := by
    refine Prod.ext ?_ ((gotU_2 12).trans (pyE_R _).symm)
    funext s k
    by_cases hs : s = 29
    · subst hs
      rw [gotU_29]
      obtain ⟨i1, i2⟩ := pyE_29 (σ := σ) (r := r) (pt := potS σ r) (gr := grS σ r) (k := k) (σ.1 17 r)
      by_cases hk : 12 * r ≤ k ∧ k < 12 * r + 12
      · rw [if_pos hk]
        obtain ⟨j, hj⟩ : ∃ j, j = k - 12 * r := ⟨_, rfl⟩
        have ek : k = 12 * r + j := by omega
        have hj12 : j < 12 := by omega
        have hmo := h.mo r j hr hj12 (by omega)
        rw [← hj, gotS_py hW hD hr, ← ek]
        rw [← ek] at hmo
        by_cases c27 : σ.1 27 k = 0
        · rw [if_pos c27, i2 (fun ⟨e', _, _, h3⟩ => h3 c27), hmo]
        · have h41 : σ.1 41 (12 * r + j) = 1 := by
            by_cases z : σ.1 41 (12 * r + j) = 1
            · exact z
            · exact absurd (by rw [ek]; exact (hD r j hr hj12 z).2.2.2.2.1) c27
          obtain ⟨e, he, hwe⟩ := w3 j hj12 h41
          rw [if_neg c27, i1 ⟨e, he, by rw [hwe]; exact ek, c27⟩]
      · rw [if_neg hk, i2 (fun ⟨e', h1, h2, _⟩ => hk (by have := (w1 e' h1).1; omega))]
    · rw [gotU_N hs, pyE_N hs]
  have e2 : lefS σ r 12 = lfE σ r (potS σ r) (grS σ r) (σ.1 17 r) := by
    rw [lefS_sm, lfE_sm]
    have h3 := pm_sm hW hr (fun j => if σ.1 27 (12 * r + j) = 0 then 0 else plM σ r (potS σ r) (σ.2.1 28 (12 * r + j)) + grS σ r) (fun j hj hn => by
      show (if σ.1 27 (12 * r + j) = 0 then 0 else _) = 0
      rw [if_pos (hD r j hr hj hn).2.2.2.2.1])
    have h3' : fb_sm (fun e => if σ.1 27 (12 * r + whS σ r e) = 0 then 0 else plM σ r (potS σ r) (σ.2.1 28 (12 * r + whS σ r e)) + grS σ r) (σ.1 17 r) = fb_sm (gotS σ r) 12 := h3.trans (fb_sm_cong (fun j _ => (gotS_py hW hD hr).symm))
    rw [h3']
  unfold payU pyU
  rw [e1, e2]
theorem SQ_pay {c : Nat} {σ : ST} {x0 : Int32} (h : Inv c σ) (hz : cdPa σ x0 = 0) : payU σ (cl x0) = pyU σ (cl x0) := by
  obtain ⟨r, hr, e, h15⟩ := cdPa_1 h.B.2.2.1 hz
  rw [e]
  exact SQ_pay0 h hr h15
theorem RQ_pay {c : Nat} {σ : ST} {x0 : Int32} (h : Inv c σ) (hz : cdPa σ x0 = 0) : nI (ccN σ (cl x0)) = nI (couN σ (cl x0)) := by
  obtain ⟨r, hr, e, h15⟩ := cdPa_1 h.B.2.2.1 hz
  rw [e, (betE_S (v := 0) h.W h.D hr).2.2]
theorem IV_pay {c : Nat} {σ : ST} {x0 : Int32} (h : Inv c σ) (h5 : c < 512) (hz : cdPa σ x0 = 0) : Inv (c + 1) (payU σ (cl x0)) := by
  obtain ⟨r, hr, e, h15⟩ := cdPa_1 h.B.2.2.1 hz
  rw [e, SQ_pay0 h hr h15]
  have k18 := h.B.2.2.1
  have hB := Bd_pyU h.B hr h.D
  obtain ⟨w1, w2, w3⟩ := h.W r hr
  obtain ⟨a1, a2, a3, a4, a5, a6, a7, a8, a9, a10, a11, a12, a13, a14, a15, a16, a17, a18⟩ := Inv_s h
  obtain ⟨τ, ht⟩ : ∃ τ, τ = pyU σ r := ⟨_, rfl⟩
  rw [← ht] at hB ⊢
  have tN : ∀ s i, (¬ s = 29 ∧ ¬ s = 15) → τ.1 s i = σ.1 s i := fun s i hs => by rw [ht]; exact pyU_N hs.1 hs.2
  have tR : ∀ s i, ¬ s = 16 → τ.2.1 s i = σ.2.1 s i := fun s i hs => by
    have e1 : (pyE σ r (potS σ r) (grS σ r) (σ.1 17 r)).2 = σ.2 := pyE_R _
    rw [ht]
    show (if s = 16 ∧ i = r then _ else (pyE σ r (potS σ r) (grS σ r) (σ.1 17 r)).2.1 s i) = _
    rw [if_neg (fun z => hs z.1), e1]
  have t16 : ∀ i, ¬ i = r → τ.2.1 16 i = σ.2.1 16 i := fun i hi => by
    have e1 : (pyE σ r (potS σ r) (grS σ r) (σ.1 17 r)).2 = σ.2 := pyE_R _
    rw [ht]
    show (if 16 = 16 ∧ i = r then _ else (pyE σ r (potS σ r) (grS σ r) (σ.1 17 r)).2.1 16 i) = _
    rw [if_neg (fun z => hi z.2), e1]
  have tD : τ.2.2 = σ.2.2 := by
    have e1 : (pyE σ r (potS σ r) (grS σ r) (σ.1 17 r)).2 = σ.2 := pyE_R _
    rw [ht]
    show (pyE σ r (potS σ r) (grS σ r) (σ.1 17 r)).2.2 = _
    rw [e1]
  have t15 : ∀ i, τ.1 15 i = if i = r then 3 else σ.1 15 i := fun i => by
    rw [ht]
    show (if 15 = 15 ∧ i = r then 3 else (pyE σ r (potS σ r) (grS σ r) (σ.1 17 r)).1 15 i) = _
    rw [pyE_N (by decide)]
    simp
  have t29 : ∀ k, (¬ ∃ e', e' < σ.1 17 r ∧ k = 12 * r + whS σ r e') → τ.1 29 k = σ.1 29 k := fun k hk => by
    have e1 := (pyE_29 (σ := σ) (r := r) (pt := potS σ r) (gr := grS σ r) (k := k) (σ.1 17 r)).2 (fun ⟨e', h1, h2, _⟩ => hk ⟨e', h1, h2⟩)
    rw [ht]
    show (if 29 = 15 ∧ k = r then 3 else (pyE σ r (potS σ r) (grS σ r) (σ.1 17 r)).1 29 k) = _
    rw [if_neg (fun z => absurd z.1 (by decide)), e1]
  have t18 : τ.1 18 0 = σ.1 18 0 := tN 18 0 (by decide)
  refine ⟨hB, ?_, IW_of (fun s q hs => tN s q (by omega)) a3, ?_, ?_, ?_, ?_, ?_, ?_, ?_, ?_, ?_, ?_, ?_, ?_, ?_, ?_, ?_⟩
  · intro b; rw [tN 2 _ (by decide), tN 3 _ (by decide), tN 4 _ (by decide)]; exact a2 b
  · intro r' j hr' hj hn
    rw [t18] at hr'
    rw [tN 41 _ (by decide)] at hn
    rw [tR 22 _ (by decide), tR 23 _ (by decide), tR 28 _ (by decide), tN 24 _ (by decide), tN 25 _ (by decide), tN 26 _ (by decide), tN 27 _ (by decide), t29 _ (fun ⟨e', h1, h2⟩ => hn (by rw [h2]; exact (w1 e' h1).2))]
    exact a4 r' j hr' hj hn
  · intro k hk h9 hn
    rw [tN 41 _ (by decide)] at h9
    rw [tR 23 _ (by decide)] at hn ⊢
    rw [tN 6 0 (by decide)]
    exact a5 k hk h9 hn
  · intro b hb
    rw [tN 6 0 (by decide)] at hb
    rw [tN 2 _ (by decide), tN 3 _ (by decide), tN 4 _ (by decide), tN 42 _ (by decide), tD]
    exact a6 b hb
  · refine ⟨fun k hk h9 => ?_, fun r' hr' => ?_⟩
    · rw [tN 41 _ (by decide)] at h9; rw [t18]; exact a7.1 k hk h9
    · rw [t18] at hr'
      rw [t15, if_neg (by omega), tN 17 _ (by decide), t16 _ (by omega)]
      exact a7.2 r' hr'
  · intro k hk
    rw [t18] at hk
    rw [tN 24 _ (by decide), tN 25 _ (by decide), tN 26 _ (by decide), tN 27 _ (by decide), tN 41 _ (by decide), t29 _ (fun ⟨e', h1, h2⟩ => by have := (w1 e' h1).1; omega)]
    exact a8 k hk
  · intro r' hr'; rw [t18] at hr'; rw [tN 11 _ (by decide)]; exact a9 r' hr'
  · intro k hk h9; rw [tN 41 _ (by decide)] at h9; rw [tN 20 _ (by decide), tN 21 _ (by decide)]; exact a10 k hk h9
  · intro r' j hr' hj hn; rw [t18] at hr'; rw [tN 24 _ (by decide)] at hn; rw [tR 23 _ (by decide), tR 22 _ (by decide)]; exact a11 r' j hr' hj hn
  · intro r' j hr' hj hn; rw [t18] at hr'; rw [tN 26 _ (by decide)] at hn; rw [tR 22 _ (by decide)]; exact a12 r' j hr' hj hn
  · intro q; rw [tN 31 _ (by decide)]; exact a13 q
  · intro b; rw [tD, tN 42 _ (by decide)]; exact a14 b
  · intro r' j hr' hj hs
    rw [t18] at hr'
    rw [t15] at hs
    rw [tR 23 _ (by decide), tN 24 _ (by decide), tN 26 _ (by decide)]
    by_cases z : r' = r
    · rw [if_pos z] at hs; omega
    · rw [if_neg z] at hs; exact a15 r' j hr' hj hs
  · intro r' j hr' hj; rw [t18] at hr'; rw [tR 22 _ (by decide), tN 11 _ (by decide)]; exact a16 r' j hr' hj
  · intro r' j hr' hj h9; rw [t18] at hr'; rw [tN 41 _ (by decide)] at h9; rw [tN 20 _ (by decide), tN 11 _ (by decide)]; exact a17 r' j hr' hj h9
  · intro r' j hr' hj h9
    rw [t18] at hr'
    rw [t15] at h9
    by_cases z : r' = r
    · rw [if_pos z] at h9; exact absurd rfl h9
    · rw [if_neg z] at h9
      rw [t29 _ (fun ⟨e', h1, h2⟩ => by have := (w1 e' h1).1; omega)]
      exact a18 r' j hr' hj h9
