/-! one beast more -/
theorem lv_k {σ : ST} {k : Nat} (h : lvB σ (100 + k) = true) : k < 96 ∧ σ.1 41 k = 1 := by
  rcases lvB_iff.mp h with h | h | ⟨h, -⟩ | h | ⟨h, -⟩ | ⟨b, h, h1, h2⟩ | ⟨r, h, h1, h2⟩ | ⟨r, h, h1, h2⟩ | ⟨r, h, h1, h2, -⟩ | ⟨r, h, h1, h2⟩ | ⟨k', h, h1, h2⟩
  all_goals first | omega | skip
  have : k = k' := by omega
  subst this
  exact ⟨h1, h2⟩
theorem enB_A {A A' : Nat → Nat} {v : Int32} {n : Nat} (hv : ¬ v = -1 → ∃ b, b < n ∧ v = nI b) (hn : n ≤ 16) (h : ∀ b, b < n → A' (10 + b) = A (10 + b)) : enB A' v = enB A v := by
  unfold enB
  by_cases c : v = -1
  · rw [if_pos c, if_pos c]
  · obtain ⟨b, hb, e⟩ := hv c
    rw [if_neg c, if_neg c, e, cl_nI (by omega), h b hb]
theorem CM_be {g : GP} {A : Nat → Nat} {M0 Mb M2 M9 : MM} {σ : ST} {q kd : Nat} (hR : CM g A M0 σ Mb) (h16 : σ.1 6 0 < 16) (hbs : IBe σ)
    (hz : σ.1 2 (σ.1 6 0) = 0 ∧ σ.1 3 (σ.1 6 0) = 0 ∧ σ.1 4 (σ.1 6 0) = 0 ∧ σ.1 42 (σ.1 6 0) = 0 ∧ σ.2.2 (σ.1 6 0) = 0)
    (zq : Mb q = none) (hq2 : M2 q = some (.inr (1, [.int (nI (σ.1 6 0)), .int (nI kd), .int 0, .int 0, .int 0, .int 0, .long 0]))) (fr2 : ∀ x, x ≠ q → M2 x = Mb x)
    (hL : LPP g M2 A (A 1) 2 (σ.1 6 0) q (fun i => A (10 + i)) M9) :
    ∃ A', A' 0 = A 0 ∧ CM g A' Mb (uN (uN σ 1 (σ.1 6 0) kd) 6 0 (σ.1 6 0 + 1)) M9 ∧ ∀ c, lvB (uN (uN σ 1 (σ.1 6 0) kd) 6 0 (σ.1 6 0 + 1)) c = true → (lvB σ c = true ∧ A' c = A c) ∨ Mb (A' c) = none := by
  obtain ⟨n, hn⟩ : ∃ n, n = σ.1 6 0 := ⟨_, rfl⟩
  rw [← hn] at h16 hz hq2 hL ⊢
  obtain ⟨d', e3, e4, e5, e6⟩ := hL
  have n1 : A 1 ≠ q := ne_fr zq hR.lb
  have hql : ∀ c, lvB σ c = true → A c ≠ q := fun c hc => ne_fr zq (hR.1 c hc)
  have hd : (0 < n ∧ d' = A 2) ∨ (Mb d' = none ∧ d' ≠ q) := by
    rcases e3 with h | h
    · exact Or.inl h
    · have : d' ≠ q := fun z => by rw [z, hq2] at h; cases h
      exact Or.inr ⟨by rw [← fr2 _ this]; exact h, this⟩
  have l2 : 0 < n → lvB σ 2 = true := fun h => lvB_iff.mpr (Or.inr (Or.inr (Or.inl ⟨rfl, by rw [← hn]; exact h⟩)))
  have hdl : ∀ c, lvB σ c = true → c ≠ 2 → A c ≠ d' := fun c hc c2 z => by
    rcases hd with ⟨h0, h1⟩ | ⟨h1, -⟩
    · exact c2 (hR.2.1 c 2 hc (l2 h0) (z.trans h1))
    · rw [← z, hR.1 c hc] at h1; cases h1
  have hdq : d' ≠ q := by
    rcases hd with ⟨h0, h1⟩ | ⟨-, h1⟩
    · rw [h1]; exact hql 2 (l2 h0)
    · exact h1
  obtain ⟨A', hA'⟩ : ∃ A' : Nat → Nat, A' = fun c => if c = 2 then d' else if c = 10 + n then q else A c := ⟨_, rfl⟩
  have hA : ∀ c, ¬ c = 2 → ¬ c = 10 + n → A' c = A c := fun c h1 h2 => by rw [hA']; exact (if_neg h1).trans (if_neg h2)
  have hA2 : A' 2 = d' := by rw [hA']; exact if_pos rfl
  have hAn : A' (10 + n) = q := by rw [hA']; exact (if_neg (by omega)).trans (if_pos rfl)
  obtain ⟨σ', hs⟩ : ∃ σ', σ' = uN (uN σ 1 n kd) 6 0 (n + 1) := ⟨_, rfl⟩
  rw [← hs]
  have s6 : σ'.1 6 0 = n + 1 := by rw [hs]; rfl
  have sN : ∀ s i, ¬ s = 1 → ¬ s = 6 → σ'.1 s i = σ.1 s i := fun s i h1 h2 => by rw [hs]; exact (if_neg (fun z => h2 z.1)).trans (if_neg (fun z => h1 z.1))
  have sR : σ'.2 = σ.2 := by rw [hs]; rfl
  have s1 : ∀ i, ¬ i = n → σ'.1 1 i = σ.1 1 i := fun i h => by rw [hs]; simp [uN, h]
  have s1n : σ'.1 1 n = kd := by rw [hs]; simp [uN]
  have s18 : σ'.1 18 0 = σ.1 18 0 := sN 18 0 (by decide) (by decide)
  have hlv : ∀ c, lvB σ' c = true → ¬ c = 2 → ¬ c = 10 + n → lvB σ c = true := by
    intro c hc c2 cn
    rw [lvB_iff] at hc ⊢
    simp only [s6, s18, sN 17 _ (by decide) (by decide), sN 41 _ (by decide) (by decide), hn] at hc
    rcases hc with h | h | ⟨h, -⟩ | h | h | ⟨b, hb, h1, h2⟩ | h
    · exact Or.inl h
    · exact Or.inr (Or.inl h)
    · exact absurd h c2
    · exact Or.inr (Or.inr (Or.inr (Or.inl h)))
    · exact Or.inr (Or.inr (Or.inr (Or.inr (Or.inl h))))
    · exact Or.inr (Or.inr (Or.inr (Or.inr (Or.inr (Or.inl ⟨b, hb, by omega, h2⟩)))))
    · exact Or.inr (Or.inr (Or.inr (Or.inr (Or.inr (Or.inr h)))))
  have M9q : M9 q = M2 q := e6 q n1.symm hdq.symm
  refine ⟨A', hA 0 (by decide) (by omega), CM_grow hR (fun c => c = 1 ∨ c = 2 ∨ c = 10 + n) ?_ ?_ ?_ ?_ ?_⟩
  · intro c hc hS
    have c1 : ¬ c = 1 := fun z => hS (Or.inl z)
    have c2 : ¬ c = 2 := fun z => hS (Or.inr (Or.inl z))
    have cn : ¬ c = 10 + n := fun z => hS (Or.inr (Or.inr z))
    have hl := hlv c hc c2 cn
    refine ⟨hl, hA c c2 cn, ?_, ?_⟩
    · refine cV_gen (fun _ => ⟨hA 1 (by decide) (by omega), hA 3 (by decide) (by omega), sN 7 0 (by decide) (by decide), sN 30 0 (by decide) (by decide)⟩) (fun z => absurd z c1) (fun z => absurd z c2)
        (fun _ => ⟨s18, fun _ => hA 4 (by decide) (by omega)⟩) (fun _ => ⟨s18, fun i _ => hA _ (by omega) (by omega)⟩) (fun b z => ?_) (fun r _ _ => ?_)
        (fun r _ _ => ⟨sN 17 r (by decide) (by decide), fun _ => hA _ (by omega) (by omega)⟩) (fun r _ _ => ⟨sN 17 r (by decide) (by decide), fun e _ => ?_⟩)
        (fun r _ _ j _ => ⟨sN 41 _ (by decide) (by decide), fun _ => hA _ (by omega) (by omega)⟩) (fun k z => ?_)
      · unfold beF
        rw [s1 b (fun y => cn (by rw [z, y])), sN 2 b (by decide) (by decide), sN 3 b (by decide) (by decide), sN 4 b (by decide) (by decide), sN 42 b (by decide) (by decide), sR]
      · unfold roF
        rw [hA (40 + r) (by omega) (by omega), hA (60 + r) (by omega) (by omega), sN 8 r (by decide) (by decide), sN 9 r (by decide) (by decide), sN 10 r (by decide) (by decide), sN 11 r (by decide) (by decide), sN 12 r (by decide) (by decide), sN 13 r (by decide) (by decide), sN 14 r (by decide) (by decide), sN 15 r (by decide) (by decide), sR]
      · unfold whA
        rw [sN 19 _ (by decide) (by decide)]
        exact hA _ (by omega) (by omega)
      · subst z
        have hk := lv_k hc
        unfold enF
        rw [sN 20 k (by decide) (by decide), sN 21 k (by decide) (by decide), sN 24 k (by decide) (by decide), sN 25 k (by decide) (by decide), sN 26 k (by decide) (by decide), sN 27 k (by decide) (by decide), sN 29 k (by decide) (by decide), sR,
          enB_A (n := σ.1 6 0) (hbs k hk.1 (lv_k hl).2) (by omega) (fun b hb => hA _ (by omega) (by omega))]
    · rw [e6 (A c) (fun z => c1 (hR.2.1 c 1 hl rfl z)) (hdl c hl c2), fr2 _ (hql c hl)]
  · rintro c hc (rfl | rfl | rfl)
    · rw [hA 1 (by decide) (by omega), e4]
      show _ = some (liV g A' 2 (σ'.1 6 0))
      rw [s6, liV_pos (by omega), hA2]
    · rw [hA2, e5]
      show _ = some (oE g (cpL (σ'.1 6 0)) (lF (fun i => A' (10 + i)) (σ'.1 6 0)))
      rw [s6]
      refine congrArg some (oE_f (lF_A (fun i hi => ?_)))
      by_cases h : i = n
      · rw [if_pos h, h, hAn]
      · rw [if_neg h, hA _ (by omega) (by omega)]
    · rw [hAn, M9q, hq2, cV_b h16]
      unfold beF
      rw [s1n, sN 2 n (by decide) (by decide), sN 3 n (by decide) (by decide), sN 4 n (by decide) (by decide), sN 42 n (by decide) (by decide), sR, hz.1, hz.2.1, hz.2.2.1, hz.2.2.2.1, hz.2.2.2.2]
      rfl
  · rintro c hc (rfl | rfl | rfl)
    · exact Or.inl ⟨rfl, hA 1 (by decide) (by omega)⟩
    · rw [hA2]
      rcases hd with ⟨h0, h1⟩ | ⟨h1, -⟩
      · exact Or.inl ⟨l2 h0, h1⟩
      · exact Or.inr h1
    · rw [hAn]; exact Or.inr zq
  · intro c c' hc hc' hS hS' z1 z2 e
    rcases hS with rfl | rfl | rfl
    · rw [hA 1 (by decide) (by omega), hR.lb] at z1; cases z1
    · rcases hS' with rfl | rfl | rfl
      · rw [hA 1 (by decide) (by omega), hR.lb] at z2; cases z2
      · rfl
      · rw [hA2, hAn] at e; exact absurd e hdq
    · rcases hS' with rfl | rfl | rfl
      · rw [hA 1 (by decide) (by omega), hR.lb] at z2; cases z2
      · rw [hA2, hAn] at e; exact absurd e.symm hdq
      · rfl
  · intro x hx
    have x1 : x ≠ A 1 := by have := hx 1 rfl; rw [hA 1 (by decide) (by omega)] at this; exact this
    have x2 : x ≠ d' := by have := hx 2 (lvB_iff.mpr (Or.inr (Or.inr (Or.inl ⟨rfl, by omega⟩)))); rw [hA2] at this; exact this
    have x3 : x ≠ q := by have := hx (10 + n) (lv_b (by omega) h16); rw [hAn] at this; exact this
    rw [e6 x x1 x2, fr2 x x3]
