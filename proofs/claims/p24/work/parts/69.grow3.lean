/-! one entry more, one rodeo more -/
theorem CM_en {g : GP} {A : Nat → Nat} {M0 Mb M1 M2 M9 : MM} {σ : ST} {q r j s0 w0 : Nat} {f : Nat → Option Nat} (hR : CM g A M0 σ Mb) (hB : Bd σ) (hW : IW σ) (hbs : IBe σ) (hr : r < σ.1 18 0) (hj : j < 12) (h12 : σ.1 17 r < 12) (h41 : ¬ σ.1 41 (12 * r + j) = 1)
    (hz : (σ.2.1 22 (12 * r + j) = -1 ∧ σ.2.1 23 (12 * r + j) = -1 ∧ σ.2.1 28 (12 * r + j) = -1) ∧ σ.1 24 (12 * r + j) = 0 ∧ σ.1 25 (12 * r + j) = 0 ∧ σ.1 26 (12 * r + j) = 0 ∧ σ.1 27 (12 * r + j) = 0 ∧ σ.1 29 (12 * r + j) = 0)
    (zq : Mb q = none) (hq1 : M1 q = some (.inr (2, [.int (nI j), .int (nI s0), .int (nI w0), .int (-1), .null, .int 0, .int 0, .int 0, .int 0, .int (-1), .int 0]))) (fr1 : ∀ x, x ≠ q → M1 x = Mb x)
    (hf : f = fun i => if i < 12 ∧ σ.1 41 (12 * r + i) = 1 then some (A (100 + (12 * r + i))) else none) (hM2 : M2 = mup M1 (A (60 + r)) (.inl (gC g 4, 12, .inr (.inr (.inr (.inr (va_up f j (some q))))))))
    (hL : LPP g M2 A (A (40 + r)) (50 + r) (σ.1 17 r) q (whA A σ r) M9) :
    ∃ A', A' 0 = A 0 ∧ A' (30 + r) = A (30 + r) ∧ CM g A' Mb (enU σ r j s0 w0) M9 ∧ ∀ c, lvB (enU σ r j s0 w0) c = true → (lvB σ c = true ∧ A' c = A c) ∨ Mb (A' c) = none := by
  obtain ⟨h6, h7, h18, hr8, hk96, hp96, hb16, hh⟩ := hB
  obtain ⟨n, hn⟩ : ∃ n, n = σ.1 17 r := ⟨_, rfl⟩
  obtain ⟨k, hk⟩ : ∃ k, k = 12 * r + j := ⟨_, rfl⟩
  have hk96' : k < 96 := by omega
  rw [← hk] at h41 hz
  rw [← hn] at h12 hL
  obtain ⟨d', e3, e4, e5, e6⟩ := hL
  have hql : ∀ c, lvB σ c = true → A c ≠ q := fun c hc => ne_fr zq (hR.1 c hc)
  have l40 : lvB σ (40 + r) = true := lv_l hr (by omega)
  have l60 : lvB σ (60 + r) = true := lv_y hr (by omega)
  have l50 : 0 < n → lvB σ (50 + r) = true := fun h => lv_d hr (by omega) (by omega)
  have fr2 : ∀ x, x ≠ A (60 + r) → M2 x = M1 x := fun x hx => by rw [hM2]; exact mup_n hx
  have hM2y : M2 (A (60 + r)) = some (.inl (gC g 4, 12, .inr (.inr (.inr (.inr (va_up f j (some q))))))) := by rw [hM2]; exact mup_s
  have hM2q : M2 q = M1 q := fr2 q (hql _ l60).symm
  have hd : (0 < n ∧ d' = A (50 + r)) ∨ (Mb d' = none ∧ d' ≠ q ∧ d' ≠ A (60 + r)) := by
    rcases e3 with h | h
    · exact Or.inl h
    · have a1 : d' ≠ A (60 + r) := fun z => by rw [z, hM2y] at h; cases h
      rw [fr2 _ a1] at h
      have a2 : d' ≠ q := fun z => by rw [z, hq1] at h; cases h
      rw [fr1 _ a2] at h
      exact Or.inr ⟨h, a2, a1⟩
  have hdl : ∀ c, lvB σ c = true → c ≠ 50 + r → A c ≠ d' := fun c hc c2 z => by
    rcases hd with ⟨h0, h1⟩ | ⟨h1, -⟩
    · exact c2 (hR.2.1 c _ hc (l50 h0) (z.trans h1))
    · rw [← z, hR.1 c hc] at h1; cases h1
  have hdq : d' ≠ q := by
    rcases hd with ⟨h0, h1⟩ | ⟨-, h1, -⟩
    · rw [h1]; exact hql _ (l50 h0)
    · exact h1
  obtain ⟨A', hA'⟩ : ∃ A' : Nat → Nat, A' = fun c => if c = 50 + r then d' else if c = 100 + k then q else A c := ⟨_, rfl⟩
  have hA : ∀ c, ¬ c = 50 + r → ¬ c = 100 + k → A' c = A c := fun c h1 h2 => by rw [hA']; exact (if_neg h1).trans (if_neg h2)
  have hAd : A' (50 + r) = d' := by rw [hA']; exact if_pos rfl
  have hAq : A' (100 + k) = q := by rw [hA']; exact (if_neg (by omega)).trans (if_pos rfl)
  obtain ⟨σ', hs⟩ : ∃ σ', σ' = enU σ r j s0 w0 := ⟨_, rfl⟩
  rw [← hs]
  have sN : ∀ s i, ¬ s = 17 → ¬ s = 19 → ¬ s = 20 → ¬ s = 21 → ¬ s = 41 → σ'.1 s i = σ.1 s i := fun s i h1 h2 h3 h4 h5 => by rw [hs]; simp [enU, uN, h1, h2, h3, h4, h5]
  have sR : σ'.2 = σ.2 := by rw [hs]; rfl
  have s17 : ∀ i, σ'.1 17 i = if i = r then n + 1 else σ.1 17 i := fun i => by rw [hs, hn]; simp [enU, uN]
  have s41 : ∀ i, σ'.1 41 i = if i = k then 1 else σ.1 41 i := fun i => by rw [hs, hk]; simp [enU, uN]
  have s19 : ∀ i, σ'.1 19 i = if i = 12 * r + n then j else σ.1 19 i := fun i => by rw [hs, hn]; simp [enU, uN]
  have s20 : ∀ i, σ'.1 20 i = if i = k then s0 else σ.1 20 i := fun i => by rw [hs, hk]; simp [enU, uN]
  have s21 : ∀ i, σ'.1 21 i = if i = k then w0 else σ.1 21 i := fun i => by rw [hs, hk]; simp [enU, uN]
  have s6 : σ'.1 6 0 = σ.1 6 0 := sN 6 0 (by decide) (by decide) (by decide) (by decide) (by decide)
  have s18 : σ'.1 18 0 = σ.1 18 0 := sN 18 0 (by decide) (by decide) (by decide) (by decide) (by decide)
  have hlv : ∀ c, lvB σ' c = true → ¬ c = 50 + r → ¬ c = 100 + k → lvB σ c = true := by
    intro c hc c2 cn
    rw [lvB_iff] at hc ⊢
    simp only [s6, s18] at hc
    rcases hc with h | h | h | h | h | h | h | h | ⟨r', h, h1, h2, h3⟩ | h | ⟨k', h, h1, h2⟩
    · exact Or.inl h
    · exact Or.inr (Or.inl h)
    · exact Or.inr (Or.inr (Or.inl h))
    · exact Or.inr (Or.inr (Or.inr (Or.inl h)))
    · exact Or.inr (Or.inr (Or.inr (Or.inr (Or.inl h))))
    · exact Or.inr (Or.inr (Or.inr (Or.inr (Or.inr (Or.inl h)))))
    · exact Or.inr (Or.inr (Or.inr (Or.inr (Or.inr (Or.inr (Or.inl h))))))
    · exact Or.inr (Or.inr (Or.inr (Or.inr (Or.inr (Or.inr (Or.inr (Or.inl h)))))))
    · rw [s17, if_neg (by omega)] at h3
      exact Or.inr (Or.inr (Or.inr (Or.inr (Or.inr (Or.inr (Or.inr (Or.inr (Or.inl ⟨r', h, h1, h2, h3⟩))))))))
    · exact Or.inr (Or.inr (Or.inr (Or.inr (Or.inr (Or.inr (Or.inr (Or.inr (Or.inr (Or.inl h)))))))))
    · rw [s41, if_neg (by omega)] at h2
      exact Or.inr (Or.inr (Or.inr (Or.inr (Or.inr (Or.inr (Or.inr (Or.inr (Or.inr (Or.inr ⟨k', h, h1, h2⟩)))))))))
  have hwne : ∀ e, e < n → σ.1 19 (12 * r + e) < 12 ∧ ¬ σ.1 19 (12 * r + e) = j := fun e he => by
    have h := (hW r hr).1 e (by omega)
    refine ⟨h.1, fun z => h41 ?_⟩
    have h2 := h.2
    unfold whS at h2
    rw [z, ← hk] at h2
    exact h2
  have M9q : M9 q = M1 q := (e6 q (hql _ l40).symm hdq.symm).trans hM2q
  have M9y : M9 (A (60 + r)) = M2 (A (60 + r)) := e6 _ (fun z => by have := hR.2.1 _ _ l60 l40 z; omega) (hdl _ l60 (by omega))
  refine ⟨A', hA 0 (by omega) (by omega), hA _ (by omega) (by omega), CM_grow hR (fun c => c = 40 + r ∨ c = 50 + r ∨ c = 60 + r ∨ c = 100 + k) ?_ ?_ ?_ ?_ ?_⟩
  · intro c hc hS
    have c1 : ¬ c = 40 + r := fun z => hS (Or.inl z)
    have c2 : ¬ c = 50 + r := fun z => hS (Or.inr (Or.inl z))
    have c3 : ¬ c = 60 + r := fun z => hS (Or.inr (Or.inr (Or.inl z)))
    have cn : ¬ c = 100 + k := fun z => hS (Or.inr (Or.inr (Or.inr z)))
    have hl := hlv c hc c2 cn
    refine ⟨hl, hA c c2 cn, ?_, ?_⟩
    · refine cV_gen (fun _ => ⟨hA 1 (by omega) (by omega), hA 3 (by omega) (by omega), sN 7 0 (by decide) (by decide) (by decide) (by decide) (by decide), sN 30 0 (by decide) (by decide) (by decide) (by decide) (by decide)⟩) (fun _ => ⟨s6, fun _ => hA 2 (by omega) (by omega)⟩) (fun _ => ⟨s6, fun i _ => hA _ (by omega) (by omega)⟩)
        (fun _ => ⟨s18, fun _ => hA 4 (by omega) (by omega)⟩) (fun _ => ⟨s18, fun i _ => hA _ (by omega) (by omega)⟩) (fun b z => ?_) (fun r' _ hr' => ?_)
        (fun r' z hr' => ⟨by rw [s17, if_neg (by omega)], fun _ => hA _ (by omega) (by omega)⟩) (fun r' z hr' => ?_)
        (fun r' z hr' j' _ => ?_) (fun k' z => ?_)
      · unfold beF
        rw [sN 1 b (by decide) (by decide) (by decide) (by decide) (by decide), sN 2 b (by decide) (by decide) (by decide) (by decide) (by decide), sN 3 b (by decide) (by decide) (by decide) (by decide) (by decide), sN 4 b (by decide) (by decide) (by decide) (by decide) (by decide), sN 42 b (by decide) (by decide) (by decide) (by decide) (by decide), sR]
      · unfold roF
        rw [hA (40 + r') (by omega) (by omega), hA (60 + r') (by omega) (by omega), sR]
        simp only [sN 8 _ (by decide) (by decide) (by decide) (by decide) (by decide), sN 9 _ (by decide) (by decide) (by decide) (by decide) (by decide), sN 10 _ (by decide) (by decide) (by decide) (by decide) (by decide), sN 11 _ (by decide) (by decide) (by decide) (by decide) (by decide), sN 12 _ (by decide) (by decide) (by decide) (by decide) (by decide), sN 13 _ (by decide) (by decide) (by decide) (by decide) (by decide), sN 14 _ (by decide) (by decide) (by decide) (by decide) (by decide), sN 15 _ (by decide) (by decide) (by decide) (by decide) (by decide)]
      · subst z
        refine ⟨by rw [s17, if_neg (by omega)], fun e he => ?_⟩
        have hlr : r' < σ.1 18 0 := by
          rcases lvB_iff.mp hl with h | h | ⟨h, -⟩ | h | ⟨h, -⟩ | ⟨b, h, h1, h2⟩ | ⟨r2, h, h1, h2⟩ | ⟨r2, h, h1, h2⟩ | ⟨r2, h, h1, h2, -⟩ | ⟨r2, h, h1, h2⟩ | ⟨k', h, h1, h2⟩
          all_goals omega
        have h9 := (hW r' hlr).1 e he
        have h10 := (hr8 r' (by omega)).2.2.2.2.2.2.2.1
        unfold whS at h9
        unfold whA
        rw [s19, if_neg (by omega)]
        exact hA _ (by omega) (by omega)
      · subst z
        have hlr : r' < 8 := by
          rcases lvB_iff.mp hl with h | h | ⟨h, -⟩ | h | ⟨h, -⟩ | ⟨b, h, h1, h2⟩ | ⟨r2, h, h1, h2⟩ | ⟨r2, h, h1, h2⟩ | ⟨r2, h, h1, h2, -⟩ | ⟨r2, h, h1, h2⟩ | ⟨k', h, h1, h2⟩
          all_goals omega
        exact ⟨by rw [s41, if_neg (by omega)], fun _ => hA _ (by omega) (by omega)⟩
      · subst z
        have hkk := lv_k hl
        have hne : ¬ k' = k := by omega
        unfold enF
        rw [s20, if_neg hne, s21, if_neg hne, sN 24 _ (by decide) (by decide) (by decide) (by decide) (by decide), sN 25 _ (by decide) (by decide) (by decide) (by decide) (by decide), sN 26 _ (by decide) (by decide) (by decide) (by decide) (by decide), sN 27 _ (by decide) (by decide) (by decide) (by decide) (by decide), sN 29 _ (by decide) (by decide) (by decide) (by decide) (by decide), sR,
          enB_A (n := σ.1 6 0) (hbs k' hkk.1 hkk.2) (by omega) (fun b hb => hA _ (by omega) (by omega))]
    · rw [e6 (A c) (fun z => c1 (hR.2.1 c _ hl l40 z)) (hdl c hl c2), fr2 _ (fun z => c3 (hR.2.1 c _ hl l60 z)), fr1 _ (hql c hl)]
  · rintro c hc (rfl | rfl | rfl | rfl)
    · rw [hA _ (by omega) (by omega), e4, cV_l (by omega), s17, if_pos rfl, liV_pos (by omega), hAd]
    · rw [hAd, e5, cV_d (by omega), s17, if_pos rfl]
      refine congrArg some (oE_f (lF_A (fun i hi => ?_)))
      unfold whA
      by_cases h : i = n
      · rw [if_pos h, h, s19, if_pos rfl, ← hk, hAq]
      · have h9 := hwne i (by omega)
        rw [if_neg h, s19, if_neg (by omega), hA _ (by omega) (by omega)]
    · rw [hA _ (by omega) (by omega), M9y, hM2y, cV_y (by omega)]
      unfold byV
      congr 8
      funext i
      rw [hf]
      unfold va_up
      by_cases h : i = j
      · rw [if_pos h, if_pos ⟨by omega, by rw [s41, if_pos (by omega)]⟩, show 12 * r + i = k by omega, hAq]
      · rw [if_neg h]
        show (if i < 12 ∧ σ.1 41 (12 * r + i) = 1 then some (A (100 + (12 * r + i))) else none) = (if i < 12 ∧ σ'.1 41 (12 * r + i) = 1 then some (A' (100 + (12 * r + i))) else none)
        rw [show σ'.1 41 (12 * r + i) = σ.1 41 (12 * r + i) by rw [s41, if_neg (by omega)]]
        by_cases h3 : i < 12 ∧ σ.1 41 (12 * r + i) = 1
        · rw [if_pos h3, if_pos h3, hA _ (by omega) (by omega)]
        · rw [if_neg h3, if_neg h3]
    · rw [hAq, M9q, hq1, cV_e]
      unfold enF
      rw [s20, if_pos rfl, s21, if_pos rfl, sN 24 _ (by decide) (by decide) (by decide) (by decide) (by decide), sN 25 _ (by decide) (by decide) (by decide) (by decide) (by decide), sN 26 _ (by decide) (by decide) (by decide) (by decide) (by decide), sN 27 _ (by decide) (by decide) (by decide) (by decide) (by decide), sN 29 _ (by decide) (by decide) (by decide) (by decide) (by decide), sR,
        hz.1.1, hz.1.2.1, hz.1.2.2, hz.2.1, hz.2.2.1, hz.2.2.2.1, hz.2.2.2.2.1, hz.2.2.2.2.2, show k % 12 = j by omega]
      rfl
  · rintro c hc (rfl | rfl | rfl | rfl)
    · exact Or.inl ⟨l40, hA _ (by omega) (by omega)⟩
    · rw [hAd]
      rcases hd with ⟨h0, h1⟩ | ⟨h1, -⟩
      · exact Or.inl ⟨l50 h0, h1⟩
      · exact Or.inr h1
    · exact Or.inl ⟨l60, hA _ (by omega) (by omega)⟩
    · rw [hAq]; exact Or.inr zq
  · intro c c' hc hc' hS hS' z1 z2 e
    have o1 : c = 50 + r ∨ c = 100 + k := by
      rcases hS with rfl | h | rfl | h
      · rw [hA _ (by omega) (by omega), hR.1 _ l40] at z1; cases z1
      · exact Or.inl h
      · rw [hA _ (by omega) (by omega), hR.1 _ l60] at z1; cases z1
      · exact Or.inr h
    have o2 : c' = 50 + r ∨ c' = 100 + k := by
      rcases hS' with rfl | h | rfl | h
      · rw [hA _ (by omega) (by omega), hR.1 _ l40] at z2; cases z2
      · exact Or.inl h
      · rw [hA _ (by omega) (by omega), hR.1 _ l60] at z2; cases z2
      · exact Or.inr h
    rcases o1 with rfl | rfl
    · rcases o2 with rfl | rfl
      · rfl
      · rw [hAd, hAq] at e; exact absurd e hdq
    · rcases o2 with rfl | rfl
      · rw [hAd, hAq] at e; exact absurd e.symm hdq
      · rfl
  · intro x hx
    have x1 : x ≠ A (40 + r) := by have := hx (40 + r) (lv_l (by omega) (by omega)); rw [hA _ (by omega) (by omega)] at this; exact this
    have x2 : x ≠ d' := by have := hx (50 + r) (lv_d (by omega) (by omega) (by rw [s17, if_pos rfl]; omega)); rw [hAd] at this; exact this
    have x3 : x ≠ A (60 + r) := by have := hx (60 + r) (lv_y (by omega) (by omega)); rw [hA _ (by omega) (by omega)] at this; exact this
    have x4 : x ≠ q := by have := hx (100 + k) (lv_e (by rw [s41, if_pos rfl]) hk96'); rw [hAq] at this; exact this
    rw [e6 x x1 x2, fr2 x x3, fr1 x x4]
theorem CM_ro {g : GP} {A : Nat → Nat} {M0 Mb M2 M9 : MM} {σ σ' : ST} {q q1 q2 n : Nat} {bs : Nat → Nat} (hR : CM g A M0 σ Mb) (h8 : n < 8) (hn : n = σ.1 18 0) (hbs : IBe σ) (h6 : σ.1 6 0 ≤ 16) (hW : IW σ)
    (hk : ∀ k, k < 96 → σ.1 41 k = 1 → k < 12 * n) (hz : σ.1 15 n = 0 ∧ σ.1 17 n = 0 ∧ σ.2.1 16 n = 0)
    (s18 : σ'.1 18 0 = n + 1) (sN : ∀ s i, ¬ s = 18 → ¬ (8 ≤ s ∧ s ≤ 14) → σ'.1 s i = σ.1 s i) (sM : ∀ s i, ¬ s = 18 → ¬ i = n → σ'.1 s i = σ.1 s i) (sB : ∀ s, 8 ≤ s → s ≤ 14 → σ'.1 s n = bs s)
    (s16 : σ'.2.1 16 = σ.2.1 16) (sK : ∀ s k, k < 12 * n → σ'.2.1 s k = σ.2.1 s k) (sD : σ'.2.2 = σ.2.2)
    (zq : Mb q = none) (zq1 : Mb q1 = none) (zq2 : Mb q2 = none) (d1 : q ≠ q1) (d2 : q ≠ q2) (d3 : q1 ≠ q2)
    (hq : M2 q = some (.inr (3, [.int (nI (bs 8)), .int (nI (bs 9)), .int (nI (bs 10)), .int (nI (bs 11)), .int (nI (bs 12)), .int (nI (bs 13)), .int (nI (bs 14)), .ref q1, .ref q2, .int 0, .int 0])))
    (hq1 : M2 q1 = some (lE (nI 0) (nI 0) (gA g 0))) (hq2 : M2 q2 = some (.inl (gC g 4, 12, .inr (.inr (.inr (.inr (fun _ => none))))))) (fr2 : ∀ x, x ≠ q → x ≠ q1 → x ≠ q2 → M2 x = Mb x)
    (hL : LPP g M2 A (A 3) 4 n q (fun i => A (30 + i)) M9) :
    ∃ A', A' 0 = A 0 ∧ CM g A' Mb σ' M9 ∧ ∀ c, lvB σ' c = true → (lvB σ c = true ∧ A' c = A c) ∨ Mb (A' c) = none := by
  obtain ⟨d', e3, e4, e5, e6⟩ := hL
  have hql : ∀ p, Mb p = none → ∀ c, lvB σ c = true → A c ≠ p := fun p hp c hc => ne_fr hp (hR.1 c hc)
  have l4 : 0 < n → lvB σ 4 = true := fun h => lvB_iff.mpr (Or.inr (Or.inr (Or.inr (Or.inr (Or.inl ⟨rfl, by rw [← hn]; exact h⟩)))))
  have hd : (0 < n ∧ d' = A 4) ∨ (Mb d' = none ∧ d' ≠ q ∧ d' ≠ q1 ∧ d' ≠ q2) := by
    rcases e3 with h | h
    · exact Or.inl h
    · have a1 : d' ≠ q := fun z => by rw [z, hq] at h; cases h
      have a2 : d' ≠ q1 := fun z => by rw [z, hq1] at h; cases h
      have a3 : d' ≠ q2 := fun z => by rw [z, hq2] at h; cases h
      rw [fr2 _ a1 a2 a3] at h
      exact Or.inr ⟨h, a1, a2, a3⟩
  have hdl : ∀ c, lvB σ c = true → c ≠ 4 → A c ≠ d' := fun c hc c2 z => by
    rcases hd with ⟨h0, h1⟩ | ⟨h1, -⟩
    · exact c2 (hR.2.1 c 4 hc (l4 h0) (z.trans h1))
    · rw [← z, hR.1 c hc] at h1; cases h1
  have hdq : d' ≠ q ∧ d' ≠ q1 ∧ d' ≠ q2 := by
    rcases hd with ⟨h0, h1⟩ | ⟨-, h1⟩
    · rw [h1]; exact ⟨hql _ zq 4 (l4 h0), hql _ zq1 4 (l4 h0), hql _ zq2 4 (l4 h0)⟩
    · exact h1
  have n3 : ∀ p, Mb p = none → p ≠ A 3 := fun p hp => (ne_fr hp hR.lr).symm
  obtain ⟨A', hA'⟩ : ∃ A' : Nat → Nat, A' = fun c => if c = 4 then d' else if c = 30 + n then q else if c = 40 + n then q1 else if c = 60 + n then q2 else A c := ⟨_, rfl⟩
  have hA : ∀ c, ¬ c = 4 → ¬ c = 30 + n → ¬ c = 40 + n → ¬ c = 60 + n → A' c = A c := fun c h1 h2 h3 h4 => by rw [hA']; exact (if_neg h1).trans ((if_neg h2).trans ((if_neg h3).trans (if_neg h4)))
  have hA4 : A' 4 = d' := by rw [hA']; exact if_pos rfl
  have hAq : A' (30 + n) = q := by rw [hA']; exact (if_neg (by omega)).trans (if_pos rfl)
  have hA1 : A' (40 + n) = q1 := by rw [hA']; exact (if_neg (by omega)).trans ((if_neg (by omega)).trans (if_pos rfl))
  have hA2 : A' (60 + n) = q2 := by rw [hA']; exact (if_neg (by omega)).trans ((if_neg (by omega)).trans ((if_neg (by omega)).trans (if_pos rfl)))
  have t6 : σ'.1 6 0 = σ.1 6 0 := sN 6 0 (by decide) (by omega)
  have t17 : ∀ i, σ'.1 17 i = σ.1 17 i := fun i => sN 17 i (by decide) (by omega)
  have t41 : ∀ i, σ'.1 41 i = σ.1 41 i := fun i => sN 41 i (by decide) (by omega)
  have hlv : ∀ c, lvB σ' c = true → ¬ c = 4 → ¬ c = 30 + n → ¬ c = 40 + n → ¬ c = 60 + n → lvB σ c = true := by
    intro c hc c1 c2 c3 c4
    rw [lvB_iff] at hc ⊢
    simp only [t6, s18, t17, t41] at hc
    rcases hc with h | h | h | h | ⟨h, -⟩ | h | ⟨r, h, h1, h2⟩ | ⟨r, h, h1, h2⟩ | ⟨r, h, h1, h2, h3⟩ | ⟨r, h, h1, h2⟩ | h
    · exact Or.inl h
    · exact Or.inr (Or.inl h)
    · exact Or.inr (Or.inr (Or.inl h))
    · exact Or.inr (Or.inr (Or.inr (Or.inl h)))
    · exact absurd h c1
    · exact Or.inr (Or.inr (Or.inr (Or.inr (Or.inr (Or.inl h)))))
    · exact Or.inr (Or.inr (Or.inr (Or.inr (Or.inr (Or.inr (Or.inl ⟨r, h, by omega, h2⟩))))))
    · exact Or.inr (Or.inr (Or.inr (Or.inr (Or.inr (Or.inr (Or.inr (Or.inl ⟨r, h, by omega, h2⟩)))))))
    · have : ¬ r = n := fun z => by rw [z, hz.2.1] at h3; omega
      exact Or.inr (Or.inr (Or.inr (Or.inr (Or.inr (Or.inr (Or.inr (Or.inr (Or.inl ⟨r, h, by omega, h2, h3⟩))))))))
    · exact Or.inr (Or.inr (Or.inr (Or.inr (Or.inr (Or.inr (Or.inr (Or.inr (Or.inr (Or.inl ⟨r, h, by omega, h2⟩)))))))))
    · exact Or.inr (Or.inr (Or.inr (Or.inr (Or.inr (Or.inr (Or.inr (Or.inr (Or.inr (Or.inr h)))))))))
  refine ⟨A', hA 0 (by omega) (by omega) (by omega) (by omega), CM_grow hR (fun c => c = 3 ∨ c = 4 ∨ c = 30 + n ∨ c = 40 + n ∨ c = 60 + n) ?_ ?_ ?_ ?_ ?_⟩
  · intro c hc hS
    have c0 : ¬ c = 3 := fun z => hS (Or.inl z)
    have c1 : ¬ c = 4 := fun z => hS (Or.inr (Or.inl z))
    have c2 : ¬ c = 30 + n := fun z => hS (Or.inr (Or.inr (Or.inl z)))
    have c3 : ¬ c = 40 + n := fun z => hS (Or.inr (Or.inr (Or.inr (Or.inl z))))
    have c4 : ¬ c = 60 + n := fun z => hS (Or.inr (Or.inr (Or.inr (Or.inr z))))
    have hl := hlv c hc c1 c2 c3 c4
    refine ⟨hl, hA c c1 c2 c3 c4, ?_, ?_⟩
    · refine cV_gen (fun _ => ⟨hA 1 (by omega) (by omega) (by omega) (by omega), hA 3 (by omega) (by omega) (by omega) (by omega), sN 7 0 (by decide) (by omega), sN 30 0 (by decide) (by omega)⟩) (fun _ => ⟨t6, fun _ => hA 2 (by omega) (by omega) (by omega) (by omega)⟩) (fun _ => ⟨t6, fun i _ => hA _ (by omega) (by omega) (by omega) (by omega)⟩)
        (fun z => absurd z c0) (fun z => absurd z c1) (fun b z => ?_) (fun r z hr' => ?_)
        (fun r z hr' => ⟨t17 r, fun _ => hA _ (by omega) (by omega) (by omega) (by omega)⟩) (fun r z hr' => ⟨t17 r, fun e _ => ?_⟩)
        (fun r z hr' j' _ => ⟨t41 _, fun _ => hA _ (by omega) (by omega) (by omega) (by omega)⟩) (fun k' z => ?_)
      · unfold beF
        rw [sN 1 b (by decide) (by omega), sN 2 b (by decide) (by omega), sN 3 b (by decide) (by omega), sN 4 b (by decide) (by omega), sN 42 b (by decide) (by omega), sD]
      · have hne : ¬ r = n := by omega
        unfold roF
        rw [hA (40 + r) (by omega) (by omega) (by omega) (by omega), hA (60 + r) (by omega) (by omega) (by omega) (by omega), s16, sM 8 r (by decide) hne, sM 9 r (by decide) hne, sM 10 r (by decide) hne, sM 11 r (by decide) hne, sM 12 r (by decide) hne, sM 13 r (by decide) hne, sM 14 r (by decide) hne, sM 15 r (by decide) hne]
      · unfold whA
        rw [sN 19 _ (by decide) (by omega)]
        exact hA _ (by omega) (by omega) (by omega) (by omega)
      · subst z
        have hkk := lv_k hl
        have hlt := hk k' hkk.1 hkk.2
        unfold enF
        rw [sN 20 _ (by decide) (by omega), sN 21 _ (by decide) (by omega), sN 24 _ (by decide) (by omega), sN 25 _ (by decide) (by omega), sN 26 _ (by decide) (by omega), sN 27 _ (by decide) (by omega), sN 29 _ (by decide) (by omega), sK 22 k' hlt, sK 23 k' hlt, sK 28 k' hlt,
          enB_A (n := σ.1 6 0) (hbs k' hkk.1 hkk.2) h6 (fun b hb => hA _ (by omega) (by omega) (by omega) (by omega))]
    · rw [e6 (A c) (fun z => c0 (hR.2.1 c 3 hl rfl z)) (hdl c hl c1), fr2 _ (hql _ zq c hl) (hql _ zq1 c hl) (hql _ zq2 c hl)]
  · rintro c hc (rfl | rfl | rfl | rfl | rfl)
    · rw [hA _ (by omega) (by omega) (by omega) (by omega), e4]
      show _ = some (liV g A' 4 (σ'.1 18 0))
      rw [s18, liV_pos (by omega), hA4]
    · rw [hA4, e5]
      show _ = some (oE g (cpL (σ'.1 18 0)) (lF (fun i => A' (30 + i)) (σ'.1 18 0)))
      rw [s18]
      refine congrArg some (oE_f (lF_A (fun i hi => ?_)))
      by_cases h : i = n
      · rw [if_pos h, h, hAq]
      · rw [if_neg h, hA _ (by omega) (by omega) (by omega) (by omega)]
    · rw [hAq, e6 q (n3 q zq) hdq.1.symm, hq, cV_r h8]
      unfold roF
      rw [hA1, hA2, s16, hz.2.2, sN 15 n (by decide) (by omega), hz.1, sB 8 (by omega) (by omega), sB 9 (by omega) (by omega), sB 10 (by omega) (by omega), sB 11 (by omega) (by omega), sB 12 (by omega) (by omega), sB 13 (by omega) (by omega), sB 14 (by omega) (by omega)]
      rfl
    · rw [hA1, e6 q1 (n3 q1 zq1) hdq.2.1.symm, hq1, cV_l h8, t17, hz.2.1]
      rfl
    · rw [hA2, e6 q2 (n3 q2 zq2) hdq.2.2.symm, hq2, cV_y h8]
      unfold byV
      congr 8
      funext i
      by_cases h : i < 12 ∧ σ'.1 41 (12 * n + i) = 1
      · have h3 := h.2
        rw [t41] at h3
        have := hk _ (by omega) h3
        omega
      · rw [if_neg h]
  · rintro c hc (rfl | rfl | rfl | rfl | rfl)
    · exact Or.inl ⟨rfl, hA _ (by omega) (by omega) (by omega) (by omega)⟩
    · rw [hA4]
      rcases hd with ⟨h0, h1⟩ | ⟨h1, -⟩
      · exact Or.inl ⟨l4 h0, h1⟩
      · exact Or.inr h1
    · rw [hAq]; exact Or.inr zq
    · rw [hA1]; exact Or.inr zq1
    · rw [hA2]; exact Or.inr zq2
  · intro c c' hc hc' hS hS' z1 z2 e
    rcases hS with rfl | rfl | rfl | rfl | rfl
    · rw [hA _ (by omega) (by omega) (by omega) (by omega), hR.lr] at z1; cases z1
    · rcases hS' with rfl | rfl | rfl | rfl | rfl
      · rw [hA 3 (by omega) (by omega) (by omega) (by omega), hR.lr] at z2; cases z2
      · rfl
      · rw [hA4, hAq] at e; exact absurd e hdq.1
      · rw [hA4, hA1] at e; exact absurd e hdq.2.1
      · rw [hA4, hA2] at e; exact absurd e hdq.2.2
    · rcases hS' with rfl | rfl | rfl | rfl | rfl
      · rw [hA 3 (by omega) (by omega) (by omega) (by omega), hR.lr] at z2; cases z2
      · rw [hA4, hAq] at e; exact absurd e.symm hdq.1
      · rfl
      · rw [hAq, hA1] at e; exact absurd e d1
      · rw [hAq, hA2] at e; exact absurd e d2
    · rcases hS' with rfl | rfl | rfl | rfl | rfl
      · rw [hA 3 (by omega) (by omega) (by omega) (by omega), hR.lr] at z2; cases z2
      · rw [hA4, hA1] at e; exact absurd e.symm hdq.2.1
      · rw [hAq, hA1] at e; exact absurd e.symm d1
      · rfl
      · rw [hA1, hA2] at e; exact absurd e d3
    · rcases hS' with rfl | rfl | rfl | rfl | rfl
      · rw [hA 3 (by omega) (by omega) (by omega) (by omega), hR.lr] at z2; cases z2
      · rw [hA4, hA2] at e; exact absurd e.symm hdq.2.2
      · rw [hAq, hA2] at e; exact absurd e.symm d2
      · rw [hA1, hA2] at e; exact absurd e.symm d3
      · rfl
  · intro x hx
    have x1 : x ≠ A 3 := by have := hx 3 rfl; rw [hA 3 (by omega) (by omega) (by omega) (by omega)] at this; exact this
    have x2 : x ≠ d' := by have := hx 4 (lvB_iff.mpr (Or.inr (Or.inr (Or.inr (Or.inr (Or.inl ⟨rfl, by omega⟩)))))); rw [hA4] at this; exact this
    have x3 : x ≠ q := by have := hx (30 + n) (lv_r (by omega) h8); rw [hAq] at this; exact this
    have x4 : x ≠ q1 := by have := hx (40 + n) (lv_l (by omega) h8); rw [hA1] at this; exact this
    have x5 : x ≠ q2 := by have := hx (60 + n) (lv_y (by omega) h8); rw [hA2] at this; exact this
    rw [e6 x x1 x2, fr2 x x3 x4 x5]
