/-! new objects of the component -/
theorem lvB_iff {σ : ST} {c : Nat} : lvB σ c = true ↔ c = 0 ∨ c = 1 ∨ (c = 2 ∧ 0 < σ.1 6 0) ∨ c = 3 ∨ (c = 4 ∧ 0 < σ.1 18 0) ∨ (∃ b, c = 10 + b ∧ b < σ.1 6 0 ∧ b < 16) ∨ (∃ r, c = 30 + r ∧ r < σ.1 18 0 ∧ r < 8) ∨ (∃ r, c = 40 + r ∧ r < σ.1 18 0 ∧ r < 8) ∨ (∃ r, c = 50 + r ∧ r < σ.1 18 0 ∧ r < 8 ∧ 0 < σ.1 17 r) ∨ (∃ r, c = 60 + r ∧ r < σ.1 18 0 ∧ r < 8) ∨ (∃ k, c = 100 + k ∧ k < 96 ∧ σ.1 41 k = 1) := by
  constructor
  · intro h
    unfold lvB at h
    by_cases c0 : c = 0
    · exact Or.inl c0
    rw [if_neg c0] at h
    by_cases c1 : c = 1
    · exact Or.inr (Or.inl c1)
    rw [if_neg c1] at h
    by_cases c2 : c = 2
    · rw [if_pos c2] at h; exact Or.inr (Or.inr (Or.inl ⟨c2, of_decide_eq_true h⟩))
    rw [if_neg c2] at h
    by_cases c3 : c = 3
    · exact Or.inr (Or.inr (Or.inr (Or.inl c3)))
    rw [if_neg c3] at h
    by_cases c4 : c = 4
    · rw [if_pos c4] at h; exact Or.inr (Or.inr (Or.inr (Or.inr (Or.inl ⟨c4, of_decide_eq_true h⟩))))
    rw [if_neg c4] at h
    refine Or.inr (Or.inr (Or.inr (Or.inr (Or.inr ?_))))
    by_cases c5 : c < 30
    · rw [if_pos c5] at h
      simp only [Bool.and_eq_true, decide_eq_true_eq] at h
      exact Or.inl ⟨c - 10, by omega, h.1.2, by omega⟩
    rw [if_neg c5] at h
    refine Or.inr ?_
    by_cases c6 : c < 40
    · rw [if_pos c6] at h
      simp only [Bool.and_eq_true, decide_eq_true_eq] at h
      exact Or.inl ⟨c - 30, by omega, h.1, by omega⟩
    rw [if_neg c6] at h
    refine Or.inr ?_
    by_cases c7 : c < 50
    · rw [if_pos c7] at h
      simp only [Bool.and_eq_true, decide_eq_true_eq] at h
      exact Or.inl ⟨c - 40, by omega, h.1, by omega⟩
    rw [if_neg c7] at h
    refine Or.inr ?_
    by_cases c8 : c < 60
    · rw [if_pos c8] at h
      simp only [Bool.and_eq_true, decide_eq_true_eq] at h
      exact Or.inl ⟨c - 50, by omega, h.1.1, by omega, h.2⟩
    rw [if_neg c8] at h
    refine Or.inr ?_
    by_cases c9 : c < 100
    · rw [if_pos c9] at h
      simp only [Bool.and_eq_true, decide_eq_true_eq] at h
      exact Or.inl ⟨c - 60, by omega, h.1, by omega⟩
    rw [if_neg c9] at h
    simp only [Bool.and_eq_true, decide_eq_true_eq] at h
    exact Or.inr ⟨c - 100, by omega, by omega, h.2⟩
  · rintro (rfl | rfl | ⟨rfl, h⟩ | rfl | ⟨rfl, h⟩ | ⟨b, rfl, h1, h2⟩ | ⟨r, rfl, h1, h2⟩ | ⟨r, rfl, h1, h2⟩ | ⟨r, rfl, h1, h2, h3⟩ | ⟨r, rfl, h1, h2⟩ | ⟨k, rfl, h1, h2⟩)
    · rfl
    · rfl
    · exact decide_eq_true h
    · rfl
    · exact decide_eq_true h
    · exact lv_b h1 h2
    · exact lv_r h1 h2
    · exact lv_l h1 h2
    · exact lv_d h1 h2 h3
    · exact lv_y h1 h2
    · exact lv_e h2 h1
theorem CM_grow {g : GP} {A A' : Nat → Nat} {M0 Mb M9 : MM} {σ σ' : ST} (hR : CM g A M0 σ Mb) (S : Nat → Prop) [DecidablePred S]
    (h1 : ∀ c, lvB σ' c = true → ¬ S c → lvB σ c = true ∧ A' c = A c ∧ cV g A' σ' c = cV g A σ c ∧ M9 (A c) = Mb (A c))
    (h2 : ∀ c, lvB σ' c = true → S c → M9 (A' c) = some (cV g A' σ' c))
    (h5 : ∀ c, lvB σ' c = true → S c → (lvB σ c = true ∧ A' c = A c) ∨ Mb (A' c) = none)
    (h3 : ∀ c c', lvB σ' c = true → lvB σ' c' = true → S c → S c' → Mb (A' c) = none → Mb (A' c') = none → A' c = A' c' → c = c')
    (h4 : ∀ x, (∀ c, lvB σ' c = true → x ≠ A' c) → M9 x = Mb x) :
    CM g A' Mb σ' M9 ∧ ∀ c, lvB σ' c = true → (lvB σ c = true ∧ A' c = A c) ∨ Mb (A' c) = none := by
  have h6 : ∀ c, lvB σ' c = true → (lvB σ c = true ∧ A' c = A c) ∨ Mb (A' c) = none := fun c hc => by
    by_cases s : S c
    · exact h5 c hc s
    · exact Or.inl ⟨(h1 c hc s).1, (h1 c hc s).2.1⟩
  refine ⟨⟨fun c hc => ?_, fun c c' hc hc' e => ?_, h4⟩, h6⟩
  · by_cases s : S c
    · exact h2 c hc s
    · obtain ⟨a1, a2, a3, a4⟩ := h1 c hc s
      rw [a2, a3, a4]
      exact hR.1 c a1
  · rcases h6 c hc with ⟨k1, k2⟩ | k1
    · rcases h6 c' hc' with ⟨k3, k4⟩ | k3
      · exact hR.2.1 c c' k1 k3 (by rw [← k2, ← k4]; exact e)
      · rw [← e, k2, hR.1 c k1] at k3
        cases k3
    · rcases h6 c' hc' with ⟨k3, k4⟩ | k3
      · rw [e, k4, hR.1 c' k3] at k1
        cases k1
      · refine h3 c c' hc hc' ?_ ?_ k1 k3 e
        · by_cases s : S c
          · exact s
          · obtain ⟨a1, a2, -, -⟩ := h1 c hc s
            rw [a2, hR.1 c a1] at k1
            cases k1
        · by_cases s : S c'
          · exact s
          · obtain ⟨a1, a2, -, -⟩ := h1 c' hc' s
            rw [a2, hR.1 c' a1] at k3
            cases k3
theorem liV_A {g : GP} {A A' : Nat → Nat} {c n : Nat} (h : 0 < n → A' c = A c) : liV g A' c n = liV g A c n := by
  unfold liV
  by_cases h0 : n = 0
  · rw [if_pos h0, if_pos h0]
  · rw [if_neg h0, if_neg h0, h (by omega)]
theorem lF_A {f f' : Nat → Nat} {n : Nat} (h : ∀ i, i < n → f' i = f i) : lF f' n = lF f n := by
  funext i
  unfold lF
  by_cases h0 : i < n
  · rw [if_pos h0, if_pos h0, h i h0]
  · rw [if_neg h0, if_neg h0]
theorem cV_gen {g : GP} {A A' : Nat → Nat} {σ σ' : ST} {c : Nat}
    (h0 : c = 0 → A' 1 = A 1 ∧ A' 3 = A 3 ∧ σ'.1 7 0 = σ.1 7 0 ∧ σ'.1 30 0 = σ.1 30 0)
    (h1 : c = 1 → σ'.1 6 0 = σ.1 6 0 ∧ (0 < σ.1 6 0 → A' 2 = A 2))
    (h2 : c = 2 → σ'.1 6 0 = σ.1 6 0 ∧ ∀ i, i < σ.1 6 0 → A' (10 + i) = A (10 + i))
    (h3 : c = 3 → σ'.1 18 0 = σ.1 18 0 ∧ (0 < σ.1 18 0 → A' 4 = A 4))
    (h4 : c = 4 → σ'.1 18 0 = σ.1 18 0 ∧ ∀ i, i < σ.1 18 0 → A' (30 + i) = A (30 + i))
    (hb : ∀ b, c = 10 + b → beF σ' b = beF σ b)
    (hr : ∀ r, c = 30 + r → r < 10 → roF A' σ' r = roF A σ r)
    (hl : ∀ r, c = 40 + r → r < 10 → σ'.1 17 r = σ.1 17 r ∧ (0 < σ.1 17 r → A' (50 + r) = A (50 + r)))
    (hd : ∀ r, c = 50 + r → r < 10 → σ'.1 17 r = σ.1 17 r ∧ ∀ e, e < σ.1 17 r → whA A' σ' r e = whA A σ r e)
    (hy : ∀ r, c = 60 + r → r < 40 → ∀ j, j < 12 → (σ'.1 41 (12 * r + j) = σ.1 41 (12 * r + j) ∧ (σ.1 41 (12 * r + j) = 1 → A' (100 + (12 * r + j)) = A (100 + (12 * r + j)))))
    (he : ∀ k, c = 100 + k → enF A' σ' k = enF A σ k) : cV g A' σ' c = cV g A σ c := by
  unfold cV
  by_cases c0 : c = 0
  · obtain ⟨a1, a2, a3, a4⟩ := h0 c0
    rw [if_pos c0, if_pos c0, a1, a2, a3, a4]
  rw [if_neg c0, if_neg c0]
  by_cases c1 : c = 1
  · obtain ⟨a1, a2⟩ := h1 c1
    rw [if_pos c1, if_pos c1, a1, liV_A a2]
  rw [if_neg c1, if_neg c1]
  by_cases c2 : c = 2
  · obtain ⟨a1, a2⟩ := h2 c2
    rw [if_pos c2, if_pos c2, a1, lF_A (f := fun i => A (10 + i)) a2]
  rw [if_neg c2, if_neg c2]
  by_cases c3 : c = 3
  · obtain ⟨a1, a2⟩ := h3 c3
    rw [if_pos c3, if_pos c3, a1, liV_A a2]
  rw [if_neg c3, if_neg c3]
  by_cases c4 : c = 4
  · obtain ⟨a1, a2⟩ := h4 c4
    rw [if_pos c4, if_pos c4, a1, lF_A (f := fun i => A (30 + i)) a2]
  rw [if_neg c4, if_neg c4]
  by_cases c5 : c < 30
  · rw [if_pos c5, if_pos c5]
    by_cases c6 : 10 ≤ c
    · rw [if_pos c6, if_pos c6, hb (c - 10) (by omega)]
    · rw [if_neg c6, if_neg c6]
  rw [if_neg c5, if_neg c5]
  by_cases c6 : c < 40
  · rw [if_pos c6, if_pos c6, hr (c - 30) (by omega) (by omega)]
  rw [if_neg c6, if_neg c6]
  by_cases c7 : c < 50
  · obtain ⟨a1, a2⟩ := hl (c - 40) (by omega) (by omega)
    rw [if_pos c7, if_pos c7, a1, show 10 + c = 50 + (c - 40) by omega, liV_A a2]
  rw [if_neg c7, if_neg c7]
  by_cases c8 : c < 60
  · obtain ⟨a1, a2⟩ := hd (c - 50) (by omega) (by omega)
    rw [if_pos c8, if_pos c8, a1, lF_A a2]
  rw [if_neg c8, if_neg c8]
  by_cases c9 : c < 100
  · rw [if_pos c9, if_pos c9]
    have := hy (c - 60) (by omega) (by omega)
    unfold byV
    congr 7
    funext j
    by_cases hj : j < 12
    · obtain ⟨a1, a2⟩ := this j hj
      rw [a1]
      by_cases h41 : σ.1 41 (12 * (c - 60) + j) = 1
      · rw [if_pos ⟨hj, h41⟩, if_pos ⟨hj, h41⟩, a2 h41]
      · rw [if_neg (fun z => h41 z.2), if_neg (fun z => h41 z.2)]
    · rw [if_neg (fun z => hj z.1), if_neg (fun z => hj z.1)]
  rw [if_neg c9, if_neg c9, he (c - 100) (by omega)]
/-- an element more in a list -/
def LPP (g : GP) (M : MM) (A : Nat → Nat) (a0 c n v : Nat) (ad : Nat → Nat) (M9 : MM) : Prop := ∃ d', ((0 < n ∧ d' = A c) ∨ M d' = none) ∧ M9 a0 = some (lE (nI (n + 1)) (nI (n + 1)) d') ∧ M9 d' = some (oE g (cpL (n + 1)) (lF (fun i => if i = n then v else ad i) (n + 1))) ∧ ∀ x9, x9 ≠ a0 → x9 ≠ d' → M9 x9 = M x9
theorem c_lapp {l : Launch} (hl : l.stackTraces = false) {g : GP} {M : MM} {A : Nat → Nat} {a0 c n v : Nat} {ad : Nat → Nat} {vs : List Value} {ci N : Nat} {C : String} {T : u_T} (hL : M a0 = some (liV g A c n)) (hD : 0 < n → M (A c) = some (oE g (cpL n) (lF ad n))) (h22 : n < 22) (hv : vwCl[ci]? = some (C, T, N)) (hca : (C, "java/lang/Object") ∈ CCl) (hel : ∀ i9, i9 < n → ∃ fs9, M (ad i9) = some (.inr (ci, fs9))) (hV : M v = some (.inr (ci, vs))) (hc0 : ¬ ci = 0) : CT l g yJx4a65c_add_9ea2d cJx4a65c_add_9ea2d 2 (some .boolean) 6 165 1 22 [.ref a0, .ref v] M (pI (fun r9 M9 => r9 = nI 1 ∧ LPP g M A a0 c n v ad M9)) nX := by
  have e : (if n = n then v else ad n) = v := if_pos rfl
  have eL : ∀ i, i < n → (fun i => if i = n then v else ad i) i = ad i := fun i hi => if_neg (by omega)
  have h := c_ladd hl (g := g) (M := M) (q := a0) (d := if n = 0 then gA g 0 else A c) (n := n) (ad := fun i => if i = n then v else ad i) (vs := vs) (ci := ci) hL (fun h0 => if_pos h0) (fun h0 => by
    rw [if_neg (by omega), lF_A eL]; exact hD h0) h22 hv hca (fun i hi => by rw [if_neg (show ¬ i = n by omega)]; exact hel i hi) (by rw [e]; exact hV) hc0
  rw [e] at h
  have e2 : ∀ M9, LAP g M a0 (if n = 0 then gA g 0 else A c) n (cpL (n + 1)) (nI (n + 1)) (fun i => if i = n then v else ad i) M9 ↔ LPP g M A a0 c n v ad M9 := by
    intro M9
    constructor
    · rintro ⟨d', h1, h2⟩
      refine ⟨d', ?_, h2⟩
      rcases h1 with ⟨h0, h1⟩ | h1
      · rw [if_neg (by omega)] at h1
        exact Or.inl ⟨h0, h1⟩
      · exact Or.inr h1
    · rintro ⟨d', h1, h2⟩
      refine ⟨d', ?_, h2⟩
      rcases h1 with ⟨h0, h1⟩ | h1
      · exact Or.inl ⟨h0, by rw [if_neg (by omega)]; exact h1⟩
      · exact Or.inr h1
  simp only [e2] at h
  exact h
