/-! draws, rides, answers, pays keep it -/
theorem bitL_ge {w : Int64} {d : Nat} (h : 64 ≤ d) : bitL w d = false := BitVec.getLsbD_of_ge _ _ h
theorem bitD_b {day d : Nat} (hd : day < 64) : bitL (bitD day) d = decide (d = day) := by
  by_cases z : d < 64
  · exact bitD_all day hd d z
  · rw [bitL_ge (by omega), decide_eq_false (by omega)]
/-- the beast that is drawn has rested -/
theorem drw_rest {σ : ST} {r day b : Nat} (h : canS σ r day b = true) : ∀ d, d = day ∨ d + 1 = day ∨ d = day + 1 → bitL (σ.2.2 b) d = false := by
  unfold canS at h
  have h2 := (Bool.and_eq_true_iff.mp h).2
  unfold restS at h2
  have h3 := fun i hi => rest1_iff.mp (allB_iff.mp h2 i hi)
  intro d hd
  by_cases z : d < 64
  · rcases hd with rfl | hd | rfl
    · have := h3 1 (by decide)
      rw [Nat.add_sub_cancel] at this
      rcases this with y | y | y
      · omega
      · omega
      · exact y
    · have := h3 0 (by decide)
      rw [show day + 0 - 1 = d by omega] at this
      rcases this with y | y | y
      · omega
      · omega
      · exact y
    · have := h3 2 (by decide)
      rw [show day + 2 - 1 = day + 1 by omega] at this
      rcases this with y | y | y
      · omega
      · omega
      · exact y
  · exact bitL_ge (by omega)
theorem drw_f2 {σ : ST} {r j : Nat} (h6 : σ.1 6 0 ≤ 16) : ∃ (v24 : Nat) (v23 : Int32), (∀ i, (drwU σ r j).1 24 i = if i = 12 * r + j then v24 else σ.1 24 i) ∧ (∀ i, (drwU σ r j).2.1 23 i = if i = 12 * r + j then v23 else σ.2.1 23 i) ∧
    ((v24 = 0 ∧ v23 = -1 ∧ (drwU σ r j).2.2 = σ.2.2) ∨
     (v24 = 1 ∧ ∃ b0, b0 < σ.1 6 0 ∧ v23 = nI b0 ∧ (∀ d, d = dayS σ r j ∨ d + 1 = dayS σ r j ∨ d = dayS σ r j + 1 → bitL (σ.2.2 b0) d = false) ∧ ∀ b, (drwU σ r j).2.2 b = if b = b0 then σ.2.2 b0 ||| bitD (dayS σ r j) else σ.2.2 b)) := by
  by_cases c : manS σ r (dayS σ r j) = 0
  · refine ⟨0, -1, ?_, ?_, Or.inl ⟨rfl, rfl, ?_⟩⟩
    · intro i; unfold drwU; rw [if_pos c]; simp [uN, uR]
    · intro i; unfold drwU; rw [if_pos c]; simp [uN, uR]
    · unfold drwU; rw [if_pos c]; rfl
  · obtain ⟨b, hb, hcan, -, hv⟩ := drwF_some c
    have hb31 : b < 2 ^ 31 := by omega
    refine ⟨1, nI b, ?_, ?_, Or.inr ⟨rfl, b, hb, rfl, drw_rest hcan, ?_⟩⟩
    · intro i; unfold drwU; rw [if_neg c]; simp [uN, uR, uD]
    · intro i; unfold drwU; rw [if_neg c, hv]; simp [uN, uR, uD]
    · intro b'; unfold drwU; rw [if_neg c, hv, cl_nI hb31]
      rfl
/-- all but one entry -/
def JX (f : Nat → Nat) (σ : ST) (r0 j0 : Nat) : Prop := (∀ r j, r < σ.1 18 0 → j < 12 → ¬ 12 * r + j = 12 * r0 + j0 → EJ σ (f r) r j) ∧ (∀ r, r < σ.1 18 0 → MJ σ (f r) r) ∧ ∀ b, BJ σ b
theorem JV_drw {f : Nat → Nat} {σ : ST} {r j : Nat} (h : JX f σ r j) (h6 : σ.1 6 0 ≤ 16) (hr : r < σ.1 18 0) (hj : j < 12) (hf : f r = 2) (hd : dayS σ r j < 64) (k7 : j < σ.1 7 0) (k22 : ¬ σ.2.1 22 (12 * r + j) = -1) (k28 : σ.2.1 28 (12 * r + j) = -1) (k26 : σ.1 26 (12 * r + j) = 0) (k27 : σ.1 27 (12 * r + j) = 0) (k29 : σ.1 29 (12 * r + j) = 0) : JV f (drwU σ r j) := by
  obtain ⟨v24, v23, f24, f23, hv⟩ := drw_f2 (σ := σ) (r := r) (j := j) h6
  obtain ⟨τ, ht⟩ : ∃ τ, τ = drwU σ r j := ⟨_, rfl⟩
  have eN : ∀ s k, s ≠ 24 ∧ s ≠ 30 ∧ s ≠ 42 → τ.1 s k = σ.1 s k := fun s k hs => by rw [ht, drwU_N hs]
  have eR : ∀ s k, s ≠ 23 → τ.2.1 s k = σ.2.1 s k := fun s k hs => by rw [ht, drwU_R hs]
  rw [← ht] at f24 f23 hv ⊢
  have eb : ∀ b d, bitL (σ.2.2 b) d = true → bitL (τ.2.2 b) d = true := by
    intro b d y
    rcases hv with ⟨-, -, e⟩ | ⟨-, b0, -, -, -, e⟩
    · rw [e]; exact y
    · rw [e]
      by_cases z : b = b0
      · rw [if_pos z, bitL_or, ← z, y]; rfl
      · rw [if_neg z]; exact y
  refine ⟨fun r' j' hr' hj' => ?_, fun r' hr' => ?_, fun b => ?_⟩
  · rw [eN 18 0 (by decide)] at hr'
    by_cases z : 12 * r' + j' = 12 * r + j
    · have e1 : r' = r := by omega
      have e2 : j' = j := by omega
      subst e1 e2
      refine ⟨fun _ => ?_, fun y => ?_, fun y => ⟨?_, ?_, by omega⟩, fun y _ => ?_, fun y => ⟨?_, hf, ?_⟩, fun y => ?_, fun y => ?_, fun y => ?_, fun y => ?_⟩
      · rw [eN 7 0 (by decide)]; exact k7
      · omega
      · rw [f23, if_pos rfl] at y
        rcases hv with ⟨-, e, -⟩ | ⟨-, b0, hb0, e, -, e2⟩
        · exact absurd e y
        · refine ⟨b0, by rw [eN 6 0 (by decide)]; exact hb0, by rw [f23, if_pos rfl]; exact e, ?_⟩
          have ed : dayS τ r' j' = dayS σ r' j' := by unfold dayS; rw [eN 10 _ (by decide), eR 22 _ (by decide)]
          rw [ed, e2, if_pos rfl, bitL_or, bitD_b hd, decide_eq_true rfl, Bool.or_true]
      · rw [eR 22 _ (by decide)]; exact k22
      · rw [f24, if_pos rfl]
        rw [f23, if_pos rfl] at y
        rcases hv with ⟨-, e, -⟩ | ⟨e, -⟩
        · exact absurd e y
        · omega
      · rw [eR 28 _ (by decide)]; exact k28
      · rw [f24, if_pos rfl] at y
        rw [f23, if_pos rfl]
        rcases hv with ⟨e, -⟩ | ⟨-, b0, hb0, e, -⟩
        · exact absurd e y
        · rw [e]; exact nI_m1 (by omega)
      · rw [eR 28 _ (by decide)] at y; exact absurd k28 y
      · rw [eN 26 _ (by decide)] at y; exact absurd k26 y
      · rw [eN 27 _ (by decide)] at y; exact absurd k27 y
      · rw [eN 29 _ (by decide)] at y; exact absurd k29 y
    · exact EJ_up (h.1 r' j' hr' hj' z) (eN 41 _ (by decide)) (Nat.le_of_eq (eN 7 _ (by decide)).symm) (Nat.le_of_eq (eN 6 _ (by decide)).symm) (eR 22 _ (by decide)) (by rw [f23, if_neg z]) (eR 28 _ (by decide)) (by rw [f24, if_neg z]) (eN 26 _ (by decide)) (eN 27 _ (by decide)) (eN 29 _ (by decide)) (eN 10 _ (by decide)) eb
  · rw [eN 18 0 (by decide)] at hr'
    exact MJ_up (h.2.1 r' hr') (eR 16 _ (by decide)) (eN 13 _ (by decide)) (eN 14 _ (by decide)) (fun j hj => eN 29 _ (by decide)) (fun j hj => eR 22 _ (by decide))
  · obtain ⟨⟨b1, b2⟩, b3⟩ := h.2.2 b
    refine ⟨by rw [eN 2 _ (by decide), eN 3 _ (by decide), eN 4 _ (by decide)]; exact ⟨b1, b2⟩, fun d y => ?_⟩
    rcases hv with ⟨-, -, e⟩ | ⟨-, b0, -, -, hrest, e⟩
    · rw [e] at y ⊢; exact b3 d y
    · rw [e] at y ⊢
      by_cases z : b = b0
      · rw [if_pos z, bitL_or, bitD_b hd, Bool.or_eq_true, decide_eq_true_eq, ← z] at y
        rw [if_pos z, bitL_or, bitD_b hd, ← z]
        rw [← z] at hrest
        rcases y with y | y
        · rw [b3 d y, Bool.false_or]
          refine decide_eq_false (fun y2 => ?_)
          rw [hrest d (Or.inr (Or.inl y2))] at y; cases y
        · rw [hrest (d + 1) (Or.inr (Or.inr (by omega))), Bool.false_or]
          exact decide_eq_false (by omega)
      · rw [if_neg z] at y ⊢; exact b3 d y
theorem JV_X {f : Nat → Nat} {σ : ST} {r j : Nat} (h : JV f σ) : JX f σ r j := ⟨fun r' j' hr hj _ => h.1 r' j' hr hj, h.2.1, h.2.2⟩
/-- the rows of a rodeo that is drawn -/
theorem JV_drE {c : Nat} {f : Nat → Nat} {σ : ST} {r p : Nat} (hA : InvA c σ) (h : JV f σ) (hf : f r = 2) (hr : r < σ.1 18 0) (hp : p < 4) (k28 : ∀ j, j < 12 → σ.2.1 28 (12 * r + j) = -1) (k26 : ∀ j, j < 12 → σ.1 26 (12 * r + j) = 0) : ∀ e, e ≤ σ.1 17 r → JV f (drE σ r p e)
  | 0, _ => h
  | e + 1, he => by
    have ih := JV_drE hA h hf hr hp k28 k26 e (by omega)
    have hA2 := InvA_drE hA hr hp e (by omega)
    have hw := (hA.2.2.1 r hr).1 e (by omega)
    unfold whS at hw
    by_cases z : σ.2.1 22 (12 * r + σ.1 19 (12 * r + e)) = nI p
    · rw [drE_t z]
      have z2 : ¬ (drE σ r p e).2.1 22 (12 * r + σ.1 19 (12 * r + e)) = -1 := by
        rw [drE_R (by decide), z]
        exact nI_m1 (by omega)
      have q18 : r < (drE σ r p e).1 18 0 := by rw [drE_N (by decide)]; exact hr
      have hE := ih.1 r _ q18 hw.1
      have q28 : (drE σ r p e).2.1 28 (12 * r + σ.1 19 (12 * r + e)) = -1 := by rw [drE_R (by decide)]; exact k28 _ hw.1
      refine JV_drw (JV_X ih) hA2.1.1 q18 hw.1 hf (day_lt hA2.1 q18 hw.1 z2) (hE.1 (by rw [drE_N (by decide)]; exact hw.2)) z2 q28 (by rw [drE_N (by decide)]; exact k26 _ hw.1) ?_ ?_
      · exact Classical.byContradiction (fun y => hE.2.2.2.2.2.2.2.1 y q28)
      · exact Classical.byContradiction (fun y => (hE.2.2.2.2.2.2.2.2 y).2 q28)
    · rw [drE_f z]; exact ih
theorem JV_drP {c : Nat} {f : Nat → Nat} {σ : ST} {r : Nat} (hA : InvA c σ) (h : JV f σ) (hf : f r = 2) (hr : r < σ.1 18 0) (k28 : ∀ j, j < 12 → σ.2.1 28 (12 * r + j) = -1) (k26 : ∀ j, j < 12 → σ.1 26 (12 * r + j) = 0) : ∀ p, p ≤ 4 → JV f (drP σ r p)
  | 0, _ => h
  | p + 1, hp => by
    have ih := JV_drP hA h hf hr k28 k26 p (by omega)
    have e17 : (drP σ r p).1 17 = σ.1 17 := drP_N (by decide) p
    show JV f (drE (drP σ r p) r p (σ.1 17 r))
    exact JV_drE (InvA_drP hA hr p (by omega)) ih hf (by rw [drP_N (by decide)]; exact hr) (by omega) (fun j hj => by rw [drP_R (by decide)]; exact k28 j hj) (fun j hj => by rw [drP_N (by decide)]; exact k26 j hj) _ (by rw [e17]; exact Nat.le_refl _)
/-- closed, then drawn -/
theorem JV_12 {c r : Nat} {σ : ST} (hI : Inv c σ) (h : JV (σ.1 15) σ) (hr : r < σ.1 18 0) (h15 : σ.1 15 r = 1) : (∀ j, j < 12 → σ.2.1 28 (12 * r + j) = -1 ∧ σ.1 26 (12 * r + j) = 0) ∧ JV (fun i => if i = r then 2 else σ.1 15 i) σ := by
  have key : ∀ j, j < 12 → σ.2.1 28 (12 * r + j) = -1 ∧ σ.1 26 (12 * r + j) = 0 := fun j hj => by
    have hs := hI.st r j hr hj (by omega)
    exact ⟨Classical.byContradiction (fun y => (h.1 r j hr hj).2.2.2.2.2.1 y hs.1), hs.2.2⟩
  refine ⟨key, fun r' j hr' hj => ?_, fun r' hr' => ?_, h.2.2⟩
  · have h9 := h.1 r' j hr' hj
    show EJ σ (if r' = r then 2 else σ.1 15 r') r' j
    by_cases z : r' = r
    · subst z
      rw [if_pos rfl]
      have hs := hI.st r' j hr' hj (by omega)
      have q28 := (key j hj).1
      exact EJ_0 h9.1 (fun y => by cases y) hs.1 q28 hs.2.1 hs.2.2 (Classical.byContradiction (fun y => h9.2.2.2.2.2.2.2.1 y q28)) (Classical.byContradiction (fun y => (h9.2.2.2.2.2.2.2.2 y).2 q28))
    · rw [if_neg z]; exact h9
  · have h9 := h.2.1 r' hr'
    show MJ σ (if r' = r then 2 else σ.1 15 r') r'
    by_cases z : r' = r
    · rw [if_pos z]
      exact ⟨fun y => absurd y (by decide), fun _ => h9.2 (by rw [z]; omega)⟩
    · rw [if_neg z]; exact h9
theorem JV_draw {c r : Nat} {σ : ST} (hI : Inv c σ) (h : JV (σ.1 15) σ) (hr : r < σ.1 18 0) (h15 : σ.1 15 r = 1) : JV ((drnU σ r).1 15) (drnU σ r) := by
  obtain ⟨key, h2⟩ := JV_12 hI h hr h15
  have h11 := (hI.B.2.2.2.1 r (by have := hI.B.2.2.1; omega)).2.2.1
  have h3 := JV_drP (Inv_A hI) h2 (if_pos rfl) hr (fun j hj => (key j hj).1) (fun j hj => (key j hj).2) (σ.1 11 r) h11
  have e15 : ∀ i, (drnU σ r).1 15 i = if i = r then 2 else σ.1 15 i := fun i => by
    show (if 15 = 15 ∧ i = r then 2 else (drP σ r (σ.1 11 r)).1 15 i) = _
    rw [drP_N (by decide)]
    simp
  have h4 : JV (fun i => if i = r then 2 else σ.1 15 i) (drnU σ r) := h3
  exact JV_f h4 (fun r' _ => e15 r')
theorem mkB_le {q : Nat} (h : q ≤ 456975) : mkB q ≤ 50 := by unfold mkB; omega
theorem JV_ride {c : Nat} {σ : ST} {x0 y0 mk w : Int32} {f : Bool} (hI : Inv c σ) (h : JV (σ.1 15) σ) (hz : cdRi σ x0 y0 mk w = 0) : JV ((ridU σ (12 * cl x0 + cl y0) (cl (σ.2.1 23 (12 * cl x0 + cl y0))) (cl mk) (cl w) f).1 15) (ridU σ (12 * cl x0 + cl y0) (cl (σ.2.1 23 (12 * cl x0 + cl y0))) (cl mk) (cl w) f) := by
  obtain ⟨r, j, b, q, hr, hj, hb, hq, e1, e2, e3, h15, h24, h23, h41⟩ := cdRi_3 hI hz
  have k6 := hI.B.1
  rw [e1, e2, e3, h23, cl_nI (n := b) (by omega)]
  have h9 := h.1 r j hr hj
  obtain ⟨τ, ht⟩ : ∃ τ, τ = ridU σ (12 * r + j) b q (cl w) f := ⟨_, rfl⟩
  have eN : ∀ s i, ¬ (s = 2 ∨ s = 3 ∨ s = 4 ∨ s = 24 ∨ s = 26 ∨ s = 27) → τ.1 s i = σ.1 s i := fun s i hs => by
    rw [ht]; unfold ridU
    simp only [uN, uR]
    rw [if_neg (by omega), if_neg (by omega), if_neg (by omega), if_neg (by omega), if_neg (by omega), if_neg (by omega)]
  have eO : ∀ s i, ¬ (s = 2 ∨ s = 3 ∨ s = 4) → ¬ i = 12 * r + j → τ.1 s i = σ.1 s i := fun s i hs hi => by
    rw [ht]; unfold ridU
    simp only [uN, uR]
    rw [if_neg (by omega), if_neg (by omega), if_neg (by omega), if_neg (by omega), if_neg (by omega), if_neg (by omega)]
  have e24 : τ.1 24 (12 * r + j) = 0 := by rw [ht]; unfold ridU; simp [uN, uR]
  have eR : ∀ s i, ¬ (s = 28 ∧ i = 12 * r + j) → τ.2.1 s i = σ.2.1 s i := fun s i hs => by rw [ht]; unfold ridU; simp only [uN, uR]; rw [if_neg hs]
  have e28 : ¬ τ.2.1 28 (12 * r + j) = -1 := by
    have e : τ.2.1 28 (12 * r + j) = if rcS (cl w) f then nI (mkA q) else nI 0 := by rw [ht]; unfold ridU; simp [uN, uR]
    rw [e]
    split
    · refine nI_m1 ?_
      unfold mkA; omega
    · exact nI_m1 (by decide)
  have eD : τ.2.2 = σ.2.2 := by rw [ht]; rfl
  have e234 : ∀ i, τ.1 2 i = (if i = b then σ.1 2 b + 1 else σ.1 2 i) ∧ τ.1 3 i = (if i = b then σ.1 3 b + (if rcS (cl w) f then 0 else 1) else σ.1 3 i) ∧ τ.1 4 i = (if i = b then σ.1 4 b + mkB q else σ.1 4 i) := fun i => by
    rw [ht]; unfold ridU
    simp [uN, uR]
  rw [← ht]
  refine ⟨fun r' j' hr' hj' => ?_, fun r' hr' => ?_, fun b' => ?_⟩
  · rw [eN 18 0 (by decide)] at hr'
    rw [eN 15 r' (by decide)]
    by_cases z : 12 * r' + j' = 12 * r + j
    · have z1 : r' = r := by omega
      have z2 : j' = j := by omega
      subst z1 z2
      rw [h15] at h9 ⊢
      obtain ⟨h1, h2, h3, h4, h5, h6, h7, h8, h0⟩ := h9
      have q23 : ¬ σ.2.1 23 (12 * r' + j') = -1 := by rw [h23]; exact nI_m1 (by omega)
      refine ⟨?_, ?_, ?_, fun _ y => absurd y e28, fun y => absurd e24 y, fun _ => ?_, fun _ => ⟨rfl, e28⟩, fun _ => e28, fun y => ?_⟩
      · rw [eN 41 _ (by decide), eN 7 _ (by decide)]; exact h1
      · rw [eR 22 _ (by simp)]; exact h2
      · have ed : dayS τ r' j' = dayS σ r' j' := by unfold dayS; rw [eN 10 _ (by decide), eR 22 _ (by simp)]
        rw [eR 23 _ (by simp), eR 22 _ (by simp), ed, eD, eN 6 _ (by decide)]; exact h3
      · rw [eR 23 _ (by simp)]; exact q23
      · rw [eN 29 _ (by decide)] at y
        exact absurd (h0 y).1 (by decide)
    · exact EJ_up (h.1 r' j' hr' hj') (eN 41 _ (by decide)) (Nat.le_of_eq (eN 7 _ (by decide)).symm) (Nat.le_of_eq (eN 6 _ (by decide)).symm) (eR 22 _ (by simp)) (eR 23 _ (by simp)) (eR 28 _ (fun y => z y.2)) (eO 24 _ (by decide) z) (eO 26 _ (by decide) z) (eO 27 _ (by decide) z) (eN 29 _ (by decide)) (eN 10 _ (by decide)) (fun b d y => by rw [eD]; exact y)
  · rw [eN 18 0 (by decide)] at hr'
    rw [eN 15 r' (by decide)]
    exact MJ_up (h.2.1 r' hr') (eR 16 _ (by simp)) (eN 13 _ (by decide)) (eN 14 _ (by decide)) (fun j hj => eN 29 _ (by decide)) (fun j hj => eR 22 _ (by simp))
  · obtain ⟨⟨b1, b2⟩, b3⟩ := h.2.2 b'
    obtain ⟨q2, q3, q4⟩ := e234 b'
    refine ⟨?_, by rw [eD]; exact b3⟩
    rw [q2, q3, q4]
    by_cases z : b' = b
    · subst z
      rw [if_pos rfl, if_pos rfl, if_pos rfl]
      have := mkB_le hq
      constructor
      · split <;> omega
      · omega
    · rw [if_neg z, if_neg z, if_neg z]; exact ⟨b1, b2⟩
theorem JV_answer {c : Nat} {σ : ST} {x0 y0 : Int32} {f : Bool} (hI : Inv c σ) (h : JV (σ.1 15) σ) (hz : cdAn σ x0 y0 = 0) : JV ((ansU σ (cl x0) (cl y0) f).1 15) (ansU σ (cl x0) (cl y0) f) := by
  obtain ⟨r, j, hr, hj, e1, e2, hn⟩ := cdAn_2 hI.B.2.2.1 hI.B.2.1 hz
  rw [e1, e2]
  have h9 := h.1 r j hr hj
  have h15 := (h9.2.2.2.2.2.2.1 hn).1
  have k28 := (h9.2.2.2.2.2.2.1 hn).2
  have h41 : σ.1 41 (12 * r + j) = 1 := by
    by_cases z : σ.1 41 (12 * r + j) = 1
    · exact z
    · exact absurd (hI.D r j hr hj z).2.2.2.1 hn
  have hp := hI.pl r j hr hj hn
  have k18 := hI.B.2.2.1
  cases f with
  | false =>
    have hU : ansU σ r j false = uN σ 26 (12 * r + j) 0 := rfl
    rw [hU]
    obtain ⟨τ, ht⟩ : ∃ τ, τ = uN σ 26 (12 * r + j) 0 := ⟨_, rfl⟩
    have eN : ∀ s i, ¬ s = 26 → τ.1 s i = σ.1 s i := fun s i hs => by rw [ht]; exact if_neg (fun y => hs y.1)
    have e26 : ∀ i, τ.1 26 i = if i = 12 * r + j then 0 else σ.1 26 i := fun i => by rw [ht]; simp [uN]
    have eR : τ.2 = σ.2 := by rw [ht]; rfl
    rw [← ht]
    refine ⟨fun r' j' hr' hj' => ?_, fun r' hr' => ?_, fun b => BJ_up (h.2.2 b) (eN 2 _ (by decide)) (eN 3 _ (by decide)) (eN 4 _ (by decide)) (by rw [eR])⟩
    · rw [eN 18 0 (by decide)] at hr'
      rw [eN 15 r' (by decide)]
      obtain ⟨h1, h2, h3, h4, h5, h6, h7, h8, h0⟩ := h.1 r' j' hr' hj'
      have ed : dayS τ r' j' = dayS σ r' j' := by unfold dayS; rw [eN 10 _ (by decide), eR]
      unfold EJ
      rw [eR, eN 41 _ (by decide), eN 7 _ (by decide), eN 6 _ (by decide), eN 24 _ (by decide), eN 27 _ (by decide), eN 29 _ (by decide), ed]
      refine ⟨h1, h2, h3, h4, h5, h6, fun y => ?_, h8, h0⟩
      rw [e26] at y
      by_cases z : 12 * r' + j' = 12 * r + j
      · rw [if_pos z] at y; exact absurd rfl y
      · rw [if_neg z] at y; exact h7 y
    · rw [eN 18 0 (by decide)] at hr'
      rw [eN 15 r' (by decide)]
      exact MJ_up (h.2.1 r' hr') (by rw [eR]) (eN 13 _ (by decide)) (eN 14 _ (by decide)) (fun j hj => eN 29 _ (by decide)) (fun j hj => by rw [eR])
  | true =>
    obtain ⟨τ, ht⟩ : ∃ τ, τ = uN (uN (uR (uN σ 26 (12 * r + j) 0) 28 (12 * r + j) (-1)) 27 (12 * r + j) 0) 25 (12 * r + j) 1 := ⟨_, rfl⟩
    have hU : ansU σ r j true = drwU τ r j := by rw [ht]; rfl
    rw [hU, drwU_N (by decide)]
    have tN : ∀ s i, ¬ s = 25 → ¬ s = 26 → ¬ s = 27 → τ.1 s i = σ.1 s i := fun s i h1 h2 h3 => by rw [ht]; simp [uN, uR, h1, h2, h3]
    have tO : ∀ s i, ¬ i = 12 * r + j → τ.1 s i = σ.1 s i ∧ τ.2.1 s i = σ.2.1 s i := fun s i h1 => by rw [ht]; simp [uN, uR, h1]
    have tR : ∀ s i, ¬ s = 28 → τ.2.1 s i = σ.2.1 s i := fun s i h1 => by rw [ht]; simp [uN, uR, h1]
    have tD : τ.2.2 = σ.2.2 := by rw [ht]; rfl
    have t26 : τ.1 26 (12 * r + j) = 0 := by rw [ht]; simp [uN, uR]
    have t27 : τ.1 27 (12 * r + j) = 0 := by rw [ht]; simp [uN, uR]
    have t28 : τ.2.1 28 (12 * r + j) = -1 := by rw [ht]; simp [uN, uR]
    have hB : Bd τ := by rw [ht]; exact Bd_ans hI.B
    have t18 : r < τ.1 18 0 := by rw [tN 18 0 (by decide) (by decide) (by decide)]; exact hr
    have tp : ¬ τ.2.1 22 (12 * r + j) = -1 := by rw [tR 22 _ (by decide)]; exact hp
    have q29 : σ.1 29 (12 * r + j) = 0 := hI.mo r j hr hj (by omega)
    refine JV_drw (f := τ.1 15) ⟨fun r' j' hr' hj' z => ?_, fun r' hr' => ?_, fun b => ?_⟩ hB.1 t18 hj ?_ (day_lt hB t18 hj tp) ?_ tp t28 t26 t27 ?_
    · rw [tN 18 0 (by decide) (by decide) (by decide)] at hr'
      rw [tN 15 r' (by decide) (by decide) (by decide)]
      exact EJ_up (h.1 r' j' hr' hj') (tO 41 _ z).1 (Nat.le_of_eq (tN 7 0 (by decide) (by decide) (by decide)).symm) (Nat.le_of_eq (tN 6 0 (by decide) (by decide) (by decide)).symm) (tO 22 _ z).2 (tO 23 _ z).2 (tO 28 _ z).2 (tO 24 _ z).1 (tO 26 _ z).1 (tO 27 _ z).1 (tO 29 _ z).1 (tN 10 _ (by decide) (by decide) (by decide)) (fun b d y => by rw [tD]; exact y)
    · rw [tN 18 0 (by decide) (by decide) (by decide)] at hr'
      rw [tN 15 r' (by decide) (by decide) (by decide)]
      exact MJ_up (h.2.1 r' hr') (tR 16 _ (by decide)) (tN 13 _ (by decide) (by decide) (by decide)) (tN 14 _ (by decide) (by decide) (by decide)) (fun j hj => tN 29 _ (by decide) (by decide) (by decide)) (fun j hj => tR 22 _ (by decide))
    · exact BJ_up (h.2.2 b) (tN 2 _ (by decide) (by decide) (by decide)) (tN 3 _ (by decide) (by decide) (by decide)) (tN 4 _ (by decide) (by decide) (by decide)) (by rw [tD])
    · rw [tN 15 r (by decide) (by decide) (by decide)]; exact h15
    · rw [tN 7 0 (by decide) (by decide) (by decide)]; exact h9.1 h41
    · rw [tN 29 _ (by decide) (by decide) (by decide)]; exact q29
theorem int_sa {a b : Int32} : a - b + b = a := by
  rw [Int32.sub_eq_add_neg, Int32.add_assoc, Int32.add_left_neg, Int32.add_zero]
theorem JV_pay {c r : Nat} {σ : ST} (hI : Inv c σ) (h : JV (σ.1 15) σ) (hr : r < σ.1 18 0) (h15 : σ.1 15 r = 2) (h0 : ∀ j, j < 12 → σ.1 24 (12 * r + j) = 0 ∧ σ.1 26 (12 * r + j) = 0) : JV ((payU σ r).1 15) (payU σ r) := by
  obtain ⟨τ, ht⟩ : ∃ τ, τ = payU σ r := ⟨_, rfl⟩
  have eG : (gotU σ r 12).2 = σ.2 := gotU_2 12
  have e29 : ∀ k, τ.1 29 k = if 12 * r ≤ k ∧ k < 12 * r + 12 then gotS σ r (k - 12 * r) else σ.1 29 k := fun k => by
    rw [ht, ← gotU_29]
    show (if 29 = 15 ∧ k = r then 3 else (gotU σ r 12).1 29 k) = _
    rw [if_neg (by omega)]
  have e15 : ∀ i, τ.1 15 i = if i = r then 3 else σ.1 15 i := fun i => by
    rw [ht]
    show (if 15 = 15 ∧ i = r then 3 else (gotU σ r 12).1 15 i) = _
    rw [gotU_N (by decide)]
    simp
  have eN : ∀ s i, ¬ s = 15 → ¬ s = 29 → τ.1 s i = σ.1 s i := fun s i h1 h2 => by
    rw [ht]
    show (if s = 15 ∧ i = r then 3 else (gotU σ r 12).1 s i) = _
    rw [if_neg (fun z => h1 z.1), gotU_N h2]
  have eR : ∀ s i, ¬ (s = 16 ∧ i = r) → τ.2.1 s i = σ.2.1 s i := fun s i hs => by
    rw [ht]
    show (if s = 16 ∧ i = r then lefS σ r 12 else (gotU σ r 12).2.1 s i) = _
    rw [if_neg hs, eG]
  have e16 : τ.2.1 16 r = lefS σ r 12 := by
    rw [ht]
    exact if_pos ⟨rfl, rfl⟩
  have eD : τ.2.2 = σ.2.2 := by
    rw [ht]
    show (gotU σ r 12).2.2 = _
    rw [eG]
  rw [← ht]
  have k18 := hI.B.2.2.1
  refine ⟨fun r' j hr' hj => ?_, fun r' hr' => ?_, fun b => BJ_up (h.2.2 b) (eN 2 b (by decide) (by decide)) (eN 3 b (by decide) (by decide)) (eN 4 b (by decide) (by decide)) (by rw [eD])⟩
  · rw [eN 18 0 (by decide) (by decide)] at hr'
    by_cases z : r' = r
    · subst z
      rw [e15, if_pos rfl]
      have h9 := h.1 r' j hr' hj
      rw [h15] at h9
      obtain ⟨h1, h2, h3, h4, h5, h6, h7, h8, hg⟩ := h9
      have ed : dayS τ r' j = dayS σ r' j := by unfold dayS; rw [eN 10 _ (by decide) (by decide), eR 22 _ (by simp)]
      unfold EJ
      rw [eN 41 _ (by decide) (by decide), eN 7 _ (by decide) (by decide), eN 6 _ (by decide) (by decide), eN 24 _ (by decide) (by decide), eN 26 _ (by decide) (by decide), eN 27 _ (by decide) (by decide), eR 22 _ (by simp), eR 23 _ (by simp), eR 28 _ (by simp), eD, ed, e29, if_pos (by omega), (h0 j hj).2]
      refine ⟨h1, fun y => (by cases y), fun y => ?_, h4, fun y => absurd (h0 j hj).1 y, h6, fun y => absurd rfl y, h8, fun y => ⟨rfl, ?_⟩⟩
      · obtain ⟨q1, q2, q3⟩ := h3 y
        exact ⟨q1, q2, by decide⟩
      · refine h8 (fun y2 => y ?_)
        unfold gotS
        rw [show 12 * r' + (12 * r' + j - 12 * r') = 12 * r' + j by omega, if_pos y2]
    · rw [e15, if_neg z]
      refine EJ_up (h.1 r' j hr' hj) (eN 41 _ (by decide) (by decide)) (Nat.le_of_eq (eN 7 _ (by decide) (by decide)).symm) (Nat.le_of_eq (eN 6 _ (by decide) (by decide)).symm) (eR 22 _ (by simp)) (eR 23 _ (by simp)) (eR 28 _ (by simp)) (eN 24 _ (by decide) (by decide)) (eN 26 _ (by decide) (by decide)) (eN 27 _ (by decide) (by decide)) ?_ (eN 10 _ (by decide) (by decide)) (fun b d y => by rw [eD]; exact y)
      rw [e29, if_neg (by omega)]
  · rw [eN 18 0 (by decide) (by decide)] at hr'
    by_cases z : r' = r
    · subst z
      rw [e15, if_pos rfl]
      refine ⟨fun _ => ?_, fun y => absurd rfl y⟩
      rw [e16, lefS_sm, eN 13 _ (by decide) (by decide), eN 14 _ (by decide) (by decide), plIn_cg (τ := τ) (σ := σ) (fun j hj => eR 22 _ (by simp))]
      have e1 : fb_sm (fun j => τ.1 29 (12 * r' + j)) 12 = fb_sm (gotS σ r') 12 := fb_sm_cong (fun j hj => by
        rw [e29, if_pos (by omega), show 12 * r' + j - 12 * r' = j by omega])
      rw [e1, int_sa]
      unfold potS
      rw [if_neg (by omega)]
    · rw [e15, if_neg z]
      refine MJ_up (h.2.1 r' hr') (eR 16 _ (fun y => z y.2)) (eN 13 _ (by decide) (by decide)) (eN 14 _ (by decide) (by decide)) (fun j hj => ?_) (fun j hj => eR 22 _ (by simp))
      rw [e29, if_neg (by omega)]
theorem popN_z : bitL (0 : Int64) = fun _ => false := by
  funext d
  unfold bitL
  exact BitVec.getLsbD_zero
