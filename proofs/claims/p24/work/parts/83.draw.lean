/-! draw: the answer counts the mounted -/
theorem bea_step {τ τ9 : ST} {r j : Nat} {v : Int32} (hj : j < 12) (f : ∀ i, τ9.2.1 23 i = if i = 12 * r + j then v else τ.2.1 23 i) (h0 : τ.2.1 23 (12 * r + j) = -1) : beaN τ9 r = beaN τ r + bz (decide (¬ v = -1)) := by
  unfold beaN
  rw [ct_sm, ct_sm]
  have h1 := fb_sm_upd (fun k => bz (decide (¬ τ.2.1 23 (12 * r + k) = -1))) (bz (decide (¬ v = -1))) hj
  have h2 : fb_sm (fun k => bz (decide (¬ τ9.2.1 23 (12 * r + k) = -1))) 12 = fb_sm (fun k => if k = j then bz (decide (¬ v = -1)) else bz (decide (¬ τ.2.1 23 (12 * r + k) = -1))) 12 := fb_sm_cong (fun k hk => by
    rw [f]
    by_cases z : k = j
    · rw [if_pos z, if_pos (by rw [z])]
    · rw [if_neg z, if_neg (by omega)])
  rw [h2]
  have h3 : bz (decide (¬ τ.2.1 23 (12 * r + j) = -1)) = 0 := by rw [h0]; rfl
  simp only [h3] at h1
  omega
theorem dr_E {c : Nat} {σ : ST} {r p : Nat} (h : InvA c σ) (hr : r < σ.1 18 0) (hp : p < 4) (H : ∀ e, e < σ.1 17 r → σ.2.1 22 (12 * r + whS σ r e) = nI p → σ.2.1 23 (12 * r + whS σ r e) = -1) : ∀ e, e ≤ σ.1 17 r → beaN (drE σ r p e) r = beaN σ r + moN σ r p e ∧ (∀ e9, e ≤ e9 → e9 < σ.1 17 r → (drE σ r p e).2.1 23 (12 * r + whS σ r e9) = σ.2.1 23 (12 * r + whS σ r e9)) ∧ (∀ e9, e9 < σ.1 17 r → ¬ σ.2.1 22 (12 * r + whS σ r e9) = nI p → (drE σ r p e).2.1 23 (12 * r + whS σ r e9) = σ.2.1 23 (12 * r + whS σ r e9))
  | 0, _ => ⟨rfl, fun _ _ _ => rfl, fun _ _ _ => rfl⟩
  | e + 1, he => by
    obtain ⟨i1, i2, i3⟩ := dr_E h hr hp H e (by omega)
    have hA := InvA_drE h hr hp e (by omega)
    have hw := (h.2.2.1 r hr).1 e (by omega)
    have hinj := (h.2.2.1 r hr).2.1
    by_cases z : σ.2.1 22 (12 * r + whS σ r e) = nI p
    · rw [drE_t z]
      have hd := day_lt (σ := drE σ r p e) (r := r) (j := whS σ r e) hA.1 (by rw [drE_N (by decide)]; exact hr) hw.1 (by rw [drE_R (by decide), z]; exact nI_m1 (by omega))
      obtain ⟨v24, v23, f24, f23, hv⟩ := drw_facts hA.1.1 hd
      have hn : ∀ e9, e9 < σ.1 17 r → ¬ e9 = e → (drwU (drE σ r p e) r (whS σ r e)).2.1 23 (12 * r + whS σ r e9) = (drE σ r p e).2.1 23 (12 * r + whS σ r e9) := fun e9 h9 hne => by
        rw [f23, if_neg (fun y => hne (hinj e9 e h9 (by omega) (by omega)))]
      refine ⟨?_, fun e9 h8 h9 => (hn e9 h9 (by omega)).trans (i2 e9 (by omega) h9), fun e9 h9 h8 => (hn e9 h9 (fun y => h8 (by rw [y]; exact z))).trans (i3 e9 h9 h8)⟩
      have g1 := bea_step (r := r) hw.1 f23 (by rw [i2 e (Nat.le_refl _) (by omega)]; exact H e (by omega) z)
      have g2 : (drwU (drE σ r p e) r (whS σ r e)).1 24 (12 * r + whS σ r e) = v24 := by rw [f24, if_pos rfl]
      show beaN (drwU (drE σ r p e) r (whS σ r e)) r = _
      rw [g1, i1, moN_y z g2, Nat.add_assoc]
      congr 1
      congr 1
      rcases hv with ⟨q1, q2, -⟩ | ⟨q1, b0, hb0, q2, -⟩
      · rw [q1, q2]; rfl
      · rw [q1, q2]
        have := hA.1.1
        rw [decide_eq_true (nI_m1 (n := b0) (by omega))]; rfl
    · rw [drE_f z, moN_f z]
      exact ⟨i1, fun e9 h8 h9 => i2 e9 (by omega) h9, i3⟩
theorem dr_P {c : Nat} {σ : ST} {r : Nat} (h : InvA c σ) (hr : r < σ.1 18 0) (H : ∀ e, e < σ.1 17 r → σ.2.1 23 (12 * r + whS σ r e) = -1) (h0 : beaN σ r = 0) : ∀ p, p ≤ 4 → beaN (drP σ r p) r = drN σ r p ∧ ∀ e p9, e < σ.1 17 r → p ≤ p9 → p9 < 4 → σ.2.1 22 (12 * r + whS σ r e) = nI p9 → (drP σ r p).2.1 23 (12 * r + whS σ r e) = -1
  | 0, _ => ⟨h0, fun e _ he _ _ _ => H e he⟩
  | p + 1, hp => by
    obtain ⟨i1, i2⟩ := dr_P h hr H h0 p (by omega)
    have hA := InvA_drP h hr p (by omega)
    have e17 : (drP σ r p).1 17 = σ.1 17 := drP_N (by decide) p
    have e18 : (drP σ r p).1 18 = σ.1 18 := drP_N (by decide) p
    have e22 : (drP σ r p).2.1 22 = σ.2.1 22 := drP_R (by decide) p
    have ew : ∀ e, whS (drP σ r p) r e = whS σ r e := fun e => by unfold whS; rw [drP_N (by decide)]
    have g := dr_E hA (by rw [e18]; exact hr) (p := p) (by omega) (fun e he z => by
      rw [e17] at he
      rw [e22, ew] at z
      rw [ew]
      exact i2 e p he (Nat.le_refl _) (by omega) z) (σ.1 17 r) (by rw [e17]; exact Nat.le_refl _)
    obtain ⟨g1, -, g3⟩ := g
    refine ⟨?_, fun e p9 he h1 h2 z => ?_⟩
    · show beaN (drE (drP σ r p) r p (σ.1 17 r)) r = drN σ r p + moN (drP σ r p) r p (σ.1 17 r)
      rw [g1, i1]
    · have := g3 e (by rw [e17]; exact he) (by
        rw [e22, ew, z]
        intro y
        have y := congrArg cl y
        rw [cl_nI (by omega), cl_nI (by omega)] at y
        omega)
      rw [ew] at this
      show (drE (drP σ r p) r p (σ.1 17 r)).2.1 23 (12 * r + whS σ r e) = -1
      rw [this]
      exact i2 e p9 he (by omega) h2 z
theorem RQ_draw {c : Nat} {σ : ST} {x0 : Int32} (h : Inv c σ) (hz : cdSt σ x0 1 = 0) : nI (drN σ (cl x0) (σ.1 11 (cl x0))) = nI (beaN (drnU σ (cl x0)) (cl x0)) := by
  obtain ⟨r, hr, rfl, h15, e⟩ := cdSt_1 h.B.2.2.1 hz
  rw [e]
  have hs := fun j hj => (h.st r j hr hj (by omega)).1
  have h0 : beaN σ r = 0 := by
    unfold beaN
    rw [ct_sm, fb_sm_cong (g := fun _ => 0) (fun j hj => by rw [hs j hj]; rfl), fb_sm_const]
  have g := dr_P (Inv_A h) hr (fun e he => hs _ ((h.W r hr).1 e he).1) h0 (σ.1 11 r) (h.B.2.2.2.1 r (by have := h.B.2.2.1; omega)).2.2.1
  rw [← g.1]
  rfl
