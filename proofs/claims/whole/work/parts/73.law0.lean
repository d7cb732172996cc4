/-! what holds between two calls of the law -/
def popN (w : Int64) : Nat := fb_ct (bitL w) 64
def Inv (c : Nat) (σ : ST) : Prop :=
  Bd σ ∧ (∀ b, σ.1 2 b ≤ c ∧ σ.1 3 b ≤ c ∧ σ.1 4 b ≤ 50 * c) ∧ IW σ ∧ ID σ ∧ IBe σ ∧
  (∀ b, σ.1 6 0 ≤ b → σ.1 2 b = 0 ∧ σ.1 3 b = 0 ∧ σ.1 4 b = 0 ∧ σ.1 42 b = 0 ∧ σ.2.2 b = 0) ∧
  ((∀ k, k < 96 → σ.1 41 k = 1 → k < 12 * σ.1 18 0) ∧ (∀ r, σ.1 18 0 ≤ r → σ.1 15 r = 0 ∧ σ.1 17 r = 0 ∧ σ.2.1 16 r = 0)) ∧
  (∀ k, 12 * σ.1 18 0 ≤ k → σ.1 24 k = 0 ∧ σ.1 25 k = 0 ∧ σ.1 26 k = 0 ∧ σ.1 27 k = 0 ∧ σ.1 29 k = 0 ∧ ¬ σ.1 41 k = 1) ∧
  (∀ r, r < σ.1 18 0 → 1 ≤ σ.1 11 r) ∧
  (∀ k, k < 96 → σ.1 41 k = 1 → (σ.1 20 k).testBit (σ.1 21 k) = true) ∧
  (∀ r j, r < σ.1 18 0 → j < 12 → ¬ σ.1 24 (12 * r + j) = 0 → ¬ σ.2.1 23 (12 * r + j) = -1 ∧ ¬ σ.2.1 22 (12 * r + j) = -1) ∧
  (∀ r j, r < σ.1 18 0 → j < 12 → ¬ σ.1 26 (12 * r + j) = 0 → ¬ σ.2.1 22 (12 * r + j) = -1) ∧
  (∀ q, σ.1 31 q ≤ 1) ∧
  (∀ b, popN (σ.2.2 b) = σ.1 42 b) ∧
  (∀ r j, r < σ.1 18 0 → j < 12 → σ.1 15 r ≤ 1 → σ.2.1 23 (12 * r + j) = -1 ∧ σ.1 24 (12 * r + j) = 0 ∧ σ.1 26 (12 * r + j) = 0) ∧
  (∀ r j, r < σ.1 18 0 → j < 12 → σ.2.1 22 (12 * r + j) = -1 ∨ ∃ p, p < σ.1 11 r ∧ σ.2.1 22 (12 * r + j) = nI p) ∧
  (∀ r j, r < σ.1 18 0 → j < 12 → σ.1 41 (12 * r + j) = 1 → σ.1 20 (12 * r + j) < 2 ^ σ.1 11 r) ∧
  (∀ r j, r < σ.1 18 0 → j < 12 → ¬ σ.1 15 r = 3 → σ.1 29 (12 * r + j) = 0)
section IV
variable {c : Nat} {σ : ST}
theorem Inv.B (h : Inv c σ) : Bd σ := h.1
theorem Inv.ct (h : Inv c σ) : ∀ b, σ.1 2 b ≤ c ∧ σ.1 3 b ≤ c ∧ σ.1 4 b ≤ 50 * c := h.2.1
theorem Inv.W (h : Inv c σ) : IW σ := h.2.2.1
theorem Inv.D (h : Inv c σ) : ID σ := h.2.2.2.1
theorem Inv.be (h : Inv c σ) : IBe σ := h.2.2.2.2.1
theorem Inv.zb (h : Inv c σ) : ∀ b, σ.1 6 0 ≤ b → σ.1 2 b = 0 ∧ σ.1 3 b = 0 ∧ σ.1 4 b = 0 ∧ σ.1 42 b = 0 ∧ σ.2.2 b = 0 := h.2.2.2.2.2.1
theorem Inv.zr (h : Inv c σ) : (∀ k, k < 96 → σ.1 41 k = 1 → k < 12 * σ.1 18 0) ∧ (∀ r, σ.1 18 0 ≤ r → σ.1 15 r = 0 ∧ σ.1 17 r = 0 ∧ σ.2.1 16 r = 0) := h.2.2.2.2.2.2.1
theorem Inv.zk (h : Inv c σ) : ∀ k, 12 * σ.1 18 0 ≤ k → σ.1 24 k = 0 ∧ σ.1 25 k = 0 ∧ σ.1 26 k = 0 ∧ σ.1 27 k = 0 ∧ σ.1 29 k = 0 ∧ ¬ σ.1 41 k = 1 := h.2.2.2.2.2.2.2.1
theorem Inv.p1 (h : Inv c σ) : ∀ r, r < σ.1 18 0 → 1 ≤ σ.1 11 r := h.2.2.2.2.2.2.2.2.1
theorem Inv.wi (h : Inv c σ) : ∀ k, k < 96 → σ.1 41 k = 1 → (σ.1 20 k).testBit (σ.1 21 k) = true := h.2.2.2.2.2.2.2.2.2.1
theorem Inv.br (h : Inv c σ) : ∀ r j, r < σ.1 18 0 → j < 12 → ¬ σ.1 24 (12 * r + j) = 0 → ¬ σ.2.1 23 (12 * r + j) = -1 ∧ ¬ σ.2.1 22 (12 * r + j) = -1 := h.2.2.2.2.2.2.2.2.2.2.1
theorem Inv.pl (h : Inv c σ) : ∀ r j, r < σ.1 18 0 → j < 12 → ¬ σ.1 26 (12 * r + j) = 0 → ¬ σ.2.1 22 (12 * r + j) = -1 := h.2.2.2.2.2.2.2.2.2.2.2.1
theorem Inv.h31 (h : Inv c σ) : ∀ q, σ.1 31 q ≤ 1 := h.2.2.2.2.2.2.2.2.2.2.2.2.1
theorem Inv.pc (h : Inv c σ) : ∀ b, popN (σ.2.2 b) = σ.1 42 b := h.2.2.2.2.2.2.2.2.2.2.2.2.2.1
theorem Inv.st (h : Inv c σ) : ∀ r j, r < σ.1 18 0 → j < 12 → σ.1 15 r ≤ 1 → σ.2.1 23 (12 * r + j) = -1 ∧ σ.1 24 (12 * r + j) = 0 ∧ σ.1 26 (12 * r + j) = 0 := h.2.2.2.2.2.2.2.2.2.2.2.2.2.2.1
theorem Inv.pp (h : Inv c σ) : ∀ r j, r < σ.1 18 0 → j < 12 → σ.2.1 22 (12 * r + j) = -1 ∨ ∃ p, p < σ.1 11 r ∧ σ.2.1 22 (12 * r + j) = nI p := h.2.2.2.2.2.2.2.2.2.2.2.2.2.2.2.1
theorem Inv.se (h : Inv c σ) : ∀ r j, r < σ.1 18 0 → j < 12 → σ.1 41 (12 * r + j) = 1 → σ.1 20 (12 * r + j) < 2 ^ σ.1 11 r := h.2.2.2.2.2.2.2.2.2.2.2.2.2.2.2.2.1
theorem Inv.mo (h : Inv c σ) : ∀ r j, r < σ.1 18 0 → j < 12 → ¬ σ.1 15 r = 3 → σ.1 29 (12 * r + j) = 0 := h.2.2.2.2.2.2.2.2.2.2.2.2.2.2.2.2.2
/-- what the calls ask for -/
theorem Inv.hbr (h : Inv c σ) : ∀ r j, r < σ.1 18 0 → j < σ.1 7 0 → ¬ σ.1 24 (12 * r + j) = 0 → ∃ b, b < σ.1 6 0 ∧ σ.2.1 23 (12 * r + j) = nI b := by
  intro r j hr hj hn
  have h7 := h.B.2.1
  have h18 := h.B.2.2.1
  have h41 : σ.1 41 (12 * r + j) = 1 := by
    by_cases c1 : σ.1 41 (12 * r + j) = 1
    · exact c1
    · exact absurd (h.D r j hr (by omega) c1).2.1 hn
  exact h.be _ (by omega) h41 (h.br r j hr (by omega) hn).1
theorem Inv.hpl (h : Inv c σ) : ∀ r j, r < σ.1 18 0 → j < σ.1 7 0 → ¬ σ.1 26 (12 * r + j) = 0 → ¬ σ.2.1 22 (12 * r + j) = -1 := fun r j hr hj => h.pl r j hr (Nat.lt_of_lt_of_le hj h.B.2.1)
theorem Inv.hw (h : Inv c σ) : ∀ r k, r < σ.1 18 0 → k < σ.1 17 r → σ.1 19 (12 * r + k) < 12 := fun r k hr hk => ((h.W r hr).1 k hk).1
/-- who has not entered leaves room for one more -/
theorem pig {N : Nat} {w : Nat → Nat} : ∀ {n : Nat}, (∀ e, e < n → w e < N) → (∀ e e', e < n → e' < n → w e = w e' → e = e') → n ≤ N := by
  intro n h1 h2
  have h := pm_gen (N := N) (fun _ => 1) w n h1 h2
  rw [fb_sm_const] at h
  have h3 : fb_sm (fun j => if inW w n j = true then 1 else 0) N ≤ fb_sm (fun _ => 1) N := fb_sm_le (fun k _ => by split <;> omega)
  rw [fb_sm_const] at h3
  omega
theorem Inv.hlt (h : Inv c σ) : ∀ r j, r < σ.1 18 0 → j < σ.1 7 0 → hasE σ r j = false → σ.1 17 r < 12 := by
  intro r j hr hj hn
  have h7 := h.B.2.1
  obtain ⟨h1, h2, h3⟩ := h.W r hr
  have hne : ∀ e, e < σ.1 17 r → ¬ whS σ r e = j := fun e he z => by
    have h4 : hasE σ r j = true := by
      unfold hasE
      rw [anyB_iff]
      exact ⟨e, he, decide_eq_true z⟩
    rw [hn] at h4
    cases h4
  have := pig (N := 12) (w := fun e => if e = σ.1 17 r then j else whS σ r e) (n := σ.1 17 r + 1) (fun e he => by
    show (if e = σ.1 17 r then j else whS σ r e) < 12
    split
    · omega
    · exact (h1 e (by omega)).1) (fun e e' he he' z => by
    have z : (if e = σ.1 17 r then j else whS σ r e) = (if e' = σ.1 17 r then j else whS σ r e') := z
    by_cases c1 : e = σ.1 17 r
    · by_cases c2 : e' = σ.1 17 r
      · omega
      · rw [if_pos c1, if_neg c2] at z
        exact absurd z.symm (hne e' (by omega))
    · by_cases c2 : e' = σ.1 17 r
      · rw [if_neg c1, if_pos c2] at z
        exact absurd z (hne e (by omega))
      · rw [if_neg c1, if_neg c2] at z
        exact h2 e e' (by omega) (by omega) z)
  omega
theorem Inv_0 (h : Inv c σ) (v : Nat) : Inv c (uN σ 0 0 v) := h
theorem Inv_s (h : Inv c σ) : Inv (c + 1) σ := ⟨h.1, fun b => ⟨Nat.le_succ_of_le (h.ct b).1, Nat.le_succ_of_le (h.ct b).2.1, Nat.le_trans (h.ct b).2.2 (by omega)⟩, h.2.2⟩
end IV
section LJs
variable {g : GP} {A A2 : Nat → Nat} {m : Nat → Nat} {M M0 M9 M8 : MM} {σ σ' σ0 σ1 : ST} {o : Nat}
theorem CM_0 (h : CM g A M0 σ M) (v : Nat) : CM g A M0 (uN σ 0 0 v) M := CM.st h (lv_uN (by decide)) (fun c' => cV_congr rfl rfl (fun _ => rfl) (fun _ => rfl) (fun _ => rfl) (fun _ => ⟨rfl, rfl⟩) (fun _ _ => rfl) (fun _ _ => rfl) (fun _ _ => rfl))
theorem CM_31 (h : CM g A M0 σ M) (f : Nat → Nat) : CM g A M0 (cB σ f) M := CM.st h (fun c => lv_cg (fun s i hs => if_neg (by omega)) c) (fun c' => cV_congr rfl rfl (fun _ => rfl) (fun _ => rfl) (fun _ => rfl) (fun _ => ⟨rfl, rfl⟩) (fun _ _ => rfl) (fun _ _ => rfl) (fun _ _ => rfl))
def LJ (g : GP) (A m : Nat → Nat) (σ : ST) (M : MM) (o : Nat) : Prop := CM g A M σ M ∧ RM g m M σ M ∧ (∀ c k, lvB σ c = true → mQ k = true → A c ≠ m k) ∧ (∃ f, M o = some (.inl (gC g 1, 1, .inr (.inl f)))) ∧ (∀ c, lvB σ c = true → o ≠ A c) ∧ ∀ k, mQ k = true → o ≠ m k
theorem RM_at (h : RM g m M0 σ M) : ∀ k, mQ k = true → ∃ e, M (m k) = some e := by
  intro k hk
  unfold mQ at hk
  simp only [Bool.or_eq_true, decide_eq_true_eq] at hk
  rcases hk with rfl | hk
  · exact ⟨_, h.1⟩
  · exact ⟨_, h.2.1 k hk⟩
theorem RM_to (h : RM g m M0 σ M) (e : ∀ k, mQ k = true → M9 (m k) = M (m k)) : RM g m M9 σ M9 :=
  ⟨(e 0 rfl).trans h.1, fun k hk => (e k (mK_Q hk)).trans (h.2.1 k hk), fun _ _ => rfl, h.2.2.2⟩
/-- the new addresses stay apart from the rest -/
theorem LJ_ap (hJ : LJ g A m σ M o) (hl : ∀ c, lvB σ0 c = lvB σ c) (h3 : ∀ c, lvB σ1 c = true → (lvB σ0 c = true ∧ A2 c = A c) ∨ M (A2 c) = none) : (∀ c k, lvB σ1 c = true → mQ k = true → A2 c ≠ m k) ∧ ∀ c, lvB σ1 c = true → o ≠ A2 c := by
  obtain ⟨-, hR, hd, ⟨f, hO⟩, ho, -⟩ := hJ
  refine ⟨fun c k hc hk z => ?_, fun c hc z => ?_⟩
  · rcases h3 c hc with ⟨k1, k2⟩ | k1
    · exact hd c k ((hl c).symm.trans k1) hk (k2.symm.trans z)
    · obtain ⟨e, he⟩ := RM_at hR k hk
      rw [z, he] at k1; cases k1
  · rcases h3 c hc with ⟨k1, k2⟩ | k1
    · exact ho c ((hl c).symm.trans k1) (z.trans k2)
    · rw [← z, hO] at k1; cases k1
theorem LJ_a {cd : Nat} {RS : Int64} (hJ : LJ g A m σ M o) (hl : ∀ c, lvB σ0 c = lvB σ c) (hp : HP g A M σ0 o σ1 cd RS M9) : ∃ A2, A2 0 = A 0 ∧ RM g m M9 σ M9 ∧ CM g A2 M9 σ1 M9 ∧ (∀ c k, lvB σ1 c = true → mQ k = true → A2 c ≠ m k) ∧ (∃ f, M9 o = some (.inl (gC g 1, 1, .inr (.inl f))) ∧ (cd = 0 → f 0 = RS)) ∧ ∀ c, lvB σ1 c = true → o ≠ A2 c := by
  obtain ⟨A2, M1, h1, h2, h3, h4⟩ := hp
  obtain ⟨d1, d2⟩ := LJ_ap hJ hl h3
  have hM1 : ∀ k, mQ k = true → M1 (m k) = M (m k) := fun k hk => h2.2.2 _ (fun c hc z => d1 c k hc hk z.symm)
  obtain ⟨f0, hO⟩ := hJ.2.2.2.1
  have hO1 : M1 o = M o := h2.2.2 o (fun c hc => d2 c hc)
  have hM9 : ∀ x, x ≠ o → M9 x = M1 x := by
    rcases h4 with ⟨-, f, rfl, -⟩ | ⟨-, rfl⟩
    · exact fun x hx => mup_n hx
    · exact fun _ _ => rfl
  refine ⟨A2, h1, RM_to hJ.2.1 (fun k hk => (hM9 _ (hJ.2.2.2.2.2 k hk).symm).trans (hM1 k hk)), ⟨fun c hc => (hM9 _ (d2 c hc).symm).trans (h2.1 c hc), h2.2.1, fun _ _ => rfl⟩, d1, ?_, d2⟩
  rcases h4 with ⟨hz, f, rfl, hf⟩ | ⟨hz, rfl⟩
  · exact ⟨f, mup_s, fun _ => hf⟩
  · exact ⟨f0, hO1.trans hO, fun z => absurd z hz⟩
theorem LJ_v (hJ : LJ g A m σ M o) (hl : ∀ c, lvB σ0 c = lvB σ c) (hp : HV g A M σ0 σ1 M9) : ∃ A2, A2 0 = A 0 ∧ RM g m M9 σ M9 ∧ CM g A2 M9 σ1 M9 ∧ (∀ c k, lvB σ1 c = true → mQ k = true → A2 c ≠ m k) ∧ (∃ f, M9 o = some (.inl (gC g 1, 1, .inr (.inl f)))) ∧ ∀ c, lvB σ1 c = true → o ≠ A2 c := by
  obtain ⟨A2, h1, h2, h3⟩ := hp
  obtain ⟨d1, d2⟩ := LJ_ap hJ hl h3
  obtain ⟨f0, hO⟩ := hJ.2.2.2.1
  exact ⟨A2, h1, RM_to hJ.2.1 (fun k hk => h2.2.2 _ (fun c hc z => d1 c k hc hk z.symm)), ⟨h2.1, h2.2.1, fun _ _ => rfl⟩, d1, ⟨f0, (h2.2.2 o (fun c hc => d2 c hc)).trans hO⟩, d2⟩
theorem LJ_b (hC : CM g A2 M9 σ1 M9) (hd : ∀ c k, lvB σ1 c = true → mQ k = true → A2 c ≠ m k) {f : Nat → Int64} (hO : M9 o = some (.inl (gC g 1, 1, .inr (.inl f)))) (ho : ∀ c, lvB σ1 c = true → o ≠ A2 c) (hom : ∀ k, mQ k = true → o ≠ m k) (hR : RM g m M9 σ1 M8) : LJ g A2 m σ1 M8 o ∧ M8 o = some (.inl (gC g 1, 1, .inr (.inl f))) := by
  have e : ∀ x, (∀ k, mQ k = true → x ≠ m k) → M8 x = M9 x := fun x hx => hR.2.2.1 x hx
  have eo : M8 o = M9 o := e o hom
  exact ⟨⟨⟨fun c hc => (e _ (fun k hk => hd c k hc hk)).trans (hC.1 c hc), hC.2.1, fun _ _ => rfl⟩, RM_to hR (fun _ _ => rfl), hd, ⟨f, eo.trans hO⟩, ho, hom⟩, eo.trans hO⟩
end LJs
theorem lv_u0 {σ : ST} {v c : Nat} : lvB (uN σ 0 0 v) c = lvB σ c := lv_uN (by decide) c
