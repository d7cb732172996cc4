/-! the three best, ranks -/
theorem ct_lt {p q : Nat → Bool} {n r : Nat} (h : ∀ k, k < n → p k = true → q k = true) (hr : r < n) (hp : p r = false) (hq : q r = true) : fb_ct p n < fb_ct q n := by
  have h1 := fb_ct_upd p true hr
  have h2 : fb_ct (fun k => if k = r then true else p k) n ≤ fb_ct q n := fb_ct_sub (fun k hk hk2 => by
    have hk2 : (if k = r then true else p k) = true := hk2
    by_cases z : k = r
    · rw [z]; exact hq
    · rw [if_neg z] at hk2; exact h k hk hk2)
  rw [hp, if_neg Bool.false_ne_true, if_pos rfl] at h1
  omega
theorem rk_lt {N : Nat} {lt : Nat → Nat → Bool} (tr : ∀ a b c, lt a b = true → lt b c = true → lt a c = true) (ir : ∀ a, lt a a = false) {a b : Nat} (ha : a < N) (h : lt a b = true) : fb_ct (fun e => lt e a) N < fb_ct (fun e => lt e b) N :=
  ct_lt (p := fun e => lt e a) (q := fun e => lt e b) (fun k _ hk => tr k a b hk h) ha (ir a) h
theorem rk_inj {N : Nat} {lt : Nat → Nat → Bool} (tr : ∀ a b c, lt a b = true → lt b c = true → lt a c = true) (ir : ∀ a, lt a a = false) (tot : ∀ a b, a ≠ b → lt a b = true ∨ lt b a = true) {a b : Nat} (ha : a < N) (hb : b < N) (h : fb_ct (fun e => lt e a) N = fb_ct (fun e => lt e b) N) : a = b := by
  by_cases z : a = b
  · exact z
  · rcases tot a b z with y | y
    · have := rk_lt tr ir ha y; omega
    · have := rk_lt tr ir hb y; omega
def sO (f : Nat → Nat) (o r : Nat) : Bool := decide (f r < f o) || (decide (f o = f r) && decide (o < r))
theorem sO_iff {f : Nat → Nat} {o r : Nat} : sO f o r = true ↔ f r < f o ∨ (f o = f r ∧ o < r) := by unfold sO; simp
theorem sO_tr {f : Nat → Nat} : ∀ a b c, sO f a b = true → sO f b c = true → sO f a c = true := by
  intro a b c h1 h2
  rw [sO_iff] at h1 h2 ⊢
  omega
theorem sO_ir {f : Nat → Nat} : ∀ a, sO f a a = false := by
  intro a
  cases c : sO f a a with
  | false => rfl
  | true => rw [sO_iff] at c; omega
theorem sO_tot {f : Nat → Nat} : ∀ a b, a ≠ b → sO f a b = true ∨ sO f b a = true := by
  intro a b h
  rw [sO_iff, sO_iff]
  omega
def ahF (f : Nat → Nat) (n r : Nat) : Nat := fb_ct (fun o => sO f o r) n
theorem ahF_s {f : Nat → Nat} {n r : Nat} (h : r < n) : ahF f (n + 1) r = ahF f n r + if f r < f n then 1 else 0 := by
  unfold ahF
  rw [fb_ct_succ]
  by_cases c : f r < f n
  · rw [if_pos c, if_pos (sO_iff.mpr (Or.inl c))]
  · rw [if_neg c, if_neg (fun z => by rw [sO_iff] at z; omega)]
theorem ahF_n {f : Nat → Nat} {n : Nat} : ahF f (n + 1) n = ahF f n n := by
  unfold ahF
  rw [fb_ct_succ, if_neg (by rw [sO_ir]; exact Bool.false_ne_true)]; rfl
theorem ahF_ge {f : Nat → Nat} {n r : Nat} (h : r < n) (hx : f n ≤ f r) : ahF f n r < ahF f n n := rk_lt sO_tr sO_ir h (sO_iff.mpr (by omega))
theorem ahF_lt {f : Nat → Nat} {n r : Nat} (hx : f r < f n) : ahF f n n ≤ ahF f n r := fb_ct_sub (fun k _ hk => sO_tr k n r hk (sO_iff.mpr (Or.inl hx)))
theorem ahF_le {f : Nat → Nat} {n r : Nat} : ahF f n r ≤ n := fb_ct_le _ _
def rE (f : Nat → Nat) (n i y : Nat) : Prop := (∃ r, r < n ∧ ahF f n r = i ∧ f r = y) ∨ (n ≤ i ∧ y = 0)
theorem rE_up {f : Nat → Nat} {n i y : Nat} (h : rE f n i y) (hy : y < f n ∨ ahF f n n ≤ i) : rE f (n + 1) (i + 1) y := by
  rcases h with ⟨r, h1, h2, h3⟩ | ⟨h1, h2⟩
  · have hlt : f r < f n := by
      rcases hy with hy | hy
      · omega
      · rcases Nat.lt_or_ge (f r) (f n) with z | z
        · exact z
        · have := ahF_ge h1 z; omega
    exact Or.inl ⟨r, by omega, by rw [ahF_s h1, if_pos hlt, h2], h3⟩
  · exact Or.inr ⟨by omega, h2⟩
theorem rE_same {f : Nat → Nat} {n i y : Nat} (h : rE f n i y) (hy : f n ≤ y) : rE f (n + 1) i y := by
  rcases h with ⟨r, h1, h2, h3⟩ | ⟨h1, h2⟩
  · exact Or.inl ⟨r, by omega, by rw [ahF_s h1, if_neg (by omega), h2]; rfl, h3⟩
  · by_cases z : n = i
    · refine Or.inl ⟨n, by omega, ?_, by omega⟩
      rw [ahF_n, ← z]
      exact fb_ct_all.mpr (fun k hk => sO_iff.mpr (by omega))
    · exact Or.inr ⟨by omega, h2⟩
theorem rE_new {f : Nat → Nat} {n i : Nat} (h : ahF f n n = i) : rE f (n + 1) i (f n) := Or.inl ⟨n, by omega, by rw [ahF_n, h], rfl⟩
theorem rE_g1 {f : Nat → Nat} {n i y : Nat} (h : rE f n i y) (hy : y < f n) : ahF f n n ≤ i := by
  rcases h with ⟨r, h1, h2, h3⟩ | ⟨h1, h2⟩
  · rw [← h2]; exact ahF_lt (by omega)
  · exact Nat.le_trans ahF_le h1
theorem rE_g2 {f : Nat → Nat} {n i y : Nat} (h : rE f n i y) (hy : f n ≤ y) (h0 : 0 < f n) : i < ahF f n n := by
  rcases h with ⟨r, h1, h2, h3⟩ | ⟨h1, h2⟩
  · rw [← h2]; exact ahF_ge h1 (by omega)
  · omega
theorem b3_rE {f : Nat → Nat} : ∀ n, rE f n 0 (b3S f n).1 ∧ rE f n 1 (b3S f n).2.1 ∧ rE f n 2 (b3S f n).2.2
  | 0 => ⟨Or.inr ⟨by omega, rfl⟩, Or.inr ⟨by omega, rfl⟩, Or.inr ⟨by omega, rfl⟩⟩
  | n + 1 => by
    obtain ⟨e0, e1, e2⟩ := b3_rE (f := f) n
    by_cases c1 : (b3S f n).1 < f n
    · rw [b3_1 c1]
      have g0 := rE_g1 e0 c1
      exact ⟨rE_new (by omega), rE_up e0 (Or.inl c1), rE_up e1 (Or.inr (by omega))⟩
    · by_cases c2 : (b3S f n).2.1 < f n
      · rw [b3_2 c1 c2]
        have g1 := rE_g1 e1 c2
        have g0 := rE_g2 e0 (by omega) (by omega)
        exact ⟨rE_same e0 (by omega), rE_new (by omega), rE_up e1 (Or.inl c2)⟩
      · by_cases c3 : (b3S f n).2.2 < f n
        · rw [b3_3 c1 c2 c3]
          have g2 := rE_g1 e2 c3
          have g1 := rE_g2 e1 (by omega) (by omega)
          exact ⟨rE_same e0 (show f n ≤ (b3S f n).1 by omega), rE_same e1 (show f n ≤ (b3S f n).2.1 by omega), rE_new (by omega)⟩
        · rw [b3_4 c1 c2 c3]
          exact ⟨rE_same e0 (by omega), rE_same e1 (by omega), rE_same e2 (by omega)⟩
theorem rE_sm {f : Nat → Nat} {n i y : Nat} (h : rE f n i y) : fb_sm (fun r => if ahF f n r = i then f r else 0) n = y := by
  rcases h with ⟨r, h1, h2, h3⟩ | ⟨h1, h2⟩
  · have h4 : fb_sm (fun k => if ahF f n k = i then f k else 0) n = fb_sm (fun k => if k = r then f k else 0) n := fb_sm_cong (fun k hk => by
      by_cases z : k = r
      · rw [if_pos z, if_pos (by rw [z, h2])]
      · rw [if_neg z, if_neg (fun y => z (rk_inj sO_tr sO_ir sO_tot hk h1 (y.trans h2.symm)))])
    rw [h4, sm_one f h1, h3]
  · have h4 : fb_sm (fun k => if ahF f n k = i then f k else 0) n = fb_sm (fun _ => 0) n := fb_sm_cong (fun k hk => by
      have : ahF f n k < n := by
        have h5 := ct_lt (p := fun o => sO f o k) (q := fun _ => true) (n := n) (fun _ _ _ => rfl) hk (sO_ir k) rfl
        have h6 : fb_ct (fun _ => true) n ≤ n := fb_ct_le _ _
        unfold ahF
        omega
      rw [if_neg (by omega)])
    rw [h4, fb_sm_const, h2, Nat.mul_zero]
theorem b3_cnt {f : Nat → Nat} {n : Nat} : fb_sm (fun r => if ahF f n r < 3 then f r else 0) n = (b3S f n).1 + (b3S f n).2.1 + (b3S f n).2.2 := by
  obtain ⟨e0, e1, e2⟩ := b3_rE (f := f) n
  rw [← rE_sm e0, ← rE_sm e1, ← rE_sm e2, ← fb_sm_add, ← fb_sm_add]
  refine fb_sm_cong (fun k _ => ?_)
  by_cases z0 : ahF f n k = 0
  · rw [if_pos (by omega), if_pos z0, if_neg (by omega), if_neg (by omega)]; rfl
  · by_cases z1 : ahF f n k = 1
    · rw [if_pos (by omega), if_neg z0, if_pos z1, if_neg (by omega)]; omega
    · by_cases z2 : ahF f n k = 2
      · rw [if_pos (by omega), if_neg z0, if_neg z1, if_pos z2]; omega
      · rw [if_neg (by omega), if_neg z0, if_neg z1, if_neg z2]
theorem b3T_cnt {σ : ST} {j : Nat} : b3T σ j = cntS σ j := (b3_cnt (f := mnY σ j) (n := σ.1 18 0)).symm
theorem RQ_counts {c : Nat} {σ : ST} {x0 : Int32} (h : Inv c σ) (hz : cdCo σ x0 = 0) : nI (b3T σ (cl x0)) = nI (cntS σ (cl x0)) := by rw [b3T_cnt]
theorem btc_iff {σ : ST} {a0 b0 : Nat} : btcS σ a0 b0 = true ↔ b3T σ b0 < b3T σ a0 ∨ (b3T σ a0 = b3T σ b0 ∧ (allS σ b0 < allS σ a0 ∨ (allS σ a0 = allS σ b0 ∧ a0 < b0))) := by
  unfold btcS
  by_cases c1 : b3T σ a0 = b3T σ b0
  · rw [if_neg (fun z => z c1)]
    by_cases c2 : allS σ a0 = allS σ b0
    · rw [if_neg (fun z => z c2), decide_eq_true_eq]; omega
    · rw [if_pos c2, decide_eq_true_eq]; omega
  · rw [if_pos c1, decide_eq_true_eq]; omega
theorem btc_btr {σ : ST} {a0 b0 : Nat} : btrS σ a0 b0 = btcS σ a0 b0 := by unfold btrS btcS; rw [b3T_cnt, b3T_cnt]
theorem btc_tr {σ : ST} : ∀ a b c, btcS σ a b = true → btcS σ b c = true → btcS σ a c = true := by
  intro a b c h1 h2
  rw [btc_iff] at h1 h2 ⊢
  omega
theorem btc_ir {σ : ST} : ∀ a, btcS σ a a = false := by
  intro a
  cases c : btcS σ a a with
  | false => rfl
  | true => rw [btc_iff] at c; omega
theorem btc_tot {σ : ST} : ∀ a b, a ≠ b → btcS σ a b = true ∨ btcS σ b a = true := by
  intro a b h
  rw [btc_iff, btc_iff]
  omega
theorem rkr_c {σ : ST} {k : Nat} : rkrS σ k = rkcS σ k := by
  unfold rkrS rkcS
  refine fb_ct_cong (fun e _ => ?_)
  rw [btc_btr]
  by_cases z : e = k
  · rw [z, btc_ir, Bool.and_false]
  · rw [decide_eq_true z]; rfl
theorem rdr_ch {σ : ST} {x0 : Int32} : ∀ n, (∃ k, k < n ∧ nI (rkcS σ k) = x0 ∧ rdrS σ x0 n = nI k) ∨ ((∀ k, k < n → ¬ nI (rkcS σ k) = x0) ∧ rdrS σ x0 n = -1)
  | 0 => Or.inr ⟨fun k hk => absurd hk (Nat.not_lt_zero _), rfl⟩
  | n + 1 => by
    have e : rdrS σ x0 (n + 1) = if nI (rkcS σ n) = x0 then nI n else rdrS σ x0 n := by
      show (if nI (rkrS σ n) = x0 then nI n else rdrS σ x0 n) = _
      rw [rkr_c]
    by_cases c : nI (rkcS σ n) = x0
    · exact Or.inl ⟨n, Nat.lt_succ_self n, c, by rw [e, if_pos c]⟩
    · rw [e, if_neg c]
      rcases rdr_ch (σ := σ) (x0 := x0) n with ⟨k, h1, h2, h3⟩ | ⟨h1, h2⟩
      · exact Or.inl ⟨k, by omega, h2, h3⟩
      · refine Or.inr ⟨fun k hk => ?_, h2⟩
        rcases Nat.lt_succ_iff_lt_or_eq.mp hk with z | z
        · exact h1 k z
        · rw [z]; exact c
theorem fF_ch {f : Nat → Bool} : ∀ n i, (∃ k, i ≤ k ∧ k < i + n ∧ f k = true ∧ fF f i n = nI k) ∨ ((∀ k, i ≤ k → k < i + n → f k = false) ∧ fF f i n = -1)
  | 0, i => Or.inr ⟨fun k h1 h2 => by omega, rfl⟩
  | n + 1, i => by
    by_cases c : f i = true
    · exact Or.inl ⟨i, Nat.le_refl _, by omega, c, if_pos c⟩
    · have e : fF f i (n + 1) = fF f (i + 1) n := if_neg c
      rw [e]
      rcases fF_ch (f := f) n (i + 1) with ⟨k, h1, h2, h3, h4⟩ | ⟨h1, h2⟩
      · exact Or.inl ⟨k, by omega, by omega, h3, h4⟩
      · refine Or.inr ⟨fun k hk hk2 => ?_, h2⟩
        by_cases z : k = i
        · rw [z]; simpa using c
        · exact h1 k (by omega) (by omega)
theorem RQ_ranked {c : Nat} {σ : ST} {x0 : Int32} (h : Inv c σ) (hz : cdRk x0 = 0) : fF (fun k => decide (nI (rkcS σ k) = x0)) 0 (σ.1 7 0) = rdrS σ x0 (σ.1 7 0) := by
  have h7 := h.B.2.1
  have hle : ∀ k, rkcS σ k ≤ 12 := fun k => Nat.le_trans (fb_ct_le _ _) h7
  rcases fF_ch (f := fun k => decide (nI (rkcS σ k) = x0)) (σ.1 7 0) 0 with ⟨k, -, h2, h3, h4⟩ | ⟨h1, h2⟩
  · rcases rdr_ch (σ := σ) (x0 := x0) (σ.1 7 0) with ⟨k', g1, g2, g3⟩ | ⟨g1, -⟩
    · rw [h4, g3]
      have e1 : nI (rkcS σ k) = x0 := of_decide_eq_true h3
      have e2 : nI (rkcS σ k) = nI (rkcS σ k') := e1.trans g2.symm
      have e3 : rkcS σ k = rkcS σ k' := (nI_eq (by have := hle k; omega) (by have := hle k'; omega)).mp e2
      rw [rk_inj btc_tr btc_ir btc_tot (by omega) g1 e3]
    · exact absurd (of_decide_eq_true h3) (g1 k (by omega))
  · rcases rdr_ch (σ := σ) (x0 := x0) (σ.1 7 0) with ⟨k', g1, g2, g3⟩ | ⟨-, g2⟩
    · exact absurd g2 (of_decide_eq_false (h1 k' (Nat.zero_le _) (by omega)))
    · rw [h2, g2]
