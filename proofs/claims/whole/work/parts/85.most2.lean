/-! most: what the rows reach -/
def okE (σ : ST) (r e p : Nat) : Bool := (σ.1 20 (12 * r + whS σ r e)).testBit p && getsS σ r (whS σ r e) p
def stepP (σ : ST) (r j k p : Nat) : Prop := (σ.1 20 (12 * r + j)).testBit p = true ∧ getsS σ r j p = true ∧ k / unS p % 5 < σ.1 12 r
theorem gPf_iff {σ : ST} {r j k q : Nat} {f : Nat → Nat} : ∀ P, ¬ gPf σ r j f k P q = 0 ↔ ¬ f q = 0 ∨ (¬ f k = 0 ∧ ∃ p, p < P ∧ stepP σ r j k p ∧ q = k + unS p)
  | 0 => by
    constructor
    · exact Or.inl
    · rintro (h | ⟨-, p, hp, -⟩)
      · exact h
      · exact absurd hp (Nat.not_lt_zero _)
  | P + 1 => by
    have ih := gPf_iff (σ := σ) (r := r) (j := j) (k := k) (q := q) (f := f) P
    have hc : (decide (¬ f k = 0) && hasP σ r j k P && getsS σ r j P) = true ↔ ¬ f k = 0 ∧ stepP σ r j k P := by
      unfold hasP stepP
      simp only [Bool.and_eq_true, decide_eq_true_eq]
      constructor
      · rintro ⟨⟨a1, a2, a3⟩, a4⟩; exact ⟨a1, a2, a4, a3⟩
      · rintro ⟨a1, a2, a4, a3⟩; exact ⟨⟨a1, a2, a3⟩, a4⟩
    simp only [gPf]
    by_cases c : (decide (¬ f k = 0) && hasP σ r j k P && getsS σ r j P) = true
    · rw [if_pos c]
      have c2 := hc.mp c
      unfold fN
      by_cases z : q = k + unS P
      · rw [if_pos z]
        exact ⟨fun _ => Or.inr ⟨c2.1, P, by omega, c2.2, z⟩, fun _ => by decide⟩
      · rw [if_neg z, ih]
        constructor
        · rintro (h | ⟨h1, p, hp, h2⟩)
          · exact Or.inl h
          · exact Or.inr ⟨h1, p, by omega, h2⟩
        · rintro (h | ⟨h1, p, hp, h2, h3⟩)
          · exact Or.inl h
          · refine Or.inr ⟨h1, p, ?_, h2, h3⟩
            have : ¬ p = P := fun y => z (by rw [h3, y])
            omega
    · rw [if_neg c, ih]
      constructor
      · rintro (h | ⟨h1, p, hp, h2⟩)
        · exact Or.inl h
        · exact Or.inr ⟨h1, p, by omega, h2⟩
      · rintro (h | ⟨h1, p, hp, h2, h3⟩)
        · exact Or.inl h
        · refine Or.inr ⟨h1, p, ?_, h2, h3⟩
          have : ¬ p = P := fun y => c (hc.mpr ⟨h1, by rw [← y]; exact h2⟩)
          omega
theorem gKf_iff {σ : ST} {r j : Nat} {f : Nat → Nat} : ∀ n, n ≤ 625 → ∀ q, (¬ gKf σ r j f n q = 0 ↔ ¬ f q = 0 ∨ ∃ k p, 625 - n ≤ k ∧ k < 625 ∧ p < σ.1 11 r ∧ ¬ f k = 0 ∧ stepP σ r j k p ∧ q = k + unS p)
  | 0, _, q => by
    constructor
    · exact Or.inl
    · rintro (h | ⟨k, p, h1, h2, -⟩)
      · exact h
      · omega
  | n + 1, hn, q => by
    have ih := gKf_iff (σ := σ) (r := r) (j := j) (f := f) n (by omega)
    have h0 : gKf σ r j f (n + 1) = gPf σ r j (gKf σ r j f n) (625 - n - 1) (σ.1 11 r) := rfl
    have hk : ¬ gKf σ r j f n (625 - n - 1) = 0 ↔ ¬ f (625 - n - 1) = 0 := by
      rw [ih]
      constructor
      · rintro (h | ⟨k, p, h1, h2, -, -, -, h6⟩)
        · exact h
        · omega
      · exact Or.inl
    rw [h0, gPf_iff, hk, ih]
    constructor
    · rintro ((h | ⟨k, p, h1, h2⟩) | ⟨h1, p, h2, h3, h4⟩)
      · exact Or.inl h
      · exact Or.inr ⟨k, p, by omega, h2⟩
      · exact Or.inr ⟨625 - n - 1, p, by omega, by omega, h2, h1, h3, h4⟩
    · rintro (h | ⟨k, p, h1, h2, h3, h4, h5, h6⟩)
      · exact Or.inl (Or.inl h)
      · by_cases z : k = 625 - n - 1
        · subst z
          exact Or.inr ⟨h4, p, h3, h5, h6⟩
        · exact Or.inl (Or.inr ⟨k, p, by omega, h2, h3, h4, h5, h6⟩)
theorem gEf_iff {σ : ST} {r e q : Nat} : ¬ gEf σ r (e + 1) q = 0 ↔ ¬ gEf σ r e q = 0 ∨ ∃ k p, k < 625 ∧ p < σ.1 11 r ∧ ¬ gEf σ r e k = 0 ∧ okE σ r e p = true ∧ k / unS p % 5 < σ.1 12 r ∧ q = k + unS p := by
  have h := gKf_iff (σ := σ) (r := r) (j := whS σ r e) (f := gEf σ r e) 625 (Nat.le_refl _) q
  have h0 : gEf σ r (e + 1) = gKf σ r (whS σ r e) (gEf σ r e) 625 := rfl
  rw [h0, h]
  unfold stepP okE
  simp only [Bool.and_eq_true]
  constructor
  · rintro (h | ⟨k, p, h1, h2, h3, h4, h5, h6⟩)
    · exact Or.inl h
    · exact Or.inr ⟨k, p, h2, h3, h4, ⟨h5.1, h5.2.1⟩, h5.2.2, h6⟩
  · rintro (h | ⟨k, p, h2, h3, h4, h5, h6, h7⟩)
    · exact Or.inl h
    · exact Or.inr ⟨k, p, by omega, h2, h3, h4, ⟨h5.1, h5.2, h6⟩, h7⟩
theorem gEf_0 {σ : ST} {r q : Nat} (hq : q < 625) : ¬ gEf σ r 0 q = 0 ↔ q = 0 := by
  show ¬ fIn σ 625 q = 0 ↔ q = 0
  unfold fIn
  rw [if_pos hq]
  by_cases z : q = 0
  · simp [z, bz]
  · simp [z, bz]
/-- the digits -/
def dgA (k p : Nat) : Nat := k / unS p % 5
theorem unS_c {p : Nat} (hp : p < 4) : (p = 0 ∧ unS p = 1) ∨ (p = 1 ∧ unS p = 5) ∨ (p = 2 ∧ unS p = 25) ∨ (p = 3 ∧ unS p = 125) := by
  have : p = 0 ∨ p = 1 ∨ p = 2 ∨ p = 3 := by omega
  rcases this with rfl | rfl | rfl | rfl <;> decide
theorem dgA_up {k p q d : Nat} (hk : k < 625) (hp : p < 4) (hq : q < 4) (hd : d ≤ 4) (h : dgA k p < d) : dgA (k + unS p) q = dgA k q + (if q = p then 1 else 0) := by
  unfold dgA at h ⊢
  rcases unS_c hp with ⟨rfl, e⟩ | ⟨rfl, e⟩ | ⟨rfl, e⟩ | ⟨rfl, e⟩ <;> rw [e] at h ⊢ <;> rcases unS_c hq with ⟨rfl, e2⟩ | ⟨rfl, e2⟩ | ⟨rfl, e2⟩ | ⟨rfl, e2⟩ <;> rw [e2] <;> simp <;> omega
theorem dgS_A {k : Nat} (hk : k < 625) : dgS k = fb_sm (dgA k) 4 := by
  show k % 5 + k / 5 % 5 + k / 25 % 5 + k / 125 = 0 + k / 1 % 5 + k / 5 % 5 + k / 25 % 5 + k / 125 % 5
  omega
def outA (k : Nat) (S : Nat → Bool) : Nat := fb_sm (fun p => if S p = true then 0 else dgA k p) 4
theorem outA_up {k p d : Nat} {S : Nat → Bool} (hk : k < 625) (hp : p < 4) (hd : d ≤ 4) (h : dgA k p < d) : outA (k + unS p) S = outA k S + (if S p = true then 0 else 1) := by
  unfold outA
  have h1 := fb_sm_upd (fun q => if S q = true then 0 else dgA k q) (if S p = true then 0 else dgA k p + 1) hp
  have h2 : fb_sm (fun q => if S q = true then 0 else dgA (k + unS p) q) 4 = fb_sm (fun q => if q = p then (if S p = true then 0 else dgA k p + 1) else if S q = true then 0 else dgA k q) 4 := fb_sm_cong (fun q hq => by
    rw [dgA_up hk hp hq hd h]
    by_cases z : q = p
    · subst z; simp
    · simp [z])
  rw [h2]
  by_cases z : S p = true
  · simp only [z, if_true] at h1 ⊢
    omega
  · simp only [z] at h1 ⊢
    simp at h1 ⊢
    omega
/-- what is reached lies under each cut -/
theorem rchU {σ : ST} {r : Nat} (hP : σ.1 11 r ≤ 4) (hC : σ.1 12 r ≤ 4) : ∀ (e k : Nat), k < 625 → ¬ gEf σ r e k = 0 → (∀ p, p < 4 → dgA k p ≤ σ.1 12 r ∧ (σ.1 11 r ≤ p → dgA k p = 0)) ∧ ∀ S, outA k S ≤ NwA (okE σ r) (σ.1 11 r) S e
  | 0, k, hk, h => by
    have h := (gEf_0 hk).mp h
    subst h
    have d0 : ∀ p, dgA 0 p = 0 := fun p => by unfold dgA; rw [Nat.zero_div]
    refine ⟨fun p _ => ?_, fun S => ?_⟩
    · rw [d0]; exact ⟨Nat.zero_le _, fun _ => rfl⟩
    · unfold outA
      rw [fb_sm_cong (g := fun _ => 0) (fun p _ => by rw [d0]; simp), fb_sm_const]
      rw [Nat.mul_zero]; exact Nat.zero_le _
  | e + 1, k, hk, h => by
    rcases gEf_iff.mp h with h1 | ⟨k0, p, h1, h2, h3, h4, h5, rfl⟩
    · obtain ⟨i1, i2⟩ := rchU hP hC e k hk h1
      refine ⟨i1, fun S => Nat.le_trans (i2 S) ?_⟩
      rw [NwA_s]
      omega
    · obtain ⟨i1, i2⟩ := rchU hP hC e k0 h1 h3
      refine ⟨fun q hq => ?_, fun S => ?_⟩
      · rw [dgA_up h1 (by omega) hq hC h5]
        have := i1 q hq
        by_cases z : q = p
        · subst z
          rw [if_pos rfl]
          have h5 : dgA k0 q < σ.1 12 r := h5
          exact ⟨by omega, fun y => by omega⟩
        · rw [if_neg z]; exact this
      · rw [outA_up h1 (by omega) hC h5, NwA_s]
        have := i2 S
        by_cases z : S p = true
        · rw [if_pos z]; omega
        · rw [if_neg z]
          have g : woA (okE σ r) (σ.1 11 r) S e = true := woA_iff.mpr ⟨p, h2, by simpa using z, h4⟩
          rw [g]
          show _ ≤ _ + 1
          omega
/-- what a way of placing counts is reached -/
theorem rchL {σ : ST} {r : Nat} (hP : σ.1 11 r ≤ 4) (hC : σ.1 12 r ≤ 4) : ∀ (e : Nat) (c : Nat → Nat) (m : Nat), (∀ p, c p ≤ σ.1 12 r) → ReA (okE σ r) (σ.1 11 r) e c m → ∃ k, k < 625 ∧ ¬ gEf σ r e k = 0 ∧ (∀ p, p < 4 → dgA k p ≤ c p) ∧ fb_sm (dgA k) 4 = m
  | 0, c, m, hc, h => by
    have h : m = 0 := h
    subst h
    have d0 : ∀ p, dgA 0 p = 0 := fun p => by unfold dgA; rw [Nat.zero_div]
    refine ⟨0, by decide, (gEf_0 (by decide)).mpr rfl, fun p _ => by rw [d0]; exact Nat.zero_le _, ?_⟩
    rw [fb_sm_cong (g := fun _ => 0) (fun p _ => d0 p), fb_sm_const]
  | e + 1, c, m, hc, h => by
    rcases h with h | ⟨p, m9, hp, h1, h2, rfl, h4⟩
    · obtain ⟨k, k1, k2, k3⟩ := rchL hP hC e c m hc h
      exact ⟨k, k1, gEf_iff.mpr (Or.inl k2), k3⟩
    · have hc9 : ∀ q, fN c p (c p - 1) q ≤ σ.1 12 r := fun q => by
        unfold fN
        split
        · have := hc p; omega
        · exact hc q
      obtain ⟨k, k1, k2, k3, k4⟩ := rchL hP hC e (fN c p (c p - 1)) m9 hc9 h4
      have k5 : dgA k p < σ.1 12 r := by
        have := k3 p (by omega)
        have := hc p
        unfold fN at *
        simp at *
        omega
      refine ⟨k + unS p, unS_k (p := p) k1 hC k5, gEf_iff.mpr (Or.inr ⟨k, p, k1, hp, k2, h1, k5, rfl⟩), fun q hq => ?_, ?_⟩
      · rw [dgA_up k1 (by omega) hq hC k5]
        have := k3 q hq
        unfold fN at this
        by_cases z : q = p
        · subst z
          simp at this ⊢
          omega
        · simp only [z, if_false] at this ⊢
          omega
      · have g := outA_up (S := fun _ => false) k1 (show p < 4 by omega) hC k5
        have g2 : ∀ x, outA x (fun _ => false) = fb_sm (dgA x) 4 := fun x => fb_sm_cong (fun q _ => by simp)
        rw [g2, g2, k4] at g
        exact g
theorem mxS_ge {f : Nat → Nat} {k : Nat} (h : ¬ f k = 0) : ∀ {n : Nat}, k < n → dgS k ≤ mxS f n
  | 0, hk => absurd hk (Nat.not_lt_zero _)
  | n + 1, hk => by
    simp only [mxS]
    by_cases z : k = n
    · subst z
      split
      · exact Nat.le_refl _
      · rename_i y
        exact Nat.le_of_not_lt (fun w => y ⟨h, w⟩)
    · have := mxS_ge h (n := n) (by omega)
      split <;> omega
theorem mxS_at {f : Nat → Nat} : ∀ {n : Nat}, mxS f n = 0 ∨ ∃ k, k < n ∧ ¬ f k = 0 ∧ mxS f n = dgS k
  | 0 => Or.inl rfl
  | n + 1 => by
    simp only [mxS]
    split
    · rename_i y
      exact Or.inr ⟨n, by omega, y.1, rfl⟩
    · rcases mxS_at (f := f) (n := n) with h | ⟨k, h1, h2⟩
      · exact Or.inl h
      · exact Or.inr ⟨k, by omega, h2⟩
theorem lst_le {σ : ST} {r st : Nat} : ∀ {n : Nat}, st < n → lstS σ r n ≤ cutV σ r st
  | 0, h => absurd h (Nat.not_lt_zero _)
  | n + 1, h => by
    simp only [lstS]
    by_cases z : st = n
    · subst z; split <;> omega
    · have := lst_le (σ := σ) (r := r) (st := st) (n := n) (by omega)
      split <;> omega
theorem lst_ge {σ : ST} {r m : Nat} (h0 : m ≤ σ.1 17 r) : ∀ {n : Nat}, (∀ st, st < n → m ≤ cutV σ r st) → m ≤ lstS σ r n
  | 0, _ => h0
  | n + 1, h => by
    simp only [lstS]
    have h1 := h n (by omega)
    have h2 := lst_ge h0 (n := n) (fun st hs => h st (by omega))
    split <;> omega
theorem maskA : ∀ (P : Nat) (S : Nat → Bool), ∃ st, st < 2 ^ P ∧ ∀ p, p < P → st.testBit p = S p
  | 0, _ => ⟨0, by decide, fun p hp => absurd hp (Nat.not_lt_zero _)⟩
  | P + 1, S => by
    obtain ⟨st, h1, h2⟩ := maskA P (fun p => S (p + 1))
    have hb := bz_le (S 0)
    refine ⟨2 * st + bz (S 0), by rw [Nat.pow_succ]; omega, fun p hp => ?_⟩
    cases p with
    | zero =>
      rw [Nat.testBit_zero]
      cases S 0 with
      | false => show decide ((2 * st + 0) % 2 = 1) = false; exact decide_eq_false (by omega)
      | true => show decide ((2 * st + 1) % 2 = 1) = true; exact decide_eq_true (by omega)
    | succ p =>
      rw [Nat.testBit_succ, show (2 * st + bz (S 0)) / 2 = st by omega]
      exact h2 p (by omega)
set_option maxRecDepth 100000 in
theorem pc4_ct : ∀ st, st < 16 → ∀ P, P < 5 → st < 2 ^ P → pc4 st = fb_ct st.testBit P := by decide +kernel
theorem cutA {σ : ST} {r st : Nat} (hP : σ.1 11 r ≤ 4) (hs : st < 2 ^ σ.1 11 r) : cutV σ r st = caA (fun _ => σ.1 12 r) st.testBit (σ.1 11 r) + NwA (okE σ r) (σ.1 11 r) st.testBit (σ.1 17 r) := by
  have h16 : st < 16 := Nat.lt_of_lt_of_le hs (Nat.pow_le_pow_right (by decide) hP)
  unfold cutV
  congr 1
  · rw [pc4_ct st h16 (σ.1 11 r) (by omega) hs, ct_sm]
    unfold caA
    have : ∀ n, σ.1 12 r * fb_sm (fun k => bz (st.testBit k)) n = fb_sm (fun p => if st.testBit p = true then σ.1 12 r else 0) n := by
      intro n
      induction n with
      | zero => rfl
      | succ n ih =>
        rw [fb_sm_succ, fb_sm_succ, Nat.mul_add, ih]
        cases st.testBit n <;> simp [bz]
    exact this _
  · refine fb_ct_cong (fun e _ => ?_)
    show anyB (wayS σ r (whS σ r e) st) (σ.1 11 r) = anyB (fun p => !st.testBit p && okE σ r e p) (σ.1 11 r)
    congr 1
    funext p
    unfold wayS okE
    cases (σ.1 20 (12 * r + whS σ r e)).testBit p <;> cases st.testBit p <;> cases getsS σ r (whS σ r e) p <;> rfl
theorem NwA_c {ok : Nat → Nat → Bool} {P n : Nat} {S T : Nat → Bool} (h : ∀ p, p < P → S p = T p) : NwA ok P S n = NwA ok P T n := fb_ct_cong (fun e _ => by
  rw [Bool.eq_iff_iff, woA_iff, woA_iff]
  constructor
  · rintro ⟨p, h1, h2, h3⟩; exact ⟨p, h1, (h p h1).symm.trans h2, h3⟩
  · rintro ⟨p, h1, h2, h3⟩; exact ⟨p, h1, (h p h1).trans h2, h3⟩)
theorem caA_c {c : Nat → Nat} {P : Nat} {S T : Nat → Bool} (h : ∀ p, p < P → S p = T p) : caA c S P = caA c T P := fb_sm_cong (fun p hp => by rw [h p hp])
theorem most_eq {σ : ST} {r : Nat} (hP : σ.1 11 r ≤ 4) (hC : σ.1 12 r ≤ 4) : lstS σ r (2 ^ σ.1 11 r) = mxS (gEf σ r (σ.1 17 r)) 625 := by
  apply Nat.le_antisymm
  · have hR : ReA (okE σ r) (σ.1 11 r) (σ.1 17 r) (fun _ => σ.1 12 r) (lstS σ r (2 ^ σ.1 11 r)) := koA _ _ _ (fun S => by
      obtain ⟨st, h1, h2⟩ := maskA (σ.1 11 r) S
      have h3 := lst_le (σ := σ) (r := r) h1
      rw [cutA hP h1, caA_c h2, NwA_c h2] at h3
      exact h3)
    obtain ⟨k, k1, k2, -, k4⟩ := rchL hP hC _ _ _ (fun _ => Nat.le_refl _) hR
    rw [← k4, ← dgS_A k1]
    exact mxS_ge k2 k1
  · rcases mxS_at (f := gEf σ r (σ.1 17 r)) (n := 625) with h | ⟨k, h1, h2, h3⟩
    · rw [h]; exact Nat.zero_le _
    · rw [h3, dgS_A h1]
      obtain ⟨i1, i2⟩ := rchU hP hC _ k h1 h2
      refine lst_ge ?_ (fun st hs => ?_)
      · have g := i2 (fun _ => false)
        have g2 : outA k (fun _ => false) = fb_sm (dgA k) 4 := fb_sm_cong (fun q _ => by simp)
        rw [g2] at g
        exact Nat.le_trans g (fb_ct_le _ _)
      · rw [cutA hP hs]
        have g := i2 st.testBit
        have g3 : fb_sm (dgA k) 4 = fb_sm (fun p => if st.testBit p = true then dgA k p else 0) 4 + outA k st.testBit := by
          unfold outA
          rw [← fb_sm_add]
          refine fb_sm_cong (fun p _ => ?_)
          cases st.testBit p <;> simp
        have g4 : fb_sm (fun p => if st.testBit p = true then dgA k p else 0) 4 ≤ caA (fun _ => σ.1 12 r) st.testBit (σ.1 11 r) := by
          have e4 : (4 : Nat) = σ.1 11 r + (4 - σ.1 11 r) := by omega
          rw [e4, fb_sm_split]
          have z : fb_sm (fun q => if st.testBit (σ.1 11 r + q) = true then dgA k (σ.1 11 r + q) else 0) (4 - σ.1 11 r) = 0 := by
            rw [fb_sm_cong (g := fun _ => 0) (fun q hq => by rw [(i1 (σ.1 11 r + q) (by omega)).2 (by omega)]; simp), fb_sm_const, Nat.mul_zero]
          rw [z, Nat.add_zero]
          refine fb_sm_le (fun p hp => ?_)
          split
          · exact (i1 p (by omega)).1
          · exact Nat.le_refl _
        omega
theorem RQ_most {c : Nat} {σ : ST} {x0 : Int32} (h : Inv c σ) (hz : cdMo σ x0 = 0) : nI (lstS σ (cl x0) (2 ^ σ.1 11 (cl x0))) = nI (mxS (gEf σ (cl x0) (σ.1 17 (cl x0))) 625) := by
  have h18 := h.B.2.2.1
  have hi : inN x0 (σ.1 18 0) = true := by
    unfold cdMo at hz
    cases c : inN x0 (σ.1 18 0) with
    | true => rfl
    | false => rw [c] at hz; cases hz
  obtain ⟨r, hr, rfl⟩ := inN_t (by omega) hi
  rw [cl_nI (by omega)]
  have b := h.B.2.2.2.1 r (by omega)
  rw [most_eq b.2.2.1 b.2.2.2.1]
