/-! ranks are told once each -/
theorem rk_sur {N : Nat} {lt : Nat → Nat → Bool} (tr : ∀ a b c, lt a b = true → lt b c = true → lt a c = true) (ir : ∀ a, lt a a = false) (tot : ∀ a b, a ≠ b → lt a b = true ∨ lt b a = true) : (∀ a, a < N → fb_ct (fun e => lt e a) N < N) ∧ ∀ q, q < N → ∃ a, a < N ∧ fb_ct (fun e => lt e a) N = q := by
  have hb : ∀ a, a < N → fb_ct (fun e => lt e a) N < N := fun a ha => by
    have h5 := ct_lt (p := fun e => lt e a) (q := fun _ => true) (n := N) (fun _ _ _ => rfl) ha (ir a) rfl
    have h6 : fb_ct (fun _ => true) N ≤ N := fb_ct_le _ _
    omega
  refine ⟨hb, fun q hq => ?_⟩
  have h := pm_gen (N := N) (fun _ => 1) (fun a => fb_ct (fun e => lt e a) N) N hb (fun a b ha hb' e => rk_inj tr ir tot ha hb' e)
  rw [fb_sm_const, Nat.mul_one] at h
  have h2 : fb_ct (inW (fun a => fb_ct (fun e => lt e a) N) N) N = N := by
    rw [ct_sm]
    exact h.symm
  obtain ⟨a, ha, e⟩ := inW_iff.mp (fb_ct_all.mp h2 q hq)
  exact ⟨a, ha, e⟩
theorem rr_ex {σ : ST} : ∃ rr : Nat → Nat, ∀ k, k < σ.1 7 0 → rr k < σ.1 7 0 ∧ rkcS σ (rr k) = k := by
  have h := (rk_sur (N := σ.1 7 0) (lt := btcS σ) btc_tr btc_ir btc_tot).2
  refine ⟨fun k => if hk : k < σ.1 7 0 then (h k hk).choose else 0, fun k hk => ?_⟩
  simp only [hk, dif_pos]
  exact (h k hk).choose_spec
theorem rkc_lt {σ : ST} {a : Nat} (ha : a < σ.1 7 0) : rkcS σ a < σ.1 7 0 := (rk_sur (N := σ.1 7 0) (lt := btcS σ) btc_tr btc_ir btc_tot).1 a ha
theorem rkd_at {σ : ST} {rr : Nat → Nat} {k : Nat} (h7 : σ.1 7 0 ≤ 12) (hr : ∀ k, k < σ.1 7 0 → rr k < σ.1 7 0 ∧ rkcS σ (rr k) = k) (hk : k < σ.1 7 0) : fF (fun q => decide (nI (rkcS σ q) = nI k)) 0 (σ.1 7 0) = nI (rr k) := by
  obtain ⟨h1, h2⟩ := hr k hk
  rcases fF_ch (f := fun q => decide (nI (rkcS σ q) = nI k)) (σ.1 7 0) 0 with ⟨q, -, g1, g2, g3⟩ | ⟨g1, -⟩
  · have e1 : rkcS σ q = k := (nI_eq (by have := rkc_lt (σ := σ) (a := q) (by omega); omega) (by omega)).mp (of_decide_eq_true g2)
    rw [g3, rk_inj btc_tr btc_ir btc_tot (show q < σ.1 7 0 by omega) h1 (e1.trans h2.symm)]
  · have := g1 (rr k) (Nat.zero_le _) (by omega)
    exact absurd (congrArg nI h2) (of_decide_eq_false this)
theorem rkd_out {σ : ST} (h7 : σ.1 7 0 ≤ 12) : fF (fun q => decide (nI (rkcS σ q) = nI (σ.1 7 0))) 0 (σ.1 7 0) = -1 := by
  rcases fF_ch (f := fun q => decide (nI (rkcS σ q) = nI (σ.1 7 0))) (σ.1 7 0) 0 with ⟨q, -, g1, g2, g3⟩ | ⟨-, g2⟩
  · have h := rkc_lt (σ := σ) (a := q) (by omega)
    have e1 : rkcS σ q = σ.1 7 0 := (nI_eq (by omega) (by omega)).mp (of_decide_eq_true g2)
    omega
  · exact g2
theorem rr_dn {σ : ST} {rr : Nat → Nat} {k : Nat} (hr : ∀ k, k < σ.1 7 0 → rr k < σ.1 7 0 ∧ rkcS σ (rr k) = k) (hk : k + 1 < σ.1 7 0) : b3T σ (rr (k + 1)) ≤ b3T σ (rr k) := by
  obtain ⟨h1, h2⟩ := hr k (by omega)
  obtain ⟨h3, h4⟩ := hr (k + 1) hk
  have hne : rr k ≠ rr (k + 1) := fun z => by rw [z, h4] at h2; omega
  rcases btc_tot (σ := σ) _ _ hne with h | h
  · rw [btc_iff] at h; omega
  · have := rk_lt (N := σ.1 7 0) btc_tr btc_ir h3 h
    have e1 : fb_ct (fun e => btcS σ e (rr (k + 1))) (σ.1 7 0) = k + 1 := h4
    have e2 : fb_ct (fun e => btcS σ e (rr k)) (σ.1 7 0) = k := h2
    omega
/-- masks -/
def mkF (f : Nat → Nat) (p : Nat → Bool) : Nat → Nat
  | 0 => 0
  | k + 1 => if p k then mkF f p k ||| 2 ^ f k else mkF f p k
theorem mkF_bit {f : Nat → Nat} {p : Nat → Bool} {q : Nat} : ∀ k, (mkF f p k).testBit q = true ↔ ∃ i, i < k ∧ p i = true ∧ f i = q
  | 0 => by
    constructor
    · intro h
      have : (0 : Nat).testBit q = true := h
      rw [Nat.zero_testBit] at this; cases this
    · rintro ⟨i, h, -⟩; omega
  | k + 1 => by
    by_cases z : p k = true
    · have e : mkF f p (k + 1) = mkF f p k ||| 2 ^ f k := if_pos z
      rw [e, Nat.testBit_or, Bool.or_eq_true, mkF_bit k, Nat.testBit_two_pow]
      constructor
      · rintro (⟨i, h1, h2⟩ | h)
        · exact ⟨i, by omega, h2⟩
        · exact ⟨k, by omega, z, of_decide_eq_true h⟩
      · rintro ⟨i, h1, h2, h3⟩
        by_cases y : i = k
        · subst y; exact Or.inr (decide_eq_true h3)
        · exact Or.inl ⟨i, by omega, h2, h3⟩
    · have e : mkF f p (k + 1) = mkF f p k := if_neg z
      rw [e, mkF_bit k]
      constructor
      · rintro ⟨i, h1, h2⟩; exact ⟨i, by omega, h2⟩
      · rintro ⟨i, h1, h2, h3⟩
        by_cases y : i = k
        · subst y; exact absurd h2 z
        · exact ⟨i, by omega, h2, h3⟩
theorem mkF_lt {f : Nat → Nat} {p : Nat → Bool} {B : Nat} : ∀ k, (∀ i, i < k → p i = true → f i < B) → mkF f p k < 2 ^ B
  | 0, _ => Nat.two_pow_pos B
  | k + 1, h => by
    have ih := mkF_lt (f := f) (p := p) (B := B) k (fun i hi => h i (by omega))
    by_cases z : p k = true
    · have e : mkF f p (k + 1) = mkF f p k ||| 2 ^ f k := if_pos z
      rw [e]
      exact Nat.or_lt_two_pow ih (Nat.pow_lt_pow_right (by decide) (h k (by omega) z))
    · have e : mkF f p (k + 1) = mkF f p k := if_neg z
      rw [e]; exact ih
theorem or_nI {S T : Nat} : nI S ||| nI T = nI (S ||| T) := by
  apply Int32.toBitVec_inj.mp
  rw [Int32.toBitVec_or]
  show BitVec.ofNat 32 S ||| BitVec.ofNat 32 T = BitVec.ofNat 32 (S ||| T)
  apply BitVec.eq_of_getLsbD_eq
  intro i hi
  rw [BitVec.getLsbD_or, BitVec.getLsbD_ofNat, BitVec.getLsbD_ofNat, BitVec.getLsbD_ofNat, Nat.testBit_or]
  cases decide (i < 32) <;> simp
theorem shl_16 : ∀ p, p < 17 → nI 1 <<< (nI p &&& 31) = nI (2 ^ p) := by decide
/-! beasts -/
theorem ahd_iff {σ : ST} {b o : Nat} : ahdS σ b o = true ↔ σ.1 3 o * σ.1 2 b < σ.1 3 b * σ.1 2 o ∨ (σ.1 3 b * σ.1 2 o = σ.1 3 o * σ.1 2 b ∧ (σ.1 4 o * σ.1 2 b < σ.1 4 b * σ.1 2 o ∨ (σ.1 4 b * σ.1 2 o = σ.1 4 o * σ.1 2 b ∧ b < o))) := by
  unfold ahdS
  by_cases c1 : σ.1 3 b * σ.1 2 o = σ.1 3 o * σ.1 2 b
  · rw [if_neg (fun z => z c1)]
    by_cases c2 : σ.1 4 b * σ.1 2 o = σ.1 4 o * σ.1 2 b
    · rw [if_neg (fun z => z c2), decide_eq_true_eq]; omega
    · rw [if_pos c2, decide_eq_true_eq]; omega
  · rw [if_pos c1, decide_eq_true_eq]; omega
theorem fr_1 {x1 t1 x2 t2 x3 t3 : Nat} (h1 : x2 * t1 ≤ x1 * t2) (h2 : x3 * t2 ≤ x2 * t3) (h0 : 0 < t2) : x3 * t1 ≤ x1 * t3 := by
  refine Nat.le_of_mul_le_mul_right (c := t2) ?_ h0
  have a1 := Nat.mul_le_mul_right t1 h2
  have a2 := Nat.mul_le_mul_right t3 h1
  have e1 : x3 * t1 * t2 = x3 * t2 * t1 := Nat.mul_right_comm _ _ _
  have e2 : x2 * t3 * t1 = x2 * t1 * t3 := Nat.mul_right_comm _ _ _
  have e3 : x1 * t3 * t2 = x1 * t2 * t3 := Nat.mul_right_comm _ _ _
  omega
theorem fr_2 {x1 t1 x2 t2 x3 t3 : Nat} (h1 : x2 * t1 ≤ x1 * t2) (h2 : x3 * t2 ≤ x2 * t3) (h : x2 * t1 < x1 * t2 ∨ x3 * t2 < x2 * t3) (k1 : 0 < t1) (k3 : 0 < t3) : x3 * t1 < x1 * t3 := by
  refine Nat.lt_of_mul_lt_mul_right (a := t2) ?_
  have a1 := Nat.mul_le_mul_right t1 h2
  have a2 := Nat.mul_le_mul_right t3 h1
  have e1 : x3 * t1 * t2 = x3 * t2 * t1 := Nat.mul_right_comm _ _ _
  have e2 : x2 * t3 * t1 = x2 * t1 * t3 := Nat.mul_right_comm _ _ _
  have e3 : x1 * t3 * t2 = x1 * t2 * t3 := Nat.mul_right_comm _ _ _
  rcases h with h | h
  · have := Nat.mul_lt_mul_of_pos_right h k3; omega
  · have := Nat.mul_lt_mul_of_pos_right h k1; omega
def flB (σ : ST) (b : Nat) : Bool := decide (0 < σ.1 2 b)
def blB (σ : ST) (a b : Nat) : Bool := (flB σ a && (!flB σ b || ahdS σ a b)) || (!flB σ a && !flB σ b && decide (a < b))
theorem ahd_ir {σ : ST} {a : Nat} : ahdS σ a a = false := by
  cases c : ahdS σ a a with
  | false => rfl
  | true => rw [ahd_iff] at c; omega
theorem ahd_tr {σ : ST} {a b c : Nat} (ha : 0 < σ.1 2 a) (hb : 0 < σ.1 2 b) (hc : 0 < σ.1 2 c) (h1 : ahdS σ a b = true) (h2 : ahdS σ b c = true) : ahdS σ a c = true := by
  rw [ahd_iff] at h1 h2 ⊢
  have le1 : σ.1 3 b * σ.1 2 a ≤ σ.1 3 a * σ.1 2 b := by omega
  have le2 : σ.1 3 c * σ.1 2 b ≤ σ.1 3 b * σ.1 2 c := by omega
  by_cases s : σ.1 3 b * σ.1 2 a < σ.1 3 a * σ.1 2 b ∨ σ.1 3 c * σ.1 2 b < σ.1 3 b * σ.1 2 c
  · exact Or.inl (fr_2 le1 le2 s ha hc)
  · have q1 : σ.1 3 a * σ.1 2 b = σ.1 3 b * σ.1 2 a := by omega
    have q2 : σ.1 3 b * σ.1 2 c = σ.1 3 c * σ.1 2 b := by omega
    have r1 := fr_1 le1 le2 hb
    have r2 := fr_1 (x1 := σ.1 3 c) (t1 := σ.1 2 c) (x2 := σ.1 3 b) (t2 := σ.1 2 b) (x3 := σ.1 3 a) (t3 := σ.1 2 a) (by omega) (by omega) hb
    refine Or.inr ⟨by omega, ?_⟩
    have le3 : σ.1 4 b * σ.1 2 a ≤ σ.1 4 a * σ.1 2 b := by omega
    have le4 : σ.1 4 c * σ.1 2 b ≤ σ.1 4 b * σ.1 2 c := by omega
    by_cases s2 : σ.1 4 b * σ.1 2 a < σ.1 4 a * σ.1 2 b ∨ σ.1 4 c * σ.1 2 b < σ.1 4 b * σ.1 2 c
    · exact Or.inl (fr_2 le3 le4 s2 ha hc)
    · have r3 := fr_1 le3 le4 hb
      have r4 := fr_1 (x1 := σ.1 4 c) (t1 := σ.1 2 c) (x2 := σ.1 4 b) (t2 := σ.1 2 b) (x3 := σ.1 4 a) (t3 := σ.1 2 a) (by omega) (by omega) hb
      exact Or.inr ⟨by omega, by omega⟩
theorem ahd_tot {σ : ST} {a b : Nat} (h : a ≠ b) : ahdS σ a b = true ∨ ahdS σ b a = true := by
  rw [ahd_iff, ahd_iff]
  omega
theorem bl_tf {σ : ST} {a b : Nat} (hb : flB σ b = true) : blB σ a b = (flB σ a && ahdS σ a b) := by
  unfold blB
  rw [hb]
  cases flB σ a <;> simp
theorem bl_ff {σ : ST} {a b : Nat} (hb : flB σ b = false) : blB σ a b = (flB σ a || decide (a < b)) := by
  unfold blB
  rw [hb]
  cases flB σ a <;> simp
theorem bl_ir {σ : ST} : ∀ a, blB σ a a = false := by
  intro a
  cases c : flB σ a with
  | true => rw [bl_tf c, ahd_ir, Bool.and_false]
  | false => rw [bl_ff c, c, decide_eq_false (Nat.lt_irrefl a)]; rfl
theorem bl_tot {σ : ST} : ∀ a b, a ≠ b → blB σ a b = true ∨ blB σ b a = true := by
  intro a b h
  cases c : flB σ a with
  | true =>
    cases d : flB σ b with
    | true =>
      rw [bl_tf d, bl_tf c, c, d, Bool.true_and, Bool.true_and]
      exact ahd_tot h
    | false => rw [bl_ff d, c]; exact Or.inl rfl
  | false =>
    cases d : flB σ b with
    | true => rw [bl_ff (a := b) c, d]; exact Or.inr rfl
    | false =>
      rw [bl_ff d, bl_ff c, c, d, Bool.false_or, Bool.false_or, decide_eq_true_eq, decide_eq_true_eq]
      omega
theorem bl_tr {σ : ST} : ∀ a b c, blB σ a b = true → blB σ b c = true → blB σ a c = true := by
  intro a b c h1 h2
  cases fc : flB σ c with
  | true =>
    rw [bl_tf fc, Bool.and_eq_true] at h2
    rw [bl_tf h2.1, Bool.and_eq_true] at h1
    rw [bl_tf fc, h1.1, Bool.true_and]
    exact ahd_tr (of_decide_eq_true h1.1) (of_decide_eq_true h2.1) (of_decide_eq_true fc) h1.2 h2.2
  | false =>
    rw [bl_ff fc]
    cases fa : flB σ a with
    | true => rfl
    | false =>
      cases fb : flB σ b with
      | true => rw [bl_tf fb, fa] at h1; cases h1
      | false =>
        rw [bl_ff fb, fa, Bool.false_or, decide_eq_true_eq] at h1
        rw [bl_ff fc, fb, Bool.false_or, decide_eq_true_eq] at h2
        rw [Bool.false_or, decide_eq_true_eq]
        omega
def rbB (σ : ST) (b : Nat) : Nat := fb_ct (fun e => blB σ e b) (σ.1 6 0)
theorem rkb_r {σ : ST} {b : Nat} : rkbS σ b = if σ.1 2 b = 0 then -1 else nI (rbB σ b) := by
  unfold rkbS
  by_cases z : σ.1 2 b = 0
  · rw [if_pos z, if_pos z]
  · rw [if_neg z, if_neg z]
    congr 1
    unfold rbB
    refine fb_ct_cong (fun e _ => ?_)
    rw [bl_tf (show flB σ b = true from decide_eq_true (by omega))]
    by_cases y : e = b
    · subst y; rw [ahd_ir, Bool.and_false, Bool.and_false]
    · rw [decide_eq_true y]; rfl
theorem rb_lt {σ : ST} {b : Nat} (hb : b < σ.1 6 0) (hf : flB σ b = true) : rbB σ b < fb_ct (flB σ) (σ.1 6 0) := by
  unfold rbB
  refine ct_lt (p := fun e => blB σ e b) (q := flB σ) (fun k _ hk => ?_) hb (bl_ir b) hf
  have hk : blB σ k b = true := hk
  rw [bl_tf hf, Bool.and_eq_true] at hk
  exact hk.1
theorem rb_ge {σ : ST} {b : Nat} (hf : flB σ b = false) : fb_ct (flB σ) (σ.1 6 0) ≤ rbB σ b := by
  unfold rbB
  refine fb_ct_sub (fun k _ hk => ?_)
  show blB σ k b = true
  rw [bl_ff hf, hk]; rfl
theorem bm_all {σ : ST} : mkF (rbB σ) (flB σ) (σ.1 6 0) = 2 ^ fb_ct (flB σ) (σ.1 6 0) - 1 := by
  apply Nat.eq_of_testBit_eq
  intro q
  rw [Nat.testBit_two_pow_sub_one, Bool.eq_iff_iff, mkF_bit, decide_eq_true_eq]
  constructor
  · rintro ⟨i, h1, h2, h3⟩
    rw [← h3]; exact rb_lt h1 h2
  · intro h
    obtain ⟨a, ha, e⟩ := (rk_sur (N := σ.1 6 0) (lt := blB σ) bl_tr bl_ir bl_tot).2 q (Nat.lt_of_lt_of_le h (fb_ct_le _ _))
    refine ⟨a, ha, ?_, e⟩
    cases c : flB σ a with
    | true => rfl
    | false =>
      have := rb_ge c
      have e : rbB σ a = q := e
      omega
theorem rb_inj {σ : ST} {a b : Nat} (ha : a < σ.1 6 0) (hb : b < σ.1 6 0) (h : rbB σ a = rbB σ b) : a = b := rk_inj bl_tr bl_ir bl_tot ha hb h
