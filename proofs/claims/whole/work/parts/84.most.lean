/-! most: the greatest number of places and the least cut are one -/
def woA (ok : Nat → Nat → Bool) (P : Nat) (S : Nat → Bool) (e : Nat) : Bool := anyB (fun p => !S p && ok e p) P
def NwA (ok : Nat → Nat → Bool) (P : Nat) (S : Nat → Bool) (n : Nat) : Nat := fb_ct (woA ok P S) n
def caA (c : Nat → Nat) (S : Nat → Bool) (P : Nat) : Nat := fb_sm (fun p => if S p = true then c p else 0) P
def ReA (ok : Nat → Nat → Bool) (P : Nat) : Nat → (Nat → Nat) → Nat → Prop
  | 0, _, m => m = 0
  | e + 1, c, m => ReA ok P e c m ∨ ∃ p m9, p < P ∧ ok e p = true ∧ 1 ≤ c p ∧ m = m9 + 1 ∧ ReA ok P e (fN c p (c p - 1)) m9
theorem woA_iff {ok : Nat → Nat → Bool} {P : Nat} {S : Nat → Bool} {e : Nat} : woA ok P S e = true ↔ ∃ p, p < P ∧ S p = false ∧ ok e p = true := by
  unfold woA
  rw [anyB_iff]
  simp
theorem bz_2 {a b c d : Bool} (h1 : a = true → c = true ∧ d = true) (h2 : b = true → c = true ∨ d = true) : bz a + bz b ≤ bz c + bz d := by
  cases a <;> cases b <;> cases c <;> cases d <;> simp_all [bz]
theorem NwA_sub {ok : Nat → Nat → Bool} {P n : Nat} {S T : Nat → Bool} : NwA ok P (fun p => S p || T p) n + NwA ok P (fun p => S p && T p) n ≤ NwA ok P S n + NwA ok P T n := by
  unfold NwA
  rw [ct_sm, ct_sm, ct_sm, ct_sm, ← fb_sm_add, ← fb_sm_add]
  refine fb_sm_le (fun e _ => bz_2 (fun h => ?_) (fun h => ?_))
  · obtain ⟨p, hp, h1, h2⟩ := woA_iff.mp h
    have h1 := Bool.or_eq_false_iff.mp h1
    exact ⟨woA_iff.mpr ⟨p, hp, h1.1, h2⟩, woA_iff.mpr ⟨p, hp, h1.2, h2⟩⟩
  · obtain ⟨p, hp, h1, h2⟩ := woA_iff.mp h
    have h1 : (S p && T p) = false := h1
    cases hS : S p with
    | false => exact Or.inl (woA_iff.mpr ⟨p, hp, hS, h2⟩)
    | true =>
      rw [hS, Bool.true_and] at h1
      exact Or.inr (woA_iff.mpr ⟨p, hp, h1, h2⟩)
theorem NwA_mono {ok : Nat → Nat → Bool} {P n : Nat} {S T : Nat → Bool} (h : ∀ p, S p = true → T p = true) : NwA ok P T n ≤ NwA ok P S n := by
  unfold NwA
  rw [ct_sm, ct_sm]
  refine fb_sm_le (fun e _ => ?_)
  have : woA ok P T e = true → woA ok P S e = true := fun z => by
    obtain ⟨p, hp, h1, h2⟩ := woA_iff.mp z
    refine woA_iff.mpr ⟨p, hp, ?_, h2⟩
    cases hS : S p with
    | false => rfl
    | true => rw [h p hS] at h1; cases h1
  have g := bz_2 (a := woA ok P T e) (b := false) (c := woA ok P S e) (d := woA ok P S e)
  cases h1 : woA ok P T e with
  | false => exact Nat.zero_le _
  | true => rw [this h1]; exact Nat.le_refl _
theorem caA_mod {c : Nat → Nat} {P : Nat} {S T : Nat → Bool} : caA c (fun p => S p || T p) P + caA c (fun p => S p && T p) P = caA c S P + caA c T P := by
  unfold caA
  rw [← fb_sm_add, ← fb_sm_add]
  refine fb_sm_cong (fun p _ => ?_)
  cases hS : S p <;> cases hT : T p <;> simp [hS, hT]
theorem caA_0 {c : Nat → Nat} {P : Nat} : caA c (fun _ => false) P = 0 := by
  unfold caA
  rw [fb_sm_cong (g := fun _ => 0) (fun p _ => by simp), fb_sm_const, Nat.mul_zero]
theorem caA_dn {c : Nat → Nat} {P p : Nat} {S : Nat → Bool} (hp : p < P) (hc : 1 ≤ c p) : caA (fN c p (c p - 1)) S P + (if S p = true then 1 else 0) = caA c S P := by
  have h1 := fb_sm_upd (fun q => if S q = true then c q else 0) (if S p = true then c p - 1 else 0) hp
  have h2 : caA (fN c p (c p - 1)) S P = fb_sm (fun k => if k = p then (if S p = true then c p - 1 else 0) else if S k = true then c k else 0) P := fb_sm_cong (fun k _ => by
    unfold fN
    by_cases z : k = p
    · subst z; simp
    · simp [z])
  rw [h2]
  unfold caA
  by_cases z : S p = true
  · simp only [z, if_true] at h1 ⊢
    omega
  · simp only [z] at h1 ⊢
    simpa using h1
theorem caA_in {c : Nat → Nat} {P q : Nat} {S : Nat → Bool} (hc : c q = 0) : caA c (fun p => S p || decide (p = q)) P = caA c S P := fb_sm_cong (fun p _ => by
  by_cases z : p = q
  · subst z; simp [hc]
  · simp [z])
/-- who is tight may grow -/
theorem tgA {ok : Nat → Nat → Bool} {P n m e : Nat} {c : Nat → Nat} (H : ∀ S, m ≤ caA c S P + NwA ok P S n) (S0 : Nat → Bool) (h0 : caA c S0 P + NwA ok P S0 n ≤ m) (hp : ∀ p, p < P → ok e p = true → c p = 0 ∨ ∃ S, S p = true ∧ caA c S P + NwA ok P S n ≤ m) : ∀ q, q ≤ P → ∃ S, caA c S P + NwA ok P S n ≤ m ∧ ∀ p, p < q → ok e p = true → S p = true
  | 0, _ => ⟨S0, h0, fun p hp _ => absurd hp (Nat.not_lt_zero _)⟩
  | q + 1, hq => by
    obtain ⟨S, hS, hT⟩ := tgA H S0 h0 hp q (by omega)
    by_cases z : ok e q = true
    · rcases hp q (by omega) z with z1 | ⟨T, hT1, hT2⟩
      · refine ⟨fun p => S p || decide (p = q), ?_, fun p h1 h2 => ?_⟩
        · rw [caA_in z1]
          exact Nat.le_trans (Nat.add_le_add_left (NwA_mono (fun p h => by simp [h])) _) hS
        · by_cases y : p = q
          · simp [y]
          · simp [hT p (by omega) h2]
      · refine ⟨fun p => S p || T p, ?_, fun p h1 h2 => ?_⟩
        · have g1 := H (fun p => S p && T p)
          have g2 := caA_mod (c := c) (P := P) (S := S) (T := T)
          have g3 := NwA_sub (ok := ok) (P := P) (n := n) (S := S) (T := T)
          omega
        · by_cases y : p = q
          · simp [y, hT1]
          · simp [hT p (by omega) h2]
    · refine ⟨S, hS, fun p h1 h2 => ?_⟩
      by_cases y : p = q
      · rw [y] at h2; exact absurd h2 z
      · exact hT p (by omega) h2
theorem NwA_s {ok : Nat → Nat → Bool} {P n : Nat} {S : Nat → Bool} : NwA ok P S (n + 1) = NwA ok P S n + bz (woA ok P S n) := rfl
theorem koA {ok : Nat → Nat → Bool} {P : Nat} : ∀ (n : Nat) (c : Nat → Nat) (m : Nat), (∀ S, m ≤ caA c S P + NwA ok P S n) → ReA ok P n c m
  | 0, c, m, H => by
    have := H (fun _ => false)
    rw [caA_0] at this
    exact Nat.le_zero.mp this
  | n + 1, c, m, H => by
    by_cases z : ∀ S, m ≤ caA c S P + NwA ok P S n
    · exact Or.inl (koA n c m z)
    · obtain ⟨S0, hS0⟩ := Classical.not_forall.mp z
      have b1 : ∀ S, m ≤ caA c S P + NwA ok P S n + 1 := fun S => by
        have := H S
        rw [NwA_s] at this
        have := bz_le (woA ok P S n)
        omega
      obtain ⟨m9, hm⟩ : ∃ m9, m = m9 + 1 := ⟨m - 1, by omega⟩
      have H9 : ∀ S, m9 ≤ caA c S P + NwA ok P S n := fun S => by have := b1 S; omega
      by_cases y : ∃ p, p < P ∧ ok n p = true ∧ 1 ≤ c p ∧ ∀ S, S p = true → m9 < caA c S P + NwA ok P S n
      · obtain ⟨p, hp, h1, h2, h3⟩ := y
        refine Or.inr ⟨p, m9, hp, h1, h2, hm, koA n _ m9 (fun S => ?_)⟩
        have g := caA_dn (P := P) (S := S) hp h2
        by_cases x : S p = true
        · have := h3 S x
          rw [if_pos x] at g
          omega
        · rw [if_neg x] at g
          have := H9 S
          omega
      · exfalso
        obtain ⟨S, hS, hT⟩ := tgA (e := n) H9 S0 (by omega) (fun p hp h1 => by
          by_cases x : c p = 0
          · exact Or.inl x
          · refine Or.inr (Classical.byContradiction (fun w => y ⟨p, hp, h1, by omega, fun S hS => ?_⟩))
            exact Nat.lt_of_not_le (fun v => w ⟨S, hS, v⟩)) P (Nat.le_refl _)
        have g := H S
        rw [NwA_s] at g
        have : woA ok P S n = false := by
          cases h : woA ok P S n with
          | false => rfl
          | true =>
            obtain ⟨p, hp, h1, h2⟩ := woA_iff.mp h
            rw [hT p hp h2] at h1
            cases h1
        rw [this] at g
        have : bz false = 0 := rfl
        omega
