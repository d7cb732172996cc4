/-! closing places no more than the most, and at least half of it -/
def woA (ok : Nat → Nat → Bool) (P : Nat) (S : Nat → Bool) (e : Nat) : Bool := anyB (fun p => !S p && ok e p) P
def NwA (ok : Nat → Nat → Bool) (P : Nat) (S : Nat → Bool) (n : Nat) : Nat := fb_ct (woA ok P S) n
def caA (c : Nat → Nat) (S : Nat → Bool) (P : Nat) : Nat := fb_sm (fun p => if S p = true then c p else 0) P
theorem woA_iff {ok : Nat → Nat → Bool} {P : Nat} {S : Nat → Bool} {e : Nat} : woA ok P S e = true ↔ ∃ p, p < P ∧ S p = false ∧ ok e p = true := by
  unfold woA
  rw [anyB_iff]
  simp
def okE (σ : ST) (r e p : Nat) : Bool := (σ.1 20 (12 * r + whS σ r e)).testBit p && getsS σ r (whS σ r e) p
theorem lst_le {σ : ST} {r st : Nat} : ∀ {n : Nat}, st < n → lstS σ r n ≤ cutV σ r st
  | 0, h => absurd h (Nat.not_lt_zero _)
  | n + 1, h => by
    simp only [lstS]
    by_cases z : st = n
    · subst z; split <;> omega
    · have := lst_le (σ := σ) (r := r) (st := st) (n := n) (by omega)
      split <;> omega
theorem lst_ge {σ : ST} {r m : Nat} (h0 : m ≤ σ.1 17 r) : ∀ {n : Nat}, (∀ st, st < n → m ≤ cutV σ r st) → m ≤ lstS σ r n
  | 0, _ => h0
  | n + 1, h => by
    simp only [lstS]
    have h1 := h n (by omega)
    have h2 := lst_ge h0 (n := n) (fun st hs => h st (by omega))
    split <;> omega
theorem maskA : ∀ (P : Nat) (S : Nat → Bool), ∃ st, st < 2 ^ P ∧ ∀ p, p < P → st.testBit p = S p
  | 0, _ => ⟨0, by decide, fun p hp => absurd hp (Nat.not_lt_zero _)⟩
  | P + 1, S => by
    obtain ⟨st, h1, h2⟩ := maskA P (fun p => S (p + 1))
    have hb := bz_le (S 0)
    refine ⟨2 * st + bz (S 0), by rw [Nat.pow_succ]; omega, fun p hp => ?_⟩
    cases p with
    | zero =>
      rw [Nat.testBit_zero]
      cases S 0 with
      | false => show decide ((2 * st + 0) % 2 = 1) = false; exact decide_eq_false (by omega)
      | true => show decide ((2 * st + 1) % 2 = 1) = true; exact decide_eq_true (by omega)
    | succ p =>
      rw [Nat.testBit_succ, show (2 * st + bz (S 0)) / 2 = st by omega]
      exact h2 p (by omega)
set_option maxRecDepth 100000 in
theorem pc4_ct : ∀ st, st < 16 → ∀ P, P < 5 → st < 2 ^ P → pc4 st = fb_ct st.testBit P := by decide +kernel
theorem cutA {σ : ST} {r st : Nat} (hP : σ.1 11 r ≤ 4) (hs : st < 2 ^ σ.1 11 r) : cutV σ r st = caA (fun _ => σ.1 12 r) st.testBit (σ.1 11 r) + NwA (okE σ r) (σ.1 11 r) st.testBit (σ.1 17 r) := by
  have h16 : st < 16 := Nat.lt_of_lt_of_le hs (Nat.pow_le_pow_right (by decide) hP)
  unfold cutV
  congr 1
  · rw [pc4_ct st h16 (σ.1 11 r) (by omega) hs, ct_sm]
    unfold caA
    have : ∀ n, σ.1 12 r * fb_sm (fun k => bz (st.testBit k)) n = fb_sm (fun p => if st.testBit p = true then σ.1 12 r else 0) n := by
      intro n
      induction n with
      | zero => rfl
      | succ n ih =>
        rw [fb_sm_succ, fb_sm_succ, Nat.mul_add, ih]
        cases st.testBit n <;> simp [bz]
    exact this _
  · refine fb_ct_cong (fun e _ => ?_)
    show anyB (wayS σ r (whS σ r e) st) (σ.1 11 r) = anyB (fun p => !st.testBit p && okE σ r e p) (σ.1 11 r)
    congr 1
    funext p
    unfold wayS okE
    cases (σ.1 20 (12 * r + whS σ r e)).testBit p <;> cases st.testBit p <;> cases getsS σ r (whS σ r e) p <;> rfl
theorem NwA_c {ok : Nat → Nat → Bool} {P n : Nat} {S T : Nat → Bool} (h : ∀ p, p < P → S p = T p) : NwA ok P S n = NwA ok P T n := fb_ct_cong (fun e _ => by
  rw [Bool.eq_iff_iff, woA_iff, woA_iff]
  constructor
  · rintro ⟨p, h1, h2, h3⟩; exact ⟨p, h1, (h p h1).symm.trans h2, h3⟩
  · rintro ⟨p, h1, h2, h3⟩; exact ⟨p, h1, (h p h1).trans h2, h3⟩)
theorem caA_c {c : Nat → Nat} {P : Nat} {S T : Nat → Bool} (h : ∀ p, p < P → S p = T p) : caA c S P = caA c T P := fb_sm_cong (fun p hp => by rw [h p hp])
/-- places taken one behind the other -/
def cnA (a : Nat → Int32) (e : Nat) (v : Int32) : Nat := fb_ct (fun i => decide (a i = v)) e
def plA (a : Nat → Int32) (e : Nat) : Nat := fb_ct (fun i => decide (¬ a i = -1)) e
theorem cnA_s {a : Nat → Int32} {e : Nat} {v : Int32} : cnA a (e + 1) v = cnA a e v + if a e = v then 1 else 0 := by
  unfold cnA
  rw [fb_ct_succ]
  by_cases z : a e = v <;> simp [z]
theorem plA_s {a : Nat → Int32} {e : Nat} : plA a (e + 1) = plA a e + if a e = -1 then 0 else 1 := by
  unfold plA
  rw [fb_ct_succ]
  by_cases z : a e = -1 <;> simp [z]
theorem cnA_up {a : Nat → Int32} {v : Int32} {e n : Nat} (h : e ≤ n) : cnA a e v ≤ cnA a n v := by
  induction n with
  | zero => have : e = 0 := by omega
            subst this; exact Nat.le_refl _
  | succ n ih =>
    by_cases z : e = n + 1
    · rw [z]; exact Nat.le_refl _
    · have := ih (by omega)
      rw [cnA_s]; omega
theorem sm_hit {P p : Nat} {f : Nat → Nat} (hp : p < P) : f p ≤ fb_sm f P := by
  have h := sm_one f hp
  have h2 : fb_sm (fun j => if j = p then f j else 0) P ≤ fb_sm f P := fb_sm_le (fun k _ => by split <;> omega)
  omega
theorem sm_0 {P : Nat} {f : Nat → Nat} (h : ∀ p, p < P → f p = 0) : fb_sm f P = 0 := by
  rw [fb_sm_cong (g := fun _ => 0) h, fb_sm_const, Nat.mul_zero]
def grA (a : Nat → Int32) (ok : Nat → Nat → Bool) (C P n : Nat) : Prop := ∀ e, e < n → (a e = -1 ∧ ∀ p, p < P → ok e p = true → C ≤ cnA a e (nI p)) ∨ ∃ p, p < P ∧ a e = nI p ∧ ok e p = true ∧ cnA a e (nI p) < C
theorem grA_le {a : Nat → Int32} {ok : Nat → Nat → Bool} {C P n : Nat} (h : grA a ok C P n) (hP : P ≤ 4) : ∀ p, p < P → cnA a n (nI p) ≤ C := by
  induction n with
  | zero => intro p _; exact Nat.zero_le _
  | succ n ih =>
    intro p hp
    have ih := ih (fun e he => h e (by omega)) p hp
    rw [cnA_s]
    by_cases z : a n = nI p
    · rw [if_pos z]
      rcases h n (by omega) with ⟨h1, -⟩ | ⟨q, hq, h1, -, h2⟩
      · exact absurd (z.symm.trans h1) (nI_m1 (by omega))
      · have : q = p := (nI_eq (by omega) (by omega)).mp (h1.symm.trans z)
        rw [this] at h2; omega
    · rw [if_neg z]; exact ih
theorem G1 {a : Nat → Int32} {ok : Nat → Nat → Bool} {C P n : Nat} (h : grA a ok C P n) (hP : P ≤ 4) (S : Nat → Bool) : plA a n ≤ caA (fun _ => C) S P + NwA ok P S n := by
  have h1 : ∀ m, m ≤ n → plA a m ≤ fb_sm (fun p => if S p = true then cnA a m (nI p) else 0) P + NwA ok P S m := by
    intro m
    induction m with
    | zero => intro _; exact Nat.zero_le _
    | succ m ih =>
      intro hm
      have ih := ih (by omega)
      have eN : NwA ok P S (m + 1) = NwA ok P S m + if woA ok P S m then 1 else 0 := rfl
      have eS : fb_sm (fun p => if S p = true then cnA a (m + 1) (nI p) else 0) P = fb_sm (fun p => if S p = true then cnA a m (nI p) else 0) P + fb_sm (fun p => if S p = true ∧ a m = nI p then 1 else 0) P := by
        rw [← fb_sm_add]
        refine fb_sm_cong (fun p _ => ?_)
        rw [cnA_s]
        by_cases z1 : S p = true <;> by_cases z2 : a m = nI p <;> simp [z1, z2]
      rw [plA_s, eN, eS]
      rcases h m (by omega) with ⟨h2, -⟩ | ⟨q, hq, h2, h3, -⟩
      · rw [if_pos h2]; omega
      · rw [if_neg (by rw [h2]; exact nI_m1 (by omega))]
        by_cases z : S q = true
        · have := sm_hit (f := fun p => if S p = true ∧ a m = nI p then 1 else 0) hq
          rw [if_pos ⟨z, h2⟩] at this
          omega
        · have : woA ok P S m = true := woA_iff.mpr ⟨q, hq, by simpa using z, h3⟩
          rw [this, if_pos rfl]
          omega
  refine Nat.le_trans (h1 n (Nat.le_refl _)) (Nat.add_le_add_right ?_ _)
  unfold caA
  refine fb_sm_le (fun p hp => ?_)
  by_cases z : S p = true
  · rw [if_pos z, if_pos z]; exact grA_le h hP p hp
  · rw [if_neg z, if_neg z]; exact Nat.le_refl _
theorem G2 {a : Nat → Int32} {ok : Nat → Nat → Bool} {C P n : Nat} (h : grA a ok C P n) (hP : P ≤ 4) : caA (fun _ => C) (fun p => decide (C ≤ cnA a n (nI p))) P + NwA ok P (fun p => decide (C ≤ cnA a n (nI p))) n ≤ 2 * plA a n := by
  have e1 : ∀ m, m ≤ n → fb_sm (fun p => cnA a m (nI p)) P ≤ plA a m := by
    intro m
    induction m with
    | zero => intro _; rw [sm_0 (f := fun p => cnA a 0 (nI p)) (fun p _ => rfl)]; exact Nat.zero_le _
    | succ m ih =>
      intro hm
      have ih := ih (by omega)
      have eS : fb_sm (fun p => cnA a (m + 1) (nI p)) P = fb_sm (fun p => cnA a m (nI p)) P + fb_sm (fun p => if a m = nI p then 1 else 0) P := by
        rw [← fb_sm_add]
        exact fb_sm_cong (fun p _ => cnA_s)
      rw [eS, plA_s]
      rcases h m (by omega) with ⟨h2, -⟩ | ⟨q, hq, h2, -, -⟩
      · rw [if_pos h2, sm_0 (f := fun p => if a m = nI p then 1 else 0) (fun p hp => if_neg (fun y => nI_m1 (n := p) (by omega) (y.symm.trans h2)))]
        exact ih
      · rw [if_neg (by rw [h2]; exact nI_m1 (by omega))]
        have : fb_sm (fun p => if a m = nI p then 1 else 0) P = 1 := by
          rw [fb_sm_cong (g := fun p => if p = q then (fun _ => 1) p else 0) (fun p hp => by
            by_cases z : p = q
            · subst z; rw [if_pos h2, if_pos rfl]
            · rw [if_neg z, if_neg (fun y => z ((nI_eq (by omega) (by omega)).mp (y.symm.trans h2)))])]
          exact sm_one (fun _ => 1) hq
        omega
  have e2 : caA (fun _ => C) (fun p => decide (C ≤ cnA a n (nI p))) P ≤ fb_sm (fun p => cnA a n (nI p)) P := by
    unfold caA
    refine fb_sm_le (fun p _ => ?_)
    by_cases z : C ≤ cnA a n (nI p)
    · rw [if_pos (decide_eq_true z)]; exact z
    · rw [if_neg (fun y => z (of_decide_eq_true y))]; exact Nat.zero_le _
  have e3 : NwA ok P (fun p => decide (C ≤ cnA a n (nI p))) n ≤ plA a n := by
    unfold NwA plA
    refine fb_ct_sub (fun e he hw => ?_)
    obtain ⟨p, hp, h1, h2⟩ := woA_iff.mp hw
    have h1 := of_decide_eq_false h1
    refine decide_eq_true (fun z => h1 ?_)
    rcases h e he with ⟨-, h3⟩ | ⟨q, hq, h3, -⟩
    · exact Nat.le_trans (h3 p hp h2) (cnA_up (by omega))
    · exact absurd (h3.symm.trans z) (nI_m1 (by omega))
  have := e1 n (Nat.le_refl _)
  omega
theorem uR_ct {τ : ST} {r j0 : Nat} {v0 : Int32} (q : Int32 → Bool) (hj : j0 < 12) : fb_ct (fun j => q ((uR τ 22 (12 * r + j0) v0).2.1 22 (12 * r + j))) 12 + (if q (τ.2.1 22 (12 * r + j0)) then 1 else 0) = fb_ct (fun j => q (τ.2.1 22 (12 * r + j))) 12 + (if q v0 then 1 else 0) := by
  have h := fb_ct_upd (fun j => q (τ.2.1 22 (12 * r + j))) (q v0) hj
  rw [← h]
  congr 1
  refine fb_ct_cong (fun j _ => ?_)
  show q (if 22 = 22 ∧ 12 * r + j = 12 * r + j0 then v0 else τ.2.1 22 (12 * r + j)) = if j = j0 then q v0 else q (τ.2.1 22 (12 * r + j))
  by_cases z : j = j0
  · rw [if_pos ⟨rfl, by omega⟩, if_pos z]
  · rw [if_neg (fun y => z (by omega)), if_neg z]
def aaC (σ : ST) (r e : Nat) : Int32 := plcS (clE σ r e) r (whS σ r e)
theorem cl_walk {σ : ST} {r : Nat} (hW : IW σ) (hr : r < σ.1 18 0) (h22 : ∀ j, j < 12 → σ.2.1 22 (12 * r + j) = -1) : ∀ m, m ≤ σ.1 17 r → (∀ e, m ≤ e → e < σ.1 17 r → (clE σ r m).2.1 22 (12 * r + whS σ r e) = -1) ∧ (∀ v, ¬ v = -1 → takS (clE σ r m) r v = cnA (aaC σ r) m v) ∧ plIn (clE σ r m) r = plA (aaC σ r) m
  | 0, _ => by
    obtain ⟨w1, w2, -⟩ := hW r hr
    refine ⟨fun e _ he => h22 _ (w1 e he).1, fun v hv => ?_, ?_⟩
    · show takS σ r v = 0
      unfold takS
      rw [ct_sm]
      exact sm_0 (fun j hj => by rw [h22 j hj, decide_eq_false (fun z => hv z.symm)]; rfl)
    · show plIn σ r = 0
      unfold plIn
      rw [ct_sm]
      exact sm_0 (fun j hj => by rw [h22 j hj]; rfl)
  | m + 1, hm => by
    obtain ⟨i1, i2, i3⟩ := cl_walk hW hr h22 m (by omega)
    obtain ⟨w1, w2, -⟩ := hW r hr
    have hw := (w1 m (by omega)).1
    have old := i1 m (Nat.le_refl _) (by omega)
    have es : clE σ r (m + 1) = uR (clE σ r m) 22 (12 * r + whS σ r m) (aaC σ r m) := clE_s
    rw [es]
    refine ⟨fun e he he2 => ?_, fun v hv => ?_, ?_⟩
    · have hne : ¬ 12 * r + whS σ r e = 12 * r + whS σ r m := fun z => by
        have := w2 e m he2 (by omega) (by omega)
        omega
      simp only [uR]
      rw [if_neg (fun z => hne z.2)]
      exact i1 e (by omega) he2
    · have h := uR_ct (τ := clE σ r m) (r := r) (v0 := aaC σ r m) (fun y => decide (y = v)) hw
      rw [old] at h
      unfold takS at i2 ⊢
      rw [cnA_s, ← i2 v hv]
      have e0 : decide ((-1 : Int32) = v) = false := decide_eq_false (fun z => hv z.symm)
      simp only [e0] at h
      by_cases z : aaC σ r m = v
      · simp only [z, decide_true, if_true] at h ⊢
        simpa using h
      · simp only [z, decide_false, if_false] at h ⊢
        simpa using h
    · have h := uR_ct (τ := clE σ r m) (r := r) (v0 := aaC σ r m) (fun y => decide (¬ y = -1)) hw
      rw [old] at h
      unfold plIn at i3 ⊢
      rw [plA_s, ← i3]
      by_cases z : aaC σ r m = -1
      · simp only [z] at h ⊢
        simpa using h
      · simp only [z] at h ⊢
        simpa using h
theorem gets_cl {σ : ST} {r j p : Nat} (hW : IW σ) (hr : r < σ.1 18 0) (hj : j < 12) (hwi : ∀ j, j < 12 → σ.1 41 (12 * r + j) = 1 → (σ.1 20 (12 * r + j)).testBit (σ.1 21 (12 * r + j)) = true ∧ σ.1 20 (12 * r + j) < 2 ^ σ.1 11 r) {m : Nat} (hm : m ≤ σ.1 17 r) : getsS (clE σ r m) r j p = getsS σ r j p := by
  have e1 : (clE σ r m).1 = σ.1 := clE_1 m
  unfold getsS
  rw [e1]
  refine allB_cong (fun o ho => ?_)
  unfold getO
  rw [e1]
  by_cases z : o = r
  · have z2 : decide (o = r) = true := decide_eq_true z
    rw [z2, Bool.true_or, Bool.true_or, Bool.true_or, Bool.true_or]
  · have e22 : (clE σ r m).2.1 22 (12 * o + j) = σ.2.1 22 (12 * o + j) := by
      rcases clE_out hW hr hwi m hm (12 * o + j) with h | ⟨h, -⟩
      · exact h
      · omega
    rw [e22]
theorem fF_none {f : Nat → Bool} {n : Nat} (hn : n < 2 ^ 31) (h : fF f 0 n = -1) : ∀ p, p < n → f p = false := by
  rcases fF_ch (f := f) n 0 with ⟨k, -, h2, -, h4⟩ | ⟨h1, -⟩
  · exact absurd (h4.symm.trans h) (nI_m1 (by omega))
  · exact fun p hp => h1 p (Nat.zero_le _) (by omega)
/-- closing is greedy -/
theorem cl_gr {c r : Nat} {σ : ST} (hI : Inv c σ) (hr : r < σ.1 18 0) (h22 : ∀ j, j < 12 → σ.2.1 22 (12 * r + j) = -1) : grA (aaC σ r) (okE σ r) (σ.1 12 r) (σ.1 11 r) (σ.1 17 r) := by
  intro e he
  have k18 := hI.B.2.2.1
  have h11 := (hI.B.2.2.2.1 r (by omega)).2.2.1
  have hwi : ∀ j, j < 12 → σ.1 41 (12 * r + j) = 1 → (σ.1 20 (12 * r + j)).testBit (σ.1 21 (12 * r + j)) = true ∧ σ.1 20 (12 * r + j) < 2 ^ σ.1 11 r := fun j hj h41 => ⟨hI.wi _ (by omega) h41, hI.se r j hr hj h41⟩
  obtain ⟨w1, -, -⟩ := hI.W r hr
  obtain ⟨hw, h41⟩ := w1 e he
  obtain ⟨-, i2, -⟩ := cl_walk hI.W hr h22 e (by omega)
  have e1 : (clE σ r e).1 = σ.1 := clE_1 e
  have fit : ∀ p, p < 4 → fitS (clE σ r e) r (whS σ r e) p = (okE σ r e p && decide (cnA (aaC σ r) e (nI p) < σ.1 12 r)) := by
    intro p hp
    unfold fitS okE
    rw [gets_cl hI.W hr hw hwi (by omega), e1, i2 _ (nI_m1 (by omega))]
    cases (σ.1 20 (12 * r + whS σ r e)).testBit p <;> cases getsS σ r (whS σ r e) p <;> simp
  have hv := hwi _ hw h41
  have hwp := may_w hv.2 hv.1
  have key : aaC σ r e = if fitS (clE σ r e) r (whS σ r e) (σ.1 21 (12 * r + whS σ r e)) then nI (σ.1 21 (12 * r + whS σ r e)) else fF (fitS (clE σ r e) r (whS σ r e)) 0 (σ.1 11 r) := by
    unfold aaC plcS
    rw [e1]
  have yes : ∀ p, p < σ.1 11 r → fitS (clE σ r e) r (whS σ r e) p = true → okE σ r e p = true ∧ cnA (aaC σ r) e (nI p) < σ.1 12 r := by
    intro p hp hf
    rw [fit p (by omega), Bool.and_eq_true, decide_eq_true_eq] at hf
    exact hf
  by_cases z : fitS (clE σ r e) r (whS σ r e) (σ.1 21 (12 * r + whS σ r e)) = true
  · rw [if_pos z] at key
    exact Or.inr ⟨_, hwp, key, yes _ hwp z⟩
  · rw [if_neg z] at key
    rcases fF_rng (f := fitS (clE σ r e) r (whS σ r e)) (σ.1 11 r) 0 with h | ⟨p, -, h2, h3, h4⟩
    · refine Or.inl ⟨key.trans h, fun p hp ho => ?_⟩
      have hf := fF_none (by omega) h p hp
      rw [fit p (by omega), ho, Bool.true_and] at hf
      exact Nat.not_lt.mp (of_decide_eq_false hf)
    · exact Or.inr ⟨p, by omega, key.trans h4, yes p (by omega) h3⟩
theorem plIn_cl {σ : ST} {r : Nat} : plIn (clU σ r) r = plIn (clE σ r (σ.1 17 r)) r := rfl
theorem CL_half {c r : Nat} {σ : ST} (hI : Inv c σ) (hr : r < σ.1 18 0) (h22 : ∀ j, j < 12 → σ.2.1 22 (12 * r + j) = -1) : plIn (clU σ r) r ≤ lstS σ r (2 ^ σ.1 11 r) ∧ lstS σ r (2 ^ σ.1 11 r) ≤ 2 * plIn (clU σ r) r := by
  have k18 := hI.B.2.2.1
  have h11 := (hI.B.2.2.2.1 r (by omega)).2.2.1
  have g := cl_gr hI hr h22
  obtain ⟨-, -, i3⟩ := cl_walk hI.W hr h22 (σ.1 17 r) (Nat.le_refl _)
  rw [plIn_cl, i3]
  constructor
  · refine lst_ge (fb_ct_le _ _) (fun st hs => ?_)
    rw [cutA h11 hs]
    exact G1 g h11 _
  · obtain ⟨st, hs, hm⟩ := maskA (σ.1 11 r) (fun p => decide (σ.1 12 r ≤ cnA (aaC σ r) (σ.1 17 r) (nI p)))
    refine Nat.le_trans (lst_le hs) ?_
    rw [cutA h11 hs, NwA_c hm, caA_c hm]
    exact G2 g h11
/-- the most doesn't change as a rodeo is closed -/
theorem lst_cg {σ τ : ST} {r : Nat} (h17 : τ.1 17 r = σ.1 17 r) (h : ∀ st, cutV τ r st = cutV σ r st) : ∀ n, lstS τ r n = lstS σ r n
  | 0 => h17
  | n + 1 => by
    simp only [lstS]
    rw [h n, lst_cg h17 h n]
theorem CL_most {c r : Nat} {σ : ST} (hI : Inv c σ) (hr : r < σ.1 18 0) : lstS (clU σ r) r (2 ^ (clU σ r).1 11 r) = lstS σ r (2 ^ σ.1 11 r) := by
  have k18 := hI.B.2.2.1
  have hwi : ∀ j, j < 12 → σ.1 41 (12 * r + j) = 1 → (σ.1 20 (12 * r + j)).testBit (σ.1 21 (12 * r + j)) = true ∧ σ.1 20 (12 * r + j) < 2 ^ σ.1 11 r := fun j hj h41 => ⟨hI.wi _ (by omega) h41, hI.se r j hr hj h41⟩
  have e1 : ∀ s k, ¬ s = 15 → (clU σ r).1 s k = σ.1 s k := fun s k hs => by
    show (if s = 15 ∧ k = r then 1 else (clE σ r (σ.1 17 r)).1 s k) = _
    rw [if_neg (fun z => hs z.1), clE_1]
  rw [e1 11 r (by decide)]
  refine lst_cg (e1 17 r (by decide)) (fun st => ?_) _
  unfold cutV
  rw [e1 12 r (by decide)]
  congr 1
  unfold cwoS
  rw [e1 17 r (by decide)]
  refine fb_ct_cong (fun e he => ?_)
  have hw := ((hI.W r hr).1 e he).1
  have ew : whS (clU σ r) r e = whS σ r e := e1 19 _ (by decide)
  show anyB (wayS (clU σ r) r (whS (clU σ r) r e) st) ((clU σ r).1 11 r) = anyB (wayS σ r (whS σ r e) st) (σ.1 11 r)
  rw [ew, e1 11 r (by decide)]
  congr 1
  funext p
  unfold wayS
  rw [e1 20 _ (by decide)]
  have eg : getsS (clU σ r) r (whS σ r e) p = getsS σ r (whS σ r e) p := by
    rw [← gets_cl hI.W hr hw hwi (Nat.le_refl (σ.1 17 r))]
    rfl
  rw [eg]
