/-! what the writes keep; what a code 0 says -/
theorem cdRR_0 {σ : ST} {x0 y0 : Int32} (hB : Bd σ) (h : cdRR σ x0 y0 = 0) : ∃ r j, r < σ.1 18 0 ∧ j < σ.1 7 0 ∧ x0 = nI r ∧ y0 = nI j := by
  obtain ⟨h6, h7, h18, -⟩ := hB
  have h1 : inN x0 (σ.1 18 0) = true ∧ inN y0 (σ.1 7 0) = true := by
    unfold cdRR at h
    split at h
    · rename_i c
      simpa using c
    · cases h
  obtain ⟨r, h2, h3⟩ := inN_t (by omega) h1.1
  obtain ⟨j, h4, h5⟩ := inN_t (by omega) h1.2
  exact ⟨r, j, h2, h4, h3, h5⟩
theorem andB {p q : Bool} (h : (p && q) = false) : ¬ (p = true ∧ q = true) := by simpa using h
theorem gotU_N {σ : ST} {r k : Nat} (h : k ≠ 29) : ∀ j, (gotU σ r j).1 k = σ.1 k
  | 0 => rfl
  | j + 1 => by
    refine Eq.trans ?_ (gotU_N (σ := σ) (r := r) h j)
    funext i
    simp [gotU, uN, h]
theorem gotU_2 {σ : ST} {r : Nat} : ∀ j, (gotU σ r j).2 = σ.2
  | 0 => rfl
  | j + 1 => gotU_2 j
theorem clE_1 {σ : ST} {r : Nat} : ∀ e, (clE σ r e).1 = σ.1
  | 0 => rfl
  | e + 1 => clE_1 e
theorem clE_R {σ : ST} {r k : Nat} (h : k ≠ 22) : ∀ e, (clE σ r e).2.1 k = σ.2.1 k
  | 0 => rfl
  | e + 1 => by
    refine Eq.trans ?_ (clE_R (σ := σ) (r := r) h e)
    funext i
    simp [clE, plU, uR, h]
theorem clE_D {σ : ST} {r : Nat} : ∀ e, (clE σ r e).2.2 = σ.2.2
  | 0 => rfl
  | e + 1 => clE_D e
theorem fF_rng {f : Nat → Bool} : ∀ (k i : Nat), fF f i k = -1 ∨ ∃ p, i ≤ p ∧ p < i + k ∧ f p = true ∧ fF f i k = nI p
  | 0, i => Or.inl rfl
  | k + 1, i => by
    unfold fF
    split
    · rename_i c
      exact Or.inr ⟨i, Nat.le_refl _, by omega, c, rfl⟩
    · rcases fF_rng k (i + 1) with h | ⟨p, h1, h2, h3, h4⟩
      · exact Or.inl h
      · exact Or.inr ⟨p, by omega, by omega, h3, h4⟩
theorem plcS_rng {σ : ST} {r j : Nat} (hB : Bd σ) (hr : r < 8) (hj : j < 12) : plcS σ r j = -1 ∨ ∃ p, p < 4 ∧ plcS σ r j = nI p := by
  obtain ⟨h6, h7, h18, hr8, hk96, -⟩ := hB
  have b1 := hr8 r hr
  have b2 := hk96 (12 * r + j) (by omega)
  unfold plcS
  split
  · exact Or.inr ⟨_, b2.2.2.1, rfl⟩
  · rcases fF_rng (f := fitS σ r j) (σ.1 11 r) 0 with h | ⟨p, h1, h2, h3, h4⟩
    · exact Or.inl h
    · exact Or.inr ⟨p, by omega, h4⟩
theorem Bd_pl {σ : ST} {r j : Nat} (hB : Bd σ) (hr : r < 8) (hj : j < 12) : Bd (plU σ r j) := by
  have h := plcS_rng hB hr hj
  obtain ⟨h6, h7, h18, hr8, hk96, hp96, hb16, hh⟩ := hB
  refine ⟨h6, h7, h18, hr8, hk96, fun k hk => ?_, hb16, hh⟩
  have b := hp96 k hk
  refine ⟨?_, by simpa [plU, uR] using b.2.1, by simpa [plU, uR] using b.2.2⟩
  by_cases e : k = 12 * r + j
  · subst e
    simpa [plU, uR] using h
  · simpa [plU, uR, e] using b.1
theorem Bd_cl {σ : ST} {r : Nat} (hB : Bd σ) (hr : r < 8) : ∀ e, e ≤ 12 → Bd (clE σ r e)
  | 0, _ => hB
  | e + 1, h => by
    have h1 := Bd_cl hB hr e (by omega)
    exact Bd_pl h1 hr (by rw [clE_1]; exact (hB.2.2.2.2.1 (12 * r + e) (by omega)).1)
theorem drwU_N {σ : ST} {r j k : Nat} (h : k ≠ 24 ∧ k ≠ 30 ∧ k ≠ 42) : (drwU σ r j).1 k = σ.1 k := by
  funext i
  unfold drwU
  split <;> simp [uN, uR, uD, h.1, h.2.1, h.2.2]
theorem drwU_R {σ : ST} {r j k : Nat} (h : k ≠ 23) : (drwU σ r j).2.1 k = σ.2.1 k := by
  funext i
  unfold drwU
  split <;> simp [uN, uR, uD, h]
theorem drE_N {σ : ST} {r p k : Nat} (h : k ≠ 24 ∧ k ≠ 30 ∧ k ≠ 42) : ∀ e, (drE σ r p e).1 k = σ.1 k
  | 0 => rfl
  | e + 1 => by
    refine Eq.trans ?_ (drE_N (σ := σ) (r := r) (p := p) h e)
    simp only [drE]
    split
    · rw [drwU_N h]
    · rfl
theorem drE_R {σ : ST} {r p k : Nat} (h : k ≠ 23) : ∀ e, (drE σ r p e).2.1 k = σ.2.1 k
  | 0 => rfl
  | e + 1 => by
    refine Eq.trans ?_ (drE_R (σ := σ) (r := r) (p := p) h e)
    simp only [drE]
    split
    · rw [drwU_R h]
    · rfl
theorem drP_N {σ : ST} {r k : Nat} (h : k ≠ 24 ∧ k ≠ 30 ∧ k ≠ 42) : ∀ p, (drP σ r p).1 k = σ.1 k
  | 0 => rfl
  | p + 1 => (drE_N h _).trans (drP_N h p)
theorem drP_R {σ : ST} {r k : Nat} (h : k ≠ 23) : ∀ p, (drP σ r p).2.1 k = σ.2.1 k
  | 0 => rfl
  | p + 1 => (drE_R h _).trans (drP_R h p)
theorem drwF_rng {σ : ST} {r day : Nat} (hB : Bd σ) : drwF σ r day = -1 ∨ ∃ b, b < 16 ∧ drwF σ r day = nI b := by
  unfold drwF
  split
  · exact Or.inl rfl
  · rename_i c
    obtain ⟨b, h1, -, -, h2⟩ := fndS_some (f := canS σ r day) (n := σ.1 6 0) (t := hidS σ % manS σ r day) (Nat.mod_lt _ (Nat.pos_of_ne_zero c))
    exact Or.inr ⟨b, by have := hB.1; omega, h2⟩
theorem Bd_drw {σ : ST} {r j : Nat} (hB : Bd σ) : Bd (drwU σ r j) := by
  have h := drwF_rng (r := r) (day := dayS σ r j) hB
  obtain ⟨h6, h7, h18, hr8, hk96, hp96, hb16, hh⟩ := hB
  have hh2 : hidS σ ≤ 65536 := by unfold hidS; omega
  refine ⟨by rw [drwU_N (by decide)]; exact h6, by rw [drwU_N (by decide)]; exact h7, by rw [drwU_N (by decide)]; exact h18, fun r' hr' => ?_, fun k hk => ?_, fun k hk => ?_, fun b hb => ?_, ?_⟩
  · have := hr8 r' hr'
    simpa [drwU_N] using this
  · have b := hk96 k hk
    rw [drwU_N (k := 19) (by decide), drwU_N (k := 20) (by decide), drwU_N (k := 21) (by decide), drwU_N (k := 25) (by decide), drwU_N (k := 26) (by decide), drwU_N (k := 27) (by decide), drwU_N (k := 29) (by decide)]
    refine ⟨b.1, b.2.1, b.2.2.1, ?_, b.2.2.2.2⟩
    unfold drwU
    by_cases e : k = 12 * r + j <;> split <;> simp [uN, uR, uD, e] <;> simpa [e] using b.2.2.2.1
  · have b := hp96 k hk
    rw [drwU_R (k := 22) (by decide), drwU_R (k := 28) (by decide)]
    refine ⟨b.1, ?_, b.2.2⟩
    unfold drwU
    by_cases e : k = 12 * r + j <;> split <;> simp [uN, uR, uD, e] <;> first | exact h | (simpa [e] using b.2.1)
  · have := hb16 b hb
    simpa [drwU_N] using this
  · unfold drwU
    split <;> simp [uN, uR, uD] <;> assumption
theorem Bd_drE {σ : ST} {r p : Nat} (hB : Bd σ) : ∀ e, Bd (drE σ r p e)
  | 0 => hB
  | e + 1 => by
    simp only [drE]
    split
    · exact Bd_drw (Bd_drE hB e)
    · exact Bd_drE hB e
theorem Bd_drP {σ : ST} {r : Nat} (hB : Bd σ) : ∀ p, Bd (drP σ r p)
  | 0 => hB
  | p + 1 => Bd_drE (Bd_drP hB p) _
theorem nI_suc {a0 : Nat} : nI (a0 + 1) - nI 1 = nI a0 := by
  rw [pk_sub (by omega)]
  rfl
theorem dn_inc {a0 : Nat} : nI a0 - nI 1 + Int32.ofInt 1 = nI (a0 + 1) - nI 1 := by
  rw [nI_suc]
  show nI a0 - nI 1 + nI 1 = nI a0
  exact Int32.sub_add_cancel _ _
theorem dn_toInt {a0 : Nat} (h : a0 < 2 ^ 30) : (nI a0 - nI 1).toInt = (a0 : Int) - 1 := by
  rw [pk_sub_toInt h (by decide)]
  rfl
theorem dn_gt {a0 b0 : Nat} (ha : a0 < 2 ^ 30) (hb : b0 < 2 ^ 30) : nI b0 < nI a0 - nI 1 ↔ b0 + 1 < a0 := by
  rw [Int32.lt_iff_toInt_lt, dn_toInt ha, nI_toInt (by omega)]
  omega
theorem dn_inR {a0 : Nat} (ha : a0 < 2 ^ 30) : inR (nI a0 - nI 1) (nI 0) (nI 63) = (!(decide (a0 = 0) || decide (64 < a0))) := by
  unfold inR
  rw [Bool.eq_iff_iff]
  simp only [Bool.and_eq_true, decide_eq_true_eq, Int32.le_iff_toInt_le, dn_toInt ha]
  have h1 : (nI 0).toInt = 0 := by decide
  have h2 : (nI 63).toInt = 63 := by decide
  rw [h1, h2]
  simp
  omega
theorem bit_and1 (w : Int64) {d : Nat} (hd : d < 64) : ((w >>> ((nI d).toInt64 &&& 63)) &&& 1) = 0 ↔ bitL w d = false := by
  have e1 : ((nI d).toInt64 &&& 63) = Int64.ofNat d := by
    have : ∀ q, q < 64 → ((nI q).toInt64 &&& 63) = Int64.ofNat q := by decide
    exact this d hd
  have e2 : (Int64.ofNat d).toBitVec.smod 64 = BitVec.ofNat 64 d := by
    have : ∀ q, q < 64 → (Int64.ofNat q).toBitVec.smod 64 = BitVec.ofNat 64 q := by decide
    exact this d hd
  rw [e1, ← Int64.toBitVec_inj]
  have e3 : ((w >>> Int64.ofNat d) &&& 1).toBitVec = (w.toBitVec.sshiftRight d) &&& 1#64 := by
    rw [Int64.toBitVec_and, Int64.toBitVec_shiftRight, e2]
    congr 1
    show w.toBitVec.sshiftRight (BitVec.ofNat 64 d).toNat = w.toBitVec.sshiftRight d
    rw [BitVec.toNat_ofNat, Nat.mod_eq_of_lt (by omega)]
  rw [e3]
  unfold bitL
  have e5 : (0 : Int64).toBitVec = 0#64 := rfl
  rw [e5]
  have k0 : (w.toBitVec.sshiftRight d).getLsbD 0 = w.toBitVec.getLsbD d := by
    rw [BitVec.getLsbD_sshiftRight]
    simp [hd]
  constructor
  · intro h
    have h1 := congrArg (fun z : BitVec 64 => z.getLsbD 0) h
    simp only [BitVec.getLsbD_and, k0, BitVec.getLsbD_zero] at h1
    simpa using h1
  · intro h
    apply BitVec.eq_of_getLsbD_eq
    intro i hi
    simp only [BitVec.getLsbD_and, BitVec.getLsbD_zero]
    by_cases h0 : i = 0
    · subst h0
      rw [k0, h, Bool.false_and]
    · have : (1#64).getLsbD i = false := by
        simp [BitVec.getLsbD_one, h0]
      rw [this, Bool.and_false]
theorem drw_bit {w : Int64} {day i : Nat} (hd : day + i < 70) (h : ¬ (day + i = 0 ∨ 64 < day + i)) : ((w >>> ((nI (day + i - 1)).toInt64 &&& 63)) &&& 1) = 0 ↔ bitL w (day + i - 1) = false := bit_and1 w (by omega)
theorem inN_cl {x0 : Int32} {n : Nat} (hn : n < 2 ^ 31) (h : inN x0 n = true) : cl x0 < n ∧ x0 = nI (cl x0) := by
  obtain ⟨j, hj, rfl⟩ := inN_t hn h
  rw [cl_nI (by omega)]
  exact ⟨hj, rfl⟩
theorem drwF_some {σ : ST} {r day : Nat} (h : ¬ manS σ r day = 0) : ∃ b, b < σ.1 6 0 ∧ canS σ r day b = true ∧ fb_ct (canS σ r day) b = hidS σ % manS σ r day ∧ drwF σ r day = nI b := by
  obtain ⟨b, h1, h2, h3, h4⟩ := fndS_some (f := canS σ r day) (n := σ.1 6 0) (t := hidS σ % manS σ r day) (Nat.mod_lt _ (Nat.pos_of_ne_zero h))
  exact ⟨b, h1, h2, h3, by unfold drwF; rw [if_neg h]; exact h4⟩
theorem if3 {c : Prop} [Decidable c] {a0 b0 n : Nat} (h1 : a0 < n) (h2 : b0 < n) : (if c then a0 else b0) < n := by split <;> assumption
theorem lt_cdRR {σ : ST} {x0 y0 : Int32} : cdRR σ x0 y0 < 1000 := if3 (by decide) (by decide)
theorem lt_cdBe {σ : ST} {x0 : Int32} : cdBe σ x0 < 1000 := if3 (by decide) (if3 (by decide) (by decide))
theorem lt_cdRd {σ : ST} : cdRd σ < 1000 := if3 (by decide) (by decide)
theorem lt_cdRo {σ : ST} {a0 a1 a2 a3 a4 a5 a6 : Int32} : cdRo σ a0 a1 a2 a3 a4 a5 a6 < 1000 := if3 (by decide) (if3 (by decide) (by decide))
theorem lt_cdRI {σ : ST} {x0 y0 : Int32} : cdRI σ x0 y0 < 1000 := if3 (by decide) (if3 (by decide) (by decide))
theorem lt_cdEn {σ : ST} {x0 y0 s0 w0 : Int32} : cdEn σ x0 y0 s0 w0 < 1000 := if3 (by decide) (if3 (by decide) (if3 (by decide) (by decide)))
theorem lt_cdSt {σ : ST} {x0 : Int32} {v : Nat} : cdSt σ x0 v < 1000 := if3 (by decide) (if3 (by decide) (by decide))
theorem lt_cdMo {σ : ST} {x0 : Int32} : cdMo σ x0 < 1000 := if3 (by decide) (by decide)
theorem lt_cdHi {x0 : Int32} : cdHi x0 < 1000 := if3 (by decide) (by decide)
theorem lt_cdRi {σ : ST} {x0 y0 mk w : Int32} : cdRi σ x0 y0 mk w < 1000 := if3 (by decide) (if3 (by decide) (if3 (by decide) (by decide)))
theorem lt_cdAn {σ : ST} {x0 y0 : Int32} : cdAn σ x0 y0 < 1000 := if3 (by decide) (if3 (by decide) (by decide))
theorem lt_cdBI {σ : ST} {x0 y0 : Int32} : cdBI σ x0 y0 < 1000 := if3 (by decide) (if3 (by decide) (by decide))
theorem lt_cdPa {σ : ST} {x0 : Int32} : cdPa σ x0 < 1000 := if3 (by decide) (if3 (by decide) (by decide))
theorem lt_cdCo {σ : ST} {x0 : Int32} : cdCo σ x0 < 1000 := if3 (by decide) (by decide)
theorem lt_cdRk {x0 : Int32} : cdRk x0 < 1000 := if3 (by decide) (by decide)
theorem sub_0 {a0 b0 : Nat} (ha : a0 < 2 ^ 31) (hb : b0 < 2 ^ 31) : nI a0 - nI b0 = 0 ↔ a0 = b0 := by
  constructor
  · intro h
    exact (nI_eq ha hb).mp (by
      have h1 : nI a0 - nI b0 + nI b0 = 0 + nI b0 := by rw [h]
      rwa [Int32.sub_add_cancel, Int32.zero_add] at h1)
  · rintro rfl
    exact Int32.sub_self _
theorem sub_dec {a0 b0 : Nat} : nI a0 - nI b0 + Int32.ofInt (-1) = nI a0 - nI (b0 + 1) := by
  rw [← nI_add b0 1, Int32.sub_eq_add_neg, Int32.sub_eq_add_neg, Int32.neg_add, Int32.sub_eq_add_neg, Int32.add_assoc]
  rfl
theorem drwF_fnd {σ : ST} {r day : Nat} (h : ¬ manS σ r day = 0) : drwF σ r day = fndS (canS σ r day) (hidS σ % manS σ r day) (σ.1 6 0) := if_neg h
theorem drE_t {σ : ST} {r p e : Nat} (h : σ.2.1 22 (12 * r + σ.1 19 (12 * r + e)) = nI p) : drE σ r p (e + 1) = drwU (drE σ r p e) r (σ.1 19 (12 * r + e)) := by
  simp only [drE, drE_N (σ := σ) (r := r) (p := p) (k := 19) (by decide), drE_R (σ := σ) (r := r) (p := p) (k := 22) (by decide)]
  rw [if_pos h]
theorem drE_f {σ : ST} {r p e : Nat} (h : ¬ σ.2.1 22 (12 * r + σ.1 19 (12 * r + e)) = nI p) : drE σ r p (e + 1) = drE σ r p e := by
  simp only [drE, drE_N (σ := σ) (r := r) (p := p) (k := 19) (by decide), drE_R (σ := σ) (r := r) (p := p) (k := 22) (by decide)]
  rw [if_neg h]
theorem dn_t {a0 : Nat} (h : (!(decide (a0 = 0) || decide (64 < a0))) = false) : a0 = 0 ∨ 64 < a0 := by
  by_cases h1 : a0 = 0
  · exact Or.inl h1
  · exact Or.inr (by simpa [h1] using h)
theorem dn_f {a0 : Nat} (h : (!(decide (a0 = 0) || decide (64 < a0))) = true) : ¬ (a0 = 0 ∨ 64 < a0) := by
  simpa using h
theorem rest1_t {w : Int64} {y i : Nat} (h : y + i = 0 ∨ 64 < y + i) : rest1 w y i = true := by
  unfold rest1
  rcases h with h | h
  · rw [decide_eq_true h]; rfl
  · rw [decide_eq_true h, Bool.or_true]; rfl
theorem rest1_b {w : Int64} {y i : Nat} {p : Bool} (h : ¬ (y + i = 0 ∨ 64 < y + i)) (hb : bitL w (y + i - 1) = p) : rest1 w y i = !p := by
  unfold rest1
  rw [decide_eq_false (fun z => h (Or.inl z)), decide_eq_false (fun z => h (Or.inr z)), hb]
  rfl
theorem fndS_t {f : Nat → Bool} {t n : Nat} (h : f n = true) (h2 : fb_ct f n = t) : fndS f t (n + 1) = nI n := by
  show (if f n && decide (fb_ct f n = t) then nI n else fndS f t n) = _
  rw [h, decide_eq_true h2]
  rfl
theorem fndS_n {f : Nat → Bool} {t n : Nat} (h2 : ¬ fb_ct f n = t) : fndS f t (n + 1) = fndS f t n := by
  show (if f n && decide (fb_ct f n = t) then nI n else fndS f t n) = _
  rw [decide_eq_false h2, Bool.and_false]
  rfl
theorem fndS_f {f : Nat → Bool} {t n : Nat} (h : f n = false) : fndS f t (n + 1) = fndS f t n := by
  show (if f n && decide (fb_ct f n = t) then nI n else fndS f t n) = _
  rw [h]
  rfl
theorem fb_ct_yes {f : Nat → Bool} {n : Nat} (h : f n = true) : fb_ct f (n + 1) = fb_ct f n + 1 := by rw [fb_ct_succ, h]; rfl
theorem fb_ct_no {f : Nat → Bool} {n : Nat} (h : f n = false) : fb_ct f (n + 1) = fb_ct f n := by rw [fb_ct_succ, h]; rfl
theorem cdRi_1 {σ : ST} {x0 y0 mk w : Int32} (h : cdRi σ x0 y0 mk w = 0) : inR mk (nI 0) (nI 456975) = true ∧ inR w (nI 0) (nI 999999) = true := by
  unfold cdRi at h
  split at h
  · cases h
  · split at h
    · cases h
    · rename_i z
      simpa using z
theorem cdRi_2 {σ : ST} {x0 y0 mk w : Int32} (h : cdRi σ x0 y0 mk w = 0) : σ.1 15 (cl x0) = 2 ∧ ¬ σ.1 24 (12 * cl x0 + cl y0) = 0 := by
  unfold cdRi at h
  split at h
  · cases h
  · split at h
    · cases h
    · split at h
      · cases h
      · rename_i z
        simpa using z
theorem cdAn_1 {σ : ST} {x0 y0 : Int32} (h : cdAn σ x0 y0 = 0) : ¬ σ.1 26 (12 * cl x0 + cl y0) = 0 := by
  unfold cdAn at h
  split at h
  · cases h
  · split at h
    · cases h
    · assumption
theorem cdBe_1 {σ : ST} {x0 : Int32} (h : cdBe σ x0 = 0) : inR x0 (nI 0) (nI 1) = true ∧ ¬ σ.1 6 0 = 16 := by
  unfold cdBe at h
  split at h
  · cases h
  · split at h
    · cases h
    · rename_i z1 z2
      exact ⟨by simpa using z1, z2⟩
theorem Bd_ans {σ : ST} {r j : Nat} (hB : Bd σ) : Bd (uN (uN (uR (uN σ 26 (12 * r + j) 0) 28 (12 * r + j) (-1)) 27 (12 * r + j) 0) 25 (12 * r + j) 1) := by
  obtain ⟨h6, h7, h18, hr8, hk96, hp96, hb16, hh⟩ := hB
  refine ⟨h6, h7, h18, hr8, fun k hk => ?_, fun k hk => ?_, hb16, hh⟩
  · have b := hk96 k hk
    by_cases e : k = 12 * r + j
    · simp [uN, uR, e]
      rw [← e]
      exact ⟨b.1, b.2.1, b.2.2.1, b.2.2.2.1, b.2.2.2.2.2.2.2⟩
    · simp [uN, uR, e]
      exact b
  · have b := hp96 k hk
    by_cases e : k = 12 * r + j
    · simp [uN, uR, e]
      rw [← e]
      exact ⟨b.1, b.2.1⟩
    · simp [uN, uR, e]
      exact b
theorem cdRo_1 {σ : ST} {a0 a1 a2 a3 a4 a5 a6 : Int32} (h : cdRo σ a0 a1 a2 a3 a4 a5 a6 = 0) : okRo a0 a1 a2 a3 a4 a5 a6 = true ∧ ¬ σ.1 18 0 = 8 := by
  unfold cdRo at h
  split at h
  · cases h
  · split at h
    · cases h
    · rename_i z1 z2
      exact ⟨by simpa using z1, z2⟩
theorem okRo_1 {a0 a1 a2 a3 a4 a5 a6 : Int32} (h : okRo a0 a1 a2 a3 a4 a5 a6 = true) : inR a0 (nI 0) (nI 1) = true ∧ inR a1 (nI 0) (nI 2000) = true ∧ inR a2 (nI 0) (nI 60) = true ∧ inR a3 (nI 1) (nI 4) = true ∧ inR a4 (nI 1) (nI 4) = true ∧ inR a5 (nI 0) (nI 99999) = true ∧ inR a6 (nI 0) (nI 999) = true := by
  unfold okRo at h
  simp only [Bool.and_eq_true] at h
  exact ⟨h.1.1.1.1, h.1.1.1.2, h.1.1.2, h.1.2, h.2.1.1, h.2.1.2, h.2.2⟩
theorem roB_1 {σ : ST} {q : Nat} : ∀ j, (roB σ q j).1 = σ.1
  | 0 => rfl
  | j + 1 => roB_1 j
theorem cdEn_1 {σ : ST} {x0 y0 s0 w0 : Int32} (h : cdEn σ x0 y0 s0 w0 = 0) : (inN x0 (σ.1 18 0) = true ∧ inN y0 (σ.1 7 0) = true) ∧ mayE σ x0 s0 w0 = true ∧ σ.1 15 (cl x0) = 0 ∧ hasE σ (cl x0) (cl y0) = false := by
  unfold cdEn at h
  split at h
  · cases h
  · split at h
    · cases h
    · split at h
      · cases h
      · rename_i z1 z2 z3
        refine ⟨by simpa using z1, by simpa using z2, ?_⟩
        simpa using z3
theorem pos_cl {s0 : Int32} (h : 0 < s0) : s0 = nI (cl s0) ∧ 0 < cl s0 := by
  have h1 : ¬ s0 < 0 := fun z => absurd (Int32.lt_trans h z) (by decide)
  obtain ⟨j, hj, rfl⟩ := nI_of h1
  rw [cl_nI hj]
  refine ⟨rfl, ?_⟩
  rcases Nat.eq_zero_or_pos j with rfl | h2
  · exact absurd h (by decide)
  · exact h2
theorem mayE_1 {σ : ST} {x0 s0 w0 : Int32} (hp : σ.1 11 (cl x0) ≤ 4) (h : mayE σ x0 s0 w0 = true) : s0 = nI (cl s0) ∧ (0 < cl s0 ∧ cl s0 < 2 ^ σ.1 11 (cl x0)) ∧ w0 = nI (cl w0) ∧ (cl w0 < 4 ∧ (cl s0).testBit (cl w0) = true) := by
  unfold mayE at h
  simp only [Bool.and_eq_true, decide_eq_true_eq] at h
  obtain ⟨⟨⟨h1, h2⟩, h3⟩, h4⟩ := h
  obtain ⟨e1, e2⟩ := pos_cl h1
  obtain ⟨wn, -, hw, rfl⟩ := inR_t (by decide) (by decide) h3
  have hs : cl s0 < 2 ^ 31 := by
    unfold cl
    have := Int32.toInt_lt s0
    have : s0.toNatClampNeg = s0.toInt.toNat := rfl
    omega
  have e3 : nI 1 <<< (nI (σ.1 11 (cl x0)) &&& 31) = nI (2 ^ σ.1 11 (cl x0)) := by
    have := pk_shlN (n := 1) (nI (σ.1 11 (cl x0)) &&& 31) (σ.1 11 (cl x0)) (by
      have : ∀ q, q < 32 → ((nI q &&& 31).toBitVec.smod 32).toNat = q := by decide
      exact this _ (by omega)) (by
      have : 2 ^ σ.1 11 (cl x0) ≤ 2 ^ 4 := Nat.pow_le_pow_right (by decide) hp
      omega)
    rwa [Nat.one_mul] at this
  have hq : 2 ^ σ.1 11 (cl x0) ≤ 2 ^ 4 := Nat.pow_le_pow_right (by decide) hp
  rw [e3, e1] at h2
  rw [cl_nI (by omega)]
  refine ⟨e1, ⟨e2, (nI_ltI hs (by omega)).mp h2⟩, rfl, by omega, ?_⟩
  rw [e1, tb_sh hs (by omega)] at h4
  exact nI_bzI.mp h4
theorem sub_toInt {a0 b0 : Nat} (ha : a0 < 2 ^ 30) (hb : b0 < 2 ^ 30) : (nI a0 - nI b0).toInt = (a0 : Int) - b0 := pk_sub_toInt ha hb
theorem sub_le0 {a0 b0 : Nat} (ha : a0 < 2 ^ 30) (hb : b0 < 2 ^ 30) : nI a0 - nI b0 ≤ 0 ↔ a0 ≤ b0 := by
  rw [Int32.le_iff_toInt_le, sub_toInt ha hb]
  have h5 : (0 : Int32).toInt = 0 := by decide
  omega
theorem potS_le {σ : ST} {r : Nat} (hB : Bd σ) (hr : r < 8) : potS σ r ≤ 200000 := by
  have b := hB.2.2.2.1 r hr
  have h1 : plIn σ r ≤ 12 := fb_ct_le _ _
  have h2 : σ.1 14 r * plIn σ r ≤ 999 * 12 := Nat.mul_le_mul b.2.2.2.2.2.1 h1
  unfold potS
  split <;> omega
theorem shS_le {p x y : Nat} (hx : 1 ≤ x) : shS p x y ≤ 4 * p := by
  unfold shS
  have h1 : min y 4 + 1 - x ≤ 4 := by omega
  refine Nat.le_trans (fb_sm_bound (c := p) (fun k _ => ?_)) (Nat.mul_le_mul_right _ h1)
  have h2 : p * (50 - 10 * (x + k)) ≤ p * 100 := Nat.mul_le_mul_left _ (by omega)
  exact Nat.le_trans (Nat.div_le_div_right h2) (by rw [Nat.mul_div_cancel _ (by decide)]; exact Nat.le_refl _)
theorem lik_pos {σ : ST} {r j : Nat} (hj : j < 12) (h : ¬ σ.1 27 (12 * r + j) = 0) : 0 < likS σ r (σ.2.1 28 (12 * r + j)) := fb_ct_pos.mpr ⟨j, hj, by simp [h]⟩
theorem cou_pos {σ : ST} {r j : Nat} (hj : j < 12) (h : ¬ σ.1 27 (12 * r + j) = 0) : 0 < couN σ r := fb_ct_pos.mpr ⟨j, hj, by simp [h]⟩
theorem allS_le {σ : ST} {j : Nat} (hB : Bd σ) (hj : j < 12) : allS σ j ≤ 2400000 := by
  have h18 := hB.2.2.1
  unfold allS
  refine Nat.le_trans (fb_sm_bound (c := 300000) (fun k hk => ?_)) (by omega)
  exact (hB.2.2.2.2.1 (12 * k + j) (by omega)).2.2.2.2.2.2.2
theorem cntS_le {σ : ST} {j : Nat} (hB : Bd σ) (hj : j < 12) : cntS σ j ≤ 2400000 := by
  have h18 := hB.2.2.1
  unfold cntS
  refine Nat.le_trans (fb_sm_bound (c := 300000) (fun k hk => ?_)) (by omega)
  have := (hB.2.2.2.2.1 (12 * k + j) (by omega)).2.2.2.2.2.2.2
  split <;> omega
theorem rdrS_0 {σ : ST} {x0 : Int32} {c : Nat} : ∀ {n : Nat}, rdrS (uN σ 0 0 c) x0 n = rdrS σ x0 n
  | 0 => rfl
  | n + 1 => by
    show (if nI (rkrS (uN σ 0 0 c) n) = x0 then nI n else rdrS (uN σ 0 0 c) x0 n) = (if nI (rkrS σ n) = x0 then nI n else rdrS σ x0 n)
    rw [rdrS_0]
    rfl
theorem dayB_t {σ : ST} {b : Nat} (h : ¬ ((σ.2.2 b &&& (σ.2.2 b >>> ((1 : Int32).toInt64 &&& 63))) &&& 9223372036854775807) = 0) : dayB σ b = false := decide_eq_false h
theorem dayB_f {σ : ST} {b : Nat} (h : ((σ.2.2 b &&& (σ.2.2 b >>> ((1 : Int32).toInt64 &&& 63))) &&& 9223372036854775807) = 0) : dayB σ b = true := decide_eq_true h
