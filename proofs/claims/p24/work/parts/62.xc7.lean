/-! bits, beasts that can be drawn, rides -/
def pc4 (x0 : Nat) : Nat := x0 % 2 + x0 / 2 % 2 + x0 / 4 % 2 + x0 / 8 % 2
theorem pc_16 {x0 : Nat} (h : x0 < 16) : x0 = 0 ∨ x0 = 1 ∨ x0 = 2 ∨ x0 = 3 ∨ x0 = 4 ∨ x0 = 5 ∨ x0 = 6 ∨ x0 = 7 ∨ x0 = 8 ∨ x0 = 9 ∨ x0 = 10 ∨ x0 = 11 ∨ x0 = 12 ∨ x0 = 13 ∨ x0 = 14 ∨ x0 = 15 := by omega
theorem pc4_le (x0 : Nat) : pc4 x0 ≤ 4 := by unfold pc4; omega
def b1L (w : Int64) : Int64 := (w) - (((((w).toUInt64 >>> ((nI 1).toInt64.toUInt64 &&& Int64.toUInt64 63)).toInt64)) &&& (6148914691236517205))
def b2L (w : Int64) : Int64 := ((b1L w) &&& (3689348814741910323)) + (((((b1L w).toUInt64 >>> ((nI 2).toInt64.toUInt64 &&& Int64.toUInt64 63)).toInt64)) &&& (3689348814741910323))
def b3L (w : Int64) : Int64 := ((b2L w) + ((((b2L w).toUInt64 >>> ((nI 4).toInt64.toUInt64 &&& Int64.toUInt64 63)).toInt64))) &&& (1085102592571150095)
def b4L (w : Int64) : Int64 := (b3L w) + ((((b3L w).toUInt64 >>> ((nI 8).toInt64.toUInt64 &&& Int64.toUInt64 63)).toInt64))
def b5L (w : Int64) : Int64 := (b4L w) + ((((b4L w).toUInt64 >>> ((nI 16).toInt64.toUInt64 &&& Int64.toUInt64 63)).toInt64))
def b6L (w : Int64) : Int64 := (b5L w) + ((((b5L w).toUInt64 >>> ((nI 32).toInt64.toUInt64 &&& Int64.toUInt64 63)).toInt64))
def bcL (w : Int64) : Int32 := (b6L w).toInt32 &&& nI 127
def cwoP (σ : ST) (r st9 e : Nat) : Bool := hwoS σ r (whS σ r e) st9
def cwoS (σ : ST) (r st9 : Nat) : Nat := fb_ct (cwoP σ r st9) (σ.1 17 r)
theorem cwoS_le {σ : ST} {r st9 : Nat} : cwoS σ r st9 ≤ σ.1 17 r := fb_ct_le _ _
def nearM (day : Nat) : Int64 := ((bitD day) ||| ((bitD day) <<< ((nI 1).toInt64 &&& 63))) ||| (((bitD day).toUInt64 >>> ((nI 1).toInt64.toUInt64 &&& Int64.toUInt64 63)).toInt64)
set_option maxRecDepth 100000 in
theorem near_all : ∀ day, day < 64 → ∀ d, d < 64 → bitL (nearM day) d = (decide (d = day) || decide (d = day + 1) || decide (d + 1 = day)) := by decide +kernel
theorem and_0 {w v : Int64} : w &&& v = 0 ↔ ∀ d, d < 64 → ¬ (bitL w d = true ∧ bitL v d = true) := by
  have e : w &&& v = 0 ↔ w.toBitVec &&& v.toBitVec = 0#64 := by
    constructor
    · intro h
      have := congrArg Int64.toBitVec h
      simpa using this
    · intro h
      apply Int64.toBitVec_inj.mp
      simpa using h
  rw [e]
  constructor
  · intro h d hd hb
    have := congrArg (fun z => z.getLsbD d) h
    simp only [BitVec.getLsbD_and, BitVec.getLsbD_zero] at this
    unfold bitL at hb
    rw [hb.1, hb.2] at this
    cases this
  · intro h
    apply BitVec.eq_of_getLsbD_eq
    intro i hi
    have := h i hi
    unfold bitL at this
    rw [BitVec.getLsbD_and, BitVec.getLsbD_zero]
    cases c1 : w.toBitVec.getLsbD i with
    | false => rfl
    | true =>
      cases c2 : v.toBitVec.getLsbD i with
      | false => rfl
      | true => exact absurd ⟨c1, c2⟩ this
theorem rest1_iff {w : Int64} {day i : Nat} : rest1 w day i = true ↔ (day + i = 0 ∨ 64 < day + i ∨ bitL w (day + i - 1) = false) := by
  unfold rest1
  simp [or_assoc]
theorem near_rest {w : Int64} {day : Nat} (hd : day < 64) : w &&& nearM day = 0 ↔ restS w day = true := by
  rw [and_0]
  unfold restS
  rw [allB_iff]
  constructor
  · intro h i hi
    rw [rest1_iff]
    by_cases c0 : day + i = 0
    · exact Or.inl c0
    · by_cases c1 : 64 < day + i
      · exact Or.inr (Or.inl c1)
      · refine Or.inr (Or.inr ?_)
        have h1 := h (day + i - 1) (by omega)
        rw [near_all day hd _ (by omega)] at h1
        cases c : bitL w (day + i - 1) with
        | false => rfl
        | true =>
          refine absurd ⟨c, ?_⟩ h1
          have : i = 0 ∨ i = 1 ∨ i = 2 := by omega
          rcases this with rfl | rfl | rfl
          · rw [decide_eq_true (show day + 0 - 1 + 1 = day by omega), Bool.or_true]
          · rw [decide_eq_true (show day + 1 - 1 = day by omega)]; rfl
          · rw [decide_eq_true (show day + 2 - 1 = day + 1 by omega), Bool.or_true]; rfl
  · intro h d hd2 hb
    rw [near_all day hd d hd2] at hb
    obtain ⟨hb1, hb2⟩ := hb
    simp only [Bool.or_eq_true, decide_eq_true_eq] at hb2
    rcases hb2 with (rfl | rfl) | h2
    · have := rest1_iff.mp (h 1 (by omega))
      rw [show d + 1 - 1 = d by omega, hb1] at this
      rcases this with z | z | z
      · omega
      · omega
      · cases z
    · have := rest1_iff.mp (h 2 (by omega))
      rw [show day + 2 - 1 = day + 1 by omega, hb1] at this
      rcases this with z | z | z
      · omega
      · omega
      · cases z
    · have := rest1_iff.mp (h 0 (by omega))
      rw [show day + 0 - 1 = d by omega, hb1] at this
      rcases this with z | z | z
      · omega
      · omega
      · cases z
def cbdS (σ : ST) (kd day b : Nat) : Bool := decide (σ.1 1 b = kd) && restS (σ.2.2 b) day
theorem cbd_1 {σ : ST} {b kd day : Nat} (h : ¬ σ.1 1 b = kd) : cbdS σ kd day b = false := by unfold cbdS; rw [decide_eq_false h]; rfl
theorem cbd_2 {σ : ST} {b kd day : Nat} (hd : day < 64) (h : ¬ lg_cmp (σ.2.2 b &&& nearM day) 0 = 0) : cbdS σ kd day b = false := by
  have h2 := mt (lg_cmp_eq _ _).mpr h
  have h3 := mt (near_rest hd).mpr h2
  unfold cbdS
  rw [show restS (σ.2.2 b) day = false by simpa using h3, Bool.and_false]
theorem cbd_3 {σ : ST} {b kd day : Nat} (hd : day < 64) (h : σ.1 1 b = kd) (h2 : lg_cmp (σ.2.2 b &&& nearM day) 0 = 0) : cbdS σ kd day b = true := by
  have h3 := (near_rest hd).mp ((lg_cmp_eq _ _).mp h2)
  unfold cbdS
  rw [h3, decide_eq_true h]; rfl
def harS (σ : ST) (b : Nat) : Bool := decide (bcL (σ.2.2 b) = nI (σ.1 42 b)) && decide (σ.2.2 b &&& ((σ.2.2 b) <<< ((nI 1).toInt64 &&& 63)) = 0)
theorem har_1 {σ : ST} {b : Nat} (h : ¬ bcL (σ.2.2 b) = nI (σ.1 42 b)) : harS σ b = false := by unfold harS; rw [decide_eq_false h]; rfl
theorem har_2 {σ : ST} {b : Nat} (h : ¬ lg_cmp (σ.2.2 b &&& ((σ.2.2 b) <<< ((nI 1).toInt64 &&& 63))) 0 = 0) : harS σ b = false := by unfold harS; rw [decide_eq_false (mt (lg_cmp_eq _ _).mpr h), Bool.and_false]
theorem har_3 {σ : ST} {b : Nat} (h : bcL (σ.2.2 b) = nI (σ.1 42 b)) (h2 : lg_cmp (σ.2.2 b &&& ((σ.2.2 b) <<< ((nI 1).toInt64 &&& 63))) 0 = 0) : harS σ b = true := by unfold harS; rw [decide_eq_true h, decide_eq_true ((lg_cmp_eq _ _).mp h2)]; rfl
theorem tk_1 {f : Bool} {bm z : Nat} (h : f = false) : (f && decide (bm < 20) && decide (z = 0)) = false := by rw [h]; rfl
theorem tk_2 {f : Bool} {bm z : Nat} (h : ¬ bm < 20) : (f && decide (bm < 20) && decide (z = 0)) = false := by rw [decide_eq_false h, Bool.and_false]; rfl
theorem tk_3 {f : Bool} {bm z : Nat} (h : ¬ z = 0) : (f && decide (bm < 20) && decide (z = 0)) = false := by rw [decide_eq_false h, Bool.and_false]
theorem tk_4 {f : Bool} {bm z : Nat} (h : f = true) (h1 : bm < 20) (h2 : z = 0) : (f && decide (bm < 20) && decide (z = 0)) = true := by rw [h, decide_eq_true h1, decide_eq_true h2]; rfl
def tkU (σ : ST) (k b : Nat) (f : Bool) (rm bm : Nat) : ST := uN (uN (uN (uN (uR (uN (uN σ 24 k 0) 27 k (bz f)) 28 k (if f then nI (rm + bm) else nI 0)) 26 k (bz (f && decide (bm < 20) && decide (σ.1 25 k = 0)))) 2 b (σ.1 2 b + 1)) 3 b (σ.1 3 b + if f then 0 else 1)) 4 b (σ.1 4 b + bm)
def mkD (x0 : Nat) : Nat → Nat
  | 0 => x0
  | n + 1 => mkD x0 n / 26
theorem mkD_le {x0 : Nat} : ∀ {n : Nat}, mkD x0 n ≤ x0
  | 0 => Nat.le_refl _
  | n + 1 => Nat.le_trans (Nat.div_le_self _ _) mkD_le
set_option maxHeartbeats 4000000 in
set_option maxRecDepth 100000 in
theorem c_J6_bitCount_0f7a4 {l : Launch} (hl : l.stackTraces = false) {g : GP} {M : MM} {x0 : Nat} (hx : x0 < 16) : CT l g yJ6_bitCount_0f7a4 cJ6_bitCount_0f7a4 1 (some .int) 0 0 0 0 [.int (nI (x0))] M (pI (fun r9 M9 => nI (pc4 x0) = r9 ∧ M = M9)) nX := by
  refine ct_of [(0, .int (nI (x0)))] (by decide) hl (Nat.le_of_ble_eq_true rfl) rfl ?_
  intro K hK F
  subst hK
  have F : Fx K g cJ6_bitCount_0f7a4 RJ6 1 (some .int) [] 0 0 0 0 := F
  obtain ⟨Q, hQ⟩ : ∃ Q, Q = MQx K g (pI (fun r9 M9 => nI (pc4 x0) = r9 ∧ M = M9)) nX 0 0 := ⟨_, rfl⟩
  rw [← hQ]
  refine x_iload_n F 0 dJ6_bitCount_0f7a4_0 rfl ?_
  refine x_iload_n F 0 dJ6_bitCount_0f7a4_1 rfl ?_
  refine x_iconst F (nI 1) dJ6_bitCount_0f7a4_2 (by decide) ?_
  refine x_iushr F dJ6_bitCount_0f7a4_3 ?_
  refine x_ldcw F (nI 1431655765) k_J6_265 dJ6_bitCount_0f7a4_4 ?_
  refine x_iand F dJ6_bitCount_0f7a4_7 ?_
  refine x_isub F dJ6_bitCount_0f7a4_8 ?_
  refine x_istore_n F [(0, .int ((nI (x0)) - ((((nI (x0)).toUInt32 >>> ((nI 1).toUInt32 &&& Int32.toUInt32 31)).toInt32) &&& (nI 1431655765))))] dJ6_bitCount_0f7a4_9 (by decide) rfl ?_
  refine x_iload_n F 0 dJ6_bitCount_0f7a4_10 rfl ?_
  refine x_ldcw F (nI 858993459) k_J6_266 dJ6_bitCount_0f7a4_11 ?_
  refine x_iand F dJ6_bitCount_0f7a4_14 ?_
  refine x_iload_n F 0 dJ6_bitCount_0f7a4_15 rfl ?_
  refine x_iconst F (nI 2) dJ6_bitCount_0f7a4_16 (by decide) ?_
  refine x_iushr F dJ6_bitCount_0f7a4_17 ?_
  refine x_ldcw F (nI 858993459) k_J6_266 dJ6_bitCount_0f7a4_18 ?_
  refine x_iand F dJ6_bitCount_0f7a4_21 ?_
  refine x_iadd F dJ6_bitCount_0f7a4_22 ?_
  refine x_istore_n F [(0, .int ((((nI (x0)) - ((((nI (x0)).toUInt32 >>> ((nI 1).toUInt32 &&& Int32.toUInt32 31)).toInt32) &&& (nI 1431655765))) &&& (nI 858993459)) + (((((nI (x0)) - ((((nI (x0)).toUInt32 >>> ((nI 1).toUInt32 &&& Int32.toUInt32 31)).toInt32) &&& (nI 1431655765))).toUInt32 >>> ((nI 2).toUInt32 &&& Int32.toUInt32 31)).toInt32) &&& (nI 858993459))))] dJ6_bitCount_0f7a4_23 (by decide) rfl ?_
  refine x_iload_n F 0 dJ6_bitCount_0f7a4_24 rfl ?_
  refine x_iload_n F 0 dJ6_bitCount_0f7a4_25 rfl ?_
  refine x_iconst F (nI 4) dJ6_bitCount_0f7a4_26 (by decide) ?_
  refine x_iushr F dJ6_bitCount_0f7a4_27 ?_
  refine x_iadd F dJ6_bitCount_0f7a4_28 ?_
  refine x_ldcw F (nI 252645135) k_J6_267 dJ6_bitCount_0f7a4_29 ?_
  refine x_iand F dJ6_bitCount_0f7a4_32 ?_
  refine x_istore_n F [(0, .int ((((((nI (x0)) - ((((nI (x0)).toUInt32 >>> ((nI 1).toUInt32 &&& Int32.toUInt32 31)).toInt32) &&& (nI 1431655765))) &&& (nI 858993459)) + (((((nI (x0)) - ((((nI (x0)).toUInt32 >>> ((nI 1).toUInt32 &&& Int32.toUInt32 31)).toInt32) &&& (nI 1431655765))).toUInt32 >>> ((nI 2).toUInt32 &&& Int32.toUInt32 31)).toInt32) &&& (nI 858993459))) + ((((((nI (x0)) - ((((nI (x0)).toUInt32 >>> ((nI 1).toUInt32 &&& Int32.toUInt32 31)).toInt32) &&& (nI 1431655765))) &&& (nI 858993459)) + (((((nI (x0)) - ((((nI (x0)).toUInt32 >>> ((nI 1).toUInt32 &&& Int32.toUInt32 31)).toInt32) &&& (nI 1431655765))).toUInt32 >>> ((nI 2).toUInt32 &&& Int32.toUInt32 31)).toInt32) &&& (nI 858993459))).toUInt32 >>> ((nI 4).toUInt32 &&& Int32.toUInt32 31)).toInt32)) &&& (nI 252645135)))] dJ6_bitCount_0f7a4_33 (by decide) rfl ?_
  refine x_iload_n F 0 dJ6_bitCount_0f7a4_34 rfl ?_
  refine x_iload_n F 0 dJ6_bitCount_0f7a4_35 rfl ?_
  refine x_bipush F (nI 8) dJ6_bitCount_0f7a4_36 (by decide) ?_
  refine x_iushr F dJ6_bitCount_0f7a4_38 ?_
  refine x_iadd F dJ6_bitCount_0f7a4_39 ?_
  refine x_istore_n F [(0, .int (((((((nI (x0)) - ((((nI (x0)).toUInt32 >>> ((nI 1).toUInt32 &&& Int32.toUInt32 31)).toInt32) &&& (nI 1431655765))) &&& (nI 858993459)) + (((((nI (x0)) - ((((nI (x0)).toUInt32 >>> ((nI 1).toUInt32 &&& Int32.toUInt32 31)).toInt32) &&& (nI 1431655765))).toUInt32 >>> ((nI 2).toUInt32 &&& Int32.toUInt32 31)).toInt32) &&& (nI 858993459))) + ((((((nI (x0)) - ((((nI (x0)).toUInt32 >>> ((nI 1).toUInt32 &&& Int32.toUInt32 31)).toInt32) &&& (nI 1431655765))) &&& (nI 858993459)) + (((((nI (x0)) - ((((nI (x0)).toUInt32 >>> ((nI 1).toUInt32 &&& Int32.toUInt32 31)).toInt32) &&& (nI 1431655765))).toUInt32 >>> ((nI 2).toUInt32 &&& Int32.toUInt32 31)).toInt32) &&& (nI 858993459))).toUInt32 >>> ((nI 4).toUInt32 &&& Int32.toUInt32 31)).toInt32)) &&& (nI 252645135)) + ((((((((nI (x0)) - ((((nI (x0)).toUInt32 >>> ((nI 1).toUInt32 &&& Int32.toUInt32 31)).toInt32) &&& (nI 1431655765))) &&& (nI 858993459)) + (((((nI (x0)) - ((((nI (x0)).toUInt32 >>> ((nI 1).toUInt32 &&& Int32.toUInt32 31)).toInt32) &&& (nI 1431655765))).toUInt32 >>> ((nI 2).toUInt32 &&& Int32.toUInt32 31)).toInt32) &&& (nI 858993459))) + ((((((nI (x0)) - ((((nI (x0)).toUInt32 >>> ((nI 1).toUInt32 &&& Int32.toUInt32 31)).toInt32) &&& (nI 1431655765))) &&& (nI 858993459)) + (((((nI (x0)) - ((((nI (x0)).toUInt32 >>> ((nI 1).toUInt32 &&& Int32.toUInt32 31)).toInt32) &&& (nI 1431655765))).toUInt32 >>> ((nI 2).toUInt32 &&& Int32.toUInt32 31)).toInt32) &&& (nI 858993459))).toUInt32 >>> ((nI 4).toUInt32 &&& Int32.toUInt32 31)).toInt32)) &&& (nI 252645135)).toUInt32 >>> ((nI 8).toUInt32 &&& Int32.toUInt32 31)).toInt32)))] dJ6_bitCount_0f7a4_40 (by decide) rfl ?_
  refine x_iload_n F 0 dJ6_bitCount_0f7a4_41 rfl ?_
  refine x_iload_n F 0 dJ6_bitCount_0f7a4_42 rfl ?_
  refine x_bipush F (nI 16) dJ6_bitCount_0f7a4_43 (by decide) ?_
  refine x_iushr F dJ6_bitCount_0f7a4_45 ?_
  refine x_iadd F dJ6_bitCount_0f7a4_46 ?_
  refine x_istore_n F [(0, .int ((((((((nI (x0)) - ((((nI (x0)).toUInt32 >>> ((nI 1).toUInt32 &&& Int32.toUInt32 31)).toInt32) &&& (nI 1431655765))) &&& (nI 858993459)) + (((((nI (x0)) - ((((nI (x0)).toUInt32 >>> ((nI 1).toUInt32 &&& Int32.toUInt32 31)).toInt32) &&& (nI 1431655765))).toUInt32 >>> ((nI 2).toUInt32 &&& Int32.toUInt32 31)).toInt32) &&& (nI 858993459))) + ((((((nI (x0)) - ((((nI (x0)).toUInt32 >>> ((nI 1).toUInt32 &&& Int32.toUInt32 31)).toInt32) &&& (nI 1431655765))) &&& (nI 858993459)) + (((((nI (x0)) - ((((nI (x0)).toUInt32 >>> ((nI 1).toUInt32 &&& Int32.toUInt32 31)).toInt32) &&& (nI 1431655765))).toUInt32 >>> ((nI 2).toUInt32 &&& Int32.toUInt32 31)).toInt32) &&& (nI 858993459))).toUInt32 >>> ((nI 4).toUInt32 &&& Int32.toUInt32 31)).toInt32)) &&& (nI 252645135)) + ((((((((nI (x0)) - ((((nI (x0)).toUInt32 >>> ((nI 1).toUInt32 &&& Int32.toUInt32 31)).toInt32) &&& (nI 1431655765))) &&& (nI 858993459)) + (((((nI (x0)) - ((((nI (x0)).toUInt32 >>> ((nI 1).toUInt32 &&& Int32.toUInt32 31)).toInt32) &&& (nI 1431655765))).toUInt32 >>> ((nI 2).toUInt32 &&& Int32.toUInt32 31)).toInt32) &&& (nI 858993459))) + ((((((nI (x0)) - ((((nI (x0)).toUInt32 >>> ((nI 1).toUInt32 &&& Int32.toUInt32 31)).toInt32) &&& (nI 1431655765))) &&& (nI 858993459)) + (((((nI (x0)) - ((((nI (x0)).toUInt32 >>> ((nI 1).toUInt32 &&& Int32.toUInt32 31)).toInt32) &&& (nI 1431655765))).toUInt32 >>> ((nI 2).toUInt32 &&& Int32.toUInt32 31)).toInt32) &&& (nI 858993459))).toUInt32 >>> ((nI 4).toUInt32 &&& Int32.toUInt32 31)).toInt32)) &&& (nI 252645135)).toUInt32 >>> ((nI 8).toUInt32 &&& Int32.toUInt32 31)).toInt32)) + (((((((((nI (x0)) - ((((nI (x0)).toUInt32 >>> ((nI 1).toUInt32 &&& Int32.toUInt32 31)).toInt32) &&& (nI 1431655765))) &&& (nI 858993459)) + (((((nI (x0)) - ((((nI (x0)).toUInt32 >>> ((nI 1).toUInt32 &&& Int32.toUInt32 31)).toInt32) &&& (nI 1431655765))).toUInt32 >>> ((nI 2).toUInt32 &&& Int32.toUInt32 31)).toInt32) &&& (nI 858993459))) + ((((((nI (x0)) - ((((nI (x0)).toUInt32 >>> ((nI 1).toUInt32 &&& Int32.toUInt32 31)).toInt32) &&& (nI 1431655765))) &&& (nI 858993459)) + (((((nI (x0)) - ((((nI (x0)).toUInt32 >>> ((nI 1).toUInt32 &&& Int32.toUInt32 31)).toInt32) &&& (nI 1431655765))).toUInt32 >>> ((nI 2).toUInt32 &&& Int32.toUInt32 31)).toInt32) &&& (nI 858993459))).toUInt32 >>> ((nI 4).toUInt32 &&& Int32.toUInt32 31)).toInt32)) &&& (nI 252645135)) + ((((((((nI (x0)) - ((((nI (x0)).toUInt32 >>> ((nI 1).toUInt32 &&& Int32.toUInt32 31)).toInt32) &&& (nI 1431655765))) &&& (nI 858993459)) + (((((nI (x0)) - ((((nI (x0)).toUInt32 >>> ((nI 1).toUInt32 &&& Int32.toUInt32 31)).toInt32) &&& (nI 1431655765))).toUInt32 >>> ((nI 2).toUInt32 &&& Int32.toUInt32 31)).toInt32) &&& (nI 858993459))) + ((((((nI (x0)) - ((((nI (x0)).toUInt32 >>> ((nI 1).toUInt32 &&& Int32.toUInt32 31)).toInt32) &&& (nI 1431655765))) &&& (nI 858993459)) + (((((nI (x0)) - ((((nI (x0)).toUInt32 >>> ((nI 1).toUInt32 &&& Int32.toUInt32 31)).toInt32) &&& (nI 1431655765))).toUInt32 >>> ((nI 2).toUInt32 &&& Int32.toUInt32 31)).toInt32) &&& (nI 858993459))).toUInt32 >>> ((nI 4).toUInt32 &&& Int32.toUInt32 31)).toInt32)) &&& (nI 252645135)).toUInt32 >>> ((nI 8).toUInt32 &&& Int32.toUInt32 31)).toInt32)).toUInt32 >>> ((nI 16).toUInt32 &&& Int32.toUInt32 31)).toInt32)))] dJ6_bitCount_0f7a4_47 (by decide) rfl ?_
  refine x_iload_n F 0 dJ6_bitCount_0f7a4_48 rfl ?_
  refine x_bipush F (nI 63) dJ6_bitCount_0f7a4_49 (by decide) ?_
  refine x_iand F dJ6_bitCount_0f7a4_51 ?_
  rw [hQ]
  exact x_iret F dJ6_bitCount_0f7a4_52 (by decide) ⟨_, rfl, by (rcases pc_16 hx with rfl | rfl | rfl | rfl | rfl | rfl | rfl | rfl | rfl | rfl | rfl | rfl | rfl | rfl | rfl | rfl <;> decide), rfl⟩
set_option maxHeartbeats 4000000 in
set_option maxRecDepth 100000 in
theorem c_J13_bitCount_95d88 {l : Launch} (hl : l.stackTraces = false) {g : GP} {M : MM} {w : Int64}  : CT l g yJ13_bitCount_95d88 cJ13_bitCount_95d88 2 (some .int) 0 0 0 0 [.long (w)] M (pI (fun r9 M9 => bcL w = r9 ∧ M = M9)) nX := by
  refine ct_of [(0, .long (w))] (by decide) hl (Nat.le_of_ble_eq_true rfl) rfl ?_
  intro K hK F
  subst hK
  have F : Fx K g cJ13_bitCount_95d88 RJ13 2 (some .int) [] 0 0 0 0 := F
  obtain ⟨Q, hQ⟩ : ∃ Q, Q = MQx K g (pI (fun r9 M9 => bcL w = r9 ∧ M = M9)) nX 0 0 := ⟨_, rfl⟩
  rw [← hQ]
  refine x_lload_n F 0 dJ13_bitCount_95d88_0 rfl ?_
  refine x_lload_n F 0 dJ13_bitCount_95d88_1 rfl ?_
  refine x_iconst F (nI 1) dJ13_bitCount_95d88_2 (by decide) ?_
  refine x_lushr F dJ13_bitCount_95d88_3 ?_
  refine x_ldc2 F 6148914691236517205 k_J13_314 dJ13_bitCount_95d88_4 ?_
  refine x_land F dJ13_bitCount_95d88_7 ?_
  refine x_lsub F dJ13_bitCount_95d88_8 ?_
  refine x_rl0 (y := b1L w) (rfl) ?_
  refine x_lstore_n F [(0, .long (b1L w))] dJ13_bitCount_95d88_9 (by decide) rfl ?_
  refine x_lload_n F 0 dJ13_bitCount_95d88_10 rfl ?_
  refine x_ldc2 F 3689348814741910323 k_J13_316 dJ13_bitCount_95d88_11 ?_
  refine x_land F dJ13_bitCount_95d88_14 ?_
  refine x_lload_n F 0 dJ13_bitCount_95d88_15 rfl ?_
  refine x_iconst F (nI 2) dJ13_bitCount_95d88_16 (by decide) ?_
  refine x_lushr F dJ13_bitCount_95d88_17 ?_
  refine x_ldc2 F 3689348814741910323 k_J13_316 dJ13_bitCount_95d88_18 ?_
  refine x_land F dJ13_bitCount_95d88_21 ?_
  refine x_ladd F dJ13_bitCount_95d88_22 ?_
  refine x_rl0 (y := b2L w) (rfl) ?_
  refine x_lstore_n F [(0, .long (b2L w))] dJ13_bitCount_95d88_23 (by decide) rfl ?_
  refine x_lload_n F 0 dJ13_bitCount_95d88_24 rfl ?_
  refine x_lload_n F 0 dJ13_bitCount_95d88_25 rfl ?_
  refine x_iconst F (nI 4) dJ13_bitCount_95d88_26 (by decide) ?_
  refine x_lushr F dJ13_bitCount_95d88_27 ?_
  refine x_ladd F dJ13_bitCount_95d88_28 ?_
  refine x_ldc2 F 1085102592571150095 k_J13_318 dJ13_bitCount_95d88_29 ?_
  refine x_land F dJ13_bitCount_95d88_32 ?_
  refine x_rl0 (y := b3L w) (rfl) ?_
  refine x_lstore_n F [(0, .long (b3L w))] dJ13_bitCount_95d88_33 (by decide) rfl ?_
  refine x_lload_n F 0 dJ13_bitCount_95d88_34 rfl ?_
  refine x_lload_n F 0 dJ13_bitCount_95d88_35 rfl ?_
  refine x_bipush F (nI 8) dJ13_bitCount_95d88_36 (by decide) ?_
  refine x_lushr F dJ13_bitCount_95d88_38 ?_
  refine x_ladd F dJ13_bitCount_95d88_39 ?_
  refine x_rl0 (y := b4L w) (rfl) ?_
  refine x_lstore_n F [(0, .long (b4L w))] dJ13_bitCount_95d88_40 (by decide) rfl ?_
  refine x_lload_n F 0 dJ13_bitCount_95d88_41 rfl ?_
  refine x_lload_n F 0 dJ13_bitCount_95d88_42 rfl ?_
  refine x_bipush F (nI 16) dJ13_bitCount_95d88_43 (by decide) ?_
  refine x_lushr F dJ13_bitCount_95d88_45 ?_
  refine x_ladd F dJ13_bitCount_95d88_46 ?_
  refine x_rl0 (y := b5L w) (rfl) ?_
  refine x_lstore_n F [(0, .long (b5L w))] dJ13_bitCount_95d88_47 (by decide) rfl ?_
  refine x_lload_n F 0 dJ13_bitCount_95d88_48 rfl ?_
  refine x_lload_n F 0 dJ13_bitCount_95d88_49 rfl ?_
  refine x_bipush F (nI 32) dJ13_bitCount_95d88_50 (by decide) ?_
  refine x_lushr F dJ13_bitCount_95d88_52 ?_
  refine x_ladd F dJ13_bitCount_95d88_53 ?_
  refine x_rl0 (y := b6L w) (rfl) ?_
  refine x_lstore_n F [(0, .long (b6L w))] dJ13_bitCount_95d88_54 (by decide) rfl ?_
  refine x_lload_n F 0 dJ13_bitCount_95d88_55 rfl ?_
  refine x_l2i F dJ13_bitCount_95d88_56 ?_
  refine x_bipush F (nI 127) dJ13_bitCount_95d88_57 (by decide) ?_
  refine x_iand F dJ13_bitCount_95d88_59 ?_
  rw [hQ]
  exact x_iret F dJ13_bitCount_95d88_60 (by decide) ⟨_, rfl, rfl, rfl⟩
set_option maxHeartbeats 4000000 in
set_option maxRecDepth 100000 in
theorem c_X3_countWithWaysOutside {l : Launch} (hl : l.stackTraces = false) {g : GP} {M : MM} {A : Nat → Nat} {M0 : MM} {σ : ST} {r st9 : Nat} (hR : CM g A M0 σ M) (hB : Bd σ) (hW : IW σ) (hD : ID σ) (hr : r < σ.1 18 0) (hst : st9 < 16) : CT l g yX3_countWithWaysOutside cX3_countWithWaysOutside 5 (some .int) 6 168 0 0 [.ref (A 0), .ref (A (30 + r)), .int (nI (st9))] M (pI (fun r9 M9 => nI (cwoS σ r st9) = r9 ∧ M = M9)) nX := by
  refine ct_of [(0, .ref (A 0)), (1, .ref (A (30 + r))), (2, .int (nI (st9)))] (by decide) hl (Nat.le_of_ble_eq_true rfl) rfl ?_
  intro K hK F
  subst hK
  have F : Fx K g cX3_countWithWaysOutside RX3 5 (some .int) [] 6 168 0 0 := F
  obtain ⟨Q, hQ⟩ : ∃ Q, Q = MQx K g (pI (fun r9 M9 => nI (cwoS σ r st9) = r9 ∧ M = M9)) nX 0 0 := ⟨_, rfl⟩
  rw [← hQ]
  have hB9 := hB
  obtain ⟨h6, h7, h18, hr8, hk96, hp96, hb16, hh⟩ := hB9
  have b1 := hr8 r (by omega)
  refine x_iconst F (nI 0) dX3_countWithWaysOutside_0 (by decide) ?_
  refine x_istore_n F [(3, .int (nI (0))), (0, .ref (A 0)), (1, .ref (A (30 + r))), (2, .int (nI (st9)))] dX3_countWithWaysOutside_1 (by decide) rfl ?_
  refine x_iconst F (nI 0) dX3_countWithWaysOutside_2 (by decide) ?_
  refine x_istore F [(4, .int (nI (0))), (3, .int (nI (0))), (0, .ref (A 0)), (1, .ref (A (30 + r))), (2, .int (nI (st9)))] dX3_countWithWaysOutside_3 (by decide) rfl ?_
  have LP5 : ∀ i, i ≤ (σ.1 17 r) → ∀ (v5_3 : Int32) (v5_4 : Int32), v5_3 = nI (fb_ct (cwoP σ r st9) i) → v5_4 = nI (i) → XW K g 5 Q M 0 0 5 [(4, .int (v5_4)), (3, .int (v5_3)), (0, .ref (A 0)), (1, .ref (A (30 + r))), (2, .int (nI (st9)))] [] := by
    refine x_loop ((σ.1 17 r)) _ (fun i hi ihi => ?_)
    intro v5_3 v5_4 e5_3 e5_4
    subst e5_3
    subst e5_4
    refine x_iload F 0 dX3_countWithWaysOutside_5 rfl ?_
    refine x_aload_n F 3 dX3_countWithWaysOutside_7 rfl ?_
    refine x_fget F f_X3_82 (hR.r (by omega : r < σ.1 18 0) (by omega)) (v := .ref (A (40 + r))) dX3_countWithWaysOutside_8 rfl ?_
    refine x_callV F s_X3_37 (hR.l (by omega : r < σ.1 18 0) (by omega)) rfl rfl (c_lsize F.nt (hR.l (by omega : r < σ.1 18 0) (by omega))) rfl dX3_countWithWaysOutside_11 (by decide) (by decide) (Nat.le_of_ble_eq_true rfl) x_noX (ki fun r M2 hp => ?_)
    obtain ⟨rfl, rfl⟩ := hp
    refine x_icmp_ge F 47 dX3_countWithWaysOutside_14 (by decide) (fun c14 => ?_) (fun c14 => ?_)
    · have c14 := (nI_leI (by omega) (by omega)).mp c14
      have c14b := Nat.not_lt.mpr c14
      refine x_iload_n F 1 dX3_countWithWaysOutside_47 rfl ?_
      rw [hQ]
      exact x_iret F dX3_countWithWaysOutside_48 (by decide) ⟨_, rfl, by have h9 : i = σ.1 17 r := (by omega); rw [h9]; rfl, rfl⟩
    · have c14 := mt (nI_leI (by omega) (by omega)).mpr c14
      have c14b := Nat.not_le.mp c14
      refine x_aload_n F 2 dX3_countWithWaysOutside_17 rfl ?_
      refine x_aload_n F 3 dX3_countWithWaysOutside_18 rfl ?_
      refine x_aload_n F 3 dX3_countWithWaysOutside_19 rfl ?_
      refine x_fget F f_X3_82 (hR.r (by omega : r < σ.1 18 0) (by omega)) (v := .ref (A (40 + r))) dX3_countWithWaysOutside_20 rfl ?_
      refine x_iload F 0 dX3_countWithWaysOutside_23 rfl ?_
      refine x_callV F s_X3_124 (hR.l (by omega : r < σ.1 18 0) (by omega)) rfl rfl (c_lget F.nt (hR.l (by omega : r < σ.1 18 0) (by omega)) (fun h0 => hR.d (by omega : r < σ.1 18 0) (by omega) h0) (by omega : i < σ.1 17 r) (by omega : σ.1 17 r ≤ 22)) rfl dX3_countWithWaysOutside_25 (by decide) (by decide) (Nat.le_of_ble_eq_true rfl) x_noX (kr fun r_2 M2_2 hp_2 => ?_)
      obtain ⟨rfl, rfl⟩ := hp_2
      have w9 := (hW r (by omega : r < σ.1 18 0)).1 i (by omega : i < σ.1 17 r)
      refine x_rr0 (y := A (100 + (12 * r + whS σ r i))) (rfl) ?_
      refine x_cast F (hR.e w9.2 (by omega)) rfl l_X3_113 dX3_countWithWaysOutside_28 ?_
      refine x_iload_n F 4 dX3_countWithWaysOutside_31 rfl ?_
      refine x_callV F s_X3_293 hR.c rfl rfl (c_X3_hasWayOutside F.nt hR hB hD (by omega) (rfl) (by omega) (w9.2) (by omega) (j := (whS σ r i))) rfl dX3_countWithWaysOutside_32 (by decide) (by decide) (Nat.le_of_ble_eq_true rfl) x_noX (ki fun r_3 M2_3 hp_3 => ?_)
      obtain ⟨rfl, rfl⟩ := hp_3
      refine x_if_eq F 41 dX3_countWithWaysOutside_35 (by decide) (fun c35 => ?_) (fun c35 => ?_)
      · have c35 := nI_bz0.mp c35
        refine x_iinc F 0 [(4, .int (nI (i + 1))), (3, .int (nI (fb_ct (cwoP σ r st9) i))), (0, .ref (A 0)), (1, .ref (A (30 + r))), (2, .int (nI (st9)))] dX3_countWithWaysOutside_41 rfl (iincN (i) 1) (by decide) rfl ?_
        refine x_goto F 5 dX3_countWithWaysOutside_44 (by decide) ?_
        exact ihi (by omega) _ _ (by (first | rw [fb_ct_yes (f := cwoP σ r st9) (n := i) c35] | rw [fb_ct_no (f := cwoP σ r st9) (n := i) c35])) (rfl)
      · have c35 := nI_bz1.mp c35
        refine x_iinc F 1 [(3, .int (nI (fb_ct (cwoP σ r st9) i + 1))), (4, .int (nI (i))), (0, .ref (A 0)), (1, .ref (A (30 + r))), (2, .int (nI (st9)))] dX3_countWithWaysOutside_38 rfl (iincN (fb_ct (cwoP σ r st9) i) 1) (by decide) rfl ?_
        refine x_iinc F 1 [(4, .int (nI (i + 1))), (3, .int (nI (fb_ct (cwoP σ r st9) i + 1))), (0, .ref (A 0)), (1, .ref (A (30 + r))), (2, .int (nI (st9)))] dX3_countWithWaysOutside_41 rfl (iincN (i) 1) (by decide) rfl ?_
        refine x_goto F 5 dX3_countWithWaysOutside_44 (by decide) ?_
        exact ihi (by omega) _ _ (by (first | rw [fb_ct_yes (f := cwoP σ r st9) (n := i) c35] | rw [fb_ct_no (f := cwoP σ r st9) (n := i) c35])) (rfl)
  exact LP5 0 (by omega) _ _ (rfl) (rfl)
set_option maxHeartbeats 4000000 in
set_option maxRecDepth 100000 in
theorem c_X0_canBeDrawn {l : Launch} (hl : l.stackTraces = false) {g : GP} {M : MM} {A : Nat → Nat} {M0 : MM} {σ : ST} {b kd day : Nat} (hR : CM g A M0 σ M) (hB : Bd σ) (hb : b < σ.1 6 0) (hk : kd < 2 ^ 31) (hd : day < 64) : CT l g yX0_canBeDrawn cX0_canBeDrawn 7 (some .boolean) 0 0 0 0 [.ref (A (10 + b)), .int (nI (kd)), .int (nI (day))] M (pI (fun r9 M9 => nI (bz (cbdS σ kd day b)) = r9 ∧ M = M9)) nX := by
  refine ct_of [(0, .ref (A (10 + b))), (1, .int (nI (kd))), (2, .int (nI (day)))] (by decide) hl (Nat.le_of_ble_eq_true rfl) rfl ?_
  intro K hK F
  subst hK
  have F : Fx K g cX0_canBeDrawn RX0 7 (some .boolean) [] 0 0 0 0 := F
  obtain ⟨Q, hQ⟩ : ∃ Q, Q = MQx K g (pI (fun r9 M9 => nI (bz (cbdS σ kd day b)) = r9 ∧ M = M9)) nX 0 0 := ⟨_, rfl⟩
  rw [← hQ]
  have hB9 := hB
  obtain ⟨h6, h7, h18, hr8, hk96, hp96, hb16, hh⟩ := hB9
  have b1 := hb16 b (by omega)
  refine x_lconst F 1 dX0_canBeDrawn_0 (by decide) ?_
  refine x_iload_n F 2 dX0_canBeDrawn_1 rfl ?_
  refine x_lshl F dX0_canBeDrawn_2 ?_
  refine x_rl0 (y := bitD day) (rfl) ?_
  refine x_lstore_n F [(3, .long (bitD day)), (0, .ref (A (10 + b))), (1, .int (nI (kd))), (2, .int (nI (day)))] dX0_canBeDrawn_3 (by decide) rfl ?_
  refine x_lload_n F 0 dX0_canBeDrawn_4 rfl ?_
  refine x_lload_n F 0 dX0_canBeDrawn_5 rfl ?_
  refine x_iconst F (nI 1) dX0_canBeDrawn_6 (by decide) ?_
  refine x_lshl F dX0_canBeDrawn_7 ?_
  refine x_lor F dX0_canBeDrawn_8 ?_
  refine x_lload_n F 0 dX0_canBeDrawn_9 rfl ?_
  refine x_iconst F (nI 1) dX0_canBeDrawn_10 (by decide) ?_
  refine x_lushr F dX0_canBeDrawn_11 ?_
  refine x_lor F dX0_canBeDrawn_12 ?_
  refine x_rl0 (y := nearM day) (rfl) ?_
  refine x_lstore F [(5, .long (nearM day)), (3, .long (bitD day)), (0, .ref (A (10 + b))), (1, .int (nI (kd))), (2, .int (nI (day)))] dX0_canBeDrawn_13 (by decide) rfl ?_
  refine x_aload_n F 2 dX0_canBeDrawn_15 rfl ?_
  refine x_fget F f_X0_13 (hR.b (by omega : b < σ.1 6 0) (by omega)) (v := .int (nI (σ.1 1 b))) dX0_canBeDrawn_16 rfl ?_
  refine x_iload_n F 3 dX0_canBeDrawn_19 rfl ?_
  refine x_icmp_ne F 39 dX0_canBeDrawn_20 (by decide) (fun c20 => ?_) (fun c20 => ?_)
  · have c20 := mt (nI_eq (by omega) (by omega)).mpr c20
    refine x_iconst F (nI 0) dX0_canBeDrawn_39 (by decide) ?_
    rw [hQ]
    exact x_zret F dX0_canBeDrawn_40 (by decide) (Or.inl rfl) ⟨_, rfl, by first | (rw [cbd_1 c20]; rfl) | (rw [cbd_2 hd c32]; rfl) | (rw [cbd_3 hd c20 c32]; rfl), rfl⟩
  · have c20 := (nI_eq (by omega) (by omega)).mp c20
    refine x_aload_n F 2 dX0_canBeDrawn_23 rfl ?_
    refine x_fget F f_X0_16 (hR.b (by omega : b < σ.1 6 0) (by omega)) (v := .long (σ.2.2 b)) dX0_canBeDrawn_24 rfl ?_
    refine x_lload F 0 dX0_canBeDrawn_27 rfl ?_
    refine x_land F dX0_canBeDrawn_29 ?_
    refine x_lconst F 0 dX0_canBeDrawn_30 (by decide) ?_
    refine x_lcmp F dX0_canBeDrawn_31 ?_
    refine x_if_ne F 39 dX0_canBeDrawn_32 (by decide) (fun c32 => ?_) (fun c32 => ?_)
    · refine x_iconst F (nI 0) dX0_canBeDrawn_39 (by decide) ?_
      rw [hQ]
      exact x_zret F dX0_canBeDrawn_40 (by decide) (Or.inl rfl) ⟨_, rfl, by first | (rw [cbd_1 c20]; rfl) | (rw [cbd_2 hd c32]; rfl) | (rw [cbd_3 hd c20 c32]; rfl), rfl⟩
    · refine x_iconst F (nI 1) dX0_canBeDrawn_35 (by decide) ?_
      refine x_goto F 40 dX0_canBeDrawn_36 (by decide) ?_
      rw [hQ]
      exact x_zret F dX0_canBeDrawn_40 (by decide) (Or.inr rfl) ⟨_, rfl, by first | (rw [cbd_1 c20]; rfl) | (rw [cbd_2 hd c32]; rfl) | (rw [cbd_3 hd c20 c32]; rfl), rfl⟩
set_option maxHeartbeats 4000000 in
set_option maxRecDepth 100000 in
theorem c_X0_hasAlwaysRested {l : Launch} (hl : l.stackTraces = false) {g : GP} {M : MM} {A : Nat → Nat} {M0 : MM} {σ : ST} {b : Nat} (hR : CM g A M0 σ M) (hB : Bd σ) (hb : b < σ.1 6 0) : CT l g yX0_hasAlwaysRested cX0_hasAlwaysRested 1 (some .boolean) 1 21 0 0 [.ref (A (10 + b))] M (pI (fun r9 M9 => nI (bz (harS σ b)) = r9 ∧ M = M9)) nX := by
  refine ct_of [(0, .ref (A (10 + b)))] (by decide) hl (Nat.le_of_ble_eq_true rfl) rfl ?_
  intro K hK F
  subst hK
  have F : Fx K g cX0_hasAlwaysRested RX0 1 (some .boolean) [] 1 21 0 0 := F
  obtain ⟨Q, hQ⟩ : ∃ Q, Q = MQx K g (pI (fun r9 M9 => nI (bz (harS σ b)) = r9 ∧ M = M9)) nX 0 0 := ⟨_, rfl⟩
  rw [← hQ]
  have hB9 := hB
  obtain ⟨h6, h7, h18, hr8, hk96, hp96, hb16, hh⟩ := hB9
  refine x_aload_n F 0 dX0_hasAlwaysRested_0 rfl ?_
  refine x_fget F f_X0_16 (hR.b (by omega : b < σ.1 6 0) (by omega)) (v := .long (σ.2.2 b)) dX0_hasAlwaysRested_1 rfl ?_
  refine x_callS F s_X0_23 rfl (c_J13_bitCount_95d88 F.nt ) rfl dX0_hasAlwaysRested_4 (by decide) (by decide) (Nat.le_of_ble_eq_true rfl) x_noX (ki fun r M2 hp => ?_)
  obtain ⟨rfl, rfl⟩ := hp
  refine x_aload_n F 0 dX0_hasAlwaysRested_7 rfl ?_
  refine x_fget F f_X0_20 (hR.b (by omega : b < σ.1 6 0) (by omega)) (v := .int (nI (σ.1 42 b))) dX0_hasAlwaysRested_8 rfl ?_
  refine x_icmp_ne F 34 dX0_hasAlwaysRested_11 (by decide) (fun c11 => ?_) (fun c11 => ?_)
  · refine x_iconst F (nI 0) dX0_hasAlwaysRested_34 (by decide) ?_
    rw [hQ]
    exact x_zret F dX0_hasAlwaysRested_35 (by decide) (Or.inl rfl) ⟨_, rfl, by first | (rw [har_1 c11]; rfl) | (rw [har_2 c27]; rfl) | (rw [har_3 c11 c27]; rfl), rfl⟩
  · refine x_aload_n F 0 dX0_hasAlwaysRested_14 rfl ?_
    refine x_fget F f_X0_16 (hR.b (by omega : b < σ.1 6 0) (by omega)) (v := .long (σ.2.2 b)) dX0_hasAlwaysRested_15 rfl ?_
    refine x_aload_n F 0 dX0_hasAlwaysRested_18 rfl ?_
    refine x_fget F f_X0_16 (hR.b (by omega : b < σ.1 6 0) (by omega)) (v := .long (σ.2.2 b)) dX0_hasAlwaysRested_19 rfl ?_
    refine x_iconst F (nI 1) dX0_hasAlwaysRested_22 (by decide) ?_
    refine x_lshl F dX0_hasAlwaysRested_23 ?_
    refine x_land F dX0_hasAlwaysRested_24 ?_
    refine x_lconst F 0 dX0_hasAlwaysRested_25 (by decide) ?_
    refine x_lcmp F dX0_hasAlwaysRested_26 ?_
    refine x_if_ne F 34 dX0_hasAlwaysRested_27 (by decide) (fun c27 => ?_) (fun c27 => ?_)
    · refine x_iconst F (nI 0) dX0_hasAlwaysRested_34 (by decide) ?_
      rw [hQ]
      exact x_zret F dX0_hasAlwaysRested_35 (by decide) (Or.inl rfl) ⟨_, rfl, by first | (rw [har_1 c11]; rfl) | (rw [har_2 c27]; rfl) | (rw [har_3 c11 c27]; rfl), rfl⟩
    · refine x_iconst F (nI 1) dX0_hasAlwaysRested_30 (by decide) ?_
      refine x_goto F 35 dX0_hasAlwaysRested_31 (by decide) ?_
      rw [hQ]
      exact x_zret F dX0_hasAlwaysRested_35 (by decide) (Or.inr rfl) ⟨_, rfl, by first | (rw [har_1 c11]; rfl) | (rw [har_2 c27]; rfl) | (rw [har_3 c11 c27]; rfl), rfl⟩
set_option maxHeartbeats 4000000 in
set_option maxRecDepth 100000 in
theorem c_X1_takeRide {l : Launch} (hl : l.stackTraces = false) {g : GP} {M : MM} {A : Nat → Nat} {M0 : MM} {σ : ST} {k b rm bm : Nat} {f : Bool} (hR : CM g A M0 σ M) (hB : Bd σ) (he : σ.1 41 k = 1) (hk : k < 96) (hb : b < σ.1 6 0) (hbe : σ.2.1 23 k = nI b) (hrm : rm ≤ 50) (hbm : bm ≤ 50) : CT l g yX1_takeRide cX1_takeRide 4 (none : Option Jvm.ClassFile.FieldType) 0 0 0 0 [.ref (A (100 + k)), .int (nI (bz f)), .int (nI (rm)), .int (nI (bm))] M (pV (fun M9 => CM g A M0 (tkU σ k b f rm bm) M9)) nX := by
  refine ct_of [(0, .ref (A (100 + k))), (1, .int (nI (bz f))), (2, .int (nI (rm))), (3, .int (nI (bm)))] (by decide) hl (Nat.le_of_ble_eq_true rfl) rfl ?_
  intro K hK F
  subst hK
  have F : Fx K g cX1_takeRide RX1 4 (none : Option Jvm.ClassFile.FieldType) [] 0 0 0 0 := F
  obtain ⟨Q, hQ⟩ : ∃ Q, Q = MQx K g (pV (fun M9 => CM g A M0 (tkU σ k b f rm bm) M9)) nX 0 0 := ⟨_, rfl⟩
  rw [← hQ]
  have hB9 := hB
  obtain ⟨h6, h7, h18, hr8, hk96, hp96, hb16, hh⟩ := hB9
  have b1 := hk96 k hk
  have b2 := hb16 b (by omega)
  refine x_aload_n F 0 dX1_takeRide_0 rfl ?_
  refine x_iconst F (nI 0) dX1_takeRide_1 (by decide) ?_
  refine x_pX1_5 F hR (k := k) he (by omega) (by omega) p_X1_36 dX1_takeRide_2 (fun M1 hR1 => ?_)
  refine x_aload_n F 0 dX1_takeRide_5 rfl ?_
  refine x_iload_n F 1 dX1_takeRide_6 rfl ?_
  refine x_pX1_8 F hR1 (k := k) he (by omega) (bz_le _) p_X1_40 dX1_takeRide_7 (fun M1_2 hR1_2 => ?_)
  refine x_aload_n F 0 dX1_takeRide_10 rfl ?_
  have J22 : ∀ (vj : Int32), vj = (if f then nI (rm + bm) else nI 0) → XW K g 4 Q M1_2 0 0 22 [(0, .ref (A (100 + k))), (1, .int (nI (bz f))), (2, .int (nI (rm))), (3, .int (nI (bm)))] [.int (vj), .ref (A (100 + k))] := by
    intro vj ej22_vj
    subst ej22_vj
    refine x_pX1_9 F hR1_2 (k := k) he (by omega) p_X1_24 dX1_takeRide_22 (fun M1_3 hR1_3 => ?_)
    refine x_aload_n F 0 dX1_takeRide_25 rfl ?_
    have J48 : ∀ (vk : Int32), vk = nI (bz (f && decide (bm < 20) && decide (σ.1 25 k = 0))) → XW K g 4 Q M1_3 0 0 48 [(0, .ref (A (100 + k))), (1, .int (nI (bz f))), (2, .int (nI (rm))), (3, .int (nI (bm)))] [.int (vk), .ref (A (100 + k))] := by
      intro vk ej48_vk
      subst ej48_vk
      refine x_pX1_7 F hR1_3 (k := k) he (by omega) (bz_le _) p_X1_46 dX1_takeRide_48 (fun M1_4 hR1_4 => ?_)
      refine x_aload_n F 0 dX1_takeRide_51 rfl ?_
      refine x_fget F f_X1_27 (hR1_4.e he (by omega)) (v := va_rf (enB A ((uN (uR (uN (uN σ 24 k (0)) 27 k (bz f)) 28 k (((if f then nI (rm + bm) else nI 0)))) 26 k (bz (f && decide (bm < 20) && decide (σ.1 25 k = 0)))).2.1 23 k))) dX1_takeRide_52 rfl ?_
      refine x_rv0 (y := .ref (A (10 + b))) (enB_t hbe (by omega)) ?_
      refine x_ifnull F dX1_takeRide_55 ?_
      refine x_aload_n F 0 dX1_takeRide_58 rfl ?_
      refine x_fget F f_X1_27 (hR1_4.e he (by omega)) (v := va_rf (enB A ((uN (uR (uN (uN σ 24 k (0)) 27 k (bz f)) 28 k (((if f then nI (rm + bm) else nI 0)))) 26 k (bz (f && decide (bm < 20) && decide (σ.1 25 k = 0)))).2.1 23 k))) dX1_takeRide_59 rfl ?_
      refine x_rv0 (y := .ref (A (10 + b))) (enB_t hbe (by omega)) ?_
      refine x_dup F dX1_takeRide_62 rfl ?_
      refine x_fget F f_X1_49 (hR1_4.b (by omega : b < σ.1 6 0) (by omega)) (v := .int (nI ((uN (uR (uN (uN σ 24 k (0)) 27 k (bz f)) 28 k (((if f then nI (rm + bm) else nI 0)))) 26 k (bz (f && decide (bm < 20) && decide (σ.1 25 k = 0)))).1 2 b))) dX1_takeRide_63 rfl ?_
      refine x_ri0 (y := nI (σ.1 2 b)) (rfl) ?_
      refine x_iconst F (nI 1) dX1_takeRide_66 (by decide) ?_
      refine x_iaddN F dX1_takeRide_67 ?_
      refine x_pX0_2 F hR1_4 (i := b) (by omega : b < σ.1 6 0) (by omega) p_X1_49 dX1_takeRide_68 (fun M1_5 hR1_5 => ?_)
      refine x_aload_n F 0 dX1_takeRide_71 rfl ?_
      refine x_fget F f_X1_27 (hR1_5.e he (by omega)) (v := va_rf (enB A ((uN (uN (uR (uN (uN σ 24 k (0)) 27 k (bz f)) 28 k (((if f then nI (rm + bm) else nI 0)))) 26 k (bz (f && decide (bm < 20) && decide (σ.1 25 k = 0)))) 2 b ((σ.1 2 b) + 1)).2.1 23 k))) dX1_takeRide_72 rfl ?_
      refine x_rv0 (y := .ref (A (10 + b))) (enB_t hbe (by omega)) ?_
      refine x_dup F dX1_takeRide_75 rfl ?_
      refine x_fget F f_X1_52 (hR1_5.b (by omega : b < σ.1 6 0) (by omega)) (v := .int (nI ((uN (uN (uR (uN (uN σ 24 k (0)) 27 k (bz f)) 28 k (((if f then nI (rm + bm) else nI 0)))) 26 k (bz (f && decide (bm < 20) && decide (σ.1 25 k = 0)))) 2 b ((σ.1 2 b) + 1)).1 3 b))) dX1_takeRide_76 rfl ?_
      refine x_ri0 (y := nI (σ.1 3 b)) (rfl) ?_
      have J88 : ∀ (vl : Int32), vl = nI (if f then 0 else 1) → XW K g 4 Q M1_5 0 0 88 [(0, .ref (A (100 + k))), (1, .int (nI (bz f))), (2, .int (nI (rm))), (3, .int (nI (bm)))] [.int (vl), .int (nI (σ.1 3 b)), .ref (A (10 + b))] := by
        intro vl ej88_vl
        subst ej88_vl
        refine x_iaddN F dX1_takeRide_88 ?_
        refine x_pX0_3 F hR1_5 (i := b) (by omega : b < σ.1 6 0) (by omega) p_X1_52 dX1_takeRide_89 (fun M1_6 hR1_6 => ?_)
        refine x_aload_n F 0 dX1_takeRide_92 rfl ?_
        refine x_fget F f_X1_27 (hR1_6.e he (by omega)) (v := va_rf (enB A ((uN (uN (uN (uR (uN (uN σ 24 k (0)) 27 k (bz f)) 28 k (((if f then nI (rm + bm) else nI 0)))) 26 k (bz (f && decide (bm < 20) && decide (σ.1 25 k = 0)))) 2 b ((σ.1 2 b) + 1)) 3 b ((σ.1 3 b) + (if f then 0 else 1))).2.1 23 k))) dX1_takeRide_93 rfl ?_
        refine x_rv0 (y := .ref (A (10 + b))) (enB_t hbe (by omega)) ?_
        refine x_dup F dX1_takeRide_96 rfl ?_
        refine x_fget F f_X1_55 (hR1_6.b (by omega : b < σ.1 6 0) (by omega)) (v := .int (nI ((uN (uN (uN (uR (uN (uN σ 24 k (0)) 27 k (bz f)) 28 k (((if f then nI (rm + bm) else nI 0)))) 26 k (bz (f && decide (bm < 20) && decide (σ.1 25 k = 0)))) 2 b ((σ.1 2 b) + 1)) 3 b ((σ.1 3 b) + (if f then 0 else 1))).1 4 b))) dX1_takeRide_97 rfl ?_
        refine x_ri0 (y := nI (σ.1 4 b)) (rfl) ?_
        refine x_iload_n F 3 dX1_takeRide_100 rfl ?_
        refine x_iaddN F dX1_takeRide_101 ?_
        refine x_pX0_4 F hR1_6 (i := b) (by omega : b < σ.1 6 0) (by omega) p_X1_55 dX1_takeRide_102 (fun M1_7 hR1_7 => ?_)
        rw [hQ]
        exact x_vret F dX1_takeRide_105 (by decide) ⟨rfl, hR1_7⟩
      refine x_iload_n F 1 dX1_takeRide_79 rfl ?_
      refine x_if_eq F 87 dX1_takeRide_80 (by decide) (fun c80 => ?_) (fun c80 => ?_)
      · have c80 := nI_bz0.mp c80
        refine x_iconst F (nI 1) dX1_takeRide_87 (by decide) ?_
        exact J88 _ (by first | rw [if_neg (by rw [c80]; exact Bool.false_ne_true)] | rw [if_pos c80])
      · have c80 := nI_bz1.mp c80
        refine x_iconst F (nI 0) dX1_takeRide_83 (by decide) ?_
        refine x_goto F 88 dX1_takeRide_84 (by decide) ?_
        exact J88 _ (by first | rw [if_neg (by rw [c80]; exact Bool.false_ne_true)] | rw [if_pos c80])
    refine x_iload_n F 1 dX1_takeRide_26 rfl ?_
    refine x_if_eq F 47 dX1_takeRide_27 (by decide) (fun c27 => ?_) (fun c27 => ?_)
    · have c27 := nI_bz0.mp c27
      refine x_iconst F (nI 0) dX1_takeRide_47 (by decide) ?_
      exact J48 _ (by first | (rw [tk_1 c27]; rfl) | (rw [tk_2 c33b]; rfl) | (rw [tk_3 c40]; rfl) | (rw [tk_4 c27 c33b c40]; rfl))
    · have c27 := nI_bz1.mp c27
      refine x_iload_n F 3 dX1_takeRide_30 rfl ?_
      refine x_bipush F (nI 20) dX1_takeRide_31 (by decide) ?_
      refine x_icmp_ge F 47 dX1_takeRide_33 (by decide) (fun c33 => ?_) (fun c33 => ?_)
      · have c33 := (nI_leI (by omega) (by omega)).mp c33
        have c33b := Nat.not_lt.mpr c33
        refine x_iconst F (nI 0) dX1_takeRide_47 (by decide) ?_
        exact J48 _ (by first | (rw [tk_1 c27]; rfl) | (rw [tk_2 c33b]; rfl) | (rw [tk_3 c40]; rfl) | (rw [tk_4 c27 c33b c40]; rfl))
      · have c33 := mt (nI_leI (by omega) (by omega)).mpr c33
        have c33b := Nat.not_le.mp c33
        refine x_aload_n F 0 dX1_takeRide_36 rfl ?_
        refine x_fget F f_X1_43 (hR1_3.e he (by omega)) (v := .int (nI ((uR (uN (uN σ 24 k (0)) 27 k (bz f)) 28 k (((if f then nI (rm + bm) else nI 0)))).1 25 k))) dX1_takeRide_37 rfl ?_
        refine x_ri0 (y := nI (σ.1 25 k)) (rfl) ?_
        refine x_if_ne F 47 dX1_takeRide_40 (by decide) (fun c40 => ?_) (fun c40 => ?_)
        · have c40 := mt (nI_z (by omega)).mpr c40
          refine x_iconst F (nI 0) dX1_takeRide_47 (by decide) ?_
          exact J48 _ (by first | (rw [tk_1 c27]; rfl) | (rw [tk_2 c33b]; rfl) | (rw [tk_3 c40]; rfl) | (rw [tk_4 c27 c33b c40]; rfl))
        · have c40 := (nI_z (by omega)).mp c40
          refine x_iconst F (nI 1) dX1_takeRide_43 (by decide) ?_
          refine x_goto F 48 dX1_takeRide_44 (by decide) ?_
          exact J48 _ (by first | (rw [tk_1 c27]; rfl) | (rw [tk_2 c33b]; rfl) | (rw [tk_3 c40]; rfl) | (rw [tk_4 c27 c33b c40]; rfl))
  refine x_iload_n F 1 dX1_takeRide_11 rfl ?_
  refine x_if_eq F 21 dX1_takeRide_12 (by decide) (fun c12 => ?_) (fun c12 => ?_)
  · have c12 := nI_bz0.mp c12
    refine x_iconst F (nI 0) dX1_takeRide_21 (by decide) ?_
    exact J22 _ (by first | rw [if_neg (by rw [c12]; exact Bool.false_ne_true)] | rw [if_pos c12])
  · have c12 := nI_bz1.mp c12
    refine x_iload_n F 2 dX1_takeRide_15 rfl ?_
    refine x_iload_n F 3 dX1_takeRide_16 rfl ?_
    refine x_iaddN F dX1_takeRide_17 ?_
    refine x_goto F 22 dX1_takeRide_18 (by decide) ?_
    exact J22 _ (by first | rw [if_neg (by rw [c12]; exact Bool.false_ne_true)] | rw [if_pos c12])
set_option maxHeartbeats 4000000 in
set_option maxRecDepth 100000 in
theorem c_X3_markAt {l : Launch} (hl : l.stackTraces = false) {g : GP} {M : MM} {x0 d0 : Nat} (hx : x0 < 2 ^ 31) (hd : d0 < 1000) : CT l g yX3_markAt cX3_markAt 4 (some .int) 0 0 0 0 [.int (nI (x0)), .int (nI (d0))] M (pI (fun r9 M9 => nI (mkD x0 d0 % 26) = r9 ∧ M = M9)) nX := by
  refine ct_of [(0, .int (nI (x0))), (1, .int (nI (d0)))] (by decide) hl (Nat.le_of_ble_eq_true rfl) rfl ?_
  intro K hK F
  subst hK
  have F : Fx K g cX3_markAt RX3 4 (some .int) [] 0 0 0 0 := F
  obtain ⟨Q, hQ⟩ : ∃ Q, Q = MQx K g (pI (fun r9 M9 => nI (mkD x0 d0 % 26) = r9 ∧ M = M9)) nX 0 0 := ⟨_, rfl⟩
  rw [← hQ]
  refine x_iload_n F 0 dX3_markAt_0 rfl ?_
  refine x_istore_n F [(2, .int (nI (x0))), (0, .int (nI (x0))), (1, .int (nI (d0)))] dX3_markAt_1 (by decide) rfl ?_
  refine x_iconst F (nI 0) dX3_markAt_2 (by decide) ?_
  refine x_istore_n F [(3, .int (nI (0))), (2, .int (nI (x0))), (0, .int (nI (x0))), (1, .int (nI (d0)))] dX3_markAt_3 (by decide) rfl ?_
  have LP4 : ∀ i, i ≤ d0 → ∀ (v4_2 : Int32) (v4_3 : Int32), v4_2 = nI (mkD x0 i) → v4_3 = nI (i) → XW K g 4 Q M 0 0 4 [(3, .int (v4_3)), (2, .int (v4_2)), (0, .int (nI (x0))), (1, .int (nI (d0)))] [] := by
    refine x_loop d0 _ (fun i hi ihi => ?_)
    intro v4_2 v4_3 e4_2 e4_3
    subst e4_2
    subst e4_3
    have hle := mkD_le (x0 := x0) (n := i)
    refine x_iload_n F 0 dX3_markAt_4 rfl ?_
    refine x_iload_n F 3 dX3_markAt_5 rfl ?_
    refine x_icmp_ge F 20 dX3_markAt_6 (by decide) (fun c6 => ?_) (fun c6 => ?_)
    · have c6 := (nI_leI (by omega) (by omega)).mp c6
      have c6b := Nat.not_lt.mpr c6
      refine x_iload_n F 1 dX3_markAt_20 rfl ?_
      refine x_bipush F (nI 26) dX3_markAt_21 (by decide) ?_
      refine x_iremN F dX3_markAt_23 (by omega) (by omega) (by omega) ?_
      rw [hQ]
      exact x_iret F dX3_markAt_24 (by decide) ⟨_, rfl, by have h9 : i = d0 := (by omega); rw [h9], rfl⟩
    · have c6 := mt (nI_leI (by omega) (by omega)).mpr c6
      have c6b := Nat.not_le.mp c6
      refine x_iload_n F 1 dX3_markAt_9 rfl ?_
      refine x_bipush F (nI 26) dX3_markAt_10 (by decide) ?_
      refine x_idivN F dX3_markAt_12 (by omega) (by omega) (by omega) ?_
      refine x_istore_n F [(2, .int (nI ((mkD x0 i) / 26))), (3, .int (nI (i))), (0, .int (nI (x0))), (1, .int (nI (d0)))] dX3_markAt_13 (by decide) rfl ?_
      refine x_iinc F 1 [(3, .int (nI (i + 1))), (2, .int (nI ((mkD x0 i) / 26))), (0, .int (nI (x0))), (1, .int (nI (d0)))] dX3_markAt_14 rfl (iincN (i) 1) (by decide) rfl ?_
      refine x_goto F 4 dX3_markAt_17 (by decide) ?_
      exact ihi (by omega) _ _ (rfl) (rfl)
  exact LP4 0 (by omega) _ _ (rfl) (rfl)
