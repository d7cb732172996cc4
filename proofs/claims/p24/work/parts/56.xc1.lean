/-! the component's smallest methods -/
def ccN (σ : ST) (r : Nat) : Nat := fb_ct (fun e => decide (¬ σ.1 27 (12 * r + whS σ r e) = 0)) (σ.1 17 r)
def cbP (σ : ST) (r : Nat) : Bool := decide (σ.1 15 r = 2) && allB (fun e => decide (σ.1 24 (12 * r + whS σ r e) = 0) && decide (σ.1 26 (12 * r + whS σ r e) = 0)) (σ.1 17 r)
theorem cbP_no {σ : ST} {r i : Nat} (hi : i < σ.1 17 r) (h : ¬ σ.1 24 (12 * r + whS σ r i) = 0 ∨ ¬ σ.1 26 (12 * r + whS σ r i) = 0) : cbP σ r = false := by
  cases c : cbP σ r with
  | false => rfl
  | true =>
    unfold cbP at c
    simp only [Bool.and_eq_true, allB_iff, decide_eq_true_eq] at c
    have := c.2 i hi
    rcases h with h | h
    · exact absurd this.1 h
    · exact absurd this.2 h
theorem cbP_yes {σ : ST} {r : Nat} (h : allB (fun e => decide (σ.1 24 (12 * r + whS σ r e) = 0) && decide (σ.1 26 (12 * r + whS σ r e) = 0)) (σ.1 17 r) = true) : cbP σ r = decide (σ.1 15 r = 2) := by
  unfold cbP
  rw [h, Bool.and_true]
def smE (σ : ST) (r : Nat) : Nat → Int32
  | 0 => σ.2.1 16 r
  | e + 1 => smE σ r e + nI (σ.1 29 (12 * r + whS σ r e))
def ieS (σ : ST) (r : Nat) : Bool := decide (¬ σ.1 15 r = 3) || decide (smE σ r (σ.1 17 r) = nI (potS σ r))
theorem isK_t {x0 : Int32} (h : x0 = 0 ∨ x0 = 1) : inR x0 (nI 0) (nI 1) = true := by rcases h with rfl | rfl <;> decide
theorem isK_f {x0 : Int32} (h : ¬ x0 = 0) (h1 : ¬ x0 = nI 1) : inR x0 (nI 0) (nI 1) = false := by
  cases c : inR x0 (nI 0) (nI 1) with
  | false => rfl
  | true =>
    obtain ⟨j, h2, h3, rfl⟩ := inR_t (by decide) (by decide) c
    have : j = 0 ∨ j = 1 := by omega
    rcases this with rfl | rfl
    · exact absurd rfl h
    · exact absurd rfl h1
set_option maxHeartbeats 4000000 in
set_option maxRecDepth 100000 in
theorem c_X3_isWithin {l : Launch} (hl : l.stackTraces = false) {g : GP} {M : MM} {x0 y0 z0 : Int32}  : CT l g yX3_isWithin cX3_isWithin 3 (some .boolean) 0 0 0 0 [.int (x0), .int (y0), .int (z0)] M (pI (fun r9 M9 => nI (bz (inR x0 y0 z0)) = r9 ∧ M = M9)) nX := by
  refine ct_of [(0, .int (x0)), (1, .int (y0)), (2, .int (z0))] (by decide) hl (Nat.le_of_ble_eq_true rfl) rfl ?_
  intro K hK F
  subst hK
  have F : Fx K g cX3_isWithin RX3 3 (some .boolean) [] 0 0 0 0 := F
  obtain ⟨Q, hQ⟩ : ∃ Q, Q = MQx K g (pI (fun r9 M9 => nI (bz (inR x0 y0 z0)) = r9 ∧ M = M9)) nX 0 0 := ⟨_, rfl⟩
  rw [← hQ]
  refine x_iload_n F 0 dX3_isWithin_0 rfl ?_
  refine x_iload_n F 1 dX3_isWithin_1 rfl ?_
  refine x_icmp_lt F 14 dX3_isWithin_2 (by decide) (fun c2 => ?_) (fun c2 => ?_)
  · have c2 := Int32.not_le.mpr c2
    refine x_iconst F (nI 0) dX3_isWithin_14 (by decide) ?_
    rw [hQ]
    exact x_zret F dX3_isWithin_15 (by decide) (Or.inl rfl) ⟨_, rfl, by simp [inR, bz, *], rfl⟩
  · refine x_iload_n F 0 dX3_isWithin_5 rfl ?_
    refine x_iload_n F 2 dX3_isWithin_6 rfl ?_
    refine x_icmp_gt F 14 dX3_isWithin_7 (by decide) (fun c7 => ?_) (fun c7 => ?_)
    · have c7 := Int32.not_le.mpr c7
      refine x_iconst F (nI 0) dX3_isWithin_14 (by decide) ?_
      rw [hQ]
      exact x_zret F dX3_isWithin_15 (by decide) (Or.inl rfl) ⟨_, rfl, by simp [inR, bz, *], rfl⟩
    · have c2 := Int32.not_lt.mp c2
      have c7 := Int32.not_lt.mp c7
      refine x_iconst F (nI 1) dX3_isWithin_10 (by decide) ?_
      refine x_goto F 15 dX3_isWithin_11 (by decide) ?_
      rw [hQ]
      exact x_zret F dX3_isWithin_15 (by decide) (Or.inr rfl) ⟨_, rfl, by simp [inR, bz, *], rfl⟩
set_option maxHeartbeats 4000000 in
set_option maxRecDepth 100000 in
theorem c_X3_isKind {l : Launch} (hl : l.stackTraces = false) {g : GP} {M : MM} {x0 : Int32}  : CT l g yX3_isKind cX3_isKind 1 (some .boolean) 0 0 0 0 [.int (x0)] M (pI (fun r9 M9 => nI (bz (inR x0 (nI 0) (nI 1))) = r9 ∧ M = M9)) nX := by
  refine ct_of [(0, .int (x0))] (by decide) hl (Nat.le_of_ble_eq_true rfl) rfl ?_
  intro K hK F
  subst hK
  have F : Fx K g cX3_isKind RX3 1 (some .boolean) [] 0 0 0 0 := F
  obtain ⟨Q, hQ⟩ : ∃ Q, Q = MQx K g (pI (fun r9 M9 => nI (bz (inR x0 (nI 0) (nI 1))) = r9 ∧ M = M9)) nX 0 0 := ⟨_, rfl⟩
  rw [← hQ]
  refine x_iload_n F 0 dX3_isKind_0 rfl ?_
  refine x_if_eq F 9 dX3_isKind_1 (by decide) (fun c1 => ?_) (fun c1 => ?_)
  · refine x_iconst F (nI 1) dX3_isKind_9 (by decide) ?_
    refine x_goto F 14 dX3_isKind_10 (by decide) ?_
    rw [hQ]
    exact x_zret F dX3_isKind_14 (by decide) (Or.inr rfl) ⟨_, rfl, by (first | (rw [isK_t (Or.inl c1)]; rfl) | (rw [isK_t (Or.inr (Decidable.not_not.mp c6))]; rfl) | (rw [isK_t (Or.inr c6)]; rfl) | (rw [isK_f c1 c6]; rfl)), rfl⟩
  · refine x_iload_n F 0 dX3_isKind_4 rfl ?_
    refine x_iconst F (nI 1) dX3_isKind_5 (by decide) ?_
    refine x_icmp_ne F 13 dX3_isKind_6 (by decide) (fun c6 => ?_) (fun c6 => ?_)
    · refine x_iconst F (nI 0) dX3_isKind_13 (by decide) ?_
      rw [hQ]
      exact x_zret F dX3_isKind_14 (by decide) (Or.inl rfl) ⟨_, rfl, by (first | (rw [isK_t (Or.inl c1)]; rfl) | (rw [isK_t (Or.inr (Decidable.not_not.mp c6))]; rfl) | (rw [isK_t (Or.inr c6)]; rfl) | (rw [isK_f c1 c6]; rfl)), rfl⟩
    · refine x_iconst F (nI 1) dX3_isKind_9 (by decide) ?_
      refine x_goto F 14 dX3_isKind_10 (by decide) ?_
      rw [hQ]
      exact x_zret F dX3_isKind_14 (by decide) (Or.inr rfl) ⟨_, rfl, by (first | (rw [isK_t (Or.inl c1)]; rfl) | (rw [isK_t (Or.inr (Decidable.not_not.mp c6))]; rfl) | (rw [isK_t (Or.inr c6)]; rfl) | (rw [isK_f c1 c6]; rfl)), rfl⟩
set_option maxHeartbeats 4000000 in
set_option maxRecDepth 100000 in
theorem c_X3_isInSet {l : Launch} (hl : l.stackTraces = false) {g : GP} {M : MM} {x0 p : Nat} (hx : x0 < 2 ^ 31) (hp : p < 31) : CT l g yX3_isInSet cX3_isInSet 2 (some .boolean) 0 0 0 0 [.int (nI (x0)), .int (nI (p))] M (pI (fun r9 M9 => nI (bz (x0.testBit p)) = r9 ∧ M = M9)) nX := by
  refine ct_of [(0, .int (nI (x0))), (1, .int (nI (p)))] (by decide) hl (Nat.le_of_ble_eq_true rfl) rfl ?_
  intro K hK F
  subst hK
  have F : Fx K g cX3_isInSet RX3 2 (some .boolean) [] 0 0 0 0 := F
  obtain ⟨Q, hQ⟩ : ∃ Q, Q = MQx K g (pI (fun r9 M9 => nI (bz (x0.testBit p)) = r9 ∧ M = M9)) nX 0 0 := ⟨_, rfl⟩
  rw [← hQ]
  refine x_iload_n F 0 dX3_isInSet_0 rfl ?_
  refine x_iload_n F 1 dX3_isInSet_1 rfl ?_
  refine x_ishr F dX3_isInSet_2 ?_
  refine x_iconst F (nI 1) dX3_isInSet_3 (by decide) ?_
  refine x_iand F dX3_isInSet_4 ?_
  refine x_ri0 (y := nI (bz (x0.testBit p))) (tb_sh hx hp) ?_
  refine x_iconst F (nI 1) dX3_isInSet_5 (by decide) ?_
  refine x_icmp_ne F 13 dX3_isInSet_6 (by decide) (fun c6 => ?_) (fun c6 => ?_)
  · have c6 := nI_bzO.mp c6
    refine x_iconst F (nI 0) dX3_isInSet_13 (by decide) ?_
    rw [hQ]
    exact x_zret F dX3_isInSet_14 (by decide) (Or.inl rfl) ⟨_, rfl, by simp [bz, *], rfl⟩
  · have c6 := nI_bzI.mp c6
    refine x_iconst F (nI 1) dX3_isInSet_9 (by decide) ?_
    refine x_goto F 14 dX3_isInSet_10 (by decide) ?_
    rw [hQ]
    exact x_zret F dX3_isInSet_14 (by decide) (Or.inr rfl) ⟨_, rfl, by simp [bz, *], rfl⟩
set_option maxHeartbeats 4000000 in
set_option maxRecDepth 100000 in
theorem c_X3_split {l : Launch} (hl : l.stackTraces = false) {g : GP} {M : MM} {x0 y0 : Nat} (hx : x0 < 2 ^ 31) (hy : y0 < 2 ^ 31) : CT l g yX3_split cX3_split 2 (some .int) 0 0 0 0 [.int (nI (x0)), .int (nI (y0))] M (pI (fun r9 M9 => nI (x0 / y0) = r9 ∧ M = M9)) nX := by
  refine ct_of [(0, .int (nI (x0))), (1, .int (nI (y0)))] (by decide) hl (Nat.le_of_ble_eq_true rfl) rfl ?_
  intro K hK F
  subst hK
  have F : Fx K g cX3_split RX3 2 (some .int) [] 0 0 0 0 := F
  obtain ⟨Q, hQ⟩ : ∃ Q, Q = MQx K g (pI (fun r9 M9 => nI (x0 / y0) = r9 ∧ M = M9)) nX 0 0 := ⟨_, rfl⟩
  rw [← hQ]
  refine x_iload_n F 1 dX3_split_0 rfl ?_
  refine x_iconst F (nI 1) dX3_split_1 (by decide) ?_
  refine x_icmp_ge F 9 dX3_split_2 (by decide) (fun c2 => ?_) (fun c2 => ?_)
  · have c2 := (nI_leI (by omega) (by omega)).mp c2
    have c2b := Nat.not_lt.mpr c2
    refine x_iload_n F 0 dX3_split_9 rfl ?_
    refine x_iload_n F 1 dX3_split_10 rfl ?_
    refine x_idivN F dX3_split_11 (by omega) (by omega) (by omega) ?_
    rw [hQ]
    exact x_iret F dX3_split_12 (by decide) ⟨_, rfl, by (first | rfl | (have h9 : y0 = 0 := (by omega); rw [h9, Nat.div_zero])), rfl⟩
  · have c2 := mt (nI_leI (by omega) (by omega)).mpr c2
    have c2b := Nat.not_le.mp c2
    refine x_iconst F (nI 0) dX3_split_5 (by decide) ?_
    refine x_goto F 12 dX3_split_6 (by decide) ?_
    rw [hQ]
    exact x_iret F dX3_split_12 (by decide) ⟨_, rfl, by (first | rfl | (have h9 : y0 = 0 := (by omega); rw [h9, Nat.div_zero])), rfl⟩
set_option maxHeartbeats 4000000 in
set_option maxRecDepth 100000 in
theorem c_X2_dayOf {l : Launch} (hl : l.stackTraces = false) {g : GP} {M : MM} {A : Nat → Nat} {M0 : MM} {σ : ST} {r p : Nat} (hR : CM g A M0 σ M) (hB : Bd σ) (hr : r < σ.1 18 0) : CT l g yX2_dayOf cX2_dayOf 2 (some .int) 0 0 0 0 [.ref (A (30 + r)), .int (nI (p))] M (pI (fun r9 M9 => nI (σ.1 10 r + p) = r9 ∧ M = M9)) nX := by
  refine ct_of [(0, .ref (A (30 + r))), (1, .int (nI (p)))] (by decide) hl (Nat.le_of_ble_eq_true rfl) rfl ?_
  intro K hK F
  subst hK
  have F : Fx K g cX2_dayOf RX2 2 (some .int) [] 0 0 0 0 := F
  obtain ⟨Q, hQ⟩ : ∃ Q, Q = MQx K g (pI (fun r9 M9 => nI (σ.1 10 r + p) = r9 ∧ M = M9)) nX 0 0 := ⟨_, rfl⟩
  rw [← hQ]
  have hB9 := hB
  obtain ⟨h6, h7, h18, hr8, hk96, hp96, hb16, hh⟩ := hB9
  refine x_aload_n F 0 dX2_dayOf_0 rfl ?_
  refine x_fget F f_X2_18 (hR.r (by omega : r < σ.1 18 0) (by omega)) (v := .int (nI (σ.1 10 r))) dX2_dayOf_1 rfl ?_
  refine x_iload_n F 1 dX2_dayOf_4 rfl ?_
  refine x_iaddN F dX2_dayOf_5 ?_
  rw [hQ]
  exact x_iret F dX2_dayOf_6 (by decide) ⟨_, rfl, rfl, rfl⟩
set_option maxHeartbeats 4000000 in
set_option maxRecDepth 100000 in
theorem c_X2_entryOf {l : Launch} (hl : l.stackTraces = false) {g : GP} {M : MM} {A : Nat → Nat} {M0 : MM} {σ : ST} {r j : Nat} (hR : CM g A M0 σ M) (hB : Bd σ) (hr : r < σ.1 18 0) (hj : j < 12) : CT l g yX2_entryOf cX2_entryOf 2 (some (.object "RankStock$Entry")) 0 0 0 0 [.ref (A (30 + r)), .int (nI (j))] M (pQ (fun r9 M9 => eO A σ r j = r9 ∧ M = M9)) nX := by
  refine ct_of [(0, .ref (A (30 + r))), (1, .int (nI (j)))] (by decide) hl (Nat.le_of_ble_eq_true rfl) rfl ?_
  intro K hK F
  subst hK
  have F : Fx K g cX2_entryOf RX2 2 (some (.object "RankStock$Entry")) [] 0 0 0 0 := F
  obtain ⟨Q, hQ⟩ : ∃ Q, Q = MQx K g (pQ (fun r9 M9 => eO A σ r j = r9 ∧ M = M9)) nX 0 0 := ⟨_, rfl⟩
  rw [← hQ]
  have hB9 := hB
  obtain ⟨h6, h7, h18, hr8, hk96, hp96, hb16, hh⟩ := hB9
  refine x_iload_n F 1 dX2_entryOf_0 rfl ?_
  refine x_if_lt F 22 dX2_entryOf_1 (by decide) (fun c1 => ?_) (fun c1 => ?_)
  · exact absurd c1 (nI_nn (by omega))
  · refine x_iload_n F 1 dX2_entryOf_4 rfl ?_
    refine x_aload_n F 0 dX2_entryOf_5 rfl ?_
    refine x_fget F f_X2_42 (hR.r (by omega : r < σ.1 18 0) (by omega)) (v := .ref (A (60 + r))) dX2_entryOf_6 rfl ?_
    refine x_alen F 4 (hR.y (by omega : r < σ.1 18 0) (by omega)) rfl (v := nI 12) rfl dX2_entryOf_9 ?_
    refine x_icmp_ge F 22 dX2_entryOf_10 (by decide) (fun c10 => ?_) (fun c10 => ?_)
    · have c10 := (nI_leI (by omega) (by omega)).mp c10
      have c10b := Nat.not_lt.mpr c10
      omega
    · have c10 := mt (nI_leI (by omega) (by omega)).mpr c10
      have c10b := Nat.not_le.mp c10
      refine x_aload_n F 0 dX2_entryOf_13 rfl ?_
      refine x_fget F f_X2_42 (hR.r (by omega : r < σ.1 18 0) (by omega)) (v := .ref (A (60 + r))) dX2_entryOf_14 rfl ?_
      refine x_iload_n F 1 dX2_entryOf_17 rfl ?_
      refine x_qald F 4 (hR.y (by omega : r < σ.1 18 0) (by omega)) rfl (vp_in_nI (by omega) (by omega)) dX2_entryOf_18 ?_
      refine x_rv0 (y := va_rf (eO A σ r j)) (by rw [nI_clamp (n := j) (by omega)]; unfold eO; simp [show j < 12 by omega]) ?_
      refine x_goto F 23 dX2_entryOf_19 (by decide) ?_
      rw [hQ]
      rcases ho : eO A σ r j with _ | y9
      · exact x_aretN F rfl (Or.inl ⟨_, rfl⟩) dX2_entryOf_23 (by decide) ⟨none, rfl, rfl, rfl⟩
      · exact x_aret F rfl (Or.inl ⟨_, rfl⟩) dX2_entryOf_23 (by decide) ⟨some y9, rfl, rfl, rfl⟩
set_option maxHeartbeats 4000000 in
set_option maxRecDepth 100000 in
theorem c_X1_isPlaced {l : Launch} (hl : l.stackTraces = false) {g : GP} {M : MM} {A : Nat → Nat} {M0 : MM} {σ : ST} {k : Nat} (hR : CM g A M0 σ M) (hB : Bd σ) (he : σ.1 41 k = 1) (hk : k < 96) : CT l g yX1_isPlaced cX1_isPlaced 1 (some .boolean) 0 0 0 0 [.ref (A (100 + k))] M (pI (fun r9 M9 => nI (bz (decide (¬ σ.2.1 22 k = -1))) = r9 ∧ M = M9)) nX := by
  refine ct_of [(0, .ref (A (100 + k)))] (by decide) hl (Nat.le_of_ble_eq_true rfl) rfl ?_
  intro K hK F
  subst hK
  have F : Fx K g cX1_isPlaced RX1 1 (some .boolean) [] 0 0 0 0 := F
  obtain ⟨Q, hQ⟩ : ∃ Q, Q = MQx K g (pI (fun r9 M9 => nI (bz (decide (¬ σ.2.1 22 k = -1))) = r9 ∧ M = M9)) nX 0 0 := ⟨_, rfl⟩
  rw [← hQ]
  have hB9 := hB
  obtain ⟨h6, h7, h18, hr8, hk96, hp96, hb16, hh⟩ := hB9
  refine x_aload_n F 0 dX1_isPlaced_0 rfl ?_
  refine x_fget F f_X1_21 (hR.e he (by omega)) (v := .int (σ.2.1 22 k)) dX1_isPlaced_1 rfl ?_
  refine x_iconst F ((-1)) dX1_isPlaced_4 (by decide) ?_
  refine x_icmp_eq F 12 dX1_isPlaced_5 (by decide) (fun c5 => ?_) (fun c5 => ?_)
  · refine x_iconst F (nI 0) dX1_isPlaced_12 (by decide) ?_
    rw [hQ]
    exact x_zret F dX1_isPlaced_13 (by decide) (Or.inl rfl) ⟨_, rfl, by simp [bz, *], rfl⟩
  · refine x_iconst F (nI 1) dX1_isPlaced_8 (by decide) ?_
    refine x_goto F 13 dX1_isPlaced_9 (by decide) ?_
    rw [hQ]
    exact x_zret F dX1_isPlaced_13 (by decide) (Or.inr rfl) ⟨_, rfl, by simp [bz, *], rfl⟩
set_option maxHeartbeats 4000000 in
set_option maxRecDepth 100000 in
theorem c_X2_countIn {l : Launch} (hl : l.stackTraces = false) {g : GP} {M : MM} {A : Nat → Nat} {M0 : MM} {σ : ST} {r : Nat} {v : Int32} (hR : CM g A M0 σ M) (hB : Bd σ) (hW : IW σ) (hr : r < σ.1 18 0) : CT l g yX2_countIn cX2_countIn 4 (some .int) 4 114 0 0 [.ref (A (30 + r)), .int (v)] M (pI (fun r9 M9 => nI (cIn σ r v) = r9 ∧ M = M9)) nX := by
  refine ct_of [(0, .ref (A (30 + r))), (1, .int (v))] (by decide) hl (Nat.le_of_ble_eq_true rfl) rfl ?_
  intro K hK F
  subst hK
  have F : Fx K g cX2_countIn RX2 4 (some .int) [] 4 114 0 0 := F
  obtain ⟨Q, hQ⟩ : ∃ Q, Q = MQx K g (pI (fun r9 M9 => nI (cIn σ r v) = r9 ∧ M = M9)) nX 0 0 := ⟨_, rfl⟩
  rw [← hQ]
  have hB9 := hB
  obtain ⟨h6, h7, h18, hr8, hk96, hp96, hb16, hh⟩ := hB9
  have b1 := hr8 r (by omega)
  refine x_iconst F (nI 0) dX2_countIn_0 (by decide) ?_
  refine x_istore_n F [(2, .int (nI (0))), (0, .ref (A (30 + r))), (1, .int (v))] dX2_countIn_1 (by decide) rfl ?_
  refine x_iconst F (nI 0) dX2_countIn_2 (by decide) ?_
  refine x_istore_n F [(3, .int (nI (0))), (2, .int (nI (0))), (0, .ref (A (30 + r))), (1, .int (v))] dX2_countIn_3 (by decide) rfl ?_
  have LP4 : ∀ i, i ≤ (σ.1 17 r) → ∀ (v4_2 : Int32) (v4_3 : Int32), v4_2 = nI (fb_ct (fun e => decide (σ.2.1 22 (12 * r + whS σ r e) = v)) i) → v4_3 = nI (i) → XW K g 4 Q M 0 0 4 [(3, .int (v4_3)), (2, .int (v4_2)), (0, .ref (A (30 + r))), (1, .int (v))] [] := by
    refine x_loop ((σ.1 17 r)) _ (fun i hi ihi => ?_)
    intro v4_2 v4_3 e4_2 e4_3
    subst e4_2
    subst e4_3
    refine x_iload_n F 0 dX2_countIn_4 rfl ?_
    refine x_aload_n F 2 dX2_countIn_5 rfl ?_
    refine x_fget F f_X2_36 (hR.r (by omega : r < σ.1 18 0) (by omega)) (v := .ref (A (40 + r))) dX2_countIn_6 rfl ?_
    refine x_callV F s_X2_56 (hR.l (by omega : r < σ.1 18 0) (by omega)) rfl rfl (c_lsize F.nt (hR.l (by omega : r < σ.1 18 0) (by omega))) rfl dX2_countIn_9 (by decide) (by decide) (Nat.le_of_ble_eq_true rfl) x_noX (ki fun r M2 hp => ?_)
    obtain ⟨rfl, rfl⟩ := hp
    refine x_icmp_ge F 42 dX2_countIn_12 (by decide) (fun c12 => ?_) (fun c12 => ?_)
    · have c12 := (nI_leI (by omega) (by omega)).mp c12
      have c12b := Nat.not_lt.mpr c12
      refine x_iload_n F 1 dX2_countIn_42 rfl ?_
      rw [hQ]
      exact x_iret F dX2_countIn_43 (by decide) ⟨_, rfl, by have h9 : i = σ.1 17 r := (by omega); rw [h9]; rfl, rfl⟩
    · have c12 := mt (nI_leI (by omega) (by omega)).mpr c12
      have c12b := Nat.not_le.mp c12
      refine x_aload_n F 2 dX2_countIn_15 rfl ?_
      refine x_fget F f_X2_36 (hR.r (by omega : r < σ.1 18 0) (by omega)) (v := .ref (A (40 + r))) dX2_countIn_16 rfl ?_
      refine x_iload_n F 0 dX2_countIn_19 rfl ?_
      refine x_callV F s_X2_60 (hR.l (by omega : r < σ.1 18 0) (by omega)) rfl rfl (c_lget F.nt (hR.l (by omega : r < σ.1 18 0) (by omega)) (fun h0 => hR.d (by omega : r < σ.1 18 0) (by omega) h0) (by omega : i < σ.1 17 r) (by omega : σ.1 17 r ≤ 22)) rfl dX2_countIn_20 (by decide) (by decide) (Nat.le_of_ble_eq_true rfl) x_noX (kr fun r_2 M2_2 hp_2 => ?_)
      obtain ⟨rfl, rfl⟩ := hp_2
      have w9 := (hW r (by omega : r < σ.1 18 0)).1 i (by omega : i < σ.1 17 r)
      refine x_rr0 (y := A (100 + (12 * r + whS σ r i))) (rfl) ?_
      refine x_cast F (hR.e w9.2 (by omega)) rfl l_X2_40 dX2_countIn_23 ?_
      refine x_fget F f_X2_64 (hR.e w9.2 (by omega)) (v := .int (σ.2.1 22 (12 * r + whS σ r i))) dX2_countIn_26 rfl ?_
      refine x_iload_n F 3 dX2_countIn_29 rfl ?_
      refine x_icmp_ne F 36 dX2_countIn_30 (by decide) (fun c30 => ?_) (fun c30 => ?_)
      · refine x_iinc F 0 [(3, .int (nI (i + 1))), (2, .int (nI (fb_ct (fun e => decide (σ.2.1 22 (12 * r + whS σ r e) = v)) i))), (0, .ref (A (30 + r))), (1, .int (v))] dX2_countIn_36 rfl (iincN (i) 1) (by decide) rfl ?_
        refine x_goto F 4 dX2_countIn_39 (by decide) ?_
        exact ihi (by omega) _ _ (by (first | rw [fb_ct_yes (decide_eq_true (Decidable.not_not.mp c30))] | rw [fb_ct_yes (decide_eq_true c30)] | rw [fb_ct_no (decide_eq_false c30)])) (rfl)
      · refine x_iinc F 1 [(2, .int (nI (fb_ct (fun e => decide (σ.2.1 22 (12 * r + whS σ r e) = v)) i + 1))), (3, .int (nI (i))), (0, .ref (A (30 + r))), (1, .int (v))] dX2_countIn_33 rfl (iincN (fb_ct (fun e => decide (σ.2.1 22 (12 * r + whS σ r e) = v)) i) 1) (by decide) rfl ?_
        refine x_iinc F 1 [(3, .int (nI (i + 1))), (2, .int (nI (fb_ct (fun e => decide (σ.2.1 22 (12 * r + whS σ r e) = v)) i + 1))), (0, .ref (A (30 + r))), (1, .int (v))] dX2_countIn_36 rfl (iincN (i) 1) (by decide) rfl ?_
        refine x_goto F 4 dX2_countIn_39 (by decide) ?_
        exact ihi (by omega) _ _ (by (first | rw [fb_ct_yes (decide_eq_true (Decidable.not_not.mp c30))] | rw [fb_ct_yes (decide_eq_true c30)] | rw [fb_ct_no (decide_eq_false c30)])) (rfl)
  exact LP4 0 (by omega) _ _ (rfl) (rfl)
set_option maxHeartbeats 4000000 in
set_option maxRecDepth 100000 in
theorem c_X2_countPlaced {l : Launch} (hl : l.stackTraces = false) {g : GP} {M : MM} {A : Nat → Nat} {M0 : MM} {σ : ST} {r : Nat} (hR : CM g A M0 σ M) (hB : Bd σ) (hW : IW σ) (hD : ID σ) (hr : r < σ.1 18 0) : CT l g yX2_countPlaced cX2_countPlaced 1 (some .int) 5 137 0 0 [.ref (A (30 + r))] M (pI (fun r9 M9 => nI (plIn σ r) = r9 ∧ M = M9)) nX := by
  refine ct_of [(0, .ref (A (30 + r)))] (by decide) hl (Nat.le_of_ble_eq_true rfl) rfl ?_
  intro K hK F
  subst hK
  have F : Fx K g cX2_countPlaced RX2 1 (some .int) [] 5 137 0 0 := F
  obtain ⟨Q, hQ⟩ : ∃ Q, Q = MQx K g (pI (fun r9 M9 => nI (plIn σ r) = r9 ∧ M = M9)) nX 0 0 := ⟨_, rfl⟩
  rw [← hQ]
  have hB9 := hB
  obtain ⟨h6, h7, h18, hr8, hk96, hp96, hb16, hh⟩ := hB9
  refine x_aload_n F 0 dX2_countPlaced_0 rfl ?_
  refine x_fget F f_X2_36 (hR.r (by omega : r < σ.1 18 0) (by omega)) (v := .ref (A (40 + r))) dX2_countPlaced_1 rfl ?_
  refine x_callV F s_X2_56 (hR.l (by omega : r < σ.1 18 0) (by omega)) rfl rfl (c_lsize F.nt (hR.l (by omega : r < σ.1 18 0) (by omega))) rfl dX2_countPlaced_4 (by decide) (by decide) (Nat.le_of_ble_eq_true rfl) x_noX (ki fun r M2 hp => ?_)
  obtain ⟨rfl, rfl⟩ := hp
  refine x_aload_n F 0 dX2_countPlaced_7 rfl ?_
  refine x_iconst F ((-1)) dX2_countPlaced_8 (by decide) ?_
  refine x_callV F s_X2_67 (hR.r (by omega : r < σ.1 18 0) (by omega)) rfl rfl (c_X2_countIn F.nt hR hB hW (by omega)) rfl dX2_countPlaced_9 (by decide) (by decide) (Nat.le_of_ble_eq_true rfl) x_noX (ki fun r_2 M2_2 hp_2 => ?_)
  obtain ⟨rfl, rfl⟩ := hp_2
  refine x_isubN F dX2_countPlaced_12 (cIn_le) ?_
  rw [hQ]
  exact x_iret F dX2_countPlaced_13 (by decide) ⟨_, rfl, congrArg nI (cIn_pl hW hD hr).symm, rfl⟩
set_option maxHeartbeats 4000000 in
set_option maxRecDepth 100000 in
theorem c_X2_pot {l : Launch} (hl : l.stackTraces = false) {g : GP} {M : MM} {A : Nat → Nat} {M0 : MM} {σ : ST} {r : Nat} (hR : CM g A M0 σ M) (hB : Bd σ) (hW : IW σ) (hD : ID σ) (hr : r < σ.1 18 0) : CT l g yX2_pot cX2_pot 1 (some .int) 6 157 0 0 [.ref (A (30 + r))] M (pI (fun r9 M9 => nI (potS σ r) = r9 ∧ M = M9)) nX := by
  refine ct_of [(0, .ref (A (30 + r)))] (by decide) hl (Nat.le_of_ble_eq_true rfl) rfl ?_
  intro K hK F
  subst hK
  have F : Fx K g cX2_pot RX2 1 (some .int) [] 6 157 0 0 := F
  obtain ⟨Q, hQ⟩ : ∃ Q, Q = MQx K g (pI (fun r9 M9 => nI (potS σ r) = r9 ∧ M = M9)) nX 0 0 := ⟨_, rfl⟩
  rw [← hQ]
  have hB9 := hB
  obtain ⟨h6, h7, h18, hr8, hk96, hp96, hb16, hh⟩ := hB9
  have b1 := hr8 r (by omega)
  refine x_aload_n F 0 dX2_pot_0 rfl ?_
  refine x_fget F f_X2_46 (hR.r (by omega : r < σ.1 18 0) (by omega)) (v := .int (nI (σ.1 15 r))) dX2_pot_1 rfl ?_
  refine x_if_ne F 11 dX2_pot_4 (by decide) (fun c4 => ?_) (fun c4 => ?_)
  · have c4 := mt (nI_z (by omega)).mpr c4
    refine x_aload_n F 0 dX2_pot_11 rfl ?_
    refine x_fget F f_X2_27 (hR.r (by omega : r < σ.1 18 0) (by omega)) (v := .int (nI (σ.1 13 r))) dX2_pot_12 rfl ?_
    refine x_aload_n F 0 dX2_pot_15 rfl ?_
    refine x_fget F f_X2_30 (hR.r (by omega : r < σ.1 18 0) (by omega)) (v := .int (nI (σ.1 14 r))) dX2_pot_16 rfl ?_
    refine x_aload_n F 0 dX2_pot_19 rfl ?_
    refine x_callV F s_X2_71 (hR.r (by omega : r < σ.1 18 0) (by omega)) rfl rfl (c_X2_countPlaced F.nt hR hB hW hD (by omega)) rfl dX2_pot_20 (by decide) (by decide) (Nat.le_of_ble_eq_true rfl) x_noX (ki fun r M2 hp => ?_)
    obtain ⟨rfl, rfl⟩ := hp
    refine x_imulN F dX2_pot_23 ?_
    refine x_iaddN F dX2_pot_24 ?_
    rw [hQ]
    exact x_iret F dX2_pot_25 (by decide) ⟨_, rfl, by simp [potS, *], rfl⟩
  · have c4 := (nI_z (by omega)).mp c4
    refine x_iconst F (nI 0) dX2_pot_7 (by decide) ?_
    refine x_goto F 25 dX2_pot_8 (by decide) ?_
    rw [hQ]
    exact x_iret F dX2_pot_25 (by decide) ⟨_, rfl, by simp [potS, *], rfl⟩
set_option maxHeartbeats 4000000 in
set_option maxRecDepth 100000 in
theorem c_X2_countCounting {l : Launch} (hl : l.stackTraces = false) {g : GP} {M : MM} {A : Nat → Nat} {M0 : MM} {σ : ST} {r : Nat} (hR : CM g A M0 σ M) (hB : Bd σ) (hW : IW σ) (hr : r < σ.1 18 0) : CT l g yX2_countCounting cX2_countCounting 3 (some .int) 4 114 0 0 [.ref (A (30 + r))] M (pI (fun r9 M9 => nI (ccN σ r) = r9 ∧ M = M9)) nX := by
  refine ct_of [(0, .ref (A (30 + r)))] (by decide) hl (Nat.le_of_ble_eq_true rfl) rfl ?_
  intro K hK F
  subst hK
  have F : Fx K g cX2_countCounting RX2 3 (some .int) [] 4 114 0 0 := F
  obtain ⟨Q, hQ⟩ : ∃ Q, Q = MQx K g (pI (fun r9 M9 => nI (ccN σ r) = r9 ∧ M = M9)) nX 0 0 := ⟨_, rfl⟩
  rw [← hQ]
  have hB9 := hB
  obtain ⟨h6, h7, h18, hr8, hk96, hp96, hb16, hh⟩ := hB9
  have b1 := hr8 r (by omega)
  refine x_iconst F (nI 0) dX2_countCounting_0 (by decide) ?_
  refine x_istore_n F [(1, .int (nI (0))), (0, .ref (A (30 + r)))] dX2_countCounting_1 (by decide) rfl ?_
  refine x_iconst F (nI 0) dX2_countCounting_2 (by decide) ?_
  refine x_istore_n F [(2, .int (nI (0))), (1, .int (nI (0))), (0, .ref (A (30 + r)))] dX2_countCounting_3 (by decide) rfl ?_
  have LP4 : ∀ i, i ≤ (σ.1 17 r) → ∀ (v4_1 : Int32) (v4_2 : Int32), v4_1 = nI (fb_ct (fun e => decide (¬ σ.1 27 (12 * r + whS σ r e) = 0)) i) → v4_2 = nI (i) → XW K g 3 Q M 0 0 4 [(2, .int (v4_2)), (1, .int (v4_1)), (0, .ref (A (30 + r)))] [] := by
    refine x_loop ((σ.1 17 r)) _ (fun i hi ihi => ?_)
    intro v4_1 v4_2 e4_1 e4_2
    subst e4_1
    subst e4_2
    refine x_iload_n F 0 dX2_countCounting_4 rfl ?_
    refine x_aload_n F 2 dX2_countCounting_5 rfl ?_
    refine x_fget F f_X2_36 (hR.r (by omega : r < σ.1 18 0) (by omega)) (v := .ref (A (40 + r))) dX2_countCounting_6 rfl ?_
    refine x_callV F s_X2_56 (hR.l (by omega : r < σ.1 18 0) (by omega)) rfl rfl (c_lsize F.nt (hR.l (by omega : r < σ.1 18 0) (by omega))) rfl dX2_countCounting_9 (by decide) (by decide) (Nat.le_of_ble_eq_true rfl) x_noX (ki fun r M2 hp => ?_)
    obtain ⟨rfl, rfl⟩ := hp
    refine x_icmp_ge F 41 dX2_countCounting_12 (by decide) (fun c12 => ?_) (fun c12 => ?_)
    · have c12 := (nI_leI (by omega) (by omega)).mp c12
      have c12b := Nat.not_lt.mpr c12
      refine x_iload_n F 1 dX2_countCounting_41 rfl ?_
      rw [hQ]
      exact x_iret F dX2_countCounting_42 (by decide) ⟨_, rfl, by have h9 : i = σ.1 17 r := (by omega); rw [h9]; rfl, rfl⟩
    · have c12 := mt (nI_leI (by omega) (by omega)).mpr c12
      have c12b := Nat.not_le.mp c12
      refine x_aload_n F 2 dX2_countCounting_15 rfl ?_
      refine x_fget F f_X2_36 (hR.r (by omega : r < σ.1 18 0) (by omega)) (v := .ref (A (40 + r))) dX2_countCounting_16 rfl ?_
      refine x_iload_n F 0 dX2_countCounting_19 rfl ?_
      refine x_callV F s_X2_60 (hR.l (by omega : r < σ.1 18 0) (by omega)) rfl rfl (c_lget F.nt (hR.l (by omega : r < σ.1 18 0) (by omega)) (fun h0 => hR.d (by omega : r < σ.1 18 0) (by omega) h0) (by omega : i < σ.1 17 r) (by omega : σ.1 17 r ≤ 22)) rfl dX2_countCounting_20 (by decide) (by decide) (Nat.le_of_ble_eq_true rfl) x_noX (kr fun r_2 M2_2 hp_2 => ?_)
      obtain ⟨rfl, rfl⟩ := hp_2
      have w9 := (hW r (by omega : r < σ.1 18 0)).1 i (by omega : i < σ.1 17 r)
      refine x_rr0 (y := A (100 + (12 * r + whS σ r i))) (rfl) ?_
      refine x_cast F (hR.e w9.2 (by omega)) rfl l_X2_40 dX2_countCounting_23 ?_
      refine x_fget F f_X2_81 (hR.e w9.2 (by omega)) (v := .int (nI (σ.1 27 (12 * r + whS σ r i)))) dX2_countCounting_26 rfl ?_
      refine x_if_eq F 35 dX2_countCounting_29 (by decide) (fun c29 => ?_) (fun c29 => ?_)
      · have c29 := (nI_z (by have := (hk96 (12 * r + whS σ r i) (by omega)); omega)).mp c29
        refine x_iinc F 0 [(2, .int (nI (i + 1))), (1, .int (nI (fb_ct (fun e => decide (¬ σ.1 27 (12 * r + whS σ r e) = 0)) i))), (0, .ref (A (30 + r)))] dX2_countCounting_35 rfl (iincN (i) 1) (by decide) rfl ?_
        refine x_goto F 4 dX2_countCounting_38 (by decide) ?_
        exact ihi (by omega) _ _ (by (first | rw [fb_ct_yes (decide_eq_true c29)] | rw [fb_ct_no (decide_eq_false (Decidable.not_not.mpr c29))])) (rfl)
      · have c29 := mt (nI_z (by have := (hk96 (12 * r + whS σ r i) (by omega)); omega)).mpr c29
        refine x_iinc F 1 [(1, .int (nI (fb_ct (fun e => decide (¬ σ.1 27 (12 * r + whS σ r e) = 0)) i + 1))), (2, .int (nI (i))), (0, .ref (A (30 + r)))] dX2_countCounting_32 rfl (iincN (fb_ct (fun e => decide (¬ σ.1 27 (12 * r + whS σ r e) = 0)) i) 1) (by decide) rfl ?_
        refine x_iinc F 1 [(2, .int (nI (i + 1))), (1, .int (nI (fb_ct (fun e => decide (¬ σ.1 27 (12 * r + whS σ r e) = 0)) i + 1))), (0, .ref (A (30 + r)))] dX2_countCounting_35 rfl (iincN (i) 1) (by decide) rfl ?_
        refine x_goto F 4 dX2_countCounting_38 (by decide) ?_
        exact ihi (by omega) _ _ (by (first | rw [fb_ct_yes (decide_eq_true c29)] | rw [fb_ct_no (decide_eq_false (Decidable.not_not.mpr c29))])) (rfl)
  exact LP4 0 (by omega) _ _ (rfl) (rfl)
set_option maxHeartbeats 4000000 in
set_option maxRecDepth 100000 in
theorem c_X2_canBePaid {l : Launch} (hl : l.stackTraces = false) {g : GP} {M : MM} {A : Nat → Nat} {M0 : MM} {σ : ST} {r : Nat} (hR : CM g A M0 σ M) (hB : Bd σ) (hW : IW σ) (hr : r < σ.1 18 0) : CT l g yX2_canBePaid cX2_canBePaid 3 (some .boolean) 4 114 0 0 [.ref (A (30 + r))] M (pI (fun r9 M9 => nI (bz (cbP σ r)) = r9 ∧ M = M9)) nX := by
  refine ct_of [(0, .ref (A (30 + r)))] (by decide) hl (Nat.le_of_ble_eq_true rfl) rfl ?_
  intro K hK F
  subst hK
  have F : Fx K g cX2_canBePaid RX2 3 (some .boolean) [] 4 114 0 0 := F
  obtain ⟨Q, hQ⟩ : ∃ Q, Q = MQx K g (pI (fun r9 M9 => nI (bz (cbP σ r)) = r9 ∧ M = M9)) nX 0 0 := ⟨_, rfl⟩
  rw [← hQ]
  have hB9 := hB
  obtain ⟨h6, h7, h18, hr8, hk96, hp96, hb16, hh⟩ := hB9
  have b1 := hr8 r (by omega)
  refine x_iconst F (nI 0) dX2_canBePaid_0 (by decide) ?_
  refine x_istore_n F [(1, .int (nI (0))), (0, .ref (A (30 + r)))] dX2_canBePaid_1 (by decide) rfl ?_
  have LP2 : ∀ i, i ≤ (σ.1 17 r) → ∀ (v2_1 : Int32), v2_1 = nI (i) → allB (fun e => decide (σ.1 24 (12 * r + whS σ r e) = 0) && decide (σ.1 26 (12 * r + whS σ r e) = 0)) i = true → XW K g 3 Q M 0 0 2 [(1, .int (v2_1)), (0, .ref (A (30 + r)))] [] := by
    refine x_loop ((σ.1 17 r)) _ (fun i hi ihi => ?_)
    intro v2_1 e2_1 hall
    subst e2_1
    refine x_iload_n F 0 dX2_canBePaid_2 rfl ?_
    refine x_aload_n F 1 dX2_canBePaid_3 rfl ?_
    refine x_fget F f_X2_36 (hR.r (by omega : r < σ.1 18 0) (by omega)) (v := .ref (A (40 + r))) dX2_canBePaid_4 rfl ?_
    refine x_callV F s_X2_56 (hR.l (by omega : r < σ.1 18 0) (by omega)) rfl rfl (c_lsize F.nt (hR.l (by omega : r < σ.1 18 0) (by omega))) rfl dX2_canBePaid_7 (by decide) (by decide) (Nat.le_of_ble_eq_true rfl) x_noX (ki fun r M2 hp => ?_)
    obtain ⟨rfl, rfl⟩ := hp
    refine x_icmp_ge F 47 dX2_canBePaid_10 (by decide) (fun c10 => ?_) (fun c10 => ?_)
    · have c10 := (nI_leI (by omega) (by omega)).mp c10
      have c10b := Nat.not_lt.mpr c10
      refine x_aload_n F 1 dX2_canBePaid_47 rfl ?_
      refine x_fget F f_X2_46 (hR.r (by omega : r < σ.1 18 0) (by omega)) (v := .int (nI (σ.1 15 r))) dX2_canBePaid_48 rfl ?_
      refine x_iconst F (nI 2) dX2_canBePaid_51 (by decide) ?_
      refine x_icmp_ne F 59 dX2_canBePaid_52 (by decide) (fun c52 => ?_) (fun c52 => ?_)
      · have c52 := mt (nI_eq (by omega) (by omega)).mpr c52
        refine x_iconst F (nI 0) dX2_canBePaid_59 (by decide) ?_
        rw [hQ]
        exact x_zret F dX2_canBePaid_60 (by decide) (Or.inl rfl) ⟨_, rfl, by (first | (rw [cbP_no (i := i) (by omega) (Or.inl c29)]; rfl) | (rw [cbP_no (i := i) (by omega) (Or.inr c36)]; rfl) | (have h9 : i = σ.1 17 r := (by omega); rw [h9] at hall; rw [cbP_yes hall]; simp [bz, *])), rfl⟩
      · have c52 := (nI_eq (by omega) (by omega)).mp c52
        refine x_iconst F (nI 1) dX2_canBePaid_55 (by decide) ?_
        refine x_goto F 60 dX2_canBePaid_56 (by decide) ?_
        rw [hQ]
        exact x_zret F dX2_canBePaid_60 (by decide) (Or.inr rfl) ⟨_, rfl, by (first | (rw [cbP_no (i := i) (by omega) (Or.inl c29)]; rfl) | (rw [cbP_no (i := i) (by omega) (Or.inr c36)]; rfl) | (have h9 : i = σ.1 17 r := (by omega); rw [h9] at hall; rw [cbP_yes hall]; simp [bz, *])), rfl⟩
    · have c10 := mt (nI_leI (by omega) (by omega)).mpr c10
      have c10b := Nat.not_le.mp c10
      refine x_aload_n F 1 dX2_canBePaid_13 rfl ?_
      refine x_fget F f_X2_36 (hR.r (by omega : r < σ.1 18 0) (by omega)) (v := .ref (A (40 + r))) dX2_canBePaid_14 rfl ?_
      refine x_iload_n F 0 dX2_canBePaid_17 rfl ?_
      refine x_callV F s_X2_60 (hR.l (by omega : r < σ.1 18 0) (by omega)) rfl rfl (c_lget F.nt (hR.l (by omega : r < σ.1 18 0) (by omega)) (fun h0 => hR.d (by omega : r < σ.1 18 0) (by omega) h0) (by omega : i < σ.1 17 r) (by omega : σ.1 17 r ≤ 22)) rfl dX2_canBePaid_18 (by decide) (by decide) (Nat.le_of_ble_eq_true rfl) x_noX (kr fun r_2 M2_2 hp_2 => ?_)
      obtain ⟨rfl, rfl⟩ := hp_2
      have w9 := (hW r (by omega : r < σ.1 18 0)).1 i (by omega : i < σ.1 17 r)
      refine x_rr0 (y := A (100 + (12 * r + whS σ r i))) (rfl) ?_
      refine x_cast F (hR.e w9.2 (by omega)) rfl l_X2_40 dX2_canBePaid_21 ?_
      refine x_astore_n F [(2, .ref (A (100 + (12 * r + whS σ r i)))), (1, .int (nI (i))), (0, .ref (A (30 + r)))] dX2_canBePaid_24 (by decide) rfl ?_
      refine x_aload_n F 0 dX2_canBePaid_25 rfl ?_
      refine x_fget F f_X2_74 (hR.e w9.2 (by omega)) (v := .int (nI (σ.1 24 (12 * r + whS σ r i)))) dX2_canBePaid_26 rfl ?_
      refine x_if_ne F 39 dX2_canBePaid_29 (by decide) (fun c29 => ?_) (fun c29 => ?_)
      · have c29 := mt (nI_z (by have := (hk96 (12 * r + whS σ r i) (by omega)); omega)).mpr c29
        refine x_iconst F (nI 0) dX2_canBePaid_39 (by decide) ?_
        rw [hQ]
        exact x_zret F dX2_canBePaid_40 (by decide) (Or.inl rfl) ⟨_, rfl, by (first | (rw [cbP_no (i := i) (by omega) (Or.inl c29)]; rfl) | (rw [cbP_no (i := i) (by omega) (Or.inr c36)]; rfl) | (have h9 : i = σ.1 17 r := (by omega); rw [h9] at hall; rw [cbP_yes hall]; simp [bz, *])), rfl⟩
      · have c29 := (nI_z (by have := (hk96 (12 * r + whS σ r i) (by omega)); omega)).mp c29
        refine x_aload_n F 0 dX2_canBePaid_32 rfl ?_
        refine x_fget F f_X2_78 (hR.e w9.2 (by omega)) (v := .int (nI (σ.1 26 (12 * r + whS σ r i)))) dX2_canBePaid_33 rfl ?_
        refine x_if_eq F 41 dX2_canBePaid_36 (by decide) (fun c36 => ?_) (fun c36 => ?_)
        · have c36 := (nI_z (by have := (hk96 (12 * r + whS σ r i) (by omega)); omega)).mp c36
          refine x_iinc F 1 [(1, .int (nI (i + 1))), (2, .ref (A (100 + (12 * r + whS σ r i)))), (0, .ref (A (30 + r)))] dX2_canBePaid_41 rfl (iincN (i) 1) (by decide) rfl ?_
          refine x_goto F 2 dX2_canBePaid_44 (by decide) ?_
          refine x_sub [0, 2] rfl (L' := [(1, .int (nI (i + 1))), (0, .ref (A (30 + r)))]) ?_
          exact ihi (by omega) _ (rfl) (by simp only [allB]; rw [hall, c29, c36]; rfl)
        · have c36 := mt (nI_z (by have := (hk96 (12 * r + whS σ r i) (by omega)); omega)).mpr c36
          refine x_iconst F (nI 0) dX2_canBePaid_39 (by decide) ?_
          rw [hQ]
          exact x_zret F dX2_canBePaid_40 (by decide) (Or.inl rfl) ⟨_, rfl, by (first | (rw [cbP_no (i := i) (by omega) (Or.inl c29)]; rfl) | (rw [cbP_no (i := i) (by omega) (Or.inr c36)]; rfl) | (have h9 : i = σ.1 17 r := (by omega); rw [h9] at hall; rw [cbP_yes hall]; simp [bz, *])), rfl⟩
  exact LP2 0 (by omega) _ (rfl) (rfl)
set_option maxHeartbeats 4000000 in
set_option maxRecDepth 100000 in
theorem c_X2_isEven {l : Launch} (hl : l.stackTraces = false) {g : GP} {M : MM} {A : Nat → Nat} {M0 : MM} {σ : ST} {r : Nat} (hR : CM g A M0 σ M) (hB : Bd σ) (hW : IW σ) (hD : ID σ) (hr : r < σ.1 18 0) : CT l g yX2_isEven cX2_isEven 3 (some .boolean) 7 177 0 0 [.ref (A (30 + r))] M (pI (fun r9 M9 => nI (bz (ieS σ r)) = r9 ∧ M = M9)) nX := by
  refine ct_of [(0, .ref (A (30 + r)))] (by decide) hl (Nat.le_of_ble_eq_true rfl) rfl ?_
  intro K hK F
  subst hK
  have F : Fx K g cX2_isEven RX2 3 (some .boolean) [] 7 177 0 0 := F
  obtain ⟨Q, hQ⟩ : ∃ Q, Q = MQx K g (pI (fun r9 M9 => nI (bz (ieS σ r)) = r9 ∧ M = M9)) nX 0 0 := ⟨_, rfl⟩
  rw [← hQ]
  have hB9 := hB
  obtain ⟨h6, h7, h18, hr8, hk96, hp96, hb16, hh⟩ := hB9
  have b1 := hr8 r (by omega)
  refine x_aload_n F 0 dX2_isEven_0 rfl ?_
  refine x_fget F f_X2_111 (hR.r (by omega : r < σ.1 18 0) (by omega)) (v := .int (σ.2.1 16 r)) dX2_isEven_1 rfl ?_
  refine x_istore_n F [(1, .int (σ.2.1 16 r)), (0, .ref (A (30 + r)))] dX2_isEven_4 (by decide) rfl ?_
  refine x_iconst F (nI 0) dX2_isEven_5 (by decide) ?_
  refine x_istore_n F [(2, .int (nI (0))), (1, .int (σ.2.1 16 r)), (0, .ref (A (30 + r)))] dX2_isEven_6 (by decide) rfl ?_
  have LP7 : ∀ i, i ≤ (σ.1 17 r) → ∀ (v7_1 : Int32) (v7_2 : Int32), v7_1 = smE σ r i → v7_2 = nI (i) → XW K g 3 Q M 0 0 7 [(2, .int (v7_2)), (1, .int (v7_1)), (0, .ref (A (30 + r)))] [] := by
    refine x_loop ((σ.1 17 r)) _ (fun i hi ihi => ?_)
    intro v7_1 v7_2 e7_1 e7_2
    subst e7_1
    subst e7_2
    refine x_iload_n F 0 dX2_isEven_7 rfl ?_
    refine x_aload_n F 2 dX2_isEven_8 rfl ?_
    refine x_fget F f_X2_36 (hR.r (by omega : r < σ.1 18 0) (by omega)) (v := .ref (A (40 + r))) dX2_isEven_9 rfl ?_
    refine x_callV F s_X2_56 (hR.l (by omega : r < σ.1 18 0) (by omega)) rfl rfl (c_lsize F.nt (hR.l (by omega : r < σ.1 18 0) (by omega))) rfl dX2_isEven_12 (by decide) (by decide) (Nat.le_of_ble_eq_true rfl) x_noX (ki fun r M2 hp => ?_)
    obtain ⟨rfl, rfl⟩ := hp
    refine x_icmp_ge F 41 dX2_isEven_15 (by decide) (fun c15 => ?_) (fun c15 => ?_)
    · have c15 := (nI_leI (by omega) (by omega)).mp c15
      have c15b := Nat.not_lt.mpr c15
      refine x_aload_n F 2 dX2_isEven_41 rfl ?_
      refine x_fget F f_X2_46 (hR.r (by omega : r < σ.1 18 0) (by omega)) (v := .int (nI (σ.1 15 r))) dX2_isEven_42 rfl ?_
      refine x_iconst F (nI 3) dX2_isEven_45 (by decide) ?_
      refine x_icmp_ne F 57 dX2_isEven_46 (by decide) (fun c46 => ?_) (fun c46 => ?_)
      · have c46 := mt (nI_eq (by omega) (by omega)).mpr c46
        refine x_iconst F (nI 1) dX2_isEven_57 (by decide) ?_
        refine x_goto F 62 dX2_isEven_58 (by decide) ?_
        rw [hQ]
        exact x_zret F dX2_isEven_62 (by decide) (Or.inr rfl) ⟨_, rfl, by have h9 : i = σ.1 17 r := (by omega); subst h9; simp [ieS, bz, *], rfl⟩
      · have c46 := (nI_eq (by omega) (by omega)).mp c46
        refine x_iload_n F 1 dX2_isEven_49 rfl ?_
        refine x_aload_n F 2 dX2_isEven_50 rfl ?_
        refine x_callV F s_X2_84 (hR.r (by omega : r < σ.1 18 0) (by omega)) rfl rfl (c_X2_pot F.nt hR hB hW hD (by omega)) rfl dX2_isEven_51 (by decide) (by decide) (Nat.le_of_ble_eq_true rfl) x_noX (ki fun r_2 M2_2 hp_2 => ?_)
        obtain ⟨rfl, rfl⟩ := hp_2
        refine x_icmp_ne F 61 dX2_isEven_54 (by decide) (fun c54 => ?_) (fun c54 => ?_)
        · refine x_iconst F (nI 0) dX2_isEven_61 (by decide) ?_
          rw [hQ]
          exact x_zret F dX2_isEven_62 (by decide) (Or.inl rfl) ⟨_, rfl, by have h9 : i = σ.1 17 r := (by omega); subst h9; simp [ieS, bz, *], rfl⟩
        · refine x_iconst F (nI 1) dX2_isEven_57 (by decide) ?_
          refine x_goto F 62 dX2_isEven_58 (by decide) ?_
          rw [hQ]
          exact x_zret F dX2_isEven_62 (by decide) (Or.inr rfl) ⟨_, rfl, by have h9 : i = σ.1 17 r := (by omega); subst h9; simp [ieS, bz, *], rfl⟩
    · have c15 := mt (nI_leI (by omega) (by omega)).mpr c15
      have c15b := Nat.not_le.mp c15
      refine x_iload_n F 1 dX2_isEven_18 rfl ?_
      refine x_aload_n F 2 dX2_isEven_19 rfl ?_
      refine x_fget F f_X2_36 (hR.r (by omega : r < σ.1 18 0) (by omega)) (v := .ref (A (40 + r))) dX2_isEven_20 rfl ?_
      refine x_iload_n F 0 dX2_isEven_23 rfl ?_
      refine x_callV F s_X2_60 (hR.l (by omega : r < σ.1 18 0) (by omega)) rfl rfl (c_lget F.nt (hR.l (by omega : r < σ.1 18 0) (by omega)) (fun h0 => hR.d (by omega : r < σ.1 18 0) (by omega) h0) (by omega : i < σ.1 17 r) (by omega : σ.1 17 r ≤ 22)) rfl dX2_isEven_24 (by decide) (by decide) (Nat.le_of_ble_eq_true rfl) x_noX (kr fun r_3 M2_3 hp_3 => ?_)
      obtain ⟨rfl, rfl⟩ := hp_3
      have w9 := (hW r (by omega : r < σ.1 18 0)).1 i (by omega : i < σ.1 17 r)
      refine x_rr0 (y := A (100 + (12 * r + whS σ r i))) (rfl) ?_
      refine x_cast F (hR.e w9.2 (by omega)) rfl l_X2_40 dX2_isEven_27 ?_
      refine x_fget F f_X2_108 (hR.e w9.2 (by omega)) (v := .int (nI (σ.1 29 (12 * r + whS σ r i)))) dX2_isEven_30 rfl ?_
      refine x_iadd F dX2_isEven_33 ?_
      refine x_istore_n F [(1, .int ((smE σ r i) + (nI (σ.1 29 (12 * r + whS σ r i))))), (2, .int (nI (i))), (0, .ref (A (30 + r)))] dX2_isEven_34 (by decide) rfl ?_
      refine x_iinc F 1 [(2, .int (nI (i + 1))), (1, .int ((smE σ r i) + (nI (σ.1 29 (12 * r + whS σ r i))))), (0, .ref (A (30 + r)))] dX2_isEven_35 rfl (iincN (i) 1) (by decide) rfl ?_
      refine x_goto F 7 dX2_isEven_38 (by decide) ?_
      exact ihi (by omega) _ _ (rfl) (rfl)
  exact LP7 0 (by omega) _ _ (rfl) (rfl)
