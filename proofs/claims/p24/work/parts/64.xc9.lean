/-! the calls that only ask -/
def xp1 (E : String) (c : Nat) (s1 : String) : Prop := E = s1 ∧ c = 1
def xp2 (E : String) (c : Nat) (s1 s2 : String) : Prop := (E = s1 ∧ c = 1) ∨ (E = s2 ∧ c = 2)
def xp3 (E : String) (c : Nat) (s1 s2 s3 : String) : Prop := (E = s1 ∧ c = 1) ∨ (E = s2 ∧ c = 2) ∨ (E = s3 ∧ c = 3)
theorem tell_no {y0 : Int32} (h0 : ¬ y0 = 0) (h1 : ¬ y0 = 1) (h2 : ¬ y0 = 2) (h3 : ¬ y0 = 3) (h4 : ¬ y0 = 4) : inR y0 (nI 0) (nI 4) = false := by
  cases c : inR y0 (nI 0) (nI 4) with
  | false => rfl
  | true =>
    obtain ⟨j, h5, h6, rfl⟩ := inR_t (by decide) (by decide) c
    have : j = 0 ∨ j = 1 ∨ j = 2 ∨ j = 3 ∨ j = 4 := by omega
    rcases this with rfl | rfl | rfl | rfl | rfl
    · exact absurd rfl h0
    · exact absurd rfl h1
    · exact absurd rfl h2
    · exact absurd rfl h3
    · exact absurd rfl h4
theorem tell_out {y0 : Int32} (h : inR y0 (nI 0) (nI 4) = false) : y0.toInt < 0 ∨ 4 < y0.toInt := by
  unfold inR at h
  rcases Int.lt_or_le y0.toInt 0 with h1 | h1
  · exact Or.inl h1
  · rcases Int.lt_or_le 4 y0.toInt with h2 | h2
    · exact Or.inr h2
    · exfalso
      have e0 : (nI 0).toInt = 0 := by decide
      have e4 : (nI 4).toInt = 4 := by decide
      rw [decide_eq_true (Int32.le_iff_toInt_le.mpr (by rw [e0]; exact h1)), decide_eq_true (Int32.le_iff_toInt_le.mpr (by rw [e4]; exact h2))] at h
      cases h
def cutV (σ : ST) (r st9 : Nat) : Nat := σ.1 12 r * pc4 st9 + cwoS σ r st9
def lstS (σ : ST) (r : Nat) : Nat → Nat
  | 0 => σ.1 17 r
  | i + 1 => if cutV σ r i < lstS σ r i then cutV σ r i else lstS σ r i
theorem lstS_le {σ : ST} {r : Nat} : ∀ i, lstS σ r i ≤ σ.1 17 r
  | 0 => Nat.le_refl _
  | i + 1 => by
    have := lstS_le (σ := σ) (r := r) i
    simp only [lstS]
    split <;> omega
theorem p2_16 {p : Nat} (h : p ≤ 4) : 2 ^ p ≤ 16 := by
  have : p = 0 ∨ p = 1 ∨ p = 2 ∨ p = 3 ∨ p = 4 := by omega
  rcases this with rfl | rfl | rfl | rfl | rfl <;> decide
theorem shl_p {p : Nat} (h : p ≤ 4) : nI 1 <<< (nI p &&& 31) = nI (2 ^ p) := by
  have : p = 0 ∨ p = 1 ∨ p = 2 ∨ p = 3 ∨ p = 4 := by omega
  rcases this with rfl | rfl | rfl | rfl | rfl <;> decide
theorem mn_min {x0 y0 : Nat} (hx : x0 < 2 ^ 31) (hy : y0 < 2 ^ 31) : (if nI y0 < nI x0 then nI y0 else nI x0) = nI (if y0 < x0 then y0 else x0) := by
  by_cases h : y0 < x0
  · rw [if_pos ((nI_ltI hy hx).mpr h), if_pos h]
  · rw [if_neg (mt (nI_ltI hy hx).mp h), if_neg h]
set_option maxHeartbeats 4000000 in
set_option maxRecDepth 100000 in
theorem c_X3_placed {l : Launch} (hl : l.stackTraces = false) {g : GP} {M : MM} {A : Nat → Nat} {M0 : MM} {σ : ST} {x0 y0 : Int32} (hR : CM g A M0 σ M) (hB : Bd σ) (hD : ID σ) : CT l g yX3_placed cX3_placed 4 (some .int) 8 158 2 12 [.ref (A 0), .int (x0), .int (y0)] M (pI (fun r9 M9 => cdRR σ x0 y0 = 0 ∧ σ.2.1 22 (12 * cl x0 + cl y0) = r9 ∧ M = M9)) (fun E M9 => M = M9 ∧ xp1 E (cdRR σ x0 y0) sIO) := by
  refine ct_of [(0, .ref (A 0)), (1, .int (x0)), (2, .int (y0))] (by decide) hl (Nat.le_of_ble_eq_true rfl) rfl ?_
  intro K hK F
  subst hK
  have F : Fx K g cX3_placed RX3 4 (some .int) [] 8 158 2 12 := F
  obtain ⟨Q, hQ⟩ : ∃ Q, Q = MQx K g (pI (fun r9 M9 => cdRR σ x0 y0 = 0 ∧ σ.2.1 22 (12 * cl x0 + cl y0) = r9 ∧ M = M9)) ((fun E M9 => M = M9 ∧ xp1 E (cdRR σ x0 y0) sIO)) 2 12 := ⟨_, rfl⟩
  rw [← hQ]
  have hB9 := hB
  obtain ⟨h6, h7, h18, hr8, hk96, hp96, hb16, hh⟩ := hB9
  refine x_aload_n F 0 dX3_placed_0 rfl ?_
  refine x_iload_n F 1 dX3_placed_1 rfl ?_
  refine x_iload_n F 2 dX3_placed_2 rfl ?_
  rw [hQ]
  refine x_callV F s_X3_96 hR.c rfl rfl (c_X3_entryAt F.nt hR hB) rfl dX3_placed_3 (by decide) (by decide) (Nat.le_of_ble_eq_true rfl) (x_outX F (by decide) (by rintro E M9 ⟨k1, k2, k3⟩; exact ⟨k3, (⟨k1, (if_neg (by rw [k2]; exact Bool.false_ne_true))⟩)⟩)) (kq fun r9 M9 hp9 => ?_)
  rw [← hQ]
  obtain ⟨hin9, rfl, rfl⟩ := hp9
  have hin8 := Bool.and_eq_true_iff.mp hin9
  have hcd : cdRR σ x0 y0 = 0 := if_pos hin9
  obtain ⟨r, hr, rfl⟩ := inN_t (by omega) hin8.1
  obtain ⟨j, hj7, rfl⟩ := inN_t (by omega) hin8.2
  have hj : j < 12 := by omega
  rw [cl_nI (n := r) (by omega), cl_nI (n := j) (by omega)]
  by_cases h41 : σ.1 41 (12 * r + j) = 1
  · refine x_rv0 (y := .ref (A (100 + (12 * r + j)))) (eO_t h41) ?_
    refine x_astore_n F [(3, .ref (A (100 + (12 * r + j)))), (0, .ref (A 0)), (1, .int (nI (r))), (2, .int (nI (j)))] dX3_placed_6 (by decide) rfl ?_
    refine x_aload_n F 0 dX3_placed_7 rfl ?_
    refine x_ifnonnull F 15 dX3_placed_8 (by decide) ?_
    refine x_aload_n F 0 dX3_placed_15 rfl ?_
    refine x_fget F f_X3_132 (hR.e h41 (by omega)) (v := .int (σ.2.1 22 (12 * r + j))) dX3_placed_16 rfl ?_
    rw [hQ]
    exact x_iret F dX3_placed_19 (by decide) ⟨_, rfl, hcd, (by rw [cl_nI (n := r) (by omega), cl_nI (n := j) (by omega)] <;> (first | rfl | exact (hD r j hr hj h41).1.1)), rfl⟩
  · refine x_rv0 (y := .null) (eO_f h41) ?_
    refine x_astore_nN F [(3, .null), (0, .ref (A 0)), (1, .int (nI (r))), (2, .int (nI (j)))] dX3_placed_6 (by decide) rfl ?_
    refine x_aload_nN F 0 dX3_placed_7 rfl ?_
    refine x_ifnonnullN F dX3_placed_8 ?_
    refine x_iconst F ((-1)) dX3_placed_11 (by decide) ?_
    refine x_goto F 19 dX3_placed_12 (by decide) ?_
    rw [hQ]
    exact x_iret F dX3_placed_19 (by decide) ⟨_, rfl, hcd, (by rw [cl_nI (n := r) (by omega), cl_nI (n := j) (by omega)] <;> (first | rfl | exact (hD r j hr hj h41).1.1)), rfl⟩
set_option maxHeartbeats 4000000 in
set_option maxRecDepth 100000 in
theorem c_X3_score {l : Launch} (hl : l.stackTraces = false) {g : GP} {M : MM} {A : Nat → Nat} {M0 : MM} {σ : ST} {x0 y0 : Int32} (hR : CM g A M0 σ M) (hB : Bd σ) (hD : ID σ) : CT l g yX3_score cX3_score 4 (some .int) 8 158 2 12 [.ref (A 0), .int (x0), .int (y0)] M (pI (fun r9 M9 => cdRR σ x0 y0 = 0 ∧ σ.2.1 28 (12 * cl x0 + cl y0) = r9 ∧ M = M9)) (fun E M9 => M = M9 ∧ xp1 E (cdRR σ x0 y0) sIO) := by
  refine ct_of [(0, .ref (A 0)), (1, .int (x0)), (2, .int (y0))] (by decide) hl (Nat.le_of_ble_eq_true rfl) rfl ?_
  intro K hK F
  subst hK
  have F : Fx K g cX3_score RX3 4 (some .int) [] 8 158 2 12 := F
  obtain ⟨Q, hQ⟩ : ∃ Q, Q = MQx K g (pI (fun r9 M9 => cdRR σ x0 y0 = 0 ∧ σ.2.1 28 (12 * cl x0 + cl y0) = r9 ∧ M = M9)) ((fun E M9 => M = M9 ∧ xp1 E (cdRR σ x0 y0) sIO)) 2 12 := ⟨_, rfl⟩
  rw [← hQ]
  have hB9 := hB
  obtain ⟨h6, h7, h18, hr8, hk96, hp96, hb16, hh⟩ := hB9
  refine x_aload_n F 0 dX3_score_0 rfl ?_
  refine x_iload_n F 1 dX3_score_1 rfl ?_
  refine x_iload_n F 2 dX3_score_2 rfl ?_
  rw [hQ]
  refine x_callV F s_X3_96 hR.c rfl rfl (c_X3_entryAt F.nt hR hB) rfl dX3_score_3 (by decide) (by decide) (Nat.le_of_ble_eq_true rfl) (x_outX F (by decide) (by rintro E M9 ⟨k1, k2, k3⟩; exact ⟨k3, (⟨k1, (if_neg (by rw [k2]; exact Bool.false_ne_true))⟩)⟩)) (kq fun r9 M9 hp9 => ?_)
  rw [← hQ]
  obtain ⟨hin9, rfl, rfl⟩ := hp9
  have hin8 := Bool.and_eq_true_iff.mp hin9
  have hcd : cdRR σ x0 y0 = 0 := if_pos hin9
  obtain ⟨r, hr, rfl⟩ := inN_t (by omega) hin8.1
  obtain ⟨j, hj7, rfl⟩ := inN_t (by omega) hin8.2
  have hj : j < 12 := by omega
  rw [cl_nI (n := r) (by omega), cl_nI (n := j) (by omega)]
  by_cases h41 : σ.1 41 (12 * r + j) = 1
  · refine x_rv0 (y := .ref (A (100 + (12 * r + j)))) (eO_t h41) ?_
    refine x_astore_n F [(3, .ref (A (100 + (12 * r + j)))), (0, .ref (A 0)), (1, .int (nI (r))), (2, .int (nI (j)))] dX3_score_6 (by decide) rfl ?_
    refine x_aload_n F 0 dX3_score_7 rfl ?_
    refine x_ifnonnull F 15 dX3_score_8 (by decide) ?_
    refine x_aload_n F 0 dX3_score_15 rfl ?_
    refine x_fget F f_X3_182 (hR.e h41 (by omega)) (v := .int (σ.2.1 28 (12 * r + j))) dX3_score_16 rfl ?_
    rw [hQ]
    exact x_iret F dX3_score_19 (by decide) ⟨_, rfl, hcd, (by rw [cl_nI (n := r) (by omega), cl_nI (n := j) (by omega)] <;> (first | rfl | exact (hD r j hr hj h41).1.2.2)), rfl⟩
  · refine x_rv0 (y := .null) (eO_f h41) ?_
    refine x_astore_nN F [(3, .null), (0, .ref (A 0)), (1, .int (nI (r))), (2, .int (nI (j)))] dX3_score_6 (by decide) rfl ?_
    refine x_aload_nN F 0 dX3_score_7 rfl ?_
    refine x_ifnonnullN F dX3_score_8 ?_
    refine x_iconst F ((-1)) dX3_score_11 (by decide) ?_
    refine x_goto F 19 dX3_score_12 (by decide) ?_
    rw [hQ]
    exact x_iret F dX3_score_19 (by decide) ⟨_, rfl, hcd, (by rw [cl_nI (n := r) (by omega), cl_nI (n := j) (by omega)] <;> (first | rfl | exact (hD r j hr hj h41).1.2.2)), rfl⟩
set_option maxHeartbeats 4000000 in
set_option maxRecDepth 100000 in
theorem c_X3_drawn {l : Launch} (hl : l.stackTraces = false) {g : GP} {M : MM} {A : Nat → Nat} {M0 : MM} {σ : ST} {x0 y0 : Int32} (hR : CM g A M0 σ M) (hB : Bd σ) (hD : ID σ) (hbs : IBe σ) : CT l g yX3_drawn cX3_drawn 4 (some .int) 8 158 2 12 [.ref (A 0), .int (x0), .int (y0)] M (pI (fun r9 M9 => cdRR σ x0 y0 = 0 ∧ σ.2.1 23 (12 * cl x0 + cl y0) = r9 ∧ M = M9)) (fun E M9 => M = M9 ∧ xp1 E (cdRR σ x0 y0) sIO) := by
  refine ct_of [(0, .ref (A 0)), (1, .int (x0)), (2, .int (y0))] (by decide) hl (Nat.le_of_ble_eq_true rfl) rfl ?_
  intro K hK F
  subst hK
  have F : Fx K g cX3_drawn RX3 4 (some .int) [] 8 158 2 12 := F
  obtain ⟨Q, hQ⟩ : ∃ Q, Q = MQx K g (pI (fun r9 M9 => cdRR σ x0 y0 = 0 ∧ σ.2.1 23 (12 * cl x0 + cl y0) = r9 ∧ M = M9)) ((fun E M9 => M = M9 ∧ xp1 E (cdRR σ x0 y0) sIO)) 2 12 := ⟨_, rfl⟩
  rw [← hQ]
  have hB9 := hB
  obtain ⟨h6, h7, h18, hr8, hk96, hp96, hb16, hh⟩ := hB9
  refine x_aload_n F 0 dX3_drawn_0 rfl ?_
  refine x_iload_n F 1 dX3_drawn_1 rfl ?_
  refine x_iload_n F 2 dX3_drawn_2 rfl ?_
  rw [hQ]
  refine x_callV F s_X3_96 hR.c rfl rfl (c_X3_entryAt F.nt hR hB) rfl dX3_drawn_3 (by decide) (by decide) (Nat.le_of_ble_eq_true rfl) (x_outX F (by decide) (by rintro E M9 ⟨k1, k2, k3⟩; exact ⟨k3, (⟨k1, (if_neg (by rw [k2]; exact Bool.false_ne_true))⟩)⟩)) (kq fun r9 M9 hp9 => ?_)
  rw [← hQ]
  obtain ⟨hin9, rfl, rfl⟩ := hp9
  have hin8 := Bool.and_eq_true_iff.mp hin9
  have hcd : cdRR σ x0 y0 = 0 := if_pos hin9
  obtain ⟨r, hr, rfl⟩ := inN_t (by omega) hin8.1
  obtain ⟨j, hj7, rfl⟩ := inN_t (by omega) hin8.2
  have hj : j < 12 := by omega
  rw [cl_nI (n := r) (by omega), cl_nI (n := j) (by omega)]
  by_cases h41 : σ.1 41 (12 * r + j) = 1
  · refine x_rv0 (y := .ref (A (100 + (12 * r + j)))) (eO_t h41) ?_
    refine x_astore_n F [(3, .ref (A (100 + (12 * r + j)))), (0, .ref (A 0)), (1, .int (nI (r))), (2, .int (nI (j)))] dX3_drawn_6 (by decide) rfl ?_
    refine x_aload_n F 0 dX3_drawn_7 rfl ?_
    refine x_ifnonnull F 15 dX3_drawn_8 (by decide) ?_
    refine x_aload_n F 0 dX3_drawn_15 rfl ?_
    refine x_callV F s_X3_162 (hR.e h41 (by omega)) rfl rfl (c_X1_beastNumber F.nt hR hB hbs (h41) (by omega)) rfl dX3_drawn_16 (by decide) (by decide) (Nat.le_of_ble_eq_true rfl) x_noX (ki fun r_2 M2_2 hp_2 => ?_)
    obtain ⟨rfl, rfl⟩ := hp_2
    rw [hQ]
    exact x_iret F dX3_drawn_19 (by decide) ⟨_, rfl, hcd, (by rw [cl_nI (n := r) (by omega), cl_nI (n := j) (by omega)] <;> (first | rfl | exact (hD r j hr hj h41).1.2.1)), rfl⟩
  · refine x_rv0 (y := .null) (eO_f h41) ?_
    refine x_astore_nN F [(3, .null), (0, .ref (A 0)), (1, .int (nI (r))), (2, .int (nI (j)))] dX3_drawn_6 (by decide) rfl ?_
    refine x_aload_nN F 0 dX3_drawn_7 rfl ?_
    refine x_ifnonnullN F dX3_drawn_8 ?_
    refine x_iconst F ((-1)) dX3_drawn_11 (by decide) ?_
    refine x_goto F 19 dX3_drawn_12 (by decide) ?_
    rw [hQ]
    exact x_iret F dX3_drawn_19 (by decide) ⟨_, rfl, hcd, (by rw [cl_nI (n := r) (by omega), cl_nI (n := j) (by omega)] <;> (first | rfl | exact (hD r j hr hj h41).1.2.1)), rfl⟩
set_option maxHeartbeats 4000000 in
set_option maxRecDepth 100000 in
theorem c_X3_got {l : Launch} (hl : l.stackTraces = false) {g : GP} {M : MM} {A : Nat → Nat} {M0 : MM} {σ : ST} {x0 y0 : Int32} (hR : CM g A M0 σ M) (hB : Bd σ) (hD : ID σ) : CT l g yX3_got cX3_got 4 (some .int) 8 158 2 12 [.ref (A 0), .int (x0), .int (y0)] M (pI (fun r9 M9 => cdRR σ x0 y0 = 0 ∧ nI (σ.1 29 (12 * cl x0 + cl y0)) = r9 ∧ M = M9)) (fun E M9 => M = M9 ∧ xp1 E (cdRR σ x0 y0) sIO) := by
  refine ct_of [(0, .ref (A 0)), (1, .int (x0)), (2, .int (y0))] (by decide) hl (Nat.le_of_ble_eq_true rfl) rfl ?_
  intro K hK F
  subst hK
  have F : Fx K g cX3_got RX3 4 (some .int) [] 8 158 2 12 := F
  obtain ⟨Q, hQ⟩ : ∃ Q, Q = MQx K g (pI (fun r9 M9 => cdRR σ x0 y0 = 0 ∧ nI (σ.1 29 (12 * cl x0 + cl y0)) = r9 ∧ M = M9)) ((fun E M9 => M = M9 ∧ xp1 E (cdRR σ x0 y0) sIO)) 2 12 := ⟨_, rfl⟩
  rw [← hQ]
  have hB9 := hB
  obtain ⟨h6, h7, h18, hr8, hk96, hp96, hb16, hh⟩ := hB9
  refine x_aload_n F 0 dX3_got_0 rfl ?_
  refine x_iload_n F 1 dX3_got_1 rfl ?_
  refine x_iload_n F 2 dX3_got_2 rfl ?_
  rw [hQ]
  refine x_callV F s_X3_96 hR.c rfl rfl (c_X3_entryAt F.nt hR hB) rfl dX3_got_3 (by decide) (by decide) (Nat.le_of_ble_eq_true rfl) (x_outX F (by decide) (by rintro E M9 ⟨k1, k2, k3⟩; exact ⟨k3, (⟨k1, (if_neg (by rw [k2]; exact Bool.false_ne_true))⟩)⟩)) (kq fun r9 M9 hp9 => ?_)
  rw [← hQ]
  obtain ⟨hin9, rfl, rfl⟩ := hp9
  have hin8 := Bool.and_eq_true_iff.mp hin9
  have hcd : cdRR σ x0 y0 = 0 := if_pos hin9
  obtain ⟨r, hr, rfl⟩ := inN_t (by omega) hin8.1
  obtain ⟨j, hj7, rfl⟩ := inN_t (by omega) hin8.2
  have hj : j < 12 := by omega
  rw [cl_nI (n := r) (by omega), cl_nI (n := j) (by omega)]
  by_cases h41 : σ.1 41 (12 * r + j) = 1
  · refine x_rv0 (y := .ref (A (100 + (12 * r + j)))) (eO_t h41) ?_
    refine x_astore_n F [(3, .ref (A (100 + (12 * r + j)))), (0, .ref (A 0)), (1, .int (nI (r))), (2, .int (nI (j)))] dX3_got_6 (by decide) rfl ?_
    refine x_aload_n F 0 dX3_got_7 rfl ?_
    refine x_ifnonnull F 15 dX3_got_8 (by decide) ?_
    refine x_aload_n F 0 dX3_got_15 rfl ?_
    refine x_fget F f_X3_233 (hR.e h41 (by omega)) (v := .int (nI (σ.1 29 (12 * r + j)))) dX3_got_16 rfl ?_
    rw [hQ]
    exact x_iret F dX3_got_19 (by decide) ⟨_, rfl, hcd, (by rw [cl_nI (n := r) (by omega), cl_nI (n := j) (by omega)] <;> (first | rfl | (rw [(hD r j hr hj h41).2.2.2.2.2] <;> rfl))), rfl⟩
  · refine x_rv0 (y := .null) (eO_f h41) ?_
    refine x_astore_nN F [(3, .null), (0, .ref (A 0)), (1, .int (nI (r))), (2, .int (nI (j)))] dX3_got_6 (by decide) rfl ?_
    refine x_aload_nN F 0 dX3_got_7 rfl ?_
    refine x_ifnonnullN F dX3_got_8 ?_
    refine x_iconst F (nI 0) dX3_got_11 (by decide) ?_
    refine x_goto F 19 dX3_got_12 (by decide) ?_
    rw [hQ]
    exact x_iret F dX3_got_19 (by decide) ⟨_, rfl, hcd, (by rw [cl_nI (n := r) (by omega), cl_nI (n := j) (by omega)] <;> (first | rfl | (rw [(hD r j hr hj h41).2.2.2.2.2] <;> rfl))), rfl⟩
set_option maxHeartbeats 4000000 in
set_option maxRecDepth 100000 in
theorem c_X3_isOffered {l : Launch} (hl : l.stackTraces = false) {g : GP} {M : MM} {A : Nat → Nat} {M0 : MM} {σ : ST} {x0 y0 : Int32} (hR : CM g A M0 σ M) (hB : Bd σ) (hD : ID σ) : CT l g yX3_isOffered cX3_isOffered 4 (some .boolean) 8 158 2 12 [.ref (A 0), .int (x0), .int (y0)] M (pI (fun r9 M9 => cdRR σ x0 y0 = 0 ∧ nI (bz (decide (¬ σ.1 26 (12 * cl x0 + cl y0) = 0))) = r9 ∧ M = M9)) (fun E M9 => M = M9 ∧ xp1 E (cdRR σ x0 y0) sIO) := by
  refine ct_of [(0, .ref (A 0)), (1, .int (x0)), (2, .int (y0))] (by decide) hl (Nat.le_of_ble_eq_true rfl) rfl ?_
  intro K hK F
  subst hK
  have F : Fx K g cX3_isOffered RX3 4 (some .boolean) [] 8 158 2 12 := F
  obtain ⟨Q, hQ⟩ : ∃ Q, Q = MQx K g (pI (fun r9 M9 => cdRR σ x0 y0 = 0 ∧ nI (bz (decide (¬ σ.1 26 (12 * cl x0 + cl y0) = 0))) = r9 ∧ M = M9)) ((fun E M9 => M = M9 ∧ xp1 E (cdRR σ x0 y0) sIO)) 2 12 := ⟨_, rfl⟩
  rw [← hQ]
  have hB9 := hB
  obtain ⟨h6, h7, h18, hr8, hk96, hp96, hb16, hh⟩ := hB9
  refine x_aload_n F 0 dX3_isOffered_0 rfl ?_
  refine x_iload_n F 1 dX3_isOffered_1 rfl ?_
  refine x_iload_n F 2 dX3_isOffered_2 rfl ?_
  rw [hQ]
  refine x_callV F s_X3_96 hR.c rfl rfl (c_X3_entryAt F.nt hR hB) rfl dX3_isOffered_3 (by decide) (by decide) (Nat.le_of_ble_eq_true rfl) (x_outX F (by decide) (by rintro E M9 ⟨k1, k2, k3⟩; exact ⟨k3, (⟨k1, (if_neg (by rw [k2]; exact Bool.false_ne_true))⟩)⟩)) (kq fun r9 M9 hp9 => ?_)
  rw [← hQ]
  obtain ⟨hin9, rfl, rfl⟩ := hp9
  have hin8 := Bool.and_eq_true_iff.mp hin9
  have hcd : cdRR σ x0 y0 = 0 := if_pos hin9
  obtain ⟨r, hr, rfl⟩ := inN_t (by omega) hin8.1
  obtain ⟨j, hj7, rfl⟩ := inN_t (by omega) hin8.2
  have hj : j < 12 := by omega
  rw [cl_nI (n := r) (by omega), cl_nI (n := j) (by omega)]
  by_cases h41 : σ.1 41 (12 * r + j) = 1
  · refine x_rv0 (y := .ref (A (100 + (12 * r + j)))) (eO_t h41) ?_
    refine x_astore_n F [(3, .ref (A (100 + (12 * r + j)))), (0, .ref (A 0)), (1, .int (nI (r))), (2, .int (nI (j)))] dX3_isOffered_6 (by decide) rfl ?_
    refine x_aload_n F 0 dX3_isOffered_7 rfl ?_
    refine x_ifnull F dX3_isOffered_8 ?_
    refine x_aload_n F 0 dX3_isOffered_11 rfl ?_
    refine x_fget F f_X3_185 (hR.e h41 (by omega)) (v := .int (nI (σ.1 26 (12 * r + j)))) dX3_isOffered_12 rfl ?_
    refine x_if_eq F 22 dX3_isOffered_15 (by decide) (fun c15 => ?_) (fun c15 => ?_)
    · have c15 := (nI_z (by have := (hk96 (12 * r + j) (by omega)).2.2.2.2.2.1; omega)).mp c15
      refine x_iconst F (nI 0) dX3_isOffered_22 (by decide) ?_
      rw [hQ]
      exact x_zret F dX3_isOffered_23 (by decide) (Or.inl rfl) ⟨_, rfl, hcd, (by rw [cl_nI (n := r) (by omega), cl_nI (n := j) (by omega)] <;> (first | (rw [(hD r j hr hj h41).2.2.2.1]; rfl) | (rw [decide_eq_false (Decidable.not_not.mpr c15)]; rfl) | (rw [decide_eq_true c15]; rfl))), rfl⟩
    · have c15 := mt (nI_z (by have := (hk96 (12 * r + j) (by omega)).2.2.2.2.2.1; omega)).mpr c15
      refine x_iconst F (nI 1) dX3_isOffered_18 (by decide) ?_
      refine x_goto F 23 dX3_isOffered_19 (by decide) ?_
      rw [hQ]
      exact x_zret F dX3_isOffered_23 (by decide) (Or.inr rfl) ⟨_, rfl, hcd, (by rw [cl_nI (n := r) (by omega), cl_nI (n := j) (by omega)] <;> (first | (rw [(hD r j hr hj h41).2.2.2.1]; rfl) | (rw [decide_eq_false (Decidable.not_not.mpr c15)]; rfl) | (rw [decide_eq_true c15]; rfl))), rfl⟩
  · refine x_rv0 (y := .null) (eO_f h41) ?_
    refine x_astore_nN F [(3, .null), (0, .ref (A 0)), (1, .int (nI (r))), (2, .int (nI (j)))] dX3_isOffered_6 (by decide) rfl ?_
    refine x_aload_nN F 0 dX3_isOffered_7 rfl ?_
    refine x_ifnullN F 22 dX3_isOffered_8 (by decide) ?_
    refine x_iconst F (nI 0) dX3_isOffered_22 (by decide) ?_
    rw [hQ]
    exact x_zret F dX3_isOffered_23 (by decide) (Or.inl rfl) ⟨_, rfl, hcd, (by rw [cl_nI (n := r) (by omega), cl_nI (n := j) (by omega)] <;> (first | (rw [(hD r j hr hj h41).2.2.2.1]; rfl) | (rw [decide_eq_false (Decidable.not_not.mpr c15)]; rfl) | (rw [decide_eq_true c15]; rfl))), rfl⟩
set_option maxHeartbeats 4000000 in
set_option maxRecDepth 100000 in
theorem c_X3_rodeoIs {l : Launch} (hl : l.stackTraces = false) {g : GP} {M : MM} {A : Nat → Nat} {M0 : MM} {σ : ST} {x0 y0 : Int32} (hR : CM g A M0 σ M) (hB : Bd σ) (hW : IW σ) (hD : ID σ) : CT l g yX3_rodeoIs cX3_rodeoIs 4 (some .int) 7 177 2 12 [.ref (A 0), .int (x0), .int (y0)] M (pI (fun r9 M9 => cdRI σ x0 y0 = 0 ∧ tellsS σ (cl x0) y0 = r9 ∧ M = M9)) (fun E M9 => M = M9 ∧ xp2 E (cdRI σ x0 y0) sIO sIA) := by
  refine ct_of [(0, .ref (A 0)), (1, .int (x0)), (2, .int (y0))] (by decide) hl (Nat.le_of_ble_eq_true rfl) rfl ?_
  intro K hK F
  subst hK
  have F : Fx K g cX3_rodeoIs RX3 4 (some .int) [] 7 177 2 12 := F
  obtain ⟨Q, hQ⟩ : ∃ Q, Q = MQx K g (pI (fun r9 M9 => cdRI σ x0 y0 = 0 ∧ tellsS σ (cl x0) y0 = r9 ∧ M = M9)) ((fun E M9 => M = M9 ∧ xp2 E (cdRI σ x0 y0) sIO sIA)) 2 12 := ⟨_, rfl⟩
  rw [← hQ]
  have hB9 := hB
  obtain ⟨h6, h7, h18, hr8, hk96, hp96, hb16, hh⟩ := hB9
  refine x_aload_n F 0 dX3_rodeoIs_0 rfl ?_
  refine x_iload_n F 1 dX3_rodeoIs_1 rfl ?_
  rw [hQ]
  refine x_callV F s_X3_75 hR.c rfl rfl (c_X3_rodeoAt F.nt hR hB) rfl dX3_rodeoIs_2 (by decide) (by decide) (Nat.le_of_ble_eq_true rfl) (x_outX F (by decide) (by rintro E M9 ⟨k1, k2, k3⟩; exact ⟨k3, (Or.inl ⟨k1, (if_pos k2)⟩)⟩)) (kr fun r9 M9 hp9 => ?_)
  rw [← hQ]
  obtain ⟨hin9, rfl, rfl⟩ := hp9
  have hIn := hin9
  obtain ⟨r, hr, rfl⟩ := inN_t (by omega) hin9
  rw [cl_nI (n := r) (by omega)]
  have b1 := hr8 r (by omega)
  refine x_astore_n F [(3, .ref (A (30 + r))), (0, .ref (A 0)), (1, .int (nI (r))), (2, .int (y0))] dX3_rodeoIs_5 (by decide) rfl ?_
  refine x_iload_n F 3 dX3_rodeoIs_6 rfl ?_
  by_cases yy0 : y0 = 0
  · subst yy0
    refine x_tableIn F 40 dX3_rodeoIs_7 (by decide) (by decide) rfl (by decide) ?_
    refine x_aload_n F 0 dX3_rodeoIs_40 rfl ?_
    refine x_fget F f_X3_79 (hR.r (by omega : r < σ.1 18 0) (by omega)) (v := .int (nI (σ.1 15 r))) dX3_rodeoIs_41 rfl ?_
    rw [hQ]
    exact x_iret F dX3_rodeoIs_44 (by decide) ⟨_, rfl, (by unfold cdRI; rw [if_neg (by rw [hIn]; exact Bool.noConfusion)]; exact if_neg (by decide)), (by rw [cl_nI (n := r) (by omega)] <;> rfl), rfl⟩
  by_cases yy1 : y0 = 1
  · subst yy1
    refine x_tableIn F 45 dX3_rodeoIs_7 (by decide) (by decide) rfl (by decide) ?_
    refine x_aload_n F 0 dX3_rodeoIs_45 rfl ?_
    refine x_fget F f_X3_82 (hR.r (by omega : r < σ.1 18 0) (by omega)) (v := .ref (A (40 + r))) dX3_rodeoIs_46 rfl ?_
    refine x_callV F s_X3_37 (hR.l (by omega : r < σ.1 18 0) (by omega)) rfl rfl (c_lsize F.nt (hR.l (by omega : r < σ.1 18 0) (by omega))) rfl dX3_rodeoIs_49 (by decide) (by decide) (Nat.le_of_ble_eq_true rfl) x_noX (ki fun r_2 M2_2 hp_2 => ?_)
    obtain ⟨rfl, rfl⟩ := hp_2
    rw [hQ]
    exact x_iret F dX3_rodeoIs_52 (by decide) ⟨_, rfl, (by unfold cdRI; rw [if_neg (by rw [hIn]; exact Bool.noConfusion)]; exact if_neg (by decide)), (by rw [cl_nI (n := r) (by omega)] <;> rfl), rfl⟩
  by_cases yy2 : y0 = 2
  · subst yy2
    refine x_tableIn F 53 dX3_rodeoIs_7 (by decide) (by decide) rfl (by decide) ?_
    refine x_aload_n F 0 dX3_rodeoIs_53 rfl ?_
    refine x_callV F s_X3_85 (hR.r (by omega : r < σ.1 18 0) (by omega)) rfl rfl (c_X2_countPlaced F.nt hR hB hW hD (by omega)) rfl dX3_rodeoIs_54 (by decide) (by decide) (Nat.le_of_ble_eq_true rfl) x_noX (ki fun r_3 M2_3 hp_3 => ?_)
    obtain ⟨rfl, rfl⟩ := hp_3
    rw [hQ]
    exact x_iret F dX3_rodeoIs_57 (by decide) ⟨_, rfl, (by unfold cdRI; rw [if_neg (by rw [hIn]; exact Bool.noConfusion)]; exact if_neg (by decide)), (by rw [cl_nI (n := r) (by omega)] <;> rfl), rfl⟩
  by_cases yy3 : y0 = 3
  · subst yy3
    refine x_tableIn F 58 dX3_rodeoIs_7 (by decide) (by decide) rfl (by decide) ?_
    refine x_aload_n F 0 dX3_rodeoIs_58 rfl ?_
    refine x_callV F s_X3_88 (hR.r (by omega : r < σ.1 18 0) (by omega)) rfl rfl (c_X2_pot F.nt hR hB hW hD (by omega)) rfl dX3_rodeoIs_59 (by decide) (by decide) (Nat.le_of_ble_eq_true rfl) x_noX (ki fun r_4 M2_4 hp_4 => ?_)
    obtain ⟨rfl, rfl⟩ := hp_4
    rw [hQ]
    exact x_iret F dX3_rodeoIs_62 (by decide) ⟨_, rfl, (by unfold cdRI; rw [if_neg (by rw [hIn]; exact Bool.noConfusion)]; exact if_neg (by decide)), (by rw [cl_nI (n := r) (by omega)] <;> rfl), rfl⟩
  by_cases yy4 : y0 = 4
  · subst yy4
    refine x_tableIn F 63 dX3_rodeoIs_7 (by decide) (by decide) rfl (by decide) ?_
    refine x_aload_n F 0 dX3_rodeoIs_63 rfl ?_
    refine x_fget F f_X3_91 (hR.r (by omega : r < σ.1 18 0) (by omega)) (v := .int (σ.2.1 16 r)) dX3_rodeoIs_64 rfl ?_
    rw [hQ]
    exact x_iret F dX3_rodeoIs_67 (by decide) ⟨_, rfl, (by unfold cdRI; rw [if_neg (by rw [hIn]; exact Bool.noConfusion)]; exact if_neg (by decide)), (by rw [cl_nI (n := r) (by omega)] <;> rfl), rfl⟩
  have hno := tell_no yy0 yy1 yy2 yy3 yy4
  refine x_tableOut F 68 dX3_rodeoIs_7 (tell_out hno) (by decide) ?_
  rw [hQ]
  exact x_throw F th_IA (text := "no such question") (by decide +kernel) dX3_rodeoIs_68 dX3_rodeoIs_71 dX3_rodeoIs_72 dX3_rodeoIs_74 dX3_rodeoIs_77 ⟨by decide, Nat.le_of_ble_eq_true rfl, by decide, by decide⟩ (⟨rfl, Or.inr ⟨rfl, (by unfold cdRI; rw [if_neg (by rw [hIn]; exact Bool.noConfusion), if_pos hno])⟩⟩)
set_option maxHeartbeats 4000000 in
set_option maxRecDepth 100000 in
theorem c_X3_hide {l : Launch} (hl : l.stackTraces = false) {g : GP} {M : MM} {A : Nat → Nat} {M0 : MM} {σ : ST} {x0 : Int32} (hR : CM g A M0 σ M) (hB : Bd σ) : CT l g yX3_hide cX3_hide 2 (none : Option Jvm.ClassFile.FieldType) 6 92 1 6 [.ref (A 0), .int (x0)] M (pV (fun M9 => cdHi x0 = 0 ∧ CM g A M0 (uN σ 30 0 (cl x0)) M9)) (fun E M9 => M = M9 ∧ xp1 E (cdHi x0) sIA) := by
  refine ct_of [(0, .ref (A 0)), (1, .int (x0))] (by decide) hl (Nat.le_of_ble_eq_true rfl) rfl ?_
  intro K hK F
  subst hK
  have F : Fx K g cX3_hide RX3 2 (none : Option Jvm.ClassFile.FieldType) [] 6 92 1 6 := F
  obtain ⟨Q, hQ⟩ : ∃ Q, Q = MQx K g (pV (fun M9 => cdHi x0 = 0 ∧ CM g A M0 (uN σ 30 0 (cl x0)) M9)) ((fun E M9 => M = M9 ∧ xp1 E (cdHi x0) sIA)) 1 6 := ⟨_, rfl⟩
  rw [← hQ]
  have hB9 := hB
  obtain ⟨h6, h7, h18, hr8, hk96, hp96, hb16, hh⟩ := hB9
  refine x_iload_n F 1 dX3_hide_0 rfl ?_
  refine x_iconst F (nI 0) dX3_hide_1 (by decide) ?_
  refine x_ldc F (nI 65536) k_X3_154 dX3_hide_2 ?_
  refine x_callS F s_X3_57 rfl (c_X3_isWithin F.nt ) rfl dX3_hide_4 (by decide) (by decide) (Nat.le_of_ble_eq_true rfl) x_noX (ki fun r M2 hp => ?_)
  obtain ⟨rfl, rfl⟩ := hp
  refine x_if_ne F 20 dX3_hide_7 (by decide) (fun c7 => ?_) (fun c7 => ?_)
  · have c7 := nI_bz1.mp c7
    have hcd : cdHi x0 = 0 := if_pos c7
    obtain ⟨q, -, hq, rfl⟩ := inR_t (by decide) (by decide) c7
    refine x_aload_n F 0 dX3_hide_20 rfl ?_
    refine x_iload_n F 1 dX3_hide_21 rfl ?_
    refine x_pX3_3 F hR  p_X3_23 dX3_hide_22 (fun M1 hR1 => ?_)
    rw [hQ]
    exact x_vret F dX3_hide_25 (by decide) ⟨rfl, hcd, by rw [cl_nI (n := q) (by omega)]; exact hR1⟩
  · have c7 := nI_bz0.mp c7
    rw [hQ]
    exact x_throw F th_IA (text := "no such hidden number") (by decide +kernel) dX3_hide_10 dX3_hide_13 dX3_hide_14 dX3_hide_16 dX3_hide_19 ⟨by decide, Nat.le_of_ble_eq_true rfl, by decide, by decide⟩ (⟨rfl, rfl, if_neg (by rw [c7]; exact Bool.false_ne_true)⟩)
set_option maxHeartbeats 4000000 in
set_option maxRecDepth 100000 in
theorem c_X3_rider {l : Launch} (hl : l.stackTraces = false) {g : GP} {M : MM} {A : Nat → Nat} {M0 : MM} {σ : ST}  (hR : CM g A M0 σ M) (hB : Bd σ) : CT l g yX3_rider cX3_rider 1 (some .int) 6 92 1 6 [.ref (A 0)] M (pI (fun r9 M9 => cdRd σ = 0 ∧ nI (σ.1 7 0) = r9 ∧ CM g A M0 (rdU σ) M9)) (fun E M9 => M = M9 ∧ xp1 E (cdRd σ) sIS) := by
  refine ct_of [(0, .ref (A 0))] (by decide) hl (Nat.le_of_ble_eq_true rfl) rfl ?_
  intro K hK F
  subst hK
  have F : Fx K g cX3_rider RX3 1 (some .int) [] 6 92 1 6 := F
  obtain ⟨Q, hQ⟩ : ∃ Q, Q = MQx K g (pI (fun r9 M9 => cdRd σ = 0 ∧ nI (σ.1 7 0) = r9 ∧ CM g A M0 (rdU σ) M9)) ((fun E M9 => M = M9 ∧ xp1 E (cdRd σ) sIS)) 1 6 := ⟨_, rfl⟩
  rw [← hQ]
  have hB9 := hB
  obtain ⟨h6, h7, h18, hr8, hk96, hp96, hb16, hh⟩ := hB9
  refine x_aload_n F 0 dX3_rider_0 rfl ?_
  refine x_fget F f_X3_19 hR.c (v := .int (nI (σ.1 7 0))) dX3_rider_1 rfl ?_
  refine x_bipush F (nI 12) dX3_rider_4 (by decide) ?_
  refine x_icmp_lt F 19 dX3_rider_6 (by decide) (fun c6 => ?_) (fun c6 => ?_)
  · have c6 := (nI_ltI (by omega) (by omega)).mp c6
    have c6b := Nat.not_le.mpr c6
    refine x_aload_n F 0 dX3_rider_19 rfl ?_
    refine x_dup F dX3_rider_20 rfl ?_
    refine x_fget F f_X3_19 hR.c (v := .int (nI (σ.1 7 0))) dX3_rider_21 rfl ?_
    refine x_iconst F (nI 1) dX3_rider_24 (by decide) ?_
    refine x_iaddN F dX3_rider_25 ?_
    refine x_pX3_2 F hR  p_X3_19 dX3_rider_26 (fun M1 hR1 => ?_)
    refine x_aload_n F 0 dX3_rider_29 rfl ?_
    refine x_fget F f_X3_19 hR1.c (v := .int (nI ((uN σ 7 0 ((σ.1 7 0) + 1)).1 7 0))) dX3_rider_30 rfl ?_
    refine x_ri0 (y := nI (σ.1 7 0 + 1)) (rfl) ?_
    refine x_iconst F (nI 1) dX3_rider_33 (by decide) ?_
    refine x_isubN F dX3_rider_34 (by omega) ?_
    rw [hQ]
    exact x_iret F dX3_rider_35 (by decide) ⟨_, rfl, if_neg (by omega), rfl, hR1⟩
  · have c6 := mt (nI_ltI (by omega) (by omega)).mpr c6
    have c6b := Nat.not_lt.mp c6
    rw [hQ]
    exact x_throw F th_IS (text := "no more riders") (by decide +kernel) dX3_rider_9 dX3_rider_12 dX3_rider_13 dX3_rider_15 dX3_rider_18 ⟨by decide, Nat.le_of_ble_eq_true rfl, by decide, by decide⟩ (⟨rfl, rfl, if_pos (by omega)⟩)
set_option maxHeartbeats 4000000 in
set_option maxRecDepth 100000 in
theorem c_X3_most {l : Launch} (hl : l.stackTraces = false) {g : GP} {M : MM} {A : Nat → Nat} {M0 : MM} {σ : ST} {x0 : Int32} (hR : CM g A M0 σ M) (hB : Bd σ) (hW : IW σ) (hD : ID σ) : CT l g yX3_most cX3_most 6 (some .int) 7 192 1 6 [.ref (A 0), .int (x0)] M (pI (fun r9 M9 => cdMo σ x0 = 0 ∧ nI (lstS σ (cl x0) (2 ^ σ.1 11 (cl x0))) = r9 ∧ M = M9)) (fun E M9 => M = M9 ∧ xp1 E (cdMo σ x0) sIO) := by
  refine ct_of [(0, .ref (A 0)), (1, .int (x0))] (by decide) hl (Nat.le_of_ble_eq_true rfl) rfl ?_
  intro K hK F
  subst hK
  have F : Fx K g cX3_most RX3 6 (some .int) [] 7 192 1 6 := F
  obtain ⟨Q, hQ⟩ : ∃ Q, Q = MQx K g (pI (fun r9 M9 => cdMo σ x0 = 0 ∧ nI (lstS σ (cl x0) (2 ^ σ.1 11 (cl x0))) = r9 ∧ M = M9)) ((fun E M9 => M = M9 ∧ xp1 E (cdMo σ x0) sIO)) 1 6 := ⟨_, rfl⟩
  rw [← hQ]
  have hB9 := hB
  obtain ⟨h6, h7, h18, hr8, hk96, hp96, hb16, hh⟩ := hB9
  refine x_aload_n F 0 dX3_most_0 rfl ?_
  refine x_iload_n F 1 dX3_most_1 rfl ?_
  rw [hQ]
  refine x_callV F s_X3_75 hR.c rfl rfl (c_X3_rodeoAt F.nt hR hB) rfl dX3_most_2 (by decide) (by decide) (Nat.le_of_ble_eq_true rfl) (x_outX F (by decide) (by rintro E M9 ⟨k1, k2, k3⟩; exact ⟨k3, (⟨k1, (if_neg (by rw [k2]; exact Bool.false_ne_true))⟩)⟩)) (kr fun r9 M9 hp9 => ?_)
  rw [← hQ]
  obtain ⟨hin9, rfl, rfl⟩ := hp9
  have hcd : cdMo σ x0 = 0 := if_pos hin9
  obtain ⟨r, hr, rfl⟩ := inN_t (by omega) hin9
  rw [cl_nI (n := r) (by omega)]
  have b1 := hr8 r (by omega)
  have p16 := p2_16 b1.2.2.1
  refine x_astore_n F [(2, .ref (A (30 + r))), (0, .ref (A 0)), (1, .int (nI (r)))] dX3_most_5 (by decide) rfl ?_
  refine x_aload_n F 0 dX3_most_6 rfl ?_
  refine x_fget F f_X3_82 (hR.r (by omega : r < σ.1 18 0) (by omega)) (v := .ref (A (40 + r))) dX3_most_7 rfl ?_
  refine x_callV F s_X3_37 (hR.l (by omega : r < σ.1 18 0) (by omega)) rfl rfl (c_lsize F.nt (hR.l (by omega : r < σ.1 18 0) (by omega))) rfl dX3_most_10 (by decide) (by decide) (Nat.le_of_ble_eq_true rfl) x_noX (ki fun r_2 M2_2 hp_2 => ?_)
  obtain ⟨rfl, rfl⟩ := hp_2
  refine x_istore_n F [(3, .int (nI (σ.1 17 r))), (2, .ref (A (30 + r))), (0, .ref (A 0)), (1, .int (nI (r)))] dX3_most_13 (by decide) rfl ?_
  refine x_iconst F (nI 0) dX3_most_14 (by decide) ?_
  refine x_istore F [(4, .int (nI (0))), (3, .int (nI (σ.1 17 r))), (2, .ref (A (30 + r))), (0, .ref (A 0)), (1, .int (nI (r)))] dX3_most_15 (by decide) rfl ?_
  refine x_sub [0, 1, 2, 3] rfl (L' := [(4, .int (nI (0))), (3, .int (nI (σ.1 17 r))), (2, .ref (A (30 + r))), (0, .ref (A 0))]) ?_
  have LP17 : ∀ i, i ≤ (2 ^ σ.1 11 r) → ∀ (v17_3 : Int32) (v17_4 : Int32), v17_3 = nI (lstS σ r i) → v17_4 = nI (i) → XW K g 6 Q M 1 6 17 [(4, .int (v17_4)), (3, .int (v17_3)), (2, .ref (A (30 + r))), (0, .ref (A 0))] [] := by
    refine x_loop ((2 ^ σ.1 11 r)) _ (fun i hi ihi => ?_)
    intro v17_3 v17_4 e17_3 e17_4
    subst e17_3
    subst e17_4
    have hl9 := lstS_le (σ := σ) (r := r) i
    have hc9 := cwoS_le (σ := σ) (r := r) (st9 := i)
    have hp9 := pc4_le i
    have hm9 : σ.1 12 r * pc4 i ≤ 4 * 4 := Nat.mul_le_mul (by omega) hp9
    refine x_iload F 0 dX3_most_17 rfl ?_
    refine x_iconst F (nI 1) dX3_most_19 (by decide) ?_
    refine x_aload_n F 2 dX3_most_20 rfl ?_
    refine x_fget F f_X3_100 (hR.r (by omega : r < σ.1 18 0) (by omega)) (v := .int (nI (σ.1 11 r))) dX3_most_21 rfl ?_
    refine x_ishl F dX3_most_24 ?_
    refine x_ri0 (y := nI (2 ^ σ.1 11 r)) (shl_p b1.2.2.1) ?_
    refine x_icmp_ge F 61 dX3_most_25 (by decide) (fun c25 => ?_) (fun c25 => ?_)
    · have c25 := (nI_leI (by omega) (by omega)).mp c25
      have c25b := Nat.not_lt.mpr c25
      refine x_iload_n F 1 dX3_most_61 rfl ?_
      rw [hQ]
      exact x_iret F dX3_most_62 (by decide) ⟨_, rfl, hcd, (by rw [cl_nI (n := r) (by omega)]; have h9 : i = 2 ^ σ.1 11 r := (by omega); rw [h9]), rfl⟩
    · have c25 := mt (nI_leI (by omega) (by omega)).mpr c25
      have c25b := Nat.not_le.mp c25
      refine x_aload_n F 2 dX3_most_28 rfl ?_
      refine x_fget F f_X3_135 (hR.r (by omega : r < σ.1 18 0) (by omega)) (v := .int (nI (σ.1 12 r))) dX3_most_29 rfl ?_
      refine x_iload F 0 dX3_most_32 rfl ?_
      refine x_callS F s_X3_138 rfl (c_J6_bitCount_0f7a4 F.nt (by omega)) rfl dX3_most_34 (by decide) (by decide) (Nat.le_of_ble_eq_true rfl) x_noX (ki fun r_3 M2_3 hp_3 => ?_)
      obtain ⟨rfl, rfl⟩ := hp_3
      refine x_imulN F dX3_most_37 ?_
      refine x_aload_n F 3 dX3_most_38 rfl ?_
      refine x_aload_n F 2 dX3_most_39 rfl ?_
      refine x_iload F 0 dX3_most_40 rfl ?_
      refine x_callV F s_X3_144 hR.c rfl rfl (c_X3_countWithWaysOutside F.nt hR hB hW hD (by omega) (by omega)) rfl dX3_most_42 (by decide) (by decide) (Nat.le_of_ble_eq_true rfl) x_noX (ki fun r_4 M2_4 hp_4 => ?_)
      obtain ⟨rfl, rfl⟩ := hp_4
      refine x_iaddN F dX3_most_45 ?_
      refine x_istore F [(5, .int (nI (((σ.1 12 r) * (pc4 i)) + (cwoS σ r i)))), (4, .int (nI (i))), (3, .int (nI (lstS σ r i))), (2, .ref (A (30 + r))), (0, .ref (A 0))] dX3_most_46 (by decide) rfl ?_
      refine x_iload_n F 2 dX3_most_48 rfl ?_
      refine x_iload F 0 dX3_most_49 rfl ?_
      refine x_mmin F u_X3_148 dX3_most_51 ⟨by decide, Nat.le_of_ble_eq_true rfl, by decide, by decide⟩ ?_
      refine x_ri0 (y := nI (lstS σ r (i + 1))) (mn_min (by omega) (by omega)) ?_
      refine x_istore_n F [(3, .int (nI (lstS σ r (i + 1)))), (5, .int (nI (((σ.1 12 r) * (pc4 i)) + (cwoS σ r i)))), (4, .int (nI (i))), (2, .ref (A (30 + r))), (0, .ref (A 0))] dX3_most_54 (by decide) rfl ?_
      refine x_iinc F 2 [(4, .int (nI (i + 1))), (3, .int (nI (lstS σ r (i + 1)))), (5, .int (nI (((σ.1 12 r) * (pc4 i)) + (cwoS σ r i)))), (2, .ref (A (30 + r))), (0, .ref (A 0))] dX3_most_55 rfl (iincN (i) 1) (by decide) rfl ?_
      refine x_goto F 17 dX3_most_58 (by decide) ?_
      refine x_sub [0, 1, 3, 4] rfl (L' := [(4, .int (nI (i + 1))), (3, .int (nI (lstS σ r (i + 1)))), (2, .ref (A (30 + r))), (0, .ref (A 0))]) ?_
      exact ihi (by omega) _ _ (rfl) (rfl)
  exact LP17 0 (Nat.zero_le _) _ _ (rfl) (rfl)
