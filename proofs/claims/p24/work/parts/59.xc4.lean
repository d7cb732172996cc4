/-! numbers asked for; beasts -/
theorem inN_lo {x0 : Int32} {n : Nat} (h : x0 < 0) : inN x0 n = false := by
  unfold inN
  have h1 := Int32.lt_iff_toInt_lt.mp h
  have h5 : (0 : Int32).toInt = 0 := by decide
  exact decide_eq_false (fun z => by omega)
theorem inN_hi {x0 : Int32} {n : Nat} (hn : n < 2 ^ 31) (h : ¬ x0 < nI n) : inN x0 n = false := by
  unfold inN
  have h1 := mt Int32.lt_iff_toInt_lt.mpr h
  rw [nI_toInt hn] at h1
  exact decide_eq_false (fun z => by omega)
theorem inN_in {x0 : Int32} {n : Nat} (hn : n < 2 ^ 31) (h0 : ¬ x0 < 0) (h : x0 < nI n) : inN x0 n = true := by
  unfold inN
  have h1 := Int32.lt_iff_toInt_lt.mp h
  have h2 := mt Int32.lt_iff_toInt_lt.mpr h0
  have h5 : (0 : Int32).toInt = 0 := by decide
  rw [nI_toInt hn] at h1
  exact decide_eq_true (by omega)
theorem cmpS_0 {x0 y0 : Nat} : cmpS x0 y0 = 0 ↔ x0 = y0 := by
  unfold cmpS
  split
  · constructor
    · intro z; exact absurd z (by decide)
    · intro z; omega
  · split
    · simp_all; decide
    · constructor
      · intro z; exact absurd z (by decide)
      · intro z; omega
theorem cmpS_le {x0 y0 : Nat} : cmpS x0 y0 ≤ 0 ↔ x0 ≤ y0 := by
  unfold cmpS
  split
  · constructor
    · intro _; omega
    · intro _; decide
  · split
    · constructor
      · intro _; omega
      · intro _; decide
    · constructor
      · intro z; exact absurd z (by decide)
      · intro z; omega
def IBe (σ : ST) : Prop := ∀ k, k < 96 → σ.1 41 k = 1 → ¬ σ.2.1 23 k = -1 → ∃ b, b < σ.1 6 0 ∧ σ.2.1 23 k = nI b
set_option maxHeartbeats 4000000 in
set_option maxRecDepth 100000 in
theorem c_X3_rodeoAt {l : Launch} (hl : l.stackTraces = false) {g : GP} {M : MM} {A : Nat → Nat} {M0 : MM} {σ : ST} {x0 : Int32} (hR : CM g A M0 σ M) (hB : Bd σ) : CT l g yX3_rodeoAt cX3_rodeoAt 2 (some (.object "RankStock$Rodeo")) 6 114 1 6 [.ref (A 0), .int (x0)] M (pR (fun r9 M9 => inN x0 (σ.1 18 0) = true ∧ A (30 + cl x0) = r9 ∧ M = M9)) (fun E M9 => E = sIO ∧ inN x0 (σ.1 18 0) = false ∧ M = M9) := by
  refine ct_of [(0, .ref (A 0)), (1, .int (x0))] (by decide) hl (Nat.le_of_ble_eq_true rfl) rfl ?_
  intro K hK F
  subst hK
  have F : Fx K g cX3_rodeoAt RX3 2 (some (.object "RankStock$Rodeo")) [] 6 114 1 6 := F
  obtain ⟨Q, hQ⟩ : ∃ Q, Q = MQx K g (pR (fun r9 M9 => inN x0 (σ.1 18 0) = true ∧ A (30 + cl x0) = r9 ∧ M = M9)) ((fun E M9 => E = sIO ∧ inN x0 (σ.1 18 0) = false ∧ M = M9)) 1 6 := ⟨_, rfl⟩
  rw [← hQ]
  have hB9 := hB
  obtain ⟨h6, h7, h18, hr8, hk96, hp96, hb16, hh⟩ := hB9
  refine x_iload_n F 1 dX3_rodeoAt_0 rfl ?_
  refine x_if_lt F 15 dX3_rodeoAt_1 (by decide) (fun c1 => ?_) (fun c1 => ?_)
  · rw [hQ]
    exact x_throw F th_IO (text := "no such rodeo") (by decide +kernel) dX3_rodeoAt_15 dX3_rodeoAt_18 dX3_rodeoAt_19 dX3_rodeoAt_21 dX3_rodeoAt_24 ⟨by decide, Nat.le_of_ble_eq_true rfl, by decide, by decide⟩ (⟨rfl, by first | exact inN_lo c1 | exact inN_hi (by omega) c12, rfl⟩)
  · refine x_iload_n F 1 dX3_rodeoAt_4 rfl ?_
    refine x_aload_n F 0 dX3_rodeoAt_5 rfl ?_
    refine x_fget F f_X3_16 hR.c (v := .ref (A 3)) dX3_rodeoAt_6 rfl ?_
    refine x_callV F s_X3_37 hR.lr rfl rfl (c_lsize F.nt hR.lr) rfl dX3_rodeoAt_9 (by decide) (by decide) (Nat.le_of_ble_eq_true rfl) x_noX (ki fun r M2 hp => ?_)
    obtain ⟨rfl, rfl⟩ := hp
    refine x_icmp_lt F 25 dX3_rodeoAt_12 (by decide) (fun c12 => ?_) (fun c12 => ?_)
    · have hin := inN_in (n := σ.1 18 0) (by omega) c1 c12
      obtain ⟨j, hj, rfl⟩ := inN_t (by omega) hin
      refine x_aload_n F 0 dX3_rodeoAt_25 rfl ?_
      refine x_fget F f_X3_16 hR.c (v := .ref (A 3)) dX3_rodeoAt_26 rfl ?_
      refine x_iload_n F 1 dX3_rodeoAt_29 rfl ?_
      refine x_callV F s_X3_124 hR.lr rfl rfl (c_lget F.nt hR.lr hR.dr (by omega : j < σ.1 18 0) (by omega : σ.1 18 0 ≤ 22)) rfl dX3_rodeoAt_30 (by decide) (by decide) (Nat.le_of_ble_eq_true rfl) x_noX (kr fun r_2 M2_2 hp_2 => ?_)
      obtain ⟨rfl, rfl⟩ := hp_2
      refine x_rr0 (y := A (30 + j)) (rfl) ?_
      refine x_cast F (hR.r (by omega : j < σ.1 18 0) (by omega)) rfl l_X3_70 dX3_rodeoAt_33 ?_
      rw [hQ]
      exact x_aret F rfl (Or.inl ⟨_, rfl⟩) dX3_rodeoAt_36 (by decide) ⟨_, rfl, hin, by rw [cl_nI (by omega)], rfl⟩
    · rw [hQ]
      exact x_throw F th_IO (text := "no such rodeo") (by decide +kernel) dX3_rodeoAt_15 dX3_rodeoAt_18 dX3_rodeoAt_19 dX3_rodeoAt_21 dX3_rodeoAt_24 ⟨by decide, Nat.le_of_ble_eq_true rfl, by decide, by decide⟩ (⟨rfl, by first | exact inN_lo c1 | exact inN_hi (by omega) c12, rfl⟩)
set_option maxHeartbeats 4000000 in
set_option maxRecDepth 100000 in
theorem c_X3_checkRider {l : Launch} (hl : l.stackTraces = false) {g : GP} {M : MM} {A : Nat → Nat} {M0 : MM} {σ : ST} {x0 : Int32} (hR : CM g A M0 σ M) (hB : Bd σ) : CT l g yX3_checkRider cX3_checkRider 2 (none : Option Jvm.ClassFile.FieldType) 6 92 1 6 [.ref (A 0), .int (x0)] M (pV (fun M9 => inN x0 (σ.1 7 0) = true ∧ M = M9)) (fun E M9 => E = sIO ∧ inN x0 (σ.1 7 0) = false ∧ M = M9) := by
  refine ct_of [(0, .ref (A 0)), (1, .int (x0))] (by decide) hl (Nat.le_of_ble_eq_true rfl) rfl ?_
  intro K hK F
  subst hK
  have F : Fx K g cX3_checkRider RX3 2 (none : Option Jvm.ClassFile.FieldType) [] 6 92 1 6 := F
  obtain ⟨Q, hQ⟩ : ∃ Q, Q = MQx K g (pV (fun M9 => inN x0 (σ.1 7 0) = true ∧ M = M9)) ((fun E M9 => E = sIO ∧ inN x0 (σ.1 7 0) = false ∧ M = M9)) 1 6 := ⟨_, rfl⟩
  rw [← hQ]
  have hB9 := hB
  obtain ⟨h6, h7, h18, hr8, hk96, hp96, hb16, hh⟩ := hB9
  refine x_iload_n F 1 dX3_checkRider_0 rfl ?_
  refine x_if_lt F 12 dX3_checkRider_1 (by decide) (fun c1 => ?_) (fun c1 => ?_)
  · rw [hQ]
    exact x_throwW F th_IO (text := "no such rider") (by decide +kernel) dX3_checkRider_12 dX3_checkRider_15 dX3_checkRider_16 dX3_checkRider_19 dX3_checkRider_22 ⟨by decide, Nat.le_of_ble_eq_true rfl, by decide, by decide⟩ (⟨rfl, by first | exact inN_lo c1 | exact inN_hi (by omega) c9, rfl⟩)
  · refine x_iload_n F 1 dX3_checkRider_4 rfl ?_
    refine x_aload_n F 0 dX3_checkRider_5 rfl ?_
    refine x_fget F f_X3_19 hR.c (v := .int (nI (σ.1 7 0))) dX3_checkRider_6 rfl ?_
    refine x_icmp_lt F 23 dX3_checkRider_9 (by decide) (fun c9 => ?_) (fun c9 => ?_)
    · rw [hQ]
      exact x_vret F dX3_checkRider_23 (by decide) ⟨rfl, inN_in (by omega) c1 c9, rfl⟩
    · rw [hQ]
      exact x_throwW F th_IO (text := "no such rider") (by decide +kernel) dX3_checkRider_12 dX3_checkRider_15 dX3_checkRider_16 dX3_checkRider_19 dX3_checkRider_22 ⟨by decide, Nat.le_of_ble_eq_true rfl, by decide, by decide⟩ (⟨rfl, by first | exact inN_lo c1 | exact inN_hi (by omega) c9, rfl⟩)
set_option maxHeartbeats 4000000 in
set_option maxRecDepth 100000 in
theorem c_X3_entryAt {l : Launch} (hl : l.stackTraces = false) {g : GP} {M : MM} {A : Nat → Nat} {M0 : MM} {σ : ST} {x0 y0 : Int32} (hR : CM g A M0 σ M) (hB : Bd σ) : CT l g yX3_entryAt cX3_entryAt 4 (some (.object "RankStock$Entry")) 7 135 2 12 [.ref (A 0), .int (x0), .int (y0)] M (pQ (fun r9 M9 => (inN x0 (σ.1 18 0) && inN y0 (σ.1 7 0)) = true ∧ eO A σ (cl x0) (cl y0) = r9 ∧ M = M9)) (fun E M9 => E = sIO ∧ (inN x0 (σ.1 18 0) && inN y0 (σ.1 7 0)) = false ∧ M = M9) := by
  refine ct_of [(0, .ref (A 0)), (1, .int (x0)), (2, .int (y0))] (by decide) hl (Nat.le_of_ble_eq_true rfl) rfl ?_
  intro K hK F
  subst hK
  have F : Fx K g cX3_entryAt RX3 4 (some (.object "RankStock$Entry")) [] 7 135 2 12 := F
  obtain ⟨Q, hQ⟩ : ∃ Q, Q = MQx K g (pQ (fun r9 M9 => (inN x0 (σ.1 18 0) && inN y0 (σ.1 7 0)) = true ∧ eO A σ (cl x0) (cl y0) = r9 ∧ M = M9)) ((fun E M9 => E = sIO ∧ (inN x0 (σ.1 18 0) && inN y0 (σ.1 7 0)) = false ∧ M = M9)) 2 12 := ⟨_, rfl⟩
  rw [← hQ]
  have hB9 := hB
  obtain ⟨h6, h7, h18, hr8, hk96, hp96, hb16, hh⟩ := hB9
  refine x_aload_n F 0 dX3_entryAt_0 rfl ?_
  refine x_iload_n F 1 dX3_entryAt_1 rfl ?_
  rw [hQ]
  refine x_callV F s_X3_75 hR.c rfl rfl (c_X3_rodeoAt F.nt hR hB) rfl dX3_entryAt_2 (by decide) (by decide) (Nat.le_of_ble_eq_true rfl) (x_outX F (by decide) (by rintro E M9 ⟨k1, k2, k3⟩; exact ⟨k1, by rw [k2]; rfl, k3⟩)) (kr fun r9 M9 hp9 => ?_)
  rw [← hQ]
  obtain ⟨hin9, rfl, rfl⟩ := hp9
  obtain ⟨r, hr, rfl⟩ := inN_t (by omega) hin9
  rw [cl_nI (by omega)]
  refine x_astore_n F [(3, .ref (A (30 + r))), (0, .ref (A 0)), (1, .int (nI (r))), (2, .int (y0))] dX3_entryAt_5 (by decide) rfl ?_
  refine x_aload_n F 1 dX3_entryAt_6 rfl ?_
  refine x_iload_n F 3 dX3_entryAt_7 rfl ?_
  rw [hQ]
  refine x_callV F s_X3_236 hR.c rfl rfl (c_X3_checkRider F.nt hR hB) rfl dX3_entryAt_8 (by decide) (by decide) (Nat.le_of_ble_eq_true rfl) (x_outX F (by decide) (by rintro E M9 ⟨k1, k2, k3⟩; exact ⟨k1, by rw [k2, Bool.and_false], k3⟩)) (kv fun M9 hp8 => ?_)
  rw [← hQ]
  obtain ⟨hin8, rfl⟩ := hp8
  obtain ⟨j, hj, rfl⟩ := inN_t (by omega) hin8
  refine x_aload_n F 0 dX3_entryAt_11 rfl ?_
  refine x_iload_n F 3 dX3_entryAt_12 rfl ?_
  refine x_callV F s_X3_258 (hR.r (by omega : r < σ.1 18 0) (by omega)) rfl rfl (c_X2_entryOf F.nt hR hB (by omega) (by omega)) rfl dX3_entryAt_13 (by decide) (by decide) (Nat.le_of_ble_eq_true rfl) x_noX (kq fun r_3 M2_3 hp_3 => ?_)
  obtain ⟨rfl, rfl⟩ := hp_3
  rw [hQ]
  rcases ho : eO A σ r j with _ | y9
  · exact x_aretN F rfl (Or.inl ⟨_, rfl⟩) dX3_entryAt_16 (by decide) ⟨none, rfl, by rw [hin9, hin8]; rfl, by rw [cl_nI (by omega), cl_nI (by omega)]; exact ho, rfl⟩
  · exact x_aret F rfl (Or.inl ⟨_, rfl⟩) dX3_entryAt_16 (by decide) ⟨some y9, rfl, by rw [hin9, hin8]; rfl, by rw [cl_nI (by omega), cl_nI (by omega)]; exact ho, rfl⟩
set_option maxHeartbeats 4000000 in
set_option maxRecDepth 100000 in
theorem c_X0_isAheadOf {l : Launch} (hl : l.stackTraces = false) {g : GP} {M : MM} {A : Nat → Nat} {M0 : MM} {σ : ST} {b o9 : Nat} (hR : CM g A M0 σ M) (hB : Bd σ) (hb : b < σ.1 6 0) (ho : o9 < σ.1 6 0) : CT l g yX0_isAheadOf cX0_isAheadOf 4 (some .boolean) 1 21 0 0 [.ref (A (10 + b)), .ref (A (10 + o9))] M (pI (fun r9 M9 => nI (bz (ahdS σ b o9)) = r9 ∧ M = M9)) nX := by
  refine ct_of [(0, .ref (A (10 + b))), (1, .ref (A (10 + o9)))] (by decide) hl (Nat.le_of_ble_eq_true rfl) rfl ?_
  intro K hK F
  subst hK
  have F : Fx K g cX0_isAheadOf RX0 4 (some .boolean) [] 1 21 0 0 := F
  obtain ⟨Q, hQ⟩ : ∃ Q, Q = MQx K g (pI (fun r9 M9 => nI (bz (ahdS σ b o9)) = r9 ∧ M = M9)) nX 0 0 := ⟨_, rfl⟩
  rw [← hQ]
  have hB9 := hB
  obtain ⟨h6, h7, h18, hr8, hk96, hp96, hb16, hh⟩ := hB9
  have q1 := hb16 b (by omega)
  have q2 := hb16 o9 (by omega)
  have m1 : σ.1 3 b * σ.1 2 o9 ≤ 512 * 512 := Nat.mul_le_mul q1.2.2.1 q2.2.1
  have m2 : σ.1 3 o9 * σ.1 2 b ≤ 512 * 512 := Nat.mul_le_mul q2.2.2.1 q1.2.1
  have m3 : σ.1 4 b * σ.1 2 o9 ≤ 25600 * 512 := Nat.mul_le_mul q1.2.2.2 q2.2.1
  have m4 : σ.1 4 o9 * σ.1 2 b ≤ 25600 * 512 := Nat.mul_le_mul q2.2.2.2 q1.2.1
  refine x_aload_n F 0 dX0_isAheadOf_0 rfl ?_
  refine x_fget F f_X0_29 (hR.b (by omega : b < σ.1 6 0) (by omega)) (v := .int (nI (σ.1 3 b))) dX0_isAheadOf_1 rfl ?_
  refine x_aload_n F 1 dX0_isAheadOf_4 rfl ?_
  refine x_fget F f_X0_32 (hR.b (by omega : o9 < σ.1 6 0) (by omega)) (v := .int (nI (σ.1 2 o9))) dX0_isAheadOf_5 rfl ?_
  refine x_imulN F dX0_isAheadOf_8 ?_
  refine x_aload_n F 1 dX0_isAheadOf_9 rfl ?_
  refine x_fget F f_X0_29 (hR.b (by omega : o9 < σ.1 6 0) (by omega)) (v := .int (nI (σ.1 3 o9))) dX0_isAheadOf_10 rfl ?_
  refine x_aload_n F 0 dX0_isAheadOf_13 rfl ?_
  refine x_fget F f_X0_32 (hR.b (by omega : b < σ.1 6 0) (by omega)) (v := .int (nI (σ.1 2 b))) dX0_isAheadOf_14 rfl ?_
  refine x_imulN F dX0_isAheadOf_17 ?_
  refine x_callS F s_X0_35 rfl (c_J6_compare_7cf53 F.nt (by omega) (by omega)) rfl dX0_isAheadOf_18 (by decide) (by decide) (Nat.le_of_ble_eq_true rfl) x_noX (ki fun r M2 hp => ?_)
  obtain ⟨rfl, rfl⟩ := hp
  refine x_istore_n F [(2, .int (cmpS ((σ.1 3 b) * (σ.1 2 o9)) ((σ.1 3 o9) * (σ.1 2 b)))), (0, .ref (A (10 + b))), (1, .ref (A (10 + o9)))] dX0_isAheadOf_21 (by decide) rfl ?_
  refine x_iload_n F 0 dX0_isAheadOf_22 rfl ?_
  refine x_if_eq F 36 dX0_isAheadOf_23 (by decide) (fun c23 => ?_) (fun c23 => ?_)
  · have c23 := cmpS_0.mp c23
    refine x_aload_n F 1 dX0_isAheadOf_36 rfl ?_
    refine x_fget F f_X0_41 (hR.b (by omega : b < σ.1 6 0) (by omega)) (v := .int (nI (σ.1 4 b))) dX0_isAheadOf_37 rfl ?_
    refine x_aload_n F 2 dX0_isAheadOf_40 rfl ?_
    refine x_fget F f_X0_32 (hR.b (by omega : o9 < σ.1 6 0) (by omega)) (v := .int (nI (σ.1 2 o9))) dX0_isAheadOf_41 rfl ?_
    refine x_imulN F dX0_isAheadOf_44 ?_
    refine x_aload_n F 2 dX0_isAheadOf_45 rfl ?_
    refine x_fget F f_X0_41 (hR.b (by omega : o9 < σ.1 6 0) (by omega)) (v := .int (nI (σ.1 4 o9))) dX0_isAheadOf_46 rfl ?_
    refine x_aload_n F 1 dX0_isAheadOf_49 rfl ?_
    refine x_fget F f_X0_32 (hR.b (by omega : b < σ.1 6 0) (by omega)) (v := .int (nI (σ.1 2 b))) dX0_isAheadOf_50 rfl ?_
    refine x_imulN F dX0_isAheadOf_53 ?_
    refine x_callS F s_X0_35 rfl (c_J6_compare_7cf53 F.nt (by omega) (by omega)) rfl dX0_isAheadOf_54 (by decide) (by decide) (Nat.le_of_ble_eq_true rfl) x_noX (ki fun r_2 M2_2 hp_2 => ?_)
    obtain ⟨rfl, rfl⟩ := hp_2
    refine x_istore_n F [(3, .int (cmpS ((σ.1 4 b) * (σ.1 2 o9)) ((σ.1 4 o9) * (σ.1 2 b)))), (2, .int (cmpS ((σ.1 3 b) * (σ.1 2 o9)) ((σ.1 3 o9) * (σ.1 2 b)))), (0, .ref (A (10 + b))), (1, .ref (A (10 + o9)))] dX0_isAheadOf_57 (by decide) rfl ?_
    refine x_iload_n F 0 dX0_isAheadOf_58 rfl ?_
    refine x_if_eq F 72 dX0_isAheadOf_59 (by decide) (fun c59 => ?_) (fun c59 => ?_)
    · have c59 := cmpS_0.mp c59
      refine x_aload_n F 2 dX0_isAheadOf_72 rfl ?_
      refine x_fget F f_X0_7 (hR.b (by omega : b < σ.1 6 0) (by omega)) (v := .int (nI (b))) dX0_isAheadOf_73 rfl ?_
      refine x_aload_n F 3 dX0_isAheadOf_76 rfl ?_
      refine x_fget F f_X0_7 (hR.b (by omega : o9 < σ.1 6 0) (by omega)) (v := .int (nI (o9))) dX0_isAheadOf_77 rfl ?_
      refine x_icmp_ge F 87 dX0_isAheadOf_80 (by decide) (fun c80 => ?_) (fun c80 => ?_)
      · have c80 := (nI_leI (by omega) (by omega)).mp c80
        have c80b := Nat.not_lt.mpr c80
        refine x_iconst F (nI 0) dX0_isAheadOf_87 (by decide) ?_
        rw [hQ]
        exact x_zret F dX0_isAheadOf_88 (by decide) (Or.inl rfl) ⟨_, rfl, by simp [ahdS, bz, *], rfl⟩
      · have c80 := mt (nI_leI (by omega) (by omega)).mpr c80
        have c80b := Nat.not_le.mp c80
        refine x_iconst F (nI 1) dX0_isAheadOf_83 (by decide) ?_
        refine x_goto F 88 dX0_isAheadOf_84 (by decide) ?_
        rw [hQ]
        exact x_zret F dX0_isAheadOf_88 (by decide) (Or.inr rfl) ⟨_, rfl, by simp [ahdS, bz, *], rfl⟩
    · have c59 := mt cmpS_0.mpr c59
      refine x_iload_n F 0 dX0_isAheadOf_62 rfl ?_
      refine x_if_le F 70 dX0_isAheadOf_63 (by decide) (fun c63 => ?_) (fun c63 => ?_)
      · have c63 := Nat.not_lt.mpr (cmpS_le.mp c63)
        refine x_iconst F (nI 0) dX0_isAheadOf_70 (by decide) ?_
        rw [hQ]
        exact x_zret F dX0_isAheadOf_71 (by decide) (Or.inl rfl) ⟨_, rfl, by simp [ahdS, bz, *], rfl⟩
      · have c63 := Nat.not_le.mp (mt cmpS_le.mpr c63)
        refine x_iconst F (nI 1) dX0_isAheadOf_66 (by decide) ?_
        refine x_goto F 71 dX0_isAheadOf_67 (by decide) ?_
        rw [hQ]
        exact x_zret F dX0_isAheadOf_71 (by decide) (Or.inr rfl) ⟨_, rfl, by simp [ahdS, bz, *], rfl⟩
  · have c23 := mt cmpS_0.mpr c23
    refine x_iload_n F 0 dX0_isAheadOf_26 rfl ?_
    refine x_if_le F 34 dX0_isAheadOf_27 (by decide) (fun c27 => ?_) (fun c27 => ?_)
    · have c27 := Nat.not_lt.mpr (cmpS_le.mp c27)
      refine x_iconst F (nI 0) dX0_isAheadOf_34 (by decide) ?_
      rw [hQ]
      exact x_zret F dX0_isAheadOf_35 (by decide) (Or.inl rfl) ⟨_, rfl, by simp [ahdS, bz, *], rfl⟩
    · have c27 := Nat.not_le.mp (mt cmpS_le.mpr c27)
      refine x_iconst F (nI 1) dX0_isAheadOf_30 (by decide) ?_
      refine x_goto F 35 dX0_isAheadOf_31 (by decide) ?_
      rw [hQ]
      exact x_zret F dX0_isAheadOf_35 (by decide) (Or.inr rfl) ⟨_, rfl, by simp [ahdS, bz, *], rfl⟩
set_option maxHeartbeats 4000000 in
set_option maxRecDepth 100000 in
theorem c_X1_beastNumber {l : Launch} (hl : l.stackTraces = false) {g : GP} {M : MM} {A : Nat → Nat} {M0 : MM} {σ : ST} {k : Nat} (hR : CM g A M0 σ M) (hB : Bd σ) (hbs : IBe σ) (he : σ.1 41 k = 1) (hk : k < 96) : CT l g yX1_beastNumber cX1_beastNumber 1 (some .int) 0 0 0 0 [.ref (A (100 + k))] M (pI (fun r9 M9 => σ.2.1 23 k = r9 ∧ M = M9)) nX := by
  refine ct_of [(0, .ref (A (100 + k)))] (by decide) hl (Nat.le_of_ble_eq_true rfl) rfl ?_
  intro K hK F
  subst hK
  have F : Fx K g cX1_beastNumber RX1 1 (some .int) [] 0 0 0 0 := F
  obtain ⟨Q, hQ⟩ : ∃ Q, Q = MQx K g (pI (fun r9 M9 => σ.2.1 23 k = r9 ∧ M = M9)) nX 0 0 := ⟨_, rfl⟩
  rw [← hQ]
  have hB9 := hB
  obtain ⟨h6, h7, h18, hr8, hk96, hp96, hb16, hh⟩ := hB9
  refine x_aload_n F 0 dX1_beastNumber_0 rfl ?_
  refine x_fget F f_X1_27 (hR.e he (by omega)) (v := va_rf (enB A (σ.2.1 23 k))) dX1_beastNumber_1 rfl ?_
  by_cases hbk : σ.2.1 23 k = -1
  · refine x_rv0 (y := .null) (enB_f hbk) ?_
    refine x_ifnonnullN F dX1_beastNumber_4 ?_
    refine x_iconst F ((-1)) dX1_beastNumber_7 (by decide) ?_
    refine x_goto F 18 dX1_beastNumber_8 (by decide) ?_
    rw [hQ]
    exact x_iret F dX1_beastNumber_18 (by decide) ⟨_, rfl, by first | exact hbk | exact eb9, rfl⟩
  · obtain ⟨b9, hb9, eb9⟩ := hbs k (by omega) (he) hbk
    refine x_rv0 (y := .ref (A (10 + b9))) (enB_t eb9 (by omega)) ?_
    refine x_ifnonnull F 11 dX1_beastNumber_4 (by decide) ?_
    refine x_aload_n F 0 dX1_beastNumber_11 rfl ?_
    refine x_fget F f_X1_27 (hR.e he (by omega)) (v := va_rf (enB A (σ.2.1 23 k))) dX1_beastNumber_12 rfl ?_
    refine x_rv0 (y := .ref (A (10 + b9))) (enB_t eb9 (by omega)) ?_
    refine x_fget F f_X1_31 (hR.b (by omega : b9 < σ.1 6 0) (by omega)) (v := .int (nI (b9))) dX1_beastNumber_15 rfl ?_
    rw [hQ]
    exact x_iret F dX1_beastNumber_18 (by decide) ⟨_, rfl, by first | exact hbk | exact eb9, rfl⟩
set_option maxHeartbeats 4000000 in
set_option maxRecDepth 100000 in
theorem c_X1_loseScore {l : Launch} (hl : l.stackTraces = false) {g : GP} {M : MM} {A : Nat → Nat} {M0 : MM} {σ : ST} {k : Nat} (hR : CM g A M0 σ M) (hB : Bd σ) (he : σ.1 41 k = 1) (hk : k < 96) : CT l g yX1_loseScore cX1_loseScore 1 (none : Option Jvm.ClassFile.FieldType) 0 0 0 0 [.ref (A (100 + k))] M (pV (fun M9 => CM g A M0 (uN (uR σ 28 k (-1)) 27 k 0) M9)) nX := by
  refine ct_of [(0, .ref (A (100 + k)))] (by decide) hl (Nat.le_of_ble_eq_true rfl) rfl ?_
  intro K hK F
  subst hK
  have F : Fx K g cX1_loseScore RX1 1 (none : Option Jvm.ClassFile.FieldType) [] 0 0 0 0 := F
  obtain ⟨Q, hQ⟩ : ∃ Q, Q = MQx K g (pV (fun M9 => CM g A M0 (uN (uR σ 28 k (-1)) 27 k 0) M9)) nX 0 0 := ⟨_, rfl⟩
  rw [← hQ]
  have hB9 := hB
  obtain ⟨h6, h7, h18, hr8, hk96, hp96, hb16, hh⟩ := hB9
  refine x_aload_n F 0 dX1_loseScore_0 rfl ?_
  refine x_iconst F ((-1)) dX1_loseScore_1 (by decide) ?_
  refine x_pX1_9 F hR (k := k) he (by omega) p_X1_24 dX1_loseScore_2 (fun M1 hR1 => ?_)
  refine x_aload_n F 0 dX1_loseScore_5 rfl ?_
  refine x_iconst F (nI 0) dX1_loseScore_6 (by decide) ?_
  refine x_pX1_8 F hR1 (k := k) he (by omega) (by omega) p_X1_40 dX1_loseScore_7 (fun M1_2 hR1_2 => ?_)
  rw [hQ]
  exact x_vret F dX1_loseScore_10 (by decide) ⟨rfl, hR1_2⟩
set_option maxHeartbeats 4000000 in
set_option maxRecDepth 100000 in
theorem c_X0_noteDraw {l : Launch} (hl : l.stackTraces = false) {g : GP} {M : MM} {A : Nat → Nat} {M0 : MM} {σ : ST} {b day : Nat} (hR : CM g A M0 σ M) (hB : Bd σ) (hb : b < σ.1 6 0) : CT l g yX0_noteDraw cX0_noteDraw 2 (none : Option Jvm.ClassFile.FieldType) 0 0 0 0 [.ref (A (10 + b)), .int (nI (day))] M (pV (fun M9 => CM g A M0 (uN (uD σ b (σ.2.2 b ||| bitD day)) 42 b (σ.1 42 b + 1)) M9)) nX := by
  refine ct_of [(0, .ref (A (10 + b))), (1, .int (nI (day)))] (by decide) hl (Nat.le_of_ble_eq_true rfl) rfl ?_
  intro K hK F
  subst hK
  have F : Fx K g cX0_noteDraw RX0 2 (none : Option Jvm.ClassFile.FieldType) [] 0 0 0 0 := F
  obtain ⟨Q, hQ⟩ : ∃ Q, Q = MQx K g (pV (fun M9 => CM g A M0 (uN (uD σ b (σ.2.2 b ||| bitD day)) 42 b (σ.1 42 b + 1)) M9)) nX 0 0 := ⟨_, rfl⟩
  rw [← hQ]
  have hB9 := hB
  obtain ⟨h6, h7, h18, hr8, hk96, hp96, hb16, hh⟩ := hB9
  refine x_aload_n F 0 dX0_noteDraw_0 rfl ?_
  refine x_dup F dX0_noteDraw_1 rfl ?_
  refine x_fget F f_X0_16 (hR.b (by omega : b < σ.1 6 0) (by omega)) (v := .long (σ.2.2 b)) dX0_noteDraw_2 rfl ?_
  refine x_lconst F 1 dX0_noteDraw_5 (by decide) ?_
  refine x_iload_n F 1 dX0_noteDraw_6 rfl ?_
  refine x_lshl F dX0_noteDraw_7 ?_
  refine x_lor F dX0_noteDraw_8 ?_
  refine x_pX0_6 F hR (i := b) (by omega : b < σ.1 6 0) (by omega) p_X0_16 dX0_noteDraw_9 (fun M1 hR1 => ?_)
  refine x_aload_n F 0 dX0_noteDraw_12 rfl ?_
  refine x_dup F dX0_noteDraw_13 rfl ?_
  refine x_fget F f_X0_20 (hR1.b (by omega : b < σ.1 6 0) (by omega)) (v := .int (nI ((uD σ b ((σ.2.2 b) ||| ((1) <<< ((nI (day)).toInt64 &&& 63)))).1 42 b))) dX0_noteDraw_14 rfl ?_
  refine x_ri0 (y := nI (σ.1 42 b)) (rfl) ?_
  refine x_iconst F (nI 1) dX0_noteDraw_17 (by decide) ?_
  refine x_iaddN F dX0_noteDraw_18 ?_
  refine x_pX0_5 F hR1 (i := b) (by omega : b < σ.1 6 0) (by omega) p_X0_20 dX0_noteDraw_19 (fun M1_2 hR1_2 => ?_)
  rw [hQ]
  exact x_vret F dX0_noteDraw_22 (by decide) ⟨rfl, hR1_2⟩
