/-! walks of the reference, by program (wip/whole/m_x4a.py) -/
set_option maxHeartbeats 4000000 in
set_option maxRecDepth 100000 in
theorem c_X4_thrown {l : Launch} (hl : l.stackTraces = false) {g : GP} {M : MM} {m : Nat → Nat} {M0 : MM} {σ : ST}  (hR : RM g m M0 σ M) : CT l g yX4_thrown cX4_thrown 1 (some .int) 0 0 0 0 [.ref (m 0)] M (pI (fun r9 M9 => nI (σ.1 0 0) = r9 ∧ M = M9)) nX := by
  refine ct_of [(0, .ref (m 0))] (by decide) hl (Nat.le_of_ble_eq_true rfl) rfl ?_
  intro K hK F
  subst hK
  have F : Fx K g cX4_thrown RX4 1 (some .int) [] 0 0 0 0 := F
  obtain ⟨Q, hQ⟩ : ∃ Q, Q = MQx K g (pI (fun r9 M9 => nI (σ.1 0 0) = r9 ∧ M = M9)) nX 0 0 := ⟨_, rfl⟩
  rw [← hQ]
  refine x_aload_n F 0 dX4_thrown_0 rfl ?_
  refine x_fget F f_X4_97 hR.1 (v := .int (nI (σ.1 0 0))) dX4_thrown_1 rfl ?_
  rw [hQ]
  exact x_iret F dX4_thrown_4 (by decide) ⟨_, rfl, rfl, rfl⟩
set_option maxHeartbeats 4000000 in
set_option maxRecDepth 100000 in
theorem c_X4_isIn {l : Launch} (hl : l.stackTraces = false) {g : GP} {M : MM} {x0 y0 z0 : Int32}  : CT l g yX4_isIn cX4_isIn 3 (some .boolean) 0 0 0 0 [.int (x0), .int (y0), .int (z0)] M (pI (fun r9 M9 => nI (bz (inR x0 y0 z0)) = r9 ∧ M = M9)) nX := by
  refine ct_of [(0, .int (x0)), (1, .int (y0)), (2, .int (z0))] (by decide) hl (Nat.le_of_ble_eq_true rfl) rfl ?_
  intro K hK F
  subst hK
  have F : Fx K g cX4_isIn RX4 3 (some .boolean) [] 0 0 0 0 := F
  obtain ⟨Q, hQ⟩ : ∃ Q, Q = MQx K g (pI (fun r9 M9 => nI (bz (inR x0 y0 z0)) = r9 ∧ M = M9)) nX 0 0 := ⟨_, rfl⟩
  rw [← hQ]
  refine x_iload_n F 0 dX4_isIn_0 rfl ?_
  refine x_iload_n F 1 dX4_isIn_1 rfl ?_
  refine x_icmp_lt F 14 dX4_isIn_2 (by decide) (fun c2 => ?_) (fun c2 => ?_)
  · have c2 := Int32.not_le.mpr c2
    refine x_iconst F (nI 0) dX4_isIn_14 (by decide) ?_
    rw [hQ]
    exact x_zret F dX4_isIn_15 (by decide) (Or.inl rfl) ⟨_, rfl, by simp [inR, bz, *], rfl⟩
  · refine x_iload_n F 0 dX4_isIn_5 rfl ?_
    refine x_iload_n F 2 dX4_isIn_6 rfl ?_
    refine x_icmp_gt F 14 dX4_isIn_7 (by decide) (fun c7 => ?_) (fun c7 => ?_)
    · have c7 := Int32.not_le.mpr c7
      refine x_iconst F (nI 0) dX4_isIn_14 (by decide) ?_
      rw [hQ]
      exact x_zret F dX4_isIn_15 (by decide) (Or.inl rfl) ⟨_, rfl, by simp [inR, bz, *], rfl⟩
    · have c2 := Int32.not_lt.mp c2
      have c7 := Int32.not_lt.mp c7
      refine x_iconst F (nI 1) dX4_isIn_10 (by decide) ?_
      refine x_goto F 15 dX4_isIn_11 (by decide) ?_
      rw [hQ]
      exact x_zret F dX4_isIn_15 (by decide) (Or.inr rfl) ⟨_, rfl, by simp [inR, bz, *], rfl⟩
set_option maxHeartbeats 4000000 in
set_option maxRecDepth 100000 in
theorem c_X4_at {l : Launch} (hl : l.stackTraces = false) {g : GP} {M : MM} {x y : Nat}  : CT l g yX4_at cX4_at 2 (some .int) 0 0 0 0 [.int (nI (x)), .int (nI (y))] M (pI (fun r9 M9 => nI (12 * x + y) = r9 ∧ M = M9)) nX := by
  refine ct_of [(0, .int (nI (x))), (1, .int (nI (y)))] (by decide) hl (Nat.le_of_ble_eq_true rfl) rfl ?_
  intro K hK F
  subst hK
  have F : Fx K g cX4_at RX4 2 (some .int) [] 0 0 0 0 := F
  obtain ⟨Q, hQ⟩ : ∃ Q, Q = MQx K g (pI (fun r9 M9 => nI (12 * x + y) = r9 ∧ M = M9)) nX 0 0 := ⟨_, rfl⟩
  rw [← hQ]
  refine x_bipush F (nI 12) dX4_at_0 (by decide) ?_
  refine x_iload_n F 0 dX4_at_2 rfl ?_
  refine x_imulN F dX4_at_3 ?_
  refine x_iload_n F 1 dX4_at_4 rfl ?_
  refine x_iaddN F dX4_at_5 ?_
  rw [hQ]
  exact x_iret F dX4_at_6 (by decide) ⟨_, rfl, rfl, rfl⟩
set_option maxHeartbeats 4000000 in
set_option maxRecDepth 100000 in
theorem c_X4_apart {l : Launch} (hl : l.stackTraces = false) {g : GP} {M : MM} {x y : Nat} (hx : x < 1000000) (hy : y < 1000000) : CT l g yX4_apart cX4_apart 2 (some .int) 0 0 0 0 [.int (nI (x)), .int (nI (y))] M (pI (fun r9 M9 => nI (adst x y) = r9 ∧ M = M9)) nX := by
  refine ct_of [(0, .int (nI (x))), (1, .int (nI (y)))] (by decide) hl (Nat.le_of_ble_eq_true rfl) rfl ?_
  intro K hK F
  subst hK
  have F : Fx K g cX4_apart RX4 2 (some .int) [] 0 0 0 0 := F
  obtain ⟨Q, hQ⟩ : ∃ Q, Q = MQx K g (pI (fun r9 M9 => nI (adst x y) = r9 ∧ M = M9)) nX 0 0 := ⟨_, rfl⟩
  rw [← hQ]
  refine x_iload_n F 0 dX4_apart_0 rfl ?_
  refine x_iload_n F 1 dX4_apart_1 rfl ?_
  refine x_icmp_ge F 11 dX4_apart_2 (by decide) (fun c2 => ?_) (fun c2 => ?_)
  · have c2 := (nI_leI (by omega) (by omega)).mp c2
    have c2b := Nat.not_lt.mpr c2
    refine x_iload_n F 0 dX4_apart_11 rfl ?_
    refine x_iload_n F 1 dX4_apart_12 rfl ?_
    refine x_isubN F dX4_apart_13 (by omega) ?_
    rw [hQ]
    exact x_iret F dX4_apart_14 (by decide) ⟨_, rfl, by unfold adst; split <;> first | rfl | (exfalso; omega), rfl⟩
  · have c2 := mt (nI_leI (by omega) (by omega)).mpr c2
    have c2b := Nat.not_le.mp c2
    refine x_iload_n F 1 dX4_apart_5 rfl ?_
    refine x_iload_n F 0 dX4_apart_6 rfl ?_
    refine x_isubN F dX4_apart_7 (by omega) ?_
    refine x_goto F 14 dX4_apart_8 (by decide) ?_
    rw [hQ]
    exact x_iret F dX4_apart_14 (by decide) ⟨_, rfl, by unfold adst; split <;> first | rfl | (exfalso; omega), rfl⟩
set_option maxHeartbeats 4000000 in
set_option maxRecDepth 100000 in
theorem c_X4_unit {l : Launch} (hl : l.stackTraces = false) {g : GP} {M : MM} {x : Nat} (hx : x < 4) : CT l g yX4_unit cX4_unit 1 (some .int) 0 0 0 0 [.int (nI (x))] M (pI (fun r9 M9 => nI (unS x) = r9 ∧ M = M9)) nX := by
  refine ct_of [(0, .int (nI (x)))] (by decide) hl (Nat.le_of_ble_eq_true rfl) rfl ?_
  intro K hK F
  subst hK
  have F : Fx K g cX4_unit RX4 1 (some .int) [] 0 0 0 0 := F
  obtain ⟨Q, hQ⟩ : ∃ Q, Q = MQx K g (pI (fun r9 M9 => nI (unS x) = r9 ∧ M = M9)) nX 0 0 := ⟨_, rfl⟩
  rw [← hQ]
  refine x_iload_n F 0 dX4_unit_0 rfl ?_
  refine x_if_ne F 8 dX4_unit_1 (by decide) (fun c1 => ?_) (fun c1 => ?_)
  · have c1 := mt (nI_z (by omega)).mpr c1
    refine x_iload_n F 0 dX4_unit_8 rfl ?_
    refine x_iconst F (nI 1) dX4_unit_9 (by decide) ?_
    refine x_icmp_ne F 17 dX4_unit_10 (by decide) (fun c10 => ?_) (fun c10 => ?_)
    · have c10 := mt (nI_eq (by omega) (by omega)).mpr c10
      refine x_iload_n F 0 dX4_unit_17 rfl ?_
      refine x_iconst F (nI 2) dX4_unit_18 (by decide) ?_
      refine x_icmp_ne F 27 dX4_unit_19 (by decide) (fun c19 => ?_) (fun c19 => ?_)
      · have c19 := mt (nI_eq (by omega) (by omega)).mpr c19
        refine x_bipush F (nI 125) dX4_unit_27 (by decide) ?_
        rw [hQ]
        exact x_iret F dX4_unit_29 (by decide) ⟨_, rfl, by simp [unS, *], rfl⟩
      · have c19 := (nI_eq (by omega) (by omega)).mp c19
        refine x_bipush F (nI 25) dX4_unit_22 (by decide) ?_
        refine x_goto F 29 dX4_unit_24 (by decide) ?_
        rw [hQ]
        exact x_iret F dX4_unit_29 (by decide) ⟨_, rfl, by simp [unS, *], rfl⟩
    · have c10 := (nI_eq (by omega) (by omega)).mp c10
      refine x_iconst F (nI 5) dX4_unit_13 (by decide) ?_
      refine x_goto F 29 dX4_unit_14 (by decide) ?_
      rw [hQ]
      exact x_iret F dX4_unit_29 (by decide) ⟨_, rfl, by simp [unS, *], rfl⟩
  · have c1 := (nI_z (by omega)).mp c1
    refine x_iconst F (nI 1) dX4_unit_4 (by decide) ?_
    refine x_goto F 29 dX4_unit_5 (by decide) ?_
    rw [hQ]
    exact x_iret F dX4_unit_29 (by decide) ⟨_, rfl, by simp [unS, *], rfl⟩
set_option maxHeartbeats 4000000 in
set_option maxRecDepth 100000 in
theorem c_X4_isBeast {l : Launch} (hl : l.stackTraces = false) {g : GP} {M : MM} {m : Nat → Nat} {M0 : MM} {σ : ST} {x0 : Int32} (hR : RM g m M0 σ M) (hb : σ.1 6 0 < 1000) : CT l g yX4_isBeast cX4_isBeast 2 (some .boolean) 1 22 0 0 [.ref (m 0), .int (x0)] M (pI (fun r9 M9 => nI (bz (inN x0 (σ.1 6 0))) = r9 ∧ M = M9)) nX := by
  refine ct_of [(0, .ref (m 0)), (1, .int (x0))] (by decide) hl (Nat.le_of_ble_eq_true rfl) rfl ?_
  intro K hK F
  subst hK
  have F : Fx K g cX4_isBeast RX4 2 (some .boolean) [] 1 22 0 0 := F
  obtain ⟨Q, hQ⟩ : ∃ Q, Q = MQx K g (pI (fun r9 M9 => nI (bz (inN x0 (σ.1 6 0))) = r9 ∧ M = M9)) nX 0 0 := ⟨_, rfl⟩
  rw [← hQ]
  refine x_iload_n F 1 dX4_isBeast_0 rfl ?_
  refine x_iconst F (nI 0) dX4_isBeast_1 (by decide) ?_
  refine x_aload_n F 0 dX4_isBeast_2 rfl ?_
  refine x_fget F f_X4_100 hR.1 (v := .int (nI (σ.1 6 0))) dX4_isBeast_3 rfl ?_
  refine x_iconst F (nI 1) dX4_isBeast_6 (by decide) ?_
  refine x_isub F dX4_isBeast_7 ?_
  refine x_callS F s_X4_103 rfl (c_X4_isIn F.nt ) rfl dX4_isBeast_8 (by decide) (by decide) (Nat.le_of_ble_eq_true rfl) x_noX (ki fun r M2 hp => ?_)
  obtain ⟨rfl, rfl⟩ := hp
  rw [hQ]
  exact x_zret F dX4_isBeast_11 (by decide) (bz_01 _) ⟨_, rfl, by rw [inR_N (by omega)], rfl⟩
set_option maxHeartbeats 4000000 in
set_option maxRecDepth 100000 in
theorem c_X4_isRider {l : Launch} (hl : l.stackTraces = false) {g : GP} {M : MM} {m : Nat → Nat} {M0 : MM} {σ : ST} {x0 : Int32} (hR : RM g m M0 σ M) (hb : σ.1 7 0 < 1000) : CT l g yX4_isRider cX4_isRider 2 (some .boolean) 1 22 0 0 [.ref (m 0), .int (x0)] M (pI (fun r9 M9 => nI (bz (inN x0 (σ.1 7 0))) = r9 ∧ M = M9)) nX := by
  refine ct_of [(0, .ref (m 0)), (1, .int (x0))] (by decide) hl (Nat.le_of_ble_eq_true rfl) rfl ?_
  intro K hK F
  subst hK
  have F : Fx K g cX4_isRider RX4 2 (some .boolean) [] 1 22 0 0 := F
  obtain ⟨Q, hQ⟩ : ∃ Q, Q = MQx K g (pI (fun r9 M9 => nI (bz (inN x0 (σ.1 7 0))) = r9 ∧ M = M9)) nX 0 0 := ⟨_, rfl⟩
  rw [← hQ]
  refine x_iload_n F 1 dX4_isRider_0 rfl ?_
  refine x_iconst F (nI 0) dX4_isRider_1 (by decide) ?_
  refine x_aload_n F 0 dX4_isRider_2 rfl ?_
  refine x_fget F f_X4_107 hR.1 (v := .int (nI (σ.1 7 0))) dX4_isRider_3 rfl ?_
  refine x_iconst F (nI 1) dX4_isRider_6 (by decide) ?_
  refine x_isub F dX4_isRider_7 ?_
  refine x_callS F s_X4_103 rfl (c_X4_isIn F.nt ) rfl dX4_isRider_8 (by decide) (by decide) (Nat.le_of_ble_eq_true rfl) x_noX (ki fun r M2 hp => ?_)
  obtain ⟨rfl, rfl⟩ := hp
  rw [hQ]
  exact x_zret F dX4_isRider_11 (by decide) (bz_01 _) ⟨_, rfl, by rw [inR_N (by omega)], rfl⟩
set_option maxHeartbeats 4000000 in
set_option maxRecDepth 100000 in
theorem c_X4_isRodeo {l : Launch} (hl : l.stackTraces = false) {g : GP} {M : MM} {m : Nat → Nat} {M0 : MM} {σ : ST} {x0 : Int32} (hR : RM g m M0 σ M) (hb : σ.1 18 0 < 1000) : CT l g yX4_isRodeo cX4_isRodeo 2 (some .boolean) 1 22 0 0 [.ref (m 0), .int (x0)] M (pI (fun r9 M9 => nI (bz (inN x0 (σ.1 18 0))) = r9 ∧ M = M9)) nX := by
  refine ct_of [(0, .ref (m 0)), (1, .int (x0))] (by decide) hl (Nat.le_of_ble_eq_true rfl) rfl ?_
  intro K hK F
  subst hK
  have F : Fx K g cX4_isRodeo RX4 2 (some .boolean) [] 1 22 0 0 := F
  obtain ⟨Q, hQ⟩ : ∃ Q, Q = MQx K g (pI (fun r9 M9 => nI (bz (inN x0 (σ.1 18 0))) = r9 ∧ M = M9)) nX 0 0 := ⟨_, rfl⟩
  rw [← hQ]
  refine x_iload_n F 1 dX4_isRodeo_0 rfl ?_
  refine x_iconst F (nI 0) dX4_isRodeo_1 (by decide) ?_
  refine x_aload_n F 0 dX4_isRodeo_2 rfl ?_
  refine x_fget F f_X4_110 hR.1 (v := .int (nI (σ.1 18 0))) dX4_isRodeo_3 rfl ?_
  refine x_iconst F (nI 1) dX4_isRodeo_6 (by decide) ?_
  refine x_isub F dX4_isRodeo_7 ?_
  refine x_callS F s_X4_103 rfl (c_X4_isIn F.nt ) rfl dX4_isRodeo_8 (by decide) (by decide) (Nat.le_of_ble_eq_true rfl) x_noX (ki fun r M2 hp => ?_)
  obtain ⟨rfl, rfl⟩ := hp
  rw [hQ]
  exact x_zret F dX4_isRodeo_11 (by decide) (bz_01 _) ⟨_, rfl, by rw [inR_N (by omega)], rfl⟩
set_option maxHeartbeats 4000000 in
set_option maxRecDepth 100000 in
theorem c_X4_placedIn {l : Launch} (hl : l.stackTraces = false) {g : GP} {M : MM} {m : Nat → Nat} {M0 : MM} {σ : ST} {r : Nat} (hR : RM g m M0 σ M) (hr : r < 8) : CT l g yX4_placedIn cX4_placedIn 4 (some .int) 1 21 0 0 [.ref (m 0), .int (nI (r))] M (pI (fun r9 M9 => nI (plIn σ r) = r9 ∧ M = M9)) nX := by
  refine ct_of [(0, .ref (m 0)), (1, .int (nI (r)))] (by decide) hl (Nat.le_of_ble_eq_true rfl) rfl ?_
  intro K hK F
  subst hK
  have F : Fx K g cX4_placedIn RX4 4 (some .int) [] 1 21 0 0 := F
  obtain ⟨Q, hQ⟩ : ∃ Q, Q = MQx K g (pI (fun r9 M9 => nI (plIn σ r) = r9 ∧ M = M9)) nX 0 0 := ⟨_, rfl⟩
  rw [← hQ]
  refine x_iconst F (nI 0) dX4_placedIn_0 (by decide) ?_
  refine x_istore_n F [(2, .int (nI (0))), (0, .ref (m 0)), (1, .int (nI (r)))] dX4_placedIn_1 (by decide) rfl ?_
  refine x_iload_n F 2 dX4_placedIn_2 rfl ?_
  refine x_iconst F (nI 0) dX4_placedIn_3 (by decide) ?_
  refine x_callS F s_X4_118 rfl (c_X4_at F.nt ) rfl dX4_placedIn_4 (by decide) (by decide) (Nat.le_of_ble_eq_true rfl) x_noX (ki fun r M2 hp => ?_)
  obtain ⟨rfl, rfl⟩ := hp
  refine x_istore_n F [(3, .int (nI (12 * r + 0))), (2, .int (nI (0))), (0, .ref (m 0)), (1, .int (nI (r)))] dX4_placedIn_7 (by decide) rfl ?_
  have LP8 : ∀ i, i ≤ 12 → ∀ (v8_2 : Int32) (v8_3 : Int32), v8_2 = nI (fb_ct (fun j => decide (¬ σ.2.1 22 (12 * r + j) = -1)) i) → v8_3 = nI (12 * r + i) → XW K g 4 Q M 0 0 8 [(3, .int (v8_3)), (2, .int (v8_2)), (0, .ref (m 0)), (1, .int (nI (r)))] [] := by
    refine x_loop 12 _ (fun i hi ihi => ?_)
    intro v8_2 v8_3 e8_2 e8_3
    subst e8_2
    subst e8_3
    refine x_iload_n F 0 dX4_placedIn_8 rfl ?_
    refine x_iload_n F 3 dX4_placedIn_9 rfl ?_
    refine x_iconst F (nI 1) dX4_placedIn_10 (by decide) ?_
    refine x_iaddN F dX4_placedIn_11 ?_
    refine x_iconst F (nI 0) dX4_placedIn_12 (by decide) ?_
    refine x_callS F s_X4_118 rfl (c_X4_at F.nt ) rfl dX4_placedIn_13 (by decide) (by decide) (Nat.le_of_ble_eq_true rfl) x_noX (ki fun r_2 M2_2 hp_2 => ?_)
    obtain ⟨rfl, rfl⟩ := hp_2
    refine x_icmp_ge F 43 dX4_placedIn_16 (by decide) (fun c16 => ?_) (fun c16 => ?_)
    · have c16 := (nI_leI (by omega) (by omega)).mp c16
      have c16b := Nat.not_lt.mpr c16
      refine x_iload_n F 1 dX4_placedIn_43 rfl ?_
      rw [hQ]
      exact x_iret F dX4_placedIn_44 (by decide) ⟨_, rfl, by have h9 : i = 12 := (by omega); subst h9; rfl, rfl⟩
    · have c16 := mt (nI_leI (by omega) (by omega)).mpr c16
      have c16b := Nat.not_le.mp c16
      refine x_iload_n F 1 dX4_placedIn_19 rfl ?_
      refine x_aload_n F 2 dX4_placedIn_20 rfl ?_
      refine x_fget F f_X4_65 hR.1 (v := .ref (rA m 22)) dX4_placedIn_21 rfl ?_
      refine x_iload_n F 0 dX4_placedIn_24 rfl ?_
      refine x_mldR F hR 22 rfl (fun _ _ => rfl) dX4_placedIn_25 (by show _ < 96; omega) ?_
      refine x_iconst F ((-1)) dX4_placedIn_26 (by decide) ?_
      refine x_icmp_ne F 34 dX4_placedIn_27 (by decide) (fun c27 => ?_) (fun c27 => ?_)
      · refine x_iconst F (nI 1) dX4_placedIn_34 (by decide) ?_
        refine x_iaddN F dX4_placedIn_35 ?_
        refine x_istore_n F [(2, .int (nI ((fb_ct (fun j => decide (¬ σ.2.1 22 (12 * r + j) = -1)) i) + 1))), (3, .int (nI (12 * r + i))), (0, .ref (m 0)), (1, .int (nI (r)))] dX4_placedIn_36 (by decide) rfl ?_
        refine x_iinc F 1 [(3, .int (nI (12 * r + i + 1))), (2, .int (nI ((fb_ct (fun j => decide (¬ σ.2.1 22 (12 * r + j) = -1)) i) + 1))), (0, .ref (m 0)), (1, .int (nI (r)))] dX4_placedIn_37 rfl (iincN (12 * r + i) 1) (by decide) rfl ?_
        refine x_goto F 8 dX4_placedIn_40 (by decide) ?_
        exact ihi (by omega) _ _ (by simp [fb_ct_succ, *]) (rfl)
      · refine x_iconst F (nI 0) dX4_placedIn_30 (by decide) ?_
        refine x_goto F 35 dX4_placedIn_31 (by decide) ?_
        refine x_iaddN F dX4_placedIn_35 ?_
        refine x_istore_n F [(2, .int (nI ((fb_ct (fun j => decide (¬ σ.2.1 22 (12 * r + j) = -1)) i) + 0))), (3, .int (nI (12 * r + i))), (0, .ref (m 0)), (1, .int (nI (r)))] dX4_placedIn_36 (by decide) rfl ?_
        refine x_iinc F 1 [(3, .int (nI (12 * r + i + 1))), (2, .int (nI ((fb_ct (fun j => decide (¬ σ.2.1 22 (12 * r + j) = -1)) i) + 0))), (0, .ref (m 0)), (1, .int (nI (r)))] dX4_placedIn_37 rfl (iincN (12 * r + i) 1) (by decide) rfl ?_
        refine x_goto F 8 dX4_placedIn_40 (by decide) ?_
        exact ihi (by omega) _ _ (by simp [fb_ct_succ, *]) (rfl)
  exact LP8 0 (by omega) _ _ (rfl) (rfl)
set_option maxHeartbeats 4000000 in
set_option maxRecDepth 100000 in
theorem c_X4_pot {l : Launch} (hl : l.stackTraces = false) {g : GP} {M : MM} {m : Nat → Nat} {M0 : MM} {σ : ST} {r : Nat} (hR : RM g m M0 σ M) (hr : r < 8) (hs : σ.1 15 r < 1000) : CT l g yX4_pot cX4_pot 2 (some .int) 2 44 0 0 [.ref (m 0), .int (nI (r))] M (pI (fun r9 M9 => nI (potS σ r) = r9 ∧ M = M9)) nX := by
  refine ct_of [(0, .ref (m 0)), (1, .int (nI (r)))] (by decide) hl (Nat.le_of_ble_eq_true rfl) rfl ?_
  intro K hK F
  subst hK
  have F : Fx K g cX4_pot RX4 2 (some .int) [] 2 44 0 0 := F
  obtain ⟨Q, hQ⟩ : ∃ Q, Q = MQx K g (pI (fun r9 M9 => nI (potS σ r) = r9 ∧ M = M9)) nX 0 0 := ⟨_, rfl⟩
  rw [← hQ]
  refine x_aload_n F 0 dX4_pot_0 rfl ?_
  refine x_fget F f_X4_47 hR.1 (v := .ref (rA m 15)) dX4_pot_1 rfl ?_
  refine x_iload_n F 1 dX4_pot_4 rfl ?_
  refine x_mld F hR 15 rfl (fun _ _ => rfl) dX4_pot_5 (by show _ < 8; omega) ?_
  refine x_if_ne F 13 dX4_pot_6 (by decide) (fun c6 => ?_) (fun c6 => ?_)
  · have c6 := mt (nI_z (by omega)).mpr c6
    refine x_aload_n F 0 dX4_pot_13 rfl ?_
    refine x_fget F f_X4_41 hR.1 (v := .ref (rA m 13)) dX4_pot_14 rfl ?_
    refine x_iload_n F 1 dX4_pot_17 rfl ?_
    refine x_mld F hR 13 rfl (fun _ _ => rfl) dX4_pot_18 (by show _ < 8; omega) ?_
    refine x_aload_n F 0 dX4_pot_19 rfl ?_
    refine x_fget F f_X4_44 hR.1 (v := .ref (rA m 14)) dX4_pot_20 rfl ?_
    refine x_iload_n F 1 dX4_pot_23 rfl ?_
    refine x_mld F hR 14 rfl (fun _ _ => rfl) dX4_pot_24 (by show _ < 8; omega) ?_
    refine x_aload_n F 0 dX4_pot_25 rfl ?_
    refine x_iload_n F 1 dX4_pot_26 rfl ?_
    refine x_callV F s_X4_122 hR.1 rfl rfl (c_X4_placedIn F.nt hR (by omega)) rfl dX4_pot_27 (by decide) (by decide) (Nat.le_of_ble_eq_true rfl) x_noX (ki fun r M2 hp => ?_)
    obtain ⟨rfl, rfl⟩ := hp
    refine x_imulN F dX4_pot_30 ?_
    refine x_iaddN F dX4_pot_31 ?_
    rw [hQ]
    exact x_iret F dX4_pot_32 (by decide) ⟨_, rfl, by simp [potS, *], rfl⟩
  · have c6 := (nI_z (by omega)).mp c6
    refine x_iconst F (nI 0) dX4_pot_9 (by decide) ?_
    refine x_goto F 32 dX4_pot_10 (by decide) ?_
    rw [hQ]
    exact x_iret F dX4_pot_32 (by decide) ⟨_, rfl, by simp [potS, *], rfl⟩
set_option maxHeartbeats 4000000 in
set_option maxRecDepth 100000 in
theorem c_X4_tells {l : Launch} (hl : l.stackTraces = false) {g : GP} {M : MM} {m : Nat → Nat} {M0 : MM} {σ : ST} {r : Nat} {x0 : Int32} (hR : RM g m M0 σ M) (hr : r < 8) (hs : σ.1 15 r < 1000) : CT l g yX4_tells cX4_tells 3 (some .int) 3 65 0 0 [.ref (m 0), .int (nI (r)), .int (x0)] M (pI (fun r9 M9 => tellsS σ r x0 = r9 ∧ M = M9)) nX := by
  refine ct_of [(0, .ref (m 0)), (1, .int (nI (r))), (2, .int (x0))] (by decide) hl (Nat.le_of_ble_eq_true rfl) rfl ?_
  intro K hK F
  subst hK
  have F : Fx K g cX4_tells RX4 3 (some .int) [] 3 65 0 0 := F
  obtain ⟨Q, hQ⟩ : ∃ Q, Q = MQx K g (pI (fun r9 M9 => tellsS σ r x0 = r9 ∧ M = M9)) nX 0 0 := ⟨_, rfl⟩
  rw [← hQ]
  refine x_iload_n F 2 dX4_tells_0 rfl ?_
  by_cases y0 : x0 = 0
  · subst y0
    refine x_tableIn F 32 dX4_tells_1 (by decide) (by decide) rfl (by decide) ?_
    refine x_aload_n F 0 dX4_tells_32 rfl ?_
    refine x_fget F f_X4_47 hR.1 (v := .ref (rA m 15)) dX4_tells_33 rfl ?_
    refine x_iload_n F 1 dX4_tells_36 rfl ?_
    refine x_mld F hR 15 rfl (fun _ _ => rfl) dX4_tells_37 (by show _ < 8; omega) ?_
    rw [hQ]
    exact x_iret F dX4_tells_38 (by decide) ⟨_, rfl, by simp [tellsS, *], rfl⟩
  by_cases y1 : x0 = 1
  · subst y1
    refine x_tableIn F 39 dX4_tells_1 (by decide) (by decide) rfl (by decide) ?_
    refine x_aload_n F 0 dX4_tells_39 rfl ?_
    refine x_fget F f_X4_53 hR.1 (v := .ref (rA m 17)) dX4_tells_40 rfl ?_
    refine x_iload_n F 1 dX4_tells_43 rfl ?_
    refine x_mld F hR 17 rfl (fun _ _ => rfl) dX4_tells_44 (by show _ < 8; omega) ?_
    rw [hQ]
    exact x_iret F dX4_tells_45 (by decide) ⟨_, rfl, by simp [tellsS, *], rfl⟩
  by_cases y2 : x0 = 2
  · subst y2
    refine x_tableIn F 46 dX4_tells_1 (by decide) (by decide) rfl (by decide) ?_
    refine x_aload_n F 0 dX4_tells_46 rfl ?_
    refine x_iload_n F 1 dX4_tells_47 rfl ?_
    refine x_callV F s_X4_122 hR.1 rfl rfl (c_X4_placedIn F.nt hR (by omega)) rfl dX4_tells_48 (by decide) (by decide) (Nat.le_of_ble_eq_true rfl) x_noX (ki fun r M2 hp => ?_)
    obtain ⟨rfl, rfl⟩ := hp
    rw [hQ]
    exact x_iret F dX4_tells_51 (by decide) ⟨_, rfl, by simp [tellsS, *], rfl⟩
  by_cases y3 : x0 = 3
  · subst y3
    refine x_tableIn F 52 dX4_tells_1 (by decide) (by decide) rfl (by decide) ?_
    refine x_aload_n F 0 dX4_tells_52 rfl ?_
    refine x_iload_n F 1 dX4_tells_53 rfl ?_
    refine x_callV F s_X4_126 hR.1 rfl rfl (c_X4_pot F.nt hR (by omega) (by omega)) rfl dX4_tells_54 (by decide) (by decide) (Nat.le_of_ble_eq_true rfl) x_noX (ki fun r_2 M2_2 hp_2 => ?_)
    obtain ⟨rfl, rfl⟩ := hp_2
    rw [hQ]
    exact x_iret F dX4_tells_57 (by decide) ⟨_, rfl, by simp [tellsS, *], rfl⟩
  · refine x_tableOut F 58 dX4_tells_1 (by have h0 := mt (Int32.toInt_inj (x := x0) (y := 0)).mp y0; have h1 := mt (Int32.toInt_inj (x := x0) (y := 1)).mp y1; have h2 := mt (Int32.toInt_inj (x := x0) (y := 2)).mp y2; have h3 := mt (Int32.toInt_inj (x := x0) (y := 3)).mp y3; have e0 : (0 : Int32).toInt = 0 := (by decide); have e1 : (1 : Int32).toInt = 1 := (by decide); have e2 : (2 : Int32).toInt = 2 := (by decide); have e3 : (3 : Int32).toInt = 3 := (by decide); omega) (by decide) ?_
    refine x_aload_n F 0 dX4_tells_58 rfl ?_
    refine x_fget F f_X4_50 hR.1 (v := .ref (rA m 16)) dX4_tells_59 rfl ?_
    refine x_iload_n F 1 dX4_tells_62 rfl ?_
    refine x_mldR F hR 16 rfl (fun _ _ => rfl) dX4_tells_63 (by show _ < 8; omega) ?_
    rw [hQ]
    exact x_iret F dX4_tells_64 (by decide) ⟨_, rfl, by simp [tellsS, *], rfl⟩
set_option maxHeartbeats 4000000 in
set_option maxRecDepth 100000 in
theorem c_X4_hasEntered {l : Launch} (hl : l.stackTraces = false) {g : GP} {M : MM} {m : Nat → Nat} {M0 : MM} {σ : ST} {r j : Nat} (hR : RM g m M0 σ M) (hr : r < 8) (hj : j < 1000) (he : σ.1 17 r ≤ 12) (hw : ∀ k, k < 96 → σ.1 19 k < 12) : CT l g yX4_hasEntered cX4_hasEntered 5 (some .boolean) 1 21 0 0 [.ref (m 0), .int (nI (r)), .int (nI (j))] M (pI (fun r9 M9 => nI (bz (hasE σ r j)) = r9 ∧ M = M9)) nX := by
  refine ct_of [(0, .ref (m 0)), (1, .int (nI (r))), (2, .int (nI (j)))] (by decide) hl (Nat.le_of_ble_eq_true rfl) rfl ?_
  intro K hK F
  subst hK
  have F : Fx K g cX4_hasEntered RX4 5 (some .boolean) [] 1 21 0 0 := F
  obtain ⟨Q, hQ⟩ : ∃ Q, Q = MQx K g (pI (fun r9 M9 => nI (bz (hasE σ r j)) = r9 ∧ M = M9)) nX 0 0 := ⟨_, rfl⟩
  rw [← hQ]
  refine x_iconst F (nI 0) dX4_hasEntered_0 (by decide) ?_
  refine x_istore_n F [(3, .int (nI (0))), (0, .ref (m 0)), (1, .int (nI (r))), (2, .int (nI (j)))] dX4_hasEntered_1 (by decide) rfl ?_
  refine x_iconst F (nI 0) dX4_hasEntered_2 (by decide) ?_
  refine x_istore F [(4, .int (nI (0))), (3, .int (nI (0))), (0, .ref (m 0)), (1, .int (nI (r))), (2, .int (nI (j)))] dX4_hasEntered_3 (by decide) rfl ?_
  have LP5 : ∀ i, i ≤ (σ.1 17 r) → ∀ (v5_3 : Int32) (v5_4 : Int32), v5_3 = nI (bz (anyB (fun k => decide (σ.1 19 (12 * r + k) = j)) i)) → v5_4 = nI (i) → XW K g 5 Q M 0 0 5 [(4, .int (v5_4)), (3, .int (v5_3)), (0, .ref (m 0)), (1, .int (nI (r))), (2, .int (nI (j)))] [] := by
    refine x_loop ((σ.1 17 r)) _ (fun i hi ihi => ?_)
    intro v5_3 v5_4 e5_3 e5_4
    subst e5_3
    subst e5_4
    refine x_iload F 0 dX4_hasEntered_5 rfl ?_
    refine x_aload_n F 2 dX4_hasEntered_7 rfl ?_
    refine x_fget F f_X4_53 hR.1 (v := .ref (rA m 17)) dX4_hasEntered_8 rfl ?_
    refine x_iload_n F 3 dX4_hasEntered_11 rfl ?_
    refine x_mld F hR 17 rfl (fun _ _ => rfl) dX4_hasEntered_12 (by show _ < 8; omega) ?_
    refine x_icmp_ge F 47 dX4_hasEntered_13 (by decide) (fun c13 => ?_) (fun c13 => ?_)
    · have c13 := (nI_leI (by omega) (by omega)).mp c13
      have c13b := Nat.not_lt.mpr c13
      refine x_iload_n F 1 dX4_hasEntered_47 rfl ?_
      rw [hQ]
      exact x_zret F dX4_hasEntered_48 (by decide) (bz_01 _) ⟨_, rfl, by have h9 : i = σ.1 17 r := (by omega); subst h9; rfl, rfl⟩
    · have c13 := mt (nI_leI (by omega) (by omega)).mpr c13
      have c13b := Nat.not_le.mp c13
      refine x_iload_n F 1 dX4_hasEntered_16 rfl ?_
      refine x_if_ne F 35 dX4_hasEntered_17 (by decide) (fun c17 => ?_) (fun c17 => ?_)
      · have c17 := nI_bz1.mp c17
        refine x_iconst F (nI 1) dX4_hasEntered_35 (by decide) ?_
        refine x_goto F 40 dX4_hasEntered_36 (by decide) ?_
        refine x_istore_n F [(3, .int (nI (1))), (4, .int (nI (i))), (0, .ref (m 0)), (1, .int (nI (r))), (2, .int (nI (j)))] dX4_hasEntered_40 (by decide) rfl ?_
        refine x_iinc F 1 [(4, .int (nI (i + 1))), (3, .int (nI (1))), (0, .ref (m 0)), (1, .int (nI (r))), (2, .int (nI (j)))] dX4_hasEntered_41 rfl (iincN (i) 1) (by decide) rfl ?_
        refine x_goto F 5 dX4_hasEntered_44 (by decide) ?_
        exact ihi (by omega) _ _ (by simp [anyB, bz, *]) (rfl)
      · have c17 := nI_bz0.mp c17
        refine x_aload_n F 2 dX4_hasEntered_20 rfl ?_
        refine x_fget F f_X4_56 hR.1 (v := .ref (rA m 19)) dX4_hasEntered_21 rfl ?_
        refine x_iload_n F 3 dX4_hasEntered_24 rfl ?_
        refine x_iload F 0 dX4_hasEntered_25 rfl ?_
        refine x_callS F s_X4_118 rfl (c_X4_at F.nt ) rfl dX4_hasEntered_27 (by decide) (by decide) (Nat.le_of_ble_eq_true rfl) x_noX (ki fun r M2 hp => ?_)
        obtain ⟨rfl, rfl⟩ := hp
        refine x_mld F hR 19 rfl (fun _ _ => rfl) dX4_hasEntered_30 (by show _ < 96; omega) ?_
        refine x_iload_n F 4 dX4_hasEntered_31 rfl ?_
        refine x_icmp_ne F 39 dX4_hasEntered_32 (by decide) (fun c32 => ?_) (fun c32 => ?_)
        · have c32 := mt (nI_eq (by have := hw (12 * r + i) (by omega); omega) (by omega)).mpr c32
          refine x_iconst F (nI 0) dX4_hasEntered_39 (by decide) ?_
          refine x_istore_n F [(3, .int (nI (0))), (4, .int (nI (i))), (0, .ref (m 0)), (1, .int (nI (r))), (2, .int (nI (j)))] dX4_hasEntered_40 (by decide) rfl ?_
          refine x_iinc F 1 [(4, .int (nI (i + 1))), (3, .int (nI (0))), (0, .ref (m 0)), (1, .int (nI (r))), (2, .int (nI (j)))] dX4_hasEntered_41 rfl (iincN (i) 1) (by decide) rfl ?_
          refine x_goto F 5 dX4_hasEntered_44 (by decide) ?_
          exact ihi (by omega) _ _ (by simp [anyB, bz, *]) (rfl)
        · have c32 := (nI_eq (by have := hw (12 * r + i) (by omega); omega) (by omega)).mp c32
          refine x_iconst F (nI 1) dX4_hasEntered_35 (by decide) ?_
          refine x_goto F 40 dX4_hasEntered_36 (by decide) ?_
          refine x_istore_n F [(3, .int (nI (1))), (4, .int (nI (i))), (0, .ref (m 0)), (1, .int (nI (r))), (2, .int (nI (j)))] dX4_hasEntered_40 (by decide) rfl ?_
          refine x_iinc F 1 [(4, .int (nI (i + 1))), (3, .int (nI (1))), (0, .ref (m 0)), (1, .int (nI (r))), (2, .int (nI (j)))] dX4_hasEntered_41 rfl (iincN (i) 1) (by decide) rfl ?_
          refine x_goto F 5 dX4_hasEntered_44 (by decide) ?_
          exact ihi (by omega) _ _ (by simp [anyB, bz, *]) (rfl)
  exact LP5 0 (by omega) _ _ (rfl) (rfl)
set_option maxHeartbeats 4000000 in
set_option maxRecDepth 100000 in
theorem c_X4_taken {l : Launch} (hl : l.stackTraces = false) {g : GP} {M : MM} {m : Nat → Nat} {M0 : MM} {σ : ST} {r : Nat} {x0 : Int32} (hR : RM g m M0 σ M) (hr : r < 8) : CT l g yX4_taken cX4_taken 5 (some .int) 1 21 0 0 [.ref (m 0), .int (nI (r)), .int (x0)] M (pI (fun r9 M9 => nI (takS σ r x0) = r9 ∧ M = M9)) nX := by
  refine ct_of [(0, .ref (m 0)), (1, .int (nI (r))), (2, .int (x0))] (by decide) hl (Nat.le_of_ble_eq_true rfl) rfl ?_
  intro K hK F
  subst hK
  have F : Fx K g cX4_taken RX4 5 (some .int) [] 1 21 0 0 := F
  obtain ⟨Q, hQ⟩ : ∃ Q, Q = MQx K g (pI (fun r9 M9 => nI (takS σ r x0) = r9 ∧ M = M9)) nX 0 0 := ⟨_, rfl⟩
  rw [← hQ]
  refine x_iconst F (nI 0) dX4_taken_0 (by decide) ?_
  refine x_istore_n F [(3, .int (nI (0))), (0, .ref (m 0)), (1, .int (nI (r))), (2, .int (x0))] dX4_taken_1 (by decide) rfl ?_
  refine x_iload_n F 2 dX4_taken_2 rfl ?_
  refine x_iconst F (nI 0) dX4_taken_3 (by decide) ?_
  refine x_callS F s_X4_118 rfl (c_X4_at F.nt ) rfl dX4_taken_4 (by decide) (by decide) (Nat.le_of_ble_eq_true rfl) x_noX (ki fun r M2 hp => ?_)
  obtain ⟨rfl, rfl⟩ := hp
  refine x_istore F [(4, .int (nI (12 * r + 0))), (3, .int (nI (0))), (0, .ref (m 0)), (1, .int (nI (r))), (2, .int (x0))] dX4_taken_7 (by decide) rfl ?_
  have LP9 : ∀ i, i ≤ 12 → ∀ (v9_3 : Int32) (v9_4 : Int32), v9_3 = nI (fb_ct (fun j => decide (σ.2.1 22 (12 * r + j) = x0)) i) → v9_4 = nI (12 * r + i) → XW K g 5 Q M 0 0 9 [(4, .int (v9_4)), (3, .int (v9_3)), (0, .ref (m 0)), (1, .int (nI (r))), (2, .int (x0))] [] := by
    refine x_loop 12 _ (fun i hi ihi => ?_)
    intro v9_3 v9_4 e9_3 e9_4
    subst e9_3
    subst e9_4
    refine x_iload F 0 dX4_taken_9 rfl ?_
    refine x_iload_n F 3 dX4_taken_11 rfl ?_
    refine x_iconst F (nI 1) dX4_taken_12 (by decide) ?_
    refine x_iaddN F dX4_taken_13 ?_
    refine x_iconst F (nI 0) dX4_taken_14 (by decide) ?_
    refine x_callS F s_X4_118 rfl (c_X4_at F.nt ) rfl dX4_taken_15 (by decide) (by decide) (Nat.le_of_ble_eq_true rfl) x_noX (ki fun r_2 M2_2 hp_2 => ?_)
    obtain ⟨rfl, rfl⟩ := hp_2
    refine x_icmp_ge F 46 dX4_taken_18 (by decide) (fun c18 => ?_) (fun c18 => ?_)
    · have c18 := (nI_leI (by omega) (by omega)).mp c18
      have c18b := Nat.not_lt.mpr c18
      refine x_iload_n F 1 dX4_taken_46 rfl ?_
      rw [hQ]
      exact x_iret F dX4_taken_47 (by decide) ⟨_, rfl, by have h9 : i = 12 := (by omega); subst h9; rfl, rfl⟩
    · have c18 := mt (nI_leI (by omega) (by omega)).mpr c18
      have c18b := Nat.not_le.mp c18
      refine x_iload_n F 1 dX4_taken_21 rfl ?_
      refine x_aload_n F 2 dX4_taken_22 rfl ?_
      refine x_fget F f_X4_65 hR.1 (v := .ref (rA m 22)) dX4_taken_23 rfl ?_
      refine x_iload F 0 dX4_taken_26 rfl ?_
      refine x_mldR F hR 22 rfl (fun _ _ => rfl) dX4_taken_28 (by show _ < 96; omega) ?_
      refine x_iload_n F 4 dX4_taken_29 rfl ?_
      refine x_icmp_ne F 37 dX4_taken_30 (by decide) (fun c30 => ?_) (fun c30 => ?_)
      · refine x_iconst F (nI 0) dX4_taken_37 (by decide) ?_
        refine x_iaddN F dX4_taken_38 ?_
        refine x_istore_n F [(3, .int (nI ((fb_ct (fun j => decide (σ.2.1 22 (12 * r + j) = x0)) i) + 0))), (4, .int (nI (12 * r + i))), (0, .ref (m 0)), (1, .int (nI (r))), (2, .int (x0))] dX4_taken_39 (by decide) rfl ?_
        refine x_iinc F 1 [(4, .int (nI (12 * r + i + 1))), (3, .int (nI ((fb_ct (fun j => decide (σ.2.1 22 (12 * r + j) = x0)) i) + 0))), (0, .ref (m 0)), (1, .int (nI (r))), (2, .int (x0))] dX4_taken_40 rfl (iincN (12 * r + i) 1) (by decide) rfl ?_
        refine x_goto F 9 dX4_taken_43 (by decide) ?_
        exact ihi (by omega) _ _ (by simp [fb_ct_succ, *]) (rfl)
      · refine x_iconst F (nI 1) dX4_taken_33 (by decide) ?_
        refine x_goto F 38 dX4_taken_34 (by decide) ?_
        refine x_iaddN F dX4_taken_38 ?_
        refine x_istore_n F [(3, .int (nI ((fb_ct (fun j => decide (σ.2.1 22 (12 * r + j) = x0)) i) + 1))), (4, .int (nI (12 * r + i))), (0, .ref (m 0)), (1, .int (nI (r))), (2, .int (x0))] dX4_taken_39 (by decide) rfl ?_
        refine x_iinc F 1 [(4, .int (nI (12 * r + i + 1))), (3, .int (nI ((fb_ct (fun j => decide (σ.2.1 22 (12 * r + j) = x0)) i) + 1))), (0, .ref (m 0)), (1, .int (nI (r))), (2, .int (x0))] dX4_taken_40 rfl (iincN (12 * r + i) 1) (by decide) rfl ?_
        refine x_goto F 9 dX4_taken_43 (by decide) ?_
        exact ihi (by omega) _ _ (by simp [fb_ct_succ, *]) (rfl)
  exact LP9 0 (by omega) _ _ (rfl) (rfl)
