set_option maxHeartbeats 4000000 in
set_option maxRecDepth 100000 in
theorem c_X4_placed {l : Launch} (hl : l.stackTraces = false) {g : GP} {M : MM} {m : Nat → Nat} {M0 : MM} {σ : ST} {x0 y0 : Int32} (hR : RM g m M0 σ M) (hB : Bd σ) : CT l g yX4_placed cX4_placed 3 (some .int) 2 43 0 0 [.ref (m 0), .int (x0), .int (y0)] M (pI (fun r9 M9 => RM g m M0 (uN σ 0 0 (cdRR σ x0 y0)) M9 ∧ (cdRR σ x0 y0 = 0 → r9 = σ.2.1 22 (12 * cl x0 + cl y0)))) nX := by
  refine ct_of [(0, .ref (m 0)), (1, .int (x0)), (2, .int (y0))] (by decide) hl (Nat.le_of_ble_eq_true rfl) rfl ?_
  intro K hK F
  subst hK
  have F : Fx K g cX4_placed RX4 3 (some .int) [] 2 43 0 0 := F
  obtain ⟨Q, hQ⟩ : ∃ Q, Q = MQx K g (pI (fun r9 M9 => RM g m M0 (uN σ 0 0 (cdRR σ x0 y0)) M9 ∧ (cdRR σ x0 y0 = 0 → r9 = σ.2.1 22 (12 * cl x0 + cl y0)))) nX 0 0 := ⟨_, rfl⟩
  rw [← hQ]
  have hB9 := hB
  obtain ⟨h6, h7, h18, hr8, hk96, hp96, hb16, hh⟩ := hB9
  refine x_aload_n F 0 dX4_placed_0 rfl ?_
  have J22 : ∀ (vj : Int32), vj = nI (cdRR σ x0 y0) → XW K g 3 Q M 0 0 22 [(0, .ref (m 0)), (1, .int (x0)), (2, .int (y0))] [.int (vj), .ref (m 0)] := by
    intro vj ej22_vj
    subst ej22_vj
    refine x_callV F s_X4_113 hR.1 rfl rfl (c_X4_holds F.nt hR (lt_cdRR)) rfl dX4_placed_22 (by decide) (by decide) (Nat.le_of_ble_eq_true rfl) x_noX (ki fun r M2 hp => ?_)
    obtain ⟨rfl, hR0⟩ := hp
    obtain ⟨σ0, eσ0⟩ : ∃ z, z = uN σ 0 0 ((cdRR σ x0 y0)) := ⟨_, rfl⟩
    rw [← eσ0] at hR0
    have hBσ0 : Bd σ0 := eσ0 ▸ Bd_u0 hB
    refine x_if_eq F 41 dX4_placed_25 (by decide) (fun c25 => ?_) (fun c25 => ?_)
    · have c25 := nI_bz0.mp c25
      have c25 := of_decide_eq_false c25
      refine x_iconst F (nI 0) dX4_placed_41 (by decide) ?_
      rw [hQ]
      exact x_iret F dX4_placed_42 (by decide) ⟨_, rfl, eσ0 ▸ hR0, fun h9 => (by first | exact absurd h9 c25 | (rw [cl_nI (by omega), cl_nI (by omega), eσ0]; rfl))⟩
    · have c25 := nI_bz1.mp c25
      have c25 := of_decide_eq_true c25
      obtain ⟨r, j, hr, hj, rfl, rfl⟩ := cdRR_0 hB c25
      refine x_aload_n F 0 dX4_placed_28 rfl ?_
      refine x_fget F f_X4_65 hR0.1 (v := .ref (rA m 22)) dX4_placed_29 rfl ?_
      refine x_iload_n F 1 dX4_placed_32 rfl ?_
      refine x_iload_n F 2 dX4_placed_33 rfl ?_
      refine x_callS F s_X4_118 rfl (c_X4_at F.nt ) rfl dX4_placed_34 (by decide) (by decide) (Nat.le_of_ble_eq_true rfl) x_noX (ki fun r_2 M2_2 hp_2 => ?_)
      obtain ⟨rfl, rfl⟩ := hp_2
      refine x_mldR F hR0 22 rfl (fun _ _ => rfl) dX4_placed_37 (by show _ < 96; omega) ?_
      refine x_goto F 42 dX4_placed_38 (by decide) ?_
      rw [hQ]
      exact x_iret F dX4_placed_42 (by decide) ⟨_, rfl, eσ0 ▸ hR0, fun h9 => (by first | exact absurd h9 c25 | (rw [cl_nI (by omega), cl_nI (by omega), eσ0]; rfl))⟩
  refine x_aload_n F 0 dX4_placed_1 rfl ?_
  refine x_iload_n F 1 dX4_placed_2 rfl ?_
  refine x_callV F s_X4_129 hR.1 rfl rfl (c_X4_isRodeo F.nt hR (by omega)) rfl dX4_placed_3 (by decide) (by decide) (Nat.le_of_ble_eq_true rfl) x_noX (ki fun r_3 M2_3 hp_3 => ?_)
  obtain ⟨rfl, rfl⟩ := hp_3
  refine x_if_eq F 21 dX4_placed_6 (by decide) (fun c6 => ?_) (fun c6 => ?_)
  · have c6 := nI_bz0.mp c6
    refine x_iconst F (nI 1) dX4_placed_21 (by decide) ?_
    exact J22 _ (by simp [cdRR, *])
  · have c6 := nI_bz1.mp c6
    refine x_aload_n F 0 dX4_placed_9 rfl ?_
    refine x_iload_n F 2 dX4_placed_10 rfl ?_
    refine x_callV F s_X4_135 hR.1 rfl rfl (c_X4_isRider F.nt hR (by omega)) rfl dX4_placed_11 (by decide) (by decide) (Nat.le_of_ble_eq_true rfl) x_noX (ki fun r_4 M2_4 hp_4 => ?_)
    obtain ⟨rfl, rfl⟩ := hp_4
    refine x_if_eq F 21 dX4_placed_14 (by decide) (fun c14 => ?_) (fun c14 => ?_)
    · have c14 := nI_bz0.mp c14
      refine x_iconst F (nI 1) dX4_placed_21 (by decide) ?_
      exact J22 _ (by simp [cdRR, *])
    · have c14 := nI_bz1.mp c14
      refine x_iconst F (nI 0) dX4_placed_17 (by decide) ?_
      refine x_goto F 22 dX4_placed_18 (by decide) ?_
      exact J22 _ (by simp [cdRR, *])
set_option maxHeartbeats 4000000 in
set_option maxRecDepth 100000 in
theorem c_X4_drawn_ {l : Launch} (hl : l.stackTraces = false) {g : GP} {M : MM} {m : Nat → Nat} {M0 : MM} {σ : ST} {x0 y0 : Int32} (hR : RM g m M0 σ M) (hB : Bd σ) : CT l g yX4_drawn_ cX4_drawn_ 3 (some .int) 2 43 0 0 [.ref (m 0), .int (x0), .int (y0)] M (pI (fun r9 M9 => RM g m M0 (uN σ 0 0 (cdRR σ x0 y0)) M9 ∧ (cdRR σ x0 y0 = 0 → r9 = σ.2.1 23 (12 * cl x0 + cl y0)))) nX := by
  refine ct_of [(0, .ref (m 0)), (1, .int (x0)), (2, .int (y0))] (by decide) hl (Nat.le_of_ble_eq_true rfl) rfl ?_
  intro K hK F
  subst hK
  have F : Fx K g cX4_drawn_ RX4 3 (some .int) [] 2 43 0 0 := F
  obtain ⟨Q, hQ⟩ : ∃ Q, Q = MQx K g (pI (fun r9 M9 => RM g m M0 (uN σ 0 0 (cdRR σ x0 y0)) M9 ∧ (cdRR σ x0 y0 = 0 → r9 = σ.2.1 23 (12 * cl x0 + cl y0)))) nX 0 0 := ⟨_, rfl⟩
  rw [← hQ]
  have hB9 := hB
  obtain ⟨h6, h7, h18, hr8, hk96, hp96, hb16, hh⟩ := hB9
  refine x_aload_n F 0 dX4_drawn__0 rfl ?_
  have J22 : ∀ (vj : Int32), vj = nI (cdRR σ x0 y0) → XW K g 3 Q M 0 0 22 [(0, .ref (m 0)), (1, .int (x0)), (2, .int (y0))] [.int (vj), .ref (m 0)] := by
    intro vj ej22_vj
    subst ej22_vj
    refine x_callV F s_X4_113 hR.1 rfl rfl (c_X4_holds F.nt hR (lt_cdRR)) rfl dX4_drawn__22 (by decide) (by decide) (Nat.le_of_ble_eq_true rfl) x_noX (ki fun r M2 hp => ?_)
    obtain ⟨rfl, hR0⟩ := hp
    obtain ⟨σ0, eσ0⟩ : ∃ z, z = uN σ 0 0 ((cdRR σ x0 y0)) := ⟨_, rfl⟩
    rw [← eσ0] at hR0
    have hBσ0 : Bd σ0 := eσ0 ▸ Bd_u0 hB
    refine x_if_eq F 41 dX4_drawn__25 (by decide) (fun c25 => ?_) (fun c25 => ?_)
    · have c25 := nI_bz0.mp c25
      have c25 := of_decide_eq_false c25
      refine x_iconst F (nI 0) dX4_drawn__41 (by decide) ?_
      rw [hQ]
      exact x_iret F dX4_drawn__42 (by decide) ⟨_, rfl, eσ0 ▸ hR0, fun h9 => (by first | exact absurd h9 c25 | (rw [cl_nI (by omega), cl_nI (by omega), eσ0]; rfl))⟩
    · have c25 := nI_bz1.mp c25
      have c25 := of_decide_eq_true c25
      obtain ⟨r, j, hr, hj, rfl, rfl⟩ := cdRR_0 hB c25
      refine x_aload_n F 0 dX4_drawn__28 rfl ?_
      refine x_fget F f_X4_68 hR0.1 (v := .ref (rA m 23)) dX4_drawn__29 rfl ?_
      refine x_iload_n F 1 dX4_drawn__32 rfl ?_
      refine x_iload_n F 2 dX4_drawn__33 rfl ?_
      refine x_callS F s_X4_118 rfl (c_X4_at F.nt ) rfl dX4_drawn__34 (by decide) (by decide) (Nat.le_of_ble_eq_true rfl) x_noX (ki fun r_2 M2_2 hp_2 => ?_)
      obtain ⟨rfl, rfl⟩ := hp_2
      refine x_mldR F hR0 23 rfl (fun _ _ => rfl) dX4_drawn__37 (by show _ < 96; omega) ?_
      refine x_goto F 42 dX4_drawn__38 (by decide) ?_
      rw [hQ]
      exact x_iret F dX4_drawn__42 (by decide) ⟨_, rfl, eσ0 ▸ hR0, fun h9 => (by first | exact absurd h9 c25 | (rw [cl_nI (by omega), cl_nI (by omega), eσ0]; rfl))⟩
  refine x_aload_n F 0 dX4_drawn__1 rfl ?_
  refine x_iload_n F 1 dX4_drawn__2 rfl ?_
  refine x_callV F s_X4_129 hR.1 rfl rfl (c_X4_isRodeo F.nt hR (by omega)) rfl dX4_drawn__3 (by decide) (by decide) (Nat.le_of_ble_eq_true rfl) x_noX (ki fun r_3 M2_3 hp_3 => ?_)
  obtain ⟨rfl, rfl⟩ := hp_3
  refine x_if_eq F 21 dX4_drawn__6 (by decide) (fun c6 => ?_) (fun c6 => ?_)
  · have c6 := nI_bz0.mp c6
    refine x_iconst F (nI 1) dX4_drawn__21 (by decide) ?_
    exact J22 _ (by simp [cdRR, *])
  · have c6 := nI_bz1.mp c6
    refine x_aload_n F 0 dX4_drawn__9 rfl ?_
    refine x_iload_n F 2 dX4_drawn__10 rfl ?_
    refine x_callV F s_X4_135 hR.1 rfl rfl (c_X4_isRider F.nt hR (by omega)) rfl dX4_drawn__11 (by decide) (by decide) (Nat.le_of_ble_eq_true rfl) x_noX (ki fun r_4 M2_4 hp_4 => ?_)
    obtain ⟨rfl, rfl⟩ := hp_4
    refine x_if_eq F 21 dX4_drawn__14 (by decide) (fun c14 => ?_) (fun c14 => ?_)
    · have c14 := nI_bz0.mp c14
      refine x_iconst F (nI 1) dX4_drawn__21 (by decide) ?_
      exact J22 _ (by simp [cdRR, *])
    · have c14 := nI_bz1.mp c14
      refine x_iconst F (nI 0) dX4_drawn__17 (by decide) ?_
      refine x_goto F 22 dX4_drawn__18 (by decide) ?_
      exact J22 _ (by simp [cdRR, *])
set_option maxHeartbeats 4000000 in
set_option maxRecDepth 100000 in
theorem c_X4_score {l : Launch} (hl : l.stackTraces = false) {g : GP} {M : MM} {m : Nat → Nat} {M0 : MM} {σ : ST} {x0 y0 : Int32} (hR : RM g m M0 σ M) (hB : Bd σ) : CT l g yX4_score cX4_score 3 (some .int) 2 43 0 0 [.ref (m 0), .int (x0), .int (y0)] M (pI (fun r9 M9 => RM g m M0 (uN σ 0 0 (cdRR σ x0 y0)) M9 ∧ (cdRR σ x0 y0 = 0 → r9 = σ.2.1 28 (12 * cl x0 + cl y0)))) nX := by
  refine ct_of [(0, .ref (m 0)), (1, .int (x0)), (2, .int (y0))] (by decide) hl (Nat.le_of_ble_eq_true rfl) rfl ?_
  intro K hK F
  subst hK
  have F : Fx K g cX4_score RX4 3 (some .int) [] 2 43 0 0 := F
  obtain ⟨Q, hQ⟩ : ∃ Q, Q = MQx K g (pI (fun r9 M9 => RM g m M0 (uN σ 0 0 (cdRR σ x0 y0)) M9 ∧ (cdRR σ x0 y0 = 0 → r9 = σ.2.1 28 (12 * cl x0 + cl y0)))) nX 0 0 := ⟨_, rfl⟩
  rw [← hQ]
  have hB9 := hB
  obtain ⟨h6, h7, h18, hr8, hk96, hp96, hb16, hh⟩ := hB9
  refine x_aload_n F 0 dX4_score_0 rfl ?_
  have J22 : ∀ (vj : Int32), vj = nI (cdRR σ x0 y0) → XW K g 3 Q M 0 0 22 [(0, .ref (m 0)), (1, .int (x0)), (2, .int (y0))] [.int (vj), .ref (m 0)] := by
    intro vj ej22_vj
    subst ej22_vj
    refine x_callV F s_X4_113 hR.1 rfl rfl (c_X4_holds F.nt hR (lt_cdRR)) rfl dX4_score_22 (by decide) (by decide) (Nat.le_of_ble_eq_true rfl) x_noX (ki fun r M2 hp => ?_)
    obtain ⟨rfl, hR0⟩ := hp
    obtain ⟨σ0, eσ0⟩ : ∃ z, z = uN σ 0 0 ((cdRR σ x0 y0)) := ⟨_, rfl⟩
    rw [← eσ0] at hR0
    have hBσ0 : Bd σ0 := eσ0 ▸ Bd_u0 hB
    refine x_if_eq F 41 dX4_score_25 (by decide) (fun c25 => ?_) (fun c25 => ?_)
    · have c25 := nI_bz0.mp c25
      have c25 := of_decide_eq_false c25
      refine x_iconst F (nI 0) dX4_score_41 (by decide) ?_
      rw [hQ]
      exact x_iret F dX4_score_42 (by decide) ⟨_, rfl, eσ0 ▸ hR0, fun h9 => (by first | exact absurd h9 c25 | (rw [cl_nI (by omega), cl_nI (by omega), eσ0]; rfl))⟩
    · have c25 := nI_bz1.mp c25
      have c25 := of_decide_eq_true c25
      obtain ⟨r, j, hr, hj, rfl, rfl⟩ := cdRR_0 hB c25
      refine x_aload_n F 0 dX4_score_28 rfl ?_
      refine x_fget F f_X4_84 hR0.1 (v := .ref (rA m 28)) dX4_score_29 rfl ?_
      refine x_iload_n F 1 dX4_score_32 rfl ?_
      refine x_iload_n F 2 dX4_score_33 rfl ?_
      refine x_callS F s_X4_118 rfl (c_X4_at F.nt ) rfl dX4_score_34 (by decide) (by decide) (Nat.le_of_ble_eq_true rfl) x_noX (ki fun r_2 M2_2 hp_2 => ?_)
      obtain ⟨rfl, rfl⟩ := hp_2
      refine x_mldR F hR0 28 rfl (fun _ _ => rfl) dX4_score_37 (by show _ < 96; omega) ?_
      refine x_goto F 42 dX4_score_38 (by decide) ?_
      rw [hQ]
      exact x_iret F dX4_score_42 (by decide) ⟨_, rfl, eσ0 ▸ hR0, fun h9 => (by first | exact absurd h9 c25 | (rw [cl_nI (by omega), cl_nI (by omega), eσ0]; rfl))⟩
  refine x_aload_n F 0 dX4_score_1 rfl ?_
  refine x_iload_n F 1 dX4_score_2 rfl ?_
  refine x_callV F s_X4_129 hR.1 rfl rfl (c_X4_isRodeo F.nt hR (by omega)) rfl dX4_score_3 (by decide) (by decide) (Nat.le_of_ble_eq_true rfl) x_noX (ki fun r_3 M2_3 hp_3 => ?_)
  obtain ⟨rfl, rfl⟩ := hp_3
  refine x_if_eq F 21 dX4_score_6 (by decide) (fun c6 => ?_) (fun c6 => ?_)
  · have c6 := nI_bz0.mp c6
    refine x_iconst F (nI 1) dX4_score_21 (by decide) ?_
    exact J22 _ (by simp [cdRR, *])
  · have c6 := nI_bz1.mp c6
    refine x_aload_n F 0 dX4_score_9 rfl ?_
    refine x_iload_n F 2 dX4_score_10 rfl ?_
    refine x_callV F s_X4_135 hR.1 rfl rfl (c_X4_isRider F.nt hR (by omega)) rfl dX4_score_11 (by decide) (by decide) (Nat.le_of_ble_eq_true rfl) x_noX (ki fun r_4 M2_4 hp_4 => ?_)
    obtain ⟨rfl, rfl⟩ := hp_4
    refine x_if_eq F 21 dX4_score_14 (by decide) (fun c14 => ?_) (fun c14 => ?_)
    · have c14 := nI_bz0.mp c14
      refine x_iconst F (nI 1) dX4_score_21 (by decide) ?_
      exact J22 _ (by simp [cdRR, *])
    · have c14 := nI_bz1.mp c14
      refine x_iconst F (nI 0) dX4_score_17 (by decide) ?_
      refine x_goto F 22 dX4_score_18 (by decide) ?_
      exact J22 _ (by simp [cdRR, *])
set_option maxHeartbeats 4000000 in
set_option maxRecDepth 100000 in
theorem c_X4_got {l : Launch} (hl : l.stackTraces = false) {g : GP} {M : MM} {m : Nat → Nat} {M0 : MM} {σ : ST} {x0 y0 : Int32} (hR : RM g m M0 σ M) (hB : Bd σ) : CT l g yX4_got cX4_got 3 (some .int) 2 43 0 0 [.ref (m 0), .int (x0), .int (y0)] M (pI (fun r9 M9 => RM g m M0 (uN σ 0 0 (cdRR σ x0 y0)) M9 ∧ (cdRR σ x0 y0 = 0 → r9 = nI (σ.1 29 (12 * cl x0 + cl y0))))) nX := by
  refine ct_of [(0, .ref (m 0)), (1, .int (x0)), (2, .int (y0))] (by decide) hl (Nat.le_of_ble_eq_true rfl) rfl ?_
  intro K hK F
  subst hK
  have F : Fx K g cX4_got RX4 3 (some .int) [] 2 43 0 0 := F
  obtain ⟨Q, hQ⟩ : ∃ Q, Q = MQx K g (pI (fun r9 M9 => RM g m M0 (uN σ 0 0 (cdRR σ x0 y0)) M9 ∧ (cdRR σ x0 y0 = 0 → r9 = nI (σ.1 29 (12 * cl x0 + cl y0))))) nX 0 0 := ⟨_, rfl⟩
  rw [← hQ]
  have hB9 := hB
  obtain ⟨h6, h7, h18, hr8, hk96, hp96, hb16, hh⟩ := hB9
  refine x_aload_n F 0 dX4_got_0 rfl ?_
  have J22 : ∀ (vj : Int32), vj = nI (cdRR σ x0 y0) → XW K g 3 Q M 0 0 22 [(0, .ref (m 0)), (1, .int (x0)), (2, .int (y0))] [.int (vj), .ref (m 0)] := by
    intro vj ej22_vj
    subst ej22_vj
    refine x_callV F s_X4_113 hR.1 rfl rfl (c_X4_holds F.nt hR (lt_cdRR)) rfl dX4_got_22 (by decide) (by decide) (Nat.le_of_ble_eq_true rfl) x_noX (ki fun r M2 hp => ?_)
    obtain ⟨rfl, hR0⟩ := hp
    obtain ⟨σ0, eσ0⟩ : ∃ z, z = uN σ 0 0 ((cdRR σ x0 y0)) := ⟨_, rfl⟩
    rw [← eσ0] at hR0
    have hBσ0 : Bd σ0 := eσ0 ▸ Bd_u0 hB
    refine x_if_eq F 41 dX4_got_25 (by decide) (fun c25 => ?_) (fun c25 => ?_)
    · have c25 := nI_bz0.mp c25
      have c25 := of_decide_eq_false c25
      refine x_iconst F (nI 0) dX4_got_41 (by decide) ?_
      rw [hQ]
      exact x_iret F dX4_got_42 (by decide) ⟨_, rfl, eσ0 ▸ hR0, fun h9 => (by first | exact absurd h9 c25 | (rw [cl_nI (by omega), cl_nI (by omega), eσ0]; rfl))⟩
    · have c25 := nI_bz1.mp c25
      have c25 := of_decide_eq_true c25
      obtain ⟨r, j, hr, hj, rfl, rfl⟩ := cdRR_0 hB c25
      refine x_aload_n F 0 dX4_got_28 rfl ?_
      refine x_fget F f_X4_87 hR0.1 (v := .ref (rA m 29)) dX4_got_29 rfl ?_
      refine x_iload_n F 1 dX4_got_32 rfl ?_
      refine x_iload_n F 2 dX4_got_33 rfl ?_
      refine x_callS F s_X4_118 rfl (c_X4_at F.nt ) rfl dX4_got_34 (by decide) (by decide) (Nat.le_of_ble_eq_true rfl) x_noX (ki fun r_2 M2_2 hp_2 => ?_)
      obtain ⟨rfl, rfl⟩ := hp_2
      refine x_mld F hR0 29 rfl (fun _ _ => rfl) dX4_got_37 (by show _ < 96; omega) ?_
      refine x_goto F 42 dX4_got_38 (by decide) ?_
      rw [hQ]
      exact x_iret F dX4_got_42 (by decide) ⟨_, rfl, eσ0 ▸ hR0, fun h9 => (by first | exact absurd h9 c25 | (rw [cl_nI (by omega), cl_nI (by omega), eσ0]; rfl))⟩
  refine x_aload_n F 0 dX4_got_1 rfl ?_
  refine x_iload_n F 1 dX4_got_2 rfl ?_
  refine x_callV F s_X4_129 hR.1 rfl rfl (c_X4_isRodeo F.nt hR (by omega)) rfl dX4_got_3 (by decide) (by decide) (Nat.le_of_ble_eq_true rfl) x_noX (ki fun r_3 M2_3 hp_3 => ?_)
  obtain ⟨rfl, rfl⟩ := hp_3
  refine x_if_eq F 21 dX4_got_6 (by decide) (fun c6 => ?_) (fun c6 => ?_)
  · have c6 := nI_bz0.mp c6
    refine x_iconst F (nI 1) dX4_got_21 (by decide) ?_
    exact J22 _ (by simp [cdRR, *])
  · have c6 := nI_bz1.mp c6
    refine x_aload_n F 0 dX4_got_9 rfl ?_
    refine x_iload_n F 2 dX4_got_10 rfl ?_
    refine x_callV F s_X4_135 hR.1 rfl rfl (c_X4_isRider F.nt hR (by omega)) rfl dX4_got_11 (by decide) (by decide) (Nat.le_of_ble_eq_true rfl) x_noX (ki fun r_4 M2_4 hp_4 => ?_)
    obtain ⟨rfl, rfl⟩ := hp_4
    refine x_if_eq F 21 dX4_got_14 (by decide) (fun c14 => ?_) (fun c14 => ?_)
    · have c14 := nI_bz0.mp c14
      refine x_iconst F (nI 1) dX4_got_21 (by decide) ?_
      exact J22 _ (by simp [cdRR, *])
    · have c14 := nI_bz1.mp c14
      refine x_iconst F (nI 0) dX4_got_17 (by decide) ?_
      refine x_goto F 22 dX4_got_18 (by decide) ?_
      exact J22 _ (by simp [cdRR, *])
set_option maxHeartbeats 4000000 in
set_option maxRecDepth 100000 in
theorem c_X4_isOffered {l : Launch} (hl : l.stackTraces = false) {g : GP} {M : MM} {m : Nat → Nat} {M0 : MM} {σ : ST} {x0 y0 : Int32} (hR : RM g m M0 σ M) (hB : Bd σ) : CT l g yX4_isOffered cX4_isOffered 3 (some .boolean) 2 43 0 0 [.ref (m 0), .int (x0), .int (y0)] M (pI (fun r9 M9 => RM g m M0 (uN σ 0 0 (cdRR σ x0 y0)) M9 ∧ (cdRR σ x0 y0 = 0 → r9 = nI (bz (decide (¬ σ.1 26 (12 * cl x0 + cl y0) = 0)))))) nX := by
  refine ct_of [(0, .ref (m 0)), (1, .int (x0)), (2, .int (y0))] (by decide) hl (Nat.le_of_ble_eq_true rfl) rfl ?_
  intro K hK F
  subst hK
  have F : Fx K g cX4_isOffered RX4 3 (some .boolean) [] 2 43 0 0 := F
  obtain ⟨Q, hQ⟩ : ∃ Q, Q = MQx K g (pI (fun r9 M9 => RM g m M0 (uN σ 0 0 (cdRR σ x0 y0)) M9 ∧ (cdRR σ x0 y0 = 0 → r9 = nI (bz (decide (¬ σ.1 26 (12 * cl x0 + cl y0) = 0)))))) nX 0 0 := ⟨_, rfl⟩
  rw [← hQ]
  have hB9 := hB
  obtain ⟨h6, h7, h18, hr8, hk96, hp96, hb16, hh⟩ := hB9
  refine x_aload_n F 0 dX4_isOffered_0 rfl ?_
  have J22 : ∀ (vj : Int32), vj = nI (cdRR σ x0 y0) → XW K g 3 Q M 0 0 22 [(0, .ref (m 0)), (1, .int (x0)), (2, .int (y0))] [.int (vj), .ref (m 0)] := by
    intro vj ej22_vj
    subst ej22_vj
    refine x_callV F s_X4_113 hR.1 rfl rfl (c_X4_holds F.nt hR (lt_cdRR)) rfl dX4_isOffered_22 (by decide) (by decide) (Nat.le_of_ble_eq_true rfl) x_noX (ki fun r M2 hp => ?_)
    obtain ⟨rfl, hR0⟩ := hp
    obtain ⟨σ0, eσ0⟩ : ∃ z, z = uN σ 0 0 ((cdRR σ x0 y0)) := ⟨_, rfl⟩
    rw [← eσ0] at hR0
    have hBσ0 : Bd σ0 := eσ0 ▸ Bd_u0 hB
    refine x_if_eq F 45 dX4_isOffered_25 (by decide) (fun c25 => ?_) (fun c25 => ?_)
    · have c25 := nI_bz0.mp c25
      have c25 := of_decide_eq_false c25
      refine x_iconst F (nI 0) dX4_isOffered_45 (by decide) ?_
      rw [hQ]
      exact x_zret F dX4_isOffered_46 (by decide) (Or.inl rfl) ⟨_, rfl, eσ0 ▸ hR0, fun h9 => (by first | exact absurd h9 c25 | (rw [cl_nI (by omega), cl_nI (by omega)]; rw [eσ0] at c38; have c38 : _ := c38; simp [uN] at c38; simp [bz, c38]))⟩
    · have c25 := nI_bz1.mp c25
      have c25 := of_decide_eq_true c25
      obtain ⟨r, j, hr, hj, rfl, rfl⟩ := cdRR_0 hB c25
      refine x_aload_n F 0 dX4_isOffered_28 rfl ?_
      refine x_fget F f_X4_78 hR0.1 (v := .ref (rA m 26)) dX4_isOffered_29 rfl ?_
      refine x_iload_n F 1 dX4_isOffered_32 rfl ?_
      refine x_iload_n F 2 dX4_isOffered_33 rfl ?_
      refine x_callS F s_X4_118 rfl (c_X4_at F.nt ) rfl dX4_isOffered_34 (by decide) (by decide) (Nat.le_of_ble_eq_true rfl) x_noX (ki fun r_2 M2_2 hp_2 => ?_)
      obtain ⟨rfl, rfl⟩ := hp_2
      refine x_mldZ F hR0 26 rfl (fun _ _ => rfl) dX4_isOffered_37 (by show _ < 96; omega) ?_
      refine x_if_eq F 45 dX4_isOffered_38 (by decide) (fun c38 => ?_) (fun c38 => ?_)
      · have c38 := (nI_z (by have := (hBσ0.2.2.2.2.1 (12 * r + j) (by omega)).2.2.2.2.2.1; omega)).mp c38
        refine x_iconst F (nI 0) dX4_isOffered_45 (by decide) ?_
        rw [hQ]
        exact x_zret F dX4_isOffered_46 (by decide) (Or.inl rfl) ⟨_, rfl, eσ0 ▸ hR0, fun h9 => (by first | exact absurd h9 c25 | (rw [cl_nI (by omega), cl_nI (by omega)]; rw [eσ0] at c38; have c38 : _ := c38; simp [uN] at c38; simp [bz, c38]))⟩
      · have c38 := mt (nI_z (by have := (hBσ0.2.2.2.2.1 (12 * r + j) (by omega)).2.2.2.2.2.1; omega)).mpr c38
        refine x_iconst F (nI 1) dX4_isOffered_41 (by decide) ?_
        refine x_goto F 46 dX4_isOffered_42 (by decide) ?_
        rw [hQ]
        exact x_zret F dX4_isOffered_46 (by decide) (Or.inr rfl) ⟨_, rfl, eσ0 ▸ hR0, fun h9 => (by first | exact absurd h9 c25 | (rw [cl_nI (by omega), cl_nI (by omega)]; rw [eσ0] at c38; have c38 : _ := c38; simp [uN] at c38; simp [bz, c38]))⟩
  refine x_aload_n F 0 dX4_isOffered_1 rfl ?_
  refine x_iload_n F 1 dX4_isOffered_2 rfl ?_
  refine x_callV F s_X4_129 hR.1 rfl rfl (c_X4_isRodeo F.nt hR (by omega)) rfl dX4_isOffered_3 (by decide) (by decide) (Nat.le_of_ble_eq_true rfl) x_noX (ki fun r_3 M2_3 hp_3 => ?_)
  obtain ⟨rfl, rfl⟩ := hp_3
  refine x_if_eq F 21 dX4_isOffered_6 (by decide) (fun c6 => ?_) (fun c6 => ?_)
  · have c6 := nI_bz0.mp c6
    refine x_iconst F (nI 1) dX4_isOffered_21 (by decide) ?_
    exact J22 _ (by simp [cdRR, *])
  · have c6 := nI_bz1.mp c6
    refine x_aload_n F 0 dX4_isOffered_9 rfl ?_
    refine x_iload_n F 2 dX4_isOffered_10 rfl ?_
    refine x_callV F s_X4_135 hR.1 rfl rfl (c_X4_isRider F.nt hR (by omega)) rfl dX4_isOffered_11 (by decide) (by decide) (Nat.le_of_ble_eq_true rfl) x_noX (ki fun r_4 M2_4 hp_4 => ?_)
    obtain ⟨rfl, rfl⟩ := hp_4
    refine x_if_eq F 21 dX4_isOffered_14 (by decide) (fun c14 => ?_) (fun c14 => ?_)
    · have c14 := nI_bz0.mp c14
      refine x_iconst F (nI 1) dX4_isOffered_21 (by decide) ?_
      exact J22 _ (by simp [cdRR, *])
    · have c14 := nI_bz1.mp c14
      refine x_iconst F (nI 0) dX4_isOffered_17 (by decide) ?_
      refine x_goto F 22 dX4_isOffered_18 (by decide) ?_
      exact J22 _ (by simp [cdRR, *])
set_option maxHeartbeats 4000000 in
set_option maxRecDepth 100000 in
theorem c_X4_hide {l : Launch} (hl : l.stackTraces = false) {g : GP} {M : MM} {m : Nat → Nat} {M0 : MM} {σ : ST} {x0 : Int32} (hR : RM g m M0 σ M) (hB : Bd σ) : CT l g yX4_hide cX4_hide 2 (none : Option Jvm.ClassFile.FieldType) 1 22 0 0 [.ref (m 0), .int (x0)] M (pV (fun M9 => RM g m M0 (if cdHi x0 = 0 then uN (uN σ 0 0 (cdHi x0)) 30 0 (cl x0) else uN σ 0 0 (cdHi x0)) M9)) nX := by
  refine ct_of [(0, .ref (m 0)), (1, .int (x0))] (by decide) hl (Nat.le_of_ble_eq_true rfl) rfl ?_
  intro K hK F
  subst hK
  have F : Fx K g cX4_hide RX4 2 (none : Option Jvm.ClassFile.FieldType) [] 1 22 0 0 := F
  obtain ⟨Q, hQ⟩ : ∃ Q, Q = MQx K g (pV (fun M9 => RM g m M0 (if cdHi x0 = 0 then uN (uN σ 0 0 (cdHi x0)) 30 0 (cl x0) else uN σ 0 0 (cdHi x0)) M9)) nX 0 0 := ⟨_, rfl⟩
  rw [← hQ]
  have hB9 := hB
  obtain ⟨h6, h7, h18, hr8, hk96, hp96, hb16, hh⟩ := hB9
  refine x_aload_n F 0 dX4_hide_0 rfl ?_
  have J16 : ∀ (vj : Int32), vj = nI (cdHi x0) → XW K g 2 Q M 0 0 16 [(0, .ref (m 0)), (1, .int (x0))] [.int (vj), .ref (m 0)] := by
    intro vj ej16_vj
    subst ej16_vj
    refine x_callV F s_X4_113 hR.1 rfl rfl (c_X4_holds F.nt hR (lt_cdHi)) rfl dX4_hide_16 (by decide) (by decide) (Nat.le_of_ble_eq_true rfl) x_noX (ki fun r M2 hp => ?_)
    obtain ⟨rfl, hR0⟩ := hp
    obtain ⟨σ0, eσ0⟩ : ∃ z, z = uN σ 0 0 ((cdHi x0)) := ⟨_, rfl⟩
    rw [← eσ0] at hR0
    have hBσ0 : Bd σ0 := eσ0 ▸ Bd_u0 hB
    refine x_if_eq F 27 dX4_hide_19 (by decide) (fun c19 => ?_) (fun c19 => ?_)
    · have c19 := nI_bz0.mp c19
      have c19 := of_decide_eq_false c19
      rw [hQ]
      exact x_vret F dX4_hide_27 (by decide) ⟨rfl, by first | (rw [if_pos c19, cl_nI (by omega), ← eσ0]; exact hR0) | (rw [if_neg c19, ← eσ0]; exact hR0)⟩
    · have c19 := nI_bz1.mp c19
      have c19 := of_decide_eq_true c19
      obtain ⟨j, -, hj, rfl⟩ := inR_t (by decide) (by decide) (show inR x0 (nI 0) (nI 65536) = true by simpa [cdHi] using c19)
      refine x_aload_n F 0 dX4_hide_22 rfl ?_
      refine x_iload_n F 1 dX4_hide_23 rfl ?_
      refine x_mput F hR0 p_X4_90 (by decide) dX4_hide_24 (fun M1 hR1 => ?_)
      rw [hQ]
      exact x_vret F dX4_hide_27 (by decide) ⟨rfl, by first | (rw [if_pos c19, cl_nI (by omega), ← eσ0]; exact hR1) | (rw [if_neg c19, ← eσ0]; exact hR1)⟩
  refine x_iload_n F 1 dX4_hide_1 rfl ?_
  refine x_iconst F (nI 0) dX4_hide_2 (by decide) ?_
  refine x_ldc F (nI 65536) k_X4_163 dX4_hide_3 ?_
  refine x_callS F s_X4_103 rfl (c_X4_isIn F.nt ) rfl dX4_hide_5 (by decide) (by decide) (Nat.le_of_ble_eq_true rfl) x_noX (ki fun r_2 M2_2 hp_2 => ?_)
  obtain ⟨rfl, rfl⟩ := hp_2
  refine x_if_eq F 15 dX4_hide_8 (by decide) (fun c8 => ?_) (fun c8 => ?_)
  · have c8 := nI_bz0.mp c8
    refine x_iconst F (nI 1) dX4_hide_15 (by decide) ?_
    exact J16 _ (by simp [cdHi, *])
  · have c8 := nI_bz1.mp c8
    refine x_iconst F (nI 0) dX4_hide_11 (by decide) ?_
    refine x_goto F 16 dX4_hide_12 (by decide) ?_
    exact J16 _ (by simp [cdHi, *])
set_option maxHeartbeats 4000000 in
set_option maxRecDepth 100000 in
theorem c_X4_rodeoIs {l : Launch} (hl : l.stackTraces = false) {g : GP} {M : MM} {m : Nat → Nat} {M0 : MM} {σ : ST} {x0 y0 : Int32} (hR : RM g m M0 σ M) (hB : Bd σ) : CT l g yX4_rodeoIs cX4_rodeoIs 4 (some .int) 4 87 0 0 [.ref (m 0), .int (x0), .int (y0)] M (pI (fun r9 M9 => RM g m M0 (uN σ 0 0 (cdRI σ x0 y0)) M9 ∧ (cdRI σ x0 y0 = 0 → r9 = tellsS σ (cl x0) y0))) nX := by
  refine ct_of [(0, .ref (m 0)), (1, .int (x0)), (2, .int (y0))] (by decide) hl (Nat.le_of_ble_eq_true rfl) rfl ?_
  intro K hK F
  subst hK
  have F : Fx K g cX4_rodeoIs RX4 4 (some .int) [] 4 87 0 0 := F
  obtain ⟨Q, hQ⟩ : ∃ Q, Q = MQx K g (pI (fun r9 M9 => RM g m M0 (uN σ 0 0 (cdRI σ x0 y0)) M9 ∧ (cdRI σ x0 y0 = 0 → r9 = tellsS σ (cl x0) y0))) nX 0 0 := ⟨_, rfl⟩
  rw [← hQ]
  have hB9 := hB
  obtain ⟨h6, h7, h18, hr8, hk96, hp96, hb16, hh⟩ := hB9
  refine x_aload_n F 0 dX4_rodeoIs_0 rfl ?_
  refine x_iload_n F 1 dX4_rodeoIs_1 rfl ?_
  refine x_callV F s_X4_129 hR.1 rfl rfl (c_X4_isRodeo F.nt hR (by omega)) rfl dX4_rodeoIs_2 (by decide) (by decide) (Nat.le_of_ble_eq_true rfl) x_noX (ki fun r M2 hp => ?_)
  obtain ⟨rfl, rfl⟩ := hp
  refine x_istore_n F [(3, .int (nI (bz (inN x0 (σ.1 18 0))))), (0, .ref (m 0)), (1, .int (x0)), (2, .int (y0))] dX4_rodeoIs_5 (by decide) rfl ?_
  refine x_aload_n F 1 dX4_rodeoIs_6 rfl ?_
  have J29 : ∀ (vj : Int32), vj = nI (cdRI σ x0 y0) → XW K g 4 Q M 0 0 29 [(3, .int (nI (bz (inN x0 (σ.1 18 0))))), (0, .ref (m 0)), (1, .int (x0)), (2, .int (y0))] [.int (vj), .ref (m 0)] := by
    intro vj ej29_vj
    subst ej29_vj
    refine x_callV F s_X4_113 hR.1 rfl rfl (c_X4_holds F.nt hR (lt_cdRI)) rfl dX4_rodeoIs_29 (by decide) (by decide) (Nat.le_of_ble_eq_true rfl) x_noX (ki fun r_2 M2_2 hp_2 => ?_)
    obtain ⟨rfl, hR0⟩ := hp_2
    obtain ⟨σ0, eσ0⟩ : ∃ z, z = uN σ 0 0 ((cdRI σ x0 y0)) := ⟨_, rfl⟩
    rw [← eσ0] at hR0
    have hBσ0 : Bd σ0 := eσ0 ▸ Bd_u0 hB
    refine x_if_eq F 44 dX4_rodeoIs_32 (by decide) (fun c32 => ?_) (fun c32 => ?_)
    · have c32 := nI_bz0.mp c32
      have c32 := of_decide_eq_false c32
      refine x_iconst F (nI 0) dX4_rodeoIs_44 (by decide) ?_
      rw [hQ]
      exact x_iret F dX4_rodeoIs_45 (by decide) ⟨_, rfl, eσ0 ▸ hR0, fun h9 => (by first | exact absurd h9 c32 | (rw [cl_nI (by omega), eσ0]; rfl))⟩
    · have c32 := nI_bz1.mp c32
      have c32 := of_decide_eq_true c32
      obtain ⟨r, hr, rfl⟩ := inN_t (n := σ.1 18 0) (by omega) (show inN x0 (σ.1 18 0) = true by (unfold cdRI at c32; by_cases z : inN x0 (σ.1 18 0) = true; exact z; simp [z] at c32))
      refine x_aload_n F 1 dX4_rodeoIs_35 rfl ?_
      refine x_iload_n F 2 dX4_rodeoIs_36 rfl ?_
      refine x_iload_n F 3 dX4_rodeoIs_37 rfl ?_
      refine x_callV F s_X4_132 hR0.1 rfl rfl (c_X4_tells F.nt hR0 (by omega) (by have := (hBσ0.2.2.2.1 r (by omega)).2.2.2.2.2.2.1; omega)) rfl dX4_rodeoIs_38 (by decide) (by decide) (Nat.le_of_ble_eq_true rfl) x_noX (ki fun r_3 M2_3 hp_3 => ?_)
      obtain ⟨rfl, rfl⟩ := hp_3
      refine x_goto F 45 dX4_rodeoIs_41 (by decide) ?_
      rw [hQ]
      exact x_iret F dX4_rodeoIs_45 (by decide) ⟨_, rfl, eσ0 ▸ hR0, fun h9 => (by first | exact absurd h9 c32 | (rw [cl_nI (by omega), eσ0]; rfl))⟩
  refine x_iload_n F 0 dX4_rodeoIs_7 rfl ?_
  refine x_if_ne F 15 dX4_rodeoIs_8 (by decide) (fun c8 => ?_) (fun c8 => ?_)
  · have c8 := nI_bz1.mp c8
    refine x_iload_n F 3 dX4_rodeoIs_15 rfl ?_
    refine x_iconst F (nI 0) dX4_rodeoIs_16 (by decide) ?_
    refine x_iconst F (nI 4) dX4_rodeoIs_17 (by decide) ?_
    refine x_callS F s_X4_103 rfl (c_X4_isIn F.nt ) rfl dX4_rodeoIs_18 (by decide) (by decide) (Nat.le_of_ble_eq_true rfl) x_noX (ki fun r_4 M2_4 hp_4 => ?_)
    obtain ⟨rfl, rfl⟩ := hp_4
    refine x_if_ne F 28 dX4_rodeoIs_21 (by decide) (fun c21 => ?_) (fun c21 => ?_)
    · have c21 := nI_bz1.mp c21
      refine x_iconst F (nI 0) dX4_rodeoIs_28 (by decide) ?_
      exact J29 _ (by simp [cdRI, *])
    · have c21 := nI_bz0.mp c21
      refine x_iconst F (nI 2) dX4_rodeoIs_24 (by decide) ?_
      refine x_goto F 29 dX4_rodeoIs_25 (by decide) ?_
      exact J29 _ (by simp [cdRI, *])
  · have c8 := nI_bz0.mp c8
    refine x_iconst F (nI 1) dX4_rodeoIs_11 (by decide) ?_
    refine x_goto F 29 dX4_rodeoIs_12 (by decide) ?_
    exact J29 _ (by simp [cdRI, *])
