set_option maxHeartbeats 4000000 in
set_option maxRecDepth 100000 in
theorem c_X4_close {l : Launch} (hl : l.stackTraces = false) {g : GP} {M : MM} {m : Nat → Nat} {M0 : MM} {σ : ST} {x0 : Int32} (hR : RM g m M0 σ M) (hB : Bd σ) (hw : ∀ r k, r < σ.1 18 0 → k < σ.1 17 r → σ.1 19 (12 * r + k) < 12) : CT l g yX4_close cX4_close 4 (some .int) 4 95 0 0 [.ref (m 0), .int (x0)] M (pI (fun r9 M9 => RM g m M0 (if cdSt σ x0 0 = 0 then clU (uN σ 0 0 (cdSt σ x0 0)) (cl x0) else uN σ 0 0 (cdSt σ x0 0)) M9 ∧ (cdSt σ x0 0 = 0 → r9 = nI (plIn (clU (uN σ 0 0 (cdSt σ x0 0)) (cl x0)) (cl x0))))) nX := by
  refine ct_of [(0, .ref (m 0)), (1, .int (x0))] (by decide) hl (Nat.le_of_ble_eq_true rfl) rfl ?_
  intro K hK F
  subst hK
  have F : Fx K g cX4_close RX4 4 (some .int) [] 4 95 0 0 := F
  obtain ⟨Q, hQ⟩ : ∃ Q, Q = MQx K g (pI (fun r9 M9 => RM g m M0 (if cdSt σ x0 0 = 0 then clU (uN σ 0 0 (cdSt σ x0 0)) (cl x0) else uN σ 0 0 (cdSt σ x0 0)) M9 ∧ (cdSt σ x0 0 = 0 → r9 = nI (plIn (clU (uN σ 0 0 (cdSt σ x0 0)) (cl x0)) (cl x0))))) nX 0 0 := ⟨_, rfl⟩
  rw [← hQ]
  have hB9 := hB
  obtain ⟨h6, h7, h18, hr8, hk96, hp96, hb16, hh⟩ := hB9
  refine x_aload_n F 0 dX4_close_0 rfl ?_
  refine x_iload_n F 1 dX4_close_1 rfl ?_
  refine x_callV F s_X4_129 hR.1 rfl rfl (c_X4_isRodeo F.nt hR (by omega)) rfl dX4_close_2 (by decide) (by decide) (Nat.le_of_ble_eq_true rfl) x_noX (ki fun r M2 hp => ?_)
  obtain ⟨rfl, rfl⟩ := hp
  refine x_istore_n F [(2, .int (nI (bz (inN x0 (σ.1 18 0))))), (0, .ref (m 0)), (1, .int (x0))] dX4_close_5 (by decide) rfl ?_
  refine x_aload_n F 1 dX4_close_6 rfl ?_
  have J29 : ∀ (vj : Int32), vj = nI (cdSt σ x0 0) → XW K g 4 Q M 0 0 29 [(2, .int (nI (bz (inN x0 (σ.1 18 0))))), (0, .ref (m 0)), (1, .int (x0))] [.int (vj), .ref (m 0)] := by
    intro vj ej29_vj
    subst ej29_vj
    refine x_callV F s_X4_113 hR.1 rfl rfl (c_X4_holds F.nt hR (lt_cdSt)) rfl dX4_close_29 (by decide) (by decide) (Nat.le_of_ble_eq_true rfl) x_noX (ki fun r_2 M2_2 hp_2 => ?_)
    obtain ⟨rfl, hR0⟩ := hp_2
    obtain ⟨σ0, eσ0⟩ : ∃ z, z = uN σ 0 0 ((cdSt σ x0 0)) := ⟨_, rfl⟩
    rw [← eσ0] at hR0
    have hBσ0 : Bd σ0 := eσ0 ▸ Bd_u0 hB
    refine x_if_ne F 37 dX4_close_32 (by decide) (fun c32 => ?_) (fun c32 => ?_)
    · have c32 := nI_bz1.mp c32
      have c32 := of_decide_eq_true c32
      refine x_sub [1, 2] rfl (L' := [(0, .ref (m 0)), (1, .int (x0))]) ?_
      obtain ⟨r, hr, rfl⟩ := inN_t (n := σ.1 18 0) (by omega) (show inN x0 (σ.1 18 0) = true by (unfold cdSt at c32; by_cases z : inN x0 (σ.1 18 0) = true; exact z; simp [z] at c32))
      have hr8_ : r < 8 := by omega
      have h17 := (hr8 r hr8_).2.2.2.2.2.2.2.1
      refine x_iconst F (nI 0) dX4_close_37 (by decide) ?_
      refine x_istore_n F [(3, .int (nI (0))), (0, .ref (m 0)), (1, .int (nI (r)))] dX4_close_38 (by decide) rfl ?_
      have LP39 : ∀ i, i ≤ (σ.1 17 r) → ∀ (Mi39 : MM), RM g m M0 (clE σ0 r i) Mi39 → ∀ (v39_3 : Int32), v39_3 = nI (i) → XW K g 4 Q Mi39 0 0 39 [(3, .int (v39_3)), (0, .ref (m 0)), (1, .int (nI (r)))] [] := by
        refine x_loop ((σ.1 17 r)) _ (fun i hi ihi => ?_)
        intro Mi39 hR39 v39_3 e39_3
        subst e39_3
        have hBi : Bd (clE σ0 r i) := Bd_cl hBσ0 hr8_ i (by have := h17; omega)
        refine x_iload_n F 0 dX4_close_39 rfl ?_
        refine x_aload_n F 1 dX4_close_40 rfl ?_
        refine x_fget F f_X4_53 hR39.1 (v := .ref (rA m 17)) dX4_close_41 rfl ?_
        refine x_iload_n F 2 dX4_close_44 rfl ?_
        refine x_mld F hR39 17 rfl (fun _ _ => rfl) dX4_close_45 (by show _ < 8; omega) ?_
        refine x_ri0 (y := nI (σ.1 17 (r))) (by rw [clE_1, eσ0]; rfl) ?_
        refine x_icmp_ge F 70 dX4_close_46 (by decide) (fun c46 => ?_) (fun c46 => ?_)
        · have c46 := (nI_leI (by omega) (by omega)).mp c46
          have c46b := Nat.not_lt.mpr c46
          have h9 : i = σ.1 17 r := by omega
          skip
          refine x_aload_n F 1 dX4_close_70 rfl ?_
          refine x_fget F f_X4_47 hR39.1 (v := .ref (rA m 15)) dX4_close_71 rfl ?_
          refine x_iload_n F 2 dX4_close_74 rfl ?_
          refine x_iconst F (nI 1) dX4_close_75 (by decide) ?_
          refine x_mst F hR39 15 rfl (fun _ _ => rfl) dX4_close_76 (by show _ < 8; omega) (fun M1 hR1 => ?_)
          refine x_aload_n F 1 dX4_close_77 rfl ?_
          refine x_iload_n F 2 dX4_close_78 rfl ?_
          refine x_callV F s_X4_122 hR1.1 rfl rfl (c_X4_placedIn F.nt hR1 (hr8_)) rfl dX4_close_79 (by decide) (by decide) (Nat.le_of_ble_eq_true rfl) x_noX (ki fun r_3 M2_3 hp_3 => ?_)
          obtain ⟨rfl, rfl⟩ := hp_3
          rw [hQ]
          exact x_iret F dX4_close_82 (by decide) ⟨_, rfl, by rw [if_pos c32, ← eσ0, cl_nI (by omega)]; unfold clU; rw [show σ0.1 17 r = i by rw [eσ0]; exact h9.symm]; exact hR1, fun _ => by rw [← eσ0, cl_nI (by omega)]; unfold clU; rw [show σ0.1 17 r = i by rw [eσ0]; exact h9.symm]⟩
        · have c46 := mt (nI_leI (by omega) (by omega)).mpr c46
          have c46b := Nat.not_le.mp c46
          have h19 := hw r i hr (by omega)
          refine x_aload_n F 1 dX4_close_49 rfl ?_
          refine x_iload_n F 2 dX4_close_50 rfl ?_
          refine x_aload_n F 1 dX4_close_51 rfl ?_
          refine x_fget F f_X4_56 hR39.1 (v := .ref (rA m 19)) dX4_close_52 rfl ?_
          refine x_iload_n F 2 dX4_close_55 rfl ?_
          refine x_iload_n F 0 dX4_close_56 rfl ?_
          refine x_callS F s_X4_118 rfl (c_X4_at F.nt ) rfl dX4_close_57 (by decide) (by decide) (Nat.le_of_ble_eq_true rfl) x_noX (ki fun r_4 M2_4 hp_4 => ?_)
          obtain ⟨rfl, rfl⟩ := hp_4
          refine x_mld F hR39 19 rfl (fun _ _ => rfl) dX4_close_60 (by show _ < 96; omega) ?_
          refine x_ri0 (y := nI (σ.1 19 (12 * r + i))) (by rw [clE_1, eσ0]; rfl) ?_
          refine x_callV F s_X4_154 hR39.1 rfl rfl (c_X4_places F.nt hR39 hBi (hr8_) (h19)) rfl dX4_close_61 (by decide) (by decide) (Nat.le_of_ble_eq_true rfl) x_noX (kv fun  M2_5 hp_5 => ?_)
          refine x_iinc F 0 [(3, .int (nI (i + 1))), (0, .ref (m 0)), (1, .int (nI (r)))] dX4_close_64 rfl (iincN (i) 1) (by decide) rfl ?_
          refine x_goto F 39 dX4_close_67 (by decide) ?_
          exact ihi (by omega) _ (by (rw [show (clE σ0 r (i + 1)) = plU (clE σ0 r i) r (σ.1 19 (12 * r + i)) by simp only [clE]; rw [clE_1, eσ0]; rfl]); exact hp_5) _ (rfl)
      exact LP39 0 (by omega) _ hR0 _ (rfl)
    · have c32 := nI_bz0.mp c32
      have c32 := of_decide_eq_false c32
      refine x_iconst F (nI 0) dX4_close_35 (by decide) ?_
      rw [hQ]
      exact x_iret F dX4_close_36 (by decide) ⟨_, rfl, by rw [if_neg c32, ← eσ0]; exact hR0, fun h9 => absurd h9 c32⟩
  refine x_iload_n F 0 dX4_close_7 rfl ?_
  refine x_if_ne F 15 dX4_close_8 (by decide) (fun c8 => ?_) (fun c8 => ?_)
  · have c8 := nI_bz1.mp c8
    obtain ⟨c9, c10⟩ := inN_cl (by omega) c8
    refine x_aload_n F 1 dX4_close_15 rfl ?_
    refine x_fget F f_X4_47 hR.1 (v := .ref (rA m 15)) dX4_close_16 rfl ?_
    refine x_iload_n F 2 dX4_close_19 rfl ?_
    refine x_ri0 (y := nI (cl x0)) (c10) ?_
    refine x_mld F hR 15 rfl (fun _ _ => rfl) dX4_close_20 (by show _ < 8; omega) ?_
    refine x_if_eq F 28 dX4_close_21 (by decide) (fun c21 => ?_) (fun c21 => ?_)
    · have c21 := (nI_z (by have := (hr8 (cl x0) (by omega)).2.2.2.2.2.2.1; omega)).mp c21
      refine x_iconst F (nI 0) dX4_close_28 (by decide) ?_
      exact J29 _ (by (try clear c10); simp [cdSt, *])
    · have c21 := mt (nI_z (by have := (hr8 (cl x0) (by omega)).2.2.2.2.2.2.1; omega)).mpr c21
      refine x_iconst F (nI 2) dX4_close_24 (by decide) ?_
      refine x_goto F 29 dX4_close_25 (by decide) ?_
      exact J29 _ (by (try clear c10); simp [cdSt, *])
  · have c8 := nI_bz0.mp c8
    refine x_iconst F (nI 1) dX4_close_11 (by decide) ?_
    refine x_goto F 29 dX4_close_12 (by decide) ?_
    exact J29 _ (by (try clear c10); simp [cdSt, *])
set_option maxHeartbeats 4000000 in
set_option maxRecDepth 100000 in
theorem c_X4_isAhead {l : Launch} (hl : l.stackTraces = false) {g : GP} {M : MM} {m : Nat → Nat} {M0 : MM} {σ : ST} {b o : Nat} (hR : RM g m M0 σ M) (hB : Bd σ) (hb : b < 16) (ho : o < 16) : CT l g yX4_isAhead cX4_isAhead 5 (some .boolean) 0 0 0 0 [.ref (m 0), .int (nI (b)), .int (nI (o))] M (pI (fun r9 M9 => nI (bz (ahdS σ b o)) = r9 ∧ M = M9)) nX := by
  refine ct_of [(0, .ref (m 0)), (1, .int (nI (b))), (2, .int (nI (o)))] (by decide) hl (Nat.le_of_ble_eq_true rfl) rfl ?_
  intro K hK F
  subst hK
  have F : Fx K g cX4_isAhead RX4 5 (some .boolean) [] 0 0 0 0 := F
  obtain ⟨Q, hQ⟩ : ∃ Q, Q = MQx K g (pI (fun r9 M9 => nI (bz (ahdS σ b o)) = r9 ∧ M = M9)) nX 0 0 := ⟨_, rfl⟩
  rw [← hQ]
  have hB9 := hB
  obtain ⟨h6, h7, h18, hr8, hk96, hp96, hb16, hh⟩ := hB9
  have b1 := hb16 b hb
  have b2 := hb16 o ho
  have m1 : σ.1 3 b * σ.1 2 o ≤ 512 * 512 := Nat.mul_le_mul b1.2.2.1 b2.2.1
  have m2 : σ.1 3 o * σ.1 2 b ≤ 512 * 512 := Nat.mul_le_mul b2.2.2.1 b1.2.1
  have m3 : σ.1 4 b * σ.1 2 o ≤ 25600 * 512 := Nat.mul_le_mul b1.2.2.2 b2.2.1
  have m4 : σ.1 4 o * σ.1 2 b ≤ 25600 * 512 := Nat.mul_le_mul b2.2.2.2 b1.2.1
  refine x_aload_n F 0 dX4_isAhead_0 rfl ?_
  refine x_fget F f_X4_16 hR.1 (v := .ref (rA m 3)) dX4_isAhead_1 rfl ?_
  refine x_iload_n F 1 dX4_isAhead_4 rfl ?_
  refine x_mld F hR 3 rfl (fun _ _ => rfl) dX4_isAhead_5 (by show _ < 16; omega) ?_
  refine x_aload_n F 0 dX4_isAhead_6 rfl ?_
  refine x_fget F f_X4_13 hR.1 (v := .ref (rA m 2)) dX4_isAhead_7 rfl ?_
  refine x_iload_n F 2 dX4_isAhead_10 rfl ?_
  refine x_mld F hR 2 rfl (fun _ _ => rfl) dX4_isAhead_11 (by show _ < 16; omega) ?_
  refine x_imulN F dX4_isAhead_12 ?_
  refine x_aload_n F 0 dX4_isAhead_13 rfl ?_
  refine x_fget F f_X4_16 hR.1 (v := .ref (rA m 3)) dX4_isAhead_14 rfl ?_
  refine x_iload_n F 2 dX4_isAhead_17 rfl ?_
  refine x_mld F hR 3 rfl (fun _ _ => rfl) dX4_isAhead_18 (by show _ < 16; omega) ?_
  refine x_aload_n F 0 dX4_isAhead_19 rfl ?_
  refine x_fget F f_X4_13 hR.1 (v := .ref (rA m 2)) dX4_isAhead_20 rfl ?_
  refine x_iload_n F 1 dX4_isAhead_23 rfl ?_
  refine x_mld F hR 2 rfl (fun _ _ => rfl) dX4_isAhead_24 (by show _ < 16; omega) ?_
  refine x_imulN F dX4_isAhead_25 ?_
  refine x_isub F dX4_isAhead_26 ?_
  refine x_istore_n F [(3, .int ((nI ((σ.1 3 (b)) * (σ.1 2 (o)))) - (nI ((σ.1 3 (o)) * (σ.1 2 (b)))))), (0, .ref (m 0)), (1, .int (nI (b))), (2, .int (nI (o)))] dX4_isAhead_27 (by decide) rfl ?_
  refine x_aload_n F 1 dX4_isAhead_28 rfl ?_
  refine x_fget F f_X4_19 hR.1 (v := .ref (rA m 4)) dX4_isAhead_29 rfl ?_
  refine x_iload_n F 2 dX4_isAhead_32 rfl ?_
  refine x_mld F hR 4 rfl (fun _ _ => rfl) dX4_isAhead_33 (by show _ < 16; omega) ?_
  refine x_aload_n F 1 dX4_isAhead_34 rfl ?_
  refine x_fget F f_X4_13 hR.1 (v := .ref (rA m 2)) dX4_isAhead_35 rfl ?_
  refine x_iload_n F 3 dX4_isAhead_38 rfl ?_
  refine x_mld F hR 2 rfl (fun _ _ => rfl) dX4_isAhead_39 (by show _ < 16; omega) ?_
  refine x_imulN F dX4_isAhead_40 ?_
  refine x_aload_n F 1 dX4_isAhead_41 rfl ?_
  refine x_fget F f_X4_19 hR.1 (v := .ref (rA m 4)) dX4_isAhead_42 rfl ?_
  refine x_iload_n F 3 dX4_isAhead_45 rfl ?_
  refine x_mld F hR 4 rfl (fun _ _ => rfl) dX4_isAhead_46 (by show _ < 16; omega) ?_
  refine x_aload_n F 1 dX4_isAhead_47 rfl ?_
  refine x_fget F f_X4_13 hR.1 (v := .ref (rA m 2)) dX4_isAhead_48 rfl ?_
  refine x_iload_n F 2 dX4_isAhead_51 rfl ?_
  refine x_mld F hR 2 rfl (fun _ _ => rfl) dX4_isAhead_52 (by show _ < 16; omega) ?_
  refine x_imulN F dX4_isAhead_53 ?_
  refine x_isub F dX4_isAhead_54 ?_
  refine x_istore F [(4, .int ((nI ((σ.1 4 (b)) * (σ.1 2 (o)))) - (nI ((σ.1 4 (o)) * (σ.1 2 (b)))))), (3, .int ((nI ((σ.1 3 (b)) * (σ.1 2 (o)))) - (nI ((σ.1 3 (o)) * (σ.1 2 (b)))))), (0, .ref (m 0)), (1, .int (nI (b))), (2, .int (nI (o)))] dX4_isAhead_55 (by decide) rfl ?_
  refine x_iload_n F 1 dX4_isAhead_57 rfl ?_
  refine x_if_eq F 73 dX4_isAhead_58 (by decide) (fun c58 => ?_) (fun c58 => ?_)
  · have c58 := (sub_0 (by omega) (by omega)).mp c58
    refine x_iload F 0 dX4_isAhead_73 rfl ?_
    refine x_if_eq F 91 dX4_isAhead_75 (by decide) (fun c75 => ?_) (fun c75 => ?_)
    · have c75 := (sub_0 (by omega) (by omega)).mp c75
      refine x_iload_n F 3 dX4_isAhead_91 rfl ?_
      refine x_iload_n F 4 dX4_isAhead_92 rfl ?_
      refine x_icmp_ge F 100 dX4_isAhead_93 (by decide) (fun c93 => ?_) (fun c93 => ?_)
      · have c93 := (nI_leI (by omega) (by omega)).mp c93
        have c93b := Nat.not_lt.mpr c93
        refine x_iconst F (nI 0) dX4_isAhead_100 (by decide) ?_
        rw [hQ]
        exact x_zret F dX4_isAhead_101 (by decide) (Or.inl rfl) ⟨_, rfl, by unfold ahdS; simp [bz, *], rfl⟩
      · have c93 := mt (nI_leI (by omega) (by omega)).mpr c93
        have c93b := Nat.not_le.mp c93
        refine x_iconst F (nI 1) dX4_isAhead_96 (by decide) ?_
        refine x_goto F 101 dX4_isAhead_97 (by decide) ?_
        rw [hQ]
        exact x_zret F dX4_isAhead_101 (by decide) (Or.inr rfl) ⟨_, rfl, by unfold ahdS; simp [bz, *], rfl⟩
    · have c75 := mt (sub_0 (by omega) (by omega)).mpr c75
      refine x_iload F 0 dX4_isAhead_78 rfl ?_
      refine x_if_le F 87 dX4_isAhead_80 (by decide) (fun c80 => ?_) (fun c80 => ?_)
      · have c80 := (sub_le0 (by omega) (by omega)).mp c80
        have c81 := Nat.not_lt.mpr c80
        refine x_iconst F (nI 0) dX4_isAhead_87 (by decide) ?_
        refine x_goto F 101 dX4_isAhead_88 (by decide) ?_
        rw [hQ]
        exact x_zret F dX4_isAhead_101 (by decide) (Or.inl rfl) ⟨_, rfl, by unfold ahdS; simp [bz, *], rfl⟩
      · have c80 := mt (sub_le0 (by omega) (by omega)).mpr c80
        have c81 := Nat.not_le.mp c80
        refine x_iconst F (nI 1) dX4_isAhead_83 (by decide) ?_
        refine x_goto F 101 dX4_isAhead_84 (by decide) ?_
        rw [hQ]
        exact x_zret F dX4_isAhead_101 (by decide) (Or.inr rfl) ⟨_, rfl, by unfold ahdS; simp [bz, *], rfl⟩
  · have c58 := mt (sub_0 (by omega) (by omega)).mpr c58
    refine x_iload_n F 1 dX4_isAhead_61 rfl ?_
    refine x_if_le F 69 dX4_isAhead_62 (by decide) (fun c62 => ?_) (fun c62 => ?_)
    · have c62 := (sub_le0 (by omega) (by omega)).mp c62
      have c63 := Nat.not_lt.mpr c62
      refine x_iconst F (nI 0) dX4_isAhead_69 (by decide) ?_
      refine x_goto F 101 dX4_isAhead_70 (by decide) ?_
      rw [hQ]
      exact x_zret F dX4_isAhead_101 (by decide) (Or.inl rfl) ⟨_, rfl, by unfold ahdS; simp [bz, *], rfl⟩
    · have c62 := mt (sub_le0 (by omega) (by omega)).mpr c62
      have c63 := Nat.not_le.mp c62
      refine x_iconst F (nI 1) dX4_isAhead_65 (by decide) ?_
      refine x_goto F 101 dX4_isAhead_66 (by decide) ?_
      rw [hQ]
      exact x_zret F dX4_isAhead_101 (by decide) (Or.inr rfl) ⟨_, rfl, by unfold ahdS; simp [bz, *], rfl⟩
set_option maxHeartbeats 4000000 in
set_option maxRecDepth 100000 in
theorem c_X4_rankOf {l : Launch} (hl : l.stackTraces = false) {g : GP} {M : MM} {m : Nat → Nat} {M0 : MM} {σ : ST} {b : Nat} (hR : RM g m M0 σ M) (hB : Bd σ) (hb : b < 16) : CT l g yX4_rankOf cX4_rankOf 4 (some .int) 1 24 0 0 [.ref (m 0), .int (nI (b))] M (pI (fun r9 M9 => rkbS σ b = r9 ∧ M = M9)) nX := by
  refine ct_of [(0, .ref (m 0)), (1, .int (nI (b)))] (by decide) hl (Nat.le_of_ble_eq_true rfl) rfl ?_
  intro K hK F
  subst hK
  have F : Fx K g cX4_rankOf RX4 4 (some .int) [] 1 24 0 0 := F
  obtain ⟨Q, hQ⟩ : ∃ Q, Q = MQx K g (pI (fun r9 M9 => rkbS σ b = r9 ∧ M = M9)) nX 0 0 := ⟨_, rfl⟩
  rw [← hQ]
  have hB9 := hB
  obtain ⟨h6, h7, h18, hr8, hk96, hp96, hb16, hh⟩ := hB9
  have b1 := hb16 b hb
  refine x_iconst F (nI 0) dX4_rankOf_0 (by decide) ?_
  refine x_istore_n F [(2, .int (nI (0))), (0, .ref (m 0)), (1, .int (nI (b)))] dX4_rankOf_1 (by decide) rfl ?_
  refine x_iconst F (nI 0) dX4_rankOf_2 (by decide) ?_
  refine x_istore_n F [(3, .int (nI (0))), (2, .int (nI (0))), (0, .ref (m 0)), (1, .int (nI (b)))] dX4_rankOf_3 (by decide) rfl ?_
  have LP4 : ∀ i, i ≤ (σ.1 6 0) → ∀ (v4_2 : Int32) (v4_3 : Int32), v4_2 = nI (fb_ct (fun o => decide (¬ o = b) && decide (0 < σ.1 2 o) && ahdS σ o b) i) → v4_3 = nI (i) → XW K g 4 Q M 0 0 4 [(3, .int (v4_3)), (2, .int (v4_2)), (0, .ref (m 0)), (1, .int (nI (b)))] [] := by
    refine x_loop ((σ.1 6 0)) _ (fun i hi ihi => ?_)
    intro v4_2 v4_3 e4_2 e4_3
    subst e4_2
    subst e4_3
    refine x_iload_n F 0 dX4_rankOf_4 rfl ?_
    refine x_aload_n F 2 dX4_rankOf_5 rfl ?_
    refine x_fget F f_X4_100 hR.1 (v := .int (nI (σ.1 6 0))) dX4_rankOf_6 rfl ?_
    refine x_icmp_ge F 49 dX4_rankOf_9 (by decide) (fun c9 => ?_) (fun c9 => ?_)
    · have c9 := (nI_leI (by omega) (by omega)).mp c9
      have c9b := Nat.not_lt.mpr c9
      refine x_aload_n F 2 dX4_rankOf_49 rfl ?_
      refine x_fget F f_X4_13 hR.1 (v := .ref (rA m 2)) dX4_rankOf_50 rfl ?_
      refine x_iload_n F 3 dX4_rankOf_53 rfl ?_
      refine x_mld F hR 2 rfl (fun _ _ => rfl) dX4_rankOf_54 (by show _ < 16; omega) ?_
      refine x_if_ne F 62 dX4_rankOf_55 (by decide) (fun c55 => ?_) (fun c55 => ?_)
      · have c55 := mt (nI_z (by omega)).mpr c55
        refine x_iload_n F 1 dX4_rankOf_62 rfl ?_
        rw [hQ]
        exact x_iret F dX4_rankOf_63 (by decide) ⟨_, rfl, by have h9 : i = σ.1 6 0 := (by omega); subst h9; simp [rkbS, c55], rfl⟩
      · have c55 := (nI_z (by omega)).mp c55
        refine x_iconst F ((-1)) dX4_rankOf_58 (by decide) ?_
        refine x_goto F 63 dX4_rankOf_59 (by decide) ?_
        rw [hQ]
        exact x_iret F dX4_rankOf_63 (by decide) ⟨_, rfl, by have h9 : i = σ.1 6 0 := (by omega); subst h9; simp [rkbS, c55], rfl⟩
    · have c9 := mt (nI_leI (by omega) (by omega)).mpr c9
      have c9b := Nat.not_le.mp c9
      have b2 := hb16 i (by omega)
      refine x_iload_n F 1 dX4_rankOf_12 rfl ?_
      refine x_iload_n F 0 dX4_rankOf_13 rfl ?_
      refine x_iload_n F 3 dX4_rankOf_14 rfl ?_
      refine x_icmp_eq F 40 dX4_rankOf_15 (by decide) (fun c15 => ?_) (fun c15 => ?_)
      · have c15 := (nI_eq (by omega) (by omega)).mp c15
        refine x_iconst F (nI 0) dX4_rankOf_40 (by decide) ?_
        refine x_iaddN F dX4_rankOf_41 ?_
        refine x_istore_n F [(2, .int (nI ((fb_ct (fun o => decide (¬ o = b) && decide (0 < σ.1 2 o) && ahdS σ o b) i) + 0))), (3, .int (nI (i))), (0, .ref (m 0)), (1, .int (nI (b)))] dX4_rankOf_42 (by decide) rfl ?_
        refine x_iinc F 1 [(3, .int (nI (i + 1))), (2, .int (nI ((fb_ct (fun o => decide (¬ o = b) && decide (0 < σ.1 2 o) && ahdS σ o b) i) + 0))), (0, .ref (m 0)), (1, .int (nI (b)))] dX4_rankOf_43 rfl (iincN (i) 1) (by decide) rfl ?_
        refine x_goto F 4 dX4_rankOf_46 (by decide) ?_
        exact ihi (by omega) _ _ (by simp [fb_ct_succ, *]) (rfl)
      · have c15 := mt (nI_eq (by omega) (by omega)).mpr c15
        refine x_aload_n F 2 dX4_rankOf_18 rfl ?_
        refine x_fget F f_X4_13 hR.1 (v := .ref (rA m 2)) dX4_rankOf_19 rfl ?_
        refine x_iload_n F 0 dX4_rankOf_22 rfl ?_
        refine x_mld F hR 2 rfl (fun _ _ => rfl) dX4_rankOf_23 (by show _ < 16; omega) ?_
        refine x_if_le F 40 dX4_rankOf_24 (by decide) (fun c24 => ?_) (fun c24 => ?_)
        · have c24 := (nI_le0 (by omega)).mp c24
          have c24b := Nat.not_lt.mpr (Nat.le_zero.mpr c24)
          refine x_iconst F (nI 0) dX4_rankOf_40 (by decide) ?_
          refine x_iaddN F dX4_rankOf_41 ?_
          refine x_istore_n F [(2, .int (nI ((fb_ct (fun o => decide (¬ o = b) && decide (0 < σ.1 2 o) && ahdS σ o b) i) + 0))), (3, .int (nI (i))), (0, .ref (m 0)), (1, .int (nI (b)))] dX4_rankOf_42 (by decide) rfl ?_
          refine x_iinc F 1 [(3, .int (nI (i + 1))), (2, .int (nI ((fb_ct (fun o => decide (¬ o = b) && decide (0 < σ.1 2 o) && ahdS σ o b) i) + 0))), (0, .ref (m 0)), (1, .int (nI (b)))] dX4_rankOf_43 rfl (iincN (i) 1) (by decide) rfl ?_
          refine x_goto F 4 dX4_rankOf_46 (by decide) ?_
          exact ihi (by omega) _ _ (by simp [fb_ct_succ, *]) (rfl)
        · have c24 := mt (nI_le0 (by omega)).mpr c24
          have c24b := Nat.pos_of_ne_zero c24
          refine x_aload_n F 2 dX4_rankOf_27 rfl ?_
          refine x_iload_n F 0 dX4_rankOf_28 rfl ?_
          refine x_iload_n F 3 dX4_rankOf_29 rfl ?_
          refine x_callV F s_X4_184 hR.1 rfl rfl (c_X4_isAhead F.nt hR hB (by omega) (by omega)) rfl dX4_rankOf_30 (by decide) (by decide) (Nat.le_of_ble_eq_true rfl) x_noX (ki fun r M2 hp => ?_)
          obtain ⟨rfl, rfl⟩ := hp
          refine x_if_eq F 40 dX4_rankOf_33 (by decide) (fun c33 => ?_) (fun c33 => ?_)
          · have c33 := nI_bz0.mp c33
            refine x_iconst F (nI 0) dX4_rankOf_40 (by decide) ?_
            refine x_iaddN F dX4_rankOf_41 ?_
            refine x_istore_n F [(2, .int (nI ((fb_ct (fun o => decide (¬ o = b) && decide (0 < σ.1 2 o) && ahdS σ o b) i) + 0))), (3, .int (nI (i))), (0, .ref (m 0)), (1, .int (nI (b)))] dX4_rankOf_42 (by decide) rfl ?_
            refine x_iinc F 1 [(3, .int (nI (i + 1))), (2, .int (nI ((fb_ct (fun o => decide (¬ o = b) && decide (0 < σ.1 2 o) && ahdS σ o b) i) + 0))), (0, .ref (m 0)), (1, .int (nI (b)))] dX4_rankOf_43 rfl (iincN (i) 1) (by decide) rfl ?_
            refine x_goto F 4 dX4_rankOf_46 (by decide) ?_
            exact ihi (by omega) _ _ (by simp [fb_ct_succ, *]) (rfl)
          · have c33 := nI_bz1.mp c33
            refine x_iconst F (nI 1) dX4_rankOf_36 (by decide) ?_
            refine x_goto F 41 dX4_rankOf_37 (by decide) ?_
            refine x_iaddN F dX4_rankOf_41 ?_
            refine x_istore_n F [(2, .int (nI ((fb_ct (fun o => decide (¬ o = b) && decide (0 < σ.1 2 o) && ahdS σ o b) i) + 1))), (3, .int (nI (i))), (0, .ref (m 0)), (1, .int (nI (b)))] dX4_rankOf_42 (by decide) rfl ?_
            refine x_iinc F 1 [(3, .int (nI (i + 1))), (2, .int (nI ((fb_ct (fun o => decide (¬ o = b) && decide (0 < σ.1 2 o) && ahdS σ o b) i) + 1))), (0, .ref (m 0)), (1, .int (nI (b)))] dX4_rankOf_43 rfl (iincN (i) 1) (by decide) rfl ?_
            refine x_goto F 4 dX4_rankOf_46 (by decide) ?_
            exact ihi (by omega) _ _ (by simp [fb_ct_succ, *]) (rfl)
  exact LP4 0 (by omega) _ _ (rfl) (rfl)
set_option maxHeartbeats 4000000 in
set_option maxRecDepth 100000 in
theorem c_X4_told {l : Launch} (hl : l.stackTraces = false) {g : GP} {M : MM} {m : Nat → Nat} {M0 : MM} {σ : ST} {b : Nat} {x0 : Int32} (hR : RM g m M0 σ M) (hB : Bd σ) (hb : b < 16) : CT l g yX4_told cX4_told 3 (some .int) 2 47 0 0 [.ref (m 0), .int (nI (b)), .int (x0)] M (pI (fun r9 M9 => toldS σ b x0 = r9 ∧ M = M9)) nX := by
  refine ct_of [(0, .ref (m 0)), (1, .int (nI (b))), (2, .int (x0))] (by decide) hl (Nat.le_of_ble_eq_true rfl) rfl ?_
  intro K hK F
  subst hK
  have F : Fx K g cX4_told RX4 3 (some .int) [] 2 47 0 0 := F
  obtain ⟨Q, hQ⟩ : ∃ Q, Q = MQx K g (pI (fun r9 M9 => toldS σ b x0 = r9 ∧ M = M9)) nX 0 0 := ⟨_, rfl⟩
  rw [← hQ]
  have hB9 := hB
  obtain ⟨h6, h7, h18, hr8, hk96, hp96, hb16, hh⟩ := hB9
  refine x_iload_n F 2 dX4_told_0 rfl ?_
  by_cases y0 : x0 = 0
  · subst y0
    refine x_tableIn F 32 dX4_told_1 (by decide) (by decide) rfl (by decide) ?_
    refine x_aload_n F 0 dX4_told_32 rfl ?_
    refine x_fget F f_X4_7 hR.1 (v := .ref (rA m 1)) dX4_told_33 rfl ?_
    refine x_iload_n F 1 dX4_told_36 rfl ?_
    refine x_mld F hR 1 rfl (fun _ _ => rfl) dX4_told_37 (by show _ < 16; omega) ?_
    rw [hQ]
    exact x_iret F dX4_told_38 (by decide) ⟨_, rfl, by simp [toldS, *], rfl⟩
  by_cases y1 : x0 = 1
  · subst y1
    refine x_tableIn F 39 dX4_told_1 (by decide) (by decide) rfl (by decide) ?_
    refine x_aload_n F 0 dX4_told_39 rfl ?_
    refine x_fget F f_X4_13 hR.1 (v := .ref (rA m 2)) dX4_told_40 rfl ?_
    refine x_iload_n F 1 dX4_told_43 rfl ?_
    refine x_mld F hR 2 rfl (fun _ _ => rfl) dX4_told_44 (by show _ < 16; omega) ?_
    rw [hQ]
    exact x_iret F dX4_told_45 (by decide) ⟨_, rfl, by simp [toldS, *], rfl⟩
  by_cases y2 : x0 = 2
  · subst y2
    refine x_tableIn F 46 dX4_told_1 (by decide) (by decide) rfl (by decide) ?_
    refine x_aload_n F 0 dX4_told_46 rfl ?_
    refine x_fget F f_X4_16 hR.1 (v := .ref (rA m 3)) dX4_told_47 rfl ?_
    refine x_iload_n F 1 dX4_told_50 rfl ?_
    refine x_mld F hR 3 rfl (fun _ _ => rfl) dX4_told_51 (by show _ < 16; omega) ?_
    rw [hQ]
    exact x_iret F dX4_told_52 (by decide) ⟨_, rfl, by simp [toldS, *], rfl⟩
  by_cases y3 : x0 = 3
  · subst y3
    refine x_tableIn F 53 dX4_told_1 (by decide) (by decide) rfl (by decide) ?_
    refine x_aload_n F 0 dX4_told_53 rfl ?_
    refine x_fget F f_X4_19 hR.1 (v := .ref (rA m 4)) dX4_told_54 rfl ?_
    refine x_iload_n F 1 dX4_told_57 rfl ?_
    refine x_mld F hR 4 rfl (fun _ _ => rfl) dX4_told_58 (by show _ < 16; omega) ?_
    rw [hQ]
    exact x_iret F dX4_told_59 (by decide) ⟨_, rfl, by simp [toldS, *], rfl⟩
  · refine x_tableOut F 60 dX4_told_1 (by have h0 := mt (Int32.toInt_inj (x := x0) (y := 0)).mp y0; have h1 := mt (Int32.toInt_inj (x := x0) (y := 1)).mp y1; have h2 := mt (Int32.toInt_inj (x := x0) (y := 2)).mp y2; have h3 := mt (Int32.toInt_inj (x := x0) (y := 3)).mp y3; have e0 : (0 : Int32).toInt = 0 := (by decide); have e1 : (1 : Int32).toInt = 1 := (by decide); have e2 : (2 : Int32).toInt = 2 := (by decide); have e3 : (3 : Int32).toInt = 3 := (by decide); omega) (by decide) ?_
    refine x_aload_n F 0 dX4_told_60 rfl ?_
    refine x_iload_n F 1 dX4_told_61 rfl ?_
    refine x_callV F s_X4_187 hR.1 rfl rfl (c_X4_rankOf F.nt hR hB (by omega)) rfl dX4_told_62 (by decide) (by decide) (Nat.le_of_ble_eq_true rfl) x_noX (ki fun r M2 hp => ?_)
    obtain ⟨rfl, rfl⟩ := hp
    rw [hQ]
    exact x_iret F dX4_told_65 (by decide) ⟨_, rfl, by simp [toldS, *], rfl⟩
set_option maxHeartbeats 4000000 in
set_option maxRecDepth 100000 in
theorem c_X4_beastIs {l : Launch} (hl : l.stackTraces = false) {g : GP} {M : MM} {m : Nat → Nat} {M0 : MM} {σ : ST} {x0 y0 : Int32} (hR : RM g m M0 σ M) (hB : Bd σ) : CT l g yX4_beastIs cX4_beastIs 4 (some .int) 3 69 0 0 [.ref (m 0), .int (x0), .int (y0)] M (pI (fun r9 M9 => RM g m M0 (uN σ 0 0 (cdBI σ x0 y0)) M9 ∧ (cdBI σ x0 y0 = 0 → r9 = toldS σ (cl x0) y0))) nX := by
  refine ct_of [(0, .ref (m 0)), (1, .int (x0)), (2, .int (y0))] (by decide) hl (Nat.le_of_ble_eq_true rfl) rfl ?_
  intro K hK F
  subst hK
  have F : Fx K g cX4_beastIs RX4 4 (some .int) [] 3 69 0 0 := F
  obtain ⟨Q, hQ⟩ : ∃ Q, Q = MQx K g (pI (fun r9 M9 => RM g m M0 (uN σ 0 0 (cdBI σ x0 y0)) M9 ∧ (cdBI σ x0 y0 = 0 → r9 = toldS σ (cl x0) y0))) nX 0 0 := ⟨_, rfl⟩
  rw [← hQ]
  have hB9 := hB
  obtain ⟨h6, h7, h18, hr8, hk96, hp96, hb16, hh⟩ := hB9
  refine x_aload_n F 0 dX4_beastIs_0 rfl ?_
  refine x_iload_n F 1 dX4_beastIs_1 rfl ?_
  refine x_callV F s_X4_190 hR.1 rfl rfl (c_X4_isBeast F.nt hR (by omega)) rfl dX4_beastIs_2 (by decide) (by decide) (Nat.le_of_ble_eq_true rfl) x_noX (ki fun r M2 hp => ?_)
  obtain ⟨rfl, rfl⟩ := hp
  refine x_istore_n F [(3, .int (nI (bz (inN x0 (σ.1 6 0))))), (0, .ref (m 0)), (1, .int (x0)), (2, .int (y0))] dX4_beastIs_5 (by decide) rfl ?_
  refine x_aload_n F 1 dX4_beastIs_6 rfl ?_
  have J29 : ∀ (vj : Int32), vj = nI (cdBI σ x0 y0) → XW K g 4 Q M 0 0 29 [(3, .int (nI (bz (inN x0 (σ.1 6 0))))), (0, .ref (m 0)), (1, .int (x0)), (2, .int (y0))] [.int (vj), .ref (m 0)] := by
    intro vj ej29_vj
    subst ej29_vj
    refine x_callV F s_X4_113 hR.1 rfl rfl (c_X4_holds F.nt hR (lt_cdBI)) rfl dX4_beastIs_29 (by decide) (by decide) (Nat.le_of_ble_eq_true rfl) x_noX (ki fun r_2 M2_2 hp_2 => ?_)
    obtain ⟨rfl, hR0⟩ := hp_2
    obtain ⟨σ0, eσ0⟩ : ∃ z, z = uN σ 0 0 ((cdBI σ x0 y0)) := ⟨_, rfl⟩
    rw [← eσ0] at hR0
    have hBσ0 : Bd σ0 := eσ0 ▸ Bd_u0 hB
    refine x_if_eq F 44 dX4_beastIs_32 (by decide) (fun c32 => ?_) (fun c32 => ?_)
    · have c32 := nI_bz0.mp c32
      have c32 := of_decide_eq_false c32
      refine x_iconst F (nI 0) dX4_beastIs_44 (by decide) ?_
      rw [hQ]
      exact x_iret F dX4_beastIs_45 (by decide) ⟨_, rfl, eσ0 ▸ hR0, fun h9 => (by first | exact absurd h9 c32 | (rw [cl_nI (by omega), eσ0]; rfl))⟩
    · have c32 := nI_bz1.mp c32
      have c32 := of_decide_eq_true c32
      obtain ⟨r, hr, rfl⟩ := inN_t (n := σ.1 6 0) (by omega) (show inN x0 (σ.1 6 0) = true by (unfold cdBI at c32; by_cases z : inN x0 (σ.1 6 0) = true; exact z; simp [z] at c32))
      refine x_aload_n F 1 dX4_beastIs_35 rfl ?_
      refine x_iload_n F 2 dX4_beastIs_36 rfl ?_
      refine x_iload_n F 3 dX4_beastIs_37 rfl ?_
      refine x_callV F s_X4_193 hR0.1 rfl rfl (c_X4_told F.nt hR0 hBσ0 (by omega)) rfl dX4_beastIs_38 (by decide) (by decide) (Nat.le_of_ble_eq_true rfl) x_noX (ki fun r_3 M2_3 hp_3 => ?_)
      obtain ⟨rfl, rfl⟩ := hp_3
      refine x_goto F 45 dX4_beastIs_41 (by decide) ?_
      rw [hQ]
      exact x_iret F dX4_beastIs_45 (by decide) ⟨_, rfl, eσ0 ▸ hR0, fun h9 => (by first | exact absurd h9 c32 | (rw [cl_nI (by omega), eσ0]; rfl))⟩
  refine x_iload_n F 0 dX4_beastIs_7 rfl ?_
  refine x_if_ne F 15 dX4_beastIs_8 (by decide) (fun c8 => ?_) (fun c8 => ?_)
  · have c8 := nI_bz1.mp c8
    refine x_iload_n F 3 dX4_beastIs_15 rfl ?_
    refine x_iconst F (nI 0) dX4_beastIs_16 (by decide) ?_
    refine x_iconst F (nI 4) dX4_beastIs_17 (by decide) ?_
    refine x_callS F s_X4_103 rfl (c_X4_isIn F.nt ) rfl dX4_beastIs_18 (by decide) (by decide) (Nat.le_of_ble_eq_true rfl) x_noX (ki fun r_4 M2_4 hp_4 => ?_)
    obtain ⟨rfl, rfl⟩ := hp_4
    refine x_if_ne F 28 dX4_beastIs_21 (by decide) (fun c21 => ?_) (fun c21 => ?_)
    · have c21 := nI_bz1.mp c21
      refine x_iconst F (nI 0) dX4_beastIs_28 (by decide) ?_
      exact J29 _ (by simp [cdBI, *])
    · have c21 := nI_bz0.mp c21
      refine x_iconst F (nI 2) dX4_beastIs_24 (by decide) ?_
      refine x_goto F 29 dX4_beastIs_25 (by decide) ?_
      exact J29 _ (by simp [cdBI, *])
  · have c8 := nI_bz0.mp c8
    refine x_iconst F (nI 1) dX4_beastIs_11 (by decide) ?_
    refine x_goto F 29 dX4_beastIs_12 (by decide) ?_
    exact J29 _ (by simp [cdBI, *])
set_option maxHeartbeats 4000000 in
set_option maxRecDepth 100000 in
theorem c_X4_canBePaid {l : Launch} (hl : l.stackTraces = false) {g : GP} {M : MM} {m : Nat → Nat} {M0 : MM} {σ : ST} {r : Nat} (hR : RM g m M0 σ M) (hB : Bd σ) (hr : r < 8) : CT l g yX4_canBePaid cX4_canBePaid 4 (some .boolean) 1 21 0 0 [.ref (m 0), .int (nI (r))] M (pI (fun r9 M9 => nI (bz (payB σ r)) = r9 ∧ M = M9)) nX := by
  refine ct_of [(0, .ref (m 0)), (1, .int (nI (r)))] (by decide) hl (Nat.le_of_ble_eq_true rfl) rfl ?_
  intro K hK F
  subst hK
  have F : Fx K g cX4_canBePaid RX4 4 (some .boolean) [] 1 21 0 0 := F
  obtain ⟨Q, hQ⟩ : ∃ Q, Q = MQx K g (pI (fun r9 M9 => nI (bz (payB σ r)) = r9 ∧ M = M9)) nX 0 0 := ⟨_, rfl⟩
  rw [← hQ]
  have hB9 := hB
  obtain ⟨h6, h7, h18, hr8, hk96, hp96, hb16, hh⟩ := hB9
  have b1 := hr8 r hr
  have J15 : ∀ (vj : Int32), vj = nI (bz (decide (σ.1 15 r = 2))) → XW K g 4 Q M 0 0 15 [(0, .ref (m 0)), (1, .int (nI (r)))] [.int (vj)] := by
    intro vj ej15_vj
    subst ej15_vj
    refine x_istore_n F [(2, .int (nI (bz (decide (σ.1 15 r = 2))))), (0, .ref (m 0)), (1, .int (nI (r)))] dX4_canBePaid_15 (by decide) rfl ?_
    refine x_iload_n F 2 dX4_canBePaid_16 rfl ?_
    refine x_iconst F (nI 0) dX4_canBePaid_17 (by decide) ?_
    refine x_callS F s_X4_118 rfl (c_X4_at F.nt ) rfl dX4_canBePaid_18 (by decide) (by decide) (Nat.le_of_ble_eq_true rfl) x_noX (ki fun r M2 hp => ?_)
    obtain ⟨rfl, rfl⟩ := hp
    refine x_istore_n F [(3, .int (nI (12 * r + 0))), (2, .int (nI (bz (decide (σ.1 15 r = 2))))), (0, .ref (m 0)), (1, .int (nI (r)))] dX4_canBePaid_21 (by decide) rfl ?_
    have LP22 : ∀ i, i ≤ 12 → ∀ (v22_2 : Int32) (v22_3 : Int32), v22_2 = nI (bz (decide (σ.1 15 r = 2) && allB (fun j => decide (σ.1 24 (12 * r + j) = 0) && decide (σ.1 26 (12 * r + j) = 0)) i)) → v22_3 = nI (12 * r + i) → XW K g 4 Q M 0 0 22 [(3, .int (v22_3)), (2, .int (v22_2)), (0, .ref (m 0)), (1, .int (nI (r)))] [] := by
      refine x_loop 12 _ (fun i hi ihi => ?_)
      intro v22_2 v22_3 e22_2 e22_3
      subst e22_2
      subst e22_3
      refine x_iload_n F 0 dX4_canBePaid_22 rfl ?_
      refine x_iload_n F 3 dX4_canBePaid_23 rfl ?_
      refine x_iconst F (nI 1) dX4_canBePaid_24 (by decide) ?_
      refine x_iaddN F dX4_canBePaid_25 ?_
      refine x_iconst F (nI 0) dX4_canBePaid_26 (by decide) ?_
      refine x_callS F s_X4_118 rfl (c_X4_at F.nt ) rfl dX4_canBePaid_27 (by decide) (by decide) (Nat.le_of_ble_eq_true rfl) x_noX (ki fun r_2 M2_2 hp_2 => ?_)
      obtain ⟨rfl, rfl⟩ := hp_2
      refine x_icmp_ge F 67 dX4_canBePaid_30 (by decide) (fun c30 => ?_) (fun c30 => ?_)
      · have c30 := (nI_leI (by omega) (by omega)).mp c30
        have c30b := Nat.not_lt.mpr c30
        refine x_iload_n F 1 dX4_canBePaid_67 rfl ?_
        rw [hQ]
        exact x_zret F dX4_canBePaid_68 (by decide) (bz_01 _) ⟨_, rfl, by have h9 : i = 12 := (by omega); subst h9; rfl, rfl⟩
      · have c30 := mt (nI_leI (by omega) (by omega)).mpr c30
        have c30b := Nat.not_le.mp c30
        have b2 := hk96 (12 * r + i) (by omega)
        refine x_iload_n F 1 dX4_canBePaid_33 rfl ?_
        refine x_if_eq F 59 dX4_canBePaid_34 (by decide) (fun c34 => ?_) (fun c34 => ?_)
        · have c34 := nI_bz0.mp c34
          refine x_iconst F (nI 0) dX4_canBePaid_59 (by decide) ?_
          refine x_istore_n F [(2, .int (nI (0))), (3, .int (nI (12 * r + i))), (0, .ref (m 0)), (1, .int (nI (r)))] dX4_canBePaid_60 (by decide) rfl ?_
          refine x_iinc F 1 [(3, .int (nI (12 * r + i + 1))), (2, .int (nI (0))), (0, .ref (m 0)), (1, .int (nI (r)))] dX4_canBePaid_61 rfl (iincN (12 * r + i) 1) (by decide) rfl ?_
          refine x_goto F 22 dX4_canBePaid_64 (by decide) ?_
          exact ihi (by omega) _ _ (by simp only [allB]; rw [← Bool.and_assoc, c34]; simp [bz, *]) (rfl)
        · have c34 := nI_bz1.mp c34
          refine x_aload_n F 2 dX4_canBePaid_37 rfl ?_
          refine x_fget F f_X4_71 hR.1 (v := .ref (rA m 24)) dX4_canBePaid_38 rfl ?_
          refine x_iload_n F 0 dX4_canBePaid_41 rfl ?_
          refine x_mldZ F hR 24 rfl (fun _ _ => rfl) dX4_canBePaid_42 (by show _ < 96; omega) ?_
          refine x_if_ne F 59 dX4_canBePaid_43 (by decide) (fun c43 => ?_) (fun c43 => ?_)
          · have c43 := mt (nI_z (by omega)).mpr c43
            refine x_iconst F (nI 0) dX4_canBePaid_59 (by decide) ?_
            refine x_istore_n F [(2, .int (nI (0))), (3, .int (nI (12 * r + i))), (0, .ref (m 0)), (1, .int (nI (r)))] dX4_canBePaid_60 (by decide) rfl ?_
            refine x_iinc F 1 [(3, .int (nI (12 * r + i + 1))), (2, .int (nI (0))), (0, .ref (m 0)), (1, .int (nI (r)))] dX4_canBePaid_61 rfl (iincN (12 * r + i) 1) (by decide) rfl ?_
            refine x_goto F 22 dX4_canBePaid_64 (by decide) ?_
            exact ihi (by omega) _ _ (by simp only [allB]; rw [← Bool.and_assoc, c34]; simp [bz, *]) (rfl)
          · have c43 := (nI_z (by omega)).mp c43
            refine x_aload_n F 2 dX4_canBePaid_46 rfl ?_
            refine x_fget F f_X4_78 hR.1 (v := .ref (rA m 26)) dX4_canBePaid_47 rfl ?_
            refine x_iload_n F 0 dX4_canBePaid_50 rfl ?_
            refine x_mldZ F hR 26 rfl (fun _ _ => rfl) dX4_canBePaid_51 (by show _ < 96; omega) ?_
            refine x_if_ne F 59 dX4_canBePaid_52 (by decide) (fun c52 => ?_) (fun c52 => ?_)
            · have c52 := mt (nI_z (by omega)).mpr c52
              refine x_iconst F (nI 0) dX4_canBePaid_59 (by decide) ?_
              refine x_istore_n F [(2, .int (nI (0))), (3, .int (nI (12 * r + i))), (0, .ref (m 0)), (1, .int (nI (r)))] dX4_canBePaid_60 (by decide) rfl ?_
              refine x_iinc F 1 [(3, .int (nI (12 * r + i + 1))), (2, .int (nI (0))), (0, .ref (m 0)), (1, .int (nI (r)))] dX4_canBePaid_61 rfl (iincN (12 * r + i) 1) (by decide) rfl ?_
              refine x_goto F 22 dX4_canBePaid_64 (by decide) ?_
              exact ihi (by omega) _ _ (by simp only [allB]; rw [← Bool.and_assoc, c34]; simp [bz, *]) (rfl)
            · have c52 := (nI_z (by omega)).mp c52
              refine x_iconst F (nI 1) dX4_canBePaid_55 (by decide) ?_
              refine x_goto F 60 dX4_canBePaid_56 (by decide) ?_
              refine x_istore_n F [(2, .int (nI (1))), (3, .int (nI (12 * r + i))), (0, .ref (m 0)), (1, .int (nI (r)))] dX4_canBePaid_60 (by decide) rfl ?_
              refine x_iinc F 1 [(3, .int (nI (12 * r + i + 1))), (2, .int (nI (1))), (0, .ref (m 0)), (1, .int (nI (r)))] dX4_canBePaid_61 rfl (iincN (12 * r + i) 1) (by decide) rfl ?_
              refine x_goto F 22 dX4_canBePaid_64 (by decide) ?_
              exact ihi (by omega) _ _ (by simp only [allB]; rw [← Bool.and_assoc, c34]; simp [bz, *]) (rfl)
    exact LP22 0 (by omega) _ _ (by simp [allB]) (rfl)
  refine x_aload_n F 0 dX4_canBePaid_0 rfl ?_
  refine x_fget F f_X4_47 hR.1 (v := .ref (rA m 15)) dX4_canBePaid_1 rfl ?_
  refine x_iload_n F 1 dX4_canBePaid_4 rfl ?_
  refine x_mld F hR 15 rfl (fun _ _ => rfl) dX4_canBePaid_5 (by show _ < 8; omega) ?_
  refine x_iconst F (nI 2) dX4_canBePaid_6 (by decide) ?_
  refine x_icmp_ne F 14 dX4_canBePaid_7 (by decide) (fun c7 => ?_) (fun c7 => ?_)
  · have c7 := mt (nI_eq (by omega) (by omega)).mpr c7
    refine x_iconst F (nI 0) dX4_canBePaid_14 (by decide) ?_
    exact J15 _ (by simp [bz, *])
  · have c7 := (nI_eq (by omega) (by omega)).mp c7
    refine x_iconst F (nI 1) dX4_canBePaid_10 (by decide) ?_
    refine x_goto F 15 dX4_canBePaid_11 (by decide) ?_
    exact J15 _ (by simp [bz, *])
set_option maxHeartbeats 4000000 in
set_option maxRecDepth 100000 in
theorem c_X4_shares {l : Launch} (hl : l.stackTraces = false) {g : GP} {M : MM} {p x y : Nat} (hp : p ≤ 200000) (hx : 1 ≤ x) (hx2 : x < 100) (hy : y < 100) : CT l g yX4_shares cX4_shares 5 (some .int) 0 0 0 0 [.int (nI (p)), .int (nI (x)), .int (nI (y))] M (pI (fun r9 M9 => nI (shS p x y) = r9 ∧ M = M9)) nX := by
  refine ct_of [(0, .int (nI (p))), (1, .int (nI (x))), (2, .int (nI (y)))] (by decide) hl (Nat.le_of_ble_eq_true rfl) rfl ?_
  intro K hK F
  subst hK
  have F : Fx K g cX4_shares RX4 5 (some .int) [] 0 0 0 0 := F
  obtain ⟨Q, hQ⟩ : ∃ Q, Q = MQx K g (pI (fun r9 M9 => nI (shS p x y) = r9 ∧ M = M9)) nX 0 0 := ⟨_, rfl⟩
  rw [← hQ]
  refine x_iconst F (nI 0) dX4_shares_0 (by decide) ?_
  refine x_istore_n F [(3, .int (nI (0))), (0, .int (nI (p))), (1, .int (nI (x))), (2, .int (nI (y)))] dX4_shares_1 (by decide) rfl ?_
  refine x_iload_n F 2 dX4_shares_2 rfl ?_
  refine x_istore F [(4, .int (nI (x))), (3, .int (nI (0))), (0, .int (nI (p))), (1, .int (nI (x))), (2, .int (nI (y)))] dX4_shares_3 (by decide) rfl ?_
  have LP5 : ∀ i, i ≤ (min y 4 + 1 - x) → ∀ (v5_3 : Int32) (v5_4 : Int32), v5_3 = nI (fb_sm (fun i => p * (50 - 10 * (x + i)) / 100) i) → v5_4 = nI (x + i) → XW K g 5 Q M 0 0 5 [(4, .int (v5_4)), (3, .int (v5_3)), (0, .int (nI (p))), (1, .int (nI (x))), (2, .int (nI (y)))] [] := by
    refine x_loop ((min y 4 + 1 - x)) _ (fun i hi ihi => ?_)
    intro v5_3 v5_4 e5_3 e5_4
    subst e5_3
    subst e5_4
    refine x_iload F 0 dX4_shares_5 rfl ?_
    refine x_iload_n F 4 dX4_shares_7 rfl ?_
    refine x_icmp_gt F 39 dX4_shares_8 (by decide) (fun c8 => ?_) (fun c8 => ?_)
    · have c8 := (nI_ltI (by omega) (by omega)).mp c8
      have c8b := Nat.not_le.mpr c8
      have h9 : i = min y 4 + 1 - x := by omega
      refine x_iload_n F 1 dX4_shares_39 rfl ?_
      rw [hQ]
      exact x_iret F dX4_shares_40 (by decide) ⟨_, rfl, by unfold shS; rw [h9], rfl⟩
    · have c8 := mt (nI_ltI (by omega) (by omega)).mpr c8
      have c8b := Nat.not_lt.mp c8
      refine x_iload F 0 dX4_shares_11 rfl ?_
      refine x_iconst F (nI 4) dX4_shares_13 (by decide) ?_
      refine x_icmp_gt F 39 dX4_shares_14 (by decide) (fun c14 => ?_) (fun c14 => ?_)
      · have c14 := (nI_ltI (by omega) (by omega)).mp c14
        have c14b := Nat.not_le.mpr c14
        have h9 : i = min y 4 + 1 - x := by omega
        refine x_iload_n F 1 dX4_shares_39 rfl ?_
        rw [hQ]
        exact x_iret F dX4_shares_40 (by decide) ⟨_, rfl, by unfold shS; rw [h9], rfl⟩
      · have c14 := mt (nI_ltI (by omega) (by omega)).mpr c14
        have c14b := Nat.not_lt.mp c14
        have m1 : p * (50 - 10 * (x + i)) ≤ 200000 * 50 := Nat.mul_le_mul hp (by omega)
        refine x_iload_n F 1 dX4_shares_17 rfl ?_
        refine x_iload_n F 2 dX4_shares_18 rfl ?_
        refine x_bipush F (nI 50) dX4_shares_19 (by decide) ?_
        refine x_bipush F (nI 10) dX4_shares_21 (by decide) ?_
        refine x_iload F 0 dX4_shares_23 rfl ?_
        refine x_imulN F dX4_shares_25 ?_
        refine x_isubN F dX4_shares_26 (by omega) ?_
        refine x_imulN F dX4_shares_27 ?_
        refine x_bipush F (nI 100) dX4_shares_28 (by decide) ?_
        refine x_idivN F dX4_shares_30 (by omega) (by omega) (by omega) ?_
        refine x_iaddN F dX4_shares_31 ?_
        refine x_istore_n F [(3, .int (nI ((fb_sm (fun i => p * (50 - 10 * (x + i)) / 100) i) + ((p * (50 - (10 * (x + i)))) / 100)))), (4, .int (nI (x + i))), (0, .int (nI (p))), (1, .int (nI (x))), (2, .int (nI (y)))] dX4_shares_32 (by decide) rfl ?_
        refine x_iinc F 1 [(4, .int (nI (x + i + 1))), (3, .int (nI ((fb_sm (fun i => p * (50 - 10 * (x + i)) / 100) i) + ((p * (50 - (10 * (x + i)))) / 100)))), (0, .int (nI (p))), (1, .int (nI (x))), (2, .int (nI (y)))] dX4_shares_33 rfl (iincN (x + i) 1) (by decide) rfl ?_
        refine x_goto F 5 dX4_shares_36 (by decide) ?_
        exact ihi (by omega) _ _ (rfl) (rfl)
  exact LP5 0 (by omega) _ _ (rfl) (rfl)
