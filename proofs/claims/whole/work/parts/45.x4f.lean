set_option maxHeartbeats 4000000 in
set_option maxRecDepth 100000 in
theorem c_X4_ride {l : Launch} (hl : l.stackTraces = false) {g : GP} {M : MM} {m : Nat → Nat} {M0 : MM} {σ : ST} {x0 y0 mk w : Int32} {f : Bool} (hR : RM g m M0 σ M) (hB : Bd σ) (hbr : ∀ r j, r < σ.1 18 0 → j < σ.1 7 0 → ¬ σ.1 24 (12 * r + j) = 0 → ∃ b, b < σ.1 6 0 ∧ σ.2.1 23 (12 * r + j) = nI b) : CT l g yX4_ride cX4_ride 9 (some .int) 2 43 0 0 [.ref (m 0), .int (x0), .int (y0), .int (mk), .int (w), .int (nI (bz f))] M (pI (fun r9 M9 => RM g m M0 (if cdRi σ x0 y0 mk w = 0 then ridU (uN σ 0 0 (cdRi σ x0 y0 mk w)) (12 * cl x0 + cl y0) (cl (σ.2.1 23 (12 * cl x0 + cl y0))) (cl mk) (cl w) f else uN σ 0 0 (cdRi σ x0 y0 mk w)) M9 ∧ (cdRi σ x0 y0 mk w = 0 → r9 = (ridU (uN σ 0 0 (cdRi σ x0 y0 mk w)) (12 * cl x0 + cl y0) (cl (σ.2.1 23 (12 * cl x0 + cl y0))) (cl mk) (cl w) f).2.1 28 (12 * cl x0 + cl y0)))) nX := by
  refine ct_of [(0, .ref (m 0)), (1, .int (x0)), (2, .int (y0)), (3, .int (mk)), (4, .int (w)), (5, .int (nI (bz f)))] (by decide) hl (Nat.le_of_ble_eq_true rfl) rfl ?_
  intro K hK F
  subst hK
  have F : Fx K g cX4_ride RX4 9 (some .int) [] 2 43 0 0 := F
  obtain ⟨Q, hQ⟩ : ∃ Q, Q = MQx K g (pI (fun r9 M9 => RM g m M0 (if cdRi σ x0 y0 mk w = 0 then ridU (uN σ 0 0 (cdRi σ x0 y0 mk w)) (12 * cl x0 + cl y0) (cl (σ.2.1 23 (12 * cl x0 + cl y0))) (cl mk) (cl w) f else uN σ 0 0 (cdRi σ x0 y0 mk w)) M9 ∧ (cdRi σ x0 y0 mk w = 0 → r9 = (ridU (uN σ 0 0 (cdRi σ x0 y0 mk w)) (12 * cl x0 + cl y0) (cl (σ.2.1 23 (12 * cl x0 + cl y0))) (cl mk) (cl w) f).2.1 28 (12 * cl x0 + cl y0)))) nX 0 0 := ⟨_, rfl⟩
  rw [← hQ]
  have hB9 := hB
  obtain ⟨h6, h7, h18, hr8, hk96, hp96, hb16, hh⟩ := hB9
  have J21 : ∀ (va : Int32), va = nI (bz (inN x0 (σ.1 18 0) && inN y0 (σ.1 7 0))) → XW K g 9 Q M 0 0 21 [(0, .ref (m 0)), (1, .int (x0)), (2, .int (y0)), (3, .int (mk)), (4, .int (w)), (5, .int (nI (bz f)))] [.int (va)] := by
    intro va ej21_va
    subst ej21_va
    refine x_istore F [(6, .int (nI (bz (inN x0 (σ.1 18 0) && inN y0 (σ.1 7 0))))), (0, .ref (m 0)), (1, .int (x0)), (2, .int (y0)), (3, .int (mk)), (4, .int (w)), (5, .int (nI (bz f)))] dX4_ride_21 (by decide) rfl ?_
    have J49 : ∀ (vb : Int32), vb = nI (bz (inR mk (nI 0) (nI 456975) && inR w (nI 0) (nI 999999))) → XW K g 9 Q M 0 0 49 [(6, .int (nI (bz (inN x0 (σ.1 18 0) && inN y0 (σ.1 7 0))))), (0, .ref (m 0)), (1, .int (x0)), (2, .int (y0)), (3, .int (mk)), (4, .int (w)), (5, .int (nI (bz f)))] [.int (vb)] := by
      intro vb ej49_vb
      subst ej49_vb
      refine x_istore F [(7, .int (nI (bz (inR mk (nI 0) (nI 456975) && inR w (nI 0) (nI 999999))))), (6, .int (nI (bz (inN x0 (σ.1 18 0) && inN y0 (σ.1 7 0))))), (0, .ref (m 0)), (1, .int (x0)), (2, .int (y0)), (3, .int (mk)), (4, .int (w)), (5, .int (nI (bz f)))] dX4_ride_49 (by decide) rfl ?_
      have J65 : ∀ (vc : Int32), vc = nI ((if (inN x0 (σ.1 18 0) && inN y0 (σ.1 7 0)) = true then 12 * cl x0 + cl y0 else 0)) → XW K g 9 Q M 0 0 65 [(7, .int (nI (bz (inR mk (nI 0) (nI 456975) && inR w (nI 0) (nI 999999))))), (6, .int (nI (bz (inN x0 (σ.1 18 0) && inN y0 (σ.1 7 0))))), (0, .ref (m 0)), (1, .int (x0)), (2, .int (y0)), (3, .int (mk)), (4, .int (w)), (5, .int (nI (bz f)))] [.int (vc)] := by
        intro vc ej65_vc
        subst ej65_vc
        refine x_istore F [(8, .int (nI ((if (inN x0 (σ.1 18 0) && inN y0 (σ.1 7 0)) = true then 12 * cl x0 + cl y0 else 0)))), (7, .int (nI (bz (inR mk (nI 0) (nI 456975) && inR w (nI 0) (nI 999999))))), (6, .int (nI (bz (inN x0 (σ.1 18 0) && inN y0 (σ.1 7 0))))), (0, .ref (m 0)), (1, .int (x0)), (2, .int (y0)), (3, .int (mk)), (4, .int (w)), (5, .int (nI (bz f)))] dX4_ride_65 (by decide) rfl ?_
        refine x_aload_n F 3 dX4_ride_67 rfl ?_
        have J111 : ∀ (vj : Int32), vj = nI (cdRi σ x0 y0 mk w) → XW K g 9 Q M 0 0 111 [(8, .int (nI ((if (inN x0 (σ.1 18 0) && inN y0 (σ.1 7 0)) = true then 12 * cl x0 + cl y0 else 0)))), (7, .int (nI (bz (inR mk (nI 0) (nI 456975) && inR w (nI 0) (nI 999999))))), (6, .int (nI (bz (inN x0 (σ.1 18 0) && inN y0 (σ.1 7 0))))), (0, .ref (m 0)), (1, .int (x0)), (2, .int (y0)), (3, .int (mk)), (4, .int (w)), (5, .int (nI (bz f)))] [.int (vj), .ref (m 0)] := by
          intro vj ej111_vj
          subst ej111_vj
          refine x_callV F s_X4_113 hR.1 rfl rfl (c_X4_holds F.nt hR (lt_cdRi)) rfl dX4_ride_111 (by decide) (by decide) (Nat.le_of_ble_eq_true rfl) x_noX (ki fun r M2 hp => ?_)
          obtain ⟨rfl, hR0⟩ := hp
          obtain ⟨σ0, eσ0⟩ : ∃ z, z = uN σ 0 0 ((cdRi σ x0 y0 mk w)) := ⟨_, rfl⟩
          rw [← eσ0] at hR0
          have hBσ0 : Bd σ0 := eσ0 ▸ Bd_u0 hB
          refine x_if_eq F 131 dX4_ride_114 (by decide) (fun c114 => ?_) (fun c114 => ?_)
          · have c114 := nI_bz0.mp c114
            have c114 := of_decide_eq_false c114
            refine x_iconst F (nI 0) dX4_ride_131 (by decide) ?_
            rw [hQ]
            exact x_iret F dX4_ride_132 (by decide) ⟨_, rfl, by first | (rw [if_pos c114, ← eσ0, cl_nI (by omega), cl_nI (by omega), cl_nI (by omega), cl_nI (by omega), hbq, cl_nI (by omega)]; exact hR0) | (rw [if_neg c114, ← eσ0]; exact hR0), fun h9 => by first | exact absurd h9 c114 | (rw [← eσ0, cl_nI (by omega), cl_nI (by omega), cl_nI (by omega), cl_nI (by omega), hbq, cl_nI (by omega)])⟩
          · have c114 := nI_bz1.mp c114
            have c114 := of_decide_eq_true c114
            obtain ⟨r, j, hr, hj, rfl, rfl⟩ := cdRR_0 (x0 := x0) (y0 := y0) hB (by unfold cdRi at c114; unfold cdRR; split at c114; cases c114; rename_i z; simpa using z)
            have c115 : inR mk (nI 0) (nI 456975) = true ∧ inR w (nI 0) (nI 999999) = true := cdRi_1 c114
            obtain ⟨mk, -, hmk, rfl⟩ := inR_t (by decide) (by decide) c115.1
            obtain ⟨w, -, hw, rfl⟩ := inR_t (by decide) (by decide) c115.2
            have c116 := (cdRi_2 c114).2
            rw [cl_nI (by omega), cl_nI (by omega)] at c116
            obtain ⟨b, hb, hbq⟩ := hbr r j hr hj c116
            have e9 : (if (inN (nI r) (σ.1 18 0) && inN (nI j) (σ.1 7 0)) = true then 12 * cl (nI r) + cl (nI j) else 0) = 12 * r + j := by rw [inN_nI (by omega), inN_nI (by omega), decide_eq_true hr, decide_eq_true hj, cl_nI (by omega), cl_nI (by omega)]; rfl
            rw [e9]
            refine x_aload_n F 3 dX4_ride_117 rfl ?_
            refine x_iload F 0 dX4_ride_118 rfl ?_
            refine x_iload_n F 6 dX4_ride_120 rfl ?_
            refine x_iload F 7 dX4_ride_121 rfl ?_
            refine x_iload F 8 dX4_ride_123 rfl ?_
            refine x_callV F s_X4_176 hR0.1 rfl rfl (c_X4_rides F.nt hR0 hBσ0 (by omega) (by rw [eσ0]; exact hbq) (by omega) (by omega) (by omega) (by have := (hBσ0.2.2.2.2.2.2.1 b (by omega)).2.1; omega)) rfl dX4_ride_125 (by decide) (by decide) (Nat.le_of_ble_eq_true rfl) x_noX (ki fun r9 M9 hp9 => ?_)
            obtain ⟨hR9, rfl⟩ := hp9
            refine x_goto F 132 dX4_ride_128 (by decide) ?_
            rw [hQ]
            exact x_iret F dX4_ride_132 (by decide) ⟨_, rfl, by first | (rw [if_pos c114, ← eσ0, cl_nI (by omega), cl_nI (by omega), cl_nI (by omega), cl_nI (by omega), hbq, cl_nI (by omega)]; exact hR9) | (rw [if_neg c114, ← eσ0]; exact hR9), fun h9 => by first | exact absurd h9 c114 | (rw [← eσ0, cl_nI (by omega), cl_nI (by omega), cl_nI (by omega), cl_nI (by omega), hbq, cl_nI (by omega)])⟩
        refine x_iload F 2 dX4_ride_68 rfl ?_
        refine x_if_ne F 77 dX4_ride_70 (by decide) (fun c70 => ?_) (fun c70 => ?_)
        · have c70 := nI_bz1.mp c70
          have d70 := c70
          have c11 := Bool.and_eq_true_iff.mp c70
          have d1 := inN_cl (by omega) c11.1
          have d2 := inN_cl (by omega) c11.2
          refine x_iload F 1 dX4_ride_77 rfl ?_
          refine x_if_ne F 86 dX4_ride_79 (by decide) (fun c79 => ?_) (fun c79 => ?_)
          · have c79 := nI_bz1.mp c79
            refine x_aload_n F 3 dX4_ride_86 rfl ?_
            refine x_fget F f_X4_47 hR.1 (v := .ref (rA m 15)) dX4_ride_87 rfl ?_
            refine x_iload_n F 4 dX4_ride_90 rfl ?_
            refine x_ri0 (y := nI (cl x0)) (d1.2) ?_
            refine x_mld F hR 15 rfl (fun _ _ => rfl) dX4_ride_91 (by show _ < 8; omega) ?_
            refine x_iconst F (nI 2) dX4_ride_92 (by decide) ?_
            refine x_icmp_ne F 106 dX4_ride_93 (by decide) (fun c93 => ?_) (fun c93 => ?_)
            · have c93 := mt (nI_eq (by have := (hr8 (cl x0) (by omega)).2.2.2.2.2.2.1; omega) (by omega)).mpr c93
              refine x_iconst F (nI 3) dX4_ride_106 (by decide) ?_
              refine x_goto F 111 dX4_ride_107 (by decide) ?_
              exact J111 _ (by (try clear c11 d1 d2); simp [cdRi, *])
            · have c93 := (nI_eq (by have := (hr8 (cl x0) (by omega)).2.2.2.2.2.2.1; omega) (by omega)).mp c93
              refine x_aload_n F 3 dX4_ride_96 rfl ?_
              refine x_fget F f_X4_71 hR.1 (v := .ref (rA m 24)) dX4_ride_97 rfl ?_
              refine x_iload F 0 dX4_ride_100 rfl ?_
              refine x_ri0 (y := nI (12 * cl x0 + cl y0)) (by rw [if_pos d70]) ?_
              refine x_mldZ F hR 24 rfl (fun _ _ => rfl) dX4_ride_102 (by show _ < 96; omega) ?_
              refine x_if_ne F 110 dX4_ride_103 (by decide) (fun c103 => ?_) (fun c103 => ?_)
              · have c103 := mt (nI_z (by have := (hk96 (12 * cl x0 + cl y0) (by omega)).2.2.2.1; omega)).mpr c103
                refine x_iconst F (nI 0) dX4_ride_110 (by decide) ?_
                exact J111 _ (by (try clear c11 d1 d2); simp [cdRi, *])
              · have c103 := (nI_z (by have := (hk96 (12 * cl x0 + cl y0) (by omega)).2.2.2.1; omega)).mp c103
                refine x_iconst F (nI 3) dX4_ride_106 (by decide) ?_
                refine x_goto F 111 dX4_ride_107 (by decide) ?_
                exact J111 _ (by (try clear c11 d1 d2); simp [cdRi, *])
          · have c79 := nI_bz0.mp c79
            refine x_iconst F (nI 2) dX4_ride_82 (by decide) ?_
            refine x_goto F 111 dX4_ride_83 (by decide) ?_
            exact J111 _ (by (try clear c11 d1 d2); simp [cdRi, *])
        · have c70 := nI_bz0.mp c70
          refine x_iconst F (nI 1) dX4_ride_73 (by decide) ?_
          refine x_goto F 111 dX4_ride_74 (by decide) ?_
          exact J111 _ (by (try clear c11 d1 d2); simp [cdRi, *])
      refine x_iload F 1 dX4_ride_51 rfl ?_
      refine x_if_eq F 64 dX4_ride_53 (by decide) (fun c53 => ?_) (fun c53 => ?_)
      · have c53 := nI_bz0.mp c53
        refine x_iconst F (nI 0) dX4_ride_64 (by decide) ?_
        exact J65 _ (by first | (rw [if_pos c53]) | (rw [if_neg (by rw [c53]; decide)]))
      · have c53 := nI_bz1.mp c53
        have c10 := Bool.and_eq_true_iff.mp c53
        have d1 := inN_cl (by omega) c10.1
        have d2 := inN_cl (by omega) c10.2
        refine x_iload_n F 3 dX4_ride_56 rfl ?_
        refine x_ri0 (y := nI (cl x0)) (d1.2) ?_
        refine x_iload_n F 4 dX4_ride_57 rfl ?_
        refine x_ri0 (y := nI (cl y0)) (d2.2) ?_
        refine x_callS F s_X4_118 rfl (c_X4_at F.nt ) rfl dX4_ride_58 (by decide) (by decide) (Nat.le_of_ble_eq_true rfl) x_noX (ki fun r_3 M2_3 hp_3 => ?_)
        obtain ⟨rfl, rfl⟩ := hp_3
        refine x_goto F 65 dX4_ride_61 (by decide) ?_
        exact J65 _ (by first | (rw [if_pos c53]) | (rw [if_neg (by rw [c53]; decide)]))
    refine x_iload_n F 4 dX4_ride_23 rfl ?_
    refine x_iconst F (nI 0) dX4_ride_24 (by decide) ?_
    refine x_ldc F (nI 456975) k_X4_174 dX4_ride_25 ?_
    refine x_callS F s_X4_103 rfl (c_X4_isIn F.nt ) rfl dX4_ride_27 (by decide) (by decide) (Nat.le_of_ble_eq_true rfl) x_noX (ki fun r_4 M2_4 hp_4 => ?_)
    obtain ⟨rfl, rfl⟩ := hp_4
    refine x_if_eq F 48 dX4_ride_30 (by decide) (fun c30 => ?_) (fun c30 => ?_)
    · have c30 := nI_bz0.mp c30
      refine x_iconst F (nI 0) dX4_ride_48 (by decide) ?_
      exact J49 _ (by simp [bz, *])
    · have c30 := nI_bz1.mp c30
      refine x_iload F 5 dX4_ride_33 rfl ?_
      refine x_iconst F (nI 0) dX4_ride_35 (by decide) ?_
      refine x_ldc F (nI 999999) k_X4_175 dX4_ride_36 ?_
      refine x_callS F s_X4_103 rfl (c_X4_isIn F.nt ) rfl dX4_ride_38 (by decide) (by decide) (Nat.le_of_ble_eq_true rfl) x_noX (ki fun r_5 M2_5 hp_5 => ?_)
      obtain ⟨rfl, rfl⟩ := hp_5
      refine x_if_eq F 48 dX4_ride_41 (by decide) (fun c41 => ?_) (fun c41 => ?_)
      · have c41 := nI_bz0.mp c41
        refine x_iconst F (nI 0) dX4_ride_48 (by decide) ?_
        exact J49 _ (by simp [bz, *])
      · have c41 := nI_bz1.mp c41
        refine x_iconst F (nI 1) dX4_ride_44 (by decide) ?_
        refine x_goto F 49 dX4_ride_45 (by decide) ?_
        exact J49 _ (by simp [bz, *])
  refine x_aload_n F 0 dX4_ride_0 rfl ?_
  refine x_iload_n F 1 dX4_ride_1 rfl ?_
  refine x_callV F s_X4_129 hR.1 rfl rfl (c_X4_isRodeo F.nt hR (by omega)) rfl dX4_ride_2 (by decide) (by decide) (Nat.le_of_ble_eq_true rfl) x_noX (ki fun r_6 M2_6 hp_6 => ?_)
  obtain ⟨rfl, rfl⟩ := hp_6
  refine x_if_eq F 20 dX4_ride_5 (by decide) (fun c5 => ?_) (fun c5 => ?_)
  · have c5 := nI_bz0.mp c5
    refine x_iconst F (nI 0) dX4_ride_20 (by decide) ?_
    exact J21 _ (by simp [bz, *])
  · have c5 := nI_bz1.mp c5
    refine x_aload_n F 0 dX4_ride_8 rfl ?_
    refine x_iload_n F 2 dX4_ride_9 rfl ?_
    refine x_callV F s_X4_135 hR.1 rfl rfl (c_X4_isRider F.nt hR (by omega)) rfl dX4_ride_10 (by decide) (by decide) (Nat.le_of_ble_eq_true rfl) x_noX (ki fun r_7 M2_7 hp_7 => ?_)
    obtain ⟨rfl, rfl⟩ := hp_7
    refine x_if_eq F 20 dX4_ride_13 (by decide) (fun c13 => ?_) (fun c13 => ?_)
    · have c13 := nI_bz0.mp c13
      refine x_iconst F (nI 0) dX4_ride_20 (by decide) ?_
      exact J21 _ (by simp [bz, *])
    · have c13 := nI_bz1.mp c13
      refine x_iconst F (nI 1) dX4_ride_16 (by decide) ?_
      refine x_goto F 21 dX4_ride_17 (by decide) ?_
      exact J21 _ (by simp [bz, *])
set_option maxHeartbeats 4000000 in
set_option maxRecDepth 100000 in
theorem c_X4_answered {l : Launch} (hl : l.stackTraces = false) {g : GP} {M : MM} {m : Nat → Nat} {M0 : MM} {σ : ST} {r j : Nat} {f : Bool} (hR : RM g m M0 σ M) (hB : Bd σ) (hr : r < 8) (hj : j < 12) (hp : ¬ σ.2.1 22 (12 * r + j) = -1) : CT l g yX4_answered cX4_answered 5 (some .int) 3 74 0 0 [.ref (m 0), .int (nI (r)), .int (nI (j)), .int (nI (bz f))] M (pI (fun r9 M9 => RM g m M0 (ansU σ r j f) M9 ∧ r9 = if f = true then (ansU σ r j f).2.1 23 (12 * r + j) else -1)) nX := by
  refine ct_of [(0, .ref (m 0)), (1, .int (nI (r))), (2, .int (nI (j))), (3, .int (nI (bz f)))] (by decide) hl (Nat.le_of_ble_eq_true rfl) rfl ?_
  intro K hK F
  subst hK
  have F : Fx K g cX4_answered RX4 5 (some .int) [] 3 74 0 0 := F
  obtain ⟨Q, hQ⟩ : ∃ Q, Q = MQx K g (pI (fun r9 M9 => RM g m M0 (ansU σ r j f) M9 ∧ r9 = if f = true then (ansU σ r j f).2.1 23 (12 * r + j) else -1)) nX 0 0 := ⟨_, rfl⟩
  rw [← hQ]
  have hB9 := hB
  obtain ⟨h6, h7, h18, hr8, hk96, hp96, hb16, hh⟩ := hB9
  have b1 := hr8 r hr
  have b2 := hk96 (12 * r + j) (by omega)
  refine x_iload_n F 1 dX4_answered_0 rfl ?_
  refine x_iload_n F 2 dX4_answered_1 rfl ?_
  refine x_callS F s_X4_118 rfl (c_X4_at F.nt ) rfl dX4_answered_2 (by decide) (by decide) (Nat.le_of_ble_eq_true rfl) x_noX (ki fun r M2 hp => ?_)
  obtain ⟨rfl, rfl⟩ := hp
  refine x_istore F [(4, .int (nI (12 * r + j))), (0, .ref (m 0)), (1, .int (nI (r))), (2, .int (nI (j))), (3, .int (nI (bz f)))] dX4_answered_5 (by decide) rfl ?_
  refine x_aload_n F 1 dX4_answered_7 rfl ?_
  refine x_fget F f_X4_78 hR.1 (v := .ref (rA m 26)) dX4_answered_8 rfl ?_
  refine x_iload F 0 dX4_answered_11 rfl ?_
  refine x_iconst F (nI 0) dX4_answered_13 (by decide) ?_
  refine x_mstZ F hR 26 rfl (fun _ _ => rfl) dX4_answered_14 (by show _ < 96; omega) (by omega) (fun M1 hR1 => ?_)
  refine x_iload_n F 4 dX4_answered_15 rfl ?_
  refine x_if_ne F 21 dX4_answered_16 (by decide) (fun c16 => ?_) (fun c16 => ?_)
  · have c16 := nI_bz1.mp c16
    refine x_aload_n F 1 dX4_answered_21 rfl ?_
    refine x_fget F f_X4_84 hR1.1 (v := .ref (rA m 28)) dX4_answered_22 rfl ?_
    refine x_iload F 0 dX4_answered_25 rfl ?_
    refine x_iconst F ((-1)) dX4_answered_27 (by decide) ?_
    refine x_mstR F hR1 28 rfl (fun _ _ => rfl) dX4_answered_28 (by show _ < 96; omega) (fun M1_2 hR1_2 => ?_)
    refine x_aload_n F 1 dX4_answered_29 rfl ?_
    refine x_fget F f_X4_81 hR1_2.1 (v := .ref (rA m 27)) dX4_answered_30 rfl ?_
    refine x_iload F 0 dX4_answered_33 rfl ?_
    refine x_iconst F (nI 0) dX4_answered_35 (by decide) ?_
    refine x_mstZ F hR1_2 27 rfl (fun _ _ => rfl) dX4_answered_36 (by show _ < 96; omega) (by omega) (fun M1_3 hR1_3 => ?_)
    refine x_aload_n F 1 dX4_answered_37 rfl ?_
    refine x_fget F f_X4_75 hR1_3.1 (v := .ref (rA m 25)) dX4_answered_38 rfl ?_
    refine x_iload F 0 dX4_answered_41 rfl ?_
    refine x_iconst F (nI 1) dX4_answered_43 (by decide) ?_
    refine x_mstZ F hR1_3 25 rfl (fun _ _ => rfl) dX4_answered_44 (by show _ < 96; omega) (by omega) (fun M1_4 hR1_4 => ?_)
    have hB1 : Bd (uN (uN (uR (uN σ 26 (12 * r + j) 0) 28 (12 * r + j) (-1)) 27 (12 * r + j) 0) 25 (12 * r + j) 1) := Bd_ans hB
    refine x_aload_n F 1 dX4_answered_45 rfl ?_
    refine x_iload_n F 2 dX4_answered_46 rfl ?_
    refine x_iload_n F 3 dX4_answered_47 rfl ?_
    refine x_callV F s_X4_168 hR1_4.1 rfl rfl (c_X4_drawsFor F.nt hR1_4 hB1 (by omega) (by omega) (hp)) rfl dX4_answered_48 (by decide) (by decide) (Nat.le_of_ble_eq_true rfl) x_noX (kv fun  M2_2 hp_2 => ?_)
    have hRd := hp_2
    refine x_aload_n F 1 dX4_answered_51 rfl ?_
    refine x_fget F f_X4_68 hRd.1 (v := .ref (rA m 23)) dX4_answered_52 rfl ?_
    refine x_iload F 0 dX4_answered_55 rfl ?_
    refine x_mldR F hRd 23 rfl (fun _ _ => rfl) dX4_answered_57 (by show _ < 96; omega) ?_
    rw [hQ]
    exact x_iret F dX4_answered_58 (by decide) ⟨_, rfl, (show (drwU (uN (uN (uR (uN σ 26 (12 * r + j) (0)) 28 (12 * r + j) (((-1)))) 27 (12 * r + j) (0)) 25 (12 * r + j) (1)) r j) = ansU σ r j f by simp [ansU, c16]) ▸ hRd, by simp [ansU, c16]⟩
  · have c16 := nI_bz0.mp c16
    refine x_iconst F ((-1)) dX4_answered_19 (by decide) ?_
    rw [hQ]
    exact x_iret F dX4_answered_20 (by decide) ⟨_, rfl, (show (uN σ 26 (12 * r + j) (0)) = ansU σ r j f by simp [ansU, c16]) ▸ hR1, by simp [c16]⟩
set_option maxHeartbeats 4000000 in
set_option maxRecDepth 100000 in
theorem c_X4_answer {l : Launch} (hl : l.stackTraces = false) {g : GP} {M : MM} {m : Nat → Nat} {M0 : MM} {σ : ST} {x0 y0 : Int32} {f : Bool} (hR : RM g m M0 σ M) (hB : Bd σ) (hpl : ∀ r j, r < σ.1 18 0 → j < σ.1 7 0 → ¬ σ.1 26 (12 * r + j) = 0 → ¬ σ.2.1 22 (12 * r + j) = -1) : CT l g yX4_answer cX4_answer 5 (some .int) 4 98 0 0 [.ref (m 0), .int (x0), .int (y0), .int (nI (bz f))] M (pI (fun r9 M9 => RM g m M0 (if cdAn σ x0 y0 = 0 then ansU (uN σ 0 0 (cdAn σ x0 y0)) (cl x0) (cl y0) f else uN σ 0 0 (cdAn σ x0 y0)) M9 ∧ (cdAn σ x0 y0 = 0 → r9 = (if f = true then (ansU (uN σ 0 0 (cdAn σ x0 y0)) (cl x0) (cl y0) f).2.1 23 (12 * cl x0 + cl y0) else -1)))) nX := by
  refine ct_of [(0, .ref (m 0)), (1, .int (x0)), (2, .int (y0)), (3, .int (nI (bz f)))] (by decide) hl (Nat.le_of_ble_eq_true rfl) rfl ?_
  intro K hK F
  subst hK
  have F : Fx K g cX4_answer RX4 5 (some .int) [] 4 98 0 0 := F
  obtain ⟨Q, hQ⟩ : ∃ Q, Q = MQx K g (pI (fun r9 M9 => RM g m M0 (if cdAn σ x0 y0 = 0 then ansU (uN σ 0 0 (cdAn σ x0 y0)) (cl x0) (cl y0) f else uN σ 0 0 (cdAn σ x0 y0)) M9 ∧ (cdAn σ x0 y0 = 0 → r9 = (if f = true then (ansU (uN σ 0 0 (cdAn σ x0 y0)) (cl x0) (cl y0) f).2.1 23 (12 * cl x0 + cl y0) else -1)))) nX 0 0 := ⟨_, rfl⟩
  rw [← hQ]
  have hB9 := hB
  obtain ⟨h6, h7, h18, hr8, hk96, hp96, hb16, hh⟩ := hB9
  have J21 : ∀ (va : Int32), va = nI (bz (inN x0 (σ.1 18 0) && inN y0 (σ.1 7 0))) → XW K g 5 Q M 0 0 21 [(0, .ref (m 0)), (1, .int (x0)), (2, .int (y0)), (3, .int (nI (bz f)))] [.int (va)] := by
    intro va ej21_va
    subst ej21_va
    refine x_istore F [(4, .int (nI (bz (inN x0 (σ.1 18 0) && inN y0 (σ.1 7 0))))), (0, .ref (m 0)), (1, .int (x0)), (2, .int (y0)), (3, .int (nI (bz f)))] dX4_answer_21 (by decide) rfl ?_
    refine x_aload_n F 1 dX4_answer_23 rfl ?_
    have J51 : ∀ (vj : Int32), vj = nI (cdAn σ x0 y0) → XW K g 5 Q M 0 0 51 [(4, .int (nI (bz (inN x0 (σ.1 18 0) && inN y0 (σ.1 7 0))))), (0, .ref (m 0)), (1, .int (x0)), (2, .int (y0)), (3, .int (nI (bz f)))] [.int (vj), .ref (m 0)] := by
      intro vj ej51_vj
      subst ej51_vj
      refine x_callV F s_X4_113 hR.1 rfl rfl (c_X4_holds F.nt hR (lt_cdAn)) rfl dX4_answer_51 (by decide) (by decide) (Nat.le_of_ble_eq_true rfl) x_noX (ki fun r M2 hp => ?_)
      obtain ⟨rfl, hR0⟩ := hp
      obtain ⟨σ0, eσ0⟩ : ∃ z, z = uN σ 0 0 ((cdAn σ x0 y0)) := ⟨_, rfl⟩
      rw [← eσ0] at hR0
      have hBσ0 : Bd σ0 := eσ0 ▸ Bd_u0 hB
      refine x_if_eq F 67 dX4_answer_54 (by decide) (fun c54 => ?_) (fun c54 => ?_)
      · have c54 := nI_bz0.mp c54
        have c54 := of_decide_eq_false c54
        refine x_iconst F (nI 0) dX4_answer_67 (by decide) ?_
        rw [hQ]
        exact x_iret F dX4_answer_68 (by decide) ⟨_, rfl, by first | (rw [if_pos c54, ← eσ0, cl_nI (by omega), cl_nI (by omega)]; exact hR0) | (rw [if_neg c54, ← eσ0]; exact hR0), fun h9 => by first | exact absurd h9 c54 | (rw [← eσ0, cl_nI (by omega), cl_nI (by omega)])⟩
      · have c54 := nI_bz1.mp c54
        have c54 := of_decide_eq_true c54
        obtain ⟨r, j, hr, hj, rfl, rfl⟩ := cdRR_0 (x0 := x0) (y0 := y0) hB (by unfold cdAn at c54; unfold cdRR; split at c54; cases c54; rename_i z; simpa using z)
        have c116 := cdAn_1 c54
        rw [cl_nI (by omega), cl_nI (by omega)] at c116
        have c117 := hpl r j hr hj c116
        refine x_aload_n F 1 dX4_answer_57 rfl ?_
        refine x_iload_n F 2 dX4_answer_58 rfl ?_
        refine x_iload_n F 3 dX4_answer_59 rfl ?_
        refine x_iload_n F 4 dX4_answer_60 rfl ?_
        refine x_callV F s_X4_180 hR0.1 rfl rfl (c_X4_answered F.nt hR0 hBσ0 (by omega) (by omega) (by rw [eσ0]; exact c117)) rfl dX4_answer_61 (by decide) (by decide) (Nat.le_of_ble_eq_true rfl) x_noX (ki fun r9 M9 hp9 => ?_)
        obtain ⟨hR9, rfl⟩ := hp9
        refine x_goto F 68 dX4_answer_64 (by decide) ?_
        rw [hQ]
        exact x_iret F dX4_answer_68 (by decide) ⟨_, rfl, by first | (rw [if_pos c54, ← eσ0, cl_nI (by omega), cl_nI (by omega)]; exact hR9) | (rw [if_neg c54, ← eσ0]; exact hR9), fun h9 => by first | exact absurd h9 c54 | (rw [← eσ0, cl_nI (by omega), cl_nI (by omega)])⟩
    refine x_iload F 0 dX4_answer_24 rfl ?_
    refine x_if_ne F 33 dX4_answer_26 (by decide) (fun c26 => ?_) (fun c26 => ?_)
    · have c26 := nI_bz1.mp c26
      have c11 := Bool.and_eq_true_iff.mp c26
      have d1 := inN_cl (by omega) c11.1
      have d2 := inN_cl (by omega) c11.2
      refine x_aload_n F 1 dX4_answer_33 rfl ?_
      refine x_fget F f_X4_78 hR.1 (v := .ref (rA m 26)) dX4_answer_34 rfl ?_
      refine x_iload_n F 2 dX4_answer_37 rfl ?_
      refine x_ri0 (y := nI (cl x0)) (d1.2) ?_
      refine x_iload_n F 3 dX4_answer_38 rfl ?_
      refine x_ri0 (y := nI (cl y0)) (d2.2) ?_
      refine x_callS F s_X4_118 rfl (c_X4_at F.nt ) rfl dX4_answer_39 (by decide) (by decide) (Nat.le_of_ble_eq_true rfl) x_noX (ki fun r_3 M2_3 hp_3 => ?_)
      obtain ⟨rfl, rfl⟩ := hp_3
      refine x_mldZ F hR 26 rfl (fun _ _ => rfl) dX4_answer_42 (by show _ < 96; omega) ?_
      refine x_if_ne F 50 dX4_answer_43 (by decide) (fun c43 => ?_) (fun c43 => ?_)
      · have c43 := mt (nI_z (by have := (hk96 (12 * cl x0 + cl y0) (by omega)).2.2.2.2.2.1; omega)).mpr c43
        refine x_iconst F (nI 0) dX4_answer_50 (by decide) ?_
        exact J51 _ (by (try clear c11 d1 d2); simp [cdAn, *])
      · have c43 := (nI_z (by have := (hk96 (12 * cl x0 + cl y0) (by omega)).2.2.2.2.2.1; omega)).mp c43
        refine x_iconst F (nI 2) dX4_answer_46 (by decide) ?_
        refine x_goto F 51 dX4_answer_47 (by decide) ?_
        exact J51 _ (by (try clear c11 d1 d2); simp [cdAn, *])
    · have c26 := nI_bz0.mp c26
      refine x_iconst F (nI 1) dX4_answer_29 (by decide) ?_
      refine x_goto F 51 dX4_answer_30 (by decide) ?_
      exact J51 _ (by (try clear c11 d1 d2); simp [cdAn, *])
  refine x_aload_n F 0 dX4_answer_0 rfl ?_
  refine x_iload_n F 1 dX4_answer_1 rfl ?_
  refine x_callV F s_X4_129 hR.1 rfl rfl (c_X4_isRodeo F.nt hR (by omega)) rfl dX4_answer_2 (by decide) (by decide) (Nat.le_of_ble_eq_true rfl) x_noX (ki fun r_4 M2_4 hp_4 => ?_)
  obtain ⟨rfl, rfl⟩ := hp_4
  refine x_if_eq F 20 dX4_answer_5 (by decide) (fun c5 => ?_) (fun c5 => ?_)
  · have c5 := nI_bz0.mp c5
    refine x_iconst F (nI 0) dX4_answer_20 (by decide) ?_
    exact J21 _ (by simp [bz, *])
  · have c5 := nI_bz1.mp c5
    refine x_aload_n F 0 dX4_answer_8 rfl ?_
    refine x_iload_n F 2 dX4_answer_9 rfl ?_
    refine x_callV F s_X4_135 hR.1 rfl rfl (c_X4_isRider F.nt hR (by omega)) rfl dX4_answer_10 (by decide) (by decide) (Nat.le_of_ble_eq_true rfl) x_noX (ki fun r_5 M2_5 hp_5 => ?_)
    obtain ⟨rfl, rfl⟩ := hp_5
    refine x_if_eq F 20 dX4_answer_13 (by decide) (fun c13 => ?_) (fun c13 => ?_)
    · have c13 := nI_bz0.mp c13
      refine x_iconst F (nI 0) dX4_answer_20 (by decide) ?_
      exact J21 _ (by simp [bz, *])
    · have c13 := nI_bz1.mp c13
      refine x_iconst F (nI 1) dX4_answer_16 (by decide) ?_
      refine x_goto F 21 dX4_answer_17 (by decide) ?_
      exact J21 _ (by simp [bz, *])
set_option maxHeartbeats 4000000 in
set_option maxRecDepth 100000 in
theorem c_X4_beast {l : Launch} (hl : l.stackTraces = false) {g : GP} {M : MM} {m : Nat → Nat} {M0 : MM} {σ : ST} {x0 : Int32} (hR : RM g m M0 σ M) (hB : Bd σ) : CT l g yX4_beast cX4_beast 2 (some .int) 1 22 0 0 [.ref (m 0), .int (x0)] M (pI (fun r9 M9 => RM g m M0 (if cdBe σ x0 = 0 then beU (uN σ 0 0 (cdBe σ x0)) x0 else uN σ 0 0 (cdBe σ x0)) M9 ∧ (cdBe σ x0 = 0 → r9 = nI (σ.1 6 0)))) nX := by
  refine ct_of [(0, .ref (m 0)), (1, .int (x0))] (by decide) hl (Nat.le_of_ble_eq_true rfl) rfl ?_
  intro K hK F
  subst hK
  have F : Fx K g cX4_beast RX4 2 (some .int) [] 1 22 0 0 := F
  obtain ⟨Q, hQ⟩ : ∃ Q, Q = MQx K g (pI (fun r9 M9 => RM g m M0 (if cdBe σ x0 = 0 then beU (uN σ 0 0 (cdBe σ x0)) x0 else uN σ 0 0 (cdBe σ x0)) M9 ∧ (cdBe σ x0 = 0 → r9 = nI (σ.1 6 0)))) nX 0 0 := ⟨_, rfl⟩
  rw [← hQ]
  have hB9 := hB
  obtain ⟨h6, h7, h18, hr8, hk96, hp96, hb16, hh⟩ := hB9
  refine x_aload_n F 0 dX4_beast_0 rfl ?_
  have J28 : ∀ (vj : Int32), vj = nI (cdBe σ x0) → XW K g 2 Q M 0 0 28 [(0, .ref (m 0)), (1, .int (x0))] [.int (vj), .ref (m 0)] := by
    intro vj ej28_vj
    subst ej28_vj
    refine x_callV F s_X4_113 hR.1 rfl rfl (c_X4_holds F.nt hR (lt_cdBe)) rfl dX4_beast_28 (by decide) (by decide) (Nat.le_of_ble_eq_true rfl) x_noX (ki fun r M2 hp => ?_)
    obtain ⟨rfl, hR0⟩ := hp
    obtain ⟨σ0, eσ0⟩ : ∃ z, z = uN σ 0 0 ((cdBe σ x0)) := ⟨_, rfl⟩
    rw [← eσ0] at hR0
    have hBσ0 : Bd σ0 := eσ0 ▸ Bd_u0 hB
    refine x_if_ne F 36 dX4_beast_31 (by decide) (fun c31 => ?_) (fun c31 => ?_)
    · have c31 := nI_bz1.mp c31
      have c31 := of_decide_eq_true c31
      have c32 := cdBe_1 c31
      have c33 : σ0.1 6 0 = σ.1 6 0 := by rw [eσ0]; rfl
      obtain ⟨q, -, hq, rfl⟩ := inR_t (by decide) (by decide) c32.1
      have c34 := c32.2
      refine x_aload_n F 0 dX4_beast_36 rfl ?_
      refine x_fget F f_X4_7 hR0.1 (v := .ref (rA m 1)) dX4_beast_37 rfl ?_
      refine x_aload_n F 0 dX4_beast_40 rfl ?_
      refine x_fget F f_X4_100 hR0.1 (v := .int (nI (σ0.1 6 0))) dX4_beast_41 rfl ?_
      refine x_iload_n F 1 dX4_beast_44 rfl ?_
      refine x_mst F hR0 1 rfl (fun _ _ => rfl) dX4_beast_45 (by show _ < 16; omega) (fun M1 hR1 => ?_)
      refine x_aload_n F 0 dX4_beast_46 rfl ?_
      refine x_dup F dX4_beast_47 rfl ?_
      refine x_fget F f_X4_100 hR1.1 (v := .int (nI ((uN σ0 1 (σ0.1 6 0) (q)).1 6 0))) dX4_beast_48 rfl ?_
      refine x_iconst F (nI 1) dX4_beast_51 (by decide) ?_
      refine x_iaddN F dX4_beast_52 ?_
      refine x_ri0 (y := nI (σ0.1 6 0 + 1)) (rfl) ?_
      refine x_mput F hR1 p_X4_100 (by decide) dX4_beast_53 (fun M1_2 hR1_2 => ?_)
      refine x_aload_n F 0 dX4_beast_56 rfl ?_
      refine x_fget F f_X4_100 hR1_2.1 (v := .int (nI ((uN (uN σ0 1 (σ0.1 6 0) (q)) 6 0 (σ0.1 6 0 + 1)).1 6 0))) dX4_beast_57 rfl ?_
      refine x_ri0 (y := nI (σ0.1 6 0 + 1)) (rfl) ?_
      refine x_iconst F (nI 1) dX4_beast_60 (by decide) ?_
      refine x_isubN F dX4_beast_61 (by omega) ?_
      refine x_ri0 (y := nI (σ.1 6 0)) (by rw [eσ0]; rfl) ?_
      rw [hQ]
      exact x_iret F dX4_beast_62 (by decide) ⟨_, rfl, by rw [if_pos c31, ← eσ0]; unfold beU; rw [cl_nI (by omega)]; exact hR1_2, fun _ => rfl⟩
    · have c31 := nI_bz0.mp c31
      have c31 := of_decide_eq_false c31
      refine x_iconst F (nI 0) dX4_beast_34 (by decide) ?_
      rw [hQ]
      exact x_iret F dX4_beast_35 (by decide) ⟨_, rfl, by rw [if_neg c31, ← eσ0]; exact hR0, fun h9 => absurd h9 c31⟩
  refine x_iload_n F 1 dX4_beast_1 rfl ?_
  refine x_iconst F (nI 0) dX4_beast_2 (by decide) ?_
  refine x_iconst F (nI 1) dX4_beast_3 (by decide) ?_
  refine x_callS F s_X4_103 rfl (c_X4_isIn F.nt ) rfl dX4_beast_4 (by decide) (by decide) (Nat.le_of_ble_eq_true rfl) x_noX (ki fun r_2 M2_2 hp_2 => ?_)
  obtain ⟨rfl, rfl⟩ := hp_2
  refine x_if_ne F 14 dX4_beast_7 (by decide) (fun c7 => ?_) (fun c7 => ?_)
  · have c7 := nI_bz1.mp c7
    refine x_aload_n F 0 dX4_beast_14 rfl ?_
    refine x_fget F f_X4_100 hR.1 (v := .int (nI (σ.1 6 0))) dX4_beast_15 rfl ?_
    refine x_bipush F (nI 16) dX4_beast_18 (by decide) ?_
    refine x_icmp_ne F 27 dX4_beast_20 (by decide) (fun c20 => ?_) (fun c20 => ?_)
    · have c20 := mt (nI_eq (by omega) (by omega)).mpr c20
      refine x_iconst F (nI 0) dX4_beast_27 (by decide) ?_
      exact J28 _ (by simp [cdBe, *])
    · have c20 := (nI_eq (by omega) (by omega)).mp c20
      refine x_iconst F (nI 2) dX4_beast_23 (by decide) ?_
      refine x_goto F 28 dX4_beast_24 (by decide) ?_
      exact J28 _ (by simp [cdBe, *])
  · have c7 := nI_bz0.mp c7
    refine x_iconst F (nI 1) dX4_beast_10 (by decide) ?_
    refine x_goto F 28 dX4_beast_11 (by decide) ?_
    exact J28 _ (by simp [cdBe, *])
set_option maxHeartbeats 4000000 in
set_option maxRecDepth 100000 in
theorem c_X4_rider {l : Launch} (hl : l.stackTraces = false) {g : GP} {M : MM} {m : Nat → Nat} {M0 : MM} {σ : ST}  (hR : RM g m M0 σ M) (hB : Bd σ) : CT l g yX4_rider cX4_rider 1 (some .int) 1 21 0 0 [.ref (m 0)] M (pI (fun r9 M9 => RM g m M0 (if cdRd σ = 0 then rdU (uN σ 0 0 (cdRd σ)) else uN σ 0 0 (cdRd σ)) M9 ∧ (cdRd σ = 0 → r9 = nI (σ.1 7 0)))) nX := by
  refine ct_of [(0, .ref (m 0))] (by decide) hl (Nat.le_of_ble_eq_true rfl) rfl ?_
  intro K hK F
  subst hK
  have F : Fx K g cX4_rider RX4 1 (some .int) [] 1 21 0 0 := F
  obtain ⟨Q, hQ⟩ : ∃ Q, Q = MQx K g (pI (fun r9 M9 => RM g m M0 (if cdRd σ = 0 then rdU (uN σ 0 0 (cdRd σ)) else uN σ 0 0 (cdRd σ)) M9 ∧ (cdRd σ = 0 → r9 = nI (σ.1 7 0)))) nX 0 0 := ⟨_, rfl⟩
  rw [← hQ]
  have hB9 := hB
  obtain ⟨h6, h7, h18, hr8, hk96, hp96, hb16, hh⟩ := hB9
  refine x_aload_n F 0 dX4_rider_0 rfl ?_
  have J15 : ∀ (vj : Int32), vj = nI (cdRd σ) → XW K g 1 Q M 0 0 15 [(0, .ref (m 0))] [.int (vj), .ref (m 0)] := by
    intro vj ej15_vj
    subst ej15_vj
    refine x_callV F s_X4_113 hR.1 rfl rfl (c_X4_holds F.nt hR (lt_cdRd)) rfl dX4_rider_15 (by decide) (by decide) (Nat.le_of_ble_eq_true rfl) x_noX (ki fun r M2 hp => ?_)
    obtain ⟨rfl, hR0⟩ := hp
    obtain ⟨σ0, eσ0⟩ : ∃ z, z = uN σ 0 0 ((cdRd σ)) := ⟨_, rfl⟩
    rw [← eσ0] at hR0
    have hBσ0 : Bd σ0 := eσ0 ▸ Bd_u0 hB
    refine x_if_ne F 23 dX4_rider_18 (by decide) (fun c18 => ?_) (fun c18 => ?_)
    · have c18 := nI_bz1.mp c18
      have c18 := of_decide_eq_true c18
      refine x_aload_n F 0 dX4_rider_23 rfl ?_
      refine x_dup F dX4_rider_24 rfl ?_
      refine x_fget F f_X4_107 hR0.1 (v := .int (nI (σ0.1 7 0))) dX4_rider_25 rfl ?_
      refine x_iconst F (nI 1) dX4_rider_28 (by decide) ?_
      refine x_iaddN F dX4_rider_29 ?_
      refine x_mput F hR0 p_X4_107 (by decide) dX4_rider_30 (fun M1 hR1 => ?_)
      refine x_aload_n F 0 dX4_rider_33 rfl ?_
      refine x_fget F f_X4_107 hR1.1 (v := .int (nI ((uN σ0 7 0 ((σ0.1 7 0) + 1)).1 7 0))) dX4_rider_34 rfl ?_
      refine x_ri0 (y := nI (σ0.1 7 0 + 1)) (rfl) ?_
      refine x_iconst F (nI 1) dX4_rider_37 (by decide) ?_
      refine x_isubN F dX4_rider_38 (by omega) ?_
      refine x_ri0 (y := nI (σ.1 7 0)) (by rw [eσ0]; rfl) ?_
      rw [hQ]
      exact x_iret F dX4_rider_39 (by decide) ⟨_, rfl, by rw [if_pos c18, ← eσ0]; exact hR1, fun _ => rfl⟩
    · have c18 := nI_bz0.mp c18
      have c18 := of_decide_eq_false c18
      refine x_iconst F (nI 0) dX4_rider_21 (by decide) ?_
      rw [hQ]
      exact x_iret F dX4_rider_22 (by decide) ⟨_, rfl, by rw [if_neg c18, ← eσ0]; exact hR0, fun h9 => absurd h9 c18⟩
  refine x_aload_n F 0 dX4_rider_1 rfl ?_
  refine x_fget F f_X4_107 hR.1 (v := .int (nI (σ.1 7 0))) dX4_rider_2 rfl ?_
  refine x_bipush F (nI 12) dX4_rider_5 (by decide) ?_
  refine x_icmp_ne F 14 dX4_rider_7 (by decide) (fun c7 => ?_) (fun c7 => ?_)
  · have c7 := mt (nI_eq (by omega) (by omega)).mpr c7
    refine x_iconst F (nI 0) dX4_rider_14 (by decide) ?_
    exact J15 _ (by simp [cdRd, *])
  · have c7 := (nI_eq (by omega) (by omega)).mp c7
    refine x_iconst F (nI 1) dX4_rider_10 (by decide) ?_
    refine x_goto F 15 dX4_rider_11 (by decide) ?_
    exact J15 _ (by simp [cdRd, *])
