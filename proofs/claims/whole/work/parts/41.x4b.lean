set_option maxHeartbeats 4000000 in
set_option maxRecDepth 100000 in
theorem c_X4_gets {l : Launch} (hl : l.stackTraces = false) {g : GP} {M : MM} {m : Nat → Nat} {M0 : MM} {σ : ST} {r j p : Nat} (hR : RM g m M0 σ M) (hB : Bd σ) (hr : r < 8) (hj : j < 12) (hp : p < 4) : CT l g yX4_gets cX4_gets 8 (some .boolean) 1 21 0 0 [.ref (m 0), .int (nI (r)), .int (nI (j)), .int (nI (p))] M (pI (fun r9 M9 => nI (bz (getsS σ r j p)) = r9 ∧ M = M9)) nX := by
  refine ct_of [(0, .ref (m 0)), (1, .int (nI (r))), (2, .int (nI (j))), (3, .int (nI (p)))] (by decide) hl (Nat.le_of_ble_eq_true rfl) rfl ?_
  intro K hK F
  subst hK
  have F : Fx K g cX4_gets RX4 8 (some .boolean) [] 1 21 0 0 := F
  obtain ⟨Q, hQ⟩ : ∃ Q, Q = MQx K g (pI (fun r9 M9 => nI (bz (getsS σ r j p)) = r9 ∧ M = M9)) nX 0 0 := ⟨_, rfl⟩
  rw [← hQ]
  have hB9 := hB
  obtain ⟨h6, h7, h18, hr8, hk96, hp96, hb16, hh⟩ := hB9
  have b1 := hr8 r hr
  refine x_iconst F (nI 1) dX4_gets_0 (by decide) ?_
  refine x_istore F [(4, .int (nI (1))), (0, .ref (m 0)), (1, .int (nI (r))), (2, .int (nI (j))), (3, .int (nI (p)))] dX4_gets_1 (by decide) rfl ?_
  refine x_iconst F (nI 0) dX4_gets_3 (by decide) ?_
  refine x_istore F [(5, .int (nI (0))), (4, .int (nI (1))), (0, .ref (m 0)), (1, .int (nI (r))), (2, .int (nI (j))), (3, .int (nI (p)))] dX4_gets_4 (by decide) rfl ?_
  have LP6 : ∀ i, i ≤ (σ.1 18 0) → ∀ (v6_4 : Int32) (v6_5 : Int32), v6_4 = nI (bz (allB (getO σ r j p) i)) → v6_5 = nI (i) → XW K g 8 Q M 0 0 6 [(5, .int (v6_5)), (4, .int (v6_4)), (0, .ref (m 0)), (1, .int (nI (r))), (2, .int (nI (j))), (3, .int (nI (p)))] [] := by
    refine x_loop ((σ.1 18 0)) _ (fun i hi ihi => ?_)
    intro v6_4 v6_5 e6_4 e6_5
    subst e6_4
    subst e6_5
    refine x_iload F 0 dX4_gets_6 rfl ?_
    refine x_aload_n F 2 dX4_gets_8 rfl ?_
    refine x_fget F f_X4_110 hR.1 (v := .int (nI (σ.1 18 0))) dX4_gets_9 rfl ?_
    refine x_icmp_ge F 111 dX4_gets_12 (by decide) (fun c12 => ?_) (fun c12 => ?_)
    · have c12 := (nI_leI (by omega) (by omega)).mp c12
      have c12b := Nat.not_lt.mpr c12
      refine x_iload F 1 dX4_gets_111 rfl ?_
      rw [hQ]
      exact x_zret F dX4_gets_113 (by decide) (bz_01 _) ⟨_, rfl, by have h9 : i = σ.1 18 0 := (by omega); subst h9; rfl, rfl⟩
    · have c12 := mt (nI_leI (by omega) (by omega)).mpr c12
      have c12b := Nat.not_le.mp c12
      have b2 := hr8 i (by omega)
      have b3 := hp96 (12 * i + j) (by omega)
      refine x_aload_n F 2 dX4_gets_15 rfl ?_
      refine x_fget F f_X4_65 hR.1 (v := .ref (rA m 22)) dX4_gets_16 rfl ?_
      refine x_iload F 0 dX4_gets_19 rfl ?_
      refine x_iload_n F 4 dX4_gets_21 rfl ?_
      refine x_callS F s_X4_118 rfl (c_X4_at F.nt ) rfl dX4_gets_22 (by decide) (by decide) (Nat.le_of_ble_eq_true rfl) x_noX (ki fun r M2 hp => ?_)
      obtain ⟨rfl, rfl⟩ := hp
      refine x_mldR F hR 22 rfl (fun _ _ => rfl) dX4_gets_25 (by show _ < 96; omega) ?_
      refine x_istore F [(6, .int (σ.2.1 22 (12 * i + j))), (5, .int (nI (i))), (4, .int (nI (bz (allB (getO σ r j p) i)))), (0, .ref (m 0)), (1, .int (nI (r))), (2, .int (nI (j))), (3, .int (nI (p)))] dX4_gets_26 (by decide) rfl ?_
      refine x_iload F 1 dX4_gets_28 rfl ?_
      refine x_iload_n F 4 dX4_gets_30 rfl ?_
      refine x_icmp_eq F 105 dX4_gets_31 (by decide) (fun c31 => ?_) (fun c31 => ?_)
      · have c31 := (nI_eq (by omega) (by omega)).mp c31
        refine x_iinc F 1 [(5, .int (nI (i + 1))), (6, .int (σ.2.1 22 (12 * i + j))), (4, .int (nI (bz (allB (getO σ r j p) i)))), (0, .ref (m 0)), (1, .int (nI (r))), (2, .int (nI (j))), (3, .int (nI (p)))] dX4_gets_105 rfl (iincN (i) 1) (by decide) rfl ?_
        refine x_goto F 6 dX4_gets_108 (by decide) ?_
        refine x_sub [0, 2, 3, 4, 5, 6] rfl (L' := [(5, .int (nI (i + 1))), (4, .int (nI (bz (allB (getO σ r j p) i)))), (0, .ref (m 0)), (1, .int (nI (r))), (2, .int (nI (j))), (3, .int (nI (p)))]) ?_
        exact ihi (by omega) _ _ (by (try clear b4); simp [allB, getO, bz, *]) (rfl)
      · have c31 := mt (nI_eq (by omega) (by omega)).mpr c31
        refine x_iload F 0 dX4_gets_34 rfl ?_
        refine x_iconst F ((-1)) dX4_gets_36 (by decide) ?_
        refine x_icmp_eq F 105 dX4_gets_37 (by decide) (fun c37 => ?_) (fun c37 => ?_)
        · refine x_iinc F 1 [(5, .int (nI (i + 1))), (6, .int (σ.2.1 22 (12 * i + j))), (4, .int (nI (bz (allB (getO σ r j p) i)))), (0, .ref (m 0)), (1, .int (nI (r))), (2, .int (nI (j))), (3, .int (nI (p)))] dX4_gets_105 rfl (iincN (i) 1) (by decide) rfl ?_
          refine x_goto F 6 dX4_gets_108 (by decide) ?_
          refine x_sub [0, 2, 3, 4, 5, 6] rfl (L' := [(5, .int (nI (i + 1))), (4, .int (nI (bz (allB (getO σ r j p) i)))), (0, .ref (m 0)), (1, .int (nI (r))), (2, .int (nI (j))), (3, .int (nI (p)))]) ?_
          exact ihi (by omega) _ _ (by (try clear b4); simp [allB, getO, bz, *]) (rfl)
        · have b4 := pl_cl (by decide) b3.1 c37
          refine x_aload_n F 3 dX4_gets_40 rfl ?_
          refine x_fget F f_X4_32 hR.1 (v := .ref (rA m 10)) dX4_gets_41 rfl ?_
          refine x_iload_n F 4 dX4_gets_44 rfl ?_
          refine x_mld F hR 10 rfl (fun _ _ => rfl) dX4_gets_45 (by show _ < 8; omega) ?_
          refine x_iload_n F 6 dX4_gets_46 rfl ?_
          refine x_iaddN F dX4_gets_47 ?_
          refine x_aload_n F 3 dX4_gets_48 rfl ?_
          refine x_fget F f_X4_32 hR.1 (v := .ref (rA m 10)) dX4_gets_49 rfl ?_
          refine x_iload F 1 dX4_gets_52 rfl ?_
          refine x_mld F hR 10 rfl (fun _ _ => rfl) dX4_gets_54 (by show _ < 8; omega) ?_
          refine x_iload F 0 dX4_gets_55 rfl ?_
          refine x_ri0 (y := nI (cl (σ.2.1 22 (12 * i + j)))) (b4.1) ?_
          refine x_iaddN F dX4_gets_57 ?_
          refine x_callS F s_X4_142 rfl (c_X4_apart F.nt (by omega) (by omega)) rfl dX4_gets_58 (by decide) (by decide) (Nat.le_of_ble_eq_true rfl) x_noX (ki fun r_2 M2_2 hp_2 => ?_)
          obtain ⟨rfl, rfl⟩ := hp_2
          refine x_istore F [(7, .int (nI (adst ((σ.1 10 (r)) + p) ((σ.1 10 (i)) + (cl (σ.2.1 22 (12 * i + j))))))), (6, .int (σ.2.1 22 (12 * i + j))), (5, .int (nI (i))), (4, .int (nI (bz (allB (getO σ r j p) i)))), (0, .ref (m 0)), (1, .int (nI (r))), (2, .int (nI (j))), (3, .int (nI (p)))] dX4_gets_61 (by decide) rfl ?_
          refine x_iload F 3 dX4_gets_63 rfl ?_
          refine x_if_eq F 102 dX4_gets_65 (by decide) (fun c65 => ?_) (fun c65 => ?_)
          · have c65 := nI_bz0.mp c65
            refine x_iconst F (nI 0) dX4_gets_102 (by decide) ?_
            refine x_istore F [(4, .int (nI (0))), (7, .int (nI (adst ((σ.1 10 (r)) + p) ((σ.1 10 (i)) + (cl (σ.2.1 22 (12 * i + j))))))), (6, .int (σ.2.1 22 (12 * i + j))), (5, .int (nI (i))), (0, .ref (m 0)), (1, .int (nI (r))), (2, .int (nI (j))), (3, .int (nI (p)))] dX4_gets_103 (by decide) rfl ?_
            refine x_iinc F 3 [(5, .int (nI (i + 1))), (4, .int (nI (0))), (7, .int (nI (adst ((σ.1 10 (r)) + p) ((σ.1 10 (i)) + (cl (σ.2.1 22 (12 * i + j))))))), (6, .int (σ.2.1 22 (12 * i + j))), (0, .ref (m 0)), (1, .int (nI (r))), (2, .int (nI (j))), (3, .int (nI (p)))] dX4_gets_105 rfl (iincN (i) 1) (by decide) rfl ?_
            refine x_goto F 6 dX4_gets_108 (by decide) ?_
            refine x_sub [0, 1, 4, 5, 6, 7] rfl (L' := [(5, .int (nI (i + 1))), (4, .int (nI (0))), (0, .ref (m 0)), (1, .int (nI (r))), (2, .int (nI (j))), (3, .int (nI (p)))]) ?_
            exact ihi (by omega) _ _ (by (try clear b4); simp [allB, getO, bz, *]) (rfl)
          · have c65 := nI_bz1.mp c65
            refine x_iload F 0 dX4_gets_68 rfl ?_
            refine x_if_le F 102 dX4_gets_70 (by decide) (fun c70 => ?_) (fun c70 => ?_)
            · have c70 := (nI_le0 (by have := adst_le (σ.1 10 r + p) (σ.1 10 i + cl (σ.2.1 22 (12 * i + j))); omega)).mp c70
              have c70b := Nat.not_lt.mpr (Nat.le_zero.mpr c70)
              refine x_iconst F (nI 0) dX4_gets_102 (by decide) ?_
              refine x_istore F [(4, .int (nI (0))), (7, .int (nI (adst ((σ.1 10 (r)) + p) ((σ.1 10 (i)) + (cl (σ.2.1 22 (12 * i + j))))))), (6, .int (σ.2.1 22 (12 * i + j))), (5, .int (nI (i))), (0, .ref (m 0)), (1, .int (nI (r))), (2, .int (nI (j))), (3, .int (nI (p)))] dX4_gets_103 (by decide) rfl ?_
              refine x_iinc F 3 [(5, .int (nI (i + 1))), (4, .int (nI (0))), (7, .int (nI (adst ((σ.1 10 (r)) + p) ((σ.1 10 (i)) + (cl (σ.2.1 22 (12 * i + j))))))), (6, .int (σ.2.1 22 (12 * i + j))), (0, .ref (m 0)), (1, .int (nI (r))), (2, .int (nI (j))), (3, .int (nI (p)))] dX4_gets_105 rfl (iincN (i) 1) (by decide) rfl ?_
              refine x_goto F 6 dX4_gets_108 (by decide) ?_
              refine x_sub [0, 1, 4, 5, 6, 7] rfl (L' := [(5, .int (nI (i + 1))), (4, .int (nI (0))), (0, .ref (m 0)), (1, .int (nI (r))), (2, .int (nI (j))), (3, .int (nI (p)))]) ?_
              exact ihi (by omega) _ _ (by (try clear b4); simp [allB, getO, bz, *]) (rfl)
            · have c70 := mt (nI_le0 (by have := adst_le (σ.1 10 r + p) (σ.1 10 i + cl (σ.2.1 22 (12 * i + j))); omega)).mpr c70
              have c70b := Nat.pos_of_ne_zero c70
              refine x_sipush F (nI 400) dX4_gets_73 (by decide) ?_
              refine x_iload F 0 dX4_gets_76 rfl ?_
              refine x_imulN F dX4_gets_78 ?_
              refine x_aload_n F 4 dX4_gets_79 rfl ?_
              refine x_fget F f_X4_29 hR.1 (v := .ref (rA m 9)) dX4_gets_80 rfl ?_
              refine x_iload_n F 5 dX4_gets_83 rfl ?_
              refine x_mld F hR 9 rfl (fun _ _ => rfl) dX4_gets_84 (by show _ < 8; omega) ?_
              refine x_aload_n F 4 dX4_gets_85 rfl ?_
              refine x_fget F f_X4_29 hR.1 (v := .ref (rA m 9)) dX4_gets_86 rfl ?_
              refine x_iload F 2 dX4_gets_89 rfl ?_
              refine x_mld F hR 9 rfl (fun _ _ => rfl) dX4_gets_91 (by show _ < 8; omega) ?_
              refine x_callS F s_X4_142 rfl (c_X4_apart F.nt (by omega) (by omega)) rfl dX4_gets_92 (by decide) (by decide) (Nat.le_of_ble_eq_true rfl) x_noX (ki fun r_3 M2_3 hp_3 => ?_)
              obtain ⟨rfl, rfl⟩ := hp_3
              refine x_icmp_lt F 102 dX4_gets_95 (by decide) (fun c95 => ?_) (fun c95 => ?_)
              · have c95 := (nI_ltI (by have := adst_le (σ.1 10 r + p) (σ.1 10 i + cl (σ.2.1 22 (12 * i + j))); omega) (by have := adst_le (σ.1 9 r) (σ.1 9 i); omega)).mp c95
                have c95b := Nat.not_le.mpr c95
                refine x_iconst F (nI 0) dX4_gets_102 (by decide) ?_
                refine x_istore F [(4, .int (nI (0))), (7, .int (nI (adst ((σ.1 10 (r)) + p) ((σ.1 10 (i)) + (cl (σ.2.1 22 (12 * i + j))))))), (6, .int (σ.2.1 22 (12 * i + j))), (5, .int (nI (i))), (0, .ref (m 0)), (1, .int (nI (r))), (2, .int (nI (j))), (3, .int (nI (p)))] dX4_gets_103 (by decide) rfl ?_
                refine x_iinc F 3 [(5, .int (nI (i + 1))), (4, .int (nI (0))), (7, .int (nI (adst ((σ.1 10 (r)) + p) ((σ.1 10 (i)) + (cl (σ.2.1 22 (12 * i + j))))))), (6, .int (σ.2.1 22 (12 * i + j))), (0, .ref (m 0)), (1, .int (nI (r))), (2, .int (nI (j))), (3, .int (nI (p)))] dX4_gets_105 rfl (iincN (i) 1) (by decide) rfl ?_
                refine x_goto F 6 dX4_gets_108 (by decide) ?_
                refine x_sub [0, 1, 4, 5, 6, 7] rfl (L' := [(5, .int (nI (i + 1))), (4, .int (nI (0))), (0, .ref (m 0)), (1, .int (nI (r))), (2, .int (nI (j))), (3, .int (nI (p)))]) ?_
                exact ihi (by omega) _ _ (by (try clear b4); simp [allB, getO, bz, *]) (rfl)
              · have c95 := mt (nI_ltI (by have := adst_le (σ.1 10 r + p) (σ.1 10 i + cl (σ.2.1 22 (12 * i + j))); omega) (by have := adst_le (σ.1 9 r) (σ.1 9 i); omega)).mpr c95
                have c95b := Nat.not_lt.mp c95
                refine x_iconst F (nI 1) dX4_gets_98 (by decide) ?_
                refine x_goto F 103 dX4_gets_99 (by decide) ?_
                refine x_istore F [(4, .int (nI (1))), (7, .int (nI (adst ((σ.1 10 (r)) + p) ((σ.1 10 (i)) + (cl (σ.2.1 22 (12 * i + j))))))), (6, .int (σ.2.1 22 (12 * i + j))), (5, .int (nI (i))), (0, .ref (m 0)), (1, .int (nI (r))), (2, .int (nI (j))), (3, .int (nI (p)))] dX4_gets_103 (by decide) rfl ?_
                refine x_iinc F 3 [(5, .int (nI (i + 1))), (4, .int (nI (1))), (7, .int (nI (adst ((σ.1 10 (r)) + p) ((σ.1 10 (i)) + (cl (σ.2.1 22 (12 * i + j))))))), (6, .int (σ.2.1 22 (12 * i + j))), (0, .ref (m 0)), (1, .int (nI (r))), (2, .int (nI (j))), (3, .int (nI (p)))] dX4_gets_105 rfl (iincN (i) 1) (by decide) rfl ?_
                refine x_goto F 6 dX4_gets_108 (by decide) ?_
                refine x_sub [0, 1, 4, 5, 6, 7] rfl (L' := [(5, .int (nI (i + 1))), (4, .int (nI (1))), (0, .ref (m 0)), (1, .int (nI (r))), (2, .int (nI (j))), (3, .int (nI (p)))]) ?_
                exact ihi (by omega) _ _ (by (try clear b4); simp [allB, getO, bz, *]) (rfl)
  exact LP6 0 (by omega) _ _ (rfl) (rfl)
set_option maxHeartbeats 4000000 in
set_option maxRecDepth 100000 in
theorem c_X4_fits {l : Launch} (hl : l.stackTraces = false) {g : GP} {M : MM} {m : Nat → Nat} {M0 : MM} {σ : ST} {r j p : Nat} (hR : RM g m M0 σ M) (hB : Bd σ) (hr : r < 8) (hj : j < 12) (hp : p < 4) : CT l g yX4_fits cX4_fits 4 (some .boolean) 2 48 0 0 [.ref (m 0), .int (nI (r)), .int (nI (j)), .int (nI (p))] M (pI (fun r9 M9 => nI (bz (fitS σ r j p)) = r9 ∧ M = M9)) nX := by
  refine ct_of [(0, .ref (m 0)), (1, .int (nI (r))), (2, .int (nI (j))), (3, .int (nI (p)))] (by decide) hl (Nat.le_of_ble_eq_true rfl) rfl ?_
  intro K hK F
  subst hK
  have F : Fx K g cX4_fits RX4 4 (some .boolean) [] 2 48 0 0 := F
  obtain ⟨Q, hQ⟩ : ∃ Q, Q = MQx K g (pI (fun r9 M9 => nI (bz (fitS σ r j p)) = r9 ∧ M = M9)) nX 0 0 := ⟨_, rfl⟩
  rw [← hQ]
  have hB9 := hB
  obtain ⟨h6, h7, h18, hr8, hk96, hp96, hb16, hh⟩ := hB9
  have b1 := hr8 r hr
  have b2 := hk96 (12 * r + j) (by omega)
  refine x_aload_n F 0 dX4_fits_0 rfl ?_
  refine x_fget F f_X4_59 hR.1 (v := .ref (rA m 20)) dX4_fits_1 rfl ?_
  refine x_iload_n F 1 dX4_fits_4 rfl ?_
  refine x_iload_n F 2 dX4_fits_5 rfl ?_
  refine x_callS F s_X4_118 rfl (c_X4_at F.nt ) rfl dX4_fits_6 (by decide) (by decide) (Nat.le_of_ble_eq_true rfl) x_noX (ki fun r M2 hp => ?_)
  obtain ⟨rfl, rfl⟩ := hp
  refine x_mld F hR 20 rfl (fun _ _ => rfl) dX4_fits_9 (by show _ < 96; omega) ?_
  refine x_iload_n F 3 dX4_fits_10 rfl ?_
  refine x_ishr F dX4_fits_11 ?_
  refine x_iconst F (nI 1) dX4_fits_12 (by decide) ?_
  refine x_iand F dX4_fits_13 ?_
  refine x_ri0 (y := nI (bz ((σ.1 20 (12 * r + j)).testBit p))) (tb_sh (by omega) (by omega)) ?_
  refine x_iconst F (nI 1) dX4_fits_14 (by decide) ?_
  refine x_icmp_ne F 47 dX4_fits_15 (by decide) (fun c15 => ?_) (fun c15 => ?_)
  · have c15 := nI_bzO.mp c15
    refine x_iconst F (nI 0) dX4_fits_47 (by decide) ?_
    rw [hQ]
    exact x_zret F dX4_fits_48 (by decide) (Or.inl rfl) ⟨_, rfl, by simp [fitS, bz, *], rfl⟩
  · have c15 := nI_bzI.mp c15
    refine x_aload_n F 0 dX4_fits_18 rfl ?_
    refine x_iload_n F 1 dX4_fits_19 rfl ?_
    refine x_iload_n F 3 dX4_fits_20 rfl ?_
    refine x_callV F s_X4_145 hR.1 rfl rfl (c_X4_taken F.nt hR (by omega)) rfl dX4_fits_21 (by decide) (by decide) (Nat.le_of_ble_eq_true rfl) x_noX (ki fun r_2 M2_2 hp_2 => ?_)
    obtain ⟨rfl, rfl⟩ := hp_2
    refine x_aload_n F 0 dX4_fits_24 rfl ?_
    refine x_fget F f_X4_38 hR.1 (v := .ref (rA m 12)) dX4_fits_25 rfl ?_
    refine x_iload_n F 1 dX4_fits_28 rfl ?_
    refine x_mld F hR 12 rfl (fun _ _ => rfl) dX4_fits_29 (by show _ < 8; omega) ?_
    refine x_icmp_ge F 47 dX4_fits_30 (by decide) (fun c30 => ?_) (fun c30 => ?_)
    · have c30 := (nI_leI (by omega) (by have := fb_ct_le (fun j => decide (σ.2.1 22 (12 * r + j) = nI p)) 12; show fb_ct _ _ < _; omega)).mp c30
      have c30b := Nat.not_lt.mpr c30
      refine x_iconst F (nI 0) dX4_fits_47 (by decide) ?_
      rw [hQ]
      exact x_zret F dX4_fits_48 (by decide) (Or.inl rfl) ⟨_, rfl, by simp [fitS, bz, *], rfl⟩
    · have c30 := mt (nI_leI (by omega) (by have := fb_ct_le (fun j => decide (σ.2.1 22 (12 * r + j) = nI p)) 12; show fb_ct _ _ < _; omega)).mpr c30
      have c30b := Nat.not_le.mp c30
      refine x_aload_n F 0 dX4_fits_33 rfl ?_
      refine x_iload_n F 1 dX4_fits_34 rfl ?_
      refine x_iload_n F 2 dX4_fits_35 rfl ?_
      refine x_iload_n F 3 dX4_fits_36 rfl ?_
      refine x_callV F s_X4_148 hR.1 rfl rfl (c_X4_gets F.nt hR hB (by omega) (by omega) (by omega)) rfl dX4_fits_37 (by decide) (by decide) (Nat.le_of_ble_eq_true rfl) x_noX (ki fun r_3 M2_3 hp_3 => ?_)
      obtain ⟨rfl, rfl⟩ := hp_3
      refine x_if_eq F 47 dX4_fits_40 (by decide) (fun c40 => ?_) (fun c40 => ?_)
      · have c40 := nI_bz0.mp c40
        refine x_iconst F (nI 0) dX4_fits_47 (by decide) ?_
        rw [hQ]
        exact x_zret F dX4_fits_48 (by decide) (Or.inl rfl) ⟨_, rfl, by simp [fitS, bz, *], rfl⟩
      · have c40 := nI_bz1.mp c40
        refine x_iconst F (nI 1) dX4_fits_43 (by decide) ?_
        refine x_goto F 48 dX4_fits_44 (by decide) ?_
        rw [hQ]
        exact x_zret F dX4_fits_48 (by decide) (Or.inr rfl) ⟨_, rfl, by simp [fitS, bz, *], rfl⟩
set_option maxHeartbeats 4000000 in
set_option maxRecDepth 100000 in
theorem c_X4_places {l : Launch} (hl : l.stackTraces = false) {g : GP} {M : MM} {m : Nat → Nat} {M0 : MM} {σ : ST} {r j : Nat} (hR : RM g m M0 σ M) (hB : Bd σ) (hr : r < 8) (hj : j < 12) : CT l g yX4_places cX4_places 5 (none : Option Jvm.ClassFile.FieldType) 3 71 0 0 [.ref (m 0), .int (nI (r)), .int (nI (j))] M (pV (fun M9 => RM g m M0 (plU σ r j) M9)) nX := by
  refine ct_of [(0, .ref (m 0)), (1, .int (nI (r))), (2, .int (nI (j)))] (by decide) hl (Nat.le_of_ble_eq_true rfl) rfl ?_
  intro K hK F
  subst hK
  have F : Fx K g cX4_places RX4 5 (none : Option Jvm.ClassFile.FieldType) [] 3 71 0 0 := F
  obtain ⟨Q, hQ⟩ : ∃ Q, Q = MQx K g (pV (fun M9 => RM g m M0 (plU σ r j) M9)) nX 0 0 := ⟨_, rfl⟩
  rw [← hQ]
  have hB9 := hB
  obtain ⟨h6, h7, h18, hr8, hk96, hp96, hb16, hh⟩ := hB9
  have b1 := hr8 r hr
  have b2 := hk96 (12 * r + j) (by omega)
  refine x_iconst F ((-1)) dX4_places_0 (by decide) ?_
  refine x_istore_n F [(3, .int ((-1))), (0, .ref (m 0)), (1, .int (nI (r))), (2, .int (nI (j)))] dX4_places_1 (by decide) rfl ?_
  refine x_aload_n F 1 dX4_places_2 rfl ?_
  refine x_fget F f_X4_35 hR.1 (v := .ref (rA m 11)) dX4_places_3 rfl ?_
  refine x_iload_n F 2 dX4_places_6 rfl ?_
  refine x_mld F hR 11 rfl (fun _ _ => rfl) dX4_places_7 (by show _ < 8; omega) ?_
  refine x_iconst F (nI 1) dX4_places_8 (by decide) ?_
  refine x_isub F dX4_places_9 ?_
  refine x_istore F [(4, .int ((nI (σ.1 11 (r))) - (nI 1))), (3, .int ((-1))), (0, .ref (m 0)), (1, .int (nI (r))), (2, .int (nI (j)))] dX4_places_10 (by decide) rfl ?_
  have LP12 : ∀ i, i ≤ (σ.1 11 r) → ∀ (v12_3 : Int32) (v12_4 : Int32), v12_3 = fF (fitS σ r j) (σ.1 11 r - i) i → v12_4 = nI (σ.1 11 r - i) - nI 1 → XW K g 5 Q M 0 0 12 [(4, .int (v12_4)), (3, .int (v12_3)), (0, .ref (m 0)), (1, .int (nI (r))), (2, .int (nI (j)))] [] := by
    refine x_loop ((σ.1 11 r)) _ (fun i hi ihi => ?_)
    intro v12_3 v12_4 e12_3 e12_4
    subst e12_3
    subst e12_4
    refine x_iload F 0 dX4_places_12 rfl ?_
    refine x_if_lt F 41 dX4_places_14 (by decide) (fun c14 => ?_) (fun c14 => ?_)
    · have h9 : i = σ.1 11 r := by have := (nI_dn (by omega)).mp c14; omega
      have e3 : fF (fitS σ r j) (σ.1 11 r - i) i = fF (fitS σ r j) 0 (σ.1 11 r) := by rw [h9, Nat.sub_self]
      rw [e3]
      refine x_aload_n F 2 dX4_places_41 rfl ?_
      refine x_fget F f_X4_62 hR.1 (v := .ref (rA m 21)) dX4_places_42 rfl ?_
      refine x_iload_n F 3 dX4_places_45 rfl ?_
      refine x_iload_n F 4 dX4_places_46 rfl ?_
      refine x_callS F s_X4_118 rfl (c_X4_at F.nt ) rfl dX4_places_47 (by decide) (by decide) (Nat.le_of_ble_eq_true rfl) x_noX (ki fun r M2 hp => ?_)
      obtain ⟨rfl, rfl⟩ := hp
      refine x_mld F hR 21 rfl (fun _ _ => rfl) dX4_places_50 (by show _ < 96; omega) ?_
      refine x_istore F [(4, .int (nI (σ.1 21 (12 * r + j)))), (3, .int (fF (fitS σ r j) 0 (σ.1 11 r))), (0, .ref (m 0)), (1, .int (nI (r))), (2, .int (nI (j)))] dX4_places_51 (by decide) rfl ?_
      refine x_aload_n F 2 dX4_places_53 rfl ?_
      refine x_fget F f_X4_65 hR.1 (v := .ref (rA m 22)) dX4_places_54 rfl ?_
      refine x_iload_n F 3 dX4_places_57 rfl ?_
      refine x_iload_n F 4 dX4_places_58 rfl ?_
      refine x_callS F s_X4_118 rfl (c_X4_at F.nt ) rfl dX4_places_59 (by decide) (by decide) (Nat.le_of_ble_eq_true rfl) x_noX (ki fun r_2 M2_2 hp_2 => ?_)
      obtain ⟨rfl, rfl⟩ := hp_2
      refine x_aload_n F 2 dX4_places_62 rfl ?_
      refine x_iload_n F 3 dX4_places_63 rfl ?_
      refine x_iload_n F 4 dX4_places_64 rfl ?_
      refine x_iload F 0 dX4_places_65 rfl ?_
      refine x_callV F s_X4_151 hR.1 rfl rfl (c_X4_fits F.nt hR hB (by omega) (by omega) (by omega)) rfl dX4_places_67 (by decide) (by decide) (Nat.le_of_ble_eq_true rfl) x_noX (ki fun r_3 M2_3 hp_3 => ?_)
      obtain ⟨rfl, rfl⟩ := hp_3
      refine x_if_eq F 78 dX4_places_70 (by decide) (fun c70 => ?_) (fun c70 => ?_)
      · have c70 := nI_bz0.mp c70
        refine x_iload_n F 1 dX4_places_78 rfl ?_
        refine x_mstR F hR 22 rfl (fun _ _ => rfl) dX4_places_79 (by show _ < 96; omega) (fun M1 hR1 => ?_)
        rw [hQ]
        exact x_vret F dX4_places_80 (by decide) ⟨rfl, (show (uR σ 22 (12 * r + j) ((fF (fitS σ r j) 0 (σ.1 11 r)))) = plU σ r j by simp [plU, plcS, *]) ▸ hR1⟩
      · have c70 := nI_bz1.mp c70
        refine x_iload F 0 dX4_places_73 rfl ?_
        refine x_goto F 79 dX4_places_75 (by decide) ?_
        refine x_mstR F hR 22 rfl (fun _ _ => rfl) dX4_places_79 (by show _ < 96; omega) (fun M1_2 hR1_2 => ?_)
        rw [hQ]
        exact x_vret F dX4_places_80 (by decide) ⟨rfl, (show (uR σ 22 (12 * r + j) ((nI (σ.1 21 (12 * r + j))))) = plU σ r j by simp [plU, plcS, *]) ▸ hR1_2⟩
    · have h9 : i < σ.1 11 r := by have := mt (nI_dn (by omega)).mpr c14; omega
      have e4 : nI (σ.1 11 r - i) - nI 1 = nI (σ.1 11 r - i - 1) := pk_sub (by omega)
      rw [e4]
      refine x_aload_n F 2 dX4_places_17 rfl ?_
      refine x_iload_n F 3 dX4_places_18 rfl ?_
      refine x_iload_n F 4 dX4_places_19 rfl ?_
      refine x_iload F 0 dX4_places_20 rfl ?_
      refine x_callV F s_X4_151 hR.1 rfl rfl (c_X4_fits F.nt hR hB (by omega) (by omega) (by omega)) rfl dX4_places_22 (by decide) (by decide) (Nat.le_of_ble_eq_true rfl) x_noX (ki fun r_4 M2_4 hp_4 => ?_)
      obtain ⟨rfl, rfl⟩ := hp_4
      refine x_if_eq F 33 dX4_places_25 (by decide) (fun c25 => ?_) (fun c25 => ?_)
      · have c25 := nI_bz0.mp c25
        refine x_iload_n F 1 dX4_places_33 rfl ?_
        refine x_istore_n F [(3, .int (fF (fitS σ r j) (σ.1 11 r - i) i)), (4, .int (nI (σ.1 11 r - i - 1))), (0, .ref (m 0)), (1, .int (nI (r))), (2, .int (nI (j)))] dX4_places_34 (by decide) rfl ?_
        refine x_iinc F 1 [(4, .int (nI (σ.1 11 r - i - 1) - nI 1)), (3, .int (fF (fitS σ r j) (σ.1 11 r - i) i)), (0, .ref (m 0)), (1, .int (nI (r))), (2, .int (nI (j)))] dX4_places_35 rfl (by rw [Int32.sub_eq_add_neg]; rfl) (by decide) rfl ?_
        refine x_goto F 12 dX4_places_38 (by decide) ?_
        exact ihi (by omega) _ _ (by rw [fF_down (by omega)]; simp [*]) (rfl)
      · have c25 := nI_bz1.mp c25
        refine x_iload F 0 dX4_places_28 rfl ?_
        refine x_goto F 34 dX4_places_30 (by decide) ?_
        refine x_istore_n F [(3, .int (nI (σ.1 11 r - i - 1))), (4, .int (nI (σ.1 11 r - i - 1))), (0, .ref (m 0)), (1, .int (nI (r))), (2, .int (nI (j)))] dX4_places_34 (by decide) rfl ?_
        refine x_iinc F 1 [(4, .int (nI (σ.1 11 r - i - 1) - nI 1)), (3, .int (nI (σ.1 11 r - i - 1))), (0, .ref (m 0)), (1, .int (nI (r))), (2, .int (nI (j)))] dX4_places_35 rfl (by rw [Int32.sub_eq_add_neg]; rfl) (by decide) rfl ?_
        refine x_goto F 12 dX4_places_38 (by decide) ?_
        exact ihi (by omega) _ _ (by rw [fF_down (by omega)]; simp [*]) (rfl)
  exact LP12 0 (by omega) _ _ (rfl) (rfl)
set_option maxHeartbeats 4000000 in
set_option maxRecDepth 100000 in
theorem c_X4_holds {l : Launch} (hl : l.stackTraces = false) {g : GP} {M : MM} {m : Nat → Nat} {M0 : MM} {σ : ST} {x : Nat} (hR : RM g m M0 σ M) (hx : x < 1000) : CT l g yX4_holds cX4_holds 2 (some .boolean) 0 0 0 0 [.ref (m 0), .int (nI (x))] M (pI (fun r9 M9 => nI (bz (decide (x = 0))) = r9 ∧ RM g m M0 (uN σ 0 0 x) M9)) nX := by
  refine ct_of [(0, .ref (m 0)), (1, .int (nI (x)))] (by decide) hl (Nat.le_of_ble_eq_true rfl) rfl ?_
  intro K hK F
  subst hK
  have F : Fx K g cX4_holds RX4 2 (some .boolean) [] 0 0 0 0 := F
  obtain ⟨Q, hQ⟩ : ∃ Q, Q = MQx K g (pI (fun r9 M9 => nI (bz (decide (x = 0))) = r9 ∧ RM g m M0 (uN σ 0 0 x) M9)) nX 0 0 := ⟨_, rfl⟩
  rw [← hQ]
  refine x_aload_n F 0 dX4_holds_0 rfl ?_
  refine x_iload_n F 1 dX4_holds_1 rfl ?_
  refine x_mput F hR p_X4_97 (by decide) dX4_holds_2 (fun M1 hR1 => ?_)
  refine x_iload_n F 1 dX4_holds_5 rfl ?_
  refine x_if_ne F 13 dX4_holds_6 (by decide) (fun c6 => ?_) (fun c6 => ?_)
  · have c6 := mt (nI_z (by omega)).mpr c6
    refine x_iconst F (nI 0) dX4_holds_13 (by decide) ?_
    rw [hQ]
    exact x_zret F dX4_holds_14 (by decide) (Or.inl rfl) ⟨_, rfl, by simp [bz, *], hR1⟩
  · have c6 := (nI_z (by omega)).mp c6
    refine x_iconst F (nI 1) dX4_holds_9 (by decide) ?_
    refine x_goto F 14 dX4_holds_10 (by decide) ?_
    rw [hQ]
    exact x_zret F dX4_holds_14 (by decide) (Or.inr rfl) ⟨_, rfl, by simp [bz, *], hR1⟩
