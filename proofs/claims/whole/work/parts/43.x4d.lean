set_option maxHeartbeats 4000000 in
set_option maxRecDepth 100000 in
theorem c_X4_canBeDrawn {l : Launch} (hl : l.stackTraces = false) {g : GP} {M : MM} {m : Nat → Nat} {M0 : MM} {σ : ST} {b r y : Nat} (hR : RM g m M0 σ M) (hB : Bd σ) (hb : b < 16) (hr : r < 8) (hy : y < 64) : CT l g yX4_canBeDrawn cX4_canBeDrawn 6 (some .boolean) 1 22 0 0 [.ref (m 0), .int (nI (b)), .int (nI (r)), .int (nI (y))] M (pI (fun r9 M9 => nI (bz (canS σ r y b)) = r9 ∧ M = M9)) nX := by
  refine ct_of [(0, .ref (m 0)), (1, .int (nI (b))), (2, .int (nI (r))), (3, .int (nI (y)))] (by decide) hl (Nat.le_of_ble_eq_true rfl) rfl ?_
  intro K hK F
  subst hK
  have F : Fx K g cX4_canBeDrawn RX4 6 (some .boolean) [] 1 22 0 0 := F
  obtain ⟨Q, hQ⟩ : ∃ Q, Q = MQx K g (pI (fun r9 M9 => nI (bz (canS σ r y b)) = r9 ∧ M = M9)) nX 0 0 := ⟨_, rfl⟩
  rw [← hQ]
  have hB9 := hB
  obtain ⟨h6, h7, h18, hr8, hk96, hp96, hb16, hh⟩ := hB9
  have b1 := hr8 r hr
  have b2 := hb16 b hb
  have J20 : ∀ (vj : Int32), vj = nI (bz (decide (σ.1 1 b = σ.1 8 r))) → XW K g 6 Q M 0 0 20 [(0, .ref (m 0)), (1, .int (nI (b))), (2, .int (nI (r))), (3, .int (nI (y)))] [.int (vj)] := by
    intro vj ej20_vj
    subst ej20_vj
    refine x_istore F [(4, .int (nI (bz (decide (σ.1 1 b = σ.1 8 r))))), (0, .ref (m 0)), (1, .int (nI (b))), (2, .int (nI (r))), (3, .int (nI (y)))] dX4_canBeDrawn_20 (by decide) rfl ?_
    refine x_iload_n F 4 dX4_canBeDrawn_22 rfl ?_
    refine x_iconst F (nI 1) dX4_canBeDrawn_23 (by decide) ?_
    refine x_isub F dX4_canBeDrawn_24 ?_
    refine x_istore F [(5, .int ((nI (y)) - (nI 1))), (4, .int (nI (bz (decide (σ.1 1 b = σ.1 8 r))))), (0, .ref (m 0)), (1, .int (nI (b))), (2, .int (nI (r))), (3, .int (nI (y)))] dX4_canBeDrawn_25 (by decide) rfl ?_
    have LP27 : ∀ i, i ≤ 3 → ∀ (v27_4 : Int32) (v27_5 : Int32), v27_4 = nI (bz (decide (σ.1 1 b = σ.1 8 r) && allB (rest1 (σ.2.2 b) y) i)) → v27_5 = nI (y + i) - nI 1 → XW K g 6 Q M 0 0 27 [(5, .int (v27_5)), (4, .int (v27_4)), (0, .ref (m 0)), (1, .int (nI (b))), (2, .int (nI (r))), (3, .int (nI (y)))] [] := by
      refine x_loop 3 _ (fun i hi ihi => ?_)
      intro v27_4 v27_5 e27_4 e27_5
      subst e27_4
      subst e27_5
      refine x_iload F 0 dX4_canBeDrawn_27 rfl ?_
      refine x_iload_n F 5 dX4_canBeDrawn_29 rfl ?_
      refine x_iconst F (nI 1) dX4_canBeDrawn_30 (by decide) ?_
      refine x_iaddN F dX4_canBeDrawn_31 ?_
      refine x_icmp_gt F 80 dX4_canBeDrawn_32 (by decide) (fun c32 => ?_) (fun c32 => ?_)
      · have c32 := (dn_gt (by omega) (by omega)).mp c32
        refine x_iload F 1 dX4_canBeDrawn_80 rfl ?_
        rw [hQ]
        exact x_zret F dX4_canBeDrawn_82 (by decide) (bz_01 _) ⟨_, rfl, by have h9 : i = 3 := (by omega); subst h9; rfl, rfl⟩
      · have c32 := mt (dn_gt (by omega) (by omega)).mpr c32
        refine x_iload F 1 dX4_canBeDrawn_35 rfl ?_
        refine x_if_eq F 71 dX4_canBeDrawn_37 (by decide) (fun c37 => ?_) (fun c37 => ?_)
        · have c37 := nI_bz0.mp c37
          refine x_iconst F (nI 0) dX4_canBeDrawn_71 (by decide) ?_
          refine x_istore F [(4, .int (nI (0))), (5, .int (nI (y + i) - nI 1)), (0, .ref (m 0)), (1, .int (nI (b))), (2, .int (nI (r))), (3, .int (nI (y)))] dX4_canBeDrawn_72 (by decide) rfl ?_
          refine x_iinc F 1 [(5, .int (nI (y + i) - nI 1 + Int32.ofInt 1)), (4, .int (nI (0))), (0, .ref (m 0)), (1, .int (nI (b))), (2, .int (nI (r))), (3, .int (nI (y)))] dX4_canBeDrawn_74 rfl (rfl) (by decide) rfl ?_
          refine x_goto F 27 dX4_canBeDrawn_77 (by decide) ?_
          exact ihi (by omega) _ _ (by rw [show allB (rest1 (σ.2.2 b) y) (i + 1) = (allB (rest1 (σ.2.2 b) y) i && rest1 (σ.2.2 b) y i) from rfl, ← Bool.and_assoc, c37]; first | rfl | (rw [rest1_t c48]; rfl) | (rw [rest1_b c48 c64]; rfl)) (dn_inc)
        · have c37 := nI_bz1.mp c37
          refine x_iload F 0 dX4_canBeDrawn_40 rfl ?_
          refine x_iconst F (nI 0) dX4_canBeDrawn_42 (by decide) ?_
          refine x_bipush F (nI 63) dX4_canBeDrawn_43 (by decide) ?_
          refine x_callS F s_X4_103 rfl (c_X4_isIn F.nt ) rfl dX4_canBeDrawn_45 (by decide) (by decide) (Nat.le_of_ble_eq_true rfl) x_noX (ki fun r M2 hp => ?_)
          obtain ⟨rfl, rfl⟩ := hp
          refine x_if_eq F 67 dX4_canBeDrawn_48 (by decide) (fun c48 => ?_) (fun c48 => ?_)
          · have c48 := nI_bz0.mp c48
            rw [dn_inR (by omega)] at c48
            have c48 := dn_t c48
            refine x_iconst F (nI 1) dX4_canBeDrawn_67 (by decide) ?_
            refine x_goto F 72 dX4_canBeDrawn_68 (by decide) ?_
            refine x_istore F [(4, .int (nI (1))), (5, .int (nI (y + i) - nI 1)), (0, .ref (m 0)), (1, .int (nI (b))), (2, .int (nI (r))), (3, .int (nI (y)))] dX4_canBeDrawn_72 (by decide) rfl ?_
            refine x_iinc F 1 [(5, .int (nI (y + i) - nI 1 + Int32.ofInt 1)), (4, .int (nI (1))), (0, .ref (m 0)), (1, .int (nI (b))), (2, .int (nI (r))), (3, .int (nI (y)))] dX4_canBeDrawn_74 rfl (rfl) (by decide) rfl ?_
            refine x_goto F 27 dX4_canBeDrawn_77 (by decide) ?_
            exact ihi (by omega) _ _ (by rw [show allB (rest1 (σ.2.2 b) y) (i + 1) = (allB (rest1 (σ.2.2 b) y) i && rest1 (σ.2.2 b) y i) from rfl, ← Bool.and_assoc, c37]; first | rfl | (rw [rest1_t c48]; rfl) | (rw [rest1_b c48 c64]; rfl)) (dn_inc)
          · have c48 := nI_bz1.mp c48
            rw [dn_inR (by omega)] at c48
            have c48 := dn_f c48
            have c49 := not_or.mp c48
            have e5 : nI (y + i) - nI 1 = nI (y + i - 1) := pk_sub (by omega)
            rw [e5]
            refine x_aload_n F 2 dX4_canBeDrawn_51 rfl ?_
            refine x_fget F f_X4_22 hR.1 (v := .ref (rA m 5)) dX4_canBeDrawn_52 rfl ?_
            refine x_iload_n F 3 dX4_canBeDrawn_55 rfl ?_
            refine x_mldD F hR dX4_canBeDrawn_56 (by omega) ?_
            refine x_iload F 0 dX4_canBeDrawn_57 rfl ?_
            refine x_lshr F dX4_canBeDrawn_59 ?_
            refine x_lconst F 1 dX4_canBeDrawn_60 (by decide) ?_
            refine x_land F dX4_canBeDrawn_61 ?_
            refine x_lconst F 0 dX4_canBeDrawn_62 (by decide) ?_
            refine x_lcmp F dX4_canBeDrawn_63 ?_
            refine x_if_ne F 71 dX4_canBeDrawn_64 (by decide) (fun c64 => ?_) (fun c64 => ?_)
            · have c64 := mt (lg_cmp_eq _ _).mpr c64
              have c64 : bitL (σ.2.2 b) (y + i - 1) = true := by (have := mt (drw_bit (w := σ.2.2 b) (by omega) c48).mpr c64; simpa using this)
              rw [← e5]
              refine x_iconst F (nI 0) dX4_canBeDrawn_71 (by decide) ?_
              refine x_istore F [(4, .int (nI (0))), (5, .int (nI (y + i) - nI 1)), (0, .ref (m 0)), (1, .int (nI (b))), (2, .int (nI (r))), (3, .int (nI (y)))] dX4_canBeDrawn_72 (by decide) rfl ?_
              refine x_iinc F 1 [(5, .int (nI (y + i) - nI 1 + Int32.ofInt 1)), (4, .int (nI (0))), (0, .ref (m 0)), (1, .int (nI (b))), (2, .int (nI (r))), (3, .int (nI (y)))] dX4_canBeDrawn_74 rfl (rfl) (by decide) rfl ?_
              refine x_goto F 27 dX4_canBeDrawn_77 (by decide) ?_
              exact ihi (by omega) _ _ (by rw [show allB (rest1 (σ.2.2 b) y) (i + 1) = (allB (rest1 (σ.2.2 b) y) i && rest1 (σ.2.2 b) y i) from rfl, ← Bool.and_assoc, c37]; first | rfl | (rw [rest1_t c48]; rfl) | (rw [rest1_b c48 c64]; rfl)) (dn_inc)
            · have c64 := (lg_cmp_eq _ _).mp c64
              have c64 := (drw_bit (w := σ.2.2 b) (by omega) c48).mp c64
              rw [← e5]
              refine x_iconst F (nI 1) dX4_canBeDrawn_67 (by decide) ?_
              refine x_goto F 72 dX4_canBeDrawn_68 (by decide) ?_
              refine x_istore F [(4, .int (nI (1))), (5, .int (nI (y + i) - nI 1)), (0, .ref (m 0)), (1, .int (nI (b))), (2, .int (nI (r))), (3, .int (nI (y)))] dX4_canBeDrawn_72 (by decide) rfl ?_
              refine x_iinc F 1 [(5, .int (nI (y + i) - nI 1 + Int32.ofInt 1)), (4, .int (nI (1))), (0, .ref (m 0)), (1, .int (nI (b))), (2, .int (nI (r))), (3, .int (nI (y)))] dX4_canBeDrawn_74 rfl (rfl) (by decide) rfl ?_
              refine x_goto F 27 dX4_canBeDrawn_77 (by decide) ?_
              exact ihi (by omega) _ _ (by rw [show allB (rest1 (σ.2.2 b) y) (i + 1) = (allB (rest1 (σ.2.2 b) y) i && rest1 (σ.2.2 b) y i) from rfl, ← Bool.and_assoc, c37]; first | rfl | (rw [rest1_t c48]; rfl) | (rw [rest1_b c48 c64]; rfl)) (dn_inc)
    exact LP27 0 (by omega) _ _ (by simp [allB]) (rfl)
  refine x_aload_n F 0 dX4_canBeDrawn_0 rfl ?_
  refine x_fget F f_X4_7 hR.1 (v := .ref (rA m 1)) dX4_canBeDrawn_1 rfl ?_
  refine x_iload_n F 1 dX4_canBeDrawn_4 rfl ?_
  refine x_mld F hR 1 rfl (fun _ _ => rfl) dX4_canBeDrawn_5 (by show _ < 16; omega) ?_
  refine x_aload_n F 0 dX4_canBeDrawn_6 rfl ?_
  refine x_fget F f_X4_26 hR.1 (v := .ref (rA m 8)) dX4_canBeDrawn_7 rfl ?_
  refine x_iload_n F 2 dX4_canBeDrawn_10 rfl ?_
  refine x_mld F hR 8 rfl (fun _ _ => rfl) dX4_canBeDrawn_11 (by show _ < 8; omega) ?_
  refine x_icmp_ne F 19 dX4_canBeDrawn_12 (by decide) (fun c12 => ?_) (fun c12 => ?_)
  · have c12 := mt (nI_eq (by omega) (by omega)).mpr c12
    refine x_iconst F (nI 0) dX4_canBeDrawn_19 (by decide) ?_
    exact J20 _ (by simp [bz, *])
  · have c12 := (nI_eq (by omega) (by omega)).mp c12
    refine x_iconst F (nI 1) dX4_canBeDrawn_15 (by decide) ?_
    refine x_goto F 20 dX4_canBeDrawn_16 (by decide) ?_
    exact J20 _ (by simp [bz, *])
set_option maxHeartbeats 4000000 in
set_option maxRecDepth 100000 in
theorem c_X4_drawsFor {l : Launch} (hl : l.stackTraces = false) {g : GP} {M : MM} {m : Nat → Nat} {M0 : MM} {σ : ST} {r j : Nat} (hR : RM g m M0 σ M) (hB : Bd σ) (hr : r < 8) (hj : j < 12) (hp : ¬ σ.2.1 22 (12 * r + j) = -1) : CT l g yX4_drawsFor cX4_drawsFor 8 (none : Option Jvm.ClassFile.FieldType) 2 47 0 0 [.ref (m 0), .int (nI (r)), .int (nI (j))] M (pV (fun M9 => RM g m M0 (drwU σ r j) M9)) nX := by
  refine ct_of [(0, .ref (m 0)), (1, .int (nI (r))), (2, .int (nI (j)))] (by decide) hl (Nat.le_of_ble_eq_true rfl) rfl ?_
  intro K hK F
  subst hK
  have F : Fx K g cX4_drawsFor RX4 8 (none : Option Jvm.ClassFile.FieldType) [] 2 47 0 0 := F
  obtain ⟨Q, hQ⟩ : ∃ Q, Q = MQx K g (pV (fun M9 => RM g m M0 (drwU σ r j) M9)) nX 0 0 := ⟨_, rfl⟩
  rw [← hQ]
  have hB9 := hB
  obtain ⟨h6, h7, h18, hr8, hk96, hp96, hb16, hh⟩ := hB9
  have b1 := hr8 r hr
  have b2 := hp96 (12 * r + j) (by omega)
  have b3 := pl_cl (by decide) b2.1 hp
  have b4 : dayS σ r j < 64 := by unfold dayS; omega
  have b5 : manS σ r (dayS σ r j) ≤ 16 := by (have := fb_ct_le (canS σ r (dayS σ r j)) (σ.1 6 0); unfold manS; omega)
  have b6 : hidS σ < 65537 := by (unfold hidS; omega)
  refine x_aload_n F 0 dX4_drawsFor_0 rfl ?_
  refine x_fget F f_X4_32 hR.1 (v := .ref (rA m 10)) dX4_drawsFor_1 rfl ?_
  refine x_iload_n F 1 dX4_drawsFor_4 rfl ?_
  refine x_mld F hR 10 rfl (fun _ _ => rfl) dX4_drawsFor_5 (by show _ < 8; omega) ?_
  refine x_aload_n F 0 dX4_drawsFor_6 rfl ?_
  refine x_fget F f_X4_65 hR.1 (v := .ref (rA m 22)) dX4_drawsFor_7 rfl ?_
  refine x_iload_n F 1 dX4_drawsFor_10 rfl ?_
  refine x_iload_n F 2 dX4_drawsFor_11 rfl ?_
  refine x_callS F s_X4_118 rfl (c_X4_at F.nt ) rfl dX4_drawsFor_12 (by decide) (by decide) (Nat.le_of_ble_eq_true rfl) x_noX (ki fun r M2 hp => ?_)
  obtain ⟨rfl, rfl⟩ := hp
  refine x_mldR F hR 22 rfl (fun _ _ => rfl) dX4_drawsFor_15 (by show _ < 96; omega) ?_
  refine x_ri0 (y := nI (cl (σ.2.1 22 (12 * r + j)))) (b3.1) ?_
  refine x_iaddN F dX4_drawsFor_16 ?_
  refine x_ri0 (y := nI (dayS σ r j)) (rfl) ?_
  refine x_istore_n F [(3, .int (nI (dayS σ r j))), (0, .ref (m 0)), (1, .int (nI (r))), (2, .int (nI (j)))] dX4_drawsFor_17 (by decide) rfl ?_
  refine x_iconst F (nI 0) dX4_drawsFor_18 (by decide) ?_
  refine x_istore F [(4, .int (nI (0))), (3, .int (nI (dayS σ r j))), (0, .ref (m 0)), (1, .int (nI (r))), (2, .int (nI (j)))] dX4_drawsFor_19 (by decide) rfl ?_
  refine x_iconst F (nI 0) dX4_drawsFor_21 (by decide) ?_
  refine x_istore F [(5, .int (nI (0))), (4, .int (nI (0))), (3, .int (nI (dayS σ r j))), (0, .ref (m 0)), (1, .int (nI (r))), (2, .int (nI (j)))] dX4_drawsFor_22 (by decide) rfl ?_
  have LP24 : ∀ i, i ≤ (σ.1 6 0) → ∀ (v24_4 : Int32) (v24_5 : Int32), v24_4 = nI (fb_ct (canS σ r (dayS σ r j)) i) → v24_5 = nI (i) → XW K g 8 Q M 0 0 24 [(5, .int (v24_5)), (4, .int (v24_4)), (3, .int (nI (dayS σ r j))), (0, .ref (m 0)), (1, .int (nI (r))), (2, .int (nI (j)))] [] := by
    refine x_loop ((σ.1 6 0)) _ (fun i hi ihi => ?_)
    intro v24_4 v24_5 e24_4 e24_5
    subst e24_4
    subst e24_5
    refine x_iload F 0 dX4_drawsFor_24 rfl ?_
    refine x_aload_n F 3 dX4_drawsFor_26 rfl ?_
    refine x_fget F f_X4_100 hR.1 (v := .int (nI (σ.1 6 0))) dX4_drawsFor_27 rfl ?_
    refine x_icmp_ge F 60 dX4_drawsFor_30 (by decide) (fun c30 => ?_) (fun c30 => ?_)
    · have c30 := (nI_leI (by omega) (by omega)).mp c30
      have c30b := Nat.not_lt.mpr c30
      have h9 : i = σ.1 6 0 := by omega
      rw [h9]
      refine x_sub [0, 1, 2, 3, 4, 5] rfl (L' := [(5, .int (nI (σ.1 6 0))), (4, .int (nI (manS σ r (dayS σ r j)))), (3, .int (nI (dayS σ r j))), (0, .ref (m 0)), (1, .int (nI (r))), (2, .int (nI (j)))]) ?_
      refine x_iconst F ((-1)) dX4_drawsFor_60 (by decide) ?_
      refine x_istore F [(5, .int ((-1))), (4, .int (nI (manS σ r (dayS σ r j)))), (3, .int (nI (dayS σ r j))), (0, .ref (m 0)), (1, .int (nI (r))), (2, .int (nI (j)))] dX4_drawsFor_61 (by decide) rfl ?_
      refine x_iload F 1 dX4_drawsFor_63 rfl ?_
      refine x_if_le F 153 dX4_drawsFor_65 (by decide) (fun c65 => ?_) (fun c65 => ?_)
      · have c65 := (nI_le0 (by omega)).mp c65
        have c65b := Nat.not_lt.mpr (Nat.le_zero.mpr c65)
        refine x_aload_n F 3 dX4_drawsFor_153 rfl ?_
        refine x_fget F f_X4_68 hR.1 (v := .ref (rA m 23)) dX4_drawsFor_154 rfl ?_
        refine x_iload_n F 4 dX4_drawsFor_157 rfl ?_
        refine x_iload_n F 5 dX4_drawsFor_158 rfl ?_
        refine x_callS F s_X4_118 rfl (c_X4_at F.nt ) rfl dX4_drawsFor_159 (by decide) (by decide) (Nat.le_of_ble_eq_true rfl) x_noX (ki fun r_2 M2_2 hp_2 => ?_)
        obtain ⟨rfl, rfl⟩ := hp_2
        refine x_iload F 0 dX4_drawsFor_162 rfl ?_
        refine x_mstR F hR 23 rfl (fun _ _ => rfl) dX4_drawsFor_164 (by show _ < 96; omega) (fun M1 hR1 => ?_)
        refine x_aload_n F 3 dX4_drawsFor_165 rfl ?_
        refine x_fget F f_X4_71 hR1.1 (v := .ref (rA m 24)) dX4_drawsFor_166 rfl ?_
        refine x_iload_n F 4 dX4_drawsFor_169 rfl ?_
        refine x_iload_n F 5 dX4_drawsFor_170 rfl ?_
        refine x_callS F s_X4_118 rfl (c_X4_at F.nt ) rfl dX4_drawsFor_171 (by decide) (by decide) (Nat.le_of_ble_eq_true rfl) x_noX (ki fun r_3 M2_3 hp_3 => ?_)
        obtain ⟨rfl, rfl⟩ := hp_3
        refine x_iload F 0 dX4_drawsFor_174 rfl ?_
        refine x_iconst F ((-1)) dX4_drawsFor_176 (by decide) ?_
        refine x_icmp_eq F 184 dX4_drawsFor_177 (by decide) (fun c177 => ?_) (fun c177 => ?_)
        · have d177 := c177
          refine x_iconst F (nI 0) dX4_drawsFor_184 (by decide) ?_
          refine x_mstZ F hR1 24 rfl (fun _ _ => rfl) dX4_drawsFor_185 (by show _ < 96; omega) (by omega) (fun M1_2 hR1_2 => ?_)
          rw [hQ]
          exact x_vret F dX4_drawsFor_186 (by decide) ⟨rfl, by first | exact absurd d177 (nI_m1 (by omega)) | exact absurd rfl d177 | exact (show (uN (uR σ 23 (12 * r + j) (((-1)))) 24 (12 * r + j) (0)) = drwU σ r j by unfold drwU; rw [if_pos c65]) ▸ hR1_2 | exact (show uN (uN (uR σ 23 (12 * r + j) (((-1)))) 24 (12 * r + j) (0)) 42 b (σ.1 42 b + 1) = drwU σ r j by unfold drwU; rw [if_neg (by omega), hfb, cl_nI (by omega)]) ▸ RM_x hR1_2 (by decide)⟩
        · have d177 := c177
          refine x_iconst F (nI 1) dX4_drawsFor_180 (by decide) ?_
          refine x_goto F 185 dX4_drawsFor_181 (by decide) ?_
          refine x_mstZ F hR1 24 rfl (fun _ _ => rfl) dX4_drawsFor_185 (by show _ < 96; omega) (by omega) (fun M1_3 hR1_3 => ?_)
          rw [hQ]
          exact x_vret F dX4_drawsFor_186 (by decide) ⟨rfl, by first | exact absurd d177 (nI_m1 (by omega)) | exact absurd rfl d177 | exact (show (uN (uR σ 23 (12 * r + j) (((-1)))) 24 (12 * r + j) (1)) = drwU σ r j by unfold drwU; rw [if_pos c65]) ▸ hR1_3 | exact (show uN (uN (uR σ 23 (12 * r + j) (((-1)))) 24 (12 * r + j) (1)) 42 b (σ.1 42 b + 1) = drwU σ r j by unfold drwU; rw [if_neg (by omega), hfb, cl_nI (by omega)]) ▸ RM_x hR1_3 (by decide)⟩
      · have c65 := mt (nI_le0 (by omega)).mpr c65
        have c65b := Nat.pos_of_ne_zero c65
        obtain ⟨b, hb, hcb, hcc, hfb⟩ := drwF_some (σ := σ) (r := r) (day := dayS σ r j) (by omega)
        have hfn := (drwF_fnd (σ := σ) (r := r) (day := dayS σ r j) (by omega)).symm.trans hfb
        refine x_aload_n F 3 dX4_drawsFor_68 rfl ?_
        refine x_bipush F (nI 75) dX4_drawsFor_69 (by decide) ?_
        refine x_aload_n F 3 dX4_drawsFor_71 rfl ?_
        refine x_fget F f_X4_90 hR.1 (v := .int (nI (σ.1 30 0))) dX4_drawsFor_72 rfl ?_
        refine x_imulN F dX4_drawsFor_75 ?_
        refine x_bipush F (nI 74) dX4_drawsFor_76 (by decide) ?_
        refine x_iaddN F dX4_drawsFor_78 ?_
        refine x_ldc F (nI 65537) k_X4_167 dX4_drawsFor_79 ?_
        refine x_iremN F dX4_drawsFor_81 (by omega) (by omega) (by omega) ?_
        refine x_ri0 (y := nI (hidS σ)) (rfl) ?_
        refine x_mput F hR p_X4_90 (by decide) dX4_drawsFor_82 (fun M1_4 hR1_4 => ?_)
        have hB1 : Bd (uN σ 30 0 (hidS σ)) := ⟨h6, h7, h18, hr8, hk96, hp96, hb16, (show hidS σ ≤ 65536 by omega)⟩
        refine x_aload_n F 3 dX4_drawsFor_85 rfl ?_
        refine x_fget F f_X4_90 hR1_4.1 (v := .int (nI ((uN σ 30 0 (hidS σ)).1 30 0))) dX4_drawsFor_86 rfl ?_
        refine x_ri0 (y := nI (hidS σ)) (by simp [uN]) ?_
        refine x_iload F 1 dX4_drawsFor_89 rfl ?_
        refine x_iremN F dX4_drawsFor_91 (by omega) (by omega) (by omega) ?_
        refine x_istore F [(6, .int (nI ((hidS σ) % (manS σ r (dayS σ r j))))), (5, .int ((-1))), (4, .int (nI (manS σ r (dayS σ r j)))), (3, .int (nI (dayS σ r j))), (0, .ref (m 0)), (1, .int (nI (r))), (2, .int (nI (j)))] dX4_drawsFor_92 (by decide) rfl ?_
        refine x_iconst F (nI 0) dX4_drawsFor_94 (by decide) ?_
        refine x_istore F [(7, .int (nI (0))), (6, .int (nI ((hidS σ) % (manS σ r (dayS σ r j))))), (5, .int ((-1))), (4, .int (nI (manS σ r (dayS σ r j)))), (3, .int (nI (dayS σ r j))), (0, .ref (m 0)), (1, .int (nI (r))), (2, .int (nI (j)))] dX4_drawsFor_95 (by decide) rfl ?_
        have LP97 : ∀ i, i ≤ (σ.1 6 0) → ∀ (v97_5 : Int32) (v97_6 : Int32) (v97_7 : Int32), v97_5 = fndS (canS σ r (dayS σ r j)) (hidS σ % manS σ r (dayS σ r j)) i → v97_6 = nI (hidS σ % manS σ r (dayS σ r j)) - nI (fb_ct (canS σ r (dayS σ r j)) i) → v97_7 = nI (i) → XW K g 8 Q M1_4 0 0 97 [(7, .int (v97_7)), (6, .int (v97_6)), (5, .int (v97_5)), (4, .int (nI (manS σ r (dayS σ r j)))), (3, .int (nI (dayS σ r j))), (0, .ref (m 0)), (1, .int (nI (r))), (2, .int (nI (j)))] [] := by
          refine x_loop ((σ.1 6 0)) _ (fun i hi ihi => ?_)
          intro v97_5 v97_6 v97_7 e97_5 e97_6 e97_7
          subst e97_5
          subst e97_6
          subst e97_7
          refine x_iload F 0 dX4_drawsFor_97 rfl ?_
          refine x_aload_n F 5 dX4_drawsFor_99 rfl ?_
          refine x_fget F f_X4_100 hR1_4.1 (v := .int (nI ((uN σ 30 0 (hidS σ)).1 6 0))) dX4_drawsFor_100 rfl ?_
          refine x_ri0 (y := nI (σ.1 6 0)) (rfl) ?_
          refine x_icmp_ge F 140 dX4_drawsFor_103 (by decide) (fun c103 => ?_) (fun c103 => ?_)
          · have c103 := (nI_leI (by omega) (by omega)).mp c103
            have c103b := Nat.not_lt.mpr c103
            have h9 : i = σ.1 6 0 := by omega
            rw [h9, hfn]
            refine x_aload_n F 5 dX4_drawsFor_140 rfl ?_
            refine x_fget F f_X4_22 hR1_4.1 (v := .ref (rA m 5)) dX4_drawsFor_141 rfl ?_
            refine x_iload F 2 dX4_drawsFor_144 rfl ?_
            refine x_dup2 F dX4_drawsFor_146 rfl rfl ?_
            refine x_mldD F hR1_4 dX4_drawsFor_147 (by omega) ?_
            refine x_rl0 (y := σ.2.2 (b)) (rfl) ?_
            refine x_lconst F 1 dX4_drawsFor_148 (by decide) ?_
            refine x_iload_n F 4 dX4_drawsFor_149 rfl ?_
            refine x_lshl F dX4_drawsFor_150 ?_
            refine x_lor F dX4_drawsFor_151 ?_
            refine x_rl0 (y := σ.2.2 b ||| bitD (dayS σ r j)) (rfl) ?_
            refine x_mstD F hR1_4 dX4_drawsFor_152 (by omega) (fun M1_5 hR1_5 => ?_)
            refine x_aload_n F 5 dX4_drawsFor_153 rfl ?_
            refine x_fget F f_X4_68 hR1_5.1 (v := .ref (rA m 23)) dX4_drawsFor_154 rfl ?_
            refine x_iload_n F 6 dX4_drawsFor_157 rfl ?_
            refine x_iload_n F 7 dX4_drawsFor_158 rfl ?_
            refine x_callS F s_X4_118 rfl (c_X4_at F.nt ) rfl dX4_drawsFor_159 (by decide) (by decide) (Nat.le_of_ble_eq_true rfl) x_noX (ki fun r_4 M2_4 hp_4 => ?_)
            obtain ⟨rfl, rfl⟩ := hp_4
            refine x_iload F 2 dX4_drawsFor_162 rfl ?_
            refine x_mstR F hR1_5 23 rfl (fun _ _ => rfl) dX4_drawsFor_164 (by show _ < 96; omega) (fun M1_6 hR1_6 => ?_)
            refine x_aload_n F 5 dX4_drawsFor_165 rfl ?_
            refine x_fget F f_X4_71 hR1_6.1 (v := .ref (rA m 24)) dX4_drawsFor_166 rfl ?_
            refine x_iload_n F 6 dX4_drawsFor_169 rfl ?_
            refine x_iload_n F 7 dX4_drawsFor_170 rfl ?_
            refine x_callS F s_X4_118 rfl (c_X4_at F.nt ) rfl dX4_drawsFor_171 (by decide) (by decide) (Nat.le_of_ble_eq_true rfl) x_noX (ki fun r_5 M2_5 hp_5 => ?_)
            obtain ⟨rfl, rfl⟩ := hp_5
            refine x_iload F 2 dX4_drawsFor_174 rfl ?_
            refine x_iconst F ((-1)) dX4_drawsFor_176 (by decide) ?_
            refine x_icmp_eq F 184 dX4_drawsFor_177 (by decide) (fun c177_2 => ?_) (fun c177_2 => ?_)
            · have d177 := c177_2
              refine x_iconst F (nI 0) dX4_drawsFor_184 (by decide) ?_
              refine x_mstZ F hR1_6 24 rfl (fun _ _ => rfl) dX4_drawsFor_185 (by show _ < 96; omega) (by omega) (fun M1_7 hR1_7 => ?_)
              rw [hQ]
              exact x_vret F dX4_drawsFor_186 (by decide) ⟨rfl, by first | exact absurd d177 (nI_m1 (by omega)) | exact absurd rfl d177 | exact (show (uN (uR (uD (uN σ 30 0 (hidS σ)) (b) (σ.2.2 b ||| bitD (dayS σ r j))) 23 (12 * r + j) ((nI (b)))) 24 (12 * r + j) (0)) = drwU σ r j by unfold drwU; rw [if_pos c65]) ▸ hR1_7 | exact (show uN (uN (uR (uD (uN σ 30 0 (hidS σ)) (b) (σ.2.2 b ||| bitD (dayS σ r j))) 23 (12 * r + j) ((nI (b)))) 24 (12 * r + j) (0)) 42 b (σ.1 42 b + 1) = drwU σ r j by unfold drwU; rw [if_neg (by omega), hfb, cl_nI (by omega)]) ▸ RM_x hR1_7 (by decide)⟩
            · have d177 := c177_2
              refine x_iconst F (nI 1) dX4_drawsFor_180 (by decide) ?_
              refine x_goto F 185 dX4_drawsFor_181 (by decide) ?_
              refine x_mstZ F hR1_6 24 rfl (fun _ _ => rfl) dX4_drawsFor_185 (by show _ < 96; omega) (by omega) (fun M1_8 hR1_8 => ?_)
              rw [hQ]
              exact x_vret F dX4_drawsFor_186 (by decide) ⟨rfl, by first | exact absurd d177 (nI_m1 (by omega)) | exact absurd rfl d177 | exact (show (uN (uR (uD (uN σ 30 0 (hidS σ)) (b) (σ.2.2 b ||| bitD (dayS σ r j))) 23 (12 * r + j) ((nI (b)))) 24 (12 * r + j) (1)) = drwU σ r j by unfold drwU; rw [if_pos c65]) ▸ hR1_8 | exact (show uN (uN (uR (uD (uN σ 30 0 (hidS σ)) (b) (σ.2.2 b ||| bitD (dayS σ r j))) 23 (12 * r + j) ((nI (b)))) 24 (12 * r + j) (1)) 42 b (σ.1 42 b + 1) = drwU σ r j by unfold drwU; rw [if_neg (by omega), hfb, cl_nI (by omega)]) ▸ RM_x hR1_8 (by decide)⟩
          · have c103 := mt (nI_leI (by omega) (by omega)).mpr c103
            have c103b := Nat.not_le.mp c103
            have b7 := fb_ct_le (canS σ r (dayS σ r j)) i
            have b8 : hidS σ % manS σ r (dayS σ r j) < 70000 := Nat.lt_of_le_of_lt (Nat.mod_le _ _) (by omega)
            refine x_aload_n F 5 dX4_drawsFor_106 rfl ?_
            refine x_iload F 0 dX4_drawsFor_107 rfl ?_
            refine x_iload_n F 6 dX4_drawsFor_109 rfl ?_
            refine x_iload_n F 4 dX4_drawsFor_110 rfl ?_
            refine x_callV F s_X4_164 hR1_4.1 rfl rfl (c_X4_canBeDrawn F.nt hR1_4 hB1 (by omega) (by omega) (by omega)) rfl dX4_drawsFor_111 (by decide) (by decide) (Nat.le_of_ble_eq_true rfl) x_noX (ki fun r_6 M2_6 hp_6 => ?_)
            obtain ⟨rfl, rfl⟩ := hp_6
            refine x_ri0 (y := nI (bz (canS σ r (dayS σ r j) i))) (rfl) ?_
            refine x_if_eq F 134 dX4_drawsFor_114 (by decide) (fun c114 => ?_) (fun c114 => ?_)
            · have c114 := nI_bz0.mp c114
              refine x_iinc F 0 [(7, .int (nI (i + 1))), (6, .int (nI (hidS σ % manS σ r (dayS σ r j)) - nI (fb_ct (canS σ r (dayS σ r j)) i))), (5, .int (fndS (canS σ r (dayS σ r j)) (hidS σ % manS σ r (dayS σ r j)) i)), (4, .int (nI (manS σ r (dayS σ r j)))), (3, .int (nI (dayS σ r j))), (0, .ref (m 0)), (1, .int (nI (r))), (2, .int (nI (j)))] dX4_drawsFor_134 rfl (iincN (i) 1) (by decide) rfl ?_
              refine x_goto F 97 dX4_drawsFor_137 (by decide) ?_
              exact ihi (by omega) _ _ _ (by first | exact (fndS_t c114 c119).symm | exact (fndS_n c120).symm | exact (fndS_f c114).symm) (by first | (rw [fb_ct_yes c114]; exact sub_dec) | rw [fb_ct_no c114]) (rfl)
            · have c114 := nI_bz1.mp c114
              refine x_iload F 1 dX4_drawsFor_117 rfl ?_
              refine x_if_ne F 127 dX4_drawsFor_119 (by decide) (fun c119 => ?_) (fun c119 => ?_)
              · have c119 := mt (sub_0 (by omega) (by omega)).mpr c119
                have c120 : ¬ fb_ct (canS σ r (dayS σ r j)) i = hidS σ % manS σ r (dayS σ r j) := fun z => c119 z.symm
                refine x_iload F 2 dX4_drawsFor_127 rfl ?_
                refine x_istore F [(5, .int (fndS (canS σ r (dayS σ r j)) (hidS σ % manS σ r (dayS σ r j)) i)), (7, .int (nI (i))), (6, .int (nI (hidS σ % manS σ r (dayS σ r j)) - nI (fb_ct (canS σ r (dayS σ r j)) i))), (4, .int (nI (manS σ r (dayS σ r j)))), (3, .int (nI (dayS σ r j))), (0, .ref (m 0)), (1, .int (nI (r))), (2, .int (nI (j)))] dX4_drawsFor_129 (by decide) rfl ?_
                refine x_iinc F 2 [(6, .int (nI (hidS σ % manS σ r (dayS σ r j)) - nI (fb_ct (canS σ r (dayS σ r j)) i) + Int32.ofInt (-1))), (5, .int (fndS (canS σ r (dayS σ r j)) (hidS σ % manS σ r (dayS σ r j)) i)), (7, .int (nI (i))), (4, .int (nI (manS σ r (dayS σ r j)))), (3, .int (nI (dayS σ r j))), (0, .ref (m 0)), (1, .int (nI (r))), (2, .int (nI (j)))] dX4_drawsFor_131 rfl (rfl) (by decide) rfl ?_
                refine x_iinc F 2 [(7, .int (nI (i + 1))), (6, .int (nI (hidS σ % manS σ r (dayS σ r j)) - nI (fb_ct (canS σ r (dayS σ r j)) i) + Int32.ofInt (-1))), (5, .int (fndS (canS σ r (dayS σ r j)) (hidS σ % manS σ r (dayS σ r j)) i)), (4, .int (nI (manS σ r (dayS σ r j)))), (3, .int (nI (dayS σ r j))), (0, .ref (m 0)), (1, .int (nI (r))), (2, .int (nI (j)))] dX4_drawsFor_134 rfl (iincN (i) 1) (by decide) rfl ?_
                refine x_goto F 97 dX4_drawsFor_137 (by decide) ?_
                exact ihi (by omega) _ _ _ (by first | exact (fndS_t c114 c119).symm | exact (fndS_n c120).symm | exact (fndS_f c114).symm) (by first | (rw [fb_ct_yes c114]; exact sub_dec) | rw [fb_ct_no c114]) (rfl)
              · have c119 := ((sub_0 (by omega) (by omega)).mp c119).symm
                refine x_iload F 0 dX4_drawsFor_122 rfl ?_
                refine x_goto F 129 dX4_drawsFor_124 (by decide) ?_
                refine x_istore F [(5, .int (nI (i))), (7, .int (nI (i))), (6, .int (nI (hidS σ % manS σ r (dayS σ r j)) - nI (fb_ct (canS σ r (dayS σ r j)) i))), (4, .int (nI (manS σ r (dayS σ r j)))), (3, .int (nI (dayS σ r j))), (0, .ref (m 0)), (1, .int (nI (r))), (2, .int (nI (j)))] dX4_drawsFor_129 (by decide) rfl ?_
                refine x_iinc F 2 [(6, .int (nI (hidS σ % manS σ r (dayS σ r j)) - nI (fb_ct (canS σ r (dayS σ r j)) i) + Int32.ofInt (-1))), (5, .int (nI (i))), (7, .int (nI (i))), (4, .int (nI (manS σ r (dayS σ r j)))), (3, .int (nI (dayS σ r j))), (0, .ref (m 0)), (1, .int (nI (r))), (2, .int (nI (j)))] dX4_drawsFor_131 rfl (rfl) (by decide) rfl ?_
                refine x_iinc F 2 [(7, .int (nI (i + 1))), (6, .int (nI (hidS σ % manS σ r (dayS σ r j)) - nI (fb_ct (canS σ r (dayS σ r j)) i) + Int32.ofInt (-1))), (5, .int (nI (i))), (4, .int (nI (manS σ r (dayS σ r j)))), (3, .int (nI (dayS σ r j))), (0, .ref (m 0)), (1, .int (nI (r))), (2, .int (nI (j)))] dX4_drawsFor_134 rfl (iincN (i) 1) (by decide) rfl ?_
                refine x_goto F 97 dX4_drawsFor_137 (by decide) ?_
                exact ihi (by omega) _ _ _ (by first | exact (fndS_t c114 c119).symm | exact (fndS_n c120).symm | exact (fndS_f c114).symm) (by first | (rw [fb_ct_yes c114]; exact sub_dec) | rw [fb_ct_no c114]) (rfl)
        exact LP97 0 (by omega) _ _ _ (rfl) ((pk_sub (Nat.zero_le _)).symm) (rfl)
    · have c30 := mt (nI_leI (by omega) (by omega)).mpr c30
      have c30b := Nat.not_le.mp c30
      refine x_iload F 1 dX4_drawsFor_33 rfl ?_
      refine x_aload_n F 3 dX4_drawsFor_35 rfl ?_
      refine x_iload F 0 dX4_drawsFor_36 rfl ?_
      refine x_iload_n F 4 dX4_drawsFor_38 rfl ?_
      refine x_iload_n F 2 dX4_drawsFor_39 rfl ?_
      refine x_callV F s_X4_164 hR.1 rfl rfl (c_X4_canBeDrawn F.nt hR hB (by omega) (by omega) (by omega)) rfl dX4_drawsFor_40 (by decide) (by decide) (Nat.le_of_ble_eq_true rfl) x_noX (ki fun r_7 M2_7 hp_7 => ?_)
      obtain ⟨rfl, rfl⟩ := hp_7
      refine x_if_eq F 50 dX4_drawsFor_43 (by decide) (fun c43 => ?_) (fun c43 => ?_)
      · have c43 := nI_bz0.mp c43
        refine x_iconst F (nI 0) dX4_drawsFor_50 (by decide) ?_
        refine x_iaddN F dX4_drawsFor_51 ?_
        refine x_istore F [(4, .int (nI ((fb_ct (canS σ r (dayS σ r j)) i) + 0))), (5, .int (nI (i))), (3, .int (nI (dayS σ r j))), (0, .ref (m 0)), (1, .int (nI (r))), (2, .int (nI (j)))] dX4_drawsFor_52 (by decide) rfl ?_
        refine x_iinc F 1 [(5, .int (nI (i + 1))), (4, .int (nI ((fb_ct (canS σ r (dayS σ r j)) i) + 0))), (3, .int (nI (dayS σ r j))), (0, .ref (m 0)), (1, .int (nI (r))), (2, .int (nI (j)))] dX4_drawsFor_54 rfl (iincN (i) 1) (by decide) rfl ?_
        refine x_goto F 24 dX4_drawsFor_57 (by decide) ?_
        exact ihi (by omega) _ _ (by simp [fb_ct_succ, *]) (rfl)
      · have c43 := nI_bz1.mp c43
        refine x_iconst F (nI 1) dX4_drawsFor_46 (by decide) ?_
        refine x_goto F 51 dX4_drawsFor_47 (by decide) ?_
        refine x_iaddN F dX4_drawsFor_51 ?_
        refine x_istore F [(4, .int (nI ((fb_ct (canS σ r (dayS σ r j)) i) + 1))), (5, .int (nI (i))), (3, .int (nI (dayS σ r j))), (0, .ref (m 0)), (1, .int (nI (r))), (2, .int (nI (j)))] dX4_drawsFor_52 (by decide) rfl ?_
        refine x_iinc F 1 [(5, .int (nI (i + 1))), (4, .int (nI ((fb_ct (canS σ r (dayS σ r j)) i) + 1))), (3, .int (nI (dayS σ r j))), (0, .ref (m 0)), (1, .int (nI (r))), (2, .int (nI (j)))] dX4_drawsFor_54 rfl (iincN (i) 1) (by decide) rfl ?_
        refine x_goto F 24 dX4_drawsFor_57 (by decide) ?_
        exact ihi (by omega) _ _ (by simp [fb_ct_succ, *]) (rfl)
  exact LP24 0 (by omega) _ _ (rfl) (rfl)
