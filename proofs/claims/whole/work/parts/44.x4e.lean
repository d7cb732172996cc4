set_option maxHeartbeats 4000000 in
set_option maxRecDepth 100000 in
theorem c_X4_drawn {l : Launch} (hl : l.stackTraces = false) {g : GP} {M : MM} {m : Nat → Nat} {M0 : MM} {σ : ST} {r : Nat} (hR : RM g m M0 σ M) (hB : Bd σ) (hr : r < 8) (hpl : ∀ k, k < σ.1 17 r → σ.1 19 (12 * r + k) < 12) : CT l g yX4_drawn cX4_drawn 5 (some .int) 3 74 0 0 [.ref (m 0), .int (nI (r))] M (pI (fun r9 M9 => RM g m M0 (drnU σ r) M9 ∧ r9 = nI (beaN (drnU σ r) r))) nX := by
  refine ct_of [(0, .ref (m 0)), (1, .int (nI (r)))] (by decide) hl (Nat.le_of_ble_eq_true rfl) rfl ?_
  intro K hK F
  subst hK
  have F : Fx K g cX4_drawn RX4 5 (some .int) [] 3 74 0 0 := F
  obtain ⟨Q, hQ⟩ : ∃ Q, Q = MQx K g (pI (fun r9 M9 => RM g m M0 (drnU σ r) M9 ∧ r9 = nI (beaN (drnU σ r) r))) nX 0 0 := ⟨_, rfl⟩
  rw [← hQ]
  have hB9 := hB
  obtain ⟨h6, h7, h18, hr8, hk96, hp96, hb16, hh⟩ := hB9
  have b1 := hr8 r hr
  refine x_iconst F (nI 0) dX4_drawn_0 (by decide) ?_
  refine x_istore_n F [(2, .int (nI (0))), (0, .ref (m 0)), (1, .int (nI (r)))] dX4_drawn_1 (by decide) rfl ?_
  have LP2 : ∀ p, p ≤ (σ.1 11 r) → ∀ (Mi2 : MM), RM g m M0 (drP σ r p) Mi2 → ∀ (v2_2 : Int32), v2_2 = nI (p) → XW K g 5 Q Mi2 0 0 2 [(2, .int (v2_2)), (0, .ref (m 0)), (1, .int (nI (r)))] [] := by
    refine x_loop ((σ.1 11 r)) _ (fun p hp ihp => ?_)
    intro Mi2 hR2 v2_2 e2_2
    subst e2_2
    have hB1 : Bd (drP σ r p) := Bd_drP hB p
    refine x_iload_n F 0 dX4_drawn_2 rfl ?_
    refine x_aload_n F 1 dX4_drawn_3 rfl ?_
    refine x_fget F f_X4_35 hR2.1 (v := .ref (rA m 11)) dX4_drawn_4 rfl ?_
    refine x_iload_n F 2 dX4_drawn_7 rfl ?_
    refine x_mld F hR2 11 rfl (fun _ _ => rfl) dX4_drawn_8 (by show _ < 8; omega) ?_
    refine x_ri0 (y := nI (σ.1 11 (r))) (by rw [drP_N (by decide)]) ?_
    refine x_icmp_ge F 70 dX4_drawn_9 (by decide) (fun c9 => ?_) (fun c9 => ?_)
    · have c9 := (nI_leI (by omega) (by omega)).mp c9
      have c9b := Nat.not_lt.mpr c9
      have h9 : p = σ.1 11 r := by omega
      have hB3 : Bd (drP σ r p) := hB1
      refine x_iconst F (nI 0) dX4_drawn_70 (by decide) ?_
      refine x_istore_n F [(2, .int (nI (0))), (0, .ref (m 0)), (1, .int (nI (r)))] dX4_drawn_71 (by decide) rfl ?_
      refine x_iload_n F 2 dX4_drawn_72 rfl ?_
      refine x_iconst F (nI 0) dX4_drawn_73 (by decide) ?_
      refine x_callS F s_X4_118 rfl (c_X4_at F.nt ) rfl dX4_drawn_74 (by decide) (by decide) (Nat.le_of_ble_eq_true rfl) x_noX (ki fun r M2 hp => ?_)
      obtain ⟨rfl, rfl⟩ := hp
      refine x_istore_n F [(3, .int (nI (12 * r + 0))), (2, .int (nI (0))), (0, .ref (m 0)), (1, .int (nI (r)))] dX4_drawn_77 (by decide) rfl ?_
      have LP78 : ∀ i, i ≤ 12 → ∀ (v78_2 : Int32) (v78_3 : Int32), v78_2 = nI (fb_ct (fun j => decide (¬ (drP σ r p).2.1 23 (12 * r + j) = -1)) i) → v78_3 = nI (12 * r + i) → XW K g 5 Q Mi2 0 0 78 [(3, .int (v78_3)), (2, .int (v78_2)), (0, .ref (m 0)), (1, .int (nI (r)))] [] := by
        refine x_loop 12 _ (fun i hi ihi => ?_)
        intro v78_2 v78_3 e78_2 e78_3
        subst e78_2
        subst e78_3
        refine x_iload_n F 0 dX4_drawn_78 rfl ?_
        refine x_iload_n F 3 dX4_drawn_79 rfl ?_
        refine x_iconst F (nI 1) dX4_drawn_80 (by decide) ?_
        refine x_iaddN F dX4_drawn_81 ?_
        refine x_iconst F (nI 0) dX4_drawn_82 (by decide) ?_
        refine x_callS F s_X4_118 rfl (c_X4_at F.nt ) rfl dX4_drawn_83 (by decide) (by decide) (Nat.le_of_ble_eq_true rfl) x_noX (ki fun r_2 M2_2 hp_2 => ?_)
        obtain ⟨rfl, rfl⟩ := hp_2
        refine x_icmp_ge F 113 dX4_drawn_86 (by decide) (fun c86 => ?_) (fun c86 => ?_)
        · have c86 := (nI_leI (by omega) (by omega)).mp c86
          have c86b := Nat.not_lt.mpr c86
          refine x_aload_n F 2 dX4_drawn_113 rfl ?_
          refine x_fget F f_X4_47 hR2.1 (v := .ref (rA m 15)) dX4_drawn_114 rfl ?_
          refine x_iload_n F 3 dX4_drawn_117 rfl ?_
          refine x_iconst F (nI 2) dX4_drawn_118 (by decide) ?_
          refine x_mst F hR2 15 rfl (fun _ _ => rfl) dX4_drawn_119 (by show _ < 8; omega) (fun M1 hR1 => ?_)
          refine x_iload_n F 1 dX4_drawn_120 rfl ?_
          rw [hQ]
          exact x_iret F dX4_drawn_121 (by decide) ⟨_, rfl, by subst h9; exact hR1, by subst h9; have h8 : i = 12 := (by omega); subst h8; rfl⟩
        · have c86 := mt (nI_leI (by omega) (by omega)).mpr c86
          have c86b := Nat.not_le.mp c86
          refine x_iload_n F 1 dX4_drawn_89 rfl ?_
          refine x_aload_n F 2 dX4_drawn_90 rfl ?_
          refine x_fget F f_X4_68 hR2.1 (v := .ref (rA m 23)) dX4_drawn_91 rfl ?_
          refine x_iload_n F 0 dX4_drawn_94 rfl ?_
          refine x_mldR F hR2 23 rfl (fun _ _ => rfl) dX4_drawn_95 (by show _ < 96; omega) ?_
          refine x_iconst F ((-1)) dX4_drawn_96 (by decide) ?_
          refine x_icmp_ne F 104 dX4_drawn_97 (by decide) (fun c97 => ?_) (fun c97 => ?_)
          · refine x_iconst F (nI 1) dX4_drawn_104 (by decide) ?_
            refine x_iaddN F dX4_drawn_105 ?_
            refine x_istore_n F [(2, .int (nI ((fb_ct (fun j => decide (¬ (drP σ r p).2.1 23 (12 * r + j) = -1)) i) + 1))), (3, .int (nI (12 * r + i))), (0, .ref (m 0)), (1, .int (nI (r)))] dX4_drawn_106 (by decide) rfl ?_
            refine x_iinc F 1 [(3, .int (nI (12 * r + i + 1))), (2, .int (nI ((fb_ct (fun j => decide (¬ (drP σ r p).2.1 23 (12 * r + j) = -1)) i) + 1))), (0, .ref (m 0)), (1, .int (nI (r)))] dX4_drawn_107 rfl (iincN (12 * r + i) 1) (by decide) rfl ?_
            refine x_goto F 78 dX4_drawn_110 (by decide) ?_
            exact ihi (by omega) _ _ (by simp [fb_ct_succ, c97]) (rfl)
          · refine x_iconst F (nI 0) dX4_drawn_100 (by decide) ?_
            refine x_goto F 105 dX4_drawn_101 (by decide) ?_
            refine x_iaddN F dX4_drawn_105 ?_
            refine x_istore_n F [(2, .int (nI ((fb_ct (fun j => decide (¬ (drP σ r p).2.1 23 (12 * r + j) = -1)) i) + 0))), (3, .int (nI (12 * r + i))), (0, .ref (m 0)), (1, .int (nI (r)))] dX4_drawn_106 (by decide) rfl ?_
            refine x_iinc F 1 [(3, .int (nI (12 * r + i + 1))), (2, .int (nI ((fb_ct (fun j => decide (¬ (drP σ r p).2.1 23 (12 * r + j) = -1)) i) + 0))), (0, .ref (m 0)), (1, .int (nI (r)))] dX4_drawn_107 rfl (iincN (12 * r + i) 1) (by decide) rfl ?_
            refine x_goto F 78 dX4_drawn_110 (by decide) ?_
            exact ihi (by omega) _ _ (by simp [fb_ct_succ, c97]) (rfl)
      exact LP78 0 (by omega) _ _ (rfl) (rfl)
    · have c9 := mt (nI_leI (by omega) (by omega)).mpr c9
      have c9b := Nat.not_le.mp c9
      refine x_iconst F (nI 0) dX4_drawn_12 (by decide) ?_
      refine x_istore_n F [(3, .int (nI (0))), (2, .int (nI (p))), (0, .ref (m 0)), (1, .int (nI (r)))] dX4_drawn_13 (by decide) rfl ?_
      have LP14 : ∀ e, e ≤ (σ.1 17 r) → ∀ (Mi14 : MM), RM g m M0 (drE (drP σ r p) r p e) Mi14 → ∀ (v14_3 : Int32), v14_3 = nI (e) → XW K g 5 Q Mi14 0 0 14 [(3, .int (v14_3)), (2, .int (nI (p))), (0, .ref (m 0)), (1, .int (nI (r)))] [] := by
        refine x_loop ((σ.1 17 r)) _ (fun e he ihe => ?_)
        intro Mi14 hR14 v14_3 e14_3
        subst e14_3
        have hB2 : Bd (drE (drP σ r p) r p e) := Bd_drE hB1 e
        refine x_iload_n F 0 dX4_drawn_14 rfl ?_
        refine x_aload_n F 2 dX4_drawn_15 rfl ?_
        refine x_fget F f_X4_53 hR14.1 (v := .ref (rA m 17)) dX4_drawn_16 rfl ?_
        refine x_iload_n F 3 dX4_drawn_19 rfl ?_
        refine x_mld F hR14 17 rfl (fun _ _ => rfl) dX4_drawn_20 (by show _ < 8; omega) ?_
        refine x_ri0 (y := nI (σ.1 17 (r))) (by rw [drE_N (by decide), drP_N (by decide)]) ?_
        refine x_icmp_ge F 64 dX4_drawn_21 (by decide) (fun c21 => ?_) (fun c21 => ?_)
        · have c21 := (nI_leI (by omega) (by omega)).mp c21
          have c21b := Nat.not_lt.mpr c21
          refine x_iinc F 1 [(2, .int (nI (p + 1))), (3, .int (nI (e))), (0, .ref (m 0)), (1, .int (nI (r)))] dX4_drawn_64 rfl (iincN (p) 1) (by decide) rfl ?_
          refine x_goto F 2 dX4_drawn_67 (by decide) ?_
          refine x_sub [0, 2, 3] rfl (L' := [(2, .int (nI (p + 1))), (0, .ref (m 0)), (1, .int (nI (r)))]) ?_
          exact ihp (by omega) _ (by have h8 : e = σ.1 17 r := (by omega); subst h8; exact hR14) _ (rfl)
        · have c21 := mt (nI_leI (by omega) (by omega)).mpr c21
          have c21b := Nat.not_le.mp c21
          have b2 := hpl e (by omega)
          refine x_aload_n F 2 dX4_drawn_24 rfl ?_
          refine x_fget F f_X4_56 hR14.1 (v := .ref (rA m 19)) dX4_drawn_25 rfl ?_
          refine x_iload_n F 3 dX4_drawn_28 rfl ?_
          refine x_iload_n F 0 dX4_drawn_29 rfl ?_
          refine x_callS F s_X4_118 rfl (c_X4_at F.nt ) rfl dX4_drawn_30 (by decide) (by decide) (Nat.le_of_ble_eq_true rfl) x_noX (ki fun r_3 M2_3 hp_3 => ?_)
          obtain ⟨rfl, rfl⟩ := hp_3
          refine x_mld F hR14 19 rfl (fun _ _ => rfl) dX4_drawn_33 (by show _ < 96; omega) ?_
          refine x_ri0 (y := nI (σ.1 19 (12 * r + e))) (by rw [drE_N (by decide), drP_N (by decide)]) ?_
          refine x_istore F [(4, .int (nI (σ.1 19 (12 * r + e)))), (3, .int (nI (e))), (2, .int (nI (p))), (0, .ref (m 0)), (1, .int (nI (r)))] dX4_drawn_34 (by decide) rfl ?_
          refine x_aload_n F 3 dX4_drawn_36 rfl ?_
          refine x_fget F f_X4_65 hR14.1 (v := .ref (rA m 22)) dX4_drawn_37 rfl ?_
          refine x_iload_n F 4 dX4_drawn_40 rfl ?_
          refine x_iload F 0 dX4_drawn_41 rfl ?_
          refine x_callS F s_X4_118 rfl (c_X4_at F.nt ) rfl dX4_drawn_43 (by decide) (by decide) (Nat.le_of_ble_eq_true rfl) x_noX (ki fun r_4 M2_4 hp_4 => ?_)
          obtain ⟨rfl, rfl⟩ := hp_4
          refine x_mldR F hR14 22 rfl (fun _ _ => rfl) dX4_drawn_46 (by show _ < 96; omega) ?_
          refine x_ri0 (y := σ.2.1 22 (12 * r + (σ.1 19 (12 * r + e)))) (by rw [drE_R (by decide), drP_R (by decide)]) ?_
          refine x_iload_n F 2 dX4_drawn_47 rfl ?_
          refine x_icmp_ne F 58 dX4_drawn_48 (by decide) (fun c48 => ?_) (fun c48 => ?_)
          · have d48 := c48
            refine x_iinc F 1 [(3, .int (nI (e + 1))), (4, .int (nI (σ.1 19 (12 * r + e)))), (2, .int (nI (p))), (0, .ref (m 0)), (1, .int (nI (r)))] dX4_drawn_58 rfl (iincN (e) 1) (by decide) rfl ?_
            refine x_goto F 14 dX4_drawn_61 (by decide) ?_
            refine x_sub [0, 2, 3, 4] rfl (L' := [(3, .int (nI (e + 1))), (2, .int (nI (p))), (0, .ref (m 0)), (1, .int (nI (r)))]) ?_
            exact ihe (by omega) _ (by first | (rw [drE_t (by rw [drP_N (by decide), drP_R (by decide)]; exact d48)]; rw [drP_N (by decide)]; exact hR14) | (rw [drE_f (by rw [drP_N (by decide), drP_R (by decide)]; exact d48)]; exact hR14)) _ (rfl)
          · have d48 := c48
            refine x_aload_n F 3 dX4_drawn_51 rfl ?_
            refine x_iload_n F 4 dX4_drawn_52 rfl ?_
            refine x_iload F 0 dX4_drawn_53 rfl ?_
            refine x_callV F s_X4_168 hR14.1 rfl rfl (c_X4_drawsFor F.nt hR14 hB2 (by omega) (by omega) (by rw [drE_R (by decide), drP_R (by decide), d48]; exact nI_m1 (by omega))) rfl dX4_drawn_55 (by decide) (by decide) (Nat.le_of_ble_eq_true rfl) x_noX (kv fun  M2_5 hp_5 => ?_)
            have hRd := hp_5
            refine x_iinc F 1 [(3, .int (nI (e + 1))), (4, .int (nI (σ.1 19 (12 * r + e)))), (2, .int (nI (p))), (0, .ref (m 0)), (1, .int (nI (r)))] dX4_drawn_58 rfl (iincN (e) 1) (by decide) rfl ?_
            refine x_goto F 14 dX4_drawn_61 (by decide) ?_
            refine x_sub [0, 2, 3, 4] rfl (L' := [(3, .int (nI (e + 1))), (2, .int (nI (p))), (0, .ref (m 0)), (1, .int (nI (r)))]) ?_
            exact ihe (by omega) _ (by first | (rw [drE_t (by rw [drP_N (by decide), drP_R (by decide)]; exact d48)]; rw [drP_N (by decide)]; exact hRd) | (rw [drE_f (by rw [drP_N (by decide), drP_R (by decide)]; exact d48)]; exact hRd)) _ (rfl)
      exact LP14 0 (by omega) _ hR2 _ (rfl)
  exact LP2 0 (by omega) _ hR _ (rfl)
set_option maxHeartbeats 4000000 in
set_option maxRecDepth 100000 in
theorem c_X4_draw {l : Launch} (hl : l.stackTraces = false) {g : GP} {M : MM} {m : Nat → Nat} {M0 : MM} {σ : ST} {x0 : Int32} (hR : RM g m M0 σ M) (hB : Bd σ) (hw : ∀ r k, r < σ.1 18 0 → k < σ.1 17 r → σ.1 19 (12 * r + k) < 12) : CT l g yX4_draw cX4_draw 3 (some .int) 4 98 0 0 [.ref (m 0), .int (x0)] M (pI (fun r9 M9 => RM g m M0 (if cdSt σ x0 1 = 0 then drnU (uN σ 0 0 (cdSt σ x0 1)) (cl x0) else uN σ 0 0 (cdSt σ x0 1)) M9 ∧ (cdSt σ x0 1 = 0 → r9 = nI (beaN (drnU (uN σ 0 0 (cdSt σ x0 1)) (cl x0)) (cl x0))))) nX := by
  refine ct_of [(0, .ref (m 0)), (1, .int (x0))] (by decide) hl (Nat.le_of_ble_eq_true rfl) rfl ?_
  intro K hK F
  subst hK
  have F : Fx K g cX4_draw RX4 3 (some .int) [] 4 98 0 0 := F
  obtain ⟨Q, hQ⟩ : ∃ Q, Q = MQx K g (pI (fun r9 M9 => RM g m M0 (if cdSt σ x0 1 = 0 then drnU (uN σ 0 0 (cdSt σ x0 1)) (cl x0) else uN σ 0 0 (cdSt σ x0 1)) M9 ∧ (cdSt σ x0 1 = 0 → r9 = nI (beaN (drnU (uN σ 0 0 (cdSt σ x0 1)) (cl x0)) (cl x0))))) nX 0 0 := ⟨_, rfl⟩
  rw [← hQ]
  have hB9 := hB
  obtain ⟨h6, h7, h18, hr8, hk96, hp96, hb16, hh⟩ := hB9
  refine x_aload_n F 0 dX4_draw_0 rfl ?_
  refine x_iload_n F 1 dX4_draw_1 rfl ?_
  refine x_callV F s_X4_129 hR.1 rfl rfl (c_X4_isRodeo F.nt hR (by omega)) rfl dX4_draw_2 (by decide) (by decide) (Nat.le_of_ble_eq_true rfl) x_noX (ki fun r M2 hp => ?_)
  obtain ⟨rfl, rfl⟩ := hp
  refine x_istore_n F [(2, .int (nI (bz (inN x0 (σ.1 18 0))))), (0, .ref (m 0)), (1, .int (x0))] dX4_draw_5 (by decide) rfl ?_
  refine x_aload_n F 1 dX4_draw_6 rfl ?_
  have J30 : ∀ (vj : Int32), vj = nI (cdSt σ x0 1) → XW K g 3 Q M 0 0 30 [(2, .int (nI (bz (inN x0 (σ.1 18 0))))), (0, .ref (m 0)), (1, .int (x0))] [.int (vj), .ref (m 0)] := by
    intro vj ej30_vj
    subst ej30_vj
    refine x_callV F s_X4_113 hR.1 rfl rfl (c_X4_holds F.nt hR (lt_cdSt)) rfl dX4_draw_30 (by decide) (by decide) (Nat.le_of_ble_eq_true rfl) x_noX (ki fun r_2 M2_2 hp_2 => ?_)
    obtain ⟨rfl, hR0⟩ := hp_2
    obtain ⟨σ0, eσ0⟩ : ∃ z, z = uN σ 0 0 ((cdSt σ x0 1)) := ⟨_, rfl⟩
    rw [← eσ0] at hR0
    have hBσ0 : Bd σ0 := eσ0 ▸ Bd_u0 hB
    refine x_if_eq F 44 dX4_draw_33 (by decide) (fun c33 => ?_) (fun c33 => ?_)
    · have c33 := nI_bz0.mp c33
      have c33 := of_decide_eq_false c33
      refine x_iconst F (nI 0) dX4_draw_44 (by decide) ?_
      rw [hQ]
      exact x_iret F dX4_draw_45 (by decide) ⟨_, rfl, by first | (rw [if_pos c33, ← eσ0, cl_nI (by omega)]; exact hR0) | (rw [if_neg c33, ← eσ0]; exact hR0), fun h9 => by first | exact absurd h9 c33 | (rw [← eσ0, cl_nI (by omega)])⟩
    · have c33 := nI_bz1.mp c33
      have c33 := of_decide_eq_true c33
      obtain ⟨r, hr, rfl⟩ := inN_t (n := σ.1 18 0) (by omega) (show inN x0 (σ.1 18 0) = true by (unfold cdSt at c33; by_cases z : inN x0 (σ.1 18 0) = true; exact z; simp [z] at c33))
      refine x_aload_n F 1 dX4_draw_36 rfl ?_
      refine x_iload_n F 2 dX4_draw_37 rfl ?_
      refine x_callV F s_X4_171 hR0.1 rfl rfl (c_X4_drawn F.nt hR0 hBσ0 (by omega) (fun k hk => by (rw [eσ0] at hk ⊢; exact hw r k hr hk))) rfl dX4_draw_38 (by decide) (by decide) (Nat.le_of_ble_eq_true rfl) x_noX (ki fun r9 M9 hp9 => ?_)
      obtain ⟨hR9, rfl⟩ := hp9
      refine x_goto F 45 dX4_draw_41 (by decide) ?_
      rw [hQ]
      exact x_iret F dX4_draw_45 (by decide) ⟨_, rfl, by first | (rw [if_pos c33, ← eσ0, cl_nI (by omega)]; exact hR9) | (rw [if_neg c33, ← eσ0]; exact hR9), fun h9 => by first | exact absurd h9 c33 | (rw [← eσ0, cl_nI (by omega)])⟩
  refine x_iload_n F 0 dX4_draw_7 rfl ?_
  refine x_if_ne F 15 dX4_draw_8 (by decide) (fun c8 => ?_) (fun c8 => ?_)
  · have c8 := nI_bz1.mp c8
    obtain ⟨c9, c10⟩ := inN_cl (by omega) c8
    refine x_aload_n F 1 dX4_draw_15 rfl ?_
    refine x_fget F f_X4_47 hR.1 (v := .ref (rA m 15)) dX4_draw_16 rfl ?_
    refine x_iload_n F 2 dX4_draw_19 rfl ?_
    refine x_ri0 (y := nI (cl x0)) (c10) ?_
    refine x_mld F hR 15 rfl (fun _ _ => rfl) dX4_draw_20 (by show _ < 8; omega) ?_
    refine x_iconst F (nI 1) dX4_draw_21 (by decide) ?_
    refine x_icmp_eq F 29 dX4_draw_22 (by decide) (fun c22 => ?_) (fun c22 => ?_)
    · have c22 := (nI_eq (by have := (hr8 (cl x0) (by omega)).2.2.2.2.2.2.1; omega) (by omega)).mp c22
      refine x_iconst F (nI 0) dX4_draw_29 (by decide) ?_
      exact J30 _ (by (try clear c10); simp [cdSt, *])
    · have c22 := mt (nI_eq (by have := (hr8 (cl x0) (by omega)).2.2.2.2.2.2.1; omega) (by omega)).mpr c22
      refine x_iconst F (nI 2) dX4_draw_25 (by decide) ?_
      refine x_goto F 30 dX4_draw_26 (by decide) ?_
      exact J30 _ (by (try clear c10); simp [cdSt, *])
  · have c8 := nI_bz0.mp c8
    refine x_iconst F (nI 1) dX4_draw_11 (by decide) ?_
    refine x_goto F 30 dX4_draw_12 (by decide) ?_
    exact J30 _ (by (try clear c10); simp [cdSt, *])
set_option maxHeartbeats 4000000 in
set_option maxRecDepth 100000 in
theorem c_X4_rides {l : Launch} (hl : l.stackTraces = false) {g : GP} {M : MM} {m : Nat → Nat} {M0 : MM} {σ : ST} {k b mk w : Nat} {f : Bool} (hR : RM g m M0 σ M) (hB : Bd σ) (hk : k < 96) (hbe : σ.2.1 23 k = nI b) (hb : b < 16) (hmk : mk ≤ 456975) (hw : w ≤ 999999) (ht : σ.1 2 b < 1000000) : CT l g yX4_rides cX4_rides 9 (some .int) 0 0 0 0 [.ref (m 0), .int (nI (k)), .int (nI (mk)), .int (nI (w)), .int (nI (bz f))] M (pI (fun r9 M9 => RM g m M0 (ridU σ k b mk w f) M9 ∧ r9 = (ridU σ k b mk w f).2.1 28 k)) nX := by
  refine ct_of [(0, .ref (m 0)), (1, .int (nI (k))), (2, .int (nI (mk))), (3, .int (nI (w))), (4, .int (nI (bz f)))] (by decide) hl (Nat.le_of_ble_eq_true rfl) rfl ?_
  intro K hK F
  subst hK
  have F : Fx K g cX4_rides RX4 9 (some .int) [] 0 0 0 0 := F
  obtain ⟨Q, hQ⟩ : ∃ Q, Q = MQx K g (pI (fun r9 M9 => RM g m M0 (ridU σ k b mk w f) M9 ∧ r9 = (ridU σ k b mk w f).2.1 28 k)) nX 0 0 := ⟨_, rfl⟩
  rw [← hQ]
  have hB9 := hB
  obtain ⟨h6, h7, h18, hr8, hk96, hp96, hb16, hh⟩ := hB9
  have b1 := hb16 b hb
  have b2 := hk96 k hk
  refine x_aload_n F 0 dX4_rides_0 rfl ?_
  refine x_fget F f_X4_68 hR.1 (v := .ref (rA m 23)) dX4_rides_1 rfl ?_
  refine x_iload_n F 1 dX4_rides_4 rfl ?_
  refine x_mldR F hR 23 rfl (fun _ _ => rfl) dX4_rides_5 (by show _ < 96; omega) ?_
  refine x_ri0 (y := nI (b)) (hbe) ?_
  refine x_istore F [(5, .int (nI (b))), (0, .ref (m 0)), (1, .int (nI (k))), (2, .int (nI (mk))), (3, .int (nI (w))), (4, .int (nI (bz f)))] dX4_rides_6 (by decide) rfl ?_
  refine x_iload_n F 3 dX4_rides_8 rfl ?_
  refine x_bipush F (nI 26) dX4_rides_9 (by decide) ?_
  refine x_iremN F dX4_rides_11 (by omega) (by omega) (by omega) ?_
  refine x_iload_n F 3 dX4_rides_12 rfl ?_
  refine x_bipush F (nI 26) dX4_rides_13 (by decide) ?_
  refine x_idivN F dX4_rides_15 (by omega) (by omega) (by omega) ?_
  refine x_bipush F (nI 26) dX4_rides_16 (by decide) ?_
  refine x_iremN F dX4_rides_18 (by omega) (by omega) (by omega) ?_
  refine x_iaddN F dX4_rides_19 ?_
  refine x_iload_n F 3 dX4_rides_20 rfl ?_
  refine x_sipush F (nI 676) dX4_rides_21 (by decide) ?_
  refine x_idivN F dX4_rides_24 (by omega) (by omega) (by omega) ?_
  refine x_bipush F (nI 26) dX4_rides_25 (by decide) ?_
  refine x_iremN F dX4_rides_27 (by omega) (by omega) (by omega) ?_
  refine x_iaddN F dX4_rides_28 ?_
  refine x_iload_n F 3 dX4_rides_29 rfl ?_
  refine x_sipush F (nI 17576) dX4_rides_30 (by decide) ?_
  refine x_idivN F dX4_rides_33 (by omega) (by omega) (by omega) ?_
  refine x_iaddN F dX4_rides_34 ?_
  refine x_ri0 (y := nI (mkA mk)) (rfl) ?_
  refine x_istore F [(6, .int (nI (mkA mk))), (5, .int (nI (b))), (0, .ref (m 0)), (1, .int (nI (k))), (2, .int (nI (mk))), (3, .int (nI (w))), (4, .int (nI (bz f)))] dX4_rides_35 (by decide) rfl ?_
  refine x_iload_n F 4 dX4_rides_37 rfl ?_
  refine x_bipush F (nI 26) dX4_rides_38 (by decide) ?_
  refine x_idivN F dX4_rides_40 (by omega) (by omega) (by omega) ?_
  refine x_bipush F (nI 26) dX4_rides_41 (by decide) ?_
  refine x_iremN F dX4_rides_43 (by omega) (by omega) (by omega) ?_
  refine x_iload_n F 4 dX4_rides_44 rfl ?_
  refine x_sipush F (nI 17576) dX4_rides_45 (by decide) ?_
  refine x_idivN F dX4_rides_48 (by omega) (by omega) (by omega) ?_
  refine x_iaddN F dX4_rides_49 ?_
  refine x_ri0 (y := nI (mkB mk)) (rfl) ?_
  refine x_istore F [(7, .int (nI (mkB mk))), (6, .int (nI (mkA mk))), (5, .int (nI (b))), (0, .ref (m 0)), (1, .int (nI (k))), (2, .int (nI (mk))), (3, .int (nI (w))), (4, .int (nI (bz f)))] dX4_rides_50 (by decide) rfl ?_
  have J79 : ∀ (vj : Int32), vj = nI (bz (rcS w f)) → XW K g 9 Q M 0 0 79 [(7, .int (nI (mkB mk))), (6, .int (nI (mkA mk))), (5, .int (nI (b))), (0, .ref (m 0)), (1, .int (nI (k))), (2, .int (nI (mk))), (3, .int (nI (w))), (4, .int (nI (bz f)))] [.int (vj)] := by
    intro vj ej79_vj
    subst ej79_vj
    refine x_istore F [(8, .int (nI (bz (rcS w f)))), (7, .int (nI (mkB mk))), (6, .int (nI (mkA mk))), (5, .int (nI (b))), (0, .ref (m 0)), (1, .int (nI (k))), (2, .int (nI (mk))), (3, .int (nI (w))), (4, .int (nI (bz f)))] dX4_rides_79 (by decide) rfl ?_
    refine x_aload_n F 4 dX4_rides_81 rfl ?_
    refine x_fget F f_X4_13 hR.1 (v := .ref (rA m 2)) dX4_rides_82 rfl ?_
    refine x_iload F 3 dX4_rides_85 rfl ?_
    refine x_dup2 F dX4_rides_87 rfl rfl ?_
    refine x_mld F hR 2 rfl (fun _ _ => rfl) dX4_rides_88 (by show _ < 16; omega) ?_
    refine x_iconst F (nI 1) dX4_rides_89 (by decide) ?_
    refine x_iaddN F dX4_rides_90 ?_
    refine x_ri0 (y := nI (σ.1 2 b + 1)) (rfl) ?_
    refine x_mst F hR 2 rfl (fun _ _ => rfl) dX4_rides_91 (by show _ < 16; omega) (fun M1 hR1 => ?_)
    refine x_aload_n F 4 dX4_rides_92 rfl ?_
    refine x_fget F f_X4_16 hR1.1 (v := .ref (rA m 3)) dX4_rides_93 rfl ?_
    refine x_iload F 3 dX4_rides_96 rfl ?_
    refine x_dup2 F dX4_rides_98 rfl rfl ?_
    refine x_mld F hR1 3 rfl (fun _ _ => rfl) dX4_rides_99 (by show _ < 16; omega) ?_
    refine x_ri0 (y := nI (σ.1 3 b)) (rfl) ?_
    have J110 : ∀ (vj2 : Int32), vj2 = nI ((if rcS w f then 0 else 1)) → XW K g 9 Q M1 0 0 110 [(8, .int (nI (bz (rcS w f)))), (7, .int (nI (mkB mk))), (6, .int (nI (mkA mk))), (5, .int (nI (b))), (0, .ref (m 0)), (1, .int (nI (k))), (2, .int (nI (mk))), (3, .int (nI (w))), (4, .int (nI (bz f)))] [.int (vj2), .int (nI (σ.1 3 b)), .int (nI (b)), .ref (rA m 3)] := by
      intro vj2 ej110_vj2
      subst ej110_vj2
      refine x_iaddN F dX4_rides_110 ?_
      refine x_ri0 (y := nI (σ.1 3 b + (if rcS w f then 0 else 1))) (rfl) ?_
      refine x_mst F hR1 3 rfl (fun _ _ => rfl) dX4_rides_111 (by show _ < 16; omega) (fun M1_2 hR1_2 => ?_)
      refine x_aload_n F 4 dX4_rides_112 rfl ?_
      refine x_fget F f_X4_19 hR1_2.1 (v := .ref (rA m 4)) dX4_rides_113 rfl ?_
      refine x_iload F 3 dX4_rides_116 rfl ?_
      refine x_dup2 F dX4_rides_118 rfl rfl ?_
      refine x_mld F hR1_2 4 rfl (fun _ _ => rfl) dX4_rides_119 (by show _ < 16; omega) ?_
      refine x_ri0 (y := nI (σ.1 4 b)) (rfl) ?_
      refine x_iload F 1 dX4_rides_120 rfl ?_
      refine x_iaddN F dX4_rides_122 ?_
      refine x_ri0 (y := nI (σ.1 4 b + mkB mk)) (rfl) ?_
      refine x_mst F hR1_2 4 rfl (fun _ _ => rfl) dX4_rides_123 (by show _ < 16; omega) (fun M1_3 hR1_3 => ?_)
      refine x_aload_n F 4 dX4_rides_124 rfl ?_
      refine x_fget F f_X4_71 hR1_3.1 (v := .ref (rA m 24)) dX4_rides_125 rfl ?_
      refine x_iload_n F 5 dX4_rides_128 rfl ?_
      refine x_iconst F (nI 0) dX4_rides_129 (by decide) ?_
      refine x_mstZ F hR1_3 24 rfl (fun _ _ => rfl) dX4_rides_130 (by show _ < 96; omega) (by omega) (fun M1_4 hR1_4 => ?_)
      refine x_aload_n F 4 dX4_rides_131 rfl ?_
      refine x_fget F f_X4_81 hR1_4.1 (v := .ref (rA m 27)) dX4_rides_132 rfl ?_
      refine x_iload_n F 5 dX4_rides_135 rfl ?_
      refine x_iload F 0 dX4_rides_136 rfl ?_
      refine x_mstZ F hR1_4 27 rfl (fun _ _ => rfl) dX4_rides_138 (by show _ < 96; omega) (bz_le _) (fun M1_5 hR1_5 => ?_)
      refine x_aload_n F 4 dX4_rides_139 rfl ?_
      refine x_fget F f_X4_84 hR1_5.1 (v := .ref (rA m 28)) dX4_rides_140 rfl ?_
      refine x_iload_n F 5 dX4_rides_143 rfl ?_
      have J155 : ∀ (vj3 : Int32), vj3 = (if rcS w f then nI (mkA mk) else nI 0) → XW K g 9 Q M1_5 0 0 155 [(8, .int (nI (bz (rcS w f)))), (7, .int (nI (mkB mk))), (6, .int (nI (mkA mk))), (5, .int (nI (b))), (0, .ref (m 0)), (1, .int (nI (k))), (2, .int (nI (mk))), (3, .int (nI (w))), (4, .int (nI (bz f)))] [.int (vj3), .int (nI (k)), .ref (rA m 28)] := by
        intro vj3 ej155_vj3
        subst ej155_vj3
        refine x_mstR F hR1_5 28 rfl (fun _ _ => rfl) dX4_rides_155 (by show _ < 96; omega) (fun M1_6 hR1_6 => ?_)
        refine x_aload_n F 4 dX4_rides_156 rfl ?_
        refine x_fget F f_X4_78 hR1_6.1 (v := .ref (rA m 26)) dX4_rides_157 rfl ?_
        refine x_iload_n F 5 dX4_rides_160 rfl ?_
        have J187 : ∀ (vj4 : Int32), vj4 = nI (bz (rcS w f && decide (mkB mk < 20) && decide (σ.1 25 k = 0))) → XW K g 9 Q M1_6 0 0 187 [(8, .int (nI (bz (rcS w f)))), (7, .int (nI (mkB mk))), (6, .int (nI (mkA mk))), (5, .int (nI (b))), (0, .ref (m 0)), (1, .int (nI (k))), (2, .int (nI (mk))), (3, .int (nI (w))), (4, .int (nI (bz f)))] [.int (vj4), .int (nI (k)), .ref (rA m 26)] := by
          intro vj4 ej187_vj4
          subst ej187_vj4
          refine x_mstZ F hR1_6 26 rfl (fun _ _ => rfl) dX4_rides_187 (by show _ < 96; omega) (bz_le _) (fun M1_7 hR1_7 => ?_)
          refine x_aload_n F 4 dX4_rides_188 rfl ?_
          refine x_fget F f_X4_84 hR1_7.1 (v := .ref (rA m 28)) dX4_rides_189 rfl ?_
          refine x_iload_n F 5 dX4_rides_192 rfl ?_
          refine x_mldR F hR1_7 28 rfl (fun _ _ => rfl) dX4_rides_193 (by show _ < 96; omega) ?_
          rw [hQ]
          exact x_iret F dX4_rides_194 (by decide) ⟨_, rfl, hR1_7, rfl⟩
        refine x_iload F 0 dX4_rides_161 rfl ?_
        refine x_if_eq F 186 dX4_rides_163 (by decide) (fun c163 => ?_) (fun c163 => ?_)
        · have c163 := nI_bz0.mp c163
          refine x_iconst F (nI 0) dX4_rides_186 (by decide) ?_
          exact J187 _ (by simp [bz, *])
        · have c163 := nI_bz1.mp c163
          refine x_iload F 1 dX4_rides_166 rfl ?_
          refine x_bipush F (nI 20) dX4_rides_168 (by decide) ?_
          refine x_icmp_ge F 186 dX4_rides_170 (by decide) (fun c170 => ?_) (fun c170 => ?_)
          · have c170 := (nI_leI (by omega) (by unfold mkB; omega)).mp c170
            have c170b := Nat.not_lt.mpr c170
            refine x_iconst F (nI 0) dX4_rides_186 (by decide) ?_
            exact J187 _ (by simp [bz, *])
          · have c170 := mt (nI_leI (by omega) (by unfold mkB; omega)).mpr c170
            have c170b := Nat.not_le.mp c170
            refine x_aload_n F 4 dX4_rides_173 rfl ?_
            refine x_fget F f_X4_75 hR1_6.1 (v := .ref (rA m 25)) dX4_rides_174 rfl ?_
            refine x_iload_n F 5 dX4_rides_177 rfl ?_
            refine x_mldZ F hR1_6 25 rfl (fun _ _ => rfl) dX4_rides_178 (by show _ < 96; omega) ?_
            refine x_ri0 (y := nI (σ.1 25 k)) (rfl) ?_
            refine x_if_ne F 186 dX4_rides_179 (by decide) (fun c179 => ?_) (fun c179 => ?_)
            · have c179 := mt (nI_z (by omega)).mpr c179
              refine x_iconst F (nI 0) dX4_rides_186 (by decide) ?_
              exact J187 _ (by simp [bz, *])
            · have c179 := (nI_z (by omega)).mp c179
              refine x_iconst F (nI 1) dX4_rides_182 (by decide) ?_
              refine x_goto F 187 dX4_rides_183 (by decide) ?_
              exact J187 _ (by simp [bz, *])
      refine x_iload F 0 dX4_rides_144 rfl ?_
      refine x_if_eq F 154 dX4_rides_146 (by decide) (fun c146 => ?_) (fun c146 => ?_)
      · have c146 := nI_bz0.mp c146
        refine x_iconst F (nI 0) dX4_rides_154 (by decide) ?_
        exact J155 _ (by simp [*])
      · have c146 := nI_bz1.mp c146
        refine x_iload F 2 dX4_rides_149 rfl ?_
        refine x_goto F 155 dX4_rides_151 (by decide) ?_
        exact J155 _ (by simp [*])
    refine x_iload F 0 dX4_rides_100 rfl ?_
    refine x_if_eq F 109 dX4_rides_102 (by decide) (fun c102 => ?_) (fun c102 => ?_)
    · have c102 := nI_bz0.mp c102
      refine x_iconst F (nI 1) dX4_rides_109 (by decide) ?_
      exact J110 _ (by simp [*])
    · have c102 := nI_bz1.mp c102
      refine x_iconst F (nI 0) dX4_rides_105 (by decide) ?_
      refine x_goto F 110 dX4_rides_106 (by decide) ?_
      exact J110 _ (by simp [*])
  refine x_iload F 7 dX4_rides_52 rfl ?_
  refine x_if_ne F 78 dX4_rides_54 (by decide) (fun c54 => ?_) (fun c54 => ?_)
  · have c54 := nI_bz1.mp c54
    refine x_iconst F (nI 0) dX4_rides_78 (by decide) ?_
    exact J79 _ (by simp [rcS, bz, *])
  · have c54 := nI_bz0.mp c54
    refine x_iload_n F 6 dX4_rides_57 rfl ?_
    refine x_sipush F (nI 1000) dX4_rides_58 (by decide) ?_
    refine x_idivN F dX4_rides_61 (by omega) (by omega) (by omega) ?_
    refine x_iload_n F 6 dX4_rides_62 rfl ?_
    refine x_sipush F (nI 1000) dX4_rides_63 (by decide) ?_
    refine x_iremN F dX4_rides_66 (by omega) (by omega) (by omega) ?_
    refine x_iaddN F dX4_rides_67 ?_
    refine x_sipush F (nI 1600) dX4_rides_68 (by decide) ?_
    refine x_icmp_lt F 78 dX4_rides_71 (by decide) (fun c71 => ?_) (fun c71 => ?_)
    · have c71 := (nI_ltI (by omega) (by omega)).mp c71
      have c71b := Nat.not_le.mpr c71
      refine x_iconst F (nI 0) dX4_rides_78 (by decide) ?_
      exact J79 _ (by simp [rcS, bz, *])
    · have c71 := mt (nI_ltI (by omega) (by omega)).mpr c71
      have c71b := Nat.not_lt.mp c71
      refine x_iconst F (nI 1) dX4_rides_74 (by decide) ?_
      refine x_goto F 79 dX4_rides_75 (by decide) ?_
      exact J79 _ (by simp [rcS, bz, *])
