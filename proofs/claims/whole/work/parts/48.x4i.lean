set_option maxHeartbeats 4000000 in
set_option maxRecDepth 100000 in
theorem c_X4_pays {l : Launch} (hl : l.stackTraces = false) {g : GP} {M : MM} {m : Nat → Nat} {M0 : MM} {σ : ST} {r : Nat} (hR : RM g m M0 σ M) (hB : Bd σ) (hr : r < 8) : CT l g yX4_pays cX4_pays 9 (some .int) 3 65 0 0 [.ref (m 0), .int (nI (r))] M (pI (fun r9 M9 => RM g m M0 (payU σ r) M9 ∧ r9 = nI (couN σ r))) nX := by
  refine ct_of [(0, .ref (m 0)), (1, .int (nI (r)))] (by decide) hl (Nat.le_of_ble_eq_true rfl) rfl ?_
  intro K hK F
  subst hK
  have F : Fx K g cX4_pays RX4 9 (some .int) [] 3 65 0 0 := F
  obtain ⟨Q, hQ⟩ : ∃ Q, Q = MQx K g (pI (fun r9 M9 => RM g m M0 (payU σ r) M9 ∧ r9 = nI (couN σ r))) nX 0 0 := ⟨_, rfl⟩
  rw [← hQ]
  have hB9 := hB
  obtain ⟨h6, h7, h18, hr8, hk96, hp96, hb16, hh⟩ := hB9
  have b1 := hr8 r hr
  have hpot := potS_le hB hr
  refine x_aload_n F 0 dX4_pays_0 rfl ?_
  refine x_iload_n F 1 dX4_pays_1 rfl ?_
  refine x_callV F s_X4_126 hR.1 rfl rfl (c_X4_pot F.nt hR (by omega) (by omega)) rfl dX4_pays_2 (by decide) (by decide) (Nat.le_of_ble_eq_true rfl) x_noX (ki fun r M2 hp => ?_)
  obtain ⟨rfl, rfl⟩ := hp
  refine x_istore_n F [(2, .int (nI (potS σ r))), (0, .ref (m 0)), (1, .int (nI (r)))] dX4_pays_5 (by decide) rfl ?_
  refine x_iconst F (nI 0) dX4_pays_6 (by decide) ?_
  refine x_istore_n F [(3, .int (nI (0))), (2, .int (nI (potS σ r))), (0, .ref (m 0)), (1, .int (nI (r)))] dX4_pays_7 (by decide) rfl ?_
  refine x_iload_n F 3 dX4_pays_8 rfl ?_
  refine x_iconst F (nI 0) dX4_pays_9 (by decide) ?_
  refine x_callS F s_X4_118 rfl (c_X4_at F.nt ) rfl dX4_pays_10 (by decide) (by decide) (Nat.le_of_ble_eq_true rfl) x_noX (ki fun r_2 M2_2 hp_2 => ?_)
  obtain ⟨rfl, rfl⟩ := hp_2
  refine x_istore F [(4, .int (nI (12 * r + 0))), (3, .int (nI (0))), (2, .int (nI (potS σ r))), (0, .ref (m 0)), (1, .int (nI (r)))] dX4_pays_13 (by decide) rfl ?_
  have LP15 : ∀ i, i ≤ 12 → ∀ (v15_3 : Int32) (v15_4 : Int32), v15_3 = nI (fb_ct (fun j => decide (¬ σ.1 27 (12 * r + j) = 0)) i) → v15_4 = nI (12 * r + i) → XW K g 9 Q M 0 0 15 [(4, .int (v15_4)), (3, .int (v15_3)), (2, .int (nI (potS σ r))), (0, .ref (m 0)), (1, .int (nI (r)))] [] := by
    refine x_loop 12 _ (fun i hi ihi => ?_)
    intro v15_3 v15_4 e15_3 e15_4
    subst e15_3
    subst e15_4
    refine x_iload F 0 dX4_pays_15 rfl ?_
    refine x_iload_n F 4 dX4_pays_17 rfl ?_
    refine x_iconst F (nI 1) dX4_pays_18 (by decide) ?_
    refine x_iaddN F dX4_pays_19 ?_
    refine x_iconst F (nI 0) dX4_pays_20 (by decide) ?_
    refine x_callS F s_X4_118 rfl (c_X4_at F.nt ) rfl dX4_pays_21 (by decide) (by decide) (Nat.le_of_ble_eq_true rfl) x_noX (ki fun r_3 M2_3 hp_3 => ?_)
    obtain ⟨rfl, rfl⟩ := hp_3
    refine x_icmp_ge F 51 dX4_pays_24 (by decide) (fun c24 => ?_) (fun c24 => ?_)
    · have c24 := (nI_leI (by omega) (by omega)).mp c24
      have c24b := Nat.not_lt.mpr c24
      refine x_sub [1, 2, 3, 4] rfl (L' := [(3, .int (nI (fb_ct (fun j => decide (¬ σ.1 27 (12 * r + j) = 0)) i))), (2, .int (nI (potS σ r))), (0, .ref (m 0)), (1, .int (nI (r)))]) ?_
      have h9 : i = 12 := by omega
      subst h9
      refine x_sub [0, 1, 2, 3] rfl (L' := [(3, .int (nI (couN σ r))), (2, .int (nI (potS σ r))), (0, .ref (m 0)), (1, .int (nI (r)))]) ?_
      have hcn : couN σ r ≤ 12 := fb_ct_le _ _
      refine x_iload_n F 1 dX4_pays_51 rfl ?_
      refine x_istore F [(4, .int (nI (potS σ r))), (3, .int (nI (couN σ r))), (2, .int (nI (potS σ r))), (0, .ref (m 0)), (1, .int (nI (r)))] dX4_pays_52 (by decide) rfl ?_
      refine x_iload_n F 4 dX4_pays_54 rfl ?_
      refine x_iconst F (nI 0) dX4_pays_55 (by decide) ?_
      refine x_callS F s_X4_118 rfl (c_X4_at F.nt ) rfl dX4_pays_56 (by decide) (by decide) (Nat.le_of_ble_eq_true rfl) x_noX (ki fun r_4 M2_4 hp_4 => ?_)
      obtain ⟨rfl, rfl⟩ := hp_4
      refine x_istore F [(5, .int (nI (12 * r + 0))), (4, .int (nI (potS σ r))), (3, .int (nI (couN σ r))), (2, .int (nI (potS σ r))), (0, .ref (m 0)), (1, .int (nI (r)))] dX4_pays_59 (by decide) rfl ?_
      have LP61 : ∀ j, j ≤ 12 → ∀ (Mi61 : MM), RM g m M0 (gotU σ r j) Mi61 → ∀ (v61_4 : Int32) (v61_5 : Int32), v61_4 = lefS σ r j → v61_5 = nI (12 * r + j) → XW K g 9 Q Mi61 0 0 61 [(5, .int (v61_5)), (4, .int (v61_4)), (3, .int (nI (couN σ r))), (2, .int (nI (potS σ r))), (0, .ref (m 0)), (1, .int (nI (r)))] [] := by
        refine x_loop 12 _ (fun j hj ihj => ?_)
        intro Mi61 hR61 v61_4 v61_5 e61_4 e61_5
        subst e61_4
        subst e61_5
        refine x_iload F 0 dX4_pays_61 rfl ?_
        refine x_iload_n F 5 dX4_pays_63 rfl ?_
        refine x_iconst F (nI 1) dX4_pays_64 (by decide) ?_
        refine x_iaddN F dX4_pays_65 ?_
        refine x_iconst F (nI 0) dX4_pays_66 (by decide) ?_
        refine x_callS F s_X4_118 rfl (c_X4_at F.nt ) rfl dX4_pays_67 (by decide) (by decide) (Nat.le_of_ble_eq_true rfl) x_noX (ki fun r_5 M2_5 hp_5 => ?_)
        obtain ⟨rfl, rfl⟩ := hp_5
        refine x_icmp_ge F 244 dX4_pays_70 (by decide) (fun c70 => ?_) (fun c70 => ?_)
        · have c70 := (nI_leI (by omega) (by omega)).mp c70
          have c70b := Nat.not_lt.mpr c70
          have h9 : j = 12 := by omega
          refine x_aload_n F 4 dX4_pays_244 rfl ?_
          refine x_fget F f_X4_50 hR61.1 (v := .ref (rA m 16)) dX4_pays_245 rfl ?_
          refine x_iload_n F 5 dX4_pays_248 rfl ?_
          refine x_iload F 1 dX4_pays_249 rfl ?_
          refine x_mstR F hR61 16 rfl (fun _ _ => rfl) dX4_pays_251 (by show _ < 8; omega) (fun M1 hR1 => ?_)
          refine x_aload_n F 4 dX4_pays_252 rfl ?_
          refine x_fget F f_X4_47 hR1.1 (v := .ref (rA m 15)) dX4_pays_253 rfl ?_
          refine x_iload_n F 5 dX4_pays_256 rfl ?_
          refine x_iconst F (nI 3) dX4_pays_257 (by decide) ?_
          refine x_mst F hR1 15 rfl (fun _ _ => rfl) dX4_pays_258 (by show _ < 8; omega) (fun M1_2 hR1_2 => ?_)
          refine x_iload_n F 2 dX4_pays_259 rfl ?_
          rw [hQ]
          exact x_iret F dX4_pays_260 (by decide) ⟨_, rfl, by subst h9; exact hR1_2, rfl⟩
        · have c70 := mt (nI_leI (by omega) (by omega)).mpr c70
          have c70b := Nat.not_le.mp c70
          have b3 := hk96 (12 * r + j) (by omega)
          refine x_iconst F (nI 0) dX4_pays_73 (by decide) ?_
          refine x_istore F [(6, .int (nI (0))), (5, .int (nI (12 * r + j))), (4, .int (lefS σ r j)), (3, .int (nI (couN σ r))), (2, .int (nI (potS σ r))), (0, .ref (m 0)), (1, .int (nI (r)))] dX4_pays_74 (by decide) rfl ?_
          refine x_iconst F (nI 0) dX4_pays_76 (by decide) ?_
          refine x_istore F [(7, .int (nI (0))), (6, .int (nI (0))), (5, .int (nI (12 * r + j))), (4, .int (lefS σ r j)), (3, .int (nI (couN σ r))), (2, .int (nI (potS σ r))), (0, .ref (m 0)), (1, .int (nI (r)))] dX4_pays_77 (by decide) rfl ?_
          refine x_iload_n F 7 dX4_pays_79 rfl ?_
          refine x_iconst F (nI 0) dX4_pays_80 (by decide) ?_
          refine x_callS F s_X4_118 rfl (c_X4_at F.nt ) rfl dX4_pays_81 (by decide) (by decide) (Nat.le_of_ble_eq_true rfl) x_noX (ki fun r_6 M2_6 hp_6 => ?_)
          obtain ⟨rfl, rfl⟩ := hp_6
          refine x_istore F [(8, .int (nI (12 * r + 0))), (7, .int (nI (0))), (6, .int (nI (0))), (5, .int (nI (12 * r + j))), (4, .int (lefS σ r j)), (3, .int (nI (couN σ r))), (2, .int (nI (potS σ r))), (0, .ref (m 0)), (1, .int (nI (r)))] dX4_pays_84 (by decide) rfl ?_
          have LP86 : ∀ e, e ≤ 12 → ∀ (v86_6 : Int32) (v86_7 : Int32) (v86_8 : Int32), v86_6 = nI (fb_ct (fun e => decide (¬ σ.1 27 (12 * r + e) = 0) && decide ((σ.2.1 28 (12 * r + j)) < σ.2.1 28 (12 * r + e))) e) → v86_7 = nI (fb_ct (fun e => decide (¬ σ.1 27 (12 * r + e) = 0) && decide (σ.2.1 28 (12 * r + e) = (σ.2.1 28 (12 * r + j)))) e) → v86_8 = nI (12 * r + e) → XW K g 9 Q Mi61 0 0 86 [(8, .int (v86_8)), (7, .int (v86_7)), (6, .int (v86_6)), (5, .int (nI (12 * r + j))), (4, .int (lefS σ r j)), (3, .int (nI (couN σ r))), (2, .int (nI (potS σ r))), (0, .ref (m 0)), (1, .int (nI (r)))] [] := by
            refine x_loop 12 _ (fun e he ihe => ?_)
            intro v86_6 v86_7 v86_8 e86_6 e86_7 e86_8
            subst e86_6
            subst e86_7
            subst e86_8
            refine x_iload F 0 dX4_pays_86 rfl ?_
            refine x_iload_n F 8 dX4_pays_88 rfl ?_
            refine x_iconst F (nI 1) dX4_pays_89 (by decide) ?_
            refine x_iaddN F dX4_pays_90 ?_
            refine x_iconst F (nI 0) dX4_pays_91 (by decide) ?_
            refine x_callS F s_X4_118 rfl (c_X4_at F.nt ) rfl dX4_pays_92 (by decide) (by decide) (Nat.le_of_ble_eq_true rfl) x_noX (ki fun r_7 M2_7 hp_7 => ?_)
            obtain ⟨rfl, rfl⟩ := hp_7
            refine x_icmp_ge F 178 dX4_pays_95 (by decide) (fun c95 => ?_) (fun c95 => ?_)
            · have c95 := (nI_leI (by omega) (by omega)).mp c95
              have c95b := Nat.not_lt.mpr c95
              refine x_sub [1, 2, 3, 4, 5, 6, 7, 8] rfl (L' := [(7, .int (nI (fb_ct (fun e => decide (¬ σ.1 27 (12 * r + e) = 0) && decide (σ.2.1 28 (12 * r + e) = (σ.2.1 28 (12 * r + j)))) e))), (6, .int (nI (fb_ct (fun e => decide (¬ σ.1 27 (12 * r + e) = 0) && decide ((σ.2.1 28 (12 * r + j)) < σ.2.1 28 (12 * r + e))) e))), (5, .int (nI (12 * r + j))), (4, .int (lefS σ r j)), (3, .int (nI (couN σ r))), (2, .int (nI (potS σ r))), (0, .ref (m 0)), (1, .int (nI (r)))]) ?_
              have h8 : e = 12 := by omega
              subst h8
              refine x_sub [0, 1, 2, 3, 4, 5, 6, 7] rfl (L' := [(7, .int (nI (likS σ r (σ.2.1 28 (12 * r + j))))), (6, .int (nI (betS σ r (σ.2.1 28 (12 * r + j))))), (5, .int (nI (12 * r + j))), (4, .int (lefS σ r j)), (3, .int (nI (couN σ r))), (2, .int (nI (potS σ r))), (0, .ref (m 0)), (1, .int (nI (r)))]) ?_
              have hbn : betS σ r (σ.2.1 28 (12 * r + j)) ≤ 12 := fb_ct_le _ _
              have hln : likS σ r (σ.2.1 28 (12 * r + j)) ≤ 12 := fb_ct_le _ _
              refine x_aload_n F 6 dX4_pays_178 rfl ?_
              refine x_fget F f_X4_87 hR61.1 (v := .ref (rA m 29)) dX4_pays_179 rfl ?_
              refine x_iload F 2 dX4_pays_182 rfl ?_
              refine x_aload_n F 6 dX4_pays_184 rfl ?_
              refine x_fget F f_X4_81 hR61.1 (v := .ref (rA m 27)) dX4_pays_185 rfl ?_
              refine x_iload F 2 dX4_pays_188 rfl ?_
              refine x_mldZ F hR61 27 rfl (fun _ _ => rfl) dX4_pays_190 (by show _ < 96; omega) ?_
              refine x_ri0 (y := nI (σ.1 27 (12 * r + j))) (by rw [gotU_N (by decide)]) ?_
              refine x_if_eq F 224 dX4_pays_191 (by decide) (fun c191 => ?_) (fun c191 => ?_)
              · have c191 := (nI_z (by omega)).mp c191
                have d191 := c191
                refine x_iconst F (nI 0) dX4_pays_224 (by decide) ?_
                refine x_ri0 (y := nI (gotS σ r j)) (by unfold gotS; first | rw [if_neg d191] | rw [if_pos d191]) ?_
                refine x_mst F hR61 29 rfl (fun _ _ => rfl) dX4_pays_225 (by show _ < 96; omega) (fun M1_3 hR1_3 => ?_)
                refine x_iload F 3 dX4_pays_226 rfl ?_
                refine x_aload_n F 6 dX4_pays_228 rfl ?_
                refine x_fget F f_X4_87 hR1_3.1 (v := .ref (rA m 29)) dX4_pays_229 rfl ?_
                refine x_iload F 2 dX4_pays_232 rfl ?_
                refine x_mld F hR1_3 29 rfl (fun _ _ => rfl) dX4_pays_234 (by show _ < 96; omega) ?_
                refine x_ri0 (y := nI (gotS σ r j)) (by simp [uN]) ?_
                refine x_isub F dX4_pays_235 ?_
                refine x_istore F [(4, .int ((lefS σ r j) - (nI (gotS σ r j)))), (7, .int (nI (likS σ r (σ.2.1 28 (12 * r + j))))), (6, .int (nI (betS σ r (σ.2.1 28 (12 * r + j))))), (5, .int (nI (12 * r + j))), (3, .int (nI (couN σ r))), (2, .int (nI (potS σ r))), (0, .ref (m 0)), (1, .int (nI (r)))] dX4_pays_236 (by decide) rfl ?_
                refine x_iinc F 3 [(5, .int (nI (12 * r + j + 1))), (4, .int ((lefS σ r j) - (nI (gotS σ r j)))), (7, .int (nI (likS σ r (σ.2.1 28 (12 * r + j))))), (6, .int (nI (betS σ r (σ.2.1 28 (12 * r + j))))), (3, .int (nI (couN σ r))), (2, .int (nI (potS σ r))), (0, .ref (m 0)), (1, .int (nI (r)))] dX4_pays_238 rfl (iincN (12 * r + j) 1) (by decide) rfl ?_
                refine x_goto F 61 dX4_pays_241 (by decide) ?_
                refine x_sub [0, 1, 4, 5, 6, 7] rfl (L' := [(5, .int (nI (12 * r + j + 1))), (4, .int ((lefS σ r j) - (nI (gotS σ r j)))), (3, .int (nI (couN σ r))), (2, .int (nI (potS σ r))), (0, .ref (m 0)), (1, .int (nI (r)))]) ?_
                exact ihj (by omega) _ (hR1_3) _ _ (rfl) (rfl)
              · have c191 := mt (nI_z (by omega)).mpr c191
                have d191 := c191
                have hl1 : 0 < likS σ r (σ.2.1 28 (12 * r + j)) := lik_pos (by omega) d191
                have hc1 : 0 < couN σ r := cou_pos (by omega) d191
                have hs1 := shS_le (p := potS σ r) (x := betS σ r (σ.2.1 28 (12 * r + j)) + 1) (y := betS σ r (σ.2.1 28 (12 * r + j)) + likS σ r (σ.2.1 28 (12 * r + j))) (by omega)
                have hs2 := shS_le (p := potS σ r) (x := couN σ r + 1) (y := 4) (by omega)
                refine x_iload_n F 5 dX4_pays_194 rfl ?_
                refine x_iload F 1 dX4_pays_195 rfl ?_
                refine x_iconst F (nI 1) dX4_pays_197 (by decide) ?_
                refine x_iaddN F dX4_pays_198 ?_
                refine x_iload F 1 dX4_pays_199 rfl ?_
                refine x_iload F 0 dX4_pays_201 rfl ?_
                refine x_iaddN F dX4_pays_203 ?_
                refine x_callS F s_X4_196 rfl (c_X4_shares F.nt (by omega) (by omega) (by omega) (by omega)) rfl dX4_pays_204 (by decide) (by decide) (Nat.le_of_ble_eq_true rfl) x_noX (ki fun r_8 M2_8 hp_8 => ?_)
                obtain ⟨rfl, rfl⟩ := hp_8
                refine x_iload F 0 dX4_pays_207 rfl ?_
                refine x_idivN F dX4_pays_209 (by omega) (by omega) (by omega) ?_
                refine x_iload_n F 5 dX4_pays_210 rfl ?_
                refine x_iload_n F 4 dX4_pays_211 rfl ?_
                refine x_iconst F (nI 1) dX4_pays_212 (by decide) ?_
                refine x_iaddN F dX4_pays_213 ?_
                refine x_iconst F (nI 4) dX4_pays_214 (by decide) ?_
                refine x_callS F s_X4_196 rfl (c_X4_shares F.nt (by omega) (by omega) (by omega) (by omega)) rfl dX4_pays_215 (by decide) (by decide) (Nat.le_of_ble_eq_true rfl) x_noX (ki fun r_9 M2_9 hp_9 => ?_)
                obtain ⟨rfl, rfl⟩ := hp_9
                refine x_iload_n F 4 dX4_pays_218 rfl ?_
                refine x_idivN F dX4_pays_219 (by omega) (by omega) (by omega) ?_
                refine x_iaddN F dX4_pays_220 ?_
                refine x_goto F 225 dX4_pays_221 (by decide) ?_
                refine x_ri0 (y := nI (gotS σ r j)) (by unfold gotS; first | rw [if_neg d191] | rw [if_pos d191]) ?_
                refine x_mst F hR61 29 rfl (fun _ _ => rfl) dX4_pays_225 (by show _ < 96; omega) (fun M1_4 hR1_4 => ?_)
                refine x_iload F 3 dX4_pays_226 rfl ?_
                refine x_aload_n F 6 dX4_pays_228 rfl ?_
                refine x_fget F f_X4_87 hR1_4.1 (v := .ref (rA m 29)) dX4_pays_229 rfl ?_
                refine x_iload F 2 dX4_pays_232 rfl ?_
                refine x_mld F hR1_4 29 rfl (fun _ _ => rfl) dX4_pays_234 (by show _ < 96; omega) ?_
                refine x_ri0 (y := nI (gotS σ r j)) (by simp [uN]) ?_
                refine x_isub F dX4_pays_235 ?_
                refine x_istore F [(4, .int ((lefS σ r j) - (nI (gotS σ r j)))), (7, .int (nI (likS σ r (σ.2.1 28 (12 * r + j))))), (6, .int (nI (betS σ r (σ.2.1 28 (12 * r + j))))), (5, .int (nI (12 * r + j))), (3, .int (nI (couN σ r))), (2, .int (nI (potS σ r))), (0, .ref (m 0)), (1, .int (nI (r)))] dX4_pays_236 (by decide) rfl ?_
                refine x_iinc F 3 [(5, .int (nI (12 * r + j + 1))), (4, .int ((lefS σ r j) - (nI (gotS σ r j)))), (7, .int (nI (likS σ r (σ.2.1 28 (12 * r + j))))), (6, .int (nI (betS σ r (σ.2.1 28 (12 * r + j))))), (3, .int (nI (couN σ r))), (2, .int (nI (potS σ r))), (0, .ref (m 0)), (1, .int (nI (r)))] dX4_pays_238 rfl (iincN (12 * r + j) 1) (by decide) rfl ?_
                refine x_goto F 61 dX4_pays_241 (by decide) ?_
                refine x_sub [0, 1, 4, 5, 6, 7] rfl (L' := [(5, .int (nI (12 * r + j + 1))), (4, .int ((lefS σ r j) - (nI (gotS σ r j)))), (3, .int (nI (couN σ r))), (2, .int (nI (potS σ r))), (0, .ref (m 0)), (1, .int (nI (r)))]) ?_
                exact ihj (by omega) _ (hR1_4) _ _ (rfl) (rfl)
            · have c95 := mt (nI_leI (by omega) (by omega)).mpr c95
              have c95b := Nat.not_le.mp c95
              have b4 := hk96 (12 * r + e) (by omega)
              refine x_iload F 2 dX4_pays_98 rfl ?_
              have J132 : ∀ (v6 : Int32), v6 = nI (bz (decide (¬ σ.1 27 (12 * r + e) = 0) && decide ((σ.2.1 28 (12 * r + j)) < σ.2.1 28 (12 * r + e)))) → XW K g 9 Q Mi61 0 0 132 [(8, .int (nI (12 * r + e))), (7, .int (nI (fb_ct (fun e => decide (¬ σ.1 27 (12 * r + e) = 0) && decide (σ.2.1 28 (12 * r + e) = (σ.2.1 28 (12 * r + j)))) e))), (6, .int (nI (fb_ct (fun e => decide (¬ σ.1 27 (12 * r + e) = 0) && decide ((σ.2.1 28 (12 * r + j)) < σ.2.1 28 (12 * r + e))) e))), (5, .int (nI (12 * r + j))), (4, .int (lefS σ r j)), (3, .int (nI (couN σ r))), (2, .int (nI (potS σ r))), (0, .ref (m 0)), (1, .int (nI (r)))] [.int (v6), .int (nI (fb_ct (fun e => decide (¬ σ.1 27 (12 * r + e) = 0) && decide ((σ.2.1 28 (12 * r + j)) < σ.2.1 28 (12 * r + e))) e))] := by
                intro v6 ej132_v6
                subst ej132_v6
                refine x_iaddN F dX4_pays_132 ?_
                refine x_istore F [(6, .int (nI ((fb_ct (fun e => decide (¬ σ.1 27 (12 * r + e) = 0) && decide ((σ.2.1 28 (12 * r + j)) < σ.2.1 28 (12 * r + e))) e) + (bz (decide (¬ σ.1 27 (12 * r + e) = 0) && decide ((σ.2.1 28 (12 * r + j)) < σ.2.1 28 (12 * r + e))))))), (8, .int (nI (12 * r + e))), (7, .int (nI (fb_ct (fun e => decide (¬ σ.1 27 (12 * r + e) = 0) && decide (σ.2.1 28 (12 * r + e) = (σ.2.1 28 (12 * r + j)))) e))), (5, .int (nI (12 * r + j))), (4, .int (lefS σ r j)), (3, .int (nI (couN σ r))), (2, .int (nI (potS σ r))), (0, .ref (m 0)), (1, .int (nI (r)))] dX4_pays_133 (by decide) rfl ?_
                refine x_iload F 2 dX4_pays_135 rfl ?_
                have J169 : ∀ (v7 : Int32), v7 = nI (bz (decide (¬ σ.1 27 (12 * r + e) = 0) && decide (σ.2.1 28 (12 * r + e) = (σ.2.1 28 (12 * r + j))))) → XW K g 9 Q Mi61 0 0 169 [(6, .int (nI ((fb_ct (fun e => decide (¬ σ.1 27 (12 * r + e) = 0) && decide ((σ.2.1 28 (12 * r + j)) < σ.2.1 28 (12 * r + e))) e) + (bz (decide (¬ σ.1 27 (12 * r + e) = 0) && decide ((σ.2.1 28 (12 * r + j)) < σ.2.1 28 (12 * r + e))))))), (8, .int (nI (12 * r + e))), (7, .int (nI (fb_ct (fun e => decide (¬ σ.1 27 (12 * r + e) = 0) && decide (σ.2.1 28 (12 * r + e) = (σ.2.1 28 (12 * r + j)))) e))), (5, .int (nI (12 * r + j))), (4, .int (lefS σ r j)), (3, .int (nI (couN σ r))), (2, .int (nI (potS σ r))), (0, .ref (m 0)), (1, .int (nI (r)))] [.int (v7), .int (nI (fb_ct (fun e => decide (¬ σ.1 27 (12 * r + e) = 0) && decide (σ.2.1 28 (12 * r + e) = (σ.2.1 28 (12 * r + j)))) e))] := by
                  intro v7 ej169_v7
                  subst ej169_v7
                  refine x_iaddN F dX4_pays_169 ?_
                  refine x_istore F [(7, .int (nI ((fb_ct (fun e => decide (¬ σ.1 27 (12 * r + e) = 0) && decide (σ.2.1 28 (12 * r + e) = (σ.2.1 28 (12 * r + j)))) e) + (bz (decide (¬ σ.1 27 (12 * r + e) = 0) && decide (σ.2.1 28 (12 * r + e) = (σ.2.1 28 (12 * r + j)))))))), (6, .int (nI ((fb_ct (fun e => decide (¬ σ.1 27 (12 * r + e) = 0) && decide ((σ.2.1 28 (12 * r + j)) < σ.2.1 28 (12 * r + e))) e) + (bz (decide (¬ σ.1 27 (12 * r + e) = 0) && decide ((σ.2.1 28 (12 * r + j)) < σ.2.1 28 (12 * r + e))))))), (8, .int (nI (12 * r + e))), (5, .int (nI (12 * r + j))), (4, .int (lefS σ r j)), (3, .int (nI (couN σ r))), (2, .int (nI (potS σ r))), (0, .ref (m 0)), (1, .int (nI (r)))] dX4_pays_170 (by decide) rfl ?_
                  refine x_iinc F 2 [(8, .int (nI (12 * r + e + 1))), (7, .int (nI ((fb_ct (fun e => decide (¬ σ.1 27 (12 * r + e) = 0) && decide (σ.2.1 28 (12 * r + e) = (σ.2.1 28 (12 * r + j)))) e) + (bz (decide (¬ σ.1 27 (12 * r + e) = 0) && decide (σ.2.1 28 (12 * r + e) = (σ.2.1 28 (12 * r + j)))))))), (6, .int (nI ((fb_ct (fun e => decide (¬ σ.1 27 (12 * r + e) = 0) && decide ((σ.2.1 28 (12 * r + j)) < σ.2.1 28 (12 * r + e))) e) + (bz (decide (¬ σ.1 27 (12 * r + e) = 0) && decide ((σ.2.1 28 (12 * r + j)) < σ.2.1 28 (12 * r + e))))))), (5, .int (nI (12 * r + j))), (4, .int (lefS σ r j)), (3, .int (nI (couN σ r))), (2, .int (nI (potS σ r))), (0, .ref (m 0)), (1, .int (nI (r)))] dX4_pays_172 rfl (iincN (12 * r + e) 1) (by decide) rfl ?_
                  refine x_goto F 86 dX4_pays_175 (by decide) ?_
                  exact ihe (by omega) _ _ _ (by rw [fb_ct_succ]; rfl) (by rw [fb_ct_succ]; rfl) (rfl)
                refine x_aload_n F 7 dX4_pays_137 rfl ?_
                refine x_fget F f_X4_81 hR61.1 (v := .ref (rA m 27)) dX4_pays_138 rfl ?_
                refine x_iload F 1 dX4_pays_141 rfl ?_
                refine x_mldZ F hR61 27 rfl (fun _ _ => rfl) dX4_pays_143 (by show _ < 96; omega) ?_
                refine x_ri0 (y := nI (σ.1 27 (12 * r + e))) (by rw [gotU_N (by decide)]) ?_
                refine x_if_eq F 168 dX4_pays_144 (by decide) (fun c144 => ?_) (fun c144 => ?_)
                · have c144 := (nI_z (by omega)).mp c144
                  refine x_iconst F (nI 0) dX4_pays_168 (by decide) ?_
                  exact J169 _ (by simp [bz, *])
                · have c144 := mt (nI_z (by omega)).mpr c144
                  refine x_aload_n F 7 dX4_pays_147 rfl ?_
                  refine x_fget F f_X4_84 hR61.1 (v := .ref (rA m 28)) dX4_pays_148 rfl ?_
                  refine x_iload F 1 dX4_pays_151 rfl ?_
                  refine x_mldR F hR61 28 rfl (fun _ _ => rfl) dX4_pays_153 (by show _ < 96; omega) ?_
                  refine x_ri0 (y := σ.2.1 28 (12 * r + e)) (by rw [gotU_2]) ?_
                  refine x_aload_n F 7 dX4_pays_154 rfl ?_
                  refine x_fget F f_X4_84 hR61.1 (v := .ref (rA m 28)) dX4_pays_155 rfl ?_
                  refine x_iload F 3 dX4_pays_158 rfl ?_
                  refine x_mldR F hR61 28 rfl (fun _ _ => rfl) dX4_pays_160 (by show _ < 96; omega) ?_
                  refine x_ri0 (y := σ.2.1 28 (12 * r + j)) (by rw [gotU_2]) ?_
                  refine x_icmp_ne F 168 dX4_pays_161 (by decide) (fun c161 => ?_) (fun c161 => ?_)
                  · refine x_iconst F (nI 0) dX4_pays_168 (by decide) ?_
                    exact J169 _ (by simp [bz, *])
                  · refine x_iconst F (nI 1) dX4_pays_164 (by decide) ?_
                    refine x_goto F 169 dX4_pays_165 (by decide) ?_
                    exact J169 _ (by simp [bz, *])
              refine x_aload_n F 7 dX4_pays_100 rfl ?_
              refine x_fget F f_X4_81 hR61.1 (v := .ref (rA m 27)) dX4_pays_101 rfl ?_
              refine x_iload F 0 dX4_pays_104 rfl ?_
              refine x_mldZ F hR61 27 rfl (fun _ _ => rfl) dX4_pays_106 (by show _ < 96; omega) ?_
              refine x_ri0 (y := nI (σ.1 27 (12 * r + e))) (by rw [gotU_N (by decide)]) ?_
              refine x_if_eq F 131 dX4_pays_107 (by decide) (fun c107 => ?_) (fun c107 => ?_)
              · have c107 := (nI_z (by omega)).mp c107
                have d107 := c107
                refine x_iconst F (nI 0) dX4_pays_131 (by decide) ?_
                exact J132 _ (by simp [bz, *])
              · have c107 := mt (nI_z (by omega)).mpr c107
                have d107 := c107
                refine x_aload_n F 7 dX4_pays_110 rfl ?_
                refine x_fget F f_X4_84 hR61.1 (v := .ref (rA m 28)) dX4_pays_111 rfl ?_
                refine x_iload F 0 dX4_pays_114 rfl ?_
                refine x_mldR F hR61 28 rfl (fun _ _ => rfl) dX4_pays_116 (by show _ < 96; omega) ?_
                refine x_ri0 (y := σ.2.1 28 (12 * r + e)) (by rw [gotU_2]) ?_
                refine x_aload_n F 7 dX4_pays_117 rfl ?_
                refine x_fget F f_X4_84 hR61.1 (v := .ref (rA m 28)) dX4_pays_118 rfl ?_
                refine x_iload F 3 dX4_pays_121 rfl ?_
                refine x_mldR F hR61 28 rfl (fun _ _ => rfl) dX4_pays_123 (by show _ < 96; omega) ?_
                refine x_ri0 (y := σ.2.1 28 (12 * r + j)) (by rw [gotU_2]) ?_
                refine x_icmp_le F 131 dX4_pays_124 (by decide) (fun c124 => ?_) (fun c124 => ?_)
                · have d124 := Int32.not_lt.mpr c124
                  refine x_iconst F (nI 0) dX4_pays_131 (by decide) ?_
                  exact J132 _ (by simp [bz, *])
                · have d124 := Int32.not_le.mp c124
                  refine x_iconst F (nI 1) dX4_pays_127 (by decide) ?_
                  refine x_goto F 132 dX4_pays_128 (by decide) ?_
                  exact J132 _ (by simp [bz, *])
          exact LP86 0 (by omega) _ _ _ (rfl) (rfl) (rfl)
      exact LP61 0 (by omega) _ hR _ _ (rfl) (rfl)
    · have c24 := mt (nI_leI (by omega) (by omega)).mpr c24
      have c24b := Nat.not_le.mp c24
      have b2 := hk96 (12 * r + i) (by omega)
      refine x_iload_n F 1 dX4_pays_27 rfl ?_
      refine x_aload_n F 3 dX4_pays_28 rfl ?_
      refine x_fget F f_X4_81 hR.1 (v := .ref (rA m 27)) dX4_pays_29 rfl ?_
      refine x_iload F 0 dX4_pays_32 rfl ?_
      refine x_mldZ F hR 27 rfl (fun _ _ => rfl) dX4_pays_34 (by show _ < 96; omega) ?_
      refine x_if_eq F 42 dX4_pays_35 (by decide) (fun c35 => ?_) (fun c35 => ?_)
      · have c35 := (nI_z (by omega)).mp c35
        refine x_iconst F (nI 0) dX4_pays_42 (by decide) ?_
        refine x_iaddN F dX4_pays_43 ?_
        refine x_istore_n F [(3, .int (nI ((fb_ct (fun j => decide (¬ σ.1 27 (12 * r + j) = 0)) i) + 0))), (4, .int (nI (12 * r + i))), (2, .int (nI (potS σ r))), (0, .ref (m 0)), (1, .int (nI (r)))] dX4_pays_44 (by decide) rfl ?_
        refine x_iinc F 1 [(4, .int (nI (12 * r + i + 1))), (3, .int (nI ((fb_ct (fun j => decide (¬ σ.1 27 (12 * r + j) = 0)) i) + 0))), (2, .int (nI (potS σ r))), (0, .ref (m 0)), (1, .int (nI (r)))] dX4_pays_45 rfl (iincN (12 * r + i) 1) (by decide) rfl ?_
        refine x_goto F 15 dX4_pays_48 (by decide) ?_
        exact ihi (by omega) _ _ (by simp [fb_ct_succ, c35]) (rfl)
      · have c35 := mt (nI_z (by omega)).mpr c35
        refine x_iconst F (nI 1) dX4_pays_38 (by decide) ?_
        refine x_goto F 43 dX4_pays_39 (by decide) ?_
        refine x_iaddN F dX4_pays_43 ?_
        refine x_istore_n F [(3, .int (nI ((fb_ct (fun j => decide (¬ σ.1 27 (12 * r + j) = 0)) i) + 1))), (4, .int (nI (12 * r + i))), (2, .int (nI (potS σ r))), (0, .ref (m 0)), (1, .int (nI (r)))] dX4_pays_44 (by decide) rfl ?_
        refine x_iinc F 1 [(4, .int (nI (12 * r + i + 1))), (3, .int (nI ((fb_ct (fun j => decide (¬ σ.1 27 (12 * r + j) = 0)) i) + 1))), (2, .int (nI (potS σ r))), (0, .ref (m 0)), (1, .int (nI (r)))] dX4_pays_45 rfl (iincN (12 * r + i) 1) (by decide) rfl ?_
        refine x_goto F 15 dX4_pays_48 (by decide) ?_
        exact ihi (by omega) _ _ (by simp [fb_ct_succ, c35]) (rfl)
  exact LP15 0 (by omega) _ _ (rfl) (rfl)
set_option maxHeartbeats 4000000 in
set_option maxRecDepth 100000 in
theorem c_X4_pay {l : Launch} (hl : l.stackTraces = false) {g : GP} {M : MM} {m : Nat → Nat} {M0 : MM} {σ : ST} {x0 : Int32} (hR : RM g m M0 σ M) (hB : Bd σ) : CT l g yX4_pay cX4_pay 3 (some .int) 4 93 0 0 [.ref (m 0), .int (x0)] M (pI (fun r9 M9 => RM g m M0 (if cdPa σ x0 = 0 then payU (uN σ 0 0 (cdPa σ x0)) (cl x0) else uN σ 0 0 (cdPa σ x0)) M9 ∧ (cdPa σ x0 = 0 → r9 = nI (couN σ (cl x0))))) nX := by
  refine ct_of [(0, .ref (m 0)), (1, .int (x0))] (by decide) hl (Nat.le_of_ble_eq_true rfl) rfl ?_
  intro K hK F
  subst hK
  have F : Fx K g cX4_pay RX4 3 (some .int) [] 4 93 0 0 := F
  obtain ⟨Q, hQ⟩ : ∃ Q, Q = MQx K g (pI (fun r9 M9 => RM g m M0 (if cdPa σ x0 = 0 then payU (uN σ 0 0 (cdPa σ x0)) (cl x0) else uN σ 0 0 (cdPa σ x0)) M9 ∧ (cdPa σ x0 = 0 → r9 = nI (couN σ (cl x0))))) nX 0 0 := ⟨_, rfl⟩
  rw [← hQ]
  have hB9 := hB
  obtain ⟨h6, h7, h18, hr8, hk96, hp96, hb16, hh⟩ := hB9
  refine x_aload_n F 0 dX4_pay_0 rfl ?_
  refine x_iload_n F 1 dX4_pay_1 rfl ?_
  refine x_callV F s_X4_129 hR.1 rfl rfl (c_X4_isRodeo F.nt hR (by omega)) rfl dX4_pay_2 (by decide) (by decide) (Nat.le_of_ble_eq_true rfl) x_noX (ki fun r M2 hp => ?_)
  obtain ⟨rfl, rfl⟩ := hp
  refine x_istore_n F [(2, .int (nI (bz (inN x0 (σ.1 18 0))))), (0, .ref (m 0)), (1, .int (x0))] dX4_pay_5 (by decide) rfl ?_
  refine x_aload_n F 1 dX4_pay_6 rfl ?_
  have J28 : ∀ (vj : Int32), vj = nI (cdPa σ x0) → XW K g 3 Q M 0 0 28 [(2, .int (nI (bz (inN x0 (σ.1 18 0))))), (0, .ref (m 0)), (1, .int (x0))] [.int (vj), .ref (m 0)] := by
    intro vj ej28_vj
    subst ej28_vj
    refine x_callV F s_X4_113 hR.1 rfl rfl (c_X4_holds F.nt hR (lt_cdPa)) rfl dX4_pay_28 (by decide) (by decide) (Nat.le_of_ble_eq_true rfl) x_noX (ki fun r_2 M2_2 hp_2 => ?_)
    obtain ⟨rfl, hR0⟩ := hp_2
    obtain ⟨σ0, eσ0⟩ : ∃ z, z = uN σ 0 0 ((cdPa σ x0)) := ⟨_, rfl⟩
    rw [← eσ0] at hR0
    have hBσ0 : Bd σ0 := eσ0 ▸ Bd_u0 hB
    refine x_if_eq F 42 dX4_pay_31 (by decide) (fun c31 => ?_) (fun c31 => ?_)
    · have c31 := nI_bz0.mp c31
      have c31 := of_decide_eq_false c31
      refine x_iconst F (nI 0) dX4_pay_42 (by decide) ?_
      rw [hQ]
      exact x_iret F dX4_pay_43 (by decide) ⟨_, rfl, by first | (rw [if_pos c31, ← eσ0, cl_nI (by omega)]; exact hR0) | (rw [if_neg c31, ← eσ0]; exact hR0), fun h9 => by first | exact absurd h9 c31 | (rw [cl_nI (by omega), eσ0]; rfl)⟩
    · have c31 := nI_bz1.mp c31
      have c31 := of_decide_eq_true c31
      refine x_sub [1, 2] rfl (L' := [(0, .ref (m 0)), (1, .int (x0))]) ?_
      obtain ⟨r, hr, rfl⟩ := inN_t (n := σ.1 18 0) (by omega) (show inN x0 (σ.1 18 0) = true by (unfold cdPa at c31; by_cases z : inN x0 (σ.1 18 0) = true; exact z; simp [z] at c31))
      refine x_aload_n F 0 dX4_pay_34 rfl ?_
      refine x_iload_n F 1 dX4_pay_35 rfl ?_
      refine x_callV F s_X4_203 hR0.1 rfl rfl (c_X4_pays F.nt hR0 hBσ0 (by omega)) rfl dX4_pay_36 (by decide) (by decide) (Nat.le_of_ble_eq_true rfl) x_noX (ki fun r9 M9 hp9 => ?_)
      obtain ⟨hR9, rfl⟩ := hp9
      refine x_goto F 43 dX4_pay_39 (by decide) ?_
      rw [hQ]
      exact x_iret F dX4_pay_43 (by decide) ⟨_, rfl, by first | (rw [if_pos c31, ← eσ0, cl_nI (by omega)]; exact hR9) | (rw [if_neg c31, ← eσ0]; exact hR9), fun h9 => by first | exact absurd h9 c31 | (rw [cl_nI (by omega), eσ0]; rfl)⟩
  refine x_iload_n F 0 dX4_pay_7 rfl ?_
  refine x_if_ne F 15 dX4_pay_8 (by decide) (fun c8 => ?_) (fun c8 => ?_)
  · have c8 := nI_bz1.mp c8
    obtain ⟨c9, c10⟩ := inN_cl (by omega) c8
    refine x_aload_n F 1 dX4_pay_15 rfl ?_
    refine x_iload_n F 2 dX4_pay_16 rfl ?_
    refine x_ri0 (y := nI (cl x0)) (c10) ?_
    refine x_callV F s_X4_200 hR.1 rfl rfl (c_X4_canBePaid F.nt hR hB (by omega)) rfl dX4_pay_17 (by decide) (by decide) (Nat.le_of_ble_eq_true rfl) x_noX (ki fun r_4 M2_4 hp_4 => ?_)
    obtain ⟨rfl, rfl⟩ := hp_4
    refine x_if_ne F 27 dX4_pay_20 (by decide) (fun c20 => ?_) (fun c20 => ?_)
    · have c20 := nI_bz1.mp c20
      refine x_iconst F (nI 0) dX4_pay_27 (by decide) ?_
      exact J28 _ (by (try clear c10); simp [cdPa, *])
    · have c20 := nI_bz0.mp c20
      refine x_iconst F (nI 2) dX4_pay_23 (by decide) ?_
      refine x_goto F 28 dX4_pay_24 (by decide) ?_
      exact J28 _ (by (try clear c10); simp [cdPa, *])
  · have c8 := nI_bz0.mp c8
    refine x_iconst F (nI 1) dX4_pay_11 (by decide) ?_
    refine x_goto F 28 dX4_pay_12 (by decide) ?_
    exact J28 _ (by (try clear c10); simp [cdPa, *])
set_option maxHeartbeats 4000000 in
set_option maxRecDepth 100000 in
theorem c_X4_allOf {l : Launch} (hl : l.stackTraces = false) {g : GP} {M : MM} {m : Nat → Nat} {M0 : MM} {σ : ST} {j : Nat} (hR : RM g m M0 σ M) (hB : Bd σ) (hj : j < 12) : CT l g yX4_allOf cX4_allOf 4 (some .int) 1 21 0 0 [.ref (m 0), .int (nI (j))] M (pI (fun r9 M9 => nI (allS σ j) = r9 ∧ M = M9)) nX := by
  refine ct_of [(0, .ref (m 0)), (1, .int (nI (j)))] (by decide) hl (Nat.le_of_ble_eq_true rfl) rfl ?_
  intro K hK F
  subst hK
  have F : Fx K g cX4_allOf RX4 4 (some .int) [] 1 21 0 0 := F
  obtain ⟨Q, hQ⟩ : ∃ Q, Q = MQx K g (pI (fun r9 M9 => nI (allS σ j) = r9 ∧ M = M9)) nX 0 0 := ⟨_, rfl⟩
  rw [← hQ]
  have hB9 := hB
  obtain ⟨h6, h7, h18, hr8, hk96, hp96, hb16, hh⟩ := hB9
  refine x_iconst F (nI 0) dX4_allOf_0 (by decide) ?_
  refine x_istore_n F [(2, .int (nI (0))), (0, .ref (m 0)), (1, .int (nI (j)))] dX4_allOf_1 (by decide) rfl ?_
  refine x_iconst F (nI 0) dX4_allOf_2 (by decide) ?_
  refine x_istore_n F [(3, .int (nI (0))), (2, .int (nI (0))), (0, .ref (m 0)), (1, .int (nI (j)))] dX4_allOf_3 (by decide) rfl ?_
  have LP4 : ∀ i, i ≤ (σ.1 18 0) → ∀ (v4_2 : Int32) (v4_3 : Int32), v4_2 = nI (fb_sm (fun r => σ.1 29 (12 * r + j)) i) → v4_3 = nI (i) → XW K g 4 Q M 0 0 4 [(3, .int (v4_3)), (2, .int (v4_2)), (0, .ref (m 0)), (1, .int (nI (j)))] [] := by
    refine x_loop ((σ.1 18 0)) _ (fun i hi ihi => ?_)
    intro v4_2 v4_3 e4_2 e4_3
    subst e4_2
    subst e4_3
    refine x_iload_n F 0 dX4_allOf_4 rfl ?_
    refine x_aload_n F 2 dX4_allOf_5 rfl ?_
    refine x_fget F f_X4_110 hR.1 (v := .int (nI (σ.1 18 0))) dX4_allOf_6 rfl ?_
    refine x_icmp_ge F 31 dX4_allOf_9 (by decide) (fun c9 => ?_) (fun c9 => ?_)
    · have c9 := (nI_leI (by omega) (by omega)).mp c9
      have c9b := Nat.not_lt.mpr c9
      refine x_iload_n F 1 dX4_allOf_31 rfl ?_
      rw [hQ]
      exact x_iret F dX4_allOf_32 (by decide) ⟨_, rfl, by have h9 : i = σ.1 18 0 := (by omega); subst h9; rfl, rfl⟩
    · have c9 := mt (nI_leI (by omega) (by omega)).mpr c9
      have c9b := Nat.not_le.mp c9
      refine x_iload_n F 1 dX4_allOf_12 rfl ?_
      refine x_aload_n F 2 dX4_allOf_13 rfl ?_
      refine x_fget F f_X4_87 hR.1 (v := .ref (rA m 29)) dX4_allOf_14 rfl ?_
      refine x_iload_n F 0 dX4_allOf_17 rfl ?_
      refine x_iload_n F 3 dX4_allOf_18 rfl ?_
      refine x_callS F s_X4_118 rfl (c_X4_at F.nt ) rfl dX4_allOf_19 (by decide) (by decide) (Nat.le_of_ble_eq_true rfl) x_noX (ki fun r M2 hp => ?_)
      obtain ⟨rfl, rfl⟩ := hp
      refine x_mld F hR 29 rfl (fun _ _ => rfl) dX4_allOf_22 (by show _ < 96; omega) ?_
      refine x_iaddN F dX4_allOf_23 ?_
      refine x_istore_n F [(2, .int (nI ((fb_sm (fun r => σ.1 29 (12 * r + j)) i) + (σ.1 29 (12 * i + j))))), (3, .int (nI (i))), (0, .ref (m 0)), (1, .int (nI (j)))] dX4_allOf_24 (by decide) rfl ?_
      refine x_iinc F 1 [(3, .int (nI (i + 1))), (2, .int (nI ((fb_sm (fun r => σ.1 29 (12 * r + j)) i) + (σ.1 29 (12 * i + j))))), (0, .ref (m 0)), (1, .int (nI (j)))] dX4_allOf_25 rfl (iincN (i) 1) (by decide) rfl ?_
      refine x_goto F 4 dX4_allOf_28 (by decide) ?_
      exact ihi (by omega) _ _ (rfl) (rfl)
  exact LP4 0 (by omega) _ _ (rfl) (rfl)
set_option maxHeartbeats 4000000 in
set_option maxRecDepth 100000 in
theorem c_X4_counted {l : Launch} (hl : l.stackTraces = false) {g : GP} {M : MM} {m : Nat → Nat} {M0 : MM} {σ : ST} {j : Nat} (hR : RM g m M0 σ M) (hB : Bd σ) (hj : j < 12) : CT l g yX4_counted cX4_counted 8 (some .int) 1 21 0 0 [.ref (m 0), .int (nI (j))] M (pI (fun r9 M9 => nI (cntS σ j) = r9 ∧ M = M9)) nX := by
  refine ct_of [(0, .ref (m 0)), (1, .int (nI (j)))] (by decide) hl (Nat.le_of_ble_eq_true rfl) rfl ?_
  intro K hK F
  subst hK
  have F : Fx K g cX4_counted RX4 8 (some .int) [] 1 21 0 0 := F
  obtain ⟨Q, hQ⟩ : ∃ Q, Q = MQx K g (pI (fun r9 M9 => nI (cntS σ j) = r9 ∧ M = M9)) nX 0 0 := ⟨_, rfl⟩
  rw [← hQ]
  have hB9 := hB
  obtain ⟨h6, h7, h18, hr8, hk96, hp96, hb16, hh⟩ := hB9
  refine x_iconst F (nI 0) dX4_counted_0 (by decide) ?_
  refine x_istore_n F [(2, .int (nI (0))), (0, .ref (m 0)), (1, .int (nI (j)))] dX4_counted_1 (by decide) rfl ?_
  refine x_iconst F (nI 0) dX4_counted_2 (by decide) ?_
  refine x_istore_n F [(3, .int (nI (0))), (2, .int (nI (0))), (0, .ref (m 0)), (1, .int (nI (j)))] dX4_counted_3 (by decide) rfl ?_
  have LP4 : ∀ i, i ≤ (σ.1 18 0) → ∀ (v4_2 : Int32) (v4_3 : Int32), v4_2 = nI (fb_sm (fun r => if ahrS σ j r < 3 then σ.1 29 (12 * r + j) else 0) i) → v4_3 = nI (i) → XW K g 8 Q M 0 0 4 [(3, .int (v4_3)), (2, .int (v4_2)), (0, .ref (m 0)), (1, .int (nI (j)))] [] := by
    refine x_loop ((σ.1 18 0)) _ (fun i hi ihi => ?_)
    intro v4_2 v4_3 e4_2 e4_3
    subst e4_2
    subst e4_3
    refine x_iload_n F 0 dX4_counted_4 rfl ?_
    refine x_aload_n F 2 dX4_counted_5 rfl ?_
    refine x_fget F f_X4_110 hR.1 (v := .int (nI (σ.1 18 0))) dX4_counted_6 rfl ?_
    refine x_icmp_ge F 109 dX4_counted_9 (by decide) (fun c9 => ?_) (fun c9 => ?_)
    · have c9 := (nI_leI (by omega) (by omega)).mp c9
      have c9b := Nat.not_lt.mpr c9
      refine x_iload_n F 1 dX4_counted_109 rfl ?_
      rw [hQ]
      exact x_iret F dX4_counted_110 (by decide) ⟨_, rfl, by have h9 : i = σ.1 18 0 := (by omega); subst h9; rfl, rfl⟩
    · have c9 := mt (nI_leI (by omega) (by omega)).mpr c9
      have c9b := Nat.not_le.mp c9
      have b1 := hk96 (12 * i + j) (by omega)
      refine x_aload_n F 2 dX4_counted_12 rfl ?_
      refine x_fget F f_X4_87 hR.1 (v := .ref (rA m 29)) dX4_counted_13 rfl ?_
      refine x_iload_n F 0 dX4_counted_16 rfl ?_
      refine x_iload_n F 3 dX4_counted_17 rfl ?_
      refine x_callS F s_X4_118 rfl (c_X4_at F.nt ) rfl dX4_counted_18 (by decide) (by decide) (Nat.le_of_ble_eq_true rfl) x_noX (ki fun r M2 hp => ?_)
      obtain ⟨rfl, rfl⟩ := hp
      refine x_mld F hR 29 rfl (fun _ _ => rfl) dX4_counted_21 (by show _ < 96; omega) ?_
      refine x_istore F [(4, .int (nI (σ.1 29 (12 * i + j)))), (3, .int (nI (i))), (2, .int (nI (fb_sm (fun r => if ahrS σ j r < 3 then σ.1 29 (12 * r + j) else 0) i))), (0, .ref (m 0)), (1, .int (nI (j)))] dX4_counted_22 (by decide) rfl ?_
      refine x_iconst F (nI 0) dX4_counted_24 (by decide) ?_
      refine x_istore F [(5, .int (nI (0))), (4, .int (nI (σ.1 29 (12 * i + j)))), (3, .int (nI (i))), (2, .int (nI (fb_sm (fun r => if ahrS σ j r < 3 then σ.1 29 (12 * r + j) else 0) i))), (0, .ref (m 0)), (1, .int (nI (j)))] dX4_counted_25 (by decide) rfl ?_
      refine x_iconst F (nI 0) dX4_counted_27 (by decide) ?_
      refine x_istore F [(6, .int (nI (0))), (5, .int (nI (0))), (4, .int (nI (σ.1 29 (12 * i + j)))), (3, .int (nI (i))), (2, .int (nI (fb_sm (fun r => if ahrS σ j r < 3 then σ.1 29 (12 * r + j) else 0) i))), (0, .ref (m 0)), (1, .int (nI (j)))] dX4_counted_28 (by decide) rfl ?_
      have LP30 : ∀ o, o ≤ (σ.1 18 0) → ∀ (v30_5 : Int32) (v30_6 : Int32), v30_5 = nI (fb_ct (fun o => decide (σ.1 29 (12 * i + j) < σ.1 29 (12 * o + j)) || (decide (σ.1 29 (12 * o + j) = σ.1 29 (12 * i + j)) && decide (o < i))) o) → v30_6 = nI (o) → XW K g 8 Q M 0 0 30 [(6, .int (v30_6)), (5, .int (v30_5)), (4, .int (nI (σ.1 29 (12 * i + j)))), (3, .int (nI (i))), (2, .int (nI (fb_sm (fun r => if ahrS σ j r < 3 then σ.1 29 (12 * r + j) else 0) i))), (0, .ref (m 0)), (1, .int (nI (j)))] [] := by
        refine x_loop ((σ.1 18 0)) _ (fun o ho iho => ?_)
        intro v30_5 v30_6 e30_5 e30_6
        subst e30_5
        subst e30_6
        refine x_iload F 0 dX4_counted_30 rfl ?_
        refine x_aload_n F 5 dX4_counted_32 rfl ?_
        refine x_fget F f_X4_110 hR.1 (v := .int (nI (σ.1 18 0))) dX4_counted_33 rfl ?_
        refine x_icmp_ge F 88 dX4_counted_36 (by decide) (fun c36 => ?_) (fun c36 => ?_)
        · have c36 := (nI_leI (by omega) (by omega)).mp c36
          have c36b := Nat.not_lt.mpr c36
          refine x_sub [1, 2, 3, 4, 5, 6] rfl (L' := [(5, .int (nI (fb_ct (fun o => decide (σ.1 29 (12 * i + j) < σ.1 29 (12 * o + j)) || (decide (σ.1 29 (12 * o + j) = σ.1 29 (12 * i + j)) && decide (o < i))) o))), (4, .int (nI (σ.1 29 (12 * i + j)))), (3, .int (nI (i))), (2, .int (nI (fb_sm (fun r => if ahrS σ j r < 3 then σ.1 29 (12 * r + j) else 0) i))), (0, .ref (m 0)), (1, .int (nI (j)))]) ?_
          have h8 : o = σ.1 18 0 := by omega
          subst h8
          refine x_sub [0, 1, 2, 3, 4, 5] rfl (L' := [(5, .int (nI (ahrS σ j i))), (4, .int (nI (σ.1 29 (12 * i + j)))), (3, .int (nI (i))), (2, .int (nI (fb_sm (fun r => if ahrS σ j r < 3 then σ.1 29 (12 * r + j) else 0) i))), (0, .ref (m 0)), (1, .int (nI (j)))]) ?_
          have hal : ahrS σ j i ≤ σ.1 18 0 := fb_ct_le _ _
          refine x_iload_n F 3 dX4_counted_88 rfl ?_
          refine x_iload F 0 dX4_counted_89 rfl ?_
          refine x_iconst F (nI 3) dX4_counted_91 (by decide) ?_
          refine x_icmp_ge F 100 dX4_counted_92 (by decide) (fun c92 => ?_) (fun c92 => ?_)
          · have c92 := (nI_leI (by omega) (by omega)).mp c92
            have c92b := Nat.not_lt.mpr c92
            refine x_iconst F (nI 0) dX4_counted_100 (by decide) ?_
            refine x_iaddN F dX4_counted_101 ?_
            refine x_istore_n F [(2, .int (nI ((fb_sm (fun r => if ahrS σ j r < 3 then σ.1 29 (12 * r + j) else 0) i) + 0))), (5, .int (nI (ahrS σ j i))), (4, .int (nI (σ.1 29 (12 * i + j)))), (3, .int (nI (i))), (0, .ref (m 0)), (1, .int (nI (j)))] dX4_counted_102 (by decide) rfl ?_
            refine x_iinc F 3 [(3, .int (nI (i + 1))), (2, .int (nI ((fb_sm (fun r => if ahrS σ j r < 3 then σ.1 29 (12 * r + j) else 0) i) + 0))), (5, .int (nI (ahrS σ j i))), (4, .int (nI (σ.1 29 (12 * i + j)))), (0, .ref (m 0)), (1, .int (nI (j)))] dX4_counted_103 rfl (iincN (i) 1) (by decide) rfl ?_
            refine x_goto F 4 dX4_counted_106 (by decide) ?_
            refine x_sub [0, 1, 4, 5] rfl (L' := [(3, .int (nI (i + 1))), (2, .int (nI ((fb_sm (fun r => if ahrS σ j r < 3 then σ.1 29 (12 * r + j) else 0) i) + 0))), (0, .ref (m 0)), (1, .int (nI (j)))]) ?_
            exact ihi (by omega) _ _ (by rw [fb_sm_succ]; first | rw [if_pos c92b] | rw [if_neg c92b]) (rfl)
          · have c92 := mt (nI_leI (by omega) (by omega)).mpr c92
            have c92b := Nat.not_le.mp c92
            refine x_iload F 1 dX4_counted_95 rfl ?_
            refine x_goto F 101 dX4_counted_97 (by decide) ?_
            refine x_iaddN F dX4_counted_101 ?_
            refine x_istore_n F [(2, .int (nI ((fb_sm (fun r => if ahrS σ j r < 3 then σ.1 29 (12 * r + j) else 0) i) + (σ.1 29 (12 * i + j))))), (5, .int (nI (ahrS σ j i))), (4, .int (nI (σ.1 29 (12 * i + j)))), (3, .int (nI (i))), (0, .ref (m 0)), (1, .int (nI (j)))] dX4_counted_102 (by decide) rfl ?_
            refine x_iinc F 3 [(3, .int (nI (i + 1))), (2, .int (nI ((fb_sm (fun r => if ahrS σ j r < 3 then σ.1 29 (12 * r + j) else 0) i) + (σ.1 29 (12 * i + j))))), (5, .int (nI (ahrS σ j i))), (4, .int (nI (σ.1 29 (12 * i + j)))), (0, .ref (m 0)), (1, .int (nI (j)))] dX4_counted_103 rfl (iincN (i) 1) (by decide) rfl ?_
            refine x_goto F 4 dX4_counted_106 (by decide) ?_
            refine x_sub [0, 1, 4, 5] rfl (L' := [(3, .int (nI (i + 1))), (2, .int (nI ((fb_sm (fun r => if ahrS σ j r < 3 then σ.1 29 (12 * r + j) else 0) i) + (σ.1 29 (12 * i + j))))), (0, .ref (m 0)), (1, .int (nI (j)))]) ?_
            exact ihi (by omega) _ _ (by rw [fb_sm_succ]; first | rw [if_pos c92b] | rw [if_neg c92b]) (rfl)
        · have c36 := mt (nI_leI (by omega) (by omega)).mpr c36
          have c36b := Nat.not_le.mp c36
          have b2 := hk96 (12 * o + j) (by omega)
          refine x_aload_n F 5 dX4_counted_39 rfl ?_
          refine x_fget F f_X4_87 hR.1 (v := .ref (rA m 29)) dX4_counted_40 rfl ?_
          refine x_iload F 0 dX4_counted_43 rfl ?_
          refine x_iload_n F 6 dX4_counted_45 rfl ?_
          refine x_callS F s_X4_118 rfl (c_X4_at F.nt ) rfl dX4_counted_46 (by decide) (by decide) (Nat.le_of_ble_eq_true rfl) x_noX (ki fun r_2 M2_2 hp_2 => ?_)
          obtain ⟨rfl, rfl⟩ := hp_2
          refine x_mld F hR 29 rfl (fun _ _ => rfl) dX4_counted_49 (by show _ < 96; omega) ?_
          refine x_istore F [(7, .int (nI (σ.1 29 (12 * o + j)))), (6, .int (nI (o))), (5, .int (nI (fb_ct (fun o => decide (σ.1 29 (12 * i + j) < σ.1 29 (12 * o + j)) || (decide (σ.1 29 (12 * o + j) = σ.1 29 (12 * i + j)) && decide (o < i))) o))), (4, .int (nI (σ.1 29 (12 * i + j)))), (3, .int (nI (i))), (2, .int (nI (fb_sm (fun r => if ahrS σ j r < 3 then σ.1 29 (12 * r + j) else 0) i))), (0, .ref (m 0)), (1, .int (nI (j)))] dX4_counted_50 (by decide) rfl ?_
          refine x_iload F 2 dX4_counted_52 rfl ?_
          have J79 : ∀ (v5 : Int32), v5 = nI (bz (decide (σ.1 29 (12 * i + j) < σ.1 29 (12 * o + j)) || (decide (σ.1 29 (12 * o + j) = σ.1 29 (12 * i + j)) && decide (o < i)))) → XW K g 8 Q M 0 0 79 [(7, .int (nI (σ.1 29 (12 * o + j)))), (6, .int (nI (o))), (5, .int (nI (fb_ct (fun o => decide (σ.1 29 (12 * i + j) < σ.1 29 (12 * o + j)) || (decide (σ.1 29 (12 * o + j) = σ.1 29 (12 * i + j)) && decide (o < i))) o))), (4, .int (nI (σ.1 29 (12 * i + j)))), (3, .int (nI (i))), (2, .int (nI (fb_sm (fun r => if ahrS σ j r < 3 then σ.1 29 (12 * r + j) else 0) i))), (0, .ref (m 0)), (1, .int (nI (j)))] [.int (v5), .int (nI (fb_ct (fun o => decide (σ.1 29 (12 * i + j) < σ.1 29 (12 * o + j)) || (decide (σ.1 29 (12 * o + j) = σ.1 29 (12 * i + j)) && decide (o < i))) o))] := by
            intro v5 ej79_v5
            subst ej79_v5
            refine x_iaddN F dX4_counted_79 ?_
            refine x_istore F [(5, .int (nI ((fb_ct (fun o => decide (σ.1 29 (12 * i + j) < σ.1 29 (12 * o + j)) || (decide (σ.1 29 (12 * o + j) = σ.1 29 (12 * i + j)) && decide (o < i))) o) + (bz (decide (σ.1 29 (12 * i + j) < σ.1 29 (12 * o + j)) || (decide (σ.1 29 (12 * o + j) = σ.1 29 (12 * i + j)) && decide (o < i))))))), (7, .int (nI (σ.1 29 (12 * o + j)))), (6, .int (nI (o))), (4, .int (nI (σ.1 29 (12 * i + j)))), (3, .int (nI (i))), (2, .int (nI (fb_sm (fun r => if ahrS σ j r < 3 then σ.1 29 (12 * r + j) else 0) i))), (0, .ref (m 0)), (1, .int (nI (j)))] dX4_counted_80 (by decide) rfl ?_
            refine x_iinc F 2 [(6, .int (nI (o + 1))), (5, .int (nI ((fb_ct (fun o => decide (σ.1 29 (12 * i + j) < σ.1 29 (12 * o + j)) || (decide (σ.1 29 (12 * o + j) = σ.1 29 (12 * i + j)) && decide (o < i))) o) + (bz (decide (σ.1 29 (12 * i + j) < σ.1 29 (12 * o + j)) || (decide (σ.1 29 (12 * o + j) = σ.1 29 (12 * i + j)) && decide (o < i))))))), (7, .int (nI (σ.1 29 (12 * o + j)))), (4, .int (nI (σ.1 29 (12 * i + j)))), (3, .int (nI (i))), (2, .int (nI (fb_sm (fun r => if ahrS σ j r < 3 then σ.1 29 (12 * r + j) else 0) i))), (0, .ref (m 0)), (1, .int (nI (j)))] dX4_counted_82 rfl (iincN (o) 1) (by decide) rfl ?_
            refine x_goto F 30 dX4_counted_85 (by decide) ?_
            refine x_sub [0, 1, 3, 4, 5, 6, 7] rfl (L' := [(6, .int (nI (o + 1))), (5, .int (nI ((fb_ct (fun o => decide (σ.1 29 (12 * i + j) < σ.1 29 (12 * o + j)) || (decide (σ.1 29 (12 * o + j) = σ.1 29 (12 * i + j)) && decide (o < i))) o) + (bz (decide (σ.1 29 (12 * i + j) < σ.1 29 (12 * o + j)) || (decide (σ.1 29 (12 * o + j) = σ.1 29 (12 * i + j)) && decide (o < i))))))), (4, .int (nI (σ.1 29 (12 * i + j)))), (3, .int (nI (i))), (2, .int (nI (fb_sm (fun r => if ahrS σ j r < 3 then σ.1 29 (12 * r + j) else 0) i))), (0, .ref (m 0)), (1, .int (nI (j)))]) ?_
            exact iho (by omega) _ _ (by rw [fb_ct_succ]; rfl) (rfl)
          refine x_iload F 0 dX4_counted_54 rfl ?_
          refine x_iload F 3 dX4_counted_56 rfl ?_
          refine x_icmp_gt F 74 dX4_counted_58 (by decide) (fun c58 => ?_) (fun c58 => ?_)
          · have c58 := (nI_ltI (by omega) (by omega)).mp c58
            have c58b := Nat.not_le.mpr c58
            refine x_iconst F (nI 1) dX4_counted_74 (by decide) ?_
            refine x_goto F 79 dX4_counted_75 (by decide) ?_
            exact J79 _ (by simp [bz, *])
          · have c58 := mt (nI_ltI (by omega) (by omega)).mpr c58
            have c58b := Nat.not_lt.mp c58
            refine x_iload F 0 dX4_counted_61 rfl ?_
            refine x_iload F 3 dX4_counted_63 rfl ?_
            refine x_icmp_ne F 78 dX4_counted_65 (by decide) (fun c65 => ?_) (fun c65 => ?_)
            · have c65 := mt (nI_eq (by omega) (by omega)).mpr c65
              refine x_iconst F (nI 0) dX4_counted_78 (by decide) ?_
              exact J79 _ (by simp [bz, *])
            · have c65 := (nI_eq (by omega) (by omega)).mp c65
              refine x_iload F 1 dX4_counted_68 rfl ?_
              refine x_iload_n F 4 dX4_counted_70 rfl ?_
              refine x_icmp_ge F 78 dX4_counted_71 (by decide) (fun c71 => ?_) (fun c71 => ?_)
              · have c71 := (nI_leI (by omega) (by omega)).mp c71
                have c71b := Nat.not_lt.mpr c71
                refine x_iconst F (nI 0) dX4_counted_78 (by decide) ?_
                exact J79 _ (by simp [bz, *])
              · have c71 := mt (nI_leI (by omega) (by omega)).mpr c71
                have c71b := Nat.not_le.mp c71
                refine x_iconst F (nI 1) dX4_counted_74 (by decide) ?_
                refine x_goto F 79 dX4_counted_75 (by decide) ?_
                exact J79 _ (by simp [bz, *])
      exact LP30 0 (by omega) _ _ (rfl) (rfl)
  exact LP4 0 (by omega) _ _ (rfl) (rfl)
set_option maxHeartbeats 4000000 in
set_option maxRecDepth 100000 in
theorem c_X4_counts {l : Launch} (hl : l.stackTraces = false) {g : GP} {M : MM} {m : Nat → Nat} {M0 : MM} {σ : ST} {x0 : Int32} (hR : RM g m M0 σ M) (hB : Bd σ) : CT l g yX4_counts cX4_counts 2 (some .int) 2 48 0 0 [.ref (m 0), .int (x0)] M (pI (fun r9 M9 => RM g m M0 (uN σ 0 0 (cdCo σ x0)) M9 ∧ (cdCo σ x0 = 0 → r9 = nI (cntS σ (cl x0))))) nX := by
  refine ct_of [(0, .ref (m 0)), (1, .int (x0))] (by decide) hl (Nat.le_of_ble_eq_true rfl) rfl ?_
  intro K hK F
  subst hK
  have F : Fx K g cX4_counts RX4 2 (some .int) [] 2 48 0 0 := F
  obtain ⟨Q, hQ⟩ : ∃ Q, Q = MQx K g (pI (fun r9 M9 => RM g m M0 (uN σ 0 0 (cdCo σ x0)) M9 ∧ (cdCo σ x0 = 0 → r9 = nI (cntS σ (cl x0))))) nX 0 0 := ⟨_, rfl⟩
  rw [← hQ]
  have hB9 := hB
  obtain ⟨h6, h7, h18, hr8, hk96, hp96, hb16, hh⟩ := hB9
  refine x_aload_n F 0 dX4_counts_0 rfl ?_
  have J14 : ∀ (vj : Int32), vj = nI (cdCo σ x0) → XW K g 2 Q M 0 0 14 [(0, .ref (m 0)), (1, .int (x0))] [.int (vj), .ref (m 0)] := by
    intro vj ej14_vj
    subst ej14_vj
    refine x_callV F s_X4_113 hR.1 rfl rfl (c_X4_holds F.nt hR (lt_cdCo)) rfl dX4_counts_14 (by decide) (by decide) (Nat.le_of_ble_eq_true rfl) x_noX (ki fun r M2 hp => ?_)
    obtain ⟨rfl, hR0⟩ := hp
    obtain ⟨σ0, eσ0⟩ : ∃ z, z = uN σ 0 0 ((cdCo σ x0)) := ⟨_, rfl⟩
    rw [← eσ0] at hR0
    have hBσ0 : Bd σ0 := eσ0 ▸ Bd_u0 hB
    refine x_if_eq F 28 dX4_counts_17 (by decide) (fun c17 => ?_) (fun c17 => ?_)
    · have c17 := nI_bz0.mp c17
      have c17 := of_decide_eq_false c17
      refine x_iconst F (nI 0) dX4_counts_28 (by decide) ?_
      rw [hQ]
      exact x_iret F dX4_counts_29 (by decide) ⟨_, rfl, eσ0 ▸ hR0, fun h9 => (by first | exact absurd h9 c17 | (rw [cl_nI (by omega), eσ0]; rfl))⟩
    · have c17 := nI_bz1.mp c17
      have c17 := of_decide_eq_true c17
      obtain ⟨j, hj, rfl⟩ := inN_t (n := σ.1 7 0) (by omega) (show inN x0 (σ.1 7 0) = true by simpa [cdCo] using c17)
      refine x_aload_n F 0 dX4_counts_20 rfl ?_
      refine x_iload_n F 1 dX4_counts_21 rfl ?_
      refine x_callV F s_X4_206 hR0.1 rfl rfl (c_X4_counted F.nt hR0 hBσ0 (by omega)) rfl dX4_counts_22 (by decide) (by decide) (Nat.le_of_ble_eq_true rfl) x_noX (ki fun r_2 M2_2 hp_2 => ?_)
      obtain ⟨rfl, rfl⟩ := hp_2
      refine x_goto F 29 dX4_counts_25 (by decide) ?_
      rw [hQ]
      exact x_iret F dX4_counts_29 (by decide) ⟨_, rfl, eσ0 ▸ hR0, fun h9 => (by first | exact absurd h9 c17 | (rw [cl_nI (by omega), eσ0]; rfl))⟩
  refine x_aload_n F 0 dX4_counts_1 rfl ?_
  refine x_iload_n F 1 dX4_counts_2 rfl ?_
  refine x_callV F s_X4_135 hR.1 rfl rfl (c_X4_isRider F.nt hR (by omega)) rfl dX4_counts_3 (by decide) (by decide) (Nat.le_of_ble_eq_true rfl) x_noX (ki fun r_3 M2_3 hp_3 => ?_)
  obtain ⟨rfl, rfl⟩ := hp_3
  refine x_if_eq F 13 dX4_counts_6 (by decide) (fun c6 => ?_) (fun c6 => ?_)
  · have c6 := nI_bz0.mp c6
    refine x_iconst F (nI 1) dX4_counts_13 (by decide) ?_
    exact J14 _ (by simp [cdCo, *])
  · have c6 := nI_bz1.mp c6
    refine x_iconst F (nI 0) dX4_counts_9 (by decide) ?_
    refine x_goto F 14 dX4_counts_10 (by decide) ?_
    exact J14 _ (by simp [cdCo, *])
set_option maxHeartbeats 4000000 in
set_option maxRecDepth 100000 in
theorem c_X4_isBetter {l : Launch} (hl : l.stackTraces = false) {g : GP} {M : MM} {m : Nat → Nat} {M0 : MM} {σ : ST} {a0 b0 : Nat} (hR : RM g m M0 σ M) (hB : Bd σ) (ha : a0 < 12) (hb : b0 < 12) : CT l g yX4_isBetter cX4_isBetter 5 (some .boolean) 2 48 0 0 [.ref (m 0), .int (nI (a0)), .int (nI (b0))] M (pI (fun r9 M9 => nI (bz (btrS σ a0 b0)) = r9 ∧ M = M9)) nX := by
  refine ct_of [(0, .ref (m 0)), (1, .int (nI (a0))), (2, .int (nI (b0)))] (by decide) hl (Nat.le_of_ble_eq_true rfl) rfl ?_
  intro K hK F
  subst hK
  have F : Fx K g cX4_isBetter RX4 5 (some .boolean) [] 2 48 0 0 := F
  obtain ⟨Q, hQ⟩ : ∃ Q, Q = MQx K g (pI (fun r9 M9 => nI (bz (btrS σ a0 b0)) = r9 ∧ M = M9)) nX 0 0 := ⟨_, rfl⟩
  rw [← hQ]
  have hB9 := hB
  obtain ⟨h6, h7, h18, hr8, hk96, hp96, hb16, hh⟩ := hB9
  have m1 := cntS_le hB ha
  have m2 := cntS_le hB hb
  have m3 := allS_le hB ha
  have m4 := allS_le hB hb
  refine x_aload_n F 0 dX4_isBetter_0 rfl ?_
  refine x_iload_n F 1 dX4_isBetter_1 rfl ?_
  refine x_callV F s_X4_206 hR.1 rfl rfl (c_X4_counted F.nt hR hB (by omega)) rfl dX4_isBetter_2 (by decide) (by decide) (Nat.le_of_ble_eq_true rfl) x_noX (ki fun r M2 hp => ?_)
  obtain ⟨rfl, rfl⟩ := hp
  refine x_aload_n F 0 dX4_isBetter_5 rfl ?_
  refine x_iload_n F 2 dX4_isBetter_6 rfl ?_
  refine x_callV F s_X4_206 hR.1 rfl rfl (c_X4_counted F.nt hR hB (by omega)) rfl dX4_isBetter_7 (by decide) (by decide) (Nat.le_of_ble_eq_true rfl) x_noX (ki fun r_2 M2_2 hp_2 => ?_)
  obtain ⟨rfl, rfl⟩ := hp_2
  refine x_isub F dX4_isBetter_10 ?_
  refine x_istore_n F [(3, .int ((nI (cntS σ a0)) - (nI (cntS σ b0)))), (0, .ref (m 0)), (1, .int (nI (a0))), (2, .int (nI (b0)))] dX4_isBetter_11 (by decide) rfl ?_
  refine x_aload_n F 1 dX4_isBetter_12 rfl ?_
  refine x_iload_n F 2 dX4_isBetter_13 rfl ?_
  refine x_callV F s_X4_209 hR.1 rfl rfl (c_X4_allOf F.nt hR hB (by omega)) rfl dX4_isBetter_14 (by decide) (by decide) (Nat.le_of_ble_eq_true rfl) x_noX (ki fun r_3 M2_3 hp_3 => ?_)
  obtain ⟨rfl, rfl⟩ := hp_3
  refine x_aload_n F 1 dX4_isBetter_17 rfl ?_
  refine x_iload_n F 3 dX4_isBetter_18 rfl ?_
  refine x_callV F s_X4_209 hR.1 rfl rfl (c_X4_allOf F.nt hR hB (by omega)) rfl dX4_isBetter_19 (by decide) (by decide) (Nat.le_of_ble_eq_true rfl) x_noX (ki fun r_4 M2_4 hp_4 => ?_)
  obtain ⟨rfl, rfl⟩ := hp_4
  refine x_isub F dX4_isBetter_22 ?_
  refine x_istore F [(4, .int ((nI (allS σ a0)) - (nI (allS σ b0)))), (3, .int ((nI (cntS σ a0)) - (nI (cntS σ b0)))), (0, .ref (m 0)), (1, .int (nI (a0))), (2, .int (nI (b0)))] dX4_isBetter_23 (by decide) rfl ?_
  refine x_iload_n F 1 dX4_isBetter_25 rfl ?_
  refine x_if_eq F 41 dX4_isBetter_26 (by decide) (fun c26 => ?_) (fun c26 => ?_)
  · have c26 := (sub_0 (by omega) (by omega)).mp c26
    refine x_iload F 0 dX4_isBetter_41 rfl ?_
    refine x_if_eq F 59 dX4_isBetter_43 (by decide) (fun c43 => ?_) (fun c43 => ?_)
    · have c43 := (sub_0 (by omega) (by omega)).mp c43
      refine x_iload_n F 3 dX4_isBetter_59 rfl ?_
      refine x_iload_n F 4 dX4_isBetter_60 rfl ?_
      refine x_icmp_ge F 68 dX4_isBetter_61 (by decide) (fun c61 => ?_) (fun c61 => ?_)
      · have c61 := (nI_leI (by omega) (by omega)).mp c61
        have c61b := Nat.not_lt.mpr c61
        refine x_iconst F (nI 0) dX4_isBetter_68 (by decide) ?_
        rw [hQ]
        exact x_zret F dX4_isBetter_69 (by decide) (Or.inl rfl) ⟨_, rfl, by unfold btrS; simp [bz, *], rfl⟩
      · have c61 := mt (nI_leI (by omega) (by omega)).mpr c61
        have c61b := Nat.not_le.mp c61
        refine x_iconst F (nI 1) dX4_isBetter_64 (by decide) ?_
        refine x_goto F 69 dX4_isBetter_65 (by decide) ?_
        rw [hQ]
        exact x_zret F dX4_isBetter_69 (by decide) (Or.inr rfl) ⟨_, rfl, by unfold btrS; simp [bz, *], rfl⟩
    · have c43 := mt (sub_0 (by omega) (by omega)).mpr c43
      refine x_iload F 0 dX4_isBetter_46 rfl ?_
      refine x_if_le F 55 dX4_isBetter_48 (by decide) (fun c48 => ?_) (fun c48 => ?_)
      · have c48 := (sub_le0 (by omega) (by omega)).mp c48
        have c49 := Nat.not_lt.mpr c48
        refine x_iconst F (nI 0) dX4_isBetter_55 (by decide) ?_
        refine x_goto F 69 dX4_isBetter_56 (by decide) ?_
        rw [hQ]
        exact x_zret F dX4_isBetter_69 (by decide) (Or.inl rfl) ⟨_, rfl, by unfold btrS; simp [bz, *], rfl⟩
      · have c48 := mt (sub_le0 (by omega) (by omega)).mpr c48
        have c49 := Nat.not_le.mp c48
        refine x_iconst F (nI 1) dX4_isBetter_51 (by decide) ?_
        refine x_goto F 69 dX4_isBetter_52 (by decide) ?_
        rw [hQ]
        exact x_zret F dX4_isBetter_69 (by decide) (Or.inr rfl) ⟨_, rfl, by unfold btrS; simp [bz, *], rfl⟩
  · have c26 := mt (sub_0 (by omega) (by omega)).mpr c26
    refine x_iload_n F 1 dX4_isBetter_29 rfl ?_
    refine x_if_le F 37 dX4_isBetter_30 (by decide) (fun c30 => ?_) (fun c30 => ?_)
    · have c30 := (sub_le0 (by omega) (by omega)).mp c30
      have c31 := Nat.not_lt.mpr c30
      refine x_iconst F (nI 0) dX4_isBetter_37 (by decide) ?_
      refine x_goto F 69 dX4_isBetter_38 (by decide) ?_
      rw [hQ]
      exact x_zret F dX4_isBetter_69 (by decide) (Or.inl rfl) ⟨_, rfl, by unfold btrS; simp [bz, *], rfl⟩
    · have c30 := mt (sub_le0 (by omega) (by omega)).mpr c30
      have c31 := Nat.not_le.mp c30
      refine x_iconst F (nI 1) dX4_isBetter_33 (by decide) ?_
      refine x_goto F 69 dX4_isBetter_34 (by decide) ?_
      rw [hQ]
      exact x_zret F dX4_isBetter_69 (by decide) (Or.inr rfl) ⟨_, rfl, by unfold btrS; simp [bz, *], rfl⟩
set_option maxHeartbeats 4000000 in
set_option maxRecDepth 100000 in
theorem c_X4_riderOf {l : Launch} (hl : l.stackTraces = false) {g : GP} {M : MM} {m : Nat → Nat} {M0 : MM} {σ : ST} {x0 : Int32} (hR : RM g m M0 σ M) (hB : Bd σ) : CT l g yX4_riderOf cX4_riderOf 6 (some .int) 3 72 0 0 [.ref (m 0), .int (x0)] M (pI (fun r9 M9 => rdrS σ x0 (σ.1 7 0) = r9 ∧ M = M9)) nX := by
  refine ct_of [(0, .ref (m 0)), (1, .int (x0))] (by decide) hl (Nat.le_of_ble_eq_true rfl) rfl ?_
  intro K hK F
  subst hK
  have F : Fx K g cX4_riderOf RX4 6 (some .int) [] 3 72 0 0 := F
  obtain ⟨Q, hQ⟩ : ∃ Q, Q = MQx K g (pI (fun r9 M9 => rdrS σ x0 (σ.1 7 0) = r9 ∧ M = M9)) nX 0 0 := ⟨_, rfl⟩
  rw [← hQ]
  have hB9 := hB
  obtain ⟨h6, h7, h18, hr8, hk96, hp96, hb16, hh⟩ := hB9
  refine x_iconst F ((-1)) dX4_riderOf_0 (by decide) ?_
  refine x_istore_n F [(2, .int ((-1))), (0, .ref (m 0)), (1, .int (x0))] dX4_riderOf_1 (by decide) rfl ?_
  refine x_iconst F (nI 0) dX4_riderOf_2 (by decide) ?_
  refine x_istore_n F [(3, .int (nI (0))), (2, .int ((-1))), (0, .ref (m 0)), (1, .int (x0))] dX4_riderOf_3 (by decide) rfl ?_
  have LP4 : ∀ k, k ≤ (σ.1 7 0) → ∀ (v4_2 : Int32) (v4_3 : Int32), v4_2 = rdrS σ x0 k → v4_3 = nI (k) → XW K g 6 Q M 0 0 4 [(3, .int (v4_3)), (2, .int (v4_2)), (0, .ref (m 0)), (1, .int (x0))] [] := by
    refine x_loop ((σ.1 7 0)) _ (fun k hk ihk => ?_)
    intro v4_2 v4_3 e4_2 e4_3
    subst e4_2
    subst e4_3
    refine x_iload_n F 0 dX4_riderOf_4 rfl ?_
    refine x_aload_n F 2 dX4_riderOf_5 rfl ?_
    refine x_fget F f_X4_107 hR.1 (v := .int (nI (σ.1 7 0))) dX4_riderOf_6 rfl ?_
    refine x_icmp_ge F 77 dX4_riderOf_9 (by decide) (fun c9 => ?_) (fun c9 => ?_)
    · have c9 := (nI_leI (by omega) (by omega)).mp c9
      have c9b := Nat.not_lt.mpr c9
      refine x_iload_n F 1 dX4_riderOf_77 rfl ?_
      rw [hQ]
      exact x_iret F dX4_riderOf_78 (by decide) ⟨_, rfl, by have h9 : k = σ.1 7 0 := (by omega); subst h9; rfl, rfl⟩
    · have c9 := mt (nI_leI (by omega) (by omega)).mpr c9
      have c9b := Nat.not_le.mp c9
      refine x_iconst F (nI 0) dX4_riderOf_12 (by decide) ?_
      refine x_istore F [(4, .int (nI (0))), (3, .int (nI (k))), (2, .int (rdrS σ x0 k)), (0, .ref (m 0)), (1, .int (x0))] dX4_riderOf_13 (by decide) rfl ?_
      refine x_iconst F (nI 0) dX4_riderOf_15 (by decide) ?_
      refine x_istore F [(5, .int (nI (0))), (4, .int (nI (0))), (3, .int (nI (k))), (2, .int (rdrS σ x0 k)), (0, .ref (m 0)), (1, .int (x0))] dX4_riderOf_16 (by decide) rfl ?_
      have LP18 : ∀ e, e ≤ (σ.1 7 0) → ∀ (v18_4 : Int32) (v18_5 : Int32), v18_4 = nI (fb_ct (fun e => decide (¬ e = k) && btrS σ e k) e) → v18_5 = nI (e) → XW K g 6 Q M 0 0 18 [(5, .int (v18_5)), (4, .int (v18_4)), (3, .int (nI (k))), (2, .int (rdrS σ x0 k)), (0, .ref (m 0)), (1, .int (x0))] [] := by
        refine x_loop ((σ.1 7 0)) _ (fun e he ihe => ?_)
        intro v18_4 v18_5 e18_4 e18_5
        subst e18_4
        subst e18_5
        refine x_iload F 0 dX4_riderOf_18 rfl ?_
        refine x_aload_n F 4 dX4_riderOf_20 rfl ?_
        refine x_fget F f_X4_107 hR.1 (v := .int (nI (σ.1 7 0))) dX4_riderOf_21 rfl ?_
        refine x_icmp_ge F 59 dX4_riderOf_24 (by decide) (fun c24 => ?_) (fun c24 => ?_)
        · have c24 := (nI_leI (by omega) (by omega)).mp c24
          have c24b := Nat.not_lt.mpr c24
          refine x_sub [1, 2, 3, 4, 5] rfl (L' := [(4, .int (nI (fb_ct (fun e => decide (¬ e = k) && btrS σ e k) e))), (3, .int (nI (k))), (2, .int (rdrS σ x0 k)), (0, .ref (m 0)), (1, .int (x0))]) ?_
          have h8 : e = σ.1 7 0 := by omega
          subst h8
          refine x_sub [0, 1, 2, 3, 4] rfl (L' := [(4, .int (nI (rkrS σ k))), (3, .int (nI (k))), (2, .int (rdrS σ x0 k)), (0, .ref (m 0)), (1, .int (x0))]) ?_
          refine x_iload F 0 dX4_riderOf_59 rfl ?_
          refine x_iload_n F 4 dX4_riderOf_61 rfl ?_
          refine x_icmp_ne F 69 dX4_riderOf_62 (by decide) (fun c62 => ?_) (fun c62 => ?_)
          · have d62 := c62
            refine x_iload_n F 2 dX4_riderOf_69 rfl ?_
            refine x_istore_n F [(2, .int (rdrS σ x0 k)), (4, .int (nI (rkrS σ k))), (3, .int (nI (k))), (0, .ref (m 0)), (1, .int (x0))] dX4_riderOf_70 (by decide) rfl ?_
            refine x_iinc F 2 [(3, .int (nI (k + 1))), (2, .int (rdrS σ x0 k)), (4, .int (nI (rkrS σ k))), (0, .ref (m 0)), (1, .int (x0))] dX4_riderOf_71 rfl (iincN (k) 1) (by decide) rfl ?_
            refine x_goto F 4 dX4_riderOf_74 (by decide) ?_
            refine x_sub [0, 1, 3, 4] rfl (L' := [(3, .int (nI (k + 1))), (2, .int (rdrS σ x0 k)), (0, .ref (m 0)), (1, .int (x0))]) ?_
            exact ihk (by omega) _ _ (by simp only [rdrS]; first | rw [if_pos d62] | rw [if_neg d62]) (rfl)
          · have d62 := c62
            refine x_iload_n F 1 dX4_riderOf_65 rfl ?_
            refine x_goto F 70 dX4_riderOf_66 (by decide) ?_
            refine x_istore_n F [(2, .int (nI (k))), (4, .int (nI (rkrS σ k))), (3, .int (nI (k))), (0, .ref (m 0)), (1, .int (x0))] dX4_riderOf_70 (by decide) rfl ?_
            refine x_iinc F 2 [(3, .int (nI (k + 1))), (2, .int (nI (k))), (4, .int (nI (rkrS σ k))), (0, .ref (m 0)), (1, .int (x0))] dX4_riderOf_71 rfl (iincN (k) 1) (by decide) rfl ?_
            refine x_goto F 4 dX4_riderOf_74 (by decide) ?_
            refine x_sub [0, 1, 3, 4] rfl (L' := [(3, .int (nI (k + 1))), (2, .int (nI (k))), (0, .ref (m 0)), (1, .int (x0))]) ?_
            exact ihk (by omega) _ _ (by simp only [rdrS]; first | rw [if_pos d62] | rw [if_neg d62]) (rfl)
        · have c24 := mt (nI_leI (by omega) (by omega)).mpr c24
          have c24b := Nat.not_le.mp c24
          refine x_iload F 1 dX4_riderOf_27 rfl ?_
          have J50 : ∀ (v4 : Int32), v4 = nI (bz (decide (¬ e = k) && btrS σ e k)) → XW K g 6 Q M 0 0 50 [(5, .int (nI (e))), (4, .int (nI (fb_ct (fun e => decide (¬ e = k) && btrS σ e k) e))), (3, .int (nI (k))), (2, .int (rdrS σ x0 k)), (0, .ref (m 0)), (1, .int (x0))] [.int (v4), .int (nI (fb_ct (fun e => decide (¬ e = k) && btrS σ e k) e))] := by
            intro v4 ej50_v4
            subst ej50_v4
            refine x_iaddN F dX4_riderOf_50 ?_
            refine x_istore F [(4, .int (nI ((fb_ct (fun e => decide (¬ e = k) && btrS σ e k) e) + (bz (decide (¬ e = k) && btrS σ e k))))), (5, .int (nI (e))), (3, .int (nI (k))), (2, .int (rdrS σ x0 k)), (0, .ref (m 0)), (1, .int (x0))] dX4_riderOf_51 (by decide) rfl ?_
            refine x_iinc F 1 [(5, .int (nI (e + 1))), (4, .int (nI ((fb_ct (fun e => decide (¬ e = k) && btrS σ e k) e) + (bz (decide (¬ e = k) && btrS σ e k))))), (3, .int (nI (k))), (2, .int (rdrS σ x0 k)), (0, .ref (m 0)), (1, .int (x0))] dX4_riderOf_53 rfl (iincN (e) 1) (by decide) rfl ?_
            refine x_goto F 18 dX4_riderOf_56 (by decide) ?_
            exact ihe (by omega) _ _ (by rw [fb_ct_succ]; rfl) (rfl)
          refine x_iload F 0 dX4_riderOf_29 rfl ?_
          refine x_iload_n F 2 dX4_riderOf_31 rfl ?_
          refine x_icmp_eq F 49 dX4_riderOf_32 (by decide) (fun c32 => ?_) (fun c32 => ?_)
          · have c32 := (nI_eq (by omega) (by omega)).mp c32
            refine x_iconst F (nI 0) dX4_riderOf_49 (by decide) ?_
            exact J50 _ (by simp [bz, *])
          · have c32 := mt (nI_eq (by omega) (by omega)).mpr c32
            refine x_aload_n F 4 dX4_riderOf_35 rfl ?_
            refine x_iload F 0 dX4_riderOf_36 rfl ?_
            refine x_iload_n F 2 dX4_riderOf_38 rfl ?_
            refine x_callV F s_X4_212 hR.1 rfl rfl (c_X4_isBetter F.nt hR hB (by omega) (by omega)) rfl dX4_riderOf_39 (by decide) (by decide) (Nat.le_of_ble_eq_true rfl) x_noX (ki fun r M2 hp => ?_)
            obtain ⟨rfl, rfl⟩ := hp
            refine x_if_eq F 49 dX4_riderOf_42 (by decide) (fun c42 => ?_) (fun c42 => ?_)
            · have c42 := nI_bz0.mp c42
              refine x_iconst F (nI 0) dX4_riderOf_49 (by decide) ?_
              exact J50 _ (by simp [bz, *])
            · have c42 := nI_bz1.mp c42
              refine x_iconst F (nI 1) dX4_riderOf_45 (by decide) ?_
              refine x_goto F 50 dX4_riderOf_46 (by decide) ?_
              exact J50 _ (by simp [bz, *])
      exact LP18 0 (by omega) _ _ (rfl) (rfl)
  exact LP4 0 (by omega) _ _ (rfl) (rfl)
set_option maxHeartbeats 4000000 in
set_option maxRecDepth 100000 in
theorem c_X4_ranked {l : Launch} (hl : l.stackTraces = false) {g : GP} {M : MM} {m : Nat → Nat} {M0 : MM} {σ : ST} {x0 : Int32} (hR : RM g m M0 σ M) (hB : Bd σ) : CT l g yX4_ranked cX4_ranked 2 (some .int) 4 97 0 0 [.ref (m 0), .int (x0)] M (pI (fun r9 M9 => RM g m M0 (uN σ 0 0 (cdRk x0)) M9 ∧ (cdRk x0 = 0 → r9 = rdrS σ x0 (σ.1 7 0)))) nX := by
  refine ct_of [(0, .ref (m 0)), (1, .int (x0))] (by decide) hl (Nat.le_of_ble_eq_true rfl) rfl ?_
  intro K hK F
  subst hK
  have F : Fx K g cX4_ranked RX4 2 (some .int) [] 4 97 0 0 := F
  obtain ⟨Q, hQ⟩ : ∃ Q, Q = MQx K g (pI (fun r9 M9 => RM g m M0 (uN σ 0 0 (cdRk x0)) M9 ∧ (cdRk x0 = 0 → r9 = rdrS σ x0 (σ.1 7 0)))) nX 0 0 := ⟨_, rfl⟩
  rw [← hQ]
  have hB9 := hB
  obtain ⟨h6, h7, h18, hr8, hk96, hp96, hb16, hh⟩ := hB9
  refine x_aload_n F 0 dX4_ranked_0 rfl ?_
  have J16 : ∀ (vj : Int32), vj = nI (cdRk x0) → XW K g 2 Q M 0 0 16 [(0, .ref (m 0)), (1, .int (x0))] [.int (vj), .ref (m 0)] := by
    intro vj ej16_vj
    subst ej16_vj
    refine x_callV F s_X4_113 hR.1 rfl rfl (c_X4_holds F.nt hR (lt_cdRk)) rfl dX4_ranked_16 (by decide) (by decide) (Nat.le_of_ble_eq_true rfl) x_noX (ki fun r M2 hp => ?_)
    obtain ⟨rfl, hR0⟩ := hp
    obtain ⟨σ0, eσ0⟩ : ∃ z, z = uN σ 0 0 ((cdRk x0)) := ⟨_, rfl⟩
    rw [← eσ0] at hR0
    have hBσ0 : Bd σ0 := eσ0 ▸ Bd_u0 hB
    refine x_if_eq F 30 dX4_ranked_19 (by decide) (fun c19 => ?_) (fun c19 => ?_)
    · have c19 := nI_bz0.mp c19
      have c19 := of_decide_eq_false c19
      refine x_iconst F (nI 0) dX4_ranked_30 (by decide) ?_
      rw [hQ]
      exact x_iret F dX4_ranked_31 (by decide) ⟨_, rfl, eσ0 ▸ hR0, fun h9 => (by first | exact absurd h9 c19 | (rw [eσ0]; exact rdrS_0))⟩
    · have c19 := nI_bz1.mp c19
      have c19 := of_decide_eq_true c19
      refine x_aload_n F 0 dX4_ranked_22 rfl ?_
      refine x_iload_n F 1 dX4_ranked_23 rfl ?_
      refine x_callV F s_X4_215 hR0.1 rfl rfl (c_X4_riderOf F.nt hR0 hBσ0) rfl dX4_ranked_24 (by decide) (by decide) (Nat.le_of_ble_eq_true rfl) x_noX (ki fun r_2 M2_2 hp_2 => ?_)
      obtain ⟨rfl, rfl⟩ := hp_2
      refine x_goto F 31 dX4_ranked_27 (by decide) ?_
      rw [hQ]
      exact x_iret F dX4_ranked_31 (by decide) ⟨_, rfl, eσ0 ▸ hR0, fun h9 => (by first | exact absurd h9 c19 | (rw [eσ0]; exact rdrS_0))⟩
  refine x_iload_n F 1 dX4_ranked_1 rfl ?_
  refine x_iconst F (nI 0) dX4_ranked_2 (by decide) ?_
  refine x_bipush F (nI 11) dX4_ranked_3 (by decide) ?_
  refine x_callS F s_X4_103 rfl (c_X4_isIn F.nt ) rfl dX4_ranked_5 (by decide) (by decide) (Nat.le_of_ble_eq_true rfl) x_noX (ki fun r_3 M2_3 hp_3 => ?_)
  obtain ⟨rfl, rfl⟩ := hp_3
  refine x_if_eq F 15 dX4_ranked_8 (by decide) (fun c8 => ?_) (fun c8 => ?_)
  · have c8 := nI_bz0.mp c8
    refine x_iconst F (nI 1) dX4_ranked_15 (by decide) ?_
    exact J16 _ (by simp [cdRk, *])
  · have c8 := nI_bz1.mp c8
    refine x_iconst F (nI 0) dX4_ranked_11 (by decide) ?_
    refine x_goto F 16 dX4_ranked_12 (by decide) ?_
    exact J16 _ (by simp [cdRk, *])
set_option maxHeartbeats 4000000 in
set_option maxRecDepth 100000 in
theorem c_X4_isBalanced {l : Launch} (hl : l.stackTraces = false) {g : GP} {M : MM} {m : Nat → Nat} {M0 : MM} {σ : ST} {r : Nat} (hR : RM g m M0 σ M) (hB : Bd σ) (hr : r < 8) : CT l g yX4_isBalanced cX4_isBalanced 4 (some .boolean) 3 65 0 0 [.ref (m 0), .int (nI (r))] M (pI (fun r9 M9 => nI (bz (balR σ r)) = r9 ∧ M = M9)) nX := by
  refine ct_of [(0, .ref (m 0)), (1, .int (nI (r)))] (by decide) hl (Nat.le_of_ble_eq_true rfl) rfl ?_
  intro K hK F
  subst hK
  have F : Fx K g cX4_isBalanced RX4 4 (some .boolean) [] 3 65 0 0 := F
  obtain ⟨Q, hQ⟩ : ∃ Q, Q = MQx K g (pI (fun r9 M9 => nI (bz (balR σ r)) = r9 ∧ M = M9)) nX 0 0 := ⟨_, rfl⟩
  rw [← hQ]
  have hB9 := hB
  obtain ⟨h6, h7, h18, hr8, hk96, hp96, hb16, hh⟩ := hB9
  have b1 := hr8 r hr
  refine x_aload_n F 0 dX4_isBalanced_0 rfl ?_
  refine x_fget F f_X4_50 hR.1 (v := .ref (rA m 16)) dX4_isBalanced_1 rfl ?_
  refine x_iload_n F 1 dX4_isBalanced_4 rfl ?_
  refine x_mldR F hR 16 rfl (fun _ _ => rfl) dX4_isBalanced_5 (by show _ < 8; omega) ?_
  refine x_istore_n F [(2, .int (σ.2.1 16 (r))), (0, .ref (m 0)), (1, .int (nI (r)))] dX4_isBalanced_6 (by decide) rfl ?_
  refine x_iload_n F 2 dX4_isBalanced_7 rfl ?_
  refine x_iconst F (nI 0) dX4_isBalanced_8 (by decide) ?_
  refine x_callS F s_X4_118 rfl (c_X4_at F.nt ) rfl dX4_isBalanced_9 (by decide) (by decide) (Nat.le_of_ble_eq_true rfl) x_noX (ki fun r M2 hp => ?_)
  obtain ⟨rfl, rfl⟩ := hp
  refine x_istore_n F [(3, .int (nI (12 * r + 0))), (2, .int (σ.2.1 16 (r))), (0, .ref (m 0)), (1, .int (nI (r)))] dX4_isBalanced_12 (by decide) rfl ?_
  have LP13 : ∀ i, i ≤ 12 → ∀ (v13_2 : Int32) (v13_3 : Int32), v13_2 = sumS σ r i → v13_3 = nI (12 * r + i) → XW K g 4 Q M 0 0 13 [(3, .int (v13_3)), (2, .int (v13_2)), (0, .ref (m 0)), (1, .int (nI (r)))] [] := by
    refine x_loop 12 _ (fun i hi ihi => ?_)
    intro v13_2 v13_3 e13_2 e13_3
    subst e13_2
    subst e13_3
    refine x_iload_n F 0 dX4_isBalanced_13 rfl ?_
    refine x_iload_n F 3 dX4_isBalanced_14 rfl ?_
    refine x_iconst F (nI 1) dX4_isBalanced_15 (by decide) ?_
    refine x_iaddN F dX4_isBalanced_16 ?_
    refine x_iconst F (nI 0) dX4_isBalanced_17 (by decide) ?_
    refine x_callS F s_X4_118 rfl (c_X4_at F.nt ) rfl dX4_isBalanced_18 (by decide) (by decide) (Nat.le_of_ble_eq_true rfl) x_noX (ki fun r_2 M2_2 hp_2 => ?_)
    obtain ⟨rfl, rfl⟩ := hp_2
    refine x_icmp_ge F 39 dX4_isBalanced_21 (by decide) (fun c21 => ?_) (fun c21 => ?_)
    · have c21 := (nI_leI (by omega) (by omega)).mp c21
      have c21b := Nat.not_lt.mpr c21
      refine x_sub [1, 2, 3] rfl (L' := [(2, .int (sumS σ r i)), (0, .ref (m 0)), (1, .int (nI (r)))]) ?_
      have h9 : i = 12 := by omega
      subst h9
      refine x_aload_n F 1 dX4_isBalanced_39 rfl ?_
      refine x_fget F f_X4_47 hR.1 (v := .ref (rA m 15)) dX4_isBalanced_40 rfl ?_
      refine x_iload_n F 2 dX4_isBalanced_43 rfl ?_
      refine x_mld F hR 15 rfl (fun _ _ => rfl) dX4_isBalanced_44 (by show _ < 8; omega) ?_
      refine x_iconst F (nI 3) dX4_isBalanced_45 (by decide) ?_
      refine x_icmp_ne F 58 dX4_isBalanced_46 (by decide) (fun c46 => ?_) (fun c46 => ?_)
      · have c46 := mt (nI_eq (by omega) (by omega)).mpr c46
        have d46 := c46
        refine x_iconst F (nI 1) dX4_isBalanced_58 (by decide) ?_
        refine x_goto F 63 dX4_isBalanced_59 (by decide) ?_
        rw [hQ]
        exact x_zret F dX4_isBalanced_63 (by decide) (Or.inr rfl) ⟨_, rfl, by unfold balR; simp [bz, *], rfl⟩
      · have c46 := (nI_eq (by omega) (by omega)).mp c46
        have d46 := c46
        refine x_iload_n F 0 dX4_isBalanced_49 rfl ?_
        refine x_aload_n F 1 dX4_isBalanced_50 rfl ?_
        refine x_iload_n F 2 dX4_isBalanced_51 rfl ?_
        refine x_callV F s_X4_126 hR.1 rfl rfl (c_X4_pot F.nt hR (by omega) (by omega)) rfl dX4_isBalanced_52 (by decide) (by decide) (Nat.le_of_ble_eq_true rfl) x_noX (ki fun r_3 M2_3 hp_3 => ?_)
        obtain ⟨rfl, rfl⟩ := hp_3
        refine x_icmp_ne F 62 dX4_isBalanced_55 (by decide) (fun c55 => ?_) (fun c55 => ?_)
        · have d55 := c55
          refine x_iconst F (nI 0) dX4_isBalanced_62 (by decide) ?_
          rw [hQ]
          exact x_zret F dX4_isBalanced_63 (by decide) (Or.inl rfl) ⟨_, rfl, by unfold balR; simp [bz, *], rfl⟩
        · have d55 := c55
          refine x_iconst F (nI 1) dX4_isBalanced_58 (by decide) ?_
          refine x_goto F 63 dX4_isBalanced_59 (by decide) ?_
          rw [hQ]
          exact x_zret F dX4_isBalanced_63 (by decide) (Or.inr rfl) ⟨_, rfl, by unfold balR; simp [bz, *], rfl⟩
    · have c21 := mt (nI_leI (by omega) (by omega)).mpr c21
      have c21b := Nat.not_le.mp c21
      refine x_iload_n F 1 dX4_isBalanced_24 rfl ?_
      refine x_aload_n F 2 dX4_isBalanced_25 rfl ?_
      refine x_fget F f_X4_87 hR.1 (v := .ref (rA m 29)) dX4_isBalanced_26 rfl ?_
      refine x_iload_n F 0 dX4_isBalanced_29 rfl ?_
      refine x_mld F hR 29 rfl (fun _ _ => rfl) dX4_isBalanced_30 (by show _ < 96; omega) ?_
      refine x_iadd F dX4_isBalanced_31 ?_
      refine x_istore_n F [(2, .int ((sumS σ r i) + (nI (σ.1 29 (12 * r + i))))), (3, .int (nI (12 * r + i))), (0, .ref (m 0)), (1, .int (nI (r)))] dX4_isBalanced_32 (by decide) rfl ?_
      refine x_iinc F 1 [(3, .int (nI (12 * r + i + 1))), (2, .int ((sumS σ r i) + (nI (σ.1 29 (12 * r + i))))), (0, .ref (m 0)), (1, .int (nI (r)))] dX4_isBalanced_33 rfl (iincN (12 * r + i) 1) (by decide) rfl ?_
      refine x_goto F 13 dX4_isBalanced_36 (by decide) ?_
      exact ihi (by omega) _ _ (rfl) (rfl)
  exact LP13 0 (by omega) _ _ (rfl) (rfl)
set_option maxHeartbeats 4000000 in
set_option maxRecDepth 100000 in
theorem c_X4_balances {l : Launch} (hl : l.stackTraces = false) {g : GP} {M : MM} {m : Nat → Nat} {M0 : MM} {σ : ST}  (hR : RM g m M0 σ M) (hB : Bd σ) : CT l g yX4_balances cX4_balances 3 (some .boolean) 4 88 0 0 [.ref (m 0)] M (pI (fun r9 M9 => RM g m M0 (uN σ 0 0 0) M9 ∧ r9 = nI (bz (balS (uN σ 0 0 0))))) nX := by
  refine ct_of [(0, .ref (m 0))] (by decide) hl (Nat.le_of_ble_eq_true rfl) rfl ?_
  intro K hK F
  subst hK
  have F : Fx K g cX4_balances RX4 3 (some .boolean) [] 4 88 0 0 := F
  obtain ⟨Q, hQ⟩ : ∃ Q, Q = MQx K g (pI (fun r9 M9 => RM g m M0 (uN σ 0 0 0) M9 ∧ r9 = nI (bz (balS (uN σ 0 0 0))))) nX 0 0 := ⟨_, rfl⟩
  rw [← hQ]
  have hB9 := hB
  obtain ⟨h6, h7, h18, hr8, hk96, hp96, hb16, hh⟩ := hB9
  refine x_aload_n F 0 dX4_balances_0 rfl ?_
  refine x_iconst F (nI 0) dX4_balances_1 (by decide) ?_
  refine x_mput F hR p_X4_97 (by decide) dX4_balances_2 (fun M1 hR1 => ?_)
  obtain ⟨σ0, eσ0⟩ : ∃ z, z = (uN σ 0 0 (0)) := ⟨_, rfl⟩
  rw [← eσ0] at hR1
  have hB0 : Bd σ0 := eσ0 ▸ Bd_u0 hB
  have e18 : σ0.1 18 0 ≤ 8 := hB0.2.2.1
  have e6 : σ0.1 6 0 ≤ 16 := hB0.1
  refine x_iconst F (nI 1) dX4_balances_5 (by decide) ?_
  refine x_istore_n F [(1, .int (nI (1))), (0, .ref (m 0))] dX4_balances_6 (by decide) rfl ?_
  refine x_iconst F (nI 0) dX4_balances_7 (by decide) ?_
  refine x_istore_n F [(2, .int (nI (0))), (1, .int (nI (1))), (0, .ref (m 0))] dX4_balances_8 (by decide) rfl ?_
  have LP9 : ∀ i, i ≤ (σ0.1 18 0) → ∀ (v9_1 : Int32) (v9_2 : Int32), v9_1 = nI (bz (allB (balR σ0) i)) → v9_2 = nI (i) → XW K g 3 Q M1 0 0 9 [(2, .int (v9_2)), (1, .int (v9_1)), (0, .ref (m 0))] [] := by
    refine x_loop ((σ0.1 18 0)) _ (fun i hi ihi => ?_)
    intro v9_1 v9_2 e9_1 e9_2
    subst e9_1
    subst e9_2
    refine x_iload_n F 0 dX4_balances_9 rfl ?_
    refine x_aload_n F 2 dX4_balances_10 rfl ?_
    refine x_fget F f_X4_110 hR1.1 (v := .int (nI (σ0.1 18 0))) dX4_balances_11 rfl ?_
    refine x_icmp_ge F 41 dX4_balances_14 (by decide) (fun c14 => ?_) (fun c14 => ?_)
    · have c14 := (nI_leI (by omega) (by omega)).mp c14
      have c14b := Nat.not_lt.mpr c14
      refine x_sub [1, 2] rfl (L' := [(1, .int (nI (bz (allB (balR σ0) i)))), (0, .ref (m 0))]) ?_
      have h9 : i = σ0.1 18 0 := by omega
      subst h9
      refine x_iconst F (nI 0) dX4_balances_41 (by decide) ?_
      refine x_istore_n F [(2, .int (nI (0))), (1, .int (nI (bz (allB (balR σ0) (σ0.1 18 0))))), (0, .ref (m 0))] dX4_balances_42 (by decide) rfl ?_
      have LP43 : ∀ k, k ≤ (σ0.1 6 0) → ∀ (v43_1 : Int32) (v43_2 : Int32), v43_1 = nI (bz (allB (balR σ0) (σ0.1 18 0) && allB (dayB σ0) k)) → v43_2 = nI (k) → XW K g 3 Q M1 0 0 43 [(2, .int (v43_2)), (1, .int (v43_1)), (0, .ref (m 0))] [] := by
        refine x_loop ((σ0.1 6 0)) _ (fun k hk ihk => ?_)
        intro v43_1 v43_2 e43_1 e43_2
        subst e43_1
        subst e43_2
        refine x_iload_n F 0 dX4_balances_43 rfl ?_
        refine x_aload_n F 2 dX4_balances_44 rfl ?_
        refine x_fget F f_X4_100 hR1.1 (v := .int (nI (σ0.1 6 0))) dX4_balances_45 rfl ?_
        refine x_icmp_ge F 91 dX4_balances_48 (by decide) (fun c48 => ?_) (fun c48 => ?_)
        · have c48 := (nI_leI (by omega) (by omega)).mp c48
          have c48b := Nat.not_lt.mpr c48
          refine x_iload_n F 1 dX4_balances_91 rfl ?_
          rw [hQ]
          exact x_zret F dX4_balances_92 (by decide) (bz_01 _) ⟨_, rfl, eσ0 ▸ hR1, by have h9 : k = σ0.1 6 0 := (by omega); rw [h9, ← eσ0]; rfl⟩
        · have c48 := mt (nI_leI (by omega) (by omega)).mpr c48
          have c48b := Nat.not_le.mp c48
          refine x_iload_n F 1 dX4_balances_51 rfl ?_
          refine x_if_eq F 83 dX4_balances_52 (by decide) (fun c52 => ?_) (fun c52 => ?_)
          · have c52 := nI_bz0.mp c52
            refine x_iconst F (nI 0) dX4_balances_83 (by decide) ?_
            refine x_istore_n F [(1, .int (nI (0))), (2, .int (nI (k))), (0, .ref (m 0))] dX4_balances_84 (by decide) rfl ?_
            refine x_iinc F 1 [(2, .int (nI (k + 1))), (1, .int (nI (0))), (0, .ref (m 0))] dX4_balances_85 rfl (iincN (k) 1) (by decide) rfl ?_
            refine x_goto F 43 dX4_balances_88 (by decide) ?_
            exact ihk (by omega) _ _ (by simp only [allB]; rw [← Bool.and_assoc, c52]; first | rfl | (rw [dayB_t d76]; rfl) | (rw [dayB_f d76]; rfl)) (rfl)
          · have c52 := nI_bz1.mp c52
            refine x_aload_n F 2 dX4_balances_55 rfl ?_
            refine x_fget F f_X4_22 hR1.1 (v := .ref (rA m 5)) dX4_balances_56 rfl ?_
            refine x_iload_n F 0 dX4_balances_59 rfl ?_
            refine x_mldD F hR1 dX4_balances_60 (by omega) ?_
            refine x_aload_n F 2 dX4_balances_61 rfl ?_
            refine x_fget F f_X4_22 hR1.1 (v := .ref (rA m 5)) dX4_balances_62 rfl ?_
            refine x_iload_n F 0 dX4_balances_65 rfl ?_
            refine x_mldD F hR1 dX4_balances_66 (by omega) ?_
            refine x_iconst F (nI 1) dX4_balances_67 (by decide) ?_
            refine x_lshr F dX4_balances_68 ?_
            refine x_land F dX4_balances_69 ?_
            refine x_ldc2 F 9223372036854775807 k_X4_221 dX4_balances_70 ?_
            refine x_land F dX4_balances_73 ?_
            refine x_lconst F 0 dX4_balances_74 (by decide) ?_
            refine x_lcmp F dX4_balances_75 ?_
            refine x_if_ne F 83 dX4_balances_76 (by decide) (fun c76 => ?_) (fun c76 => ?_)
            · have d76 := mt (lg_cmp_eq _ _).mpr c76
              refine x_iconst F (nI 0) dX4_balances_83 (by decide) ?_
              refine x_istore_n F [(1, .int (nI (0))), (2, .int (nI (k))), (0, .ref (m 0))] dX4_balances_84 (by decide) rfl ?_
              refine x_iinc F 1 [(2, .int (nI (k + 1))), (1, .int (nI (0))), (0, .ref (m 0))] dX4_balances_85 rfl (iincN (k) 1) (by decide) rfl ?_
              refine x_goto F 43 dX4_balances_88 (by decide) ?_
              exact ihk (by omega) _ _ (by simp only [allB]; rw [← Bool.and_assoc, c52]; first | rfl | (rw [dayB_t d76]; rfl) | (rw [dayB_f d76]; rfl)) (rfl)
            · have d76 := (lg_cmp_eq _ _).mp c76
              refine x_iconst F (nI 1) dX4_balances_79 (by decide) ?_
              refine x_goto F 84 dX4_balances_80 (by decide) ?_
              refine x_istore_n F [(1, .int (nI (1))), (2, .int (nI (k))), (0, .ref (m 0))] dX4_balances_84 (by decide) rfl ?_
              refine x_iinc F 1 [(2, .int (nI (k + 1))), (1, .int (nI (1))), (0, .ref (m 0))] dX4_balances_85 rfl (iincN (k) 1) (by decide) rfl ?_
              refine x_goto F 43 dX4_balances_88 (by decide) ?_
              exact ihk (by omega) _ _ (by simp only [allB]; rw [← Bool.and_assoc, c52]; first | rfl | (rw [dayB_t d76]; rfl) | (rw [dayB_f d76]; rfl)) (rfl)
      exact LP43 0 (by omega) _ _ (by simp [allB]) (rfl)
    · have c14 := mt (nI_leI (by omega) (by omega)).mpr c14
      have c14b := Nat.not_le.mp c14
      refine x_iload_n F 1 dX4_balances_17 rfl ?_
      refine x_if_eq F 33 dX4_balances_18 (by decide) (fun c18 => ?_) (fun c18 => ?_)
      · have c18 := nI_bz0.mp c18
        refine x_iconst F (nI 0) dX4_balances_33 (by decide) ?_
        refine x_istore_n F [(1, .int (nI (0))), (2, .int (nI (i))), (0, .ref (m 0))] dX4_balances_34 (by decide) rfl ?_
        refine x_iinc F 1 [(2, .int (nI (i + 1))), (1, .int (nI (0))), (0, .ref (m 0))] dX4_balances_35 rfl (iincN (i) 1) (by decide) rfl ?_
        refine x_goto F 9 dX4_balances_38 (by decide) ?_
        exact ihi (by omega) _ _ (by simp only [allB]; rw [c18]; first | rfl | (rw [c26]; rfl)) (rfl)
      · have c18 := nI_bz1.mp c18
        refine x_aload_n F 2 dX4_balances_21 rfl ?_
        refine x_iload_n F 0 dX4_balances_22 rfl ?_
        refine x_callV F s_X4_218 hR1.1 rfl rfl (c_X4_isBalanced F.nt hR1 hB0 (by omega)) rfl dX4_balances_23 (by decide) (by decide) (Nat.le_of_ble_eq_true rfl) x_noX (ki fun r M2 hp => ?_)
        obtain ⟨rfl, rfl⟩ := hp
        refine x_if_eq F 33 dX4_balances_26 (by decide) (fun c26 => ?_) (fun c26 => ?_)
        · have c26 := nI_bz0.mp c26
          refine x_iconst F (nI 0) dX4_balances_33 (by decide) ?_
          refine x_istore_n F [(1, .int (nI (0))), (2, .int (nI (i))), (0, .ref (m 0))] dX4_balances_34 (by decide) rfl ?_
          refine x_iinc F 1 [(2, .int (nI (i + 1))), (1, .int (nI (0))), (0, .ref (m 0))] dX4_balances_35 rfl (iincN (i) 1) (by decide) rfl ?_
          refine x_goto F 9 dX4_balances_38 (by decide) ?_
          exact ihi (by omega) _ _ (by simp only [allB]; rw [c18]; first | rfl | (rw [c26]; rfl)) (rfl)
        · have c26 := nI_bz1.mp c26
          refine x_iconst F (nI 1) dX4_balances_29 (by decide) ?_
          refine x_goto F 34 dX4_balances_30 (by decide) ?_
          refine x_istore_n F [(1, .int (nI (1))), (2, .int (nI (i))), (0, .ref (m 0))] dX4_balances_34 (by decide) rfl ?_
          refine x_iinc F 1 [(2, .int (nI (i + 1))), (1, .int (nI (1))), (0, .ref (m 0))] dX4_balances_35 rfl (iincN (i) 1) (by decide) rfl ?_
          refine x_goto F 9 dX4_balances_38 (by decide) ?_
          exact ihi (by omega) _ _ (by simp only [allB]; rw [c18]; first | rfl | (rw [c26]; rfl)) (rfl)
  exact LP9 0 (by omega) _ _ (rfl) (rfl)
