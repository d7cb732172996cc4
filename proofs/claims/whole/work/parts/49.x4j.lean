set_option maxHeartbeats 4000000 in
set_option maxRecDepth 100000 in
theorem c_X4_greatest {l : Launch} (hl : l.stackTraces = false) {g : GP} {M : MM} {m : Nat → Nat} {M0 : MM} {σ : ST} {r : Nat} (hR : RM g m M0 σ M) (hB : Bd σ) (hr : r < 8) (hw : ∀ k, k < σ.1 17 r → σ.1 19 (12 * r + k) < 12) (h31 : ∀ q, σ.1 31 q ≤ 1) : CT l g yX4_greatest cX4_greatest 7 (some .int) 2 48 0 0 [.ref (m 0), .int (nI (r))] M (pI (fun r9 M9 => RM g m M0 (cB σ (gEf σ r (σ.1 17 r))) M9 ∧ r9 = nI (mxS (gEf σ r (σ.1 17 r)) 625))) nX := by
  refine ct_of [(0, .ref (m 0)), (1, .int (nI (r)))] (by decide) hl (Nat.le_of_ble_eq_true rfl) rfl ?_
  intro K hK F
  subst hK
  have F : Fx K g cX4_greatest RX4 7 (some .int) [] 2 48 0 0 := F
  obtain ⟨Q, hQ⟩ : ∃ Q, Q = MQx K g (pI (fun r9 M9 => RM g m M0 (cB σ (gEf σ r (σ.1 17 r))) M9 ∧ r9 = nI (mxS (gEf σ r (σ.1 17 r)) 625))) nX 0 0 := ⟨_, rfl⟩
  rw [← hQ]
  have hB9 := hB
  obtain ⟨h6, h7, h18, hr8, hk96, hp96, hb16, hh⟩ := hB9
  have b1 := hr8 r hr
  have hBc : ∀ f, Bd (cB σ f) := fun f => Bd_cB hB
  have hR9 : RM g m M0 (cB σ (fIn σ 0)) M := by rw [fIn_0, cB_self]; exact hR
  refine x_iconst F (nI 0) dX4_greatest_0 (by decide) ?_
  refine x_istore_n F [(2, .int (nI (0))), (0, .ref (m 0)), (1, .int (nI (r)))] dX4_greatest_1 (by decide) rfl ?_
  have LP2 : ∀ i, i ≤ 625 → ∀ (Mi2 : MM), RM g m M0 (cB σ (fIn σ i)) Mi2 → ∀ (v2_2 : Int32), v2_2 = nI (i) → XW K g 7 Q Mi2 0 0 2 [(2, .int (v2_2)), (0, .ref (m 0)), (1, .int (nI (r)))] [] := by
    refine x_loop 625 _ (fun i hi ihi => ?_)
    intro Mi2 hR2 v2_2 e2_2
    subst e2_2
    refine x_iload_n F 0 dX4_greatest_2 rfl ?_
    refine x_sipush F (nI 625) dX4_greatest_3 (by decide) ?_
    refine x_icmp_ge F 30 dX4_greatest_6 (by decide) (fun c6 => ?_) (fun c6 => ?_)
    · have c6 := (nI_leI (by omega) (by omega)).mp c6
      have c6b := Nat.not_lt.mpr c6
      have h9 : i = 625 := by omega
      rw [h9]
      refine x_sub [1, 2] rfl (L' := [(0, .ref (m 0)), (1, .int (nI (r)))]) ?_
      refine x_iconst F (nI 0) dX4_greatest_30 (by decide) ?_
      refine x_istore_n F [(2, .int (nI (0))), (0, .ref (m 0)), (1, .int (nI (r)))] dX4_greatest_31 (by decide) rfl ?_
      have LP32 : ∀ e, e ≤ (σ.1 17 r) → ∀ (Mi32 : MM), RM g m M0 (cB σ (gEf σ r e)) Mi32 → ∀ (v32_2 : Int32), v32_2 = nI (e) → XW K g 7 Q Mi32 0 0 32 [(2, .int (v32_2)), (0, .ref (m 0)), (1, .int (nI (r)))] [] := by
        refine x_loop ((σ.1 17 r)) _ (fun e he ihe => ?_)
        intro Mi32 hR32 v32_2 e32_2
        subst e32_2
        have f1 : ∀ q, gEf σ r e q ≤ 1 := gEf_01 h31 e
        refine x_iload_n F 0 dX4_greatest_32 rfl ?_
        refine x_aload_n F 1 dX4_greatest_33 rfl ?_
        refine x_fget F f_X4_53 hR32.1 (v := .ref (rA m 17)) dX4_greatest_34 rfl ?_
        refine x_iload_n F 2 dX4_greatest_37 rfl ?_
        refine x_mld F hR32 17 rfl (fun _ _ => rfl) dX4_greatest_38 (by show _ < 8; omega) ?_
        refine x_ri0 (y := nI (σ.1 17 (r))) (rfl) ?_
        refine x_icmp_ge F 180 dX4_greatest_39 (by decide) (fun c39 => ?_) (fun c39 => ?_)
        · have c39 := (nI_leI (by omega) (by omega)).mp c39
          have c39b := Nat.not_lt.mpr c39
          have h7 : e = σ.1 17 r := by omega
          have f9 : ∀ q, gEf σ r (σ.1 17 r) q ≤ 1 := h7 ▸ f1
          rw [h7] at hR32
          refine x_iconst F (nI 0) dX4_greatest_180 (by decide) ?_
          refine x_istore_n F [(2, .int (nI (0))), (0, .ref (m 0)), (1, .int (nI (r)))] dX4_greatest_181 (by decide) rfl ?_
          refine x_iconst F (nI 0) dX4_greatest_182 (by decide) ?_
          refine x_istore_n F [(3, .int (nI (0))), (2, .int (nI (0))), (0, .ref (m 0)), (1, .int (nI (r)))] dX4_greatest_183 (by decide) rfl ?_
          have LP184 : ∀ i, i ≤ 625 → ∀ (v184_2 : Int32) (v184_3 : Int32), v184_2 = nI (mxS (gEf σ r (σ.1 17 r)) i) → v184_3 = nI (i) → XW K g 7 Q Mi32 0 0 184 [(3, .int (v184_3)), (2, .int (v184_2)), (0, .ref (m 0)), (1, .int (nI (r)))] [] := by
            refine x_loop 625 _ (fun i hi ihi => ?_)
            intro v184_2 v184_3 e184_2 e184_3
            subst e184_2
            subst e184_3
            refine x_iload_n F 0 dX4_greatest_184 rfl ?_
            refine x_sipush F (nI 625) dX4_greatest_185 (by decide) ?_
            refine x_icmp_ge F 242 dX4_greatest_188 (by decide) (fun c188 => ?_) (fun c188 => ?_)
            · have c188 := (nI_leI (by omega) (by omega)).mp c188
              have c188b := Nat.not_lt.mpr c188
              refine x_iload_n F 1 dX4_greatest_242 rfl ?_
              rw [hQ]
              exact x_iret F dX4_greatest_243 (by decide) ⟨_, rfl, hR32, by have h8 : i = 625 := (by omega); rw [h8]⟩
            · have c188 := mt (nI_leI (by omega) (by omega)).mpr c188
              have c188b := Nat.not_le.mp c188
              have hmx := mxS_le (f := gEf σ r (σ.1 17 r)) (n := i) (by omega)
              have hdg := dg_le (k := i) (by omega)
              refine x_iload_n F 0 dX4_greatest_191 rfl ?_
              refine x_iconst F (nI 5) dX4_greatest_192 (by decide) ?_
              refine x_iremN F dX4_greatest_193 (by omega) (by omega) (by omega) ?_
              refine x_iload_n F 0 dX4_greatest_194 rfl ?_
              refine x_iconst F (nI 5) dX4_greatest_195 (by decide) ?_
              refine x_idivN F dX4_greatest_196 (by omega) (by omega) (by omega) ?_
              refine x_iconst F (nI 5) dX4_greatest_197 (by decide) ?_
              refine x_iremN F dX4_greatest_198 (by omega) (by omega) (by omega) ?_
              refine x_iaddN F dX4_greatest_199 ?_
              refine x_iload_n F 0 dX4_greatest_200 rfl ?_
              refine x_bipush F (nI 25) dX4_greatest_201 (by decide) ?_
              refine x_idivN F dX4_greatest_203 (by omega) (by omega) (by omega) ?_
              refine x_iconst F (nI 5) dX4_greatest_204 (by decide) ?_
              refine x_iremN F dX4_greatest_205 (by omega) (by omega) (by omega) ?_
              refine x_iaddN F dX4_greatest_206 ?_
              refine x_iload_n F 0 dX4_greatest_207 rfl ?_
              refine x_bipush F (nI 125) dX4_greatest_208 (by decide) ?_
              refine x_idivN F dX4_greatest_210 (by omega) (by omega) (by omega) ?_
              refine x_iaddN F dX4_greatest_211 ?_
              refine x_ri0 (y := nI (dgS i)) (rfl) ?_
              refine x_istore F [(4, .int (nI (dgS i))), (3, .int (nI (i))), (2, .int (nI (mxS (gEf σ r (σ.1 17 r)) i))), (0, .ref (m 0)), (1, .int (nI (r)))] dX4_greatest_212 (by decide) rfl ?_
              refine x_aload_n F 3 dX4_greatest_214 rfl ?_
              refine x_fget F f_X4_94 hR32.1 (v := .ref (rA m 31)) dX4_greatest_215 rfl ?_
              refine x_iload_n F 1 dX4_greatest_218 rfl ?_
              refine x_mldZ F hR32 31 rfl (fun _ _ => rfl) dX4_greatest_219 (by show _ < 625; omega) ?_
              refine x_if_eq F 234 dX4_greatest_220 (by decide) (fun c220 => ?_) (fun c220 => ?_)
              · have c220 := (nI_z (by have := f9 i; show gEf _ _ _ _ < _; omega)).mp c220
                have d220 : ¬ ¬ gEf σ r (σ.1 17 r) i = 0 := fun z => z c220
                refine x_iload_n F 2 dX4_greatest_234 rfl ?_
                refine x_istore_n F [(2, .int (nI (mxS (gEf σ r (σ.1 17 r)) i))), (4, .int (nI (dgS i))), (3, .int (nI (i))), (0, .ref (m 0)), (1, .int (nI (r)))] dX4_greatest_235 (by decide) rfl ?_
                refine x_iinc F 2 [(3, .int (nI (i + 1))), (2, .int (nI (mxS (gEf σ r (σ.1 17 r)) i))), (4, .int (nI (dgS i))), (0, .ref (m 0)), (1, .int (nI (r)))] dX4_greatest_236 rfl (iincN (i) 1) (by decide) rfl ?_
                refine x_goto F 184 dX4_greatest_239 (by decide) ?_
                refine x_sub [0, 1, 3, 4] rfl (L' := [(3, .int (nI (i + 1))), (2, .int (nI (mxS (gEf σ r (σ.1 17 r)) i))), (0, .ref (m 0)), (1, .int (nI (r)))]) ?_
                exact ihi (by omega) _ _ (by first | exact mxS_a d220 c226b | exact mxS_b d220 | exact mxS_c c226b) (rfl)
              · have c220 := mt (nI_z (by have := f9 i; show gEf _ _ _ _ < _; omega)).mpr c220
                have d220 : ¬ gEf σ r (σ.1 17 r) i = 0 := c220
                refine x_iload F 0 dX4_greatest_223 rfl ?_
                refine x_iload_n F 2 dX4_greatest_225 rfl ?_
                refine x_icmp_le F 234 dX4_greatest_226 (by decide) (fun c226 => ?_) (fun c226 => ?_)
                · have c226 := (nI_leI (by omega) (by omega)).mp c226
                  have c226b := Nat.not_lt.mpr c226
                  refine x_iload_n F 2 dX4_greatest_234 rfl ?_
                  refine x_istore_n F [(2, .int (nI (mxS (gEf σ r (σ.1 17 r)) i))), (4, .int (nI (dgS i))), (3, .int (nI (i))), (0, .ref (m 0)), (1, .int (nI (r)))] dX4_greatest_235 (by decide) rfl ?_
                  refine x_iinc F 2 [(3, .int (nI (i + 1))), (2, .int (nI (mxS (gEf σ r (σ.1 17 r)) i))), (4, .int (nI (dgS i))), (0, .ref (m 0)), (1, .int (nI (r)))] dX4_greatest_236 rfl (iincN (i) 1) (by decide) rfl ?_
                  refine x_goto F 184 dX4_greatest_239 (by decide) ?_
                  refine x_sub [0, 1, 3, 4] rfl (L' := [(3, .int (nI (i + 1))), (2, .int (nI (mxS (gEf σ r (σ.1 17 r)) i))), (0, .ref (m 0)), (1, .int (nI (r)))]) ?_
                  exact ihi (by omega) _ _ (by first | exact mxS_a d220 c226b | exact mxS_b d220 | exact mxS_c c226b) (rfl)
                · have c226 := mt (nI_leI (by omega) (by omega)).mpr c226
                  have c226b := Nat.not_le.mp c226
                  refine x_iload F 0 dX4_greatest_229 rfl ?_
                  refine x_goto F 235 dX4_greatest_231 (by decide) ?_
                  refine x_istore_n F [(2, .int (nI (dgS i))), (4, .int (nI (dgS i))), (3, .int (nI (i))), (0, .ref (m 0)), (1, .int (nI (r)))] dX4_greatest_235 (by decide) rfl ?_
                  refine x_iinc F 2 [(3, .int (nI (i + 1))), (2, .int (nI (dgS i))), (4, .int (nI (dgS i))), (0, .ref (m 0)), (1, .int (nI (r)))] dX4_greatest_236 rfl (iincN (i) 1) (by decide) rfl ?_
                  refine x_goto F 184 dX4_greatest_239 (by decide) ?_
                  refine x_sub [0, 1, 3, 4] rfl (L' := [(3, .int (nI (i + 1))), (2, .int (nI (dgS i))), (0, .ref (m 0)), (1, .int (nI (r)))]) ?_
                  exact ihi (by omega) _ _ (by first | exact mxS_a d220 c226b | exact mxS_b d220 | exact mxS_c c226b) (rfl)
          exact LP184 0 (by omega) _ _ (rfl) (rfl)
        · have c39 := mt (nI_leI (by omega) (by omega)).mpr c39
          have c39b := Nat.not_le.mp c39
          have b2 := hw e (by omega)
          have b3 := hk96 (12 * r + σ.1 19 (12 * r + e)) (by omega)
          refine x_aload_n F 1 dX4_greatest_42 rfl ?_
          refine x_fget F f_X4_56 hR32.1 (v := .ref (rA m 19)) dX4_greatest_43 rfl ?_
          refine x_iload_n F 2 dX4_greatest_46 rfl ?_
          refine x_iload_n F 0 dX4_greatest_47 rfl ?_
          refine x_callS F s_X4_118 rfl (c_X4_at F.nt ) rfl dX4_greatest_48 (by decide) (by decide) (Nat.le_of_ble_eq_true rfl) x_noX (ki fun r M2 hp => ?_)
          obtain ⟨rfl, rfl⟩ := hp
          refine x_mld F hR32 19 rfl (fun _ _ => rfl) dX4_greatest_51 (by show _ < 96; omega) ?_
          refine x_ri0 (y := nI (σ.1 19 (12 * r + e))) (rfl) ?_
          refine x_istore_n F [(3, .int (nI (σ.1 19 (12 * r + e)))), (2, .int (nI (e))), (0, .ref (m 0)), (1, .int (nI (r)))] dX4_greatest_52 (by decide) rfl ?_
          refine x_sipush F (nI 624) dX4_greatest_53 (by decide) ?_
          refine x_ri0 (y := nI (625 - 0) - nI 1) (by decide) ?_
          refine x_istore F [(4, .int (nI (625 - 0) - nI 1)), (3, .int (nI (σ.1 19 (12 * r + e)))), (2, .int (nI (e))), (0, .ref (m 0)), (1, .int (nI (r)))] dX4_greatest_56 (by decide) rfl ?_
          have LP58 : ∀ n, n ≤ 625 → ∀ (Mi58 : MM), RM g m M0 (cB σ (gKf σ r (σ.1 19 (12 * r + e)) (gEf σ r e) n)) Mi58 → ∀ (v58_4 : Int32), v58_4 = nI (625 - n) - nI 1 → XW K g 7 Q Mi58 0 0 58 [(4, .int (v58_4)), (3, .int (nI (σ.1 19 (12 * r + e)))), (2, .int (nI (e))), (0, .ref (m 0)), (1, .int (nI (r)))] [] := by
            refine x_loop 625 _ (fun n hn ihn => ?_)
            intro Mi58 hR58 v58_4 e58_4
            subst e58_4
            have f2 : ∀ q, gKf σ r (σ.1 19 (12 * r + e)) (gEf σ r e) n q ≤ 1 := gKf_01 f1 n
            refine x_iload F 0 dX4_greatest_58 rfl ?_
            refine x_if_lt F 174 dX4_greatest_60 (by decide) (fun c60 => ?_) (fun c60 => ?_)
            · have h9 : n = 625 := by have := (nI_dn (by omega)).mp c60; omega
              refine x_iinc F 2 [(2, .int (nI (e + 1))), (4, .int (nI (625 - n) - nI 1)), (3, .int (nI (σ.1 19 (12 * r + e)))), (0, .ref (m 0)), (1, .int (nI (r)))] dX4_greatest_174 rfl (iincN (e) 1) (by decide) rfl ?_
              refine x_goto F 32 dX4_greatest_177 (by decide) ?_
              refine x_sub [0, 3, 4] rfl (L' := [(2, .int (nI (e + 1))), (0, .ref (m 0)), (1, .int (nI (r)))]) ?_
              exact ihe (by omega) _ (by have h8 : n = 625 := (by omega); rw [h8] at hR58; exact hR58) _ (rfl)
            · have h9 : n < 625 := by have := mt (nI_dn (by omega)).mpr c60; omega
              have e4 : nI (625 - n) - nI 1 = nI (625 - n - 1) := pk_sub (by omega)
              rw [e4]
              refine x_iconst F (nI 0) dX4_greatest_63 (by decide) ?_
              refine x_istore F [(5, .int (nI (0))), (4, .int (nI (625 - n - 1))), (3, .int (nI (σ.1 19 (12 * r + e)))), (2, .int (nI (e))), (0, .ref (m 0)), (1, .int (nI (r)))] dX4_greatest_64 (by decide) rfl ?_
              have LP66 : ∀ p, p ≤ (σ.1 11 r) → ∀ (Mi66 : MM), RM g m M0 (cB σ (gPf σ r (σ.1 19 (12 * r + e)) (gKf σ r (σ.1 19 (12 * r + e)) (gEf σ r e) n) (625 - n - 1) p)) Mi66 → ∀ (v66_5 : Int32), v66_5 = nI (p) → XW K g 7 Q Mi66 0 0 66 [(5, .int (v66_5)), (4, .int (nI (625 - n - 1))), (3, .int (nI (σ.1 19 (12 * r + e)))), (2, .int (nI (e))), (0, .ref (m 0)), (1, .int (nI (r)))] [] := by
                refine x_loop ((σ.1 11 r)) _ (fun p hp ihp => ?_)
                intro Mi66 hR66 v66_5 e66_5
                subst e66_5
                have f3 : ∀ q, gPf σ r (σ.1 19 (12 * r + e)) (gKf σ r (σ.1 19 (12 * r + e)) (gEf σ r e) n) (625 - n - 1) p q ≤ 1 := gPf_01 f2 p
                refine x_iload F 0 dX4_greatest_66 rfl ?_
                refine x_aload_n F 4 dX4_greatest_68 rfl ?_
                refine x_fget F f_X4_35 hR66.1 (v := .ref (rA m 11)) dX4_greatest_69 rfl ?_
                refine x_iload_n F 5 dX4_greatest_72 rfl ?_
                refine x_mld F hR66 11 rfl (fun _ _ => rfl) dX4_greatest_73 (by show _ < 8; omega) ?_
                refine x_ri0 (y := nI (σ.1 11 (r))) (rfl) ?_
                refine x_icmp_ge F 168 dX4_greatest_74 (by decide) (fun c74 => ?_) (fun c74 => ?_)
                · have c74 := (nI_leI (by omega) (by omega)).mp c74
                  have c74b := Nat.not_lt.mpr c74
                  rw [← e4]
                  refine x_iinc F 1 [(4, .int (nI (625 - (n + 1)) - nI 1)), (5, .int (nI (p))), (3, .int (nI (σ.1 19 (12 * r + e)))), (2, .int (nI (e))), (0, .ref (m 0)), (1, .int (nI (r)))] dX4_greatest_168 rfl (by rw [e4]; exact (nI_m1b (by omega))) (by decide) rfl ?_
                  refine x_goto F 58 dX4_greatest_171 (by decide) ?_
                  refine x_sub [0, 2, 3, 4, 5] rfl (L' := [(4, .int (nI (625 - (n + 1)) - nI 1)), (3, .int (nI (σ.1 19 (12 * r + e)))), (2, .int (nI (e))), (0, .ref (m 0)), (1, .int (nI (r)))]) ?_
                  exact ihn (by omega) _ (by first | (have h8 : p = σ.1 11 r := (by omega); rw [h8] at hR66; exact hR66) | (have h8 := d84; rw [gPf_k] at h8; rw [gPf_0 h8] at hR66; show RM g m M0 (cB σ (gPf _ _ _ _ _ _)) _; rw [gPf_0 h8]; exact hR66)) _ (rfl)
                · have c74 := mt (nI_leI (by omega) (by omega)).mpr c74
                  have c74b := Nat.not_le.mp c74
                  refine x_aload_n F 4 dX4_greatest_77 rfl ?_
                  refine x_fget F f_X4_94 hR66.1 (v := .ref (rA m 31)) dX4_greatest_78 rfl ?_
                  refine x_iload F 1 dX4_greatest_81 rfl ?_
                  refine x_mldZ F hR66 31 rfl (fun _ _ => rfl) dX4_greatest_83 (by show _ < 625; omega) ?_
                  refine x_if_eq F 168 dX4_greatest_84 (by decide) (fun c84 => ?_) (fun c84 => ?_)
                  · have c84 := (nI_z (by have := f3 (625 - n - 1); show gPf _ _ _ _ _ _ _ < _; omega)).mp c84
                    have d84 : gPf σ r (σ.1 19 (12 * r + e)) (gKf σ r (σ.1 19 (12 * r + e)) (gEf σ r e) n) (625 - n - 1) p (625 - n - 1) = 0 := c84
                    rw [← e4]
                    refine x_iinc F 1 [(4, .int (nI (625 - (n + 1)) - nI 1)), (5, .int (nI (p))), (3, .int (nI (σ.1 19 (12 * r + e)))), (2, .int (nI (e))), (0, .ref (m 0)), (1, .int (nI (r)))] dX4_greatest_168 rfl (by rw [e4]; exact (nI_m1b (by omega))) (by decide) rfl ?_
                    refine x_goto F 58 dX4_greatest_171 (by decide) ?_
                    refine x_sub [0, 2, 3, 4, 5] rfl (L' := [(4, .int (nI (625 - (n + 1)) - nI 1)), (3, .int (nI (σ.1 19 (12 * r + e)))), (2, .int (nI (e))), (0, .ref (m 0)), (1, .int (nI (r)))]) ?_
                    exact ihn (by omega) _ (by first | (have h8 : p = σ.1 11 r := (by omega); rw [h8] at hR66; exact hR66) | (have h8 := d84; rw [gPf_k] at h8; rw [gPf_0 h8] at hR66; show RM g m M0 (cB σ (gPf _ _ _ _ _ _)) _; rw [gPf_0 h8]; exact hR66)) _ (rfl)
                  · have c84 := mt (nI_z (by have := f3 (625 - n - 1); show gPf _ _ _ _ _ _ _ < _; omega)).mpr c84
                    have d84 : decide (¬ gKf σ r (σ.1 19 (12 * r + e)) (gEf σ r e) n (625 - n - 1) = 0) = true := by (have h8 := c84; have h7 : ¬ gPf σ r (σ.1 19 (12 * r + e)) (gKf σ r (σ.1 19 (12 * r + e)) (gEf σ r e) n) (625 - n - 1) p (625 - n - 1) = 0 := h8; rw [gPf_k] at h7; simpa using h7)
                    have J130 : ∀ (vj : Int32), vj = nI (bz (hasP σ r (σ.1 19 (12 * r + e)) (625 - n - 1) p)) → XW K g 7 Q Mi66 0 0 130 [(5, .int (nI (p))), (4, .int (nI (625 - n - 1))), (3, .int (nI (σ.1 19 (12 * r + e)))), (2, .int (nI (e))), (0, .ref (m 0)), (1, .int (nI (r)))] [.int (vj)] := by
                      intro vj ej130_vj
                      subst ej130_vj
                      refine x_istore F [(6, .int (nI (bz (hasP σ r (σ.1 19 (12 * r + e)) (625 - n - 1) p)))), (5, .int (nI (p))), (4, .int (nI (625 - n - 1))), (3, .int (nI (σ.1 19 (12 * r + e)))), (2, .int (nI (e))), (0, .ref (m 0)), (1, .int (nI (r)))] dX4_greatest_130 (by decide) rfl ?_
                      refine x_iload F 0 dX4_greatest_132 rfl ?_
                      refine x_if_eq F 162 dX4_greatest_134 (by decide) (fun c134 => ?_) (fun c134 => ?_)
                      · have c134 := nI_bz0.mp c134
                        refine x_iinc F 1 [(5, .int (nI (p + 1))), (6, .int (nI (bz (hasP σ r (σ.1 19 (12 * r + e)) (625 - n - 1) p)))), (4, .int (nI (625 - n - 1))), (3, .int (nI (σ.1 19 (12 * r + e)))), (2, .int (nI (e))), (0, .ref (m 0)), (1, .int (nI (r)))] dX4_greatest_162 rfl (iincN (p) 1) (by decide) rfl ?_
                        refine x_goto F 66 dX4_greatest_165 (by decide) ?_
                        refine x_sub [0, 2, 3, 4, 5, 6] rfl (L' := [(5, .int (nI (p + 1))), (4, .int (nI (625 - n - 1))), (3, .int (nI (σ.1 19 (12 * r + e)))), (2, .int (nI (e))), (0, .ref (m 0)), (1, .int (nI (r)))]) ?_
                        exact ihp (by omega) _ (by first | (rw [uN_cB] at hR66; rw [← gPf_a d84 c134 c145]; exact hR66) | (rw [← gPf_b c134]; exact hR66) | (rw [← gPf_c c145]; exact hR66)) _ (rfl)
                      · have c134 := nI_bz1.mp c134
                        refine x_aload_n F 5 dX4_greatest_137 rfl ?_
                        refine x_iload_n F 6 dX4_greatest_138 rfl ?_
                        refine x_iload_n F 3 dX4_greatest_139 rfl ?_
                        refine x_iload F 1 dX4_greatest_140 rfl ?_
                        refine x_callV F s_X4_148 hR66.1 rfl rfl (c_X4_gets F.nt hR66 (hBc _) (hr) (b2) (by omega)) rfl dX4_greatest_142 (by decide) (by decide) (Nat.le_of_ble_eq_true rfl) x_noX (ki fun r_2 M2_2 hp_2 => ?_)
                        obtain ⟨rfl, rfl⟩ := hp_2
                        refine x_ri0 (y := nI (bz (getsS σ r (σ.1 19 (12 * r + e)) p))) (rfl) ?_
                        refine x_if_eq F 162 dX4_greatest_145 (by decide) (fun c145 => ?_) (fun c145 => ?_)
                        · have c145 := nI_bz0.mp c145
                          refine x_iinc F 1 [(5, .int (nI (p + 1))), (6, .int (nI (bz (hasP σ r (σ.1 19 (12 * r + e)) (625 - n - 1) p)))), (4, .int (nI (625 - n - 1))), (3, .int (nI (σ.1 19 (12 * r + e)))), (2, .int (nI (e))), (0, .ref (m 0)), (1, .int (nI (r)))] dX4_greatest_162 rfl (iincN (p) 1) (by decide) rfl ?_
                          refine x_goto F 66 dX4_greatest_165 (by decide) ?_
                          refine x_sub [0, 2, 3, 4, 5, 6] rfl (L' := [(5, .int (nI (p + 1))), (4, .int (nI (625 - n - 1))), (3, .int (nI (σ.1 19 (12 * r + e)))), (2, .int (nI (e))), (0, .ref (m 0)), (1, .int (nI (r)))]) ?_
                          exact ihp (by omega) _ (by first | (rw [uN_cB] at hR66; rw [← gPf_a d84 c134 c145]; exact hR66) | (rw [← gPf_b c134]; exact hR66) | (rw [← gPf_c c145]; exact hR66)) _ (rfl)
                        · have c145 := nI_bz1.mp c145
                          refine x_aload_n F 5 dX4_greatest_148 rfl ?_
                          refine x_fget F f_X4_94 hR66.1 (v := .ref (rA m 31)) dX4_greatest_149 rfl ?_
                          refine x_iload F 2 dX4_greatest_152 rfl ?_
                          refine x_iload F 1 dX4_greatest_154 rfl ?_
                          refine x_callS F s_X4_157 rfl (c_X4_unit F.nt (by omega)) rfl dX4_greatest_156 (by decide) (by decide) (Nat.le_of_ble_eq_true rfl) x_noX (ki fun r_3 M2_3 hp_3 => ?_)
                          obtain ⟨rfl, rfl⟩ := hp_3
                          refine x_iaddN F dX4_greatest_159 ?_
                          refine x_iconst F (nI 1) dX4_greatest_160 (by decide) ?_
                          refine x_mstZ F hR66 31 rfl (fun _ _ => rfl) dX4_greatest_161 (by have h8 := c134; unfold hasP at h8; simp only [Bool.and_eq_true, decide_eq_true_eq] at h8; exact unS_k (by omega) b1.2.2.2.1 h8.2) (by omega) (fun M1 hR1 => ?_)
                          refine x_iinc F 1 [(5, .int (nI (p + 1))), (6, .int (nI (bz (hasP σ r (σ.1 19 (12 * r + e)) (625 - n - 1) p)))), (4, .int (nI (625 - n - 1))), (3, .int (nI (σ.1 19 (12 * r + e)))), (2, .int (nI (e))), (0, .ref (m 0)), (1, .int (nI (r)))] dX4_greatest_162 rfl (iincN (p) 1) (by decide) rfl ?_
                          refine x_goto F 66 dX4_greatest_165 (by decide) ?_
                          refine x_sub [0, 2, 3, 4, 5, 6] rfl (L' := [(5, .int (nI (p + 1))), (4, .int (nI (625 - n - 1))), (3, .int (nI (σ.1 19 (12 * r + e)))), (2, .int (nI (e))), (0, .ref (m 0)), (1, .int (nI (r)))]) ?_
                          exact ihp (by omega) _ (by first | (rw [uN_cB] at hR1; rw [← gPf_a d84 c134 c145]; exact hR1) | (rw [← gPf_b c134]; exact hR1) | (rw [← gPf_c c145]; exact hR1)) _ (rfl)
                    refine x_aload_n F 4 dX4_greatest_87 rfl ?_
                    refine x_fget F f_X4_59 hR66.1 (v := .ref (rA m 20)) dX4_greatest_88 rfl ?_
                    refine x_iload_n F 5 dX4_greatest_91 rfl ?_
                    refine x_iload_n F 2 dX4_greatest_92 rfl ?_
                    refine x_callS F s_X4_118 rfl (c_X4_at F.nt ) rfl dX4_greatest_93 (by decide) (by decide) (Nat.le_of_ble_eq_true rfl) x_noX (ki fun r_4 M2_4 hp_4 => ?_)
                    obtain ⟨rfl, rfl⟩ := hp_4
                    refine x_mld F hR66 20 rfl (fun _ _ => rfl) dX4_greatest_96 (by show _ < 96; omega) ?_
                    refine x_ri0 (y := nI (σ.1 20 (12 * r + (σ.1 19 (12 * r + e))))) (rfl) ?_
                    refine x_iload F 0 dX4_greatest_97 rfl ?_
                    refine x_ishr F dX4_greatest_99 ?_
                    refine x_iconst F (nI 1) dX4_greatest_100 (by decide) ?_
                    refine x_iand F dX4_greatest_101 ?_
                    refine x_ri0 (y := nI (bz ((σ.1 20 (12 * r + (σ.1 19 (12 * r + e)))).testBit p))) (tb_sh (by omega) (by omega)) ?_
                    refine x_iconst F (nI 1) dX4_greatest_102 (by decide) ?_
                    refine x_icmp_ne F 129 dX4_greatest_103 (by decide) (fun c103 => ?_) (fun c103 => ?_)
                    · have c103 := nI_bzO.mp c103
                      refine x_iconst F (nI 0) dX4_greatest_129 (by decide) ?_
                      exact J130 _ (by simp [bz, hasP, *])
                    · have c103 := nI_bzI.mp c103
                      refine x_iload F 1 dX4_greatest_106 rfl ?_
                      refine x_iload F 0 dX4_greatest_108 rfl ?_
                      refine x_callS F s_X4_157 rfl (c_X4_unit F.nt (by omega)) rfl dX4_greatest_110 (by decide) (by decide) (Nat.le_of_ble_eq_true rfl) x_noX (ki fun r_5 M2_5 hp_5 => ?_)
                      obtain ⟨rfl, rfl⟩ := hp_5
                      refine x_idivN F dX4_greatest_113 (by omega) (by have := unS_rng p; omega) (by have := unS_rng p; omega) ?_
                      refine x_iconst F (nI 5) dX4_greatest_114 (by decide) ?_
                      refine x_iremN F dX4_greatest_115 (by have := Nat.div_le_self (625 - n - 1) (unS p); omega) (by omega) (by omega) ?_
                      refine x_aload_n F 4 dX4_greatest_116 rfl ?_
                      refine x_fget F f_X4_38 hR66.1 (v := .ref (rA m 12)) dX4_greatest_117 rfl ?_
                      refine x_iload_n F 5 dX4_greatest_120 rfl ?_
                      refine x_mld F hR66 12 rfl (fun _ _ => rfl) dX4_greatest_121 (by show _ < 8; omega) ?_
                      refine x_ri0 (y := nI (σ.1 12 (r))) (rfl) ?_
                      refine x_icmp_ge F 129 dX4_greatest_122 (by decide) (fun c122 => ?_) (fun c122 => ?_)
                      · have c122 := (nI_leI (by omega) (by omega)).mp c122
                        have c122b := Nat.not_lt.mpr c122
                        refine x_iconst F (nI 0) dX4_greatest_129 (by decide) ?_
                        exact J130 _ (by simp [bz, hasP, *])
                      · have c122 := mt (nI_leI (by omega) (by omega)).mpr c122
                        have c122b := Nat.not_le.mp c122
                        refine x_iconst F (nI 1) dX4_greatest_125 (by decide) ?_
                        refine x_goto F 130 dX4_greatest_126 (by decide) ?_
                        exact J130 _ (by simp [bz, hasP, *])
              exact LP66 0 (by omega) _ hR58 _ (rfl)
          exact LP58 0 (by omega) _ hR32 _ (rfl)
      exact LP32 0 (by omega) _ (by rw [h9] at hR2; exact hR2) _ (rfl)
    · have c6 := mt (nI_leI (by omega) (by omega)).mpr c6
      have c6b := Nat.not_le.mp c6
      refine x_aload_n F 1 dX4_greatest_9 rfl ?_
      refine x_fget F f_X4_94 hR2.1 (v := .ref (rA m 31)) dX4_greatest_10 rfl ?_
      refine x_iload_n F 0 dX4_greatest_13 rfl ?_
      have J23 : ∀ (vj : Int32), vj = nI (bz (decide (i = 0))) → XW K g 7 Q Mi2 0 0 23 [(2, .int (nI (i))), (0, .ref (m 0)), (1, .int (nI (r)))] [.int (vj), .int (nI (i)), .ref (rA m 31)] := by
        intro vj ej23_vj
        subst ej23_vj
        refine x_mstZ F hR2 31 rfl (fun _ _ => rfl) dX4_greatest_23 (by show _ < 625; omega) (bz_le _) (fun M1_2 hR1_2 => ?_)
        refine x_iinc F 0 [(2, .int (nI (i + 1))), (0, .ref (m 0)), (1, .int (nI (r)))] dX4_greatest_24 rfl (iincN (i) 1) (by decide) rfl ?_
        refine x_goto F 2 dX4_greatest_27 (by decide) ?_
        exact ihi (by omega) _ (by rw [uN_cB, fIn_s] at hR1_2; exact hR1_2) _ (rfl)
      refine x_iload_n F 0 dX4_greatest_14 rfl ?_
      refine x_if_ne F 22 dX4_greatest_15 (by decide) (fun c15 => ?_) (fun c15 => ?_)
      · have c15 := mt (nI_z (by omega)).mpr c15
        refine x_iconst F (nI 0) dX4_greatest_22 (by decide) ?_
        exact J23 _ (by simp [bz, *])
      · have c15 := (nI_z (by omega)).mp c15
        refine x_iconst F (nI 1) dX4_greatest_18 (by decide) ?_
        refine x_goto F 23 dX4_greatest_19 (by decide) ?_
        exact J23 _ (by simp [bz, *])
  exact LP2 0 (by omega) _ hR9 _ (rfl)
set_option maxHeartbeats 4000000 in
set_option maxRecDepth 100000 in
theorem c_X4_most {l : Launch} (hl : l.stackTraces = false) {g : GP} {M : MM} {m : Nat → Nat} {M0 : MM} {σ : ST} {x0 : Int32} (hR : RM g m M0 σ M) (hB : Bd σ) (hw : ∀ r k, r < σ.1 18 0 → k < σ.1 17 r → σ.1 19 (12 * r + k) < 12) (h31 : ∀ q, σ.1 31 q ≤ 1) : CT l g yX4_most cX4_most 2 (some .int) 3 74 0 0 [.ref (m 0), .int (x0)] M (pI (fun r9 M9 => RM g m M0 (if cdMo σ x0 = 0 then cB (uN σ 0 0 (cdMo σ x0)) (gEf (uN σ 0 0 (cdMo σ x0)) (cl x0) ((uN σ 0 0 (cdMo σ x0)).1 17 (cl x0))) else uN σ 0 0 (cdMo σ x0)) M9 ∧ (cdMo σ x0 = 0 → r9 = nI (mxS (gEf (uN σ 0 0 (cdMo σ x0)) (cl x0) (σ.1 17 (cl x0))) 625)))) nX := by
  refine ct_of [(0, .ref (m 0)), (1, .int (x0))] (by decide) hl (Nat.le_of_ble_eq_true rfl) rfl ?_
  intro K hK F
  subst hK
  have F : Fx K g cX4_most RX4 2 (some .int) [] 3 74 0 0 := F
  obtain ⟨Q, hQ⟩ : ∃ Q, Q = MQx K g (pI (fun r9 M9 => RM g m M0 (if cdMo σ x0 = 0 then cB (uN σ 0 0 (cdMo σ x0)) (gEf (uN σ 0 0 (cdMo σ x0)) (cl x0) ((uN σ 0 0 (cdMo σ x0)).1 17 (cl x0))) else uN σ 0 0 (cdMo σ x0)) M9 ∧ (cdMo σ x0 = 0 → r9 = nI (mxS (gEf (uN σ 0 0 (cdMo σ x0)) (cl x0) (σ.1 17 (cl x0))) 625)))) nX 0 0 := ⟨_, rfl⟩
  rw [← hQ]
  have hB9 := hB
  obtain ⟨h6, h7, h18, hr8, hk96, hp96, hb16, hh⟩ := hB9
  refine x_aload_n F 0 dX4_most_0 rfl ?_
  have J14 : ∀ (vj : Int32), vj = nI (cdMo σ x0) → XW K g 2 Q M 0 0 14 [(0, .ref (m 0)), (1, .int (x0))] [.int (vj), .ref (m 0)] := by
    intro vj ej14_vj
    subst ej14_vj
    refine x_callV F s_X4_113 hR.1 rfl rfl (c_X4_holds F.nt hR (lt_cdMo)) rfl dX4_most_14 (by decide) (by decide) (Nat.le_of_ble_eq_true rfl) x_noX (ki fun r M2 hp => ?_)
    obtain ⟨rfl, hR0⟩ := hp
    obtain ⟨σ0, eσ0⟩ : ∃ z, z = uN σ 0 0 ((cdMo σ x0)) := ⟨_, rfl⟩
    rw [← eσ0] at hR0
    have hBσ0 : Bd σ0 := eσ0 ▸ Bd_u0 hB
    refine x_if_eq F 28 dX4_most_17 (by decide) (fun c17 => ?_) (fun c17 => ?_)
    · have c17 := nI_bz0.mp c17
      have c17 := of_decide_eq_false c17
      refine x_iconst F (nI 0) dX4_most_28 (by decide) ?_
      rw [hQ]
      exact x_iret F dX4_most_29 (by decide) ⟨_, rfl, by first | (rw [if_pos c17, ← eσ0, cl_nI (by omega)]; exact hR0) | (rw [if_neg c17, ← eσ0]; exact hR0), fun h9 => by first | exact absurd h9 c17 | (rw [cl_nI (by omega), ← eσ0]; rw [show σ0.1 17 r = σ.1 17 r by rw [eσ0]; rfl])⟩
    · have c17 := nI_bz1.mp c17
      have c17 := of_decide_eq_true c17
      obtain ⟨r, hr, rfl⟩ := inN_t (n := σ.1 18 0) (by omega) (show inN x0 (σ.1 18 0) = true by simpa [cdMo] using c17)
      refine x_aload_n F 0 dX4_most_20 rfl ?_
      refine x_iload_n F 1 dX4_most_21 rfl ?_
      refine x_callV F s_X4_160 hR0.1 rfl rfl (c_X4_greatest F.nt hR0 hBσ0 (by omega) (fun k hk => by (rw [eσ0] at hk ⊢; exact hw r k hr hk)) (fun q => by (rw [eσ0]; exact h31 q))) rfl dX4_most_22 (by decide) (by decide) (Nat.le_of_ble_eq_true rfl) x_noX (ki fun r9 M9 hp9 => ?_)
      obtain ⟨hR9, rfl⟩ := hp9
      refine x_goto F 29 dX4_most_25 (by decide) ?_
      rw [hQ]
      exact x_iret F dX4_most_29 (by decide) ⟨_, rfl, by first | (rw [if_pos c17, ← eσ0, cl_nI (by omega)]; exact hR9) | (rw [if_neg c17, ← eσ0]; exact hR9), fun h9 => by first | exact absurd h9 c17 | (rw [cl_nI (by omega), ← eσ0]; rw [show σ0.1 17 r = σ.1 17 r by rw [eσ0]; rfl])⟩
  refine x_aload_n F 0 dX4_most_1 rfl ?_
  refine x_iload_n F 1 dX4_most_2 rfl ?_
  refine x_callV F s_X4_129 hR.1 rfl rfl (c_X4_isRodeo F.nt hR (by omega)) rfl dX4_most_3 (by decide) (by decide) (Nat.le_of_ble_eq_true rfl) x_noX (ki fun r_3 M2_3 hp_3 => ?_)
  obtain ⟨rfl, rfl⟩ := hp_3
  refine x_if_eq F 13 dX4_most_6 (by decide) (fun c6 => ?_) (fun c6 => ?_)
  · have c6 := nI_bz0.mp c6
    refine x_iconst F (nI 1) dX4_most_13 (by decide) ?_
    exact J14 _ (by simp [cdMo, *])
  · have c6 := nI_bz1.mp c6
    refine x_iconst F (nI 0) dX4_most_9 (by decide) ?_
    refine x_goto F 14 dX4_most_10 (by decide) ?_
    exact J14 _ (by simp [cdMo, *])
