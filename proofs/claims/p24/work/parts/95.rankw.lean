/-! the law's look at all ranks -/
theorem mkF_s {f : Nat → Nat} {p : Nat → Bool} {k : Nat} : mkF f p (k + 1) = if p k then mkF f p k ||| 2 ^ f k else mkF f p k := rfl
theorem mkF_t {f : Nat → Nat} {k : Nat} : mkF f (fun _ => true) (k + 1) = mkF f (fun _ => true) k ||| 2 ^ f k := if_pos rfl
def lsR (σ : ST) (rr : Nat → Nat) (k : Nat) : Nat := if k = 0 then 1000000000 else b3T σ (rr (k - 1))
theorem lsR_s {σ : ST} {rr : Nat → Nat} {k : Nat} : lsR σ rr (k + 1) = b3T σ (rr k) := if_neg (by omega)
theorem lsR_le {σ : ST} {rr : Nat → Nat} {k : Nat} (hB : Bd σ) (hr : ∀ k, k < σ.1 7 0 → rr k < σ.1 7 0 ∧ rkcS σ (rr k) = k) (hk : k < σ.1 7 0) (h7 : σ.1 7 0 ≤ 12) : b3T σ (rr k) ≤ lsR σ rr k ∧ lsR σ rr k ≤ 1000000000 := by
  have h1 := b3T_le hB (show rr k < 12 by have := (hr k hk).1; omega)
  by_cases z : k = 0
  · subst z
    have e : lsR σ rr 0 = 1000000000 := if_pos rfl
    rw [e]; omega
  · obtain ⟨q, rfl⟩ : ∃ q, k = q + 1 := ⟨k - 1, by omega⟩
    rw [lsR_s]
    have h2 := b3T_le hB (show rr q < 12 by have := (hr q (by omega)).1; omega)
    have h3 := rr_dn hr hk
    omega
theorem mkR_no {σ : ST} {rr : Nat → Nat} {k : Nat} (hr : ∀ k, k < σ.1 7 0 → rr k < σ.1 7 0 ∧ rkcS σ (rr k) = k) (hk : k < σ.1 7 0) (h : (mkF rr (fun _ => true) k).testBit (rr k) = true) : False := by
  obtain ⟨i, h1, -, h3⟩ := (mkF_bit k).mp h
  have h4 := (hr i (by omega)).2
  rw [h3, (hr k hk).2] at h4
  omega
set_option maxHeartbeats 4000000 in
set_option maxRecDepth 100000 in
theorem q_areRanks {l : Launch} (hl : l.stackTraces = false) {g : GP} {M : MM} {A : Nat → Nat} {M0 : MM} {σ : ST} {c o : Nat}  (ho : A 0 = o) (hR : CM g A M0 σ M) (hJ : IJ c σ) : CT l g yL_areRanks cL_areRanks 10 (some .boolean) 10 260 200 1200 [.ref (o), .int (nI (σ.1 7 0)), .int (nI (σ.1 6 0))] M (pI (fun r9 M9 => nI (1) = r9 ∧ M = M9)) nX := by
  refine ct_of [(0, .ref (o)), (1, .int (nI (σ.1 7 0))), (2, .int (nI (σ.1 6 0)))] (by decide) hl (Nat.le_of_ble_eq_true rfl) rfl ?_
  intro K hK F
  subst hK
  have F : Fx K g cL_areRanks RL 10 (some .boolean) [] 10 260 200 1200 := F
  obtain ⟨Q, hQ⟩ : ∃ Q, Q = MQx K g (pI (fun r9 M9 => nI (1) = r9 ∧ M = M9)) nX 200 1200 := ⟨_, rfl⟩
  rw [← hQ]
  have h6 := hJ.1.B.1
  have h7 := hJ.1.B.2.1
  have h18 := hJ.1.B.2.2.1
  obtain ⟨rr, hrr⟩ := rr_ex (σ := σ)
  have hjj := hJ.2.2.2
  refine x_iconst F (nI 0) dL_areRanks_0 (by decide) ?_
  refine x_istore_n F [(3, .int (nI (0))), (0, .ref (o)), (1, .int (nI (σ.1 7 0))), (2, .int (nI (σ.1 6 0)))] dL_areRanks_1 (by decide) rfl ?_
  refine x_ldc F (nI 1000000000) k_L_96 dL_areRanks_2 ?_
  refine x_istore F [(4, .int (nI (1000000000))), (3, .int (nI (0))), (0, .ref (o)), (1, .int (nI (σ.1 7 0))), (2, .int (nI (σ.1 6 0)))] dL_areRanks_4 (by decide) rfl ?_
  refine x_iconst F (nI 1) dL_areRanks_6 (by decide) ?_
  refine x_istore F [(5, .int (nI (1))), (4, .int (nI (1000000000))), (3, .int (nI (0))), (0, .ref (o)), (1, .int (nI (σ.1 7 0))), (2, .int (nI (σ.1 6 0)))] dL_areRanks_7 (by decide) rfl ?_
  refine x_iconst F (nI 0) dL_areRanks_9 (by decide) ?_
  refine x_istore F [(6, .int (nI (0))), (5, .int (nI (1))), (4, .int (nI (1000000000))), (3, .int (nI (0))), (0, .ref (o)), (1, .int (nI (σ.1 7 0))), (2, .int (nI (σ.1 6 0)))] dL_areRanks_10 (by decide) rfl ?_
  refine x_sub [0, 1, 2, 3, 6, 5, 4] rfl (L' := [(6, .int (nI (0))), (5, .int (nI (1))), (4, .int (nI (1000000000))), (3, .int (nI (0))), (2, .int (nI (σ.1 6 0))), (1, .int (nI (σ.1 7 0))), (0, .ref (o))]) ?_
  have LP12 : ∀ k, k ≤ σ.1 7 0 → XW K g 10 Q M (0 + 3 * k) (0 + 18 * k) 12 [(6, .int (nI (k))), (5, .int (nI (1))), (4, .int (nI (lsR σ rr (k)))), (3, .int (nI (mkF rr (fun _ => true) k))), (2, .int (nI (σ.1 6 0))), (1, .int (nI (σ.1 7 0))), (0, .ref (o))] [] := by
    refine x_loop (σ.1 7 0) _ (fun k hk ihk => ?_)
    have hk12 : k ≤ 12 := by omega
    refine x_iload F 0 dL_areRanks_12 rfl ?_
    refine x_iload_n F 5 dL_areRanks_14 rfl ?_
    refine x_icmp_ge F 114 dL_areRanks_15 (by decide) (fun c15 => ?_) (fun c15 => ?_)
    · have c15 := (nI_leI (by omega) (by omega)).mp c15
      have c15b := Nat.not_lt.mpr c15
      have hkk : k = σ.1 7 0 := by omega
      have hex : k ≤ 12 := by omega
      refine x_iconst F (nI 0) dL_areRanks_114 (by decide) ?_
      refine x_istore F [(6, .int (nI (0))), (5, .int (nI (1))), (4, .int (nI (lsR σ rr (k)))), (3, .int (nI (mkF rr (fun _ => true) k))), (2, .int (nI (σ.1 6 0))), (1, .int (nI (σ.1 7 0))), (0, .ref (o))] dL_areRanks_115 (by decide) rfl ?_
      refine x_iconst F (nI 0) dL_areRanks_117 (by decide) ?_
      refine x_istore F [(7, .int (nI (0))), (6, .int (nI (0))), (5, .int (nI (1))), (4, .int (nI (lsR σ rr (k)))), (3, .int (nI (mkF rr (fun _ => true) k))), (2, .int (nI (σ.1 6 0))), (1, .int (nI (σ.1 7 0))), (0, .ref (o))] dL_areRanks_118 (by decide) rfl ?_
      refine x_iconst F (nI 0) dL_areRanks_120 (by decide) ?_
      refine x_istore F [(8, .int (nI (0))), (7, .int (nI (0))), (6, .int (nI (0))), (5, .int (nI (1))), (4, .int (nI (lsR σ rr (k)))), (3, .int (nI (mkF rr (fun _ => true) k))), (2, .int (nI (σ.1 6 0))), (1, .int (nI (σ.1 7 0))), (0, .ref (o))] dL_areRanks_121 (by decide) rfl ?_
      refine x_sub [0, 1, 2, 3, 6, 7, 8] rfl (L' := [(8, .int (nI (0))), (7, .int (nI (0))), (6, .int (nI (0))), (5, .int (nI (1))), (2, .int (nI (σ.1 6 0))), (1, .int (nI (σ.1 7 0))), (0, .ref (o))]) ?_
      have LP123 : ∀ i, i ≤ σ.1 6 0 → XW K g 10 Q M ((0 + 3 * k) + 8 * i) ((0 + 18 * k) + 48 * i) 123 [(8, .int (nI (i))), (7, .int (nI (fb_ct (flB σ) i))), (6, .int (nI (mkF (rbB σ) (flB σ) i))), (5, .int (nI (1))), (2, .int (nI (σ.1 6 0))), (1, .int (nI (σ.1 7 0))), (0, .ref (o))] [] := by
        refine x_loop (σ.1 6 0) _ (fun i hi ihi => ?_)
        have hi16 : i ≤ 16 := by omega
        refine x_iload F 0 dL_areRanks_123 rfl ?_
        refine x_iload_n F 4 dL_areRanks_125 rfl ?_
        refine x_icmp_ge F 269 dL_areRanks_126 (by decide) (fun c126 => ?_) (fun c126 => ?_)
        · have c126 := (nI_leI (by omega) (by omega)).mp c126
          have c126b := Nat.not_lt.mpr c126
          have hii : i = σ.1 6 0 := by omega
          have hix : i ≤ 16 := by omega
          refine x_L (L' := [(8, .int (nI (σ.1 6 0))), (7, .int (nI (fb_ct (flB σ) (σ.1 6 0)))), (6, .int (nI (mkF (rbB σ) (flB σ) (σ.1 6 0)))), (5, .int (nI (1))), (2, .int (nI (σ.1 6 0))), (1, .int (nI (σ.1 7 0))), (0, .ref (o))]) (by rw [hii]) ?_
          refine x_iload F 3 dL_areRanks_269 rfl ?_
          refine x_if_eq F 309 dL_areRanks_271 (by decide) (fun c271 => ?_) (fun c271 => ?_)
          · have c271 := (nI_z (by omega)).mp c271
            omega
          · have c271 := mt (nI_z (by omega)).mpr c271
            refine x_iload F 2 dL_areRanks_274 rfl ?_
            refine x_iconst F (nI 1) dL_areRanks_276 (by decide) ?_
            refine x_iload F 1 dL_areRanks_277 rfl ?_
            refine x_ishl F dL_areRanks_279 ?_
            refine x_ri0 (y := nI (2 ^ fb_ct (flB σ) (σ.1 6 0))) (shl_16 _ (by have := fb_ct_le (flB σ) (σ.1 6 0); omega)) ?_
            refine x_iconst F (nI 1) dL_areRanks_280 (by decide) ?_
            refine x_isubN F dL_areRanks_281 (Nat.one_le_two_pow) ?_
            refine x_icmp_ne F 309 dL_areRanks_282 (by decide) (fun c282 => ?_) (fun c282 => ?_)
            · rw [bm_all] at c282; exact absurd rfl c282
            · refine x_iload_n F 5 dL_areRanks_285 rfl ?_
              refine x_bipush F (nI 12) dL_areRanks_286 (by decide) ?_
              refine x_icmp_eq F 305 dL_areRanks_288 (by decide) (fun c288 => ?_) (fun c288 => ?_)
              · have c288 := (nI_eq (by omega) (by omega)).mp c288
                refine x_iconst F (nI 1) dL_areRanks_305 (by decide) ?_
                refine x_goto F 310 dL_areRanks_306 (by decide) ?_
                rw [hQ]
                exact x_zret F dL_areRanks_310 ⟨by omega, by omega⟩ (Or.inr rfl) ⟨_, rfl, rfl, rfl⟩
              · have c288 := mt (nI_eq (by omega) (by omega)).mpr c288
                refine x_aload_n F 6 dL_areRanks_291 rfl ?_
                refine x_bipush F (nI 16) dL_areRanks_292 (by decide) ?_
                refine x_iload_n F 5 dL_areRanks_294 rfl ?_
                refine x_iconst F (nI 0) dL_areRanks_295 (by decide) ?_
                refine x_iconst F (nI 0) dL_areRanks_296 (by decide) ?_
                refine x_iconst F (nI 0) dL_areRanks_297 (by decide) ?_
                refine x_callH F w_h_ask rfl (qa_ranked F.nt ho hR hJ.1 (x0 := nI (σ.1 7 0))) rfl dL_areRanks_298 (by decide) ⟨by omega, by omega⟩ (Nat.le_of_ble_eq_true rfl) (ki fun r M2 hp => ?_)
                rcases hp with ⟨hcd, rfl, rfl⟩ | ⟨hcd, rfl, rfl⟩
                · refine x_ri0 (y := (-1)) (rkd_out h7) ?_
                  refine x_iconst F ((-1)) dL_areRanks_301 (by decide) ?_
                  refine x_icmp_ne F 309 dL_areRanks_302 (by decide) (fun c302 => ?_) (fun c302 => ?_)
                  · exact absurd rfl c302
                  · refine x_iconst F (nI 1) dL_areRanks_305 (by decide) ?_
                    refine x_goto F 310 dL_areRanks_306 (by decide) ?_
                    rw [hQ]
                    exact x_zret F dL_areRanks_310 ⟨by omega, by omega⟩ (Or.inr rfl) ⟨_, rfl, rfl, rfl⟩
                · rw [cdRk_k (by omega)] at hcd; cases hcd
        · have c126 := mt (nI_leI (by omega) (by omega)).mpr c126
          have c126b := Nat.not_le.mp c126
          have bb := (hJ.1.B.2.2.2.2.2.2.1 i (by omega))
          have bj := (hjj i).1
          have mlt := mkF_lt (f := rbB σ) (p := flB σ) (B := 16) i (fun q hq hf => by have := rb_lt (show q < σ.1 6 0 by omega) hf; have := fb_ct_le (flB σ) (σ.1 6 0); omega)
          have mct := fb_ct_le (flB σ) i
          refine x_iload F 3 dL_areRanks_129 rfl ?_
          refine x_if_eq F 269 dL_areRanks_131 (by decide) (fun c131 => ?_) (fun c131 => ?_)
          · have c131 := (nI_z (by omega)).mp c131
            omega
          · have c131 := mt (nI_z (by omega)).mpr c131
            refine x_aload_n F 6 dL_areRanks_134 rfl ?_
            refine x_iload F 0 dL_areRanks_135 rfl ?_
            refine x_iconst F (nI 4) dL_areRanks_137 (by decide) ?_
            refine x_callV F s_L_51 (hR.co ho) rfl rfl (q_be4 F.nt ho hR hJ.1 (by omega)) rfl dL_areRanks_138 (by decide) ⟨by omega, by omega⟩ (Nat.le_of_ble_eq_true rfl) x_noX (ki fun r_2 M2_2 hp_2 => ?_)
            obtain ⟨rfl, rfl⟩ := hp_2
            by_cases z2 : σ.1 2 i = 0
            · have hfl : flB σ i = false := decide_eq_false (by omega)
              refine x_ri0 (y := (-1)) (by rw [rkb_r, if_pos z2]) ?_
              refine x_istore F [(9, .int ((-1))), (8, .int (nI (i))), (7, .int (nI (fb_ct (flB σ) i))), (6, .int (nI (mkF (rbB σ) (flB σ) i))), (5, .int (nI (1))), (2, .int (nI (σ.1 6 0))), (1, .int (nI (σ.1 7 0))), (0, .ref (o))] dL_areRanks_141 (by decide) rfl ?_
              refine x_iload F 0 dL_areRanks_143 rfl ?_
              refine x_if_lt F 152 dL_areRanks_145 (by decide) (fun c145 => ?_) (fun c145 => ?_)
              · refine x_iconst F (nI 0) dL_areRanks_152 (by decide) ?_
                refine x_aload_n F 7 dL_areRanks_153 rfl ?_
                refine x_iload F 1 dL_areRanks_154 rfl ?_
                refine x_iconst F (nI 1) dL_areRanks_156 (by decide) ?_
                refine x_callV F s_L_51 (hR.co ho) rfl rfl (q_be1 F.nt ho hR hJ.1 (by omega)) rfl dL_areRanks_157 (by decide) ⟨by omega, by omega⟩ (Nat.le_of_ble_eq_true rfl) x_noX (ki fun r_3 M2_3 hp_3 => ?_)
                obtain ⟨rfl, rfl⟩ := hp_3
                refine x_if_le F 167 dL_areRanks_160 (by decide) (fun c160 => ?_) (fun c160 => ?_)
                · have c160 := (nI_le0 (by omega)).mp c160
                  have c160b := Nat.not_lt.mpr (Nat.le_zero.mpr c160)
                  refine x_iconst F (nI 0) dL_areRanks_167 (by decide) ?_
                  refine x_icmp_ne F 227 dL_areRanks_168 (by decide) (fun c168 => ?_) (fun c168 => ?_)
                  · have c168 := mt (nI_eq (by omega) (by omega)).mpr c168
                    omega
                  · have c168 := (nI_eq (by omega) (by omega)).mp c168
                    refine x_aload_n F 7 dL_areRanks_171 rfl ?_
                    refine x_iload F 1 dL_areRanks_172 rfl ?_
                    refine x_iconst F (nI 2) dL_areRanks_174 (by decide) ?_
                    refine x_callV F s_L_51 (hR.co ho) rfl rfl (q_be2 F.nt ho hR hJ.1 (by omega)) rfl dL_areRanks_175 (by decide) ⟨by omega, by omega⟩ (Nat.le_of_ble_eq_true rfl) x_noX (ki fun r_4 M2_4 hp_4 => ?_)
                    obtain ⟨rfl, rfl⟩ := hp_4
                    refine x_aload_n F 7 dL_areRanks_178 rfl ?_
                    refine x_iload F 1 dL_areRanks_179 rfl ?_
                    refine x_iconst F (nI 1) dL_areRanks_181 (by decide) ?_
                    refine x_callV F s_L_51 (hR.co ho) rfl rfl (q_be1 F.nt ho hR hJ.1 (by omega)) rfl dL_areRanks_182 (by decide) ⟨by omega, by omega⟩ (Nat.le_of_ble_eq_true rfl) x_noX (ki fun r_5 M2_5 hp_5 => ?_)
                    obtain ⟨rfl, rfl⟩ := hp_5
                    refine x_icmp_gt F 227 dL_areRanks_185 (by decide) (fun c185 => ?_) (fun c185 => ?_)
                    · have c185 := (nI_ltI (by omega) (by omega)).mp c185
                      have c185b := Nat.not_le.mpr c185
                      omega
                    · have c185 := mt (nI_ltI (by omega) (by omega)).mpr c185
                      have c185b := Nat.not_lt.mp c185
                      refine x_aload_n F 7 dL_areRanks_188 rfl ?_
                      refine x_iload F 1 dL_areRanks_189 rfl ?_
                      refine x_iconst F (nI 3) dL_areRanks_191 (by decide) ?_
                      refine x_callV F s_L_51 (hR.co ho) rfl rfl (q_be3 F.nt ho hR hJ.1 (by omega)) rfl dL_areRanks_192 (by decide) ⟨by omega, by omega⟩ (Nat.le_of_ble_eq_true rfl) x_noX (ki fun r_6 M2_6 hp_6 => ?_)
                      obtain ⟨rfl, rfl⟩ := hp_6
                      refine x_bipush F (nI 50) dL_areRanks_195 (by decide) ?_
                      refine x_aload_n F 7 dL_areRanks_197 rfl ?_
                      refine x_iload F 1 dL_areRanks_198 rfl ?_
                      refine x_iconst F (nI 1) dL_areRanks_200 (by decide) ?_
                      refine x_callV F s_L_51 (hR.co ho) rfl rfl (q_be1 F.nt ho hR hJ.1 (by omega)) rfl dL_areRanks_201 (by decide) ⟨by omega, by omega⟩ (Nat.le_of_ble_eq_true rfl) x_noX (ki fun r_7 M2_7 hp_7 => ?_)
                      obtain ⟨rfl, rfl⟩ := hp_7
                      refine x_imulN F dL_areRanks_204 ?_
                      refine x_icmp_gt F 227 dL_areRanks_205 (by decide) (fun c205 => ?_) (fun c205 => ?_)
                      · have c205 := (nI_ltI (by omega) (by omega)).mp c205
                        have c205b := Nat.not_le.mpr c205
                        omega
                      · have c205 := mt (nI_ltI (by omega) (by omega)).mpr c205
                        have c205b := Nat.not_lt.mp c205
                        refine x_iload F 0 dL_areRanks_208 rfl ?_
                        refine x_if_lt F 223 dL_areRanks_210 (by decide) (fun c210 => ?_) (fun c210 => ?_)
                        · refine x_iconst F (nI 1) dL_areRanks_223 (by decide) ?_
                          refine x_goto F 228 dL_areRanks_224 (by decide) ?_
                          refine x_istore F [(5, .int (nI (1))), (9, .int ((-1))), (8, .int (nI (i))), (7, .int (nI (fb_ct (flB σ) i))), (6, .int (nI (mkF (rbB σ) (flB σ) i))), (2, .int (nI (σ.1 6 0))), (1, .int (nI (σ.1 7 0))), (0, .ref (o))] dL_areRanks_228 (by decide) rfl ?_
                          refine x_iload F 4 dL_areRanks_230 rfl ?_
                          refine x_iload F 1 dL_areRanks_232 rfl ?_
                          refine x_if_ge F 241 dL_areRanks_234 (by decide) (fun c234 => ?_) (fun c234 => ?_)
                          · exact absurd c234 (by decide)
                          · refine x_iconst F (nI 0) dL_areRanks_237 (by decide) ?_
                            refine x_goto F 245 dL_areRanks_238 (by decide) ?_
                            refine x_ior F dL_areRanks_245 ?_
                            refine x_ri0 (y := nI (mkF (rbB σ) (flB σ) i ||| 0)) (or_nI) ?_
                            refine x_istore F [(6, .int (nI (mkF (rbB σ) (flB σ) i ||| 0))), (5, .int (nI (1))), (9, .int ((-1))), (8, .int (nI (i))), (7, .int (nI (fb_ct (flB σ) i))), (2, .int (nI (σ.1 6 0))), (1, .int (nI (σ.1 7 0))), (0, .ref (o))] dL_areRanks_246 (by decide) rfl ?_
                            refine x_iload F 4 dL_areRanks_248 rfl ?_
                            refine x_iload F 2 dL_areRanks_250 rfl ?_
                            refine x_if_ge F 259 dL_areRanks_252 (by decide) (fun c252 => ?_) (fun c252 => ?_)
                            · exact absurd c252 (by decide)
                            · refine x_iconst F (nI 0) dL_areRanks_255 (by decide) ?_
                              refine x_goto F 260 dL_areRanks_256 (by decide) ?_
                              refine x_iaddN F dL_areRanks_260 ?_
                              refine x_istore F [(7, .int (nI ((fb_ct (flB σ) i) + 0))), (6, .int (nI (mkF (rbB σ) (flB σ) i ||| 0))), (5, .int (nI (1))), (9, .int ((-1))), (8, .int (nI (i))), (2, .int (nI (σ.1 6 0))), (1, .int (nI (σ.1 7 0))), (0, .ref (o))] dL_areRanks_261 (by decide) rfl ?_
                              refine x_iinc F 4 [(8, .int (nI (i + 1))), (7, .int (nI ((fb_ct (flB σ) i) + 0))), (6, .int (nI (mkF (rbB σ) (flB σ) i ||| 0))), (5, .int (nI (1))), (9, .int ((-1))), (2, .int (nI (σ.1 6 0))), (1, .int (nI (σ.1 7 0))), (0, .ref (o))] dL_areRanks_263 rfl (iincN (i) 1) (by decide) rfl ?_
                              refine x_goto F 123 dL_areRanks_266 (by decide) ?_
                              refine x_sub [0, 1, 2, 3, 5, 6, 7] rfl (L' := [(8, .int (nI (i + 1))), (7, .int (nI ((fb_ct (flB σ) i) + 0))), (6, .int (nI (mkF (rbB σ) (flB σ) i ||| 0))), (5, .int (nI (1))), (2, .int (nI (σ.1 6 0))), (1, .int (nI (σ.1 7 0))), (0, .ref (o))]) ?_
                              refine x_widen (a' := ((0 + 3 * k) + 8 * (i + 1))) (b' := ((0 + 18 * k) + 48 * (i + 1))) (by omega) (by omega) ?_
                              refine x_L (L' := [(8, .int (nI ((i + 1)))), (7, .int (nI (fb_ct (flB σ) (i + 1)))), (6, .int (nI (mkF (rbB σ) (flB σ) (i + 1)))), (5, .int (nI (1))), (2, .int (nI (σ.1 6 0))), (1, .int (nI (σ.1 7 0))), (0, .ref (o))]) (by first | rw [mkF_s, if_pos hfl, fb_ct_yes hfl] | rw [mkF_s, if_neg (by rw [hfl]; exact Bool.false_ne_true), fb_ct_no hfl, Nat.or_zero] <;> rfl) ?_
                              exact ihi (by omega)
                        · exact absurd (by decide) c210
                · have c160 := mt (nI_le0 (by omega)).mpr c160
                  have c160b := Nat.pos_of_ne_zero c160
                  omega
              · exact absurd (by decide) c145
            · have hfl : flB σ i = true := decide_eq_true (by omega)
              have hrb := rb_lt (show i < σ.1 6 0 by omega) hfl
              have hct := fb_ct_le (flB σ) (σ.1 6 0)
              refine x_ri0 (y := nI (rbB σ i)) (by rw [rkb_r, if_neg z2]) ?_
              refine x_istore F [(9, .int (nI (rbB σ i))), (8, .int (nI (i))), (7, .int (nI (fb_ct (flB σ) i))), (6, .int (nI (mkF (rbB σ) (flB σ) i))), (5, .int (nI (1))), (2, .int (nI (σ.1 6 0))), (1, .int (nI (σ.1 7 0))), (0, .ref (o))] dL_areRanks_141 (by decide) rfl ?_
              refine x_iload F 0 dL_areRanks_143 rfl ?_
              refine x_if_lt F 152 dL_areRanks_145 (by decide) (fun c145_2 => ?_) (fun c145_2 => ?_)
              · exact absurd c145_2 (nI_nn (by omega))
              · refine x_iconst F (nI 1) dL_areRanks_148 (by decide) ?_
                refine x_goto F 153 dL_areRanks_149 (by decide) ?_
                refine x_aload_n F 7 dL_areRanks_153 rfl ?_
                refine x_iload F 1 dL_areRanks_154 rfl ?_
                refine x_iconst F (nI 1) dL_areRanks_156 (by decide) ?_
                refine x_callV F s_L_51 (hR.co ho) rfl rfl (q_be1 F.nt ho hR hJ.1 (by omega)) rfl dL_areRanks_157 (by decide) ⟨by omega, by omega⟩ (Nat.le_of_ble_eq_true rfl) x_noX (ki fun r_8 M2_8 hp_8 => ?_)
                obtain ⟨rfl, rfl⟩ := hp_8
                refine x_if_le F 167 dL_areRanks_160 (by decide) (fun c160_2 => ?_) (fun c160_2 => ?_)
                · have c160_2 := (nI_le0 (by omega)).mp c160_2
                  have c160_2b := Nat.not_lt.mpr (Nat.le_zero.mpr c160_2)
                  omega
                · have c160_2 := mt (nI_le0 (by omega)).mpr c160_2
                  have c160_2b := Nat.pos_of_ne_zero c160_2
                  refine x_iconst F (nI 1) dL_areRanks_163 (by decide) ?_
                  refine x_goto F 168 dL_areRanks_164 (by decide) ?_
                  refine x_icmp_ne F 227 dL_areRanks_168 (by decide) (fun c168_2 => ?_) (fun c168_2 => ?_)
                  · have c168_2 := mt (nI_eq (by omega) (by omega)).mpr c168_2
                    omega
                  · have c168_2 := (nI_eq (by omega) (by omega)).mp c168_2
                    refine x_aload_n F 7 dL_areRanks_171 rfl ?_
                    refine x_iload F 1 dL_areRanks_172 rfl ?_
                    refine x_iconst F (nI 2) dL_areRanks_174 (by decide) ?_
                    refine x_callV F s_L_51 (hR.co ho) rfl rfl (q_be2 F.nt ho hR hJ.1 (by omega)) rfl dL_areRanks_175 (by decide) ⟨by omega, by omega⟩ (Nat.le_of_ble_eq_true rfl) x_noX (ki fun r_9 M2_9 hp_9 => ?_)
                    obtain ⟨rfl, rfl⟩ := hp_9
                    refine x_aload_n F 7 dL_areRanks_178 rfl ?_
                    refine x_iload F 1 dL_areRanks_179 rfl ?_
                    refine x_iconst F (nI 1) dL_areRanks_181 (by decide) ?_
                    refine x_callV F s_L_51 (hR.co ho) rfl rfl (q_be1 F.nt ho hR hJ.1 (by omega)) rfl dL_areRanks_182 (by decide) ⟨by omega, by omega⟩ (Nat.le_of_ble_eq_true rfl) x_noX (ki fun r_10 M2_10 hp_10 => ?_)
                    obtain ⟨rfl, rfl⟩ := hp_10
                    refine x_icmp_gt F 227 dL_areRanks_185 (by decide) (fun c185_2 => ?_) (fun c185_2 => ?_)
                    · have c185_2 := (nI_ltI (by omega) (by omega)).mp c185_2
                      have c185_2b := Nat.not_le.mpr c185_2
                      omega
                    · have c185_2 := mt (nI_ltI (by omega) (by omega)).mpr c185_2
                      have c185_2b := Nat.not_lt.mp c185_2
                      refine x_aload_n F 7 dL_areRanks_188 rfl ?_
                      refine x_iload F 1 dL_areRanks_189 rfl ?_
                      refine x_iconst F (nI 3) dL_areRanks_191 (by decide) ?_
                      refine x_callV F s_L_51 (hR.co ho) rfl rfl (q_be3 F.nt ho hR hJ.1 (by omega)) rfl dL_areRanks_192 (by decide) ⟨by omega, by omega⟩ (Nat.le_of_ble_eq_true rfl) x_noX (ki fun r_11 M2_11 hp_11 => ?_)
                      obtain ⟨rfl, rfl⟩ := hp_11
                      refine x_bipush F (nI 50) dL_areRanks_195 (by decide) ?_
                      refine x_aload_n F 7 dL_areRanks_197 rfl ?_
                      refine x_iload F 1 dL_areRanks_198 rfl ?_
                      refine x_iconst F (nI 1) dL_areRanks_200 (by decide) ?_
                      refine x_callV F s_L_51 (hR.co ho) rfl rfl (q_be1 F.nt ho hR hJ.1 (by omega)) rfl dL_areRanks_201 (by decide) ⟨by omega, by omega⟩ (Nat.le_of_ble_eq_true rfl) x_noX (ki fun r_12 M2_12 hp_12 => ?_)
                      obtain ⟨rfl, rfl⟩ := hp_12
                      refine x_imulN F dL_areRanks_204 ?_
                      refine x_icmp_gt F 227 dL_areRanks_205 (by decide) (fun c205_2 => ?_) (fun c205_2 => ?_)
                      · have c205_2 := (nI_ltI (by omega) (by omega)).mp c205_2
                        have c205_2b := Nat.not_le.mpr c205_2
                        omega
                      · have c205_2 := mt (nI_ltI (by omega) (by omega)).mpr c205_2
                        have c205_2b := Nat.not_lt.mp c205_2
                        refine x_iload F 0 dL_areRanks_208 rfl ?_
                        refine x_if_lt F 223 dL_areRanks_210 (by decide) (fun c210_2 => ?_) (fun c210_2 => ?_)
                        · exact absurd c210_2 (nI_nn (by omega))
                        · refine x_iload F 3 dL_areRanks_213 rfl ?_
                          refine x_iload F 0 dL_areRanks_215 rfl ?_
                          refine x_ishr F dL_areRanks_217 ?_
                          refine x_iconst F (nI 1) dL_areRanks_218 (by decide) ?_
                          refine x_iand F dL_areRanks_219 ?_
                          refine x_ri0 (y := nI (bz ((mkF (rbB σ) (flB σ) i).testBit (rbB σ i)))) (tb_sh (by omega) (by omega)) ?_
                          refine x_if_ne F 227 dL_areRanks_220 (by decide) (fun c220 => ?_) (fun c220 => ?_)
                          · have c220 := nI_bz1.mp c220
                            obtain ⟨q, q1, q2, q3⟩ := (mkF_bit i).mp c220
                            have := rb_inj (show q < σ.1 6 0 by omega) (show i < σ.1 6 0 by omega) q3
                            omega
                          · have c220 := nI_bz0.mp c220
                            refine x_iconst F (nI 1) dL_areRanks_223 (by decide) ?_
                            refine x_goto F 228 dL_areRanks_224 (by decide) ?_
                            refine x_istore F [(5, .int (nI (1))), (9, .int (nI (rbB σ i))), (8, .int (nI (i))), (7, .int (nI (fb_ct (flB σ) i))), (6, .int (nI (mkF (rbB σ) (flB σ) i))), (2, .int (nI (σ.1 6 0))), (1, .int (nI (σ.1 7 0))), (0, .ref (o))] dL_areRanks_228 (by decide) rfl ?_
                            refine x_iload F 4 dL_areRanks_230 rfl ?_
                            refine x_iload F 1 dL_areRanks_232 rfl ?_
                            refine x_if_ge F 241 dL_areRanks_234 (by decide) (fun c234_2 => ?_) (fun c234_2 => ?_)
                            · refine x_iconst F (nI 1) dL_areRanks_241 (by decide) ?_
                              refine x_iload F 1 dL_areRanks_242 rfl ?_
                              refine x_ishl F dL_areRanks_244 ?_
                              refine x_ri0 (y := nI (2 ^ rbB σ i)) (shl_16 _ (by omega)) ?_
                              refine x_ior F dL_areRanks_245 ?_
                              refine x_ri0 (y := nI (mkF (rbB σ) (flB σ) i ||| 2 ^ rbB σ i)) (or_nI) ?_
                              refine x_istore F [(6, .int (nI (mkF (rbB σ) (flB σ) i ||| 2 ^ rbB σ i))), (5, .int (nI (1))), (9, .int (nI (rbB σ i))), (8, .int (nI (i))), (7, .int (nI (fb_ct (flB σ) i))), (2, .int (nI (σ.1 6 0))), (1, .int (nI (σ.1 7 0))), (0, .ref (o))] dL_areRanks_246 (by decide) rfl ?_
                              refine x_iload F 4 dL_areRanks_248 rfl ?_
                              refine x_iload F 2 dL_areRanks_250 rfl ?_
                              refine x_if_ge F 259 dL_areRanks_252 (by decide) (fun c252_2 => ?_) (fun c252_2 => ?_)
                              · refine x_iconst F (nI 1) dL_areRanks_259 (by decide) ?_
                                refine x_iaddN F dL_areRanks_260 ?_
                                refine x_istore F [(7, .int (nI ((fb_ct (flB σ) i) + 1))), (6, .int (nI (mkF (rbB σ) (flB σ) i ||| 2 ^ rbB σ i))), (5, .int (nI (1))), (9, .int (nI (rbB σ i))), (8, .int (nI (i))), (2, .int (nI (σ.1 6 0))), (1, .int (nI (σ.1 7 0))), (0, .ref (o))] dL_areRanks_261 (by decide) rfl ?_
                                refine x_iinc F 4 [(8, .int (nI (i + 1))), (7, .int (nI ((fb_ct (flB σ) i) + 1))), (6, .int (nI (mkF (rbB σ) (flB σ) i ||| 2 ^ rbB σ i))), (5, .int (nI (1))), (9, .int (nI (rbB σ i))), (2, .int (nI (σ.1 6 0))), (1, .int (nI (σ.1 7 0))), (0, .ref (o))] dL_areRanks_263 rfl (iincN (i) 1) (by decide) rfl ?_
                                refine x_goto F 123 dL_areRanks_266 (by decide) ?_
                                refine x_sub [0, 1, 2, 3, 5, 6, 7] rfl (L' := [(8, .int (nI (i + 1))), (7, .int (nI ((fb_ct (flB σ) i) + 1))), (6, .int (nI (mkF (rbB σ) (flB σ) i ||| 2 ^ rbB σ i))), (5, .int (nI (1))), (2, .int (nI (σ.1 6 0))), (1, .int (nI (σ.1 7 0))), (0, .ref (o))]) ?_
                                refine x_widen (a' := ((0 + 3 * k) + 8 * (i + 1))) (b' := ((0 + 18 * k) + 48 * (i + 1))) (by omega) (by omega) ?_
                                refine x_L (L' := [(8, .int (nI ((i + 1)))), (7, .int (nI (fb_ct (flB σ) (i + 1)))), (6, .int (nI (mkF (rbB σ) (flB σ) (i + 1)))), (5, .int (nI (1))), (2, .int (nI (σ.1 6 0))), (1, .int (nI (σ.1 7 0))), (0, .ref (o))]) (by first | rw [mkF_s, if_pos hfl, fb_ct_yes hfl] | rw [mkF_s, if_neg (by rw [hfl]; exact Bool.false_ne_true), fb_ct_no hfl, Nat.or_zero] <;> rfl) ?_
                                exact ihi (by omega)
                              · exact absurd (nI_ge0 (by omega)) c252_2
                            · exact absurd (nI_ge0 (by omega)) c234_2
      refine x_L (L' := [(8, .int (nI (0))), (7, .int (nI (fb_ct (flB σ) 0))), (6, .int (nI (mkF (rbB σ) (flB σ) 0))), (5, .int (nI (1))), (2, .int (nI (σ.1 6 0))), (1, .int (nI (σ.1 7 0))), (0, .ref (o))]) (rfl) ?_
      exact LP123 0 (Nat.zero_le _)
    · have c15 := mt (nI_leI (by omega) (by omega)).mpr c15
      have c15b := Nat.not_le.mp c15
      obtain ⟨hr1, hr2⟩ := hrr k (by omega)
      have mlt := mkF_lt (f := rr) (p := fun _ => true) (B := 12) k (fun i hi _ => by have := (hrr i (by omega)).1; omega)
      have mb := b3T_le hJ.1.B (show rr k < 12 by omega)
      have ml := lsR_le hJ.1.B hrr (show k < σ.1 7 0 by omega) h7
      refine x_iload F 1 dL_areRanks_18 rfl ?_
      refine x_if_eq F 114 dL_areRanks_20 (by decide) (fun c20 => ?_) (fun c20 => ?_)
      · have c20 := (nI_z (by omega)).mp c20
        omega
      · have c20 := mt (nI_z (by omega)).mpr c20
        refine x_aload_n F 6 dL_areRanks_23 rfl ?_
        refine x_bipush F (nI 16) dL_areRanks_24 (by decide) ?_
        refine x_iload F 0 dL_areRanks_26 rfl ?_
        refine x_iconst F (nI 0) dL_areRanks_28 (by decide) ?_
        refine x_iconst F (nI 0) dL_areRanks_29 (by decide) ?_
        refine x_iconst F (nI 0) dL_areRanks_30 (by decide) ?_
        refine x_callH F w_h_ask rfl (qa_ranked F.nt ho hR hJ.1 (x0 := nI k)) rfl dL_areRanks_31 (by decide) ⟨by omega, by omega⟩ (Nat.le_of_ble_eq_true rfl) (ki fun r_13 M2_13 hp_13 => ?_)
        rcases hp_13 with ⟨hcd, rfl, rfl⟩ | ⟨hcd, rfl, rfl⟩
        · refine x_ri0 (y := nI (rr k)) (rkd_at h7 hrr (by omega)) ?_
          refine x_istore F [(7, .int (nI (rr k))), (6, .int (nI (k))), (5, .int (nI (1))), (4, .int (nI (lsR σ rr (k)))), (3, .int (nI (mkF rr (fun _ => true) k))), (2, .int (nI (σ.1 6 0))), (1, .int (nI (σ.1 7 0))), (0, .ref (o))] dL_areRanks_34 (by decide) rfl ?_
          refine x_iload F 0 dL_areRanks_36 rfl ?_
          refine x_if_lt F 71 dL_areRanks_38 (by decide) (fun c38 => ?_) (fun c38 => ?_)
          · exact absurd c38 (nI_nn (by omega))
          · refine x_iload F 0 dL_areRanks_41 rfl ?_
            refine x_iload_n F 6 dL_areRanks_43 rfl ?_
            refine x_icmp_ge F 71 dL_areRanks_44 (by decide) (fun c44 => ?_) (fun c44 => ?_)
            · have c44 := (nI_leI (by omega) (by omega)).mp c44
              have c44b := Nat.not_lt.mpr c44
              omega
            · have c44 := mt (nI_leI (by omega) (by omega)).mpr c44
              have c44b := Nat.not_le.mp c44
              refine x_iload_n F 4 dL_areRanks_47 rfl ?_
              refine x_iload F 0 dL_areRanks_48 rfl ?_
              refine x_ishr F dL_areRanks_50 ?_
              refine x_iconst F (nI 1) dL_areRanks_51 (by decide) ?_
              refine x_iand F dL_areRanks_52 ?_
              refine x_ri0 (y := nI (bz ((mkF rr (fun _ => true) k).testBit (rr k)))) (tb_sh (by omega) (by omega)) ?_
              refine x_if_ne F 71 dL_areRanks_53 (by decide) (fun c53 => ?_) (fun c53 => ?_)
              · have c53 := nI_bz1.mp c53
                exact (mkR_no hrr (show k < σ.1 7 0 by omega) c53).elim
              · have c53 := nI_bz0.mp c53
                refine x_aload_n F 7 dL_areRanks_56 rfl ?_
                refine x_iload F 0 dL_areRanks_57 rfl ?_
                refine x_callV F s_L_60 (hR.co ho) rfl rfl (q_counts F.nt ho hR hJ.1 (by omega)) rfl dL_areRanks_59 (by decide) ⟨by omega, by omega⟩ (Nat.le_of_ble_eq_true rfl) x_noX (ki fun r_14 M2_14 hp_14 => ?_)
                obtain ⟨rfl, rfl⟩ := hp_14
                refine x_iload F 3 dL_areRanks_62 rfl ?_
                refine x_icmp_gt F 71 dL_areRanks_64 (by decide) (fun c64 => ?_) (fun c64 => ?_)
                · have c64 := (nI_ltI (by omega) (by omega)).mp c64
                  have c64b := Nat.not_le.mpr c64
                  omega
                · have c64 := mt (nI_ltI (by omega) (by omega)).mpr c64
                  have c64b := Nat.not_lt.mp c64
                  refine x_iconst F (nI 1) dL_areRanks_67 (by decide) ?_
                  refine x_goto F 72 dL_areRanks_68 (by decide) ?_
                  refine x_istore F [(5, .int (nI (1))), (7, .int (nI (rr k))), (6, .int (nI (k))), (4, .int (nI (lsR σ rr (k)))), (3, .int (nI (mkF rr (fun _ => true) k))), (2, .int (nI (σ.1 6 0))), (1, .int (nI (σ.1 7 0))), (0, .ref (o))] dL_areRanks_72 (by decide) rfl ?_
                  refine x_iload_n F 4 dL_areRanks_74 rfl ?_
                  refine x_iconst F (nI 1) dL_areRanks_75 (by decide) ?_
                  refine x_iload F 1 dL_areRanks_76 rfl ?_
                  refine x_if_ge F 85 dL_areRanks_78 (by decide) (fun c78 => ?_) (fun c78 => ?_)
                  · refine x_iload F 1 dL_areRanks_85 rfl ?_
                    refine x_ishl F dL_areRanks_87 ?_
                    refine x_ri0 (y := nI (2 ^ rr k)) (shl_16 _ (by omega)) ?_
                    refine x_ior F dL_areRanks_88 ?_
                    refine x_ri0 (y := nI (mkF rr (fun _ => true) k ||| 2 ^ rr k)) (or_nI) ?_
                    refine x_istore_n F [(3, .int (nI (mkF rr (fun _ => true) k ||| 2 ^ rr k))), (5, .int (nI (1))), (7, .int (nI (rr k))), (6, .int (nI (k))), (4, .int (nI (lsR σ rr (k)))), (2, .int (nI (σ.1 6 0))), (1, .int (nI (σ.1 7 0))), (0, .ref (o))] dL_areRanks_89 (by decide) rfl ?_
                    refine x_iload F 1 dL_areRanks_90 rfl ?_
                    refine x_if_eq F 104 dL_areRanks_92 (by decide) (fun c92 => ?_) (fun c92 => ?_)
                    · have c92 := (nI_z (by omega)).mp c92
                      omega
                    · have c92 := mt (nI_z (by omega)).mpr c92
                      refine x_aload_n F 7 dL_areRanks_95 rfl ?_
                      refine x_iload F 2 dL_areRanks_96 rfl ?_
                      refine x_callV F s_L_60 (hR.co ho) rfl rfl (q_counts F.nt ho hR hJ.1 (by omega)) rfl dL_areRanks_98 (by decide) ⟨by omega, by omega⟩ (Nat.le_of_ble_eq_true rfl) x_noX (ki fun r_15 M2_15 hp_15 => ?_)
                      obtain ⟨rfl, rfl⟩ := hp_15
                      refine x_goto F 106 dL_areRanks_101 (by decide) ?_
                      refine x_istore F [(4, .int (nI (b3T σ (rr k)))), (3, .int (nI (mkF rr (fun _ => true) k ||| 2 ^ rr k))), (5, .int (nI (1))), (7, .int (nI (rr k))), (6, .int (nI (k))), (2, .int (nI (σ.1 6 0))), (1, .int (nI (σ.1 7 0))), (0, .ref (o))] dL_areRanks_106 (by decide) rfl ?_
                      refine x_iinc F 4 [(6, .int (nI (k + 1))), (4, .int (nI (b3T σ (rr k)))), (3, .int (nI (mkF rr (fun _ => true) k ||| 2 ^ rr k))), (5, .int (nI (1))), (7, .int (nI (rr k))), (2, .int (nI (σ.1 6 0))), (1, .int (nI (σ.1 7 0))), (0, .ref (o))] dL_areRanks_108 rfl (iincN (k) 1) (by decide) rfl ?_
                      refine x_goto F 12 dL_areRanks_111 (by decide) ?_
                      refine x_sub [0, 3, 1, 2, 5, 6, 7] rfl (L' := [(6, .int (nI (k + 1))), (5, .int (nI (1))), (4, .int (nI (b3T σ (rr k)))), (3, .int (nI (mkF rr (fun _ => true) k ||| 2 ^ rr k))), (2, .int (nI (σ.1 6 0))), (1, .int (nI (σ.1 7 0))), (0, .ref (o))]) ?_
                      refine x_widen (a' := (0 + 3 * (k + 1))) (b' := (0 + 18 * (k + 1))) (by omega) (by omega) ?_
                      refine x_L (L' := [(6, .int (nI ((k + 1)))), (5, .int (nI (1))), (4, .int (nI (lsR σ rr ((k + 1))))), (3, .int (nI (mkF rr (fun _ => true) (k + 1)))), (2, .int (nI (σ.1 6 0))), (1, .int (nI (σ.1 7 0))), (0, .ref (o))]) (by rw [mkF_t, lsR_s]) ?_
                      exact ihk (by omega)
                  · exact absurd (nI_ge0 (by omega)) c78
        · rw [cdRk_k (by omega)] at hcd; cases hcd
  refine x_L (L' := [(6, .int (nI (0))), (5, .int (nI (1))), (4, .int (nI (lsR σ rr (0)))), (3, .int (nI (mkF rr (fun _ => true) 0))), (2, .int (nI (σ.1 6 0))), (1, .int (nI (σ.1 7 0))), (0, .ref (o))]) (rfl) ?_
  exact LP12 0 (Nat.zero_le _)
