set_option maxHeartbeats 4000000 in
set_option maxRecDepth 100000 in
theorem c_X4_rodeo {l : Launch} (hl : l.stackTraces = false) {g : GP} {M : MM} {m : Nat → Nat} {M0 : MM} {σ : ST} {a0 a1 a2 a3 a4 a5 a6 : Int32} (hR : RM g m M0 σ M) (hB : Bd σ) : CT l g yX4_rodeo cX4_rodeo 12 (some .int) 1 22 0 0 [.ref (m 0), .int (a0), .int (a1), .int (a2), .int (a3), .int (a4), .int (a5), .int (a6)] M (pI (fun r9 M9 => RM g m M0 (if cdRo σ a0 a1 a2 a3 a4 a5 a6 = 0 then roU (uN σ 0 0 (cdRo σ a0 a1 a2 a3 a4 a5 a6)) a0 a1 a2 a3 a4 a5 a6 else uN σ 0 0 (cdRo σ a0 a1 a2 a3 a4 a5 a6)) M9 ∧ (cdRo σ a0 a1 a2 a3 a4 a5 a6 = 0 → r9 = nI (σ.1 18 0)))) nX := by
  refine ct_of [(0, .ref (m 0)), (1, .int (a0)), (2, .int (a1)), (3, .int (a2)), (4, .int (a3)), (5, .int (a4)), (6, .int (a5)), (7, .int (a6))] (by decide) hl (Nat.le_of_ble_eq_true rfl) rfl ?_
  intro K hK F
  subst hK
  have F : Fx K g cX4_rodeo RX4 12 (some .int) [] 1 22 0 0 := F
  obtain ⟨Q, hQ⟩ : ∃ Q, Q = MQx K g (pI (fun r9 M9 => RM g m M0 (if cdRo σ a0 a1 a2 a3 a4 a5 a6 = 0 then roU (uN σ 0 0 (cdRo σ a0 a1 a2 a3 a4 a5 a6)) a0 a1 a2 a3 a4 a5 a6 else uN σ 0 0 (cdRo σ a0 a1 a2 a3 a4 a5 a6)) M9 ∧ (cdRo σ a0 a1 a2 a3 a4 a5 a6 = 0 → r9 = nI (σ.1 18 0)))) nX 0 0 := ⟨_, rfl⟩
  rw [← hQ]
  have hB9 := hB
  obtain ⟨h6, h7, h18, hr8, hk96, hp96, hb16, hh⟩ := hB9
  have J45 : ∀ (va : Int32), va = nI (bz (inR a0 (nI 0) (nI 1) && inR a1 (nI 0) (nI 2000) && inR a2 (nI 0) (nI 60) && inR a3 (nI 1) (nI 4))) → XW K g 12 Q M 0 0 45 [(0, .ref (m 0)), (1, .int (a0)), (2, .int (a1)), (3, .int (a2)), (4, .int (a3)), (5, .int (a4)), (6, .int (a5)), (7, .int (a6))] [.int (va)] := by
    intro va ej45_va
    subst ej45_va
    refine x_istore F [(8, .int (nI (bz (inR a0 (nI 0) (nI 1) && inR a1 (nI 0) (nI 2000) && inR a2 (nI 0) (nI 60) && inR a3 (nI 1) (nI 4))))), (0, .ref (m 0)), (1, .int (a0)), (2, .int (a1)), (3, .int (a2)), (4, .int (a3)), (5, .int (a4)), (6, .int (a5)), (7, .int (a6))] dX4_rodeo_45 (by decide) rfl ?_
    have J85 : ∀ (vb : Int32), vb = nI (bz (inR a4 (nI 1) (nI 4) && inR a5 (nI 0) (nI 99999) && inR a6 (nI 0) (nI 999))) → XW K g 12 Q M 0 0 85 [(8, .int (nI (bz (inR a0 (nI 0) (nI 1) && inR a1 (nI 0) (nI 2000) && inR a2 (nI 0) (nI 60) && inR a3 (nI 1) (nI 4))))), (0, .ref (m 0)), (1, .int (a0)), (2, .int (a1)), (3, .int (a2)), (4, .int (a3)), (5, .int (a4)), (6, .int (a5)), (7, .int (a6))] [.int (vb)] := by
      intro vb ej85_vb
      subst ej85_vb
      refine x_istore F [(9, .int (nI (bz (inR a4 (nI 1) (nI 4) && inR a5 (nI 0) (nI 99999) && inR a6 (nI 0) (nI 999))))), (8, .int (nI (bz (inR a0 (nI 0) (nI 1) && inR a1 (nI 0) (nI 2000) && inR a2 (nI 0) (nI 60) && inR a3 (nI 1) (nI 4))))), (0, .ref (m 0)), (1, .int (a0)), (2, .int (a1)), (3, .int (a2)), (4, .int (a3)), (5, .int (a4)), (6, .int (a5)), (7, .int (a6))] dX4_rodeo_85 (by decide) rfl ?_
      refine x_aload_n F 2 dX4_rodeo_87 rfl ?_
      have J116 : ∀ (vj : Int32), vj = nI (cdRo σ a0 a1 a2 a3 a4 a5 a6) → XW K g 12 Q M 0 0 116 [(9, .int (nI (bz (inR a4 (nI 1) (nI 4) && inR a5 (nI 0) (nI 99999) && inR a6 (nI 0) (nI 999))))), (8, .int (nI (bz (inR a0 (nI 0) (nI 1) && inR a1 (nI 0) (nI 2000) && inR a2 (nI 0) (nI 60) && inR a3 (nI 1) (nI 4))))), (0, .ref (m 0)), (1, .int (a0)), (2, .int (a1)), (3, .int (a2)), (4, .int (a3)), (5, .int (a4)), (6, .int (a5)), (7, .int (a6))] [.int (vj), .ref (m 0)] := by
        intro vj ej116_vj
        subst ej116_vj
        refine x_callV F s_X4_113 hR.1 rfl rfl (c_X4_holds F.nt hR (lt_cdRo)) rfl dX4_rodeo_116 (by decide) (by decide) (Nat.le_of_ble_eq_true rfl) x_noX (ki fun r M2 hp => ?_)
        obtain ⟨rfl, hR0⟩ := hp
        obtain ⟨σ0, eσ0⟩ : ∃ z, z = uN σ 0 0 ((cdRo σ a0 a1 a2 a3 a4 a5 a6)) := ⟨_, rfl⟩
        rw [← eσ0] at hR0
        have hBσ0 : Bd σ0 := eσ0 ▸ Bd_u0 hB
        refine x_if_ne F 124 dX4_rodeo_119 (by decide) (fun c119 => ?_) (fun c119 => ?_)
        · have c119 := nI_bz1.mp c119
          have c119 := of_decide_eq_true c119
          refine x_sub [2, 3, 4, 5, 6, 7, 8, 9] rfl (L' := [(0, .ref (m 0)), (1, .int (a0)), (2, .int (a1)), (3, .int (a2)), (4, .int (a3)), (5, .int (a4)), (6, .int (a5)), (7, .int (a6))]) ?_
          have c120 := cdRo_1 c119
          obtain ⟨o0, o1, o2, o3, o4, o5, o6⟩ := okRo_1 c120.1
          obtain ⟨a0, l0, u0, rfl⟩ := inR_t (by decide) (by decide) o0
          obtain ⟨a1, l1, u1, rfl⟩ := inR_t (by decide) (by decide) o1
          obtain ⟨a2, l2, u2, rfl⟩ := inR_t (by decide) (by decide) o2
          obtain ⟨a3, l3, u3, rfl⟩ := inR_t (by decide) (by decide) o3
          obtain ⟨a4, l4, u4, rfl⟩ := inR_t (by decide) (by decide) o4
          obtain ⟨a5, l5, u5, rfl⟩ := inR_t (by decide) (by decide) o5
          obtain ⟨a6, l6, u6, rfl⟩ := inR_t (by decide) (by decide) o6
          obtain ⟨q, hq⟩ : ∃ q, q = σ.1 18 0 := ⟨_, rfl⟩
          have hq8 : q < 8 := by omega
          refine x_aload_n F 0 dX4_rodeo_124 rfl ?_
          refine x_fget F f_X4_110 hR0.1 (v := .int (nI (σ0.1 18 0))) dX4_rodeo_125 rfl ?_
          refine x_ri0 (y := nI (q)) (by rw [eσ0, hq]; rfl) ?_
          refine x_istore F [(10, .int (nI (q))), (0, .ref (m 0)), (1, .int (nI (a0))), (2, .int (nI (a1))), (3, .int (nI (a2))), (4, .int (nI (a3))), (5, .int (nI (a4))), (6, .int (nI (a5))), (7, .int (nI (a6)))] dX4_rodeo_128 (by decide) rfl ?_
          refine x_aload_n F 1 dX4_rodeo_130 rfl ?_
          refine x_fget F f_X4_26 hR0.1 (v := .ref (rA m 8)) dX4_rodeo_131 rfl ?_
          refine x_iload F 0 dX4_rodeo_134 rfl ?_
          refine x_iload_n F 2 dX4_rodeo_136 rfl ?_
          refine x_mst F hR0 8 rfl (fun _ _ => rfl) dX4_rodeo_137 (by show _ < 8; omega) (fun M1 hR1 => ?_)
          refine x_aload_n F 1 dX4_rodeo_138 rfl ?_
          refine x_fget F f_X4_29 hR1.1 (v := .ref (rA m 9)) dX4_rodeo_139 rfl ?_
          refine x_iload F 0 dX4_rodeo_142 rfl ?_
          refine x_iload_n F 3 dX4_rodeo_144 rfl ?_
          refine x_mst F hR1 9 rfl (fun _ _ => rfl) dX4_rodeo_145 (by show _ < 8; omega) (fun M1_2 hR1_2 => ?_)
          refine x_aload_n F 1 dX4_rodeo_146 rfl ?_
          refine x_fget F f_X4_32 hR1_2.1 (v := .ref (rA m 10)) dX4_rodeo_147 rfl ?_
          refine x_iload F 0 dX4_rodeo_150 rfl ?_
          refine x_iload_n F 4 dX4_rodeo_152 rfl ?_
          refine x_mst F hR1_2 10 rfl (fun _ _ => rfl) dX4_rodeo_153 (by show _ < 8; omega) (fun M1_3 hR1_3 => ?_)
          refine x_aload_n F 1 dX4_rodeo_154 rfl ?_
          refine x_fget F f_X4_35 hR1_3.1 (v := .ref (rA m 11)) dX4_rodeo_155 rfl ?_
          refine x_iload F 0 dX4_rodeo_158 rfl ?_
          refine x_iload F 5 dX4_rodeo_160 rfl ?_
          refine x_mst F hR1_3 11 rfl (fun _ _ => rfl) dX4_rodeo_162 (by show _ < 8; omega) (fun M1_4 hR1_4 => ?_)
          refine x_aload_n F 1 dX4_rodeo_163 rfl ?_
          refine x_fget F f_X4_38 hR1_4.1 (v := .ref (rA m 12)) dX4_rodeo_164 rfl ?_
          refine x_iload F 0 dX4_rodeo_167 rfl ?_
          refine x_iload F 6 dX4_rodeo_169 rfl ?_
          refine x_mst F hR1_4 12 rfl (fun _ _ => rfl) dX4_rodeo_171 (by show _ < 8; omega) (fun M1_5 hR1_5 => ?_)
          refine x_aload_n F 1 dX4_rodeo_172 rfl ?_
          refine x_fget F f_X4_41 hR1_5.1 (v := .ref (rA m 13)) dX4_rodeo_173 rfl ?_
          refine x_iload F 0 dX4_rodeo_176 rfl ?_
          refine x_iload F 7 dX4_rodeo_178 rfl ?_
          refine x_mst F hR1_5 13 rfl (fun _ _ => rfl) dX4_rodeo_180 (by show _ < 8; omega) (fun M1_6 hR1_6 => ?_)
          refine x_aload_n F 1 dX4_rodeo_181 rfl ?_
          refine x_fget F f_X4_44 hR1_6.1 (v := .ref (rA m 14)) dX4_rodeo_182 rfl ?_
          refine x_iload F 0 dX4_rodeo_185 rfl ?_
          refine x_iload F 8 dX4_rodeo_187 rfl ?_
          refine x_mst F hR1_6 14 rfl (fun _ _ => rfl) dX4_rodeo_189 (by show _ < 8; omega) (fun M1_7 hR1_7 => ?_)
          have e7 : (uN (uN (uN (uN (uN (uN (uN σ0 8 (q) (a0)) 9 (q) (a1)) 10 (q) (a2)) 11 (q) (a3)) 12 (q) (a4)) 13 (q) (a5)) 14 (q) (a6)) = (roA σ0 q (nI a0) (nI a1) (nI a2) (nI a3) (nI a4) (nI a5) (nI a6)) := by unfold roA; rw [cl_nI (by omega), cl_nI (by omega), cl_nI (by omega), cl_nI (by omega), cl_nI (by omega), cl_nI (by omega), cl_nI (by omega)]
          rw [e7] at hR1_7
          refine x_iload F 0 dX4_rodeo_190 rfl ?_
          refine x_iconst F (nI 0) dX4_rodeo_192 (by decide) ?_
          refine x_callS F s_X4_118 rfl (c_X4_at F.nt ) rfl dX4_rodeo_193 (by decide) (by decide) (Nat.le_of_ble_eq_true rfl) x_noX (ki fun r_2 M2_2 hp_2 => ?_)
          obtain ⟨rfl, rfl⟩ := hp_2
          refine x_istore F [(11, .int (nI (12 * q + 0))), (10, .int (nI (q))), (0, .ref (m 0)), (1, .int (nI (a0))), (2, .int (nI (a1))), (3, .int (nI (a2))), (4, .int (nI (a3))), (5, .int (nI (a4))), (6, .int (nI (a5))), (7, .int (nI (a6)))] dX4_rodeo_196 (by decide) rfl ?_
          have LP198 : ∀ i, i ≤ 12 → ∀ (Mi198 : MM), RM g m M0 (roB (roA σ0 q (nI a0) (nI a1) (nI a2) (nI a3) (nI a4) (nI a5) (nI a6)) q i) Mi198 → ∀ (v198_11 : Int32), v198_11 = nI (12 * q + i) → XW K g 12 Q Mi198 0 0 198 [(11, .int (v198_11)), (10, .int (nI (q))), (0, .ref (m 0)), (1, .int (nI (a0))), (2, .int (nI (a1))), (3, .int (nI (a2))), (4, .int (nI (a3))), (5, .int (nI (a4))), (6, .int (nI (a5))), (7, .int (nI (a6)))] [] := by
            refine x_loop 12 _ (fun i hi ihi => ?_)
            intro Mi198 hR198 v198_11 e198_11
            subst e198_11
            refine x_iload F 0 dX4_rodeo_198 rfl ?_
            refine x_iload F 1 dX4_rodeo_200 rfl ?_
            refine x_iconst F (nI 1) dX4_rodeo_202 (by decide) ?_
            refine x_iaddN F dX4_rodeo_203 ?_
            refine x_iconst F (nI 0) dX4_rodeo_204 (by decide) ?_
            refine x_callS F s_X4_118 rfl (c_X4_at F.nt ) rfl dX4_rodeo_205 (by decide) (by decide) (Nat.le_of_ble_eq_true rfl) x_noX (ki fun r_3 M2_3 hp_3 => ?_)
            obtain ⟨rfl, rfl⟩ := hp_3
            refine x_icmp_ge F 241 dX4_rodeo_208 (by decide) (fun c208 => ?_) (fun c208 => ?_)
            · have c208 := (nI_leI (by omega) (by omega)).mp c208
              have c208b := Nat.not_lt.mpr c208
              have h9 : i = 12 := by omega
              subst h9
              refine x_aload_n F 2 dX4_rodeo_241 rfl ?_
              refine x_dup F dX4_rodeo_242 rfl ?_
              refine x_fget F f_X4_110 hR198.1 (v := .int (nI ((roB (roA σ0 q (nI a0) (nI a1) (nI a2) (nI a3) (nI a4) (nI a5) (nI a6)) q 12).1 18 0))) dX4_rodeo_243 rfl ?_
              refine x_ri0 (y := nI (q)) (by rw [roB_1]; show nI (σ0.1 18 0) = nI q; rw [eσ0, hq]; rfl) ?_
              refine x_iconst F (nI 1) dX4_rodeo_246 (by decide) ?_
              refine x_iaddN F dX4_rodeo_247 ?_
              refine x_mput F hR198 p_X4_110 (by decide) dX4_rodeo_248 (fun M1_8 hR1_8 => ?_)
              refine x_iload F 1 dX4_rodeo_251 rfl ?_
              rw [hQ]
              exact x_iret F dX4_rodeo_253 (by decide) ⟨_, rfl, by rw [if_pos c119, ← eσ0]; unfold roU; rw [show σ0.1 18 0 = q by rw [eσ0, hq]; rfl]; exact hR1_8, fun _ => by rw [hq]⟩
            · have c208 := mt (nI_leI (by omega) (by omega)).mpr c208
              have c208b := Nat.not_le.mp c208
              refine x_aload_n F 2 dX4_rodeo_211 rfl ?_
              refine x_fget F f_X4_65 hR198.1 (v := .ref (rA m 22)) dX4_rodeo_212 rfl ?_
              refine x_iload F 0 dX4_rodeo_215 rfl ?_
              refine x_iconst F ((-1)) dX4_rodeo_217 (by decide) ?_
              refine x_mstR F hR198 22 rfl (fun _ _ => rfl) dX4_rodeo_218 (by show _ < 96; omega) (fun M1_9 hR1_9 => ?_)
              refine x_aload_n F 2 dX4_rodeo_219 rfl ?_
              refine x_fget F f_X4_68 hR1_9.1 (v := .ref (rA m 23)) dX4_rodeo_220 rfl ?_
              refine x_iload F 0 dX4_rodeo_223 rfl ?_
              refine x_iconst F ((-1)) dX4_rodeo_225 (by decide) ?_
              refine x_mstR F hR1_9 23 rfl (fun _ _ => rfl) dX4_rodeo_226 (by show _ < 96; omega) (fun M1_10 hR1_10 => ?_)
              refine x_aload_n F 2 dX4_rodeo_227 rfl ?_
              refine x_fget F f_X4_84 hR1_10.1 (v := .ref (rA m 28)) dX4_rodeo_228 rfl ?_
              refine x_iload F 0 dX4_rodeo_231 rfl ?_
              refine x_iconst F ((-1)) dX4_rodeo_233 (by decide) ?_
              refine x_mstR F hR1_10 28 rfl (fun _ _ => rfl) dX4_rodeo_234 (by show _ < 96; omega) (fun M1_11 hR1_11 => ?_)
              refine x_iinc F 0 [(11, .int (nI (12 * q + i + 1))), (10, .int (nI (q))), (0, .ref (m 0)), (1, .int (nI (a0))), (2, .int (nI (a1))), (3, .int (nI (a2))), (4, .int (nI (a3))), (5, .int (nI (a4))), (6, .int (nI (a5))), (7, .int (nI (a6)))] dX4_rodeo_235 rfl (iincN (12 * q + i) 1) (by decide) rfl ?_
              refine x_goto F 198 dX4_rodeo_238 (by decide) ?_
              exact ihi (by omega) _ (hR1_11) _ (rfl)
          exact LP198 0 (by omega) _ hR1_7 _ (rfl)
        · have c119 := nI_bz0.mp c119
          have c119 := of_decide_eq_false c119
          refine x_iconst F (nI 0) dX4_rodeo_122 (by decide) ?_
          rw [hQ]
          exact x_iret F dX4_rodeo_123 (by decide) ⟨_, rfl, by rw [if_neg c119, ← eσ0]; exact hR0, fun h9 => absurd h9 c119⟩
      refine x_iload F 1 dX4_rodeo_88 rfl ?_
      refine x_if_eq F 98 dX4_rodeo_90 (by decide) (fun c90 => ?_) (fun c90 => ?_)
      · have c90 := nI_bz0.mp c90
        refine x_iconst F (nI 1) dX4_rodeo_98 (by decide) ?_
        refine x_goto F 116 dX4_rodeo_99 (by decide) ?_
        exact J116 _ (by simp [cdRo, okRo, *])
      · have c90 := nI_bz1.mp c90
        refine x_iload F 0 dX4_rodeo_93 rfl ?_
        refine x_if_ne F 102 dX4_rodeo_95 (by decide) (fun c95 => ?_) (fun c95 => ?_)
        · have c95 := nI_bz1.mp c95
          refine x_aload_n F 2 dX4_rodeo_102 rfl ?_
          refine x_fget F f_X4_110 hR.1 (v := .int (nI (σ.1 18 0))) dX4_rodeo_103 rfl ?_
          refine x_bipush F (nI 8) dX4_rodeo_106 (by decide) ?_
          refine x_icmp_ne F 115 dX4_rodeo_108 (by decide) (fun c108 => ?_) (fun c108 => ?_)
          · have c108 := mt (nI_eq (by omega) (by omega)).mpr c108
            refine x_iconst F (nI 0) dX4_rodeo_115 (by decide) ?_
            exact J116 _ (by simp [cdRo, okRo, *])
          · have c108 := (nI_eq (by omega) (by omega)).mp c108
            refine x_iconst F (nI 2) dX4_rodeo_111 (by decide) ?_
            refine x_goto F 116 dX4_rodeo_112 (by decide) ?_
            exact J116 _ (by simp [cdRo, okRo, *])
        · have c95 := nI_bz0.mp c95
          refine x_iconst F (nI 1) dX4_rodeo_98 (by decide) ?_
          refine x_goto F 116 dX4_rodeo_99 (by decide) ?_
          exact J116 _ (by simp [cdRo, okRo, *])
    refine x_iload F 6 dX4_rodeo_47 rfl ?_
    refine x_iconst F (nI 1) dX4_rodeo_49 (by decide) ?_
    refine x_iconst F (nI 4) dX4_rodeo_50 (by decide) ?_
    refine x_callS F s_X4_103 rfl (c_X4_isIn F.nt ) rfl dX4_rodeo_51 (by decide) (by decide) (Nat.le_of_ble_eq_true rfl) x_noX (ki fun r_4 M2_4 hp_4 => ?_)
    obtain ⟨rfl, rfl⟩ := hp_4
    refine x_if_eq F 84 dX4_rodeo_54 (by decide) (fun c54 => ?_) (fun c54 => ?_)
    · have c54 := nI_bz0.mp c54
      refine x_iconst F (nI 0) dX4_rodeo_84 (by decide) ?_
      exact J85 _ (by simp [bz, *])
    · have c54 := nI_bz1.mp c54
      refine x_iload F 7 dX4_rodeo_57 rfl ?_
      refine x_iconst F (nI 0) dX4_rodeo_59 (by decide) ?_
      refine x_ldc F (nI 99999) k_X4_117 dX4_rodeo_60 ?_
      refine x_callS F s_X4_103 rfl (c_X4_isIn F.nt ) rfl dX4_rodeo_62 (by decide) (by decide) (Nat.le_of_ble_eq_true rfl) x_noX (ki fun r_5 M2_5 hp_5 => ?_)
      obtain ⟨rfl, rfl⟩ := hp_5
      refine x_if_eq F 84 dX4_rodeo_65 (by decide) (fun c65 => ?_) (fun c65 => ?_)
      · have c65 := nI_bz0.mp c65
        refine x_iconst F (nI 0) dX4_rodeo_84 (by decide) ?_
        exact J85 _ (by simp [bz, *])
      · have c65 := nI_bz1.mp c65
        refine x_iload F 8 dX4_rodeo_68 rfl ?_
        refine x_iconst F (nI 0) dX4_rodeo_70 (by decide) ?_
        refine x_sipush F (nI 999) dX4_rodeo_71 (by decide) ?_
        refine x_callS F s_X4_103 rfl (c_X4_isIn F.nt ) rfl dX4_rodeo_74 (by decide) (by decide) (Nat.le_of_ble_eq_true rfl) x_noX (ki fun r_6 M2_6 hp_6 => ?_)
        obtain ⟨rfl, rfl⟩ := hp_6
        refine x_if_eq F 84 dX4_rodeo_77 (by decide) (fun c77 => ?_) (fun c77 => ?_)
        · have c77 := nI_bz0.mp c77
          refine x_iconst F (nI 0) dX4_rodeo_84 (by decide) ?_
          exact J85 _ (by simp [bz, *])
        · have c77 := nI_bz1.mp c77
          refine x_iconst F (nI 1) dX4_rodeo_80 (by decide) ?_
          refine x_goto F 85 dX4_rodeo_81 (by decide) ?_
          exact J85 _ (by simp [bz, *])
  refine x_iload_n F 1 dX4_rodeo_0 rfl ?_
  refine x_iconst F (nI 0) dX4_rodeo_1 (by decide) ?_
  refine x_iconst F (nI 1) dX4_rodeo_2 (by decide) ?_
  refine x_callS F s_X4_103 rfl (c_X4_isIn F.nt ) rfl dX4_rodeo_3 (by decide) (by decide) (Nat.le_of_ble_eq_true rfl) x_noX (ki fun r_7 M2_7 hp_7 => ?_)
  obtain ⟨rfl, rfl⟩ := hp_7
  refine x_if_eq F 44 dX4_rodeo_6 (by decide) (fun c6 => ?_) (fun c6 => ?_)
  · have c6 := nI_bz0.mp c6
    refine x_iconst F (nI 0) dX4_rodeo_44 (by decide) ?_
    exact J45 _ (by simp [bz, *])
  · have c6 := nI_bz1.mp c6
    refine x_iload_n F 2 dX4_rodeo_9 rfl ?_
    refine x_iconst F (nI 0) dX4_rodeo_10 (by decide) ?_
    refine x_sipush F (nI 2000) dX4_rodeo_11 (by decide) ?_
    refine x_callS F s_X4_103 rfl (c_X4_isIn F.nt ) rfl dX4_rodeo_14 (by decide) (by decide) (Nat.le_of_ble_eq_true rfl) x_noX (ki fun r_8 M2_8 hp_8 => ?_)
    obtain ⟨rfl, rfl⟩ := hp_8
    refine x_if_eq F 44 dX4_rodeo_17 (by decide) (fun c17 => ?_) (fun c17 => ?_)
    · have c17 := nI_bz0.mp c17
      refine x_iconst F (nI 0) dX4_rodeo_44 (by decide) ?_
      exact J45 _ (by simp [bz, *])
    · have c17 := nI_bz1.mp c17
      refine x_iload_n F 3 dX4_rodeo_20 rfl ?_
      refine x_iconst F (nI 0) dX4_rodeo_21 (by decide) ?_
      refine x_bipush F (nI 60) dX4_rodeo_22 (by decide) ?_
      refine x_callS F s_X4_103 rfl (c_X4_isIn F.nt ) rfl dX4_rodeo_24 (by decide) (by decide) (Nat.le_of_ble_eq_true rfl) x_noX (ki fun r_9 M2_9 hp_9 => ?_)
      obtain ⟨rfl, rfl⟩ := hp_9
      refine x_if_eq F 44 dX4_rodeo_27 (by decide) (fun c27 => ?_) (fun c27 => ?_)
      · have c27 := nI_bz0.mp c27
        refine x_iconst F (nI 0) dX4_rodeo_44 (by decide) ?_
        exact J45 _ (by simp [bz, *])
      · have c27 := nI_bz1.mp c27
        refine x_iload F 4 dX4_rodeo_30 rfl ?_
        refine x_iconst F (nI 1) dX4_rodeo_32 (by decide) ?_
        refine x_iconst F (nI 4) dX4_rodeo_33 (by decide) ?_
        refine x_callS F s_X4_103 rfl (c_X4_isIn F.nt ) rfl dX4_rodeo_34 (by decide) (by decide) (Nat.le_of_ble_eq_true rfl) x_noX (ki fun r_10 M2_10 hp_10 => ?_)
        obtain ⟨rfl, rfl⟩ := hp_10
        refine x_if_eq F 44 dX4_rodeo_37 (by decide) (fun c37 => ?_) (fun c37 => ?_)
        · have c37 := nI_bz0.mp c37
          refine x_iconst F (nI 0) dX4_rodeo_44 (by decide) ?_
          exact J45 _ (by simp [bz, *])
        · have c37 := nI_bz1.mp c37
          refine x_iconst F (nI 1) dX4_rodeo_40 (by decide) ?_
          refine x_goto F 45 dX4_rodeo_41 (by decide) ?_
          exact J45 _ (by simp [bz, *])
set_option maxHeartbeats 4000000 in
set_option maxRecDepth 100000 in
theorem c_X4_enter {l : Launch} (hl : l.stackTraces = false) {g : GP} {M : MM} {m : Nat → Nat} {M0 : MM} {σ : ST} {x0 y0 s0 w0 : Int32} (hR : RM g m M0 σ M) (hB : Bd σ) (hw : ∀ r k, r < σ.1 18 0 → k < σ.1 17 r → σ.1 19 (12 * r + k) < 12) (hlt : ∀ r j, r < σ.1 18 0 → j < σ.1 7 0 → hasE σ r j = false → σ.1 17 r < 12) : CT l g yX4_enter cX4_enter 7 (some .int) 2 45 0 0 [.ref (m 0), .int (x0), .int (y0), .int (s0), .int (w0)] M (pI (fun r9 M9 => RM g m M0 (if cdEn σ x0 y0 s0 w0 = 0 then enU (uN σ 0 0 (cdEn σ x0 y0 s0 w0)) (cl x0) (cl y0) (cl s0) (cl w0) else uN σ 0 0 (cdEn σ x0 y0 s0 w0)) M9 ∧ (cdEn σ x0 y0 s0 w0 = 0 → r9 = nI (σ.1 17 (cl x0) + 1)))) nX := by
  refine ct_of [(0, .ref (m 0)), (1, .int (x0)), (2, .int (y0)), (3, .int (s0)), (4, .int (w0))] (by decide) hl (Nat.le_of_ble_eq_true rfl) rfl ?_
  intro K hK F
  subst hK
  have F : Fx K g cX4_enter RX4 7 (some .int) [] 2 45 0 0 := F
  obtain ⟨Q, hQ⟩ : ∃ Q, Q = MQx K g (pI (fun r9 M9 => RM g m M0 (if cdEn σ x0 y0 s0 w0 = 0 then enU (uN σ 0 0 (cdEn σ x0 y0 s0 w0)) (cl x0) (cl y0) (cl s0) (cl w0) else uN σ 0 0 (cdEn σ x0 y0 s0 w0)) M9 ∧ (cdEn σ x0 y0 s0 w0 = 0 → r9 = nI (σ.1 17 (cl x0) + 1)))) nX 0 0 := ⟨_, rfl⟩
  rw [← hQ]
  have hB9 := hB
  obtain ⟨h6, h7, h18, hr8, hk96, hp96, hb16, hh⟩ := hB9
  have J21 : ∀ (va : Int32), va = nI (bz (inN x0 (σ.1 18 0) && inN y0 (σ.1 7 0))) → XW K g 7 Q M 0 0 21 [(0, .ref (m 0)), (1, .int (x0)), (2, .int (y0)), (3, .int (s0)), (4, .int (w0))] [.int (va)] := by
    intro va ej21_va
    subst ej21_va
    refine x_istore F [(5, .int (nI (bz (inN x0 (σ.1 18 0) && inN y0 (σ.1 7 0))))), (0, .ref (m 0)), (1, .int (x0)), (2, .int (y0)), (3, .int (s0)), (4, .int (w0))] dX4_enter_21 (by decide) rfl ?_
    have J69 : ∀ (vb : Int32), vb = nI (bz ((inN x0 (σ.1 18 0) && inN y0 (σ.1 7 0)) && mayE σ x0 s0 w0)) → XW K g 7 Q M 0 0 69 [(5, .int (nI (bz (inN x0 (σ.1 18 0) && inN y0 (σ.1 7 0))))), (0, .ref (m 0)), (1, .int (x0)), (2, .int (y0)), (3, .int (s0)), (4, .int (w0))] [.int (vb)] := by
      intro vb ej69_vb
      subst ej69_vb
      refine x_istore F [(6, .int (nI (bz ((inN x0 (σ.1 18 0) && inN y0 (σ.1 7 0)) && mayE σ x0 s0 w0)))), (5, .int (nI (bz (inN x0 (σ.1 18 0) && inN y0 (σ.1 7 0))))), (0, .ref (m 0)), (1, .int (x0)), (2, .int (y0)), (3, .int (s0)), (4, .int (w0))] dX4_enter_69 (by decide) rfl ?_
      refine x_aload_n F 2 dX4_enter_71 rfl ?_
      have J113 : ∀ (vj : Int32), vj = nI (cdEn σ x0 y0 s0 w0) → XW K g 7 Q M 0 0 113 [(6, .int (nI (bz ((inN x0 (σ.1 18 0) && inN y0 (σ.1 7 0)) && mayE σ x0 s0 w0)))), (5, .int (nI (bz (inN x0 (σ.1 18 0) && inN y0 (σ.1 7 0))))), (0, .ref (m 0)), (1, .int (x0)), (2, .int (y0)), (3, .int (s0)), (4, .int (w0))] [.int (vj), .ref (m 0)] := by
        intro vj ej113_vj
        subst ej113_vj
        refine x_callV F s_X4_113 hR.1 rfl rfl (c_X4_holds F.nt hR (lt_cdEn)) rfl dX4_enter_113 (by decide) (by decide) (Nat.le_of_ble_eq_true rfl) x_noX (ki fun r M2 hp => ?_)
        obtain ⟨rfl, hR0⟩ := hp
        obtain ⟨σ0, eσ0⟩ : ∃ z, z = uN σ 0 0 ((cdEn σ x0 y0 s0 w0)) := ⟨_, rfl⟩
        rw [← eσ0] at hR0
        have hBσ0 : Bd σ0 := eσ0 ▸ Bd_u0 hB
        refine x_if_ne F 121 dX4_enter_116 (by decide) (fun c116 => ?_) (fun c116 => ?_)
        · have c116 := nI_bz1.mp c116
          have c116 := of_decide_eq_true c116
          obtain ⟨c117, c118, c119, c120⟩ := cdEn_1 c116
          obtain ⟨d1, x1⟩ := inN_cl (by omega) c117.1
          obtain ⟨d2, y1⟩ := inN_cl (by omega) c117.2
          obtain ⟨s1, s2, w1, w2⟩ := mayE_1 (by have := (hr8 (cl x0) (by omega)).2.2.1; omega) c118
          have c121 := hlt (cl x0) (cl y0) d1 d2 c120
          have f17 : σ0.1 17 (cl x0) = σ.1 17 (cl x0) := by rw [eσ0]; rfl
          rw [x1, y1, s1, w1]
          refine x_aload_n F 2 dX4_enter_121 rfl ?_
          refine x_fget F f_X4_56 hR0.1 (v := .ref (rA m 19)) dX4_enter_122 rfl ?_
          refine x_iload_n F 3 dX4_enter_125 rfl ?_
          refine x_aload_n F 2 dX4_enter_126 rfl ?_
          refine x_fget F f_X4_53 hR0.1 (v := .ref (rA m 17)) dX4_enter_127 rfl ?_
          refine x_iload_n F 3 dX4_enter_130 rfl ?_
          refine x_mld F hR0 17 rfl (fun _ _ => rfl) dX4_enter_131 (by show _ < 8; omega) ?_
          refine x_callS F s_X4_118 rfl (c_X4_at F.nt ) rfl dX4_enter_132 (by decide) (by decide) (Nat.le_of_ble_eq_true rfl) x_noX (ki fun r_2 M2_2 hp_2 => ?_)
          obtain ⟨rfl, rfl⟩ := hp_2
          refine x_iload_n F 4 dX4_enter_135 rfl ?_
          refine x_mst F hR0 19 rfl (fun _ _ => rfl) dX4_enter_136 (by show _ < 96; omega) (fun M1 hR1 => ?_)
          refine x_aload_n F 2 dX4_enter_137 rfl ?_
          refine x_fget F f_X4_59 hR1.1 (v := .ref (rA m 20)) dX4_enter_138 rfl ?_
          refine x_iload_n F 3 dX4_enter_141 rfl ?_
          refine x_iload_n F 4 dX4_enter_142 rfl ?_
          refine x_callS F s_X4_118 rfl (c_X4_at F.nt ) rfl dX4_enter_143 (by decide) (by decide) (Nat.le_of_ble_eq_true rfl) x_noX (ki fun r_3 M2_3 hp_3 => ?_)
          obtain ⟨rfl, rfl⟩ := hp_3
          refine x_iload_n F 5 dX4_enter_146 rfl ?_
          refine x_mst F hR1 20 rfl (fun _ _ => rfl) dX4_enter_147 (by show _ < 96; omega) (fun M1_2 hR1_2 => ?_)
          refine x_aload_n F 2 dX4_enter_148 rfl ?_
          refine x_fget F f_X4_62 hR1_2.1 (v := .ref (rA m 21)) dX4_enter_149 rfl ?_
          refine x_iload_n F 3 dX4_enter_152 rfl ?_
          refine x_iload_n F 4 dX4_enter_153 rfl ?_
          refine x_callS F s_X4_118 rfl (c_X4_at F.nt ) rfl dX4_enter_154 (by decide) (by decide) (Nat.le_of_ble_eq_true rfl) x_noX (ki fun r_4 M2_4 hp_4 => ?_)
          obtain ⟨rfl, rfl⟩ := hp_4
          refine x_iload F 6 dX4_enter_157 rfl ?_
          refine x_mst F hR1_2 21 rfl (fun _ _ => rfl) dX4_enter_159 (by show _ < 96; omega) (fun M1_3 hR1_3 => ?_)
          refine x_aload_n F 2 dX4_enter_160 rfl ?_
          refine x_fget F f_X4_53 hR1_3.1 (v := .ref (rA m 17)) dX4_enter_161 rfl ?_
          refine x_iload_n F 3 dX4_enter_164 rfl ?_
          refine x_dup2 F dX4_enter_165 rfl rfl ?_
          refine x_mld F hR1_3 17 rfl (fun _ _ => rfl) dX4_enter_166 (by show _ < 8; omega) ?_
          refine x_ri0 (y := nI (σ0.1 17 (cl x0))) (rfl) ?_
          refine x_iconst F (nI 1) dX4_enter_167 (by decide) ?_
          refine x_iaddN F dX4_enter_168 ?_
          refine x_mst F hR1_3 17 rfl (fun _ _ => rfl) dX4_enter_169 (by show _ < 8; omega) (fun M1_4 hR1_4 => ?_)
          refine x_aload_n F 2 dX4_enter_170 rfl ?_
          refine x_fget F f_X4_53 hR1_4.1 (v := .ref (rA m 17)) dX4_enter_171 rfl ?_
          refine x_iload_n F 3 dX4_enter_174 rfl ?_
          refine x_mld F hR1_4 17 rfl (fun _ _ => rfl) dX4_enter_175 (by show _ < 8; omega) ?_
          refine x_ri0 (y := nI (σ.1 17 (cl x0) + 1)) (by rw [← f17]; simp [uN]) ?_
          rw [hQ]
          exact x_iret F dX4_enter_176 (by decide) ⟨_, rfl, by rw [if_pos c116, ← eσ0]; exact RM_x hR1_4 (by decide), fun _ => rfl⟩
        · have c116 := nI_bz0.mp c116
          have c116 := of_decide_eq_false c116
          refine x_iconst F (nI 0) dX4_enter_119 (by decide) ?_
          rw [hQ]
          exact x_iret F dX4_enter_120 (by decide) ⟨_, rfl, by rw [if_neg c116, ← eσ0]; exact hR0, fun h9 => absurd h9 c116⟩
      refine x_iload F 1 dX4_enter_72 rfl ?_
      refine x_if_ne F 81 dX4_enter_74 (by decide) (fun c74 => ?_) (fun c74 => ?_)
      · have c74 := nI_bz1.mp c74
        have c11 := Bool.and_eq_true_iff.mp c74
        have d1 := inN_cl (by omega) c11.1
        have d2 := inN_cl (by omega) c11.2
        refine x_iload F 0 dX4_enter_81 rfl ?_
        refine x_if_ne F 90 dX4_enter_83 (by decide) (fun c83 => ?_) (fun c83 => ?_)
        · have c83 := nI_bz1.mp c83
          have c84 := (Bool.and_eq_true_iff.mp c83).2
          refine x_aload_n F 2 dX4_enter_90 rfl ?_
          refine x_fget F f_X4_47 hR.1 (v := .ref (rA m 15)) dX4_enter_91 rfl ?_
          refine x_iload_n F 3 dX4_enter_94 rfl ?_
          refine x_ri0 (y := nI (cl x0)) (d1.2) ?_
          refine x_mld F hR 15 rfl (fun _ _ => rfl) dX4_enter_95 (by show _ < 8; omega) ?_
          refine x_if_ne F 108 dX4_enter_96 (by decide) (fun c96 => ?_) (fun c96 => ?_)
          · have c96 := mt (nI_z (by have := (hr8 (cl x0) (by omega)).2.2.2.2.2.2.1; omega)).mpr c96
            refine x_iconst F (nI 3) dX4_enter_108 (by decide) ?_
            refine x_goto F 113 dX4_enter_109 (by decide) ?_
            exact J113 _ (by (try clear d1); (try clear d2); simp [cdEn, *])
          · have c96 := (nI_z (by have := (hr8 (cl x0) (by omega)).2.2.2.2.2.2.1; omega)).mp c96
            refine x_aload_n F 2 dX4_enter_99 rfl ?_
            refine x_iload_n F 3 dX4_enter_100 rfl ?_
            refine x_ri0 (y := nI (cl x0)) (d1.2) ?_
            refine x_iload_n F 4 dX4_enter_101 rfl ?_
            refine x_ri0 (y := nI (cl y0)) (d2.2) ?_
            refine x_callV F s_X4_138 hR.1 rfl rfl (c_X4_hasEntered F.nt hR (by omega) (by omega) ((hr8 (cl x0) (by omega)).2.2.2.2.2.2.2.1) (fun k hk => (hk96 k hk).1)) rfl dX4_enter_102 (by decide) (by decide) (Nat.le_of_ble_eq_true rfl) x_noX (ki fun r_5 M2_5 hp_5 => ?_)
            obtain ⟨rfl, rfl⟩ := hp_5
            refine x_if_eq F 112 dX4_enter_105 (by decide) (fun c105 => ?_) (fun c105 => ?_)
            · have c105 := nI_bz0.mp c105
              refine x_iconst F (nI 0) dX4_enter_112 (by decide) ?_
              exact J113 _ (by (try clear d1); (try clear d2); simp [cdEn, *])
            · have c105 := nI_bz1.mp c105
              refine x_iconst F (nI 3) dX4_enter_108 (by decide) ?_
              refine x_goto F 113 dX4_enter_109 (by decide) ?_
              exact J113 _ (by (try clear d1); (try clear d2); simp [cdEn, *])
        · have c83 := nI_bz0.mp c83
          have c84 : mayE σ x0 s0 w0 = false := by simpa [c11.1, c11.2] using c83
          refine x_iconst F (nI 2) dX4_enter_86 (by decide) ?_
          refine x_goto F 113 dX4_enter_87 (by decide) ?_
          exact J113 _ (by (try clear d1); (try clear d2); simp [cdEn, *])
      · have c74 := nI_bz0.mp c74
        refine x_iconst F (nI 1) dX4_enter_77 (by decide) ?_
        refine x_goto F 113 dX4_enter_78 (by decide) ?_
        exact J113 _ (by (try clear d1); (try clear d2); simp [cdEn, *])
    refine x_iload F 0 dX4_enter_23 rfl ?_
    refine x_if_eq F 68 dX4_enter_25 (by decide) (fun c25 => ?_) (fun c25 => ?_)
    · have c25 := nI_bz0.mp c25
      refine x_iconst F (nI 0) dX4_enter_68 (by decide) ?_
      exact J69 _ (by (try clear d1 d2 c10); simp [bz, mayE, *])
    · have c25 := nI_bz1.mp c25
      have c10 := Bool.and_eq_true_iff.mp c25
      have d1 := inN_cl (by omega) c10.1
      have d2 := inN_cl (by omega) c10.2
      refine x_iload_n F 4 dX4_enter_28 rfl ?_
      refine x_if_le F 68 dX4_enter_29 (by decide) (fun c29 => ?_) (fun c29 => ?_)
      · have d29 : ¬ 0 < s0 := Int32.not_lt.mpr c29
        refine x_iconst F (nI 0) dX4_enter_68 (by decide) ?_
        exact J69 _ (by (try clear d1 d2 c10); simp [bz, mayE, *])
      · have d29 : 0 < s0 := Int32.not_le.mp c29
        refine x_iload_n F 4 dX4_enter_32 rfl ?_
        refine x_iconst F (nI 1) dX4_enter_33 (by decide) ?_
        refine x_aload_n F 1 dX4_enter_34 rfl ?_
        refine x_fget F f_X4_35 hR.1 (v := .ref (rA m 11)) dX4_enter_35 rfl ?_
        refine x_iload_n F 2 dX4_enter_38 rfl ?_
        refine x_ri0 (y := nI (cl x0)) (d1.2) ?_
        refine x_mld F hR 11 rfl (fun _ _ => rfl) dX4_enter_39 (by show _ < 8; omega) ?_
        refine x_ishl F dX4_enter_40 ?_
        refine x_icmp_ge F 68 dX4_enter_41 (by decide) (fun c41 => ?_) (fun c41 => ?_)
        · have d41 := Int32.not_lt.mpr c41
          refine x_iconst F (nI 0) dX4_enter_68 (by decide) ?_
          exact J69 _ (by (try clear d1 d2 c10); simp [bz, mayE, *])
        · have d41 := Int32.not_le.mp c41
          refine x_iload F 5 dX4_enter_44 rfl ?_
          refine x_iconst F (nI 0) dX4_enter_46 (by decide) ?_
          refine x_iconst F (nI 3) dX4_enter_47 (by decide) ?_
          refine x_callS F s_X4_103 rfl (c_X4_isIn F.nt ) rfl dX4_enter_48 (by decide) (by decide) (Nat.le_of_ble_eq_true rfl) x_noX (ki fun r_6 M2_6 hp_6 => ?_)
          obtain ⟨rfl, rfl⟩ := hp_6
          refine x_if_eq F 68 dX4_enter_51 (by decide) (fun c51 => ?_) (fun c51 => ?_)
          · have c51 := nI_bz0.mp c51
            refine x_iconst F (nI 0) dX4_enter_68 (by decide) ?_
            exact J69 _ (by (try clear d1 d2 c10); simp [bz, mayE, *])
          · have c51 := nI_bz1.mp c51
            refine x_iload_n F 4 dX4_enter_54 rfl ?_
            refine x_iload F 5 dX4_enter_55 rfl ?_
            refine x_ishr F dX4_enter_57 ?_
            refine x_iconst F (nI 1) dX4_enter_58 (by decide) ?_
            refine x_iand F dX4_enter_59 ?_
            refine x_iconst F (nI 1) dX4_enter_60 (by decide) ?_
            refine x_icmp_ne F 68 dX4_enter_61 (by decide) (fun c61 => ?_) (fun c61 => ?_)
            · refine x_iconst F (nI 0) dX4_enter_68 (by decide) ?_
              exact J69 _ (by (try clear d1 d2 c10); simp [bz, mayE, *])
            · refine x_iconst F (nI 1) dX4_enter_64 (by decide) ?_
              refine x_goto F 69 dX4_enter_65 (by decide) ?_
              exact J69 _ (by (try clear d1 d2 c10); simp [bz, mayE, *])
  refine x_aload_n F 0 dX4_enter_0 rfl ?_
  refine x_iload_n F 1 dX4_enter_1 rfl ?_
  refine x_callV F s_X4_129 hR.1 rfl rfl (c_X4_isRodeo F.nt hR (by omega)) rfl dX4_enter_2 (by decide) (by decide) (Nat.le_of_ble_eq_true rfl) x_noX (ki fun r_7 M2_7 hp_7 => ?_)
  obtain ⟨rfl, rfl⟩ := hp_7
  refine x_if_eq F 20 dX4_enter_5 (by decide) (fun c5 => ?_) (fun c5 => ?_)
  · have c5 := nI_bz0.mp c5
    refine x_iconst F (nI 0) dX4_enter_20 (by decide) ?_
    exact J21 _ (by simp [bz, *])
  · have c5 := nI_bz1.mp c5
    refine x_aload_n F 0 dX4_enter_8 rfl ?_
    refine x_iload_n F 2 dX4_enter_9 rfl ?_
    refine x_callV F s_X4_135 hR.1 rfl rfl (c_X4_isRider F.nt hR (by omega)) rfl dX4_enter_10 (by decide) (by decide) (Nat.le_of_ble_eq_true rfl) x_noX (ki fun r_8 M2_8 hp_8 => ?_)
    obtain ⟨rfl, rfl⟩ := hp_8
    refine x_if_eq F 20 dX4_enter_13 (by decide) (fun c13 => ?_) (fun c13 => ?_)
    · have c13 := nI_bz0.mp c13
      refine x_iconst F (nI 0) dX4_enter_20 (by decide) ?_
      exact J21 _ (by simp [bz, *])
    · have c13 := nI_bz1.mp c13
      refine x_iconst F (nI 1) dX4_enter_16 (by decide) ?_
      refine x_goto F 21 dX4_enter_17 (by decide) ?_
      exact J21 _ (by simp [bz, *])
