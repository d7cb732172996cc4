/-! the law's deeds -/
theorem nI_neg {n : Nat} {v : Int32} {P : Prop} (h : n < 2 ^ 31) (hv : v.toInt < 0) (e : nI n = v) : P := by
  have h1 := congrArg Int32.toInt e
  rw [nI_toInt h] at h1
  omega
theorem cdSt_p {σ : ST} {v : Nat} (h18 : σ.1 18 0 ≤ 8) (h : ¬ cdSt σ (nI 0) v = 1) : 0 < σ.1 18 0 := by
  refine Nat.pos_of_ne_zero (fun z => h ?_)
  unfold cdSt
  rw [inN_nI (by decide), decide_eq_false (by omega)]
  rfl
theorem cdSt_n {σ : ST} {v : Nat} (h18 : σ.1 18 0 ≤ 8) (h : cdSt σ (nI 0) v = 1) : σ.1 18 0 = 0 := by
  refine Classical.byContradiction (fun z => ?_)
  rw [cdSt_k h18 (Nat.pos_of_ne_zero z)] at h
  split at h <;> omega
theorem roA_o {σ : ST} {q s i : Nat} {a0 a1 a2 a3 a4 a5 a6 : Int32} (hs : ¬ (8 ≤ s ∧ s ≤ 14)) : (roA σ q a0 a1 a2 a3 a4 a5 a6).1 s i = σ.1 s i := by
  simp only [roA, uN]
  rw [if_neg (by omega), if_neg (by omega), if_neg (by omega), if_neg (by omega), if_neg (by omega), if_neg (by omega), if_neg (by omega)]
theorem ro_o {σ : ST} {s i : Nat} {a0 a1 a2 a3 a4 a5 a6 : Int32} : (roU σ a0 a1 a2 a3 a4 a5 a6).1 s i = if s = 18 ∧ i = 0 then σ.1 18 0 + 1 else (roA σ (σ.1 18 0) a0 a1 a2 a3 a4 a5 a6).1 s i := by
  have e := roB_1 (σ := roA σ (σ.1 18 0) a0 a1 a2 a3 a4 a5 a6) (q := σ.1 18 0) 12
  show (if s = 18 ∧ i = 0 then σ.1 18 0 + 1 else (roB (roA σ (σ.1 18 0) a0 a1 a2 a3 a4 a5 a6) (σ.1 18 0) 12).1 s i) = _
  rw [e]
theorem ro_18 {σ : ST} {a0 a1 a2 a3 a4 a5 a6 : Int32} : (roU σ a0 a1 a2 a3 a4 a5 a6).1 18 0 = σ.1 18 0 + 1 := by rw [ro_o, if_pos ⟨rfl, rfl⟩]
theorem ro_6 {σ : ST} {a0 a1 a2 a3 a4 a5 a6 : Int32} : (roU σ a0 a1 a2 a3 a4 a5 a6).1 6 0 = σ.1 6 0 := by rw [ro_o, if_neg (by omega), roA_o (by omega)]
theorem ro_7 {σ : ST} {a0 a1 a2 a3 a4 a5 a6 : Int32} : (roU σ a0 a1 a2 a3 a4 a5 a6).1 7 0 = σ.1 7 0 := by rw [ro_o, if_neg (by omega), roA_o (by omega)]
set_option maxHeartbeats 4000000 in
set_option maxRecDepth 100000 in
theorem blk_beast {K : KX} {g : GP} {Q : State → Prop} {M M0 : MM} {A : Nat → Nat} {σ : ST} {a b c o zz T t dd ri rj : Nat} {xv lk : Int32} {hh9 : List (Nat × Nat × Nat × Nat)} (F : Fx K g cL_law RL 19 (some .boolean) hh9 14 566 600064 7301640) (ha : a + 500 ≤ 600064) (hb : b + 5000 ≤ 7301640) (ho : A 0 = o) (hR : CM g A M0 σ M) (hJ : IJ c σ) (hc : c < 512) (hz : zz < 2 ^ 27)  (kk : ∀ A3 σ3 M3 nb nr nd lk3, A3 0 = o → CM g A3 M3 σ3 M3 → IJ (c + 1) σ3 → nb = σ3.1 6 0 → nr = σ3.1 7 0 → nd = σ3.1 18 0 → XW K g 19 Q M3 (a + 500) (b + 5000) 1504 [(8, .int (nI t)), (7, .int (nI T)), (6, .int (nI 1)), (5, .int lk3), (4, .int (nI nd)), (3, .int (nI nr)), (2, .int (nI nb)), (1, .ref o), (0, .ref (gXb g))] []) : XW K g 19 Q M a b 167 [(13, .int (nI (rj))), (12, .int (nI (ri))), (11, .int (nI (dd))), (10, .int (nI (zz))), (9, .int (xv)), (8, .int (nI (t))), (7, .int (nI (T))), (6, .int (nI (1))), (5, .int (lk)), (4, .int (nI (σ.1 18 0))), (3, .int (nI (σ.1 7 0))), (2, .int (nI (σ.1 6 0))), (1, .ref (o)), (0, .ref (gXb g))] [] := by
  have h6 := hJ.1.B.1
  have h7 := hJ.1.B.2.1
  have h18 := hJ.1.B.2.2.1
  refine x_aload_n F 12 dL_law_167 rfl ?_
  refine x_iconst F (nI 0) dL_law_168 (by decide) ?_
  refine x_iload F 3 dL_law_169 rfl ?_
  refine x_iconst F (nI 3) dL_law_171 (by decide) ?_
  refine x_iand F dL_law_172 ?_
  refine x_ri0 (y := nI (zz % 2 ^ 2)) (pk_andN (by omega) 2 (by decide)) ?_
  refine x_if_ne F 180 dL_law_173 (by decide) (fun c173 => ?_) (fun c173 => ?_)
  · have c173 := mt (nI_z (by omega)).mpr c173
    refine x_iconst F (nI 0) dL_law_180 (by decide) ?_
    refine x_iconst F (nI 0) dL_law_181 (by decide) ?_
    refine x_iconst F (nI 0) dL_law_182 (by decide) ?_
    refine x_iconst F (nI 0) dL_law_183 (by decide) ?_
    refine x_callH F w_h_ask rfl (qa_beast F.nt ho hR hJ.1 (x0 := nI 0)) rfl dL_law_184 (by decide) ⟨by omega, by omega⟩ (Nat.le_of_ble_eq_true rfl) (ki fun r M2 hp => ?_)
    rcases hp with ⟨hcd, rfl, A2, hA2, hC2⟩ | ⟨hcd, rfl, rfl⟩ | ⟨hcd, rfl, rfl⟩
    · have hJ2 := IJ_beast hJ hc hcd
      have n16 : ¬ σ.1 6 0 = 16 := fun z => by rw [cdBe_k (by decide), if_pos z] at hcd; cases hcd
      refine x_iload_n F 11 dL_law_187 rfl ?_
      refine x_bipush F (nI 16) dL_law_188 (by decide) ?_
      refine x_icmp_ne F 198 dL_law_190 (by decide) (fun c190 => ?_) (fun c190 => ?_)
      · have c190 := mt (nI_eq (by omega) (by omega)).mpr c190
        refine x_iload_n F 11 dL_law_198 rfl ?_
        refine x_icmp_ne F 206 dL_law_199 (by decide) (fun c199 => ?_) (fun c199 => ?_)
        · have c199 := mt (nI_eq (by omega) (by omega)).mpr c199
          omega
        · have c199 := (nI_eq (by omega) (by omega)).mp c199
          refine x_iconst F (nI 1) dL_law_202 (by decide) ?_
          refine x_goto F 207 dL_law_203 (by decide) ?_
          refine x_istore F [(6, .int (nI (1))), (13, .int (nI (rj))), (12, .int (nI (ri))), (11, .int (nI (dd))), (10, .int (nI (zz))), (9, .int (xv)), (8, .int (nI (t))), (7, .int (nI (T))), (5, .int (lk)), (4, .int (nI (σ.1 18 0))), (3, .int (nI (σ.1 7 0))), (2, .int (nI (σ.1 6 0))), (1, .ref (o)), (0, .ref (gXb g))] dL_law_207 (by decide) rfl ?_
          refine x_iload_n F 11 dL_law_209 rfl ?_
          refine x_iload_n F 11 dL_law_210 rfl ?_
          refine x_bipush F (nI 16) dL_law_211 (by decide) ?_
          refine x_icmp_ge F 220 dL_law_213 (by decide) (fun c213 => ?_) (fun c213 => ?_)
          · have c213 := (nI_leI (by omega) (by omega)).mp c213
            have c213b := Nat.not_lt.mpr c213
            omega
          · have c213 := mt (nI_leI (by omega) (by omega)).mpr c213
            have c213b := Nat.not_le.mp c213
            refine x_iconst F (nI 1) dL_law_216 (by decide) ?_
            refine x_goto F 221 dL_law_217 (by decide) ?_
            refine x_iaddN F dL_law_221 ?_
            refine x_istore_n F [(2, .int (nI ((σ.1 6 0) + 1))), (6, .int (nI (1))), (13, .int (nI (rj))), (12, .int (nI (ri))), (11, .int (nI (dd))), (10, .int (nI (zz))), (9, .int (xv)), (8, .int (nI (t))), (7, .int (nI (T))), (5, .int (lk)), (4, .int (nI (σ.1 18 0))), (3, .int (nI (σ.1 7 0))), (1, .ref (o)), (0, .ref (gXb g))] dL_law_222 (by decide) rfl ?_
            refine x_goto F 1504 dL_law_223 (by decide) ?_
            refine x_sub [7, 8, 1, 9, 10, 11, 0, 12, 13] rfl (L' := [(8, .int (nI (t))), (7, .int (nI (T))), (6, .int (nI (1))), (5, .int (lk)), (4, .int (nI (σ.1 18 0))), (3, .int (nI (σ.1 7 0))), (2, .int (nI ((σ.1 6 0) + 1))), (1, .ref (o)), (0, .ref (gXb g))]) ?_
            refine x_widen (a' := a + 500) (b' := b + 5000) (by omega) (by omega) ?_
            exact kk A2 _ _ _ _ _ _ (hA2.trans ho) hC2 hJ2 rfl rfl rfl
      · have c190 := (nI_eq (by omega) (by omega)).mp c190
        omega
    · rw [cdBe_k (by decide)] at hcd; split at hcd <;> omega
    · have y16 : σ.1 6 0 = 16 := Classical.byContradiction (fun z => by rw [cdBe_k (by decide), if_neg z] at hcd; cases hcd)
      refine x_iload_n F 11 dL_law_187 rfl ?_
      refine x_bipush F (nI 16) dL_law_188 (by decide) ?_
      refine x_icmp_ne F 198 dL_law_190 (by decide) (fun c190_2 => ?_) (fun c190_2 => ?_)
      · have c190_2 := mt (nI_eq (by omega) (by omega)).mpr c190_2
        omega
      · have c190_2 := (nI_eq (by omega) (by omega)).mp c190_2
        refine x_bipush F ((-13)) dL_law_193 (by decide) ?_
        refine x_goto F 199 dL_law_195 (by decide) ?_
        refine x_icmp_ne F 206 dL_law_199 (by decide) (fun c199_2 => ?_) (fun c199_2 => ?_)
        · exact absurd rfl c199_2
        · refine x_iconst F (nI 1) dL_law_202 (by decide) ?_
          refine x_goto F 207 dL_law_203 (by decide) ?_
          refine x_istore F [(6, .int (nI (1))), (13, .int (nI (rj))), (12, .int (nI (ri))), (11, .int (nI (dd))), (10, .int (nI (zz))), (9, .int (xv)), (8, .int (nI (t))), (7, .int (nI (T))), (5, .int (lk)), (4, .int (nI (σ.1 18 0))), (3, .int (nI (σ.1 7 0))), (2, .int (nI (σ.1 6 0))), (1, .ref (o)), (0, .ref (gXb g))] dL_law_207 (by decide) rfl ?_
          refine x_iload_n F 11 dL_law_209 rfl ?_
          refine x_iload_n F 11 dL_law_210 rfl ?_
          refine x_bipush F (nI 16) dL_law_211 (by decide) ?_
          refine x_icmp_ge F 220 dL_law_213 (by decide) (fun c213_2 => ?_) (fun c213_2 => ?_)
          · have c213_2 := (nI_leI (by omega) (by omega)).mp c213_2
            have c213_2b := Nat.not_lt.mpr c213_2
            refine x_iconst F (nI 0) dL_law_220 (by decide) ?_
            refine x_iaddN F dL_law_221 ?_
            refine x_istore_n F [(2, .int (nI ((σ.1 6 0) + 0))), (6, .int (nI (1))), (13, .int (nI (rj))), (12, .int (nI (ri))), (11, .int (nI (dd))), (10, .int (nI (zz))), (9, .int (xv)), (8, .int (nI (t))), (7, .int (nI (T))), (5, .int (lk)), (4, .int (nI (σ.1 18 0))), (3, .int (nI (σ.1 7 0))), (1, .ref (o)), (0, .ref (gXb g))] dL_law_222 (by decide) rfl ?_
            refine x_goto F 1504 dL_law_223 (by decide) ?_
            refine x_sub [7, 8, 1, 9, 10, 11, 0, 12, 13] rfl (L' := [(8, .int (nI (t))), (7, .int (nI (T))), (6, .int (nI (1))), (5, .int (lk)), (4, .int (nI (σ.1 18 0))), (3, .int (nI (σ.1 7 0))), (2, .int (nI ((σ.1 6 0) + 0))), (1, .ref (o)), (0, .ref (gXb g))]) ?_
            refine x_widen (a' := a + 500) (b' := b + 5000) (by omega) (by omega) ?_
            exact kk A _ _ _ _ _ _ ho hR.self (IJ_s hJ) rfl rfl rfl
          · have c213_2 := mt (nI_leI (by omega) (by omega)).mpr c213_2
            have c213_2b := Nat.not_le.mp c213_2
            omega
  · have c173 := (nI_z (by omega)).mp c173
    refine x_iconst F (nI 1) dL_law_176 (by decide) ?_
    refine x_goto F 181 dL_law_177 (by decide) ?_
    refine x_iconst F (nI 0) dL_law_181 (by decide) ?_
    refine x_iconst F (nI 0) dL_law_182 (by decide) ?_
    refine x_iconst F (nI 0) dL_law_183 (by decide) ?_
    refine x_callH F w_h_ask rfl (qa_beast F.nt ho hR hJ.1 (x0 := nI 1)) rfl dL_law_184 (by decide) ⟨by omega, by omega⟩ (Nat.le_of_ble_eq_true rfl) (ki fun r_2 M2_2 hp_2 => ?_)
    rcases hp_2 with ⟨hcd, rfl, A2, hA2, hC2⟩ | ⟨hcd, rfl, rfl⟩ | ⟨hcd, rfl, rfl⟩
    · have hJ2 := IJ_beast hJ hc hcd
      have n16 : ¬ σ.1 6 0 = 16 := fun z => by rw [cdBe_k (by decide), if_pos z] at hcd; cases hcd
      refine x_iload_n F 11 dL_law_187 rfl ?_
      refine x_bipush F (nI 16) dL_law_188 (by decide) ?_
      refine x_icmp_ne F 198 dL_law_190 (by decide) (fun c190_3 => ?_) (fun c190_3 => ?_)
      · have c190_3 := mt (nI_eq (by omega) (by omega)).mpr c190_3
        refine x_iload_n F 11 dL_law_198 rfl ?_
        refine x_icmp_ne F 206 dL_law_199 (by decide) (fun c199_3 => ?_) (fun c199_3 => ?_)
        · have c199_3 := mt (nI_eq (by omega) (by omega)).mpr c199_3
          omega
        · have c199_3 := (nI_eq (by omega) (by omega)).mp c199_3
          refine x_iconst F (nI 1) dL_law_202 (by decide) ?_
          refine x_goto F 207 dL_law_203 (by decide) ?_
          refine x_istore F [(6, .int (nI (1))), (13, .int (nI (rj))), (12, .int (nI (ri))), (11, .int (nI (dd))), (10, .int (nI (zz))), (9, .int (xv)), (8, .int (nI (t))), (7, .int (nI (T))), (5, .int (lk)), (4, .int (nI (σ.1 18 0))), (3, .int (nI (σ.1 7 0))), (2, .int (nI (σ.1 6 0))), (1, .ref (o)), (0, .ref (gXb g))] dL_law_207 (by decide) rfl ?_
          refine x_iload_n F 11 dL_law_209 rfl ?_
          refine x_iload_n F 11 dL_law_210 rfl ?_
          refine x_bipush F (nI 16) dL_law_211 (by decide) ?_
          refine x_icmp_ge F 220 dL_law_213 (by decide) (fun c213_3 => ?_) (fun c213_3 => ?_)
          · have c213_3 := (nI_leI (by omega) (by omega)).mp c213_3
            have c213_3b := Nat.not_lt.mpr c213_3
            omega
          · have c213_3 := mt (nI_leI (by omega) (by omega)).mpr c213_3
            have c213_3b := Nat.not_le.mp c213_3
            refine x_iconst F (nI 1) dL_law_216 (by decide) ?_
            refine x_goto F 221 dL_law_217 (by decide) ?_
            refine x_iaddN F dL_law_221 ?_
            refine x_istore_n F [(2, .int (nI ((σ.1 6 0) + 1))), (6, .int (nI (1))), (13, .int (nI (rj))), (12, .int (nI (ri))), (11, .int (nI (dd))), (10, .int (nI (zz))), (9, .int (xv)), (8, .int (nI (t))), (7, .int (nI (T))), (5, .int (lk)), (4, .int (nI (σ.1 18 0))), (3, .int (nI (σ.1 7 0))), (1, .ref (o)), (0, .ref (gXb g))] dL_law_222 (by decide) rfl ?_
            refine x_goto F 1504 dL_law_223 (by decide) ?_
            refine x_sub [7, 8, 1, 9, 10, 11, 0, 12, 13] rfl (L' := [(8, .int (nI (t))), (7, .int (nI (T))), (6, .int (nI (1))), (5, .int (lk)), (4, .int (nI (σ.1 18 0))), (3, .int (nI (σ.1 7 0))), (2, .int (nI ((σ.1 6 0) + 1))), (1, .ref (o)), (0, .ref (gXb g))]) ?_
            refine x_widen (a' := a + 500) (b' := b + 5000) (by omega) (by omega) ?_
            exact kk A2 _ _ _ _ _ _ (hA2.trans ho) hC2 hJ2 rfl rfl rfl
      · have c190_3 := (nI_eq (by omega) (by omega)).mp c190_3
        omega
    · rw [cdBe_k (by decide)] at hcd; split at hcd <;> omega
    · have y16 : σ.1 6 0 = 16 := Classical.byContradiction (fun z => by rw [cdBe_k (by decide), if_neg z] at hcd; cases hcd)
      refine x_iload_n F 11 dL_law_187 rfl ?_
      refine x_bipush F (nI 16) dL_law_188 (by decide) ?_
      refine x_icmp_ne F 198 dL_law_190 (by decide) (fun c190_4 => ?_) (fun c190_4 => ?_)
      · have c190_4 := mt (nI_eq (by omega) (by omega)).mpr c190_4
        omega
      · have c190_4 := (nI_eq (by omega) (by omega)).mp c190_4
        refine x_bipush F ((-13)) dL_law_193 (by decide) ?_
        refine x_goto F 199 dL_law_195 (by decide) ?_
        refine x_icmp_ne F 206 dL_law_199 (by decide) (fun c199_4 => ?_) (fun c199_4 => ?_)
        · exact absurd rfl c199_4
        · refine x_iconst F (nI 1) dL_law_202 (by decide) ?_
          refine x_goto F 207 dL_law_203 (by decide) ?_
          refine x_istore F [(6, .int (nI (1))), (13, .int (nI (rj))), (12, .int (nI (ri))), (11, .int (nI (dd))), (10, .int (nI (zz))), (9, .int (xv)), (8, .int (nI (t))), (7, .int (nI (T))), (5, .int (lk)), (4, .int (nI (σ.1 18 0))), (3, .int (nI (σ.1 7 0))), (2, .int (nI (σ.1 6 0))), (1, .ref (o)), (0, .ref (gXb g))] dL_law_207 (by decide) rfl ?_
          refine x_iload_n F 11 dL_law_209 rfl ?_
          refine x_iload_n F 11 dL_law_210 rfl ?_
          refine x_bipush F (nI 16) dL_law_211 (by decide) ?_
          refine x_icmp_ge F 220 dL_law_213 (by decide) (fun c213_4 => ?_) (fun c213_4 => ?_)
          · have c213_4 := (nI_leI (by omega) (by omega)).mp c213_4
            have c213_4b := Nat.not_lt.mpr c213_4
            refine x_iconst F (nI 0) dL_law_220 (by decide) ?_
            refine x_iaddN F dL_law_221 ?_
            refine x_istore_n F [(2, .int (nI ((σ.1 6 0) + 0))), (6, .int (nI (1))), (13, .int (nI (rj))), (12, .int (nI (ri))), (11, .int (nI (dd))), (10, .int (nI (zz))), (9, .int (xv)), (8, .int (nI (t))), (7, .int (nI (T))), (5, .int (lk)), (4, .int (nI (σ.1 18 0))), (3, .int (nI (σ.1 7 0))), (1, .ref (o)), (0, .ref (gXb g))] dL_law_222 (by decide) rfl ?_
            refine x_goto F 1504 dL_law_223 (by decide) ?_
            refine x_sub [7, 8, 1, 9, 10, 11, 0, 12, 13] rfl (L' := [(8, .int (nI (t))), (7, .int (nI (T))), (6, .int (nI (1))), (5, .int (lk)), (4, .int (nI (σ.1 18 0))), (3, .int (nI (σ.1 7 0))), (2, .int (nI ((σ.1 6 0) + 0))), (1, .ref (o)), (0, .ref (gXb g))]) ?_
            refine x_widen (a' := a + 500) (b' := b + 5000) (by omega) (by omega) ?_
            exact kk A _ _ _ _ _ _ ho hR.self (IJ_s hJ) rfl rfl rfl
          · have c213_4 := mt (nI_leI (by omega) (by omega)).mpr c213_4
            have c213_4b := Nat.not_le.mp c213_4
            omega
set_option maxHeartbeats 4000000 in
set_option maxRecDepth 100000 in
theorem blk_rider {K : KX} {g : GP} {Q : State → Prop} {M M0 : MM} {A : Nat → Nat} {σ : ST} {a b c o zz T t dd ri rj : Nat} {xv lk : Int32} {hh9 : List (Nat × Nat × Nat × Nat)} (F : Fx K g cL_law RL 19 (some .boolean) hh9 14 566 600064 7301640) (ha : a + 500 ≤ 600064) (hb : b + 5000 ≤ 7301640) (ho : A 0 = o) (hR : CM g A M0 σ M) (hJ : IJ c σ) (hc : c < 512) (hz : zz < 2 ^ 27)  (kk : ∀ A3 σ3 M3 nb nr nd lk3, A3 0 = o → CM g A3 M3 σ3 M3 → IJ (c + 1) σ3 → nb = σ3.1 6 0 → nr = σ3.1 7 0 → nd = σ3.1 18 0 → XW K g 19 Q M3 (a + 500) (b + 5000) 1504 [(8, .int (nI t)), (7, .int (nI T)), (6, .int (nI 1)), (5, .int lk3), (4, .int (nI nd)), (3, .int (nI nr)), (2, .int (nI nb)), (1, .ref o), (0, .ref (gXb g))] []) : XW K g 19 Q M a b 232 [(13, .int (nI (rj))), (12, .int (nI (ri))), (11, .int (nI (dd))), (10, .int (nI (zz))), (9, .int (xv)), (8, .int (nI (t))), (7, .int (nI (T))), (6, .int (nI (1))), (5, .int (lk)), (4, .int (nI (σ.1 18 0))), (3, .int (nI (σ.1 7 0))), (2, .int (nI (σ.1 6 0))), (1, .ref (o)), (0, .ref (gXb g))] [] := by
  have h6 := hJ.1.B.1
  have h7 := hJ.1.B.2.1
  have h18 := hJ.1.B.2.2.1
  refine x_aload_n F 12 dL_law_232 rfl ?_
  refine x_iconst F (nI 1) dL_law_233 (by decide) ?_
  refine x_iconst F (nI 0) dL_law_234 (by decide) ?_
  refine x_iconst F (nI 0) dL_law_235 (by decide) ?_
  refine x_iconst F (nI 0) dL_law_236 (by decide) ?_
  refine x_iconst F (nI 0) dL_law_237 (by decide) ?_
  refine x_callH F w_h_ask rfl (qa_rider F.nt ho hR hJ.1) rfl dL_law_238 (by decide) ⟨by omega, by omega⟩ (Nat.le_of_ble_eq_true rfl) (ki fun r M2 hp => ?_)
  rcases hp with ⟨hcd, rfl, A2, hA2, hC2⟩ | ⟨hcd, rfl, rfl⟩
  · have hJ2 := IJ_rider hJ hc hcd
    have n12 : ¬ σ.1 7 0 = 12 := fun z => by unfold cdRd at hcd; rw [if_pos z] at hcd; cases hcd
    refine x_iload_n F 10 dL_law_241 rfl ?_
    refine x_bipush F (nI 12) dL_law_242 (by decide) ?_
    refine x_icmp_ne F 252 dL_law_244 (by decide) (fun c244 => ?_) (fun c244 => ?_)
    · have c244 := mt (nI_eq (by omega) (by omega)).mpr c244
      refine x_iload_n F 10 dL_law_252 rfl ?_
      refine x_icmp_ne F 260 dL_law_253 (by decide) (fun c253 => ?_) (fun c253 => ?_)
      · have c253 := mt (nI_eq (by omega) (by omega)).mpr c253
        omega
      · have c253 := (nI_eq (by omega) (by omega)).mp c253
        refine x_iconst F (nI 1) dL_law_256 (by decide) ?_
        refine x_goto F 261 dL_law_257 (by decide) ?_
        refine x_istore F [(6, .int (nI (1))), (13, .int (nI (rj))), (12, .int (nI (ri))), (11, .int (nI (dd))), (10, .int (nI (zz))), (9, .int (xv)), (8, .int (nI (t))), (7, .int (nI (T))), (5, .int (lk)), (4, .int (nI (σ.1 18 0))), (3, .int (nI (σ.1 7 0))), (2, .int (nI (σ.1 6 0))), (1, .ref (o)), (0, .ref (gXb g))] dL_law_261 (by decide) rfl ?_
        refine x_iload_n F 10 dL_law_263 rfl ?_
        refine x_iload_n F 10 dL_law_264 rfl ?_
        refine x_bipush F (nI 12) dL_law_265 (by decide) ?_
        refine x_icmp_ge F 274 dL_law_267 (by decide) (fun c267 => ?_) (fun c267 => ?_)
        · have c267 := (nI_leI (by omega) (by omega)).mp c267
          have c267b := Nat.not_lt.mpr c267
          omega
        · have c267 := mt (nI_leI (by omega) (by omega)).mpr c267
          have c267b := Nat.not_le.mp c267
          refine x_iconst F (nI 1) dL_law_270 (by decide) ?_
          refine x_goto F 275 dL_law_271 (by decide) ?_
          refine x_iaddN F dL_law_275 ?_
          refine x_istore_n F [(3, .int (nI ((σ.1 7 0) + 1))), (6, .int (nI (1))), (13, .int (nI (rj))), (12, .int (nI (ri))), (11, .int (nI (dd))), (10, .int (nI (zz))), (9, .int (xv)), (8, .int (nI (t))), (7, .int (nI (T))), (5, .int (lk)), (4, .int (nI (σ.1 18 0))), (2, .int (nI (σ.1 6 0))), (1, .ref (o)), (0, .ref (gXb g))] dL_law_276 (by decide) rfl ?_
          refine x_goto F 1504 dL_law_277 (by decide) ?_
          refine x_sub [7, 8, 1, 9, 10, 0, 11, 12, 13] rfl (L' := [(8, .int (nI (t))), (7, .int (nI (T))), (6, .int (nI (1))), (5, .int (lk)), (4, .int (nI (σ.1 18 0))), (3, .int (nI ((σ.1 7 0) + 1))), (2, .int (nI (σ.1 6 0))), (1, .ref (o)), (0, .ref (gXb g))]) ?_
          refine x_widen (a' := a + 500) (b' := b + 5000) (by omega) (by omega) ?_
          exact kk A2 _ _ _ _ _ _ (hA2.trans ho) hC2 hJ2 rfl rfl rfl
    · have c244 := (nI_eq (by omega) (by omega)).mp c244
      omega
  · have y12 : σ.1 7 0 = 12 := Classical.byContradiction (fun z => by unfold cdRd at hcd; rw [if_neg z] at hcd; cases hcd)
    refine x_iload_n F 10 dL_law_241 rfl ?_
    refine x_bipush F (nI 12) dL_law_242 (by decide) ?_
    refine x_icmp_ne F 252 dL_law_244 (by decide) (fun c244_2 => ?_) (fun c244_2 => ?_)
    · have c244_2 := mt (nI_eq (by omega) (by omega)).mpr c244_2
      omega
    · have c244_2 := (nI_eq (by omega) (by omega)).mp c244_2
      refine x_bipush F ((-13)) dL_law_247 (by decide) ?_
      refine x_goto F 253 dL_law_249 (by decide) ?_
      refine x_icmp_ne F 260 dL_law_253 (by decide) (fun c253_2 => ?_) (fun c253_2 => ?_)
      · exact absurd rfl c253_2
      · refine x_iconst F (nI 1) dL_law_256 (by decide) ?_
        refine x_goto F 261 dL_law_257 (by decide) ?_
        refine x_istore F [(6, .int (nI (1))), (13, .int (nI (rj))), (12, .int (nI (ri))), (11, .int (nI (dd))), (10, .int (nI (zz))), (9, .int (xv)), (8, .int (nI (t))), (7, .int (nI (T))), (5, .int (lk)), (4, .int (nI (σ.1 18 0))), (3, .int (nI (σ.1 7 0))), (2, .int (nI (σ.1 6 0))), (1, .ref (o)), (0, .ref (gXb g))] dL_law_261 (by decide) rfl ?_
        refine x_iload_n F 10 dL_law_263 rfl ?_
        refine x_iload_n F 10 dL_law_264 rfl ?_
        refine x_bipush F (nI 12) dL_law_265 (by decide) ?_
        refine x_icmp_ge F 274 dL_law_267 (by decide) (fun c267_2 => ?_) (fun c267_2 => ?_)
        · have c267_2 := (nI_leI (by omega) (by omega)).mp c267_2
          have c267_2b := Nat.not_lt.mpr c267_2
          refine x_iconst F (nI 0) dL_law_274 (by decide) ?_
          refine x_iaddN F dL_law_275 ?_
          refine x_istore_n F [(3, .int (nI ((σ.1 7 0) + 0))), (6, .int (nI (1))), (13, .int (nI (rj))), (12, .int (nI (ri))), (11, .int (nI (dd))), (10, .int (nI (zz))), (9, .int (xv)), (8, .int (nI (t))), (7, .int (nI (T))), (5, .int (lk)), (4, .int (nI (σ.1 18 0))), (2, .int (nI (σ.1 6 0))), (1, .ref (o)), (0, .ref (gXb g))] dL_law_276 (by decide) rfl ?_
          refine x_goto F 1504 dL_law_277 (by decide) ?_
          refine x_sub [7, 8, 1, 9, 10, 0, 11, 12, 13] rfl (L' := [(8, .int (nI (t))), (7, .int (nI (T))), (6, .int (nI (1))), (5, .int (lk)), (4, .int (nI (σ.1 18 0))), (3, .int (nI ((σ.1 7 0) + 0))), (2, .int (nI (σ.1 6 0))), (1, .ref (o)), (0, .ref (gXb g))]) ?_
          refine x_widen (a' := a + 500) (b' := b + 5000) (by omega) (by omega) ?_
          exact kk A _ _ _ _ _ _ ho hR.self (IJ_s hJ) rfl rfl rfl
        · have c267_2 := mt (nI_leI (by omega) (by omega)).mpr c267_2
          have c267_2b := Nat.not_le.mp c267_2
          omega
set_option maxHeartbeats 4000000 in
set_option maxRecDepth 100000 in
theorem blk_rodeo {K : KX} {g : GP} {Q : State → Prop} {M M0 : MM} {A : Nat → Nat} {σ : ST} {a b c o zz T t dd ri rj : Nat} {xv lk : Int32} {hh9 : List (Nat × Nat × Nat × Nat)} (F : Fx K g cL_law RL 19 (some .boolean) hh9 14 566 600064 7301640) (ha : a + 500 ≤ 600064) (hb : b + 5000 ≤ 7301640) (ho : A 0 = o) (hR : CM g A M0 σ M) (hJ : IJ c σ) (hc : c < 512) (hz : zz < 2 ^ 27)  (kk : ∀ A3 σ3 M3 nb nr nd lk3, A3 0 = o → CM g A3 M3 σ3 M3 → IJ (c + 1) σ3 → nb = σ3.1 6 0 → nr = σ3.1 7 0 → nd = σ3.1 18 0 → XW K g 19 Q M3 (a + 500) (b + 5000) 1504 [(8, .int (nI t)), (7, .int (nI T)), (6, .int (nI 1)), (5, .int lk3), (4, .int (nI nd)), (3, .int (nI nr)), (2, .int (nI nb)), (1, .ref o), (0, .ref (gXb g))] []) : XW K g 19 Q M a b 286 [(13, .int (nI (rj))), (12, .int (nI (ri))), (11, .int (nI (dd))), (10, .int (nI (zz))), (9, .int (xv)), (8, .int (nI (t))), (7, .int (nI (T))), (6, .int (nI (1))), (5, .int (lk)), (4, .int (nI (σ.1 18 0))), (3, .int (nI (σ.1 7 0))), (2, .int (nI (σ.1 6 0))), (1, .ref (o)), (0, .ref (gXb g))] [] := by
  have h6 := hJ.1.B.1
  have h7 := hJ.1.B.2.1
  have h18 := hJ.1.B.2.2.1
  refine x_aload_n F 12 dL_law_286 rfl ?_
  refine x_iload F 3 dL_law_287 rfl ?_
  refine x_bipush F (nI 7) dL_law_289 (by decide) ?_
  refine x_iand F dL_law_291 ?_
  refine x_ri0 (y := nI (zz % 2 ^ 3)) (pk_andN (by omega) 3 (by decide)) ?_
  refine x_if_ne F 299 dL_law_292 (by decide) (fun c292 => ?_) (fun c292 => ?_)
  · have c292 := mt (nI_z (by omega)).mpr c292
    refine x_iconst F (nI 0) dL_law_299 (by decide) ?_
    refine x_iload F 3 dL_law_300 rfl ?_
    refine x_iconst F (nI 3) dL_law_302 (by decide) ?_
    refine x_ishr F dL_law_303 ?_
    refine x_ri0 (y := nI (zz / 2 ^ 3)) (sh_nI (by omega) (by decide)) ?_
    refine x_sipush F (nI 2001) dL_law_304 (by decide) ?_
    refine x_iremN F dL_law_307 (by omega) (by omega) (by omega) ?_
    refine x_iload F 3 dL_law_308 rfl ?_
    refine x_bipush F (nI 6) dL_law_310 (by decide) ?_
    refine x_ishr F dL_law_312 ?_
    refine x_ri0 (y := nI (zz / 2 ^ 6)) (sh_nI (by omega) (by decide)) ?_
    refine x_bipush F (nI 12) dL_law_313 (by decide) ?_
    refine x_iremN F dL_law_315 (by omega) (by omega) (by omega) ?_
    refine x_iconst F (nI 1) dL_law_316 (by decide) ?_
    refine x_iload F 3 dL_law_317 rfl ?_
    refine x_bipush F (nI 9) dL_law_319 (by decide) ?_
    refine x_ishr F dL_law_321 ?_
    refine x_ri0 (y := nI (zz / 2 ^ 9)) (sh_nI (by omega) (by decide)) ?_
    refine x_iconst F (nI 4) dL_law_322 (by decide) ?_
    refine x_iremN F dL_law_323 (by omega) (by omega) (by omega) ?_
    refine x_iaddN F dL_law_324 ?_
    refine x_iconst F (nI 1) dL_law_325 (by decide) ?_
    refine x_iload F 3 dL_law_326 rfl ?_
    refine x_bipush F (nI 11) dL_law_328 (by decide) ?_
    refine x_ishr F dL_law_330 ?_
    refine x_ri0 (y := nI (zz / 2 ^ 11)) (sh_nI (by omega) (by decide)) ?_
    refine x_iconst F (nI 4) dL_law_331 (by decide) ?_
    refine x_iremN F dL_law_332 (by omega) (by omega) (by omega) ?_
    refine x_iaddN F dL_law_333 ?_
    refine x_sipush F (nI 1000) dL_law_334 (by decide) ?_
    refine x_iload F 3 dL_law_337 rfl ?_
    refine x_iconst F (nI 4) dL_law_339 (by decide) ?_
    refine x_ishr F dL_law_340 ?_
    refine x_ri0 (y := nI (zz / 2 ^ 4)) (sh_nI (by omega) (by decide)) ?_
    refine x_sipush F (nI 9000) dL_law_341 (by decide) ?_
    refine x_iremN F dL_law_344 (by omega) (by omega) (by omega) ?_
    refine x_imulN F dL_law_345 ?_
    refine x_iload F 3 dL_law_346 rfl ?_
    refine x_bipush F (nI 7) dL_law_348 (by decide) ?_
    refine x_ishr F dL_law_350 ?_
    refine x_ri0 (y := nI (zz / 2 ^ 7)) (sh_nI (by omega) (by decide)) ?_
    refine x_sipush F (nI 300) dL_law_351 (by decide) ?_
    refine x_iremN F dL_law_354 (by omega) (by omega) (by omega) ?_
    refine x_iaddN F dL_law_355 ?_
    refine x_callH F w_h_rodeo rfl (qa_rodeo F.nt ho hR hJ.1 (a0 := nI (0)) (a1 := nI ((zz / 2 ^ 3) % 2001)) (a2 := nI ((zz / 2 ^ 6) % 12)) (a3 := nI (1 + ((zz / 2 ^ 9) % 4))) (a4 := nI (1 + ((zz / 2 ^ 11) % 4))) (mo := (1000 * ((zz / 2 ^ 4) % 9000)) + ((zz / 2 ^ 7) % 300)) (by omega)) rfl dL_law_356 (by decide) ⟨by omega, by omega⟩ (Nat.le_of_ble_eq_true rfl) (ki fun r M2 hp => ?_)
    rcases hp with ⟨hcd, rfl, A2, hA2, hC2⟩ | ⟨hcd, rfl, rfl⟩ | ⟨hcd, rfl, rfl⟩
    · have hJ2 := IJ_rodeo hJ hc hcd
      have n8 : ¬ σ.1 18 0 = 8 := fun z => by rw [cdRo_k (by omega) (by omega) (by omega) (by omega) (by omega) (by omega), if_pos z] at hcd; cases hcd
      refine x_istore F [(14, .int (nI (σ.1 18 0))), (13, .int (nI (rj))), (12, .int (nI (ri))), (11, .int (nI (dd))), (10, .int (nI (zz))), (9, .int (xv)), (8, .int (nI (t))), (7, .int (nI (T))), (6, .int (nI (1))), (5, .int (lk)), (4, .int (nI (σ.1 18 0))), (3, .int (nI (σ.1 7 0))), (2, .int (nI (σ.1 6 0))), (1, .ref (o)), (0, .ref (gXb g))] dL_law_359 (by decide) rfl ?_
      refine x_iload F 0 dL_law_361 rfl ?_
      refine x_iload F 10 dL_law_363 rfl ?_
      refine x_bipush F (nI 8) dL_law_365 (by decide) ?_
      refine x_icmp_ne F 375 dL_law_367 (by decide) (fun c367 => ?_) (fun c367 => ?_)
      · have c367 := mt (nI_eq (by omega) (by omega)).mpr c367
        refine x_iload F 10 dL_law_375 rfl ?_
        refine x_icmp_ne F 384 dL_law_377 (by decide) (fun c377 => ?_) (fun c377 => ?_)
        · have c377 := mt (nI_eq (by omega) (by omega)).mpr c377
          omega
        · have c377 := (nI_eq (by omega) (by omega)).mp c377
          refine x_iconst F (nI 1) dL_law_380 (by decide) ?_
          refine x_goto F 385 dL_law_381 (by decide) ?_
          refine x_istore F [(6, .int (nI (1))), (14, .int (nI (σ.1 18 0))), (13, .int (nI (rj))), (12, .int (nI (ri))), (11, .int (nI (dd))), (10, .int (nI (zz))), (9, .int (xv)), (8, .int (nI (t))), (7, .int (nI (T))), (5, .int (lk)), (4, .int (nI (σ.1 18 0))), (3, .int (nI (σ.1 7 0))), (2, .int (nI (σ.1 6 0))), (1, .ref (o)), (0, .ref (gXb g))] dL_law_385 (by decide) rfl ?_
          refine x_iload F 10 dL_law_387 rfl ?_
          refine x_iload F 10 dL_law_389 rfl ?_
          refine x_bipush F (nI 8) dL_law_391 (by decide) ?_
          refine x_icmp_ge F 400 dL_law_393 (by decide) (fun c393 => ?_) (fun c393 => ?_)
          · have c393 := (nI_leI (by omega) (by omega)).mp c393
            have c393b := Nat.not_lt.mpr c393
            omega
          · have c393 := mt (nI_leI (by omega) (by omega)).mpr c393
            have c393b := Nat.not_le.mp c393
            refine x_iconst F (nI 1) dL_law_396 (by decide) ?_
            refine x_goto F 401 dL_law_397 (by decide) ?_
            refine x_iaddN F dL_law_401 ?_
            refine x_istore F [(4, .int (nI ((σ.1 18 0) + 1))), (6, .int (nI (1))), (14, .int (nI (σ.1 18 0))), (13, .int (nI (rj))), (12, .int (nI (ri))), (11, .int (nI (dd))), (10, .int (nI (zz))), (9, .int (xv)), (8, .int (nI (t))), (7, .int (nI (T))), (5, .int (lk)), (3, .int (nI (σ.1 7 0))), (2, .int (nI (σ.1 6 0))), (1, .ref (o)), (0, .ref (gXb g))] dL_law_402 (by decide) rfl ?_
            refine x_goto F 1504 dL_law_404 (by decide) ?_
            refine x_sub [8, 9, 1, 10, 0, 11, 12, 13, 14] rfl (L' := [(8, .int (nI (t))), (7, .int (nI (T))), (6, .int (nI (1))), (5, .int (lk)), (4, .int (nI ((σ.1 18 0) + 1))), (3, .int (nI (σ.1 7 0))), (2, .int (nI (σ.1 6 0))), (1, .ref (o)), (0, .ref (gXb g))]) ?_
            refine x_widen (a' := a + 500) (b' := b + 5000) (by omega) (by omega) ?_
            exact kk A2 _ _ _ _ _ _ (hA2.trans ho) hC2 hJ2 ro_6.symm ro_7.symm ro_18.symm
      · have c367 := (nI_eq (by omega) (by omega)).mp c367
        omega
    · rw [cdRo_k (by omega) (by omega) (by omega) (by omega) (by omega) (by omega)] at hcd; split at hcd <;> omega
    · have y8 : σ.1 18 0 = 8 := Classical.byContradiction (fun z => by rw [cdRo_k (by omega) (by omega) (by omega) (by omega) (by omega) (by omega), if_neg z] at hcd; cases hcd)
      refine x_istore F [(14, .int ((-13))), (13, .int (nI (rj))), (12, .int (nI (ri))), (11, .int (nI (dd))), (10, .int (nI (zz))), (9, .int (xv)), (8, .int (nI (t))), (7, .int (nI (T))), (6, .int (nI (1))), (5, .int (lk)), (4, .int (nI (σ.1 18 0))), (3, .int (nI (σ.1 7 0))), (2, .int (nI (σ.1 6 0))), (1, .ref (o)), (0, .ref (gXb g))] dL_law_359 (by decide) rfl ?_
      refine x_iload F 0 dL_law_361 rfl ?_
      refine x_iload F 10 dL_law_363 rfl ?_
      refine x_bipush F (nI 8) dL_law_365 (by decide) ?_
      refine x_icmp_ne F 375 dL_law_367 (by decide) (fun c367_2 => ?_) (fun c367_2 => ?_)
      · have c367_2 := mt (nI_eq (by omega) (by omega)).mpr c367_2
        omega
      · have c367_2 := (nI_eq (by omega) (by omega)).mp c367_2
        refine x_bipush F ((-13)) dL_law_370 (by decide) ?_
        refine x_goto F 377 dL_law_372 (by decide) ?_
        refine x_icmp_ne F 384 dL_law_377 (by decide) (fun c377_2 => ?_) (fun c377_2 => ?_)
        · exact absurd rfl c377_2
        · refine x_iconst F (nI 1) dL_law_380 (by decide) ?_
          refine x_goto F 385 dL_law_381 (by decide) ?_
          refine x_istore F [(6, .int (nI (1))), (14, .int ((-13))), (13, .int (nI (rj))), (12, .int (nI (ri))), (11, .int (nI (dd))), (10, .int (nI (zz))), (9, .int (xv)), (8, .int (nI (t))), (7, .int (nI (T))), (5, .int (lk)), (4, .int (nI (σ.1 18 0))), (3, .int (nI (σ.1 7 0))), (2, .int (nI (σ.1 6 0))), (1, .ref (o)), (0, .ref (gXb g))] dL_law_385 (by decide) rfl ?_
          refine x_iload F 10 dL_law_387 rfl ?_
          refine x_iload F 10 dL_law_389 rfl ?_
          refine x_bipush F (nI 8) dL_law_391 (by decide) ?_
          refine x_icmp_ge F 400 dL_law_393 (by decide) (fun c393_2 => ?_) (fun c393_2 => ?_)
          · have c393_2 := (nI_leI (by omega) (by omega)).mp c393_2
            have c393_2b := Nat.not_lt.mpr c393_2
            refine x_iconst F (nI 0) dL_law_400 (by decide) ?_
            refine x_iaddN F dL_law_401 ?_
            refine x_istore F [(4, .int (nI ((σ.1 18 0) + 0))), (6, .int (nI (1))), (14, .int ((-13))), (13, .int (nI (rj))), (12, .int (nI (ri))), (11, .int (nI (dd))), (10, .int (nI (zz))), (9, .int (xv)), (8, .int (nI (t))), (7, .int (nI (T))), (5, .int (lk)), (3, .int (nI (σ.1 7 0))), (2, .int (nI (σ.1 6 0))), (1, .ref (o)), (0, .ref (gXb g))] dL_law_402 (by decide) rfl ?_
            refine x_goto F 1504 dL_law_404 (by decide) ?_
            refine x_sub [8, 9, 1, 10, 0, 11, 12, 13, 14] rfl (L' := [(8, .int (nI (t))), (7, .int (nI (T))), (6, .int (nI (1))), (5, .int (lk)), (4, .int (nI ((σ.1 18 0) + 0))), (3, .int (nI (σ.1 7 0))), (2, .int (nI (σ.1 6 0))), (1, .ref (o)), (0, .ref (gXb g))]) ?_
            refine x_widen (a' := a + 500) (b' := b + 5000) (by omega) (by omega) ?_
            exact kk A _ _ _ _ _ _ ho hR.self (IJ_s hJ) rfl rfl rfl
          · have c393_2 := mt (nI_leI (by omega) (by omega)).mpr c393_2
            have c393_2b := Nat.not_le.mp c393_2
            omega
  · have c292 := (nI_z (by omega)).mp c292
    refine x_iconst F (nI 1) dL_law_295 (by decide) ?_
    refine x_goto F 300 dL_law_296 (by decide) ?_
    refine x_iload F 3 dL_law_300 rfl ?_
    refine x_iconst F (nI 3) dL_law_302 (by decide) ?_
    refine x_ishr F dL_law_303 ?_
    refine x_ri0 (y := nI (zz / 2 ^ 3)) (sh_nI (by omega) (by decide)) ?_
    refine x_sipush F (nI 2001) dL_law_304 (by decide) ?_
    refine x_iremN F dL_law_307 (by omega) (by omega) (by omega) ?_
    refine x_iload F 3 dL_law_308 rfl ?_
    refine x_bipush F (nI 6) dL_law_310 (by decide) ?_
    refine x_ishr F dL_law_312 ?_
    refine x_ri0 (y := nI (zz / 2 ^ 6)) (sh_nI (by omega) (by decide)) ?_
    refine x_bipush F (nI 12) dL_law_313 (by decide) ?_
    refine x_iremN F dL_law_315 (by omega) (by omega) (by omega) ?_
    refine x_iconst F (nI 1) dL_law_316 (by decide) ?_
    refine x_iload F 3 dL_law_317 rfl ?_
    refine x_bipush F (nI 9) dL_law_319 (by decide) ?_
    refine x_ishr F dL_law_321 ?_
    refine x_ri0 (y := nI (zz / 2 ^ 9)) (sh_nI (by omega) (by decide)) ?_
    refine x_iconst F (nI 4) dL_law_322 (by decide) ?_
    refine x_iremN F dL_law_323 (by omega) (by omega) (by omega) ?_
    refine x_iaddN F dL_law_324 ?_
    refine x_iconst F (nI 1) dL_law_325 (by decide) ?_
    refine x_iload F 3 dL_law_326 rfl ?_
    refine x_bipush F (nI 11) dL_law_328 (by decide) ?_
    refine x_ishr F dL_law_330 ?_
    refine x_ri0 (y := nI (zz / 2 ^ 11)) (sh_nI (by omega) (by decide)) ?_
    refine x_iconst F (nI 4) dL_law_331 (by decide) ?_
    refine x_iremN F dL_law_332 (by omega) (by omega) (by omega) ?_
    refine x_iaddN F dL_law_333 ?_
    refine x_sipush F (nI 1000) dL_law_334 (by decide) ?_
    refine x_iload F 3 dL_law_337 rfl ?_
    refine x_iconst F (nI 4) dL_law_339 (by decide) ?_
    refine x_ishr F dL_law_340 ?_
    refine x_ri0 (y := nI (zz / 2 ^ 4)) (sh_nI (by omega) (by decide)) ?_
    refine x_sipush F (nI 9000) dL_law_341 (by decide) ?_
    refine x_iremN F dL_law_344 (by omega) (by omega) (by omega) ?_
    refine x_imulN F dL_law_345 ?_
    refine x_iload F 3 dL_law_346 rfl ?_
    refine x_bipush F (nI 7) dL_law_348 (by decide) ?_
    refine x_ishr F dL_law_350 ?_
    refine x_ri0 (y := nI (zz / 2 ^ 7)) (sh_nI (by omega) (by decide)) ?_
    refine x_sipush F (nI 300) dL_law_351 (by decide) ?_
    refine x_iremN F dL_law_354 (by omega) (by omega) (by omega) ?_
    refine x_iaddN F dL_law_355 ?_
    refine x_callH F w_h_rodeo rfl (qa_rodeo F.nt ho hR hJ.1 (a0 := nI (1)) (a1 := nI ((zz / 2 ^ 3) % 2001)) (a2 := nI ((zz / 2 ^ 6) % 12)) (a3 := nI (1 + ((zz / 2 ^ 9) % 4))) (a4 := nI (1 + ((zz / 2 ^ 11) % 4))) (mo := (1000 * ((zz / 2 ^ 4) % 9000)) + ((zz / 2 ^ 7) % 300)) (by omega)) rfl dL_law_356 (by decide) ⟨by omega, by omega⟩ (Nat.le_of_ble_eq_true rfl) (ki fun r_2 M2_2 hp_2 => ?_)
    rcases hp_2 with ⟨hcd, rfl, A2, hA2, hC2⟩ | ⟨hcd, rfl, rfl⟩ | ⟨hcd, rfl, rfl⟩
    · have hJ2 := IJ_rodeo hJ hc hcd
      have n8 : ¬ σ.1 18 0 = 8 := fun z => by rw [cdRo_k (by omega) (by omega) (by omega) (by omega) (by omega) (by omega), if_pos z] at hcd; cases hcd
      refine x_istore F [(14, .int (nI (σ.1 18 0))), (13, .int (nI (rj))), (12, .int (nI (ri))), (11, .int (nI (dd))), (10, .int (nI (zz))), (9, .int (xv)), (8, .int (nI (t))), (7, .int (nI (T))), (6, .int (nI (1))), (5, .int (lk)), (4, .int (nI (σ.1 18 0))), (3, .int (nI (σ.1 7 0))), (2, .int (nI (σ.1 6 0))), (1, .ref (o)), (0, .ref (gXb g))] dL_law_359 (by decide) rfl ?_
      refine x_iload F 0 dL_law_361 rfl ?_
      refine x_iload F 10 dL_law_363 rfl ?_
      refine x_bipush F (nI 8) dL_law_365 (by decide) ?_
      refine x_icmp_ne F 375 dL_law_367 (by decide) (fun c367_3 => ?_) (fun c367_3 => ?_)
      · have c367_3 := mt (nI_eq (by omega) (by omega)).mpr c367_3
        refine x_iload F 10 dL_law_375 rfl ?_
        refine x_icmp_ne F 384 dL_law_377 (by decide) (fun c377_3 => ?_) (fun c377_3 => ?_)
        · have c377_3 := mt (nI_eq (by omega) (by omega)).mpr c377_3
          omega
        · have c377_3 := (nI_eq (by omega) (by omega)).mp c377_3
          refine x_iconst F (nI 1) dL_law_380 (by decide) ?_
          refine x_goto F 385 dL_law_381 (by decide) ?_
          refine x_istore F [(6, .int (nI (1))), (14, .int (nI (σ.1 18 0))), (13, .int (nI (rj))), (12, .int (nI (ri))), (11, .int (nI (dd))), (10, .int (nI (zz))), (9, .int (xv)), (8, .int (nI (t))), (7, .int (nI (T))), (5, .int (lk)), (4, .int (nI (σ.1 18 0))), (3, .int (nI (σ.1 7 0))), (2, .int (nI (σ.1 6 0))), (1, .ref (o)), (0, .ref (gXb g))] dL_law_385 (by decide) rfl ?_
          refine x_iload F 10 dL_law_387 rfl ?_
          refine x_iload F 10 dL_law_389 rfl ?_
          refine x_bipush F (nI 8) dL_law_391 (by decide) ?_
          refine x_icmp_ge F 400 dL_law_393 (by decide) (fun c393_3 => ?_) (fun c393_3 => ?_)
          · have c393_3 := (nI_leI (by omega) (by omega)).mp c393_3
            have c393_3b := Nat.not_lt.mpr c393_3
            omega
          · have c393_3 := mt (nI_leI (by omega) (by omega)).mpr c393_3
            have c393_3b := Nat.not_le.mp c393_3
            refine x_iconst F (nI 1) dL_law_396 (by decide) ?_
            refine x_goto F 401 dL_law_397 (by decide) ?_
            refine x_iaddN F dL_law_401 ?_
            refine x_istore F [(4, .int (nI ((σ.1 18 0) + 1))), (6, .int (nI (1))), (14, .int (nI (σ.1 18 0))), (13, .int (nI (rj))), (12, .int (nI (ri))), (11, .int (nI (dd))), (10, .int (nI (zz))), (9, .int (xv)), (8, .int (nI (t))), (7, .int (nI (T))), (5, .int (lk)), (3, .int (nI (σ.1 7 0))), (2, .int (nI (σ.1 6 0))), (1, .ref (o)), (0, .ref (gXb g))] dL_law_402 (by decide) rfl ?_
            refine x_goto F 1504 dL_law_404 (by decide) ?_
            refine x_sub [8, 9, 1, 10, 0, 11, 12, 13, 14] rfl (L' := [(8, .int (nI (t))), (7, .int (nI (T))), (6, .int (nI (1))), (5, .int (lk)), (4, .int (nI ((σ.1 18 0) + 1))), (3, .int (nI (σ.1 7 0))), (2, .int (nI (σ.1 6 0))), (1, .ref (o)), (0, .ref (gXb g))]) ?_
            refine x_widen (a' := a + 500) (b' := b + 5000) (by omega) (by omega) ?_
            exact kk A2 _ _ _ _ _ _ (hA2.trans ho) hC2 hJ2 ro_6.symm ro_7.symm ro_18.symm
      · have c367_3 := (nI_eq (by omega) (by omega)).mp c367_3
        omega
    · rw [cdRo_k (by omega) (by omega) (by omega) (by omega) (by omega) (by omega)] at hcd; split at hcd <;> omega
    · have y8 : σ.1 18 0 = 8 := Classical.byContradiction (fun z => by rw [cdRo_k (by omega) (by omega) (by omega) (by omega) (by omega) (by omega), if_neg z] at hcd; cases hcd)
      refine x_istore F [(14, .int ((-13))), (13, .int (nI (rj))), (12, .int (nI (ri))), (11, .int (nI (dd))), (10, .int (nI (zz))), (9, .int (xv)), (8, .int (nI (t))), (7, .int (nI (T))), (6, .int (nI (1))), (5, .int (lk)), (4, .int (nI (σ.1 18 0))), (3, .int (nI (σ.1 7 0))), (2, .int (nI (σ.1 6 0))), (1, .ref (o)), (0, .ref (gXb g))] dL_law_359 (by decide) rfl ?_
      refine x_iload F 0 dL_law_361 rfl ?_
      refine x_iload F 10 dL_law_363 rfl ?_
      refine x_bipush F (nI 8) dL_law_365 (by decide) ?_
      refine x_icmp_ne F 375 dL_law_367 (by decide) (fun c367_4 => ?_) (fun c367_4 => ?_)
      · have c367_4 := mt (nI_eq (by omega) (by omega)).mpr c367_4
        omega
      · have c367_4 := (nI_eq (by omega) (by omega)).mp c367_4
        refine x_bipush F ((-13)) dL_law_370 (by decide) ?_
        refine x_goto F 377 dL_law_372 (by decide) ?_
        refine x_icmp_ne F 384 dL_law_377 (by decide) (fun c377_4 => ?_) (fun c377_4 => ?_)
        · exact absurd rfl c377_4
        · refine x_iconst F (nI 1) dL_law_380 (by decide) ?_
          refine x_goto F 385 dL_law_381 (by decide) ?_
          refine x_istore F [(6, .int (nI (1))), (14, .int ((-13))), (13, .int (nI (rj))), (12, .int (nI (ri))), (11, .int (nI (dd))), (10, .int (nI (zz))), (9, .int (xv)), (8, .int (nI (t))), (7, .int (nI (T))), (5, .int (lk)), (4, .int (nI (σ.1 18 0))), (3, .int (nI (σ.1 7 0))), (2, .int (nI (σ.1 6 0))), (1, .ref (o)), (0, .ref (gXb g))] dL_law_385 (by decide) rfl ?_
          refine x_iload F 10 dL_law_387 rfl ?_
          refine x_iload F 10 dL_law_389 rfl ?_
          refine x_bipush F (nI 8) dL_law_391 (by decide) ?_
          refine x_icmp_ge F 400 dL_law_393 (by decide) (fun c393_4 => ?_) (fun c393_4 => ?_)
          · have c393_4 := (nI_leI (by omega) (by omega)).mp c393_4
            have c393_4b := Nat.not_lt.mpr c393_4
            refine x_iconst F (nI 0) dL_law_400 (by decide) ?_
            refine x_iaddN F dL_law_401 ?_
            refine x_istore F [(4, .int (nI ((σ.1 18 0) + 0))), (6, .int (nI (1))), (14, .int ((-13))), (13, .int (nI (rj))), (12, .int (nI (ri))), (11, .int (nI (dd))), (10, .int (nI (zz))), (9, .int (xv)), (8, .int (nI (t))), (7, .int (nI (T))), (5, .int (lk)), (3, .int (nI (σ.1 7 0))), (2, .int (nI (σ.1 6 0))), (1, .ref (o)), (0, .ref (gXb g))] dL_law_402 (by decide) rfl ?_
            refine x_goto F 1504 dL_law_404 (by decide) ?_
            refine x_sub [8, 9, 1, 10, 0, 11, 12, 13, 14] rfl (L' := [(8, .int (nI (t))), (7, .int (nI (T))), (6, .int (nI (1))), (5, .int (lk)), (4, .int (nI ((σ.1 18 0) + 0))), (3, .int (nI (σ.1 7 0))), (2, .int (nI (σ.1 6 0))), (1, .ref (o)), (0, .ref (gXb g))]) ?_
            refine x_widen (a' := a + 500) (b' := b + 5000) (by omega) (by omega) ?_
            exact kk A _ _ _ _ _ _ ho hR.self (IJ_s hJ) rfl rfl rfl
          · have c393_4 := mt (nI_leI (by omega) (by omega)).mpr c393_4
            have c393_4b := Nat.not_le.mp c393_4
            omega
set_option maxHeartbeats 4000000 in
set_option maxRecDepth 100000 in
theorem blk_none {K : KX} {g : GP} {Q : State → Prop} {M M0 : MM} {A : Nat → Nat} {σ : ST} {a b c o zz T t dd ri rj : Nat} {xv lk : Int32} {hh9 : List (Nat × Nat × Nat × Nat)} (F : Fx K g cL_law RL 19 (some .boolean) hh9 14 566 600064 7301640) (ha : a + 500 ≤ 600064) (hb : b + 5000 ≤ 7301640) (ho : A 0 = o) (hR : CM g A M0 σ M) (hJ : IJ c σ) (hc : c < 512) (hz : zz < 2 ^ 27) (hno : σ.1 18 0 = 0 ∨ σ.1 7 0 = 0) (kk : ∀ A3 σ3 M3 nb nr nd lk3, A3 0 = o → CM g A3 M3 σ3 M3 → IJ (c + 1) σ3 → nb = σ3.1 6 0 → nr = σ3.1 7 0 → nd = σ3.1 18 0 → XW K g 19 Q M3 (a + 500) (b + 5000) 1504 [(8, .int (nI t)), (7, .int (nI T)), (6, .int (nI 1)), (5, .int lk3), (4, .int (nI nd)), (3, .int (nI nr)), (2, .int (nI nb)), (1, .ref o), (0, .ref (gXb g))] []) : XW K g 19 Q M a b 416 [(13, .int (nI (rj))), (12, .int (nI (ri))), (11, .int (nI (dd))), (10, .int (nI (zz))), (9, .int (xv)), (8, .int (nI (t))), (7, .int (nI (T))), (6, .int (nI (1))), (5, .int (lk)), (4, .int (nI (σ.1 18 0))), (3, .int (nI (σ.1 7 0))), (2, .int (nI (σ.1 6 0))), (1, .ref (o)), (0, .ref (gXb g))] [] := by
  have h6 := hJ.1.B.1
  have h7 := hJ.1.B.2.1
  have h18 := hJ.1.B.2.2.1
  refine x_aload_n F 12 dL_law_416 rfl ?_
  refine x_iconst F (nI 4) dL_law_417 (by decide) ?_
  refine x_iconst F (nI 0) dL_law_418 (by decide) ?_
  refine x_iconst F (nI 0) dL_law_419 (by decide) ?_
  refine x_iconst F (nI 0) dL_law_420 (by decide) ?_
  refine x_iconst F (nI 0) dL_law_421 (by decide) ?_
  refine x_callH F w_h_ask rfl (qa_close F.nt ho hR hJ.1 (x0 := nI 0)) rfl dL_law_422 (by decide) ⟨by omega, by omega⟩ (Nat.le_of_ble_eq_true rfl) (ki fun r M2 hp => ?_)
  rcases hp with ⟨hcd, rfl, A2, hA2, hC2⟩ | ⟨hcd, rfl, rfl⟩ | ⟨hcd, rfl, rfl⟩
  · have hJ2 := IJ_close hJ hc hcd
    have n18 : 0 < σ.1 18 0 := cdSt_p (by omega) (by rw [hcd]; decide)
    refine x_iload F 9 dL_law_425 rfl ?_
    refine x_if_ne F 435 dL_law_427 (by decide) (fun c427 => ?_) (fun c427 => ?_)
    · have c427 := mt (nI_z (by omega)).mpr c427
      refine x_iconst F (nI 0) dL_law_435 (by decide) ?_
      refine x_icmp_eq F 443 dL_law_436 (by decide) (fun c436 => ?_) (fun c436 => ?_)
      · refine x_iconst F (nI 1) dL_law_443 (by decide) ?_
        refine x_goto F 448 dL_law_444 (by decide) ?_
        refine x_istore F [(6, .int (nI (1))), (13, .int (nI (rj))), (12, .int (nI (ri))), (11, .int (nI (dd))), (10, .int (nI (zz))), (9, .int (xv)), (8, .int (nI (t))), (7, .int (nI (T))), (5, .int (lk)), (4, .int (nI (σ.1 18 0))), (3, .int (nI (σ.1 7 0))), (2, .int (nI (σ.1 6 0))), (1, .ref (o)), (0, .ref (gXb g))] dL_law_448 (by decide) rfl ?_
        refine x_goto F 1504 dL_law_450 (by decide) ?_
        refine x_sub [6, 7, 0, 8, 9, 10, 11, 12, 13] rfl (L' := [(8, .int (nI (t))), (7, .int (nI (T))), (6, .int (nI (1))), (5, .int (lk)), (4, .int (nI (σ.1 18 0))), (3, .int (nI (σ.1 7 0))), (2, .int (nI (σ.1 6 0))), (1, .ref (o)), (0, .ref (gXb g))]) ?_
        refine x_widen (a' := a + 500) (b' := b + 5000) (by omega) (by omega) ?_
        exact kk A2 _ _ _ _ _ _ (hA2.trans ho) hC2 hJ2 (cl_f.1 6 0 (by decide)).symm (cl_f.1 7 0 (by decide)).symm (cl_f.1 18 0 (by decide)).symm
      · refine x_iload_n F 10 dL_law_439 rfl ?_
        refine x_if_ne F 447 dL_law_440 (by decide) (fun c440 => ?_) (fun c440 => ?_)
        · have c440 := mt (nI_z (by omega)).mpr c440
          omega
        · have c440 := (nI_z (by omega)).mp c440
          refine x_iconst F (nI 1) dL_law_443 (by decide) ?_
          refine x_goto F 448 dL_law_444 (by decide) ?_
          refine x_istore F [(6, .int (nI (1))), (13, .int (nI (rj))), (12, .int (nI (ri))), (11, .int (nI (dd))), (10, .int (nI (zz))), (9, .int (xv)), (8, .int (nI (t))), (7, .int (nI (T))), (5, .int (lk)), (4, .int (nI (σ.1 18 0))), (3, .int (nI (σ.1 7 0))), (2, .int (nI (σ.1 6 0))), (1, .ref (o)), (0, .ref (gXb g))] dL_law_448 (by decide) rfl ?_
          refine x_goto F 1504 dL_law_450 (by decide) ?_
          refine x_sub [6, 7, 0, 8, 9, 10, 11, 12, 13] rfl (L' := [(8, .int (nI (t))), (7, .int (nI (T))), (6, .int (nI (1))), (5, .int (lk)), (4, .int (nI (σ.1 18 0))), (3, .int (nI (σ.1 7 0))), (2, .int (nI (σ.1 6 0))), (1, .ref (o)), (0, .ref (gXb g))]) ?_
          refine x_widen (a' := a + 500) (b' := b + 5000) (by omega) (by omega) ?_
          exact kk A2 _ _ _ _ _ _ (hA2.trans ho) hC2 hJ2 (cl_f.1 6 0 (by decide)).symm (cl_f.1 7 0 (by decide)).symm (cl_f.1 18 0 (by decide)).symm
    · have c427 := (nI_z (by omega)).mp c427
      omega
  · have z18 : σ.1 18 0 = 0 := cdSt_n (by omega) hcd
    refine x_iload F 9 dL_law_425 rfl ?_
    refine x_if_ne F 435 dL_law_427 (by decide) (fun c427_2 => ?_) (fun c427_2 => ?_)
    · have c427_2 := mt (nI_z (by omega)).mpr c427_2
      omega
    · have c427_2 := (nI_z (by omega)).mp c427_2
      refine x_bipush F ((-11)) dL_law_430 (by decide) ?_
      refine x_goto F 436 dL_law_432 (by decide) ?_
      refine x_icmp_eq F 443 dL_law_436 (by decide) (fun c436_2 => ?_) (fun c436_2 => ?_)
      · refine x_iconst F (nI 1) dL_law_443 (by decide) ?_
        refine x_goto F 448 dL_law_444 (by decide) ?_
        refine x_istore F [(6, .int (nI (1))), (13, .int (nI (rj))), (12, .int (nI (ri))), (11, .int (nI (dd))), (10, .int (nI (zz))), (9, .int (xv)), (8, .int (nI (t))), (7, .int (nI (T))), (5, .int (lk)), (4, .int (nI (σ.1 18 0))), (3, .int (nI (σ.1 7 0))), (2, .int (nI (σ.1 6 0))), (1, .ref (o)), (0, .ref (gXb g))] dL_law_448 (by decide) rfl ?_
        refine x_goto F 1504 dL_law_450 (by decide) ?_
        refine x_sub [6, 7, 0, 8, 9, 10, 11, 12, 13] rfl (L' := [(8, .int (nI (t))), (7, .int (nI (T))), (6, .int (nI (1))), (5, .int (lk)), (4, .int (nI (σ.1 18 0))), (3, .int (nI (σ.1 7 0))), (2, .int (nI (σ.1 6 0))), (1, .ref (o)), (0, .ref (gXb g))]) ?_
        refine x_widen (a' := a + 500) (b' := b + 5000) (by omega) (by omega) ?_
        exact kk A _ _ _ _ _ _ ho hR.self (IJ_s hJ) rfl rfl rfl
      · exact absurd rfl c436_2
  · have n18 : 0 < σ.1 18 0 := cdSt_p (by omega) (by rw [hcd]; decide)
    refine x_iload F 9 dL_law_425 rfl ?_
    refine x_if_ne F 435 dL_law_427 (by decide) (fun c427_3 => ?_) (fun c427_3 => ?_)
    · have c427_3 := mt (nI_z (by omega)).mpr c427_3
      refine x_iconst F (nI 0) dL_law_435 (by decide) ?_
      refine x_icmp_eq F 443 dL_law_436 (by decide) (fun c436_3 => ?_) (fun c436_3 => ?_)
      · refine x_iconst F (nI 1) dL_law_443 (by decide) ?_
        refine x_goto F 448 dL_law_444 (by decide) ?_
        refine x_istore F [(6, .int (nI (1))), (13, .int (nI (rj))), (12, .int (nI (ri))), (11, .int (nI (dd))), (10, .int (nI (zz))), (9, .int (xv)), (8, .int (nI (t))), (7, .int (nI (T))), (5, .int (lk)), (4, .int (nI (σ.1 18 0))), (3, .int (nI (σ.1 7 0))), (2, .int (nI (σ.1 6 0))), (1, .ref (o)), (0, .ref (gXb g))] dL_law_448 (by decide) rfl ?_
        refine x_goto F 1504 dL_law_450 (by decide) ?_
        refine x_sub [6, 7, 0, 8, 9, 10, 11, 12, 13] rfl (L' := [(8, .int (nI (t))), (7, .int (nI (T))), (6, .int (nI (1))), (5, .int (lk)), (4, .int (nI (σ.1 18 0))), (3, .int (nI (σ.1 7 0))), (2, .int (nI (σ.1 6 0))), (1, .ref (o)), (0, .ref (gXb g))]) ?_
        refine x_widen (a' := a + 500) (b' := b + 5000) (by omega) (by omega) ?_
        exact kk A _ _ _ _ _ _ ho hR.self (IJ_s hJ) rfl rfl rfl
      · refine x_iload_n F 10 dL_law_439 rfl ?_
        refine x_if_ne F 447 dL_law_440 (by decide) (fun c440_2 => ?_) (fun c440_2 => ?_)
        · have c440_2 := mt (nI_z (by omega)).mpr c440_2
          omega
        · have c440_2 := (nI_z (by omega)).mp c440_2
          refine x_iconst F (nI 1) dL_law_443 (by decide) ?_
          refine x_goto F 448 dL_law_444 (by decide) ?_
          refine x_istore F [(6, .int (nI (1))), (13, .int (nI (rj))), (12, .int (nI (ri))), (11, .int (nI (dd))), (10, .int (nI (zz))), (9, .int (xv)), (8, .int (nI (t))), (7, .int (nI (T))), (5, .int (lk)), (4, .int (nI (σ.1 18 0))), (3, .int (nI (σ.1 7 0))), (2, .int (nI (σ.1 6 0))), (1, .ref (o)), (0, .ref (gXb g))] dL_law_448 (by decide) rfl ?_
          refine x_goto F 1504 dL_law_450 (by decide) ?_
          refine x_sub [6, 7, 0, 8, 9, 10, 11, 12, 13] rfl (L' := [(8, .int (nI (t))), (7, .int (nI (T))), (6, .int (nI (1))), (5, .int (lk)), (4, .int (nI (σ.1 18 0))), (3, .int (nI (σ.1 7 0))), (2, .int (nI (σ.1 6 0))), (1, .ref (o)), (0, .ref (gXb g))]) ?_
          refine x_widen (a' := a + 500) (b' := b + 5000) (by omega) (by omega) ?_
          exact kk A _ _ _ _ _ _ ho hR.self (IJ_s hJ) rfl rfl rfl
    · have c427_3 := (nI_z (by omega)).mp c427_3
      omega
set_option maxHeartbeats 4000000 in
set_option maxRecDepth 100000 in
theorem blk_enter {K : KX} {g : GP} {Q : State → Prop} {M M0 : MM} {A : Nat → Nat} {σ : ST} {a b c o zz T t dd ri rj : Nat} {xv lk : Int32} {hh9 : List (Nat × Nat × Nat × Nat)} (F : Fx K g cL_law RL 19 (some .boolean) hh9 14 566 600064 7301640) (ha : a + 500 ≤ 600064) (hb : b + 5000 ≤ 7301640) (ho : A 0 = o) (hR : CM g A M0 σ M) (hJ : IJ c σ) (hc : c < 512) (hz : zz < 2 ^ 27) (hri : ri < σ.1 18 0) (hrj : rj < σ.1 7 0) (kk : ∀ A3 σ3 M3 nb nr nd lk3, A3 0 = o → CM g A3 M3 σ3 M3 → IJ (c + 1) σ3 → nb = σ3.1 6 0 → nr = σ3.1 7 0 → nd = σ3.1 18 0 → XW K g 19 Q M3 (a + 500) (b + 5000) 1504 [(8, .int (nI t)), (7, .int (nI T)), (6, .int (nI 1)), (5, .int lk3), (4, .int (nI nd)), (3, .int (nI nr)), (2, .int (nI nb)), (1, .ref o), (0, .ref (gXb g))] []) : XW K g 19 Q M a b 460 [(13, .int (nI (rj))), (12, .int (nI (ri))), (11, .int (nI (dd))), (10, .int (nI (zz))), (9, .int (xv)), (8, .int (nI (t))), (7, .int (nI (T))), (6, .int (nI (1))), (5, .int (lk)), (4, .int (nI (σ.1 18 0))), (3, .int (nI (σ.1 7 0))), (2, .int (nI (σ.1 6 0))), (1, .ref (o)), (0, .ref (gXb g))] [] := by
  have h6 := hJ.1.B.1
  have h7 := hJ.1.B.2.1
  have h18 := hJ.1.B.2.2.1
  have b17 := (hJ.1.B.2.2.2.1 ri (by omega)).2.2.2.2.2.2.2.1
  refine x_aload_n F 12 dL_law_460 rfl ?_
  refine x_iload F 1 dL_law_461 rfl ?_
  refine x_iconst F (nI 1) dL_law_463 (by decide) ?_
  refine x_callV F s_L_17 (hR.co ho) rfl rfl (q_ro1 F.nt ho hR hJ.1 (by omega)) rfl dL_law_464 (by decide) ⟨by omega, by omega⟩ (Nat.le_of_ble_eq_true rfl) x_noX (ki fun r M2 hp => ?_)
  obtain ⟨rfl, rfl⟩ := hp
  refine x_istore F [(14, .int (nI (σ.1 17 ri))), (13, .int (nI (rj))), (12, .int (nI (ri))), (11, .int (nI (dd))), (10, .int (nI (zz))), (9, .int (xv)), (8, .int (nI (t))), (7, .int (nI (T))), (6, .int (nI (1))), (5, .int (lk)), (4, .int (nI (σ.1 18 0))), (3, .int (nI (σ.1 7 0))), (2, .int (nI (σ.1 6 0))), (1, .ref (o)), (0, .ref (gXb g))] dL_law_467 (by decide) rfl ?_
  refine x_aload_n F 13 dL_law_469 rfl ?_
  refine x_iconst F (nI 3) dL_law_470 (by decide) ?_
  refine x_iload F 2 dL_law_471 rfl ?_
  refine x_iload F 1 dL_law_473 rfl ?_
  refine x_iconst F (nI 1) dL_law_475 (by decide) ?_
  refine x_iload F 4 dL_law_476 rfl ?_
  refine x_bipush F (nI 9) dL_law_478 (by decide) ?_
  refine x_ishr F dL_law_480 ?_
  refine x_ri0 (y := nI (zz / 2 ^ 9)) (sh_nI (by omega) (by decide)) ?_
  refine x_bipush F (nI 15) dL_law_481 (by decide) ?_
  refine x_iremN F dL_law_483 (by omega) (by omega) (by omega) ?_
  refine x_iaddN F dL_law_484 ?_
  refine x_iload F 4 dL_law_485 rfl ?_
  refine x_bipush F (nI 13) dL_law_487 (by decide) ?_
  refine x_ishr F dL_law_489 ?_
  refine x_ri0 (y := nI (zz / 2 ^ 13)) (sh_nI (by omega) (by decide)) ?_
  refine x_iconst F (nI 4) dL_law_490 (by decide) ?_
  refine x_iremN F dL_law_491 (by omega) (by omega) (by omega) ?_
  refine x_callH F w_h_ask rfl (qa_enter F.nt ho hR hJ.1 (x0 := nI ri) (y0 := nI rj) (s0 := nI (1 + ((zz / 2 ^ 9) % 15))) (w0 := nI ((zz / 2 ^ 13) % 4))) rfl dL_law_492 (by decide) ⟨by omega, by omega⟩ (Nat.le_of_ble_eq_true rfl) (ki fun r_2 M2_2 hp_2 => ?_)
  rcases hp_2 with ⟨hcd, rfl, A2, hA2, hC2⟩ | ⟨hcd, rfl, rfl⟩ | ⟨hcd, rfl, rfl⟩ | ⟨hcd, rfl, rfl⟩
  · have hJ2 := IJ_enter hJ hc hcd
    obtain ⟨-, -, q15, -⟩ := cdEn_1 hcd
    rw [cl_nI (n := ri) (by omega)] at q15 hC2 hJ2 ⊢
    rw [cl_nI (n := rj) (by omega)] at hC2 hJ2
    obtain ⟨w1, w2, w3, w4, w5, w6⟩ := en_f (σ := σ) (r := ri) (j := rj) (s0 := cl (nI (1 + ((zz / 2 ^ 9) % 15)))) (w0 := cl (nI ((zz / 2 ^ 13) % 4)))
    obtain ⟨σ2, hs2⟩ : ∃ z, z = enU σ ri rj (cl (nI (1 + ((zz / 2 ^ 9) % 15)))) (cl (nI ((zz / 2 ^ 13) % 4))) := ⟨_, rfl⟩
    rw [← hs2] at hC2 hJ2 w1 w2 w3 w4 w5 w6
    have w15 := w1 ri
    have w22 : σ2.2.1 22 (12 * ri + rj) = -1 := by rw [w3]; exact (hJ.2.1 ri rj hri (by omega)).2.1 q15
    refine x_istore F [(15, .int (nI (σ.1 17 ri + 1))), (14, .int (nI (σ.1 17 ri))), (13, .int (nI (rj))), (12, .int (nI (ri))), (11, .int (nI (dd))), (10, .int (nI (zz))), (9, .int (xv)), (8, .int (nI (t))), (7, .int (nI (T))), (6, .int (nI (1))), (5, .int (lk)), (4, .int (nI (σ.1 18 0))), (3, .int (nI (σ.1 7 0))), (2, .int (nI (σ.1 6 0))), (1, .ref (o)), (0, .ref (gXb g))] dL_law_495 (by decide) rfl ?_
    refine x_iload F 0 dL_law_497 rfl ?_
    refine x_if_ge F 536 dL_law_499 (by decide) (fun c499 => ?_) (fun c499 => ?_)
    · refine x_iload F 0 dL_law_536 rfl ?_
      refine x_iload F 1 dL_law_538 rfl ?_
      refine x_iconst F (nI 1) dL_law_540 (by decide) ?_
      refine x_iaddN F dL_law_541 ?_
      refine x_icmp_ne F 583 dL_law_542 (by decide) (fun c542 => ?_) (fun c542 => ?_)
      · have c542 := mt (nI_eq (by omega) (by omega)).mpr c542
        omega
      · have c542 := (nI_eq (by omega) (by omega)).mp c542
        refine x_aload_n F 14 dL_law_545 rfl ?_
        refine x_iload F 3 dL_law_546 rfl ?_
        refine x_iconst F (nI 0) dL_law_548 (by decide) ?_
        refine x_callV F s_L_17 (hC2.co (hA2.trans ho)) rfl rfl (q_ro0 F.nt (hA2.trans ho) hC2 hJ2.1 (by omega)) rfl dL_law_549 (by decide) ⟨by omega, by omega⟩ (Nat.le_of_ble_eq_true rfl) x_noX (ki fun r_3 M2_3 hp_3 => ?_)
        obtain ⟨rfl, rfl⟩ := hp_3
        refine x_if_ne F 583 dL_law_552 (by decide) (fun c552 => ?_) (fun c552 => ?_)
        · have c552 := mt (nI_z (by omega)).mpr c552
          omega
        · have c552 := (nI_z (by omega)).mp c552
          refine x_aload_n F 14 dL_law_555 rfl ?_
          refine x_iload F 3 dL_law_556 rfl ?_
          refine x_iconst F (nI 1) dL_law_558 (by decide) ?_
          refine x_callV F s_L_17 (hC2.co (hA2.trans ho)) rfl rfl (q_ro1 F.nt (hA2.trans ho) hC2 hJ2.1 (by omega)) rfl dL_law_559 (by decide) ⟨by omega, by omega⟩ (Nat.le_of_ble_eq_true rfl) x_noX (ki fun r_4 M2_4 hp_4 => ?_)
          obtain ⟨rfl, rfl⟩ := hp_4
          refine x_iload F 0 dL_law_562 rfl ?_
          refine x_icmp_ne F 583 dL_law_564 (by decide) (fun c564 => ?_) (fun c564 => ?_)
          · have c564 := mt (nI_eq (by omega) (by omega)).mpr c564
            omega
          · have c564 := (nI_eq (by omega) (by omega)).mp c564
            refine x_aload_n F 14 dL_law_567 rfl ?_
            refine x_iload F 3 dL_law_568 rfl ?_
            refine x_iload F 2 dL_law_570 rfl ?_
            refine x_callV F s_L_28 (hC2.co (hA2.trans ho)) rfl rfl (q_placed F.nt (hA2.trans ho) hC2 hJ2.1 (by omega) (by omega)) rfl dL_law_572 (by decide) ⟨by omega, by omega⟩ (Nat.le_of_ble_eq_true rfl) x_noX (ki fun r_5 M2_5 hp_5 => ?_)
            obtain ⟨rfl, rfl⟩ := hp_5
            refine x_iconst F ((-1)) dL_law_575 (by decide) ?_
            refine x_icmp_ne F 583 dL_law_576 (by decide) (fun c576 => ?_) (fun c576 => ?_)
            · exact absurd w22 c576
            · refine x_iconst F (nI 1) dL_law_579 (by decide) ?_
              refine x_goto F 584 dL_law_580 (by decide) ?_
              refine x_istore F [(6, .int (nI (1))), (15, .int (nI (σ.1 17 ri + 1))), (14, .int (nI (σ.1 17 ri))), (13, .int (nI (rj))), (12, .int (nI (ri))), (11, .int (nI (dd))), (10, .int (nI (zz))), (9, .int (xv)), (8, .int (nI (t))), (7, .int (nI (T))), (5, .int (lk)), (4, .int (nI (σ.1 18 0))), (3, .int (nI (σ.1 7 0))), (2, .int (nI (σ.1 6 0))), (1, .ref (o)), (0, .ref (gXb g))] dL_law_584 (by decide) rfl ?_
              refine x_goto F 1504 dL_law_586 (by decide) ?_
              refine x_sub [8, 9, 0, 10, 11, 12, 13, 14, 15] rfl (L' := [(8, .int (nI (t))), (7, .int (nI (T))), (6, .int (nI (1))), (5, .int (lk)), (4, .int (nI (σ.1 18 0))), (3, .int (nI (σ.1 7 0))), (2, .int (nI (σ.1 6 0))), (1, .ref (o)), (0, .ref (gXb g))]) ?_
              refine x_widen (a' := a + 500) (b' := b + 5000) (by omega) (by omega) ?_
              exact kk A2 _ _ _ _ _ _ (hA2.trans ho) hC2 hJ2 w5.symm w6.symm w4.symm
    · exact absurd (nI_ge0 (by omega)) c499
  · exact absurd hcd (cdEn_k (by omega) (by omega) hri hrj)
  · refine x_istore F [(15, .int ((-12))), (14, .int (nI (σ.1 17 ri))), (13, .int (nI (rj))), (12, .int (nI (ri))), (11, .int (nI (dd))), (10, .int (nI (zz))), (9, .int (xv)), (8, .int (nI (t))), (7, .int (nI (T))), (6, .int (nI (1))), (5, .int (lk)), (4, .int (nI (σ.1 18 0))), (3, .int (nI (σ.1 7 0))), (2, .int (nI (σ.1 6 0))), (1, .ref (o)), (0, .ref (gXb g))] dL_law_495 (by decide) rfl ?_
    refine x_iload F 0 dL_law_497 rfl ?_
    refine x_if_ge F 536 dL_law_499 (by decide) (fun c499_2 => ?_) (fun c499_2 => ?_)
    · exact absurd c499_2 (by decide)
    · refine x_iload F 0 dL_law_502 rfl ?_
      refine x_bipush F ((-12)) dL_law_504 (by decide) ?_
      refine x_icmp_eq F 516 dL_law_506 (by decide) (fun c506 => ?_) (fun c506 => ?_)
      · refine x_aload_n F 14 dL_law_516 rfl ?_
        refine x_iload F 3 dL_law_517 rfl ?_
        refine x_iconst F (nI 1) dL_law_519 (by decide) ?_
        refine x_callV F s_L_17 (hR.co ho) rfl rfl (q_ro1 F.nt ho hR hJ.1 (by omega)) rfl dL_law_520 (by decide) ⟨by omega, by omega⟩ (Nat.le_of_ble_eq_true rfl) x_noX (ki fun r_6 M2_6 hp_6 => ?_)
        obtain ⟨rfl, rfl⟩ := hp_6
        refine x_iload F 1 dL_law_523 rfl ?_
        refine x_icmp_ne F 532 dL_law_525 (by decide) (fun c525 => ?_) (fun c525 => ?_)
        · have c525 := mt (nI_eq (by omega) (by omega)).mpr c525
          omega
        · have c525 := (nI_eq (by omega) (by omega)).mp c525
          refine x_iconst F (nI 1) dL_law_528 (by decide) ?_
          refine x_goto F 584 dL_law_529 (by decide) ?_
          refine x_istore F [(6, .int (nI (1))), (15, .int ((-12))), (14, .int (nI (σ.1 17 ri))), (13, .int (nI (rj))), (12, .int (nI (ri))), (11, .int (nI (dd))), (10, .int (nI (zz))), (9, .int (xv)), (8, .int (nI (t))), (7, .int (nI (T))), (5, .int (lk)), (4, .int (nI (σ.1 18 0))), (3, .int (nI (σ.1 7 0))), (2, .int (nI (σ.1 6 0))), (1, .ref (o)), (0, .ref (gXb g))] dL_law_584 (by decide) rfl ?_
          refine x_goto F 1504 dL_law_586 (by decide) ?_
          refine x_sub [8, 9, 0, 10, 11, 12, 13, 14, 15] rfl (L' := [(8, .int (nI (t))), (7, .int (nI (T))), (6, .int (nI (1))), (5, .int (lk)), (4, .int (nI (σ.1 18 0))), (3, .int (nI (σ.1 7 0))), (2, .int (nI (σ.1 6 0))), (1, .ref (o)), (0, .ref (gXb g))]) ?_
          refine x_widen (a' := a + 500) (b' := b + 5000) (by omega) (by omega) ?_
          exact kk A _ _ _ _ _ _ ho hR.self (IJ_s hJ) rfl rfl rfl
      · exact absurd rfl c506
  · refine x_istore F [(15, .int ((-13))), (14, .int (nI (σ.1 17 ri))), (13, .int (nI (rj))), (12, .int (nI (ri))), (11, .int (nI (dd))), (10, .int (nI (zz))), (9, .int (xv)), (8, .int (nI (t))), (7, .int (nI (T))), (6, .int (nI (1))), (5, .int (lk)), (4, .int (nI (σ.1 18 0))), (3, .int (nI (σ.1 7 0))), (2, .int (nI (σ.1 6 0))), (1, .ref (o)), (0, .ref (gXb g))] dL_law_495 (by decide) rfl ?_
    refine x_iload F 0 dL_law_497 rfl ?_
    refine x_if_ge F 536 dL_law_499 (by decide) (fun c499_3 => ?_) (fun c499_3 => ?_)
    · exact absurd c499_3 (by decide)
    · refine x_iload F 0 dL_law_502 rfl ?_
      refine x_bipush F ((-12)) dL_law_504 (by decide) ?_
      refine x_icmp_eq F 516 dL_law_506 (by decide) (fun c506_2 => ?_) (fun c506_2 => ?_)
      · exact absurd c506_2 (by decide)
      · refine x_iload F 0 dL_law_509 rfl ?_
        refine x_bipush F ((-13)) dL_law_511 (by decide) ?_
        refine x_icmp_ne F 532 dL_law_513 (by decide) (fun c513 => ?_) (fun c513 => ?_)
        · exact absurd rfl c513
        · refine x_aload_n F 14 dL_law_516 rfl ?_
          refine x_iload F 3 dL_law_517 rfl ?_
          refine x_iconst F (nI 1) dL_law_519 (by decide) ?_
          refine x_callV F s_L_17 (hR.co ho) rfl rfl (q_ro1 F.nt ho hR hJ.1 (by omega)) rfl dL_law_520 (by decide) ⟨by omega, by omega⟩ (Nat.le_of_ble_eq_true rfl) x_noX (ki fun r_7 M2_7 hp_7 => ?_)
          obtain ⟨rfl, rfl⟩ := hp_7
          refine x_iload F 1 dL_law_523 rfl ?_
          refine x_icmp_ne F 532 dL_law_525 (by decide) (fun c525_2 => ?_) (fun c525_2 => ?_)
          · have c525_2 := mt (nI_eq (by omega) (by omega)).mpr c525_2
            omega
          · have c525_2 := (nI_eq (by omega) (by omega)).mp c525_2
            refine x_iconst F (nI 1) dL_law_528 (by decide) ?_
            refine x_goto F 584 dL_law_529 (by decide) ?_
            refine x_istore F [(6, .int (nI (1))), (15, .int ((-13))), (14, .int (nI (σ.1 17 ri))), (13, .int (nI (rj))), (12, .int (nI (ri))), (11, .int (nI (dd))), (10, .int (nI (zz))), (9, .int (xv)), (8, .int (nI (t))), (7, .int (nI (T))), (5, .int (lk)), (4, .int (nI (σ.1 18 0))), (3, .int (nI (σ.1 7 0))), (2, .int (nI (σ.1 6 0))), (1, .ref (o)), (0, .ref (gXb g))] dL_law_584 (by decide) rfl ?_
            refine x_goto F 1504 dL_law_586 (by decide) ?_
            refine x_sub [8, 9, 0, 10, 11, 12, 13, 14, 15] rfl (L' := [(8, .int (nI (t))), (7, .int (nI (T))), (6, .int (nI (1))), (5, .int (lk)), (4, .int (nI (σ.1 18 0))), (3, .int (nI (σ.1 7 0))), (2, .int (nI (σ.1 6 0))), (1, .ref (o)), (0, .ref (gXb g))]) ?_
            refine x_widen (a' := a + 500) (b' := b + 5000) (by omega) (by omega) ?_
            exact kk A _ _ _ _ _ _ ho hR.self (IJ_s hJ) rfl rfl rfl
set_option maxHeartbeats 4000000 in
set_option maxRecDepth 100000 in
theorem blk_close {K : KX} {g : GP} {Q : State → Prop} {M M0 : MM} {A : Nat → Nat} {σ : ST} {a b c o zz T t dd ri rj : Nat} {xv lk : Int32} {hh9 : List (Nat × Nat × Nat × Nat)} (F : Fx K g cL_law RL 19 (some .boolean) hh9 14 566 600064 7301640) (ha : a + 500 ≤ 600064) (hb : b + 5000 ≤ 7301640) (ho : A 0 = o) (hR : CM g A M0 σ M) (hJ : IJ c σ) (hc : c < 512) (hz : zz < 2 ^ 27) (hri : ri < σ.1 18 0) (kk : ∀ A3 σ3 M3 nb nr nd lk3, A3 0 = o → CM g A3 M3 σ3 M3 → IJ (c + 1) σ3 → nb = σ3.1 6 0 → nr = σ3.1 7 0 → nd = σ3.1 18 0 → XW K g 19 Q M3 (a + 500) (b + 5000) 1504 [(8, .int (nI t)), (7, .int (nI T)), (6, .int (nI 1)), (5, .int lk3), (4, .int (nI nd)), (3, .int (nI nr)), (2, .int (nI nb)), (1, .ref o), (0, .ref (gXb g))] []) : XW K g 19 Q M a b 596 [(13, .int (nI (rj))), (12, .int (nI (ri))), (11, .int (nI (dd))), (10, .int (nI (zz))), (9, .int (xv)), (8, .int (nI (t))), (7, .int (nI (T))), (6, .int (nI (1))), (5, .int (lk)), (4, .int (nI (σ.1 18 0))), (3, .int (nI (σ.1 7 0))), (2, .int (nI (σ.1 6 0))), (1, .ref (o)), (0, .ref (gXb g))] [] := by
  have h6 := hJ.1.B.1
  have h7 := hJ.1.B.2.1
  have h18 := hJ.1.B.2.2.1
  have b17 := (hJ.1.B.2.2.2.1 ri (by omega)).2.2.2.2.2.2.2.1
  have l17 := lstS_le (σ := σ) (r := ri) (2 ^ σ.1 11 ri)
  have t3 := (hJ.1.B.2.2.2.1 ri (by omega)).2.2.2.2.2.2.1
  refine x_iinc F 8 [(5, .int (lk + Int32.ofInt 1)), (13, .int (nI (rj))), (12, .int (nI (ri))), (11, .int (nI (dd))), (10, .int (nI (zz))), (9, .int (xv)), (8, .int (nI (t))), (7, .int (nI (T))), (6, .int (nI (1))), (4, .int (nI (σ.1 18 0))), (3, .int (nI (σ.1 7 0))), (2, .int (nI (σ.1 6 0))), (1, .ref (o)), (0, .ref (gXb g))] dL_law_596 rfl (rfl) (by decide) rfl ?_
  refine x_iload F 0 dL_law_599 rfl ?_
  refine x_bipush F (nI 30) dL_law_601 (by decide) ?_
  refine x_icmp_le F 610 dL_law_603 (by decide) (fun c603 => ?_) (fun c603 => ?_)
  · refine x_aload_n F 12 dL_law_610 rfl ?_
    refine x_iload F 2 dL_law_611 rfl ?_
    refine x_callV F s_L_31 (hR.co ho) rfl rfl (q_most F.nt ho hR hJ.1 (by omega)) rfl dL_law_613 (by decide) ⟨by omega, by omega⟩ (Nat.le_of_ble_eq_true rfl) x_noX (ki fun r M2 hp => ?_)
    obtain ⟨rfl, rfl⟩ := hp
    refine x_istore F [(14, .int (nI (lstS σ ri (2 ^ σ.1 11 ri)))), (5, .int (lk + Int32.ofInt 1)), (13, .int (nI (rj))), (12, .int (nI (ri))), (11, .int (nI (dd))), (10, .int (nI (zz))), (9, .int (xv)), (8, .int (nI (t))), (7, .int (nI (T))), (6, .int (nI (1))), (4, .int (nI (σ.1 18 0))), (3, .int (nI (σ.1 7 0))), (2, .int (nI (σ.1 6 0))), (1, .ref (o)), (0, .ref (gXb g))] dL_law_616 (by decide) rfl ?_
    refine x_aload_n F 13 dL_law_618 rfl ?_
    refine x_iconst F (nI 4) dL_law_619 (by decide) ?_
    refine x_iload F 3 dL_law_620 rfl ?_
    refine x_iconst F (nI 0) dL_law_622 (by decide) ?_
    refine x_iconst F (nI 0) dL_law_623 (by decide) ?_
    refine x_iconst F (nI 0) dL_law_624 (by decide) ?_
    refine x_callH F w_h_ask rfl (qa_close F.nt ho hR hJ.1 (x0 := nI ri)) rfl dL_law_625 (by decide) ⟨by omega, by omega⟩ (Nat.le_of_ble_eq_true rfl) (ki fun r_2 M2_2 hp_2 => ?_)
    rcases hp_2 with ⟨hcd, rfl, A2, hA2, hC2⟩ | ⟨hcd, rfl, rfl⟩ | ⟨hcd, rfl, rfl⟩
    · have hJ2 := IJ_close hJ hc hcd
      obtain ⟨r9, hr9, e9, q15, e8⟩ := cdSt_1 (by omega) hcd
      rw [cl_nI (n := ri) (by omega)] at e8 hC2 hJ2 ⊢
      rw [← e8] at q15
      obtain ⟨w1, w2⟩ := cl_f (σ := σ) (r := ri)
      obtain ⟨g1, g2⟩ := CL_half hJ.1 hri (fun j hj => (hJ.2.1 ri j hri hj).2.1 q15)
      have g3 := CL_most hJ.1 hri
      obtain ⟨σ2, hs2⟩ : ∃ z, z = clU σ ri := ⟨_, rfl⟩
      rw [← hs2] at hC2 hJ2 w1 w2 g1 g2 g3 ⊢
      have w18 := w1 18 0 (by decide)
      have w7 := w1 7 0 (by decide)
      refine x_istore F [(15, .int (nI (plIn σ2 ri))), (14, .int (nI (lstS σ ri (2 ^ σ.1 11 ri)))), (5, .int (lk + Int32.ofInt 1)), (13, .int (nI (rj))), (12, .int (nI (ri))), (11, .int (nI (dd))), (10, .int (nI (zz))), (9, .int (xv)), (8, .int (nI (t))), (7, .int (nI (T))), (6, .int (nI (1))), (4, .int (nI (σ.1 18 0))), (3, .int (nI (σ.1 7 0))), (2, .int (nI (σ.1 6 0))), (1, .ref (o)), (0, .ref (gXb g))] dL_law_628 (by decide) rfl ?_
      refine x_iload F 0 dL_law_630 rfl ?_
      refine x_bipush F ((-13)) dL_law_632 (by decide) ?_
      refine x_icmp_ne F 655 dL_law_634 (by decide) (fun c634 => ?_) (fun c634 => ?_)
      · refine x_iload F 0 dL_law_655 rfl ?_
        refine x_aload_n F 14 dL_law_657 rfl ?_
        refine x_iload F 4 dL_law_658 rfl ?_
        refine x_iconst F (nI 2) dL_law_660 (by decide) ?_
        refine x_callV F s_L_17 (hC2.co (hA2.trans ho)) rfl rfl (q_ro2 F.nt (hA2.trans ho) hC2 hJ2.1 (by omega)) rfl dL_law_661 (by decide) ⟨by omega, by omega⟩ (Nat.le_of_ble_eq_true rfl) x_noX (ki fun r_3 M2_3 hp_3 => ?_)
        obtain ⟨rfl, rfl⟩ := hp_3
        refine x_icmp_ne F 714 dL_law_664 (by decide) (fun c664 => ?_) (fun c664 => ?_)
        · have c664 := mt (nI_eq (by omega) (by omega)).mpr c664
          omega
        · have c664 := (nI_eq (by omega) (by omega)).mp c664
          refine x_aload_n F 14 dL_law_667 rfl ?_
          refine x_iload F 4 dL_law_668 rfl ?_
          refine x_iconst F (nI 0) dL_law_670 (by decide) ?_
          refine x_callV F s_L_17 (hC2.co (hA2.trans ho)) rfl rfl (q_ro0 F.nt (hA2.trans ho) hC2 hJ2.1 (by omega)) rfl dL_law_671 (by decide) ⟨by omega, by omega⟩ (Nat.le_of_ble_eq_true rfl) x_noX (ki fun r_4 M2_4 hp_4 => ?_)
          obtain ⟨rfl, rfl⟩ := hp_4
          refine x_iconst F (nI 1) dL_law_674 (by decide) ?_
          refine x_icmp_ne F 714 dL_law_675 (by decide) (fun c675 => ?_) (fun c675 => ?_)
          · have c675 := mt (nI_eq (by omega) (by omega)).mpr c675
            omega
          · have c675 := (nI_eq (by omega) (by omega)).mp c675
            refine x_iload F 1 dL_law_678 rfl ?_
            refine x_if_lt F 710 dL_law_680 (by decide) (fun c680 => ?_) (fun c680 => ?_)
            · exact absurd c680 (nI_nn (by omega))
            · refine x_iload F 0 dL_law_683 rfl ?_
              refine x_iload F 1 dL_law_685 rfl ?_
              refine x_icmp_gt F 714 dL_law_687 (by decide) (fun c687 => ?_) (fun c687 => ?_)
              · have c687 := (nI_ltI (by omega) (by omega)).mp c687
                have c687b := Nat.not_le.mpr c687
                omega
              · have c687 := mt (nI_ltI (by omega) (by omega)).mpr c687
                have c687b := Nat.not_lt.mp c687
                refine x_iload F 1 dL_law_690 rfl ?_
                refine x_iconst F (nI 2) dL_law_692 (by decide) ?_
                refine x_iload F 0 dL_law_693 rfl ?_
                refine x_imulN F dL_law_695 ?_
                refine x_icmp_gt F 714 dL_law_696 (by decide) (fun c696 => ?_) (fun c696 => ?_)
                · have c696 := (nI_ltI (by omega) (by omega)).mp c696
                  have c696b := Nat.not_le.mpr c696
                  omega
                · have c696 := mt (nI_ltI (by omega) (by omega)).mpr c696
                  have c696b := Nat.not_lt.mp c696
                  refine x_aload_n F 14 dL_law_699 rfl ?_
                  refine x_iload F 4 dL_law_700 rfl ?_
                  refine x_callV F s_L_31 (hC2.co (hA2.trans ho)) rfl rfl (q_most F.nt (hA2.trans ho) hC2 hJ2.1 (by omega)) rfl dL_law_702 (by decide) ⟨by omega, by omega⟩ (Nat.le_of_ble_eq_true rfl) x_noX (ki fun r_5 M2_5 hp_5 => ?_)
                  obtain ⟨rfl, rfl⟩ := hp_5
                  refine x_iload F 1 dL_law_705 rfl ?_
                  refine x_icmp_ne F 714 dL_law_707 (by decide) (fun c707 => ?_) (fun c707 => ?_)
                  · rw [g3] at c707; exact absurd rfl c707
                  · refine x_iconst F (nI 1) dL_law_710 (by decide) ?_
                    refine x_goto F 715 dL_law_711 (by decide) ?_
                    refine x_istore F [(6, .int (nI (1))), (15, .int (nI (plIn σ2 ri))), (14, .int (nI (lstS σ ri (2 ^ σ.1 11 ri)))), (5, .int (lk + Int32.ofInt 1)), (13, .int (nI (rj))), (12, .int (nI (ri))), (11, .int (nI (dd))), (10, .int (nI (zz))), (9, .int (xv)), (8, .int (nI (t))), (7, .int (nI (T))), (4, .int (nI (σ.1 18 0))), (3, .int (nI (σ.1 7 0))), (2, .int (nI (σ.1 6 0))), (1, .ref (o)), (0, .ref (gXb g))] dL_law_715 (by decide) rfl ?_
                    refine x_goto F 1504 dL_law_717 (by decide) ?_
                    refine x_sub [9, 10, 0, 3, 11, 12, 13, 14, 15] rfl (L' := [(8, .int (nI (t))), (7, .int (nI (T))), (6, .int (nI (1))), (5, .int (lk + Int32.ofInt 1)), (4, .int (nI (σ.1 18 0))), (3, .int (nI (σ.1 7 0))), (2, .int (nI (σ.1 6 0))), (1, .ref (o)), (0, .ref (gXb g))]) ?_
                    refine x_widen (a' := a + 500) (b' := b + 5000) (by omega) (by omega) ?_
                    exact kk A2 _ _ _ _ _ _ (hA2.trans ho) hC2 hJ2 (w1 6 0 (by decide)).symm w7.symm w18.symm
      · exact nI_neg (by omega) (by decide) c634
    · rw [cdSt_k (by omega) hri] at hcd; split at hcd <;> omega
    · have q15 : ¬ σ.1 15 ri = 0 := fun z => by rw [cdSt_k (by omega) hri, if_neg (not_not_intro z)] at hcd; cases hcd
      refine x_istore F [(15, .int ((-13))), (14, .int (nI (lstS σ ri (2 ^ σ.1 11 ri)))), (5, .int (lk + Int32.ofInt 1)), (13, .int (nI (rj))), (12, .int (nI (ri))), (11, .int (nI (dd))), (10, .int (nI (zz))), (9, .int (xv)), (8, .int (nI (t))), (7, .int (nI (T))), (6, .int (nI (1))), (4, .int (nI (σ.1 18 0))), (3, .int (nI (σ.1 7 0))), (2, .int (nI (σ.1 6 0))), (1, .ref (o)), (0, .ref (gXb g))] dL_law_628 (by decide) rfl ?_
      refine x_iload F 0 dL_law_630 rfl ?_
      refine x_bipush F ((-13)) dL_law_632 (by decide) ?_
      refine x_icmp_ne F 655 dL_law_634 (by decide) (fun c634_2 => ?_) (fun c634_2 => ?_)
      · exact absurd rfl c634_2
      · refine x_aload_n F 14 dL_law_637 rfl ?_
        refine x_iload F 4 dL_law_638 rfl ?_
        refine x_iconst F (nI 0) dL_law_640 (by decide) ?_
        refine x_callV F s_L_17 (hR.co ho) rfl rfl (q_ro0 F.nt ho hR hJ.1 (by omega)) rfl dL_law_641 (by decide) ⟨by omega, by omega⟩ (Nat.le_of_ble_eq_true rfl) x_noX (ki fun r_6 M2_6 hp_6 => ?_)
        obtain ⟨rfl, rfl⟩ := hp_6
        refine x_if_le F 651 dL_law_644 (by decide) (fun c644 => ?_) (fun c644 => ?_)
        · have c644 := (nI_le0 (by omega)).mp c644
          have c644b := Nat.not_lt.mpr (Nat.le_zero.mpr c644)
          omega
        · have c644 := mt (nI_le0 (by omega)).mpr c644
          have c644b := Nat.pos_of_ne_zero c644
          refine x_iconst F (nI 1) dL_law_647 (by decide) ?_
          refine x_goto F 715 dL_law_648 (by decide) ?_
          refine x_istore F [(6, .int (nI (1))), (15, .int ((-13))), (14, .int (nI (lstS σ ri (2 ^ σ.1 11 ri)))), (5, .int (lk + Int32.ofInt 1)), (13, .int (nI (rj))), (12, .int (nI (ri))), (11, .int (nI (dd))), (10, .int (nI (zz))), (9, .int (xv)), (8, .int (nI (t))), (7, .int (nI (T))), (4, .int (nI (σ.1 18 0))), (3, .int (nI (σ.1 7 0))), (2, .int (nI (σ.1 6 0))), (1, .ref (o)), (0, .ref (gXb g))] dL_law_715 (by decide) rfl ?_
          refine x_goto F 1504 dL_law_717 (by decide) ?_
          refine x_sub [9, 10, 0, 3, 11, 12, 13, 14, 15] rfl (L' := [(8, .int (nI (t))), (7, .int (nI (T))), (6, .int (nI (1))), (5, .int (lk + Int32.ofInt 1)), (4, .int (nI (σ.1 18 0))), (3, .int (nI (σ.1 7 0))), (2, .int (nI (σ.1 6 0))), (1, .ref (o)), (0, .ref (gXb g))]) ?_
          refine x_widen (a' := a + 500) (b' := b + 5000) (by omega) (by omega) ?_
          exact kk A _ _ _ _ _ _ ho hR.self (IJ_s hJ) rfl rfl rfl
  · refine x_iconst F ((-1)) dL_law_606 (by decide) ?_
    refine x_goto F 616 dL_law_607 (by decide) ?_
    refine x_istore F [(14, .int ((-1))), (5, .int (lk + Int32.ofInt 1)), (13, .int (nI (rj))), (12, .int (nI (ri))), (11, .int (nI (dd))), (10, .int (nI (zz))), (9, .int (xv)), (8, .int (nI (t))), (7, .int (nI (T))), (6, .int (nI (1))), (4, .int (nI (σ.1 18 0))), (3, .int (nI (σ.1 7 0))), (2, .int (nI (σ.1 6 0))), (1, .ref (o)), (0, .ref (gXb g))] dL_law_616 (by decide) rfl ?_
    refine x_aload_n F 13 dL_law_618 rfl ?_
    refine x_iconst F (nI 4) dL_law_619 (by decide) ?_
    refine x_iload F 3 dL_law_620 rfl ?_
    refine x_iconst F (nI 0) dL_law_622 (by decide) ?_
    refine x_iconst F (nI 0) dL_law_623 (by decide) ?_
    refine x_iconst F (nI 0) dL_law_624 (by decide) ?_
    refine x_callH F w_h_ask rfl (qa_close F.nt ho hR hJ.1 (x0 := nI ri)) rfl dL_law_625 (by decide) ⟨by omega, by omega⟩ (Nat.le_of_ble_eq_true rfl) (ki fun r_7 M2_7 hp_7 => ?_)
    rcases hp_7 with ⟨hcd, rfl, A2, hA2, hC2⟩ | ⟨hcd, rfl, rfl⟩ | ⟨hcd, rfl, rfl⟩
    · have hJ2 := IJ_close hJ hc hcd
      obtain ⟨r9, hr9, e9, q15, e8⟩ := cdSt_1 (by omega) hcd
      rw [cl_nI (n := ri) (by omega)] at e8 hC2 hJ2 ⊢
      rw [← e8] at q15
      obtain ⟨w1, w2⟩ := cl_f (σ := σ) (r := ri)
      obtain ⟨g1, g2⟩ := CL_half hJ.1 hri (fun j hj => (hJ.2.1 ri j hri hj).2.1 q15)
      have g3 := CL_most hJ.1 hri
      obtain ⟨σ2, hs2⟩ : ∃ z, z = clU σ ri := ⟨_, rfl⟩
      rw [← hs2] at hC2 hJ2 w1 w2 g1 g2 g3 ⊢
      have w18 := w1 18 0 (by decide)
      have w7 := w1 7 0 (by decide)
      refine x_istore F [(15, .int (nI (plIn σ2 ri))), (14, .int ((-1))), (5, .int (lk + Int32.ofInt 1)), (13, .int (nI (rj))), (12, .int (nI (ri))), (11, .int (nI (dd))), (10, .int (nI (zz))), (9, .int (xv)), (8, .int (nI (t))), (7, .int (nI (T))), (6, .int (nI (1))), (4, .int (nI (σ.1 18 0))), (3, .int (nI (σ.1 7 0))), (2, .int (nI (σ.1 6 0))), (1, .ref (o)), (0, .ref (gXb g))] dL_law_628 (by decide) rfl ?_
      refine x_iload F 0 dL_law_630 rfl ?_
      refine x_bipush F ((-13)) dL_law_632 (by decide) ?_
      refine x_icmp_ne F 655 dL_law_634 (by decide) (fun c634_3 => ?_) (fun c634_3 => ?_)
      · refine x_iload F 0 dL_law_655 rfl ?_
        refine x_aload_n F 14 dL_law_657 rfl ?_
        refine x_iload F 4 dL_law_658 rfl ?_
        refine x_iconst F (nI 2) dL_law_660 (by decide) ?_
        refine x_callV F s_L_17 (hC2.co (hA2.trans ho)) rfl rfl (q_ro2 F.nt (hA2.trans ho) hC2 hJ2.1 (by omega)) rfl dL_law_661 (by decide) ⟨by omega, by omega⟩ (Nat.le_of_ble_eq_true rfl) x_noX (ki fun r_8 M2_8 hp_8 => ?_)
        obtain ⟨rfl, rfl⟩ := hp_8
        refine x_icmp_ne F 714 dL_law_664 (by decide) (fun c664_2 => ?_) (fun c664_2 => ?_)
        · have c664_2 := mt (nI_eq (by omega) (by omega)).mpr c664_2
          omega
        · have c664_2 := (nI_eq (by omega) (by omega)).mp c664_2
          refine x_aload_n F 14 dL_law_667 rfl ?_
          refine x_iload F 4 dL_law_668 rfl ?_
          refine x_iconst F (nI 0) dL_law_670 (by decide) ?_
          refine x_callV F s_L_17 (hC2.co (hA2.trans ho)) rfl rfl (q_ro0 F.nt (hA2.trans ho) hC2 hJ2.1 (by omega)) rfl dL_law_671 (by decide) ⟨by omega, by omega⟩ (Nat.le_of_ble_eq_true rfl) x_noX (ki fun r_9 M2_9 hp_9 => ?_)
          obtain ⟨rfl, rfl⟩ := hp_9
          refine x_iconst F (nI 1) dL_law_674 (by decide) ?_
          refine x_icmp_ne F 714 dL_law_675 (by decide) (fun c675_2 => ?_) (fun c675_2 => ?_)
          · have c675_2 := mt (nI_eq (by omega) (by omega)).mpr c675_2
            omega
          · have c675_2 := (nI_eq (by omega) (by omega)).mp c675_2
            refine x_iload F 1 dL_law_678 rfl ?_
            refine x_if_lt F 710 dL_law_680 (by decide) (fun c680_2 => ?_) (fun c680_2 => ?_)
            · refine x_iconst F (nI 1) dL_law_710 (by decide) ?_
              refine x_goto F 715 dL_law_711 (by decide) ?_
              refine x_istore F [(6, .int (nI (1))), (15, .int (nI (plIn σ2 ri))), (14, .int ((-1))), (5, .int (lk + Int32.ofInt 1)), (13, .int (nI (rj))), (12, .int (nI (ri))), (11, .int (nI (dd))), (10, .int (nI (zz))), (9, .int (xv)), (8, .int (nI (t))), (7, .int (nI (T))), (4, .int (nI (σ.1 18 0))), (3, .int (nI (σ.1 7 0))), (2, .int (nI (σ.1 6 0))), (1, .ref (o)), (0, .ref (gXb g))] dL_law_715 (by decide) rfl ?_
              refine x_goto F 1504 dL_law_717 (by decide) ?_
              refine x_sub [9, 10, 0, 3, 11, 12, 13, 14, 15] rfl (L' := [(8, .int (nI (t))), (7, .int (nI (T))), (6, .int (nI (1))), (5, .int (lk + Int32.ofInt 1)), (4, .int (nI (σ.1 18 0))), (3, .int (nI (σ.1 7 0))), (2, .int (nI (σ.1 6 0))), (1, .ref (o)), (0, .ref (gXb g))]) ?_
              refine x_widen (a' := a + 500) (b' := b + 5000) (by omega) (by omega) ?_
              exact kk A2 _ _ _ _ _ _ (hA2.trans ho) hC2 hJ2 (w1 6 0 (by decide)).symm w7.symm w18.symm
            · exact absurd (by decide) c680_2
      · exact nI_neg (by omega) (by decide) c634_3
    · rw [cdSt_k (by omega) hri] at hcd; split at hcd <;> omega
    · have q15 : ¬ σ.1 15 ri = 0 := fun z => by rw [cdSt_k (by omega) hri, if_neg (not_not_intro z)] at hcd; cases hcd
      refine x_istore F [(15, .int ((-13))), (14, .int ((-1))), (5, .int (lk + Int32.ofInt 1)), (13, .int (nI (rj))), (12, .int (nI (ri))), (11, .int (nI (dd))), (10, .int (nI (zz))), (9, .int (xv)), (8, .int (nI (t))), (7, .int (nI (T))), (6, .int (nI (1))), (4, .int (nI (σ.1 18 0))), (3, .int (nI (σ.1 7 0))), (2, .int (nI (σ.1 6 0))), (1, .ref (o)), (0, .ref (gXb g))] dL_law_628 (by decide) rfl ?_
      refine x_iload F 0 dL_law_630 rfl ?_
      refine x_bipush F ((-13)) dL_law_632 (by decide) ?_
      refine x_icmp_ne F 655 dL_law_634 (by decide) (fun c634_4 => ?_) (fun c634_4 => ?_)
      · exact absurd rfl c634_4
      · refine x_aload_n F 14 dL_law_637 rfl ?_
        refine x_iload F 4 dL_law_638 rfl ?_
        refine x_iconst F (nI 0) dL_law_640 (by decide) ?_
        refine x_callV F s_L_17 (hR.co ho) rfl rfl (q_ro0 F.nt ho hR hJ.1 (by omega)) rfl dL_law_641 (by decide) ⟨by omega, by omega⟩ (Nat.le_of_ble_eq_true rfl) x_noX (ki fun r_10 M2_10 hp_10 => ?_)
        obtain ⟨rfl, rfl⟩ := hp_10
        refine x_if_le F 651 dL_law_644 (by decide) (fun c644_2 => ?_) (fun c644_2 => ?_)
        · have c644_2 := (nI_le0 (by omega)).mp c644_2
          have c644_2b := Nat.not_lt.mpr (Nat.le_zero.mpr c644_2)
          omega
        · have c644_2 := mt (nI_le0 (by omega)).mpr c644_2
          have c644_2b := Nat.pos_of_ne_zero c644_2
          refine x_iconst F (nI 1) dL_law_647 (by decide) ?_
          refine x_goto F 715 dL_law_648 (by decide) ?_
          refine x_istore F [(6, .int (nI (1))), (15, .int ((-13))), (14, .int ((-1))), (5, .int (lk + Int32.ofInt 1)), (13, .int (nI (rj))), (12, .int (nI (ri))), (11, .int (nI (dd))), (10, .int (nI (zz))), (9, .int (xv)), (8, .int (nI (t))), (7, .int (nI (T))), (4, .int (nI (σ.1 18 0))), (3, .int (nI (σ.1 7 0))), (2, .int (nI (σ.1 6 0))), (1, .ref (o)), (0, .ref (gXb g))] dL_law_715 (by decide) rfl ?_
          refine x_goto F 1504 dL_law_717 (by decide) ?_
          refine x_sub [9, 10, 0, 3, 11, 12, 13, 14, 15] rfl (L' := [(8, .int (nI (t))), (7, .int (nI (T))), (6, .int (nI (1))), (5, .int (lk + Int32.ofInt 1)), (4, .int (nI (σ.1 18 0))), (3, .int (nI (σ.1 7 0))), (2, .int (nI (σ.1 6 0))), (1, .ref (o)), (0, .ref (gXb g))]) ?_
          refine x_widen (a' := a + 500) (b' := b + 5000) (by omega) (by omega) ?_
          exact kk A _ _ _ _ _ _ ho hR.self (IJ_s hJ) rfl rfl rfl
set_option maxHeartbeats 4000000 in
set_option maxRecDepth 100000 in
theorem blk_draw {K : KX} {g : GP} {Q : State → Prop} {M M0 : MM} {A : Nat → Nat} {σ : ST} {a b c o zz T t dd ri rj : Nat} {xv lk : Int32} {hh9 : List (Nat × Nat × Nat × Nat)} (F : Fx K g cL_law RL 19 (some .boolean) hh9 14 566 600064 7301640) (ha : a + 500 ≤ 600064) (hb : b + 5000 ≤ 7301640) (ho : A 0 = o) (hR : CM g A M0 σ M) (hJ : IJ c σ) (hc : c < 512) (hz : zz < 2 ^ 27) (hri : ri < σ.1 18 0) (kk : ∀ A3 σ3 M3 nb nr nd lk3, A3 0 = o → CM g A3 M3 σ3 M3 → IJ (c + 1) σ3 → nb = σ3.1 6 0 → nr = σ3.1 7 0 → nd = σ3.1 18 0 → XW K g 19 Q M3 (a + 500) (b + 5000) 1504 [(8, .int (nI t)), (7, .int (nI T)), (6, .int (nI 1)), (5, .int lk3), (4, .int (nI nd)), (3, .int (nI nr)), (2, .int (nI nb)), (1, .ref o), (0, .ref (gXb g))] []) : XW K g 19 Q M a b 727 [(13, .int (nI (rj))), (12, .int (nI (ri))), (11, .int (nI (dd))), (10, .int (nI (zz))), (9, .int (xv)), (8, .int (nI (t))), (7, .int (nI (T))), (6, .int (nI (1))), (5, .int (lk)), (4, .int (nI (σ.1 18 0))), (3, .int (nI (σ.1 7 0))), (2, .int (nI (σ.1 6 0))), (1, .ref (o)), (0, .ref (gXb g))] [] := by
  have h6 := hJ.1.B.1
  have h7 := hJ.1.B.2.1
  have h18 := hJ.1.B.2.2.1
  have t3 := (hJ.1.B.2.2.2.1 ri (by omega)).2.2.2.2.2.2.1
  refine x_aload_n F 12 dL_law_727 rfl ?_
  refine x_bipush F (nI 7) dL_law_728 (by decide) ?_
  refine x_iload F 1 dL_law_730 rfl ?_
  refine x_iconst F (nI 0) dL_law_732 (by decide) ?_
  refine x_iconst F (nI 0) dL_law_733 (by decide) ?_
  refine x_iconst F (nI 0) dL_law_734 (by decide) ?_
  refine x_callH F w_h_ask rfl (qa_draw F.nt ho hR hJ.1 (x0 := nI ri)) rfl dL_law_735 (by decide) ⟨by omega, by omega⟩ (Nat.le_of_ble_eq_true rfl) (ki fun r M2 hp => ?_)
  rcases hp with ⟨hcd, rfl, A2, hA2, hC2⟩ | ⟨hcd, rfl, rfl⟩ | ⟨hcd, rfl, rfl⟩
  · have hJ2 := IJ_draw hJ hc hcd
    refine x_ri0 (y := nI (beaN (drnU σ (cl (nI ri))) (cl (nI ri)))) (RQ_draw hJ.1 hcd) ?_
    rw [cl_nI (n := ri) (by omega)] at hC2 hJ2 ⊢
    obtain ⟨w1, w2⟩ := drn_f (σ := σ) (r := ri)
    obtain ⟨σ2, hs2⟩ : ∃ z, z = drnU σ ri := ⟨_, rfl⟩
    rw [← hs2] at hC2 hJ2 w1 w2 ⊢
    have w18 := w1 18 0 (by decide)
    have w7 := w1 7 0 (by decide)
    have g1 := bea_pl hJ2 (r := ri) (by omega)
    have g2 : plIn σ2 ri ≤ 12 := fb_ct_le _ _
    refine x_istore F [(14, .int (nI (beaN σ2 ri))), (13, .int (nI (rj))), (12, .int (nI (ri))), (11, .int (nI (dd))), (10, .int (nI (zz))), (9, .int (xv)), (8, .int (nI (t))), (7, .int (nI (T))), (6, .int (nI (1))), (5, .int (lk)), (4, .int (nI (σ.1 18 0))), (3, .int (nI (σ.1 7 0))), (2, .int (nI (σ.1 6 0))), (1, .ref (o)), (0, .ref (gXb g))] dL_law_738 (by decide) rfl ?_
    refine x_iload F 0 dL_law_740 rfl ?_
    refine x_bipush F ((-13)) dL_law_742 (by decide) ?_
    refine x_icmp_ne F 766 dL_law_744 (by decide) (fun c744 => ?_) (fun c744 => ?_)
    · refine x_iload F 0 dL_law_766 rfl ?_
      refine x_if_lt F 798 dL_law_768 (by decide) (fun c768 => ?_) (fun c768 => ?_)
      · exact absurd c768 (nI_nn (by omega))
      · refine x_iload F 0 dL_law_771 rfl ?_
        refine x_aload_n F 13 dL_law_773 rfl ?_
        refine x_iload F 2 dL_law_774 rfl ?_
        refine x_iconst F (nI 2) dL_law_776 (by decide) ?_
        refine x_callV F s_L_17 (hC2.co (hA2.trans ho)) rfl rfl (q_ro2 F.nt (hA2.trans ho) hC2 hJ2.1 (by omega)) rfl dL_law_777 (by decide) ⟨by omega, by omega⟩ (Nat.le_of_ble_eq_true rfl) x_noX (ki fun r_2 M2_2 hp_2 => ?_)
        obtain ⟨rfl, rfl⟩ := hp_2
        refine x_icmp_gt F 798 dL_law_780 (by decide) (fun c780 => ?_) (fun c780 => ?_)
        · have c780 := (nI_ltI (by omega) (by omega)).mp c780
          have c780b := Nat.not_le.mpr c780
          omega
        · have c780 := mt (nI_ltI (by omega) (by omega)).mpr c780
          have c780b := Nat.not_lt.mp c780
          refine x_aload_n F 13 dL_law_783 rfl ?_
          refine x_iload F 2 dL_law_784 rfl ?_
          refine x_iconst F (nI 0) dL_law_786 (by decide) ?_
          refine x_callV F s_L_17 (hC2.co (hA2.trans ho)) rfl rfl (q_ro0 F.nt (hA2.trans ho) hC2 hJ2.1 (by omega)) rfl dL_law_787 (by decide) ⟨by omega, by omega⟩ (Nat.le_of_ble_eq_true rfl) x_noX (ki fun r_3 M2_3 hp_3 => ?_)
          obtain ⟨rfl, rfl⟩ := hp_3
          refine x_iconst F (nI 2) dL_law_790 (by decide) ?_
          refine x_icmp_ne F 798 dL_law_791 (by decide) (fun c791 => ?_) (fun c791 => ?_)
          · have c791 := mt (nI_eq (by omega) (by omega)).mpr c791
            omega
          · have c791 := (nI_eq (by omega) (by omega)).mp c791
            refine x_iconst F (nI 1) dL_law_794 (by decide) ?_
            refine x_goto F 799 dL_law_795 (by decide) ?_
            refine x_istore F [(6, .int (nI (1))), (14, .int (nI (beaN σ2 ri))), (13, .int (nI (rj))), (12, .int (nI (ri))), (11, .int (nI (dd))), (10, .int (nI (zz))), (9, .int (xv)), (8, .int (nI (t))), (7, .int (nI (T))), (5, .int (lk)), (4, .int (nI (σ.1 18 0))), (3, .int (nI (σ.1 7 0))), (2, .int (nI (σ.1 6 0))), (1, .ref (o)), (0, .ref (gXb g))] dL_law_799 (by decide) rfl ?_
            refine x_goto F 1504 dL_law_801 (by decide) ?_
            refine x_sub [7, 8, 0, 9, 10, 11, 12, 13, 14] rfl (L' := [(8, .int (nI (t))), (7, .int (nI (T))), (6, .int (nI (1))), (5, .int (lk)), (4, .int (nI (σ.1 18 0))), (3, .int (nI (σ.1 7 0))), (2, .int (nI (σ.1 6 0))), (1, .ref (o)), (0, .ref (gXb g))]) ?_
            refine x_widen (a' := a + 500) (b' := b + 5000) (by omega) (by omega) ?_
            exact kk A2 _ _ _ _ _ _ (hA2.trans ho) hC2 hJ2 (w1 6 0 (by decide)).symm w7.symm w18.symm
    · exact nI_neg (by omega) (by decide) c744
  · rw [cdSt_k (by omega) hri] at hcd; split at hcd <;> omega
  · have q15 : ¬ σ.1 15 ri = 1 := fun z => by rw [cdSt_k (by omega) hri, if_neg (not_not_intro z)] at hcd; cases hcd
    refine x_istore F [(14, .int ((-13))), (13, .int (nI (rj))), (12, .int (nI (ri))), (11, .int (nI (dd))), (10, .int (nI (zz))), (9, .int (xv)), (8, .int (nI (t))), (7, .int (nI (T))), (6, .int (nI (1))), (5, .int (lk)), (4, .int (nI (σ.1 18 0))), (3, .int (nI (σ.1 7 0))), (2, .int (nI (σ.1 6 0))), (1, .ref (o)), (0, .ref (gXb g))] dL_law_738 (by decide) rfl ?_
    refine x_iload F 0 dL_law_740 rfl ?_
    refine x_bipush F ((-13)) dL_law_742 (by decide) ?_
    refine x_icmp_ne F 766 dL_law_744 (by decide) (fun c744_2 => ?_) (fun c744_2 => ?_)
    · exact absurd rfl c744_2
    · refine x_aload_n F 13 dL_law_747 rfl ?_
      refine x_iload F 2 dL_law_748 rfl ?_
      refine x_iconst F (nI 0) dL_law_750 (by decide) ?_
      refine x_callV F s_L_17 (hR.co ho) rfl rfl (q_ro0 F.nt ho hR hJ.1 (by omega)) rfl dL_law_751 (by decide) ⟨by omega, by omega⟩ (Nat.le_of_ble_eq_true rfl) x_noX (ki fun r_4 M2_4 hp_4 => ?_)
      obtain ⟨rfl, rfl⟩ := hp_4
      refine x_iconst F (nI 1) dL_law_754 (by decide) ?_
      refine x_icmp_eq F 762 dL_law_755 (by decide) (fun c755 => ?_) (fun c755 => ?_)
      · have c755 := (nI_eq (by omega) (by omega)).mp c755
        omega
      · have c755 := mt (nI_eq (by omega) (by omega)).mpr c755
        refine x_iconst F (nI 1) dL_law_758 (by decide) ?_
        refine x_goto F 799 dL_law_759 (by decide) ?_
        refine x_istore F [(6, .int (nI (1))), (14, .int ((-13))), (13, .int (nI (rj))), (12, .int (nI (ri))), (11, .int (nI (dd))), (10, .int (nI (zz))), (9, .int (xv)), (8, .int (nI (t))), (7, .int (nI (T))), (5, .int (lk)), (4, .int (nI (σ.1 18 0))), (3, .int (nI (σ.1 7 0))), (2, .int (nI (σ.1 6 0))), (1, .ref (o)), (0, .ref (gXb g))] dL_law_799 (by decide) rfl ?_
        refine x_goto F 1504 dL_law_801 (by decide) ?_
        refine x_sub [7, 8, 0, 9, 10, 11, 12, 13, 14] rfl (L' := [(8, .int (nI (t))), (7, .int (nI (T))), (6, .int (nI (1))), (5, .int (lk)), (4, .int (nI (σ.1 18 0))), (3, .int (nI (σ.1 7 0))), (2, .int (nI (σ.1 6 0))), (1, .ref (o)), (0, .ref (gXb g))]) ?_
        refine x_widen (a' := a + 500) (b' := b + 5000) (by omega) (by omega) ?_
        exact kk A _ _ _ _ _ _ ho hR.self (IJ_s hJ) rfl rfl rfl
set_option maxHeartbeats 4000000 in
set_option maxRecDepth 100000 in
theorem blk_answer {K : KX} {g : GP} {Q : State → Prop} {M M0 : MM} {A : Nat → Nat} {σ : ST} {a b c o zz T t dd ri rj : Nat} {xv lk : Int32} {hh9 : List (Nat × Nat × Nat × Nat)} (F : Fx K g cL_law RL 19 (some .boolean) hh9 14 566 600064 7301640) (ha : a + 500 ≤ 600064) (hb : b + 5000 ≤ 7301640) (ho : A 0 = o) (hR : CM g A M0 σ M) (hJ : IJ c σ) (hc : c < 512) (hz : zz < 2 ^ 27) (hri : ri < σ.1 18 0) (hrj : rj < σ.1 7 0) (kk : ∀ A3 σ3 M3 nb nr nd lk3, A3 0 = o → CM g A3 M3 σ3 M3 → IJ (c + 1) σ3 → nb = σ3.1 6 0 → nr = σ3.1 7 0 → nd = σ3.1 18 0 → XW K g 19 Q M3 (a + 500) (b + 5000) 1504 [(8, .int (nI t)), (7, .int (nI T)), (6, .int (nI 1)), (5, .int lk3), (4, .int (nI nd)), (3, .int (nI nr)), (2, .int (nI nb)), (1, .ref o), (0, .ref (gXb g))] []) : XW K g 19 Q M a b 1078 [(13, .int (nI (rj))), (12, .int (nI (ri))), (11, .int (nI (dd))), (10, .int (nI (zz))), (9, .int (xv)), (8, .int (nI (t))), (7, .int (nI (T))), (6, .int (nI (1))), (5, .int (lk)), (4, .int (nI (σ.1 18 0))), (3, .int (nI (σ.1 7 0))), (2, .int (nI (σ.1 6 0))), (1, .ref (o)), (0, .ref (gXb g))] [] := by
  have h6 := hJ.1.B.1
  have h7 := hJ.1.B.2.1
  have h18 := hJ.1.B.2.2.1
  refine x_aload_n F 12 dL_law_1078 rfl ?_
  refine x_iload F 1 dL_law_1079 rfl ?_
  refine x_iload F 0 dL_law_1081 rfl ?_
  refine x_callV F s_L_40 (hR.co ho) rfl rfl (q_isOffered F.nt ho hR hJ.1 (by omega) (by omega)) rfl dL_law_1083 (by decide) ⟨by omega, by omega⟩ (Nat.le_of_ble_eq_true rfl) x_noX (ki fun r M2 hp => ?_)
  obtain ⟨rfl, rfl⟩ := hp
  refine x_istore F [(14, .int (nI (bz (decide (¬ σ.1 26 (12 * ri + rj) = 0))))), (13, .int (nI (rj))), (12, .int (nI (ri))), (11, .int (nI (dd))), (10, .int (nI (zz))), (9, .int (xv)), (8, .int (nI (t))), (7, .int (nI (T))), (6, .int (nI (1))), (5, .int (lk)), (4, .int (nI (σ.1 18 0))), (3, .int (nI (σ.1 7 0))), (2, .int (nI (σ.1 6 0))), (1, .ref (o)), (0, .ref (gXb g))] dL_law_1086 (by decide) rfl ?_
  refine x_iload F 4 dL_law_1088 rfl ?_
  refine x_iconst F (nI 1) dL_law_1090 (by decide) ?_
  refine x_iand F dL_law_1091 ?_
  refine x_ri0 (y := nI (zz % 2 ^ 1)) (pk_andN (by omega) 1 (by decide)) ?_
  refine x_if_ne F 1099 dL_law_1092 (by decide) (fun c1092 => ?_) (fun c1092 => ?_)
  · have c1092 := mt (nI_z (by omega)).mpr c1092
    refine x_iconst F (nI 0) dL_law_1099 (by decide) ?_
    refine x_istore F [(15, .int (nI (0))), (14, .int (nI (bz (decide (¬ σ.1 26 (12 * ri + rj) = 0))))), (13, .int (nI (rj))), (12, .int (nI (ri))), (11, .int (nI (dd))), (10, .int (nI (zz))), (9, .int (xv)), (8, .int (nI (t))), (7, .int (nI (T))), (6, .int (nI (1))), (5, .int (lk)), (4, .int (nI (σ.1 18 0))), (3, .int (nI (σ.1 7 0))), (2, .int (nI (σ.1 6 0))), (1, .ref (o)), (0, .ref (gXb g))] dL_law_1100 (by decide) rfl ?_
    refine x_aload_n F 14 dL_law_1102 rfl ?_
    refine x_iload F 3 dL_law_1103 rfl ?_
    refine x_iload F 2 dL_law_1105 rfl ?_
    refine x_callV F s_L_37 (hR.co ho) rfl rfl (q_drawn F.nt ho hR hJ.1 (by omega) (by omega)) rfl dL_law_1107 (by decide) ⟨by omega, by omega⟩ (Nat.le_of_ble_eq_true rfl) x_noX (ki fun r_2 M2_2 hp_2 => ?_)
    obtain ⟨rfl, rfl⟩ := hp_2
    refine x_istore F [(16, .int (σ.2.1 23 (12 * ri + rj))), (15, .int (nI (0))), (14, .int (nI (bz (decide (¬ σ.1 26 (12 * ri + rj) = 0))))), (13, .int (nI (rj))), (12, .int (nI (ri))), (11, .int (nI (dd))), (10, .int (nI (zz))), (9, .int (xv)), (8, .int (nI (t))), (7, .int (nI (T))), (6, .int (nI (1))), (5, .int (lk)), (4, .int (nI (σ.1 18 0))), (3, .int (nI (σ.1 7 0))), (2, .int (nI (σ.1 6 0))), (1, .ref (o)), (0, .ref (gXb g))] dL_law_1110 (by decide) rfl ?_
    refine x_aload_n F 15 dL_law_1112 rfl ?_
    refine x_iload F 4 dL_law_1113 rfl ?_
    refine x_iload F 3 dL_law_1115 rfl ?_
    refine x_callV F s_L_48 (hR.co ho) rfl rfl (q_score F.nt ho hR hJ.1 (by omega) (by omega)) rfl dL_law_1117 (by decide) ⟨by omega, by omega⟩ (Nat.le_of_ble_eq_true rfl) x_noX (ki fun r_3 M2_3 hp_3 => ?_)
    obtain ⟨rfl, rfl⟩ := hp_3
    refine x_istore F [(17, .int (σ.2.1 28 (12 * ri + rj))), (16, .int (σ.2.1 23 (12 * ri + rj))), (15, .int (nI (0))), (14, .int (nI (bz (decide (¬ σ.1 26 (12 * ri + rj) = 0))))), (13, .int (nI (rj))), (12, .int (nI (ri))), (11, .int (nI (dd))), (10, .int (nI (zz))), (9, .int (xv)), (8, .int (nI (t))), (7, .int (nI (T))), (6, .int (nI (1))), (5, .int (lk)), (4, .int (nI (σ.1 18 0))), (3, .int (nI (σ.1 7 0))), (2, .int (nI (σ.1 6 0))), (1, .ref (o)), (0, .ref (gXb g))] dL_law_1120 (by decide) rfl ?_
    refine x_aload_n F 16 dL_law_1122 rfl ?_
    refine x_bipush F (nI 10) dL_law_1123 (by decide) ?_
    refine x_iload F 5 dL_law_1125 rfl ?_
    refine x_iload F 4 dL_law_1127 rfl ?_
    refine x_iload F 2 dL_law_1129 rfl ?_
    refine x_if_eq F 1138 dL_law_1131 (by decide) (fun c1131 => ?_) (fun c1131 => ?_)
    · have c1131 := (nI_z (by omega)).mp c1131
      refine x_iconst F (nI 0) dL_law_1138 (by decide) ?_
      refine x_iconst F (nI 0) dL_law_1139 (by decide) ?_
      refine x_callH F w_h_ask rfl (qa_answer F.nt ho hR hJ.1 (x0 := nI ri) (y0 := nI rj) (f := false)) rfl dL_law_1140 (by decide) ⟨by omega, by omega⟩ (Nat.le_of_ble_eq_true rfl) (ki fun r_4 M2_4 hp_4 => ?_)
      rcases hp_4 with ⟨hcd, rfl, A2, hA2, hC2⟩ | ⟨hcd, rfl, rfl⟩ | ⟨hcd, rfl, rfl⟩
      · have hJ2 := IJ_answer (f := false) hJ hc hcd
        have q26 : ¬ σ.1 26 (12 * ri + rj) = 0 := fun z => by rw [cdAn_k (by omega) (by omega) hri hrj, if_pos z] at hcd; cases hcd
        rw [cl_nI (n := ri) (by omega), cl_nI (n := rj) (by omega)] at hC2 hJ2
        obtain ⟨w1, w2, w3, w4⟩ := ans_f (σ := σ) (r := ri) (j := rj) (f := false)
        refine x_ri0 (y := (-1)) (if_neg Bool.false_ne_true) ?_
        obtain ⟨σ2, hs2⟩ : ∃ z, z = ansU σ ri rj false := ⟨_, rfl⟩
        rw [← hs2] at hC2 hJ2 w1 w2 w3 w4
        have w18 := w1 18 0 (by decide)
        have w7 := w1 7 0 (by decide)
        refine x_istore F [(18, .int ((-1))), (17, .int (σ.2.1 28 (12 * ri + rj))), (16, .int (σ.2.1 23 (12 * ri + rj))), (15, .int (nI (0))), (14, .int (nI (bz (decide (¬ σ.1 26 (12 * ri + rj) = 0))))), (13, .int (nI (rj))), (12, .int (nI (ri))), (11, .int (nI (dd))), (10, .int (nI (zz))), (9, .int (xv)), (8, .int (nI (t))), (7, .int (nI (T))), (6, .int (nI (1))), (5, .int (lk)), (4, .int (nI (σ.1 18 0))), (3, .int (nI (σ.1 7 0))), (2, .int (nI (σ.1 6 0))), (1, .ref (o)), (0, .ref (gXb g))] dL_law_1143 (by decide) rfl ?_
        refine x_iload F 4 dL_law_1145 rfl ?_
        refine x_if_ne F 1165 dL_law_1147 (by decide) (fun c1147 => ?_) (fun c1147 => ?_)
        · have c1147 := nI_bz1.mp c1147
          refine x_iload F 3 dL_law_1165 rfl ?_
          refine x_if_eq F 1210 dL_law_1167 (by decide) (fun c1167 => ?_) (fun c1167 => ?_)
          · have c1167 := (nI_z (by omega)).mp c1167
            refine x_iload F 0 dL_law_1210 rfl ?_
            refine x_iconst F ((-1)) dL_law_1212 (by decide) ?_
            refine x_icmp_ne F 1246 dL_law_1213 (by decide) (fun c1213 => ?_) (fun c1213 => ?_)
            · exact absurd rfl c1213
            · refine x_aload_n F 17 dL_law_1216 rfl ?_
              refine x_iload F 6 dL_law_1217 rfl ?_
              refine x_iload F 5 dL_law_1219 rfl ?_
              refine x_callV F s_L_48 (hC2.co (hA2.trans ho)) rfl rfl (q_score F.nt (hA2.trans ho) hC2 hJ2.1 (by omega) (by omega)) rfl dL_law_1221 (by decide) ⟨by omega, by omega⟩ (Nat.le_of_ble_eq_true rfl) x_noX (ki fun r_5 M2_5 hp_5 => ?_)
              obtain ⟨rfl, rfl⟩ := hp_5
              refine x_iload F 1 dL_law_1224 rfl ?_
              refine x_icmp_ne F 1246 dL_law_1226 (by decide) (fun c1226 => ?_) (fun c1226 => ?_)
              · rw [w4 rfl] at c1226; exact absurd rfl c1226
              · refine x_aload_n F 17 dL_law_1229 rfl ?_
                refine x_iload F 6 dL_law_1230 rfl ?_
                refine x_iload F 5 dL_law_1232 rfl ?_
                refine x_callV F s_L_37 (hC2.co (hA2.trans ho)) rfl rfl (q_drawn F.nt (hA2.trans ho) hC2 hJ2.1 (by omega) (by omega)) rfl dL_law_1234 (by decide) ⟨by omega, by omega⟩ (Nat.le_of_ble_eq_true rfl) x_noX (ki fun r_6 M2_6 hp_6 => ?_)
                obtain ⟨rfl, rfl⟩ := hp_6
                refine x_iload F 2 dL_law_1237 rfl ?_
                refine x_icmp_ne F 1246 dL_law_1239 (by decide) (fun c1239 => ?_) (fun c1239 => ?_)
                · rw [w4 rfl] at c1239; exact absurd rfl c1239
                · refine x_iconst F (nI 1) dL_law_1242 (by decide) ?_
                  refine x_goto F 1247 dL_law_1243 (by decide) ?_
                  refine x_istore F [(6, .int (nI (1))), (18, .int ((-1))), (17, .int (σ.2.1 28 (12 * ri + rj))), (16, .int (σ.2.1 23 (12 * ri + rj))), (15, .int (nI (0))), (14, .int (nI (bz (decide (¬ σ.1 26 (12 * ri + rj) = 0))))), (13, .int (nI (rj))), (12, .int (nI (ri))), (11, .int (nI (dd))), (10, .int (nI (zz))), (9, .int (xv)), (8, .int (nI (t))), (7, .int (nI (T))), (5, .int (lk)), (4, .int (nI (σ.1 18 0))), (3, .int (nI (σ.1 7 0))), (2, .int (nI (σ.1 6 0))), (1, .ref (o)), (0, .ref (gXb g))] dL_law_1247 (by decide) rfl ?_
                  refine x_iload F 0 dL_law_1249 rfl ?_
                  refine x_if_eq F 1269 dL_law_1251 (by decide) (fun c1251 => ?_) (fun c1251 => ?_)
                  · have c1251 := (nI_z (by omega)).mp c1251
                    omega
                  · have c1251 := mt (nI_z (by omega)).mpr c1251
                    refine x_aload_n F 17 dL_law_1254 rfl ?_
                    refine x_iload F 7 dL_law_1255 rfl ?_
                    refine x_iload F 6 dL_law_1257 rfl ?_
                    refine x_callV F s_L_40 (hC2.co (hA2.trans ho)) rfl rfl (q_isOffered F.nt (hA2.trans ho) hC2 hJ2.1 (by omega) (by omega)) rfl dL_law_1259 (by decide) ⟨by omega, by omega⟩ (Nat.le_of_ble_eq_true rfl) x_noX (ki fun r_7 M2_7 hp_7 => ?_)
                    obtain ⟨rfl, rfl⟩ := hp_7
                    refine x_if_ne F 1269 dL_law_1262 (by decide) (fun c1262 => ?_) (fun c1262 => ?_)
                    · have c1262 := nI_bz1.mp c1262
                      exact (of_decide_eq_true c1262 w2).elim
                    · have c1262 := nI_bz0.mp c1262
                      refine x_iconst F (nI 1) dL_law_1265 (by decide) ?_
                      refine x_goto F 1270 dL_law_1266 (by decide) ?_
                      refine x_istore F [(6, .int (nI (1))), (18, .int ((-1))), (17, .int (σ.2.1 28 (12 * ri + rj))), (16, .int (σ.2.1 23 (12 * ri + rj))), (15, .int (nI (0))), (14, .int (nI (bz (decide (¬ σ.1 26 (12 * ri + rj) = 0))))), (13, .int (nI (rj))), (12, .int (nI (ri))), (11, .int (nI (dd))), (10, .int (nI (zz))), (9, .int (xv)), (8, .int (nI (t))), (7, .int (nI (T))), (5, .int (lk)), (4, .int (nI (σ.1 18 0))), (3, .int (nI (σ.1 7 0))), (2, .int (nI (σ.1 6 0))), (1, .ref (o)), (0, .ref (gXb g))] dL_law_1270 (by decide) rfl ?_
                      refine x_goto F 1504 dL_law_1272 (by decide) ?_
                      refine x_sub [11, 12, 0, 13, 14, 15, 16, 17, 18] rfl (L' := [(8, .int (nI (t))), (7, .int (nI (T))), (6, .int (nI (1))), (5, .int (lk)), (4, .int (nI (σ.1 18 0))), (3, .int (nI (σ.1 7 0))), (2, .int (nI (σ.1 6 0))), (1, .ref (o)), (0, .ref (gXb g))]) ?_
                      refine x_widen (a' := a + 500) (b' := b + 5000) (by omega) (by omega) ?_
                      exact kk A2 _ _ _ _ _ _ (hA2.trans ho) hC2 hJ2 (w1 6 0 (by decide)).symm w7.symm w18.symm
          · have c1167 := mt (nI_z (by omega)).mpr c1167
            omega
        · have c1147 := nI_bz0.mp c1147
          exact (of_decide_eq_false c1147 q26).elim
      · rw [cdAn_k (by omega) (by omega) hri hrj] at hcd; split at hcd <;> omega
      · have q26 : σ.1 26 (12 * ri + rj) = 0 := Classical.byContradiction (fun z => by rw [cdAn_k (by omega) (by omega) hri hrj, if_neg z] at hcd; cases hcd)
        refine x_istore F [(18, .int ((-13))), (17, .int (σ.2.1 28 (12 * ri + rj))), (16, .int (σ.2.1 23 (12 * ri + rj))), (15, .int (nI (0))), (14, .int (nI (bz (decide (¬ σ.1 26 (12 * ri + rj) = 0))))), (13, .int (nI (rj))), (12, .int (nI (ri))), (11, .int (nI (dd))), (10, .int (nI (zz))), (9, .int (xv)), (8, .int (nI (t))), (7, .int (nI (T))), (6, .int (nI (1))), (5, .int (lk)), (4, .int (nI (σ.1 18 0))), (3, .int (nI (σ.1 7 0))), (2, .int (nI (σ.1 6 0))), (1, .ref (o)), (0, .ref (gXb g))] dL_law_1143 (by decide) rfl ?_
        refine x_iload F 4 dL_law_1145 rfl ?_
        refine x_if_ne F 1165 dL_law_1147 (by decide) (fun c1147_2 => ?_) (fun c1147_2 => ?_)
        · have c1147_2 := nI_bz1.mp c1147_2
          exact absurd q26 (of_decide_eq_true c1147_2)
        · have c1147_2 := nI_bz0.mp c1147_2
          refine x_iload F 0 dL_law_1150 rfl ?_
          refine x_bipush F ((-13)) dL_law_1152 (by decide) ?_
          refine x_icmp_ne F 1161 dL_law_1154 (by decide) (fun c1154 => ?_) (fun c1154 => ?_)
          · exact absurd rfl c1154
          · refine x_iconst F (nI 1) dL_law_1157 (by decide) ?_
            refine x_goto F 1247 dL_law_1158 (by decide) ?_
            refine x_istore F [(6, .int (nI (1))), (18, .int ((-13))), (17, .int (σ.2.1 28 (12 * ri + rj))), (16, .int (σ.2.1 23 (12 * ri + rj))), (15, .int (nI (0))), (14, .int (nI (bz (decide (¬ σ.1 26 (12 * ri + rj) = 0))))), (13, .int (nI (rj))), (12, .int (nI (ri))), (11, .int (nI (dd))), (10, .int (nI (zz))), (9, .int (xv)), (8, .int (nI (t))), (7, .int (nI (T))), (5, .int (lk)), (4, .int (nI (σ.1 18 0))), (3, .int (nI (σ.1 7 0))), (2, .int (nI (σ.1 6 0))), (1, .ref (o)), (0, .ref (gXb g))] dL_law_1247 (by decide) rfl ?_
            refine x_iload F 0 dL_law_1249 rfl ?_
            refine x_if_eq F 1269 dL_law_1251 (by decide) (fun c1251_2 => ?_) (fun c1251_2 => ?_)
            · have c1251_2 := (nI_z (by omega)).mp c1251_2
              omega
            · have c1251_2 := mt (nI_z (by omega)).mpr c1251_2
              refine x_aload_n F 17 dL_law_1254 rfl ?_
              refine x_iload F 7 dL_law_1255 rfl ?_
              refine x_iload F 6 dL_law_1257 rfl ?_
              refine x_callV F s_L_40 (hR.co ho) rfl rfl (q_isOffered F.nt ho hR hJ.1 (by omega) (by omega)) rfl dL_law_1259 (by decide) ⟨by omega, by omega⟩ (Nat.le_of_ble_eq_true rfl) x_noX (ki fun r_8 M2_8 hp_8 => ?_)
              obtain ⟨rfl, rfl⟩ := hp_8
              refine x_if_ne F 1269 dL_law_1262 (by decide) (fun c1262_2 => ?_) (fun c1262_2 => ?_)
              · have c1262_2 := nI_bz1.mp c1262_2
                exact (of_decide_eq_true c1262_2 q26).elim
              · have c1262_2 := nI_bz0.mp c1262_2
                refine x_iconst F (nI 1) dL_law_1265 (by decide) ?_
                refine x_goto F 1270 dL_law_1266 (by decide) ?_
                refine x_istore F [(6, .int (nI (1))), (18, .int ((-13))), (17, .int (σ.2.1 28 (12 * ri + rj))), (16, .int (σ.2.1 23 (12 * ri + rj))), (15, .int (nI (0))), (14, .int (nI (bz (decide (¬ σ.1 26 (12 * ri + rj) = 0))))), (13, .int (nI (rj))), (12, .int (nI (ri))), (11, .int (nI (dd))), (10, .int (nI (zz))), (9, .int (xv)), (8, .int (nI (t))), (7, .int (nI (T))), (5, .int (lk)), (4, .int (nI (σ.1 18 0))), (3, .int (nI (σ.1 7 0))), (2, .int (nI (σ.1 6 0))), (1, .ref (o)), (0, .ref (gXb g))] dL_law_1270 (by decide) rfl ?_
                refine x_goto F 1504 dL_law_1272 (by decide) ?_
                refine x_sub [11, 12, 0, 13, 14, 15, 16, 17, 18] rfl (L' := [(8, .int (nI (t))), (7, .int (nI (T))), (6, .int (nI (1))), (5, .int (lk)), (4, .int (nI (σ.1 18 0))), (3, .int (nI (σ.1 7 0))), (2, .int (nI (σ.1 6 0))), (1, .ref (o)), (0, .ref (gXb g))]) ?_
                refine x_widen (a' := a + 500) (b' := b + 5000) (by omega) (by omega) ?_
                exact kk A _ _ _ _ _ _ ho hR.self (IJ_s hJ) rfl rfl rfl
    · have c1131 := mt (nI_z (by omega)).mpr c1131
      omega
  · have c1092 := (nI_z (by omega)).mp c1092
    refine x_iconst F (nI 1) dL_law_1095 (by decide) ?_
    refine x_goto F 1100 dL_law_1096 (by decide) ?_
    refine x_istore F [(15, .int (nI (1))), (14, .int (nI (bz (decide (¬ σ.1 26 (12 * ri + rj) = 0))))), (13, .int (nI (rj))), (12, .int (nI (ri))), (11, .int (nI (dd))), (10, .int (nI (zz))), (9, .int (xv)), (8, .int (nI (t))), (7, .int (nI (T))), (6, .int (nI (1))), (5, .int (lk)), (4, .int (nI (σ.1 18 0))), (3, .int (nI (σ.1 7 0))), (2, .int (nI (σ.1 6 0))), (1, .ref (o)), (0, .ref (gXb g))] dL_law_1100 (by decide) rfl ?_
    refine x_aload_n F 14 dL_law_1102 rfl ?_
    refine x_iload F 3 dL_law_1103 rfl ?_
    refine x_iload F 2 dL_law_1105 rfl ?_
    refine x_callV F s_L_37 (hR.co ho) rfl rfl (q_drawn F.nt ho hR hJ.1 (by omega) (by omega)) rfl dL_law_1107 (by decide) ⟨by omega, by omega⟩ (Nat.le_of_ble_eq_true rfl) x_noX (ki fun r_9 M2_9 hp_9 => ?_)
    obtain ⟨rfl, rfl⟩ := hp_9
    refine x_istore F [(16, .int (σ.2.1 23 (12 * ri + rj))), (15, .int (nI (1))), (14, .int (nI (bz (decide (¬ σ.1 26 (12 * ri + rj) = 0))))), (13, .int (nI (rj))), (12, .int (nI (ri))), (11, .int (nI (dd))), (10, .int (nI (zz))), (9, .int (xv)), (8, .int (nI (t))), (7, .int (nI (T))), (6, .int (nI (1))), (5, .int (lk)), (4, .int (nI (σ.1 18 0))), (3, .int (nI (σ.1 7 0))), (2, .int (nI (σ.1 6 0))), (1, .ref (o)), (0, .ref (gXb g))] dL_law_1110 (by decide) rfl ?_
    refine x_aload_n F 15 dL_law_1112 rfl ?_
    refine x_iload F 4 dL_law_1113 rfl ?_
    refine x_iload F 3 dL_law_1115 rfl ?_
    refine x_callV F s_L_48 (hR.co ho) rfl rfl (q_score F.nt ho hR hJ.1 (by omega) (by omega)) rfl dL_law_1117 (by decide) ⟨by omega, by omega⟩ (Nat.le_of_ble_eq_true rfl) x_noX (ki fun r_10 M2_10 hp_10 => ?_)
    obtain ⟨rfl, rfl⟩ := hp_10
    refine x_istore F [(17, .int (σ.2.1 28 (12 * ri + rj))), (16, .int (σ.2.1 23 (12 * ri + rj))), (15, .int (nI (1))), (14, .int (nI (bz (decide (¬ σ.1 26 (12 * ri + rj) = 0))))), (13, .int (nI (rj))), (12, .int (nI (ri))), (11, .int (nI (dd))), (10, .int (nI (zz))), (9, .int (xv)), (8, .int (nI (t))), (7, .int (nI (T))), (6, .int (nI (1))), (5, .int (lk)), (4, .int (nI (σ.1 18 0))), (3, .int (nI (σ.1 7 0))), (2, .int (nI (σ.1 6 0))), (1, .ref (o)), (0, .ref (gXb g))] dL_law_1120 (by decide) rfl ?_
    refine x_aload_n F 16 dL_law_1122 rfl ?_
    refine x_bipush F (nI 10) dL_law_1123 (by decide) ?_
    refine x_iload F 5 dL_law_1125 rfl ?_
    refine x_iload F 4 dL_law_1127 rfl ?_
    refine x_iload F 2 dL_law_1129 rfl ?_
    refine x_if_eq F 1138 dL_law_1131 (by decide) (fun c1131_2 => ?_) (fun c1131_2 => ?_)
    · have c1131_2 := (nI_z (by omega)).mp c1131_2
      omega
    · have c1131_2 := mt (nI_z (by omega)).mpr c1131_2
      refine x_iconst F (nI 1) dL_law_1134 (by decide) ?_
      refine x_goto F 1139 dL_law_1135 (by decide) ?_
      refine x_iconst F (nI 0) dL_law_1139 (by decide) ?_
      refine x_callH F w_h_ask rfl (qa_answer F.nt ho hR hJ.1 (x0 := nI ri) (y0 := nI rj) (f := true)) rfl dL_law_1140 (by decide) ⟨by omega, by omega⟩ (Nat.le_of_ble_eq_true rfl) (ki fun r_11 M2_11 hp_11 => ?_)
      rcases hp_11 with ⟨hcd, rfl, A2, hA2, hC2⟩ | ⟨hcd, rfl, rfl⟩ | ⟨hcd, rfl, rfl⟩
      · have hJ2 := IJ_answer (f := true) hJ hc hcd
        have q26 : ¬ σ.1 26 (12 * ri + rj) = 0 := fun z => by rw [cdAn_k (by omega) (by omega) hri hrj, if_pos z] at hcd; cases hcd
        rw [cl_nI (n := ri) (by omega), cl_nI (n := rj) (by omega)] at hC2 hJ2
        obtain ⟨w1, w2, w3, w4⟩ := ans_f (σ := σ) (r := ri) (j := rj) (f := true)
        have w5 := ans_ne hJ hri (by omega) q26
        refine x_ri0 (y := (ansU σ ri rj true).2.1 23 (12 * ri + rj)) (by rw [if_pos rfl, cl_nI (n := ri) (by omega), cl_nI (n := rj) (by omega)]) ?_
        obtain ⟨σ2, hs2⟩ : ∃ z, z = ansU σ ri rj true := ⟨_, rfl⟩
        rw [← hs2] at hC2 hJ2 w1 w2 w3 w4 w5 ⊢
        have w18 := w1 18 0 (by decide)
        have w7 := w1 7 0 (by decide)
        refine x_istore F [(18, .int (σ2.2.1 23 (12 * ri + rj))), (17, .int (σ.2.1 28 (12 * ri + rj))), (16, .int (σ.2.1 23 (12 * ri + rj))), (15, .int (nI (1))), (14, .int (nI (bz (decide (¬ σ.1 26 (12 * ri + rj) = 0))))), (13, .int (nI (rj))), (12, .int (nI (ri))), (11, .int (nI (dd))), (10, .int (nI (zz))), (9, .int (xv)), (8, .int (nI (t))), (7, .int (nI (T))), (6, .int (nI (1))), (5, .int (lk)), (4, .int (nI (σ.1 18 0))), (3, .int (nI (σ.1 7 0))), (2, .int (nI (σ.1 6 0))), (1, .ref (o)), (0, .ref (gXb g))] dL_law_1143 (by decide) rfl ?_
        refine x_iload F 4 dL_law_1145 rfl ?_
        refine x_if_ne F 1165 dL_law_1147 (by decide) (fun c1147_3 => ?_) (fun c1147_3 => ?_)
        · have c1147_3 := nI_bz1.mp c1147_3
          refine x_iload F 3 dL_law_1165 rfl ?_
          refine x_if_eq F 1210 dL_law_1167 (by decide) (fun c1167_2 => ?_) (fun c1167_2 => ?_)
          · have c1167_2 := (nI_z (by omega)).mp c1167_2
            omega
          · have c1167_2 := mt (nI_z (by omega)).mpr c1167_2
            refine x_iload F 0 dL_law_1170 rfl ?_
            refine x_iload F 2 dL_law_1172 rfl ?_
            refine x_icmp_eq F 1206 dL_law_1174 (by decide) (fun c1174 => ?_) (fun c1174 => ?_)
            · exact absurd c1174 w5
            · refine x_iload F 0 dL_law_1177 rfl ?_
              refine x_aload_n F 17 dL_law_1179 rfl ?_
              refine x_iload F 6 dL_law_1180 rfl ?_
              refine x_iload F 5 dL_law_1182 rfl ?_
              refine x_callV F s_L_37 (hC2.co (hA2.trans ho)) rfl rfl (q_drawn F.nt (hA2.trans ho) hC2 hJ2.1 (by omega) (by omega)) rfl dL_law_1184 (by decide) ⟨by omega, by omega⟩ (Nat.le_of_ble_eq_true rfl) x_noX (ki fun r_12 M2_12 hp_12 => ?_)
              obtain ⟨rfl, rfl⟩ := hp_12
              refine x_icmp_ne F 1206 dL_law_1187 (by decide) (fun c1187 => ?_) (fun c1187 => ?_)
              · exact absurd rfl c1187
              · refine x_aload_n F 17 dL_law_1190 rfl ?_
                refine x_iload F 6 dL_law_1191 rfl ?_
                refine x_iload F 5 dL_law_1193 rfl ?_
                refine x_callV F s_L_48 (hC2.co (hA2.trans ho)) rfl rfl (q_score F.nt (hA2.trans ho) hC2 hJ2.1 (by omega) (by omega)) rfl dL_law_1195 (by decide) ⟨by omega, by omega⟩ (Nat.le_of_ble_eq_true rfl) x_noX (ki fun r_13 M2_13 hp_13 => ?_)
                obtain ⟨rfl, rfl⟩ := hp_13
                refine x_iconst F ((-1)) dL_law_1198 (by decide) ?_
                refine x_icmp_ne F 1206 dL_law_1199 (by decide) (fun c1199 => ?_) (fun c1199 => ?_)
                · exact absurd (w3 rfl) c1199
                · refine x_iconst F (nI 1) dL_law_1202 (by decide) ?_
                  refine x_goto F 1247 dL_law_1203 (by decide) ?_
                  refine x_istore F [(6, .int (nI (1))), (18, .int (σ2.2.1 23 (12 * ri + rj))), (17, .int (σ.2.1 28 (12 * ri + rj))), (16, .int (σ.2.1 23 (12 * ri + rj))), (15, .int (nI (1))), (14, .int (nI (bz (decide (¬ σ.1 26 (12 * ri + rj) = 0))))), (13, .int (nI (rj))), (12, .int (nI (ri))), (11, .int (nI (dd))), (10, .int (nI (zz))), (9, .int (xv)), (8, .int (nI (t))), (7, .int (nI (T))), (5, .int (lk)), (4, .int (nI (σ.1 18 0))), (3, .int (nI (σ.1 7 0))), (2, .int (nI (σ.1 6 0))), (1, .ref (o)), (0, .ref (gXb g))] dL_law_1247 (by decide) rfl ?_
                  refine x_iload F 0 dL_law_1249 rfl ?_
                  refine x_if_eq F 1269 dL_law_1251 (by decide) (fun c1251_3 => ?_) (fun c1251_3 => ?_)
                  · have c1251_3 := (nI_z (by omega)).mp c1251_3
                    omega
                  · have c1251_3 := mt (nI_z (by omega)).mpr c1251_3
                    refine x_aload_n F 17 dL_law_1254 rfl ?_
                    refine x_iload F 7 dL_law_1255 rfl ?_
                    refine x_iload F 6 dL_law_1257 rfl ?_
                    refine x_callV F s_L_40 (hC2.co (hA2.trans ho)) rfl rfl (q_isOffered F.nt (hA2.trans ho) hC2 hJ2.1 (by omega) (by omega)) rfl dL_law_1259 (by decide) ⟨by omega, by omega⟩ (Nat.le_of_ble_eq_true rfl) x_noX (ki fun r_14 M2_14 hp_14 => ?_)
                    obtain ⟨rfl, rfl⟩ := hp_14
                    refine x_if_ne F 1269 dL_law_1262 (by decide) (fun c1262_3 => ?_) (fun c1262_3 => ?_)
                    · have c1262_3 := nI_bz1.mp c1262_3
                      exact (of_decide_eq_true c1262_3 w2).elim
                    · have c1262_3 := nI_bz0.mp c1262_3
                      refine x_iconst F (nI 1) dL_law_1265 (by decide) ?_
                      refine x_goto F 1270 dL_law_1266 (by decide) ?_
                      refine x_istore F [(6, .int (nI (1))), (18, .int (σ2.2.1 23 (12 * ri + rj))), (17, .int (σ.2.1 28 (12 * ri + rj))), (16, .int (σ.2.1 23 (12 * ri + rj))), (15, .int (nI (1))), (14, .int (nI (bz (decide (¬ σ.1 26 (12 * ri + rj) = 0))))), (13, .int (nI (rj))), (12, .int (nI (ri))), (11, .int (nI (dd))), (10, .int (nI (zz))), (9, .int (xv)), (8, .int (nI (t))), (7, .int (nI (T))), (5, .int (lk)), (4, .int (nI (σ.1 18 0))), (3, .int (nI (σ.1 7 0))), (2, .int (nI (σ.1 6 0))), (1, .ref (o)), (0, .ref (gXb g))] dL_law_1270 (by decide) rfl ?_
                      refine x_goto F 1504 dL_law_1272 (by decide) ?_
                      refine x_sub [11, 12, 0, 13, 14, 15, 16, 17, 18] rfl (L' := [(8, .int (nI (t))), (7, .int (nI (T))), (6, .int (nI (1))), (5, .int (lk)), (4, .int (nI (σ.1 18 0))), (3, .int (nI (σ.1 7 0))), (2, .int (nI (σ.1 6 0))), (1, .ref (o)), (0, .ref (gXb g))]) ?_
                      refine x_widen (a' := a + 500) (b' := b + 5000) (by omega) (by omega) ?_
                      exact kk A2 _ _ _ _ _ _ (hA2.trans ho) hC2 hJ2 (w1 6 0 (by decide)).symm w7.symm w18.symm
        · have c1147_3 := nI_bz0.mp c1147_3
          exact (of_decide_eq_false c1147_3 q26).elim
      · rw [cdAn_k (by omega) (by omega) hri hrj] at hcd; split at hcd <;> omega
      · have q26 : σ.1 26 (12 * ri + rj) = 0 := Classical.byContradiction (fun z => by rw [cdAn_k (by omega) (by omega) hri hrj, if_neg z] at hcd; cases hcd)
        refine x_istore F [(18, .int ((-13))), (17, .int (σ.2.1 28 (12 * ri + rj))), (16, .int (σ.2.1 23 (12 * ri + rj))), (15, .int (nI (1))), (14, .int (nI (bz (decide (¬ σ.1 26 (12 * ri + rj) = 0))))), (13, .int (nI (rj))), (12, .int (nI (ri))), (11, .int (nI (dd))), (10, .int (nI (zz))), (9, .int (xv)), (8, .int (nI (t))), (7, .int (nI (T))), (6, .int (nI (1))), (5, .int (lk)), (4, .int (nI (σ.1 18 0))), (3, .int (nI (σ.1 7 0))), (2, .int (nI (σ.1 6 0))), (1, .ref (o)), (0, .ref (gXb g))] dL_law_1143 (by decide) rfl ?_
        refine x_iload F 4 dL_law_1145 rfl ?_
        refine x_if_ne F 1165 dL_law_1147 (by decide) (fun c1147_4 => ?_) (fun c1147_4 => ?_)
        · have c1147_4 := nI_bz1.mp c1147_4
          exact absurd q26 (of_decide_eq_true c1147_4)
        · have c1147_4 := nI_bz0.mp c1147_4
          refine x_iload F 0 dL_law_1150 rfl ?_
          refine x_bipush F ((-13)) dL_law_1152 (by decide) ?_
          refine x_icmp_ne F 1161 dL_law_1154 (by decide) (fun c1154_2 => ?_) (fun c1154_2 => ?_)
          · exact absurd rfl c1154_2
          · refine x_iconst F (nI 1) dL_law_1157 (by decide) ?_
            refine x_goto F 1247 dL_law_1158 (by decide) ?_
            refine x_istore F [(6, .int (nI (1))), (18, .int ((-13))), (17, .int (σ.2.1 28 (12 * ri + rj))), (16, .int (σ.2.1 23 (12 * ri + rj))), (15, .int (nI (1))), (14, .int (nI (bz (decide (¬ σ.1 26 (12 * ri + rj) = 0))))), (13, .int (nI (rj))), (12, .int (nI (ri))), (11, .int (nI (dd))), (10, .int (nI (zz))), (9, .int (xv)), (8, .int (nI (t))), (7, .int (nI (T))), (5, .int (lk)), (4, .int (nI (σ.1 18 0))), (3, .int (nI (σ.1 7 0))), (2, .int (nI (σ.1 6 0))), (1, .ref (o)), (0, .ref (gXb g))] dL_law_1247 (by decide) rfl ?_
            refine x_iload F 0 dL_law_1249 rfl ?_
            refine x_if_eq F 1269 dL_law_1251 (by decide) (fun c1251_4 => ?_) (fun c1251_4 => ?_)
            · have c1251_4 := (nI_z (by omega)).mp c1251_4
              omega
            · have c1251_4 := mt (nI_z (by omega)).mpr c1251_4
              refine x_aload_n F 17 dL_law_1254 rfl ?_
              refine x_iload F 7 dL_law_1255 rfl ?_
              refine x_iload F 6 dL_law_1257 rfl ?_
              refine x_callV F s_L_40 (hR.co ho) rfl rfl (q_isOffered F.nt ho hR hJ.1 (by omega) (by omega)) rfl dL_law_1259 (by decide) ⟨by omega, by omega⟩ (Nat.le_of_ble_eq_true rfl) x_noX (ki fun r_15 M2_15 hp_15 => ?_)
              obtain ⟨rfl, rfl⟩ := hp_15
              refine x_if_ne F 1269 dL_law_1262 (by decide) (fun c1262_4 => ?_) (fun c1262_4 => ?_)
              · have c1262_4 := nI_bz1.mp c1262_4
                exact (of_decide_eq_true c1262_4 q26).elim
              · have c1262_4 := nI_bz0.mp c1262_4
                refine x_iconst F (nI 1) dL_law_1265 (by decide) ?_
                refine x_goto F 1270 dL_law_1266 (by decide) ?_
                refine x_istore F [(6, .int (nI (1))), (18, .int ((-13))), (17, .int (σ.2.1 28 (12 * ri + rj))), (16, .int (σ.2.1 23 (12 * ri + rj))), (15, .int (nI (1))), (14, .int (nI (bz (decide (¬ σ.1 26 (12 * ri + rj) = 0))))), (13, .int (nI (rj))), (12, .int (nI (ri))), (11, .int (nI (dd))), (10, .int (nI (zz))), (9, .int (xv)), (8, .int (nI (t))), (7, .int (nI (T))), (5, .int (lk)), (4, .int (nI (σ.1 18 0))), (3, .int (nI (σ.1 7 0))), (2, .int (nI (σ.1 6 0))), (1, .ref (o)), (0, .ref (gXb g))] dL_law_1270 (by decide) rfl ?_
                refine x_goto F 1504 dL_law_1272 (by decide) ?_
                refine x_sub [11, 12, 0, 13, 14, 15, 16, 17, 18] rfl (L' := [(8, .int (nI (t))), (7, .int (nI (T))), (6, .int (nI (1))), (5, .int (lk)), (4, .int (nI (σ.1 18 0))), (3, .int (nI (σ.1 7 0))), (2, .int (nI (σ.1 6 0))), (1, .ref (o)), (0, .ref (gXb g))]) ?_
                refine x_widen (a' := a + 500) (b' := b + 5000) (by omega) (by omega) ?_
                exact kk A _ _ _ _ _ _ ho hR.self (IJ_s hJ) rfl rfl rfl
set_option maxHeartbeats 4000000 in
set_option maxRecDepth 100000 in
theorem blk_pay {K : KX} {g : GP} {Q : State → Prop} {M M0 : MM} {A : Nat → Nat} {σ : ST} {a b c o zz T t dd ri rj : Nat} {xv lk : Int32} {hh9 : List (Nat × Nat × Nat × Nat)} (F : Fx K g cL_law RL 19 (some .boolean) hh9 14 566 600064 7301640) (ha : a + 500 ≤ 600064) (hb : b + 5000 ≤ 7301640) (ho : A 0 = o) (hR : CM g A M0 σ M) (hJ : IJ c σ) (hc : c < 512) (hz : zz < 2 ^ 27) (hri : ri < σ.1 18 0) (kk : ∀ A3 σ3 M3 nb nr nd lk3, A3 0 = o → CM g A3 M3 σ3 M3 → IJ (c + 1) σ3 → nb = σ3.1 6 0 → nr = σ3.1 7 0 → nd = σ3.1 18 0 → XW K g 19 Q M3 (a + 500) (b + 5000) 1504 [(8, .int (nI t)), (7, .int (nI T)), (6, .int (nI 1)), (5, .int lk3), (4, .int (nI nd)), (3, .int (nI nr)), (2, .int (nI nb)), (1, .ref o), (0, .ref (gXb g))] []) : XW K g 19 Q M a b 1282 [(13, .int (nI (rj))), (12, .int (nI (ri))), (11, .int (nI (dd))), (10, .int (nI (zz))), (9, .int (xv)), (8, .int (nI (t))), (7, .int (nI (T))), (6, .int (nI (1))), (5, .int (lk)), (4, .int (nI (σ.1 18 0))), (3, .int (nI (σ.1 7 0))), (2, .int (nI (σ.1 6 0))), (1, .ref (o)), (0, .ref (gXb g))] [] := by
  have h6 := hJ.1.B.1
  have h7 := hJ.1.B.2.1
  have h18 := hJ.1.B.2.2.1
  have t3 := (hJ.1.B.2.2.2.1 ri (by omega)).2.2.2.2.2.2.1
  refine x_aload_n F 12 dL_law_1282 rfl ?_
  refine x_iload F 1 dL_law_1283 rfl ?_
  refine x_iconst F (nI 0) dL_law_1285 (by decide) ?_
  refine x_callV F s_L_17 (hR.co ho) rfl rfl (q_ro0 F.nt ho hR hJ.1 (by omega)) rfl dL_law_1286 (by decide) ⟨by omega, by omega⟩ (Nat.le_of_ble_eq_true rfl) x_noX (ki fun r M2 hp => ?_)
  obtain ⟨rfl, rfl⟩ := hp
  refine x_istore F [(14, .int (nI (σ.1 15 ri))), (13, .int (nI (rj))), (12, .int (nI (ri))), (11, .int (nI (dd))), (10, .int (nI (zz))), (9, .int (xv)), (8, .int (nI (t))), (7, .int (nI (T))), (6, .int (nI (1))), (5, .int (lk)), (4, .int (nI (σ.1 18 0))), (3, .int (nI (σ.1 7 0))), (2, .int (nI (σ.1 6 0))), (1, .ref (o)), (0, .ref (gXb g))] dL_law_1289 (by decide) rfl ?_
  refine x_aload_n F 13 dL_law_1291 rfl ?_
  refine x_bipush F (nI 13) dL_law_1292 (by decide) ?_
  refine x_iload F 2 dL_law_1294 rfl ?_
  refine x_iconst F (nI 0) dL_law_1296 (by decide) ?_
  refine x_iconst F (nI 0) dL_law_1297 (by decide) ?_
  refine x_iconst F (nI 0) dL_law_1298 (by decide) ?_
  refine x_callH F w_h_ask rfl (qa_pay F.nt ho hR hJ.1 (x0 := nI ri)) rfl dL_law_1299 (by decide) ⟨by omega, by omega⟩ (Nat.le_of_ble_eq_true rfl) (ki fun r_2 M2_2 hp_2 => ?_)
  rcases hp_2 with ⟨hcd, rfl, A2, hA2, hC2⟩ | ⟨hcd, rfl, rfl⟩ | ⟨hcd, rfl, rfl⟩
  · have hJ2 := IJ_pay hJ hc hcd
    obtain ⟨q15, -⟩ := cdPa_2 (by omega) hcd (cl_nI (n := ri) (by omega))
    refine x_ri0 (y := nI (couN σ (cl (nI ri)))) (RQ_pay hJ.1 hcd) ?_
    rw [cl_nI (n := ri) (by omega)] at hC2 hJ2 ⊢
    obtain ⟨w1, w2⟩ := py_f (σ := σ) (r := ri)
    have g0 : plIn (pyU σ ri) ri = plIn σ ri := plIn_cg (fun j _ => py_22)
    have g1 := cou_pl hJ hri
    have g2 : plIn σ ri ≤ 12 := fb_ct_le _ _
    have g3 := py_29 hJ hri q15
    obtain ⟨σ2, hs2⟩ : ∃ z, z = pyU σ ri := ⟨_, rfl⟩
    rw [← hs2] at hC2 hJ2 w1 w2 g0 g3
    have w18 := w1 18 0 (by decide)
    have w7 := w1 7 0 (by decide)
    have g4 : couN σ ri = 0 → σ2.2.1 16 ri = nI (potS σ2 ri) := fun z => by
      have h9 := pay_sum hJ2 (r := ri) (by omega)
      rw [if_pos w2, ← mo_cut hJ2 (by omega), sm_0 (fun j hj => g3 z j hj), show nI 0 = 0 from rfl, Int32.add_zero] at h9
      exact h9
    refine x_istore F [(15, .int (nI (couN σ ri))), (14, .int (nI (σ.1 15 ri))), (13, .int (nI (rj))), (12, .int (nI (ri))), (11, .int (nI (dd))), (10, .int (nI (zz))), (9, .int (xv)), (8, .int (nI (t))), (7, .int (nI (T))), (6, .int (nI (1))), (5, .int (lk)), (4, .int (nI (σ.1 18 0))), (3, .int (nI (σ.1 7 0))), (2, .int (nI (σ.1 6 0))), (1, .ref (o)), (0, .ref (gXb g))] dL_law_1302 (by decide) rfl ?_
    refine x_iload F 0 dL_law_1304 rfl ?_
    refine x_bipush F ((-13)) dL_law_1306 (by decide) ?_
    refine x_icmp_ne F 1331 dL_law_1308 (by decide) (fun c1308 => ?_) (fun c1308 => ?_)
    · refine x_iload F 1 dL_law_1331 rfl ?_
      refine x_iconst F (nI 2) dL_law_1333 (by decide) ?_
      refine x_icmp_ne F 1391 dL_law_1334 (by decide) (fun c1334 => ?_) (fun c1334 => ?_)
      · have c1334 := mt (nI_eq (by omega) (by omega)).mpr c1334
        omega
      · have c1334 := (nI_eq (by omega) (by omega)).mp c1334
        refine x_aload_n F 14 dL_law_1337 rfl ?_
        refine x_iload F 3 dL_law_1338 rfl ?_
        refine x_iconst F (nI 0) dL_law_1340 (by decide) ?_
        refine x_callV F s_L_17 (hC2.co (hA2.trans ho)) rfl rfl (q_ro0 F.nt (hA2.trans ho) hC2 hJ2.1 (by omega)) rfl dL_law_1341 (by decide) ⟨by omega, by omega⟩ (Nat.le_of_ble_eq_true rfl) x_noX (ki fun r_3 M2_3 hp_3 => ?_)
        obtain ⟨rfl, rfl⟩ := hp_3
        refine x_iconst F (nI 3) dL_law_1344 (by decide) ?_
        refine x_icmp_ne F 1391 dL_law_1345 (by decide) (fun c1345 => ?_) (fun c1345 => ?_)
        · have c1345 := mt (nI_eq (by omega) (by omega)).mpr c1345
          omega
        · have c1345 := (nI_eq (by omega) (by omega)).mp c1345
          refine x_iload F 0 dL_law_1348 rfl ?_
          refine x_if_lt F 1391 dL_law_1350 (by decide) (fun c1350 => ?_) (fun c1350 => ?_)
          · exact absurd c1350 (nI_nn (by omega))
          · refine x_iload F 0 dL_law_1353 rfl ?_
            refine x_aload_n F 14 dL_law_1355 rfl ?_
            refine x_iload F 3 dL_law_1356 rfl ?_
            refine x_iconst F (nI 2) dL_law_1358 (by decide) ?_
            refine x_callV F s_L_17 (hC2.co (hA2.trans ho)) rfl rfl (q_ro2 F.nt (hA2.trans ho) hC2 hJ2.1 (by omega)) rfl dL_law_1359 (by decide) ⟨by omega, by omega⟩ (Nat.le_of_ble_eq_true rfl) x_noX (ki fun r_4 M2_4 hp_4 => ?_)
            obtain ⟨rfl, rfl⟩ := hp_4
            refine x_icmp_gt F 1391 dL_law_1362 (by decide) (fun c1362 => ?_) (fun c1362 => ?_)
            · have c1362 := (nI_ltI (by omega) (by omega)).mp c1362
              have c1362b := Nat.not_le.mpr c1362
              omega
            · have c1362 := mt (nI_ltI (by omega) (by omega)).mpr c1362
              have c1362b := Nat.not_lt.mp c1362
              refine x_iload F 0 dL_law_1365 rfl ?_
              refine x_if_gt F 1387 dL_law_1367 (by decide) (fun c1367 => ?_) (fun c1367 => ?_)
              · have c1367 := mt (nI_le0 (by omega)).mpr (Int32.not_le.mpr c1367)
                have c1367b := Nat.pos_of_ne_zero c1367
                refine x_iconst F (nI 1) dL_law_1387 (by decide) ?_
                refine x_goto F 1392 dL_law_1388 (by decide) ?_
                refine x_istore F [(6, .int (nI (1))), (15, .int (nI (couN σ ri))), (14, .int (nI (σ.1 15 ri))), (13, .int (nI (rj))), (12, .int (nI (ri))), (11, .int (nI (dd))), (10, .int (nI (zz))), (9, .int (xv)), (8, .int (nI (t))), (7, .int (nI (T))), (5, .int (lk)), (4, .int (nI (σ.1 18 0))), (3, .int (nI (σ.1 7 0))), (2, .int (nI (σ.1 6 0))), (1, .ref (o)), (0, .ref (gXb g))] dL_law_1392 (by decide) rfl ?_
                refine x_goto F 1504 dL_law_1394 (by decide) ?_
                refine x_sub [8, 9, 0, 10, 11, 12, 13, 14, 15] rfl (L' := [(8, .int (nI (t))), (7, .int (nI (T))), (6, .int (nI (1))), (5, .int (lk)), (4, .int (nI (σ.1 18 0))), (3, .int (nI (σ.1 7 0))), (2, .int (nI (σ.1 6 0))), (1, .ref (o)), (0, .ref (gXb g))]) ?_
                refine x_widen (a' := a + 500) (b' := b + 5000) (by omega) (by omega) ?_
                exact kk A2 _ _ _ _ _ _ (hA2.trans ho) hC2 hJ2 (w1 6 0 (by decide)).symm w7.symm w18.symm
              · have c1367 := (nI_le0 (by omega)).mp (Int32.not_lt.mp c1367)
                have c1367b := Nat.not_lt.mpr (Nat.le_zero.mpr c1367)
                refine x_aload_n F 14 dL_law_1370 rfl ?_
                refine x_iload F 3 dL_law_1371 rfl ?_
                refine x_iconst F (nI 4) dL_law_1373 (by decide) ?_
                refine x_callV F s_L_17 (hC2.co (hA2.trans ho)) rfl rfl (q_ro4 F.nt (hA2.trans ho) hC2 hJ2.1 (by omega)) rfl dL_law_1374 (by decide) ⟨by omega, by omega⟩ (Nat.le_of_ble_eq_true rfl) x_noX (ki fun r_5 M2_5 hp_5 => ?_)
                obtain ⟨rfl, rfl⟩ := hp_5
                refine x_aload_n F 14 dL_law_1377 rfl ?_
                refine x_iload F 3 dL_law_1378 rfl ?_
                refine x_iconst F (nI 3) dL_law_1380 (by decide) ?_
                refine x_callV F s_L_17 (hC2.co (hA2.trans ho)) rfl rfl (q_ro3 F.nt (hA2.trans ho) hC2 hJ2.1 (by omega)) rfl dL_law_1381 (by decide) ⟨by omega, by omega⟩ (Nat.le_of_ble_eq_true rfl) x_noX (ki fun r_6 M2_6 hp_6 => ?_)
                obtain ⟨rfl, rfl⟩ := hp_6
                refine x_icmp_ne F 1391 dL_law_1384 (by decide) (fun c1384 => ?_) (fun c1384 => ?_)
                · exact absurd (g4 (by omega)) c1384
                · refine x_iconst F (nI 1) dL_law_1387 (by decide) ?_
                  refine x_goto F 1392 dL_law_1388 (by decide) ?_
                  refine x_istore F [(6, .int (nI (1))), (15, .int (nI (couN σ ri))), (14, .int (nI (σ.1 15 ri))), (13, .int (nI (rj))), (12, .int (nI (ri))), (11, .int (nI (dd))), (10, .int (nI (zz))), (9, .int (xv)), (8, .int (nI (t))), (7, .int (nI (T))), (5, .int (lk)), (4, .int (nI (σ.1 18 0))), (3, .int (nI (σ.1 7 0))), (2, .int (nI (σ.1 6 0))), (1, .ref (o)), (0, .ref (gXb g))] dL_law_1392 (by decide) rfl ?_
                  refine x_goto F 1504 dL_law_1394 (by decide) ?_
                  refine x_sub [8, 9, 0, 10, 11, 12, 13, 14, 15] rfl (L' := [(8, .int (nI (t))), (7, .int (nI (T))), (6, .int (nI (1))), (5, .int (lk)), (4, .int (nI (σ.1 18 0))), (3, .int (nI (σ.1 7 0))), (2, .int (nI (σ.1 6 0))), (1, .ref (o)), (0, .ref (gXb g))]) ?_
                  refine x_widen (a' := a + 500) (b' := b + 5000) (by omega) (by omega) ?_
                  exact kk A2 _ _ _ _ _ _ (hA2.trans ho) hC2 hJ2 (w1 6 0 (by decide)).symm w7.symm w18.symm
    · exact nI_neg (by omega) (by decide) c1308
  · exact absurd hcd (cdPa_k (by omega) hri)
  · refine x_istore F [(15, .int ((-13))), (14, .int (nI (σ.1 15 ri))), (13, .int (nI (rj))), (12, .int (nI (ri))), (11, .int (nI (dd))), (10, .int (nI (zz))), (9, .int (xv)), (8, .int (nI (t))), (7, .int (nI (T))), (6, .int (nI (1))), (5, .int (lk)), (4, .int (nI (σ.1 18 0))), (3, .int (nI (σ.1 7 0))), (2, .int (nI (σ.1 6 0))), (1, .ref (o)), (0, .ref (gXb g))] dL_law_1302 (by decide) rfl ?_
    refine x_iload F 0 dL_law_1304 rfl ?_
    refine x_bipush F ((-13)) dL_law_1306 (by decide) ?_
    refine x_icmp_ne F 1331 dL_law_1308 (by decide) (fun c1308_2 => ?_) (fun c1308_2 => ?_)
    · exact absurd rfl c1308_2
    · refine x_aload_n F 14 dL_law_1311 rfl ?_
      refine x_iload F 3 dL_law_1312 rfl ?_
      refine x_iconst F (nI 0) dL_law_1314 (by decide) ?_
      refine x_callV F s_L_17 (hR.co ho) rfl rfl (q_ro0 F.nt ho hR hJ.1 (by omega)) rfl dL_law_1315 (by decide) ⟨by omega, by omega⟩ (Nat.le_of_ble_eq_true rfl) x_noX (ki fun r_7 M2_7 hp_7 => ?_)
      obtain ⟨rfl, rfl⟩ := hp_7
      refine x_iload F 1 dL_law_1318 rfl ?_
      refine x_icmp_ne F 1327 dL_law_1320 (by decide) (fun c1320 => ?_) (fun c1320 => ?_)
      · have c1320 := mt (nI_eq (by omega) (by omega)).mpr c1320
        omega
      · have c1320 := (nI_eq (by omega) (by omega)).mp c1320
        refine x_iconst F (nI 1) dL_law_1323 (by decide) ?_
        refine x_goto F 1392 dL_law_1324 (by decide) ?_
        refine x_istore F [(6, .int (nI (1))), (15, .int ((-13))), (14, .int (nI (σ.1 15 ri))), (13, .int (nI (rj))), (12, .int (nI (ri))), (11, .int (nI (dd))), (10, .int (nI (zz))), (9, .int (xv)), (8, .int (nI (t))), (7, .int (nI (T))), (5, .int (lk)), (4, .int (nI (σ.1 18 0))), (3, .int (nI (σ.1 7 0))), (2, .int (nI (σ.1 6 0))), (1, .ref (o)), (0, .ref (gXb g))] dL_law_1392 (by decide) rfl ?_
        refine x_goto F 1504 dL_law_1394 (by decide) ?_
        refine x_sub [8, 9, 0, 10, 11, 12, 13, 14, 15] rfl (L' := [(8, .int (nI (t))), (7, .int (nI (T))), (6, .int (nI (1))), (5, .int (lk)), (4, .int (nI (σ.1 18 0))), (3, .int (nI (σ.1 7 0))), (2, .int (nI (σ.1 6 0))), (1, .ref (o)), (0, .ref (gXb g))]) ?_
        refine x_widen (a' := a + 500) (b' := b + 5000) (by omega) (by omega) ?_
        exact kk A _ _ _ _ _ _ ho hR.self (IJ_s hJ) rfl rfl rfl
set_option maxHeartbeats 4000000 in
set_option maxRecDepth 100000 in
theorem blk_hide {K : KX} {g : GP} {Q : State → Prop} {M M0 : MM} {A : Nat → Nat} {σ : ST} {a b c o zz T t dd ri rj : Nat} {xv lk : Int32} {hh9 : List (Nat × Nat × Nat × Nat)} (F : Fx K g cL_law RL 19 (some .boolean) hh9 14 566 600064 7301640) (ha : a + 500 ≤ 600064) (hb : b + 5000 ≤ 7301640) (ho : A 0 = o) (hR : CM g A M0 σ M) (hJ : IJ c σ) (hc : c < 512) (hz : zz < 2 ^ 27)  (kk : ∀ A3 σ3 M3 nb nr nd lk3, A3 0 = o → CM g A3 M3 σ3 M3 → IJ (c + 1) σ3 → nb = σ3.1 6 0 → nr = σ3.1 7 0 → nd = σ3.1 18 0 → XW K g 19 Q M3 (a + 500) (b + 5000) 1504 [(8, .int (nI t)), (7, .int (nI T)), (6, .int (nI 1)), (5, .int lk3), (4, .int (nI nd)), (3, .int (nI nr)), (2, .int (nI nb)), (1, .ref o), (0, .ref (gXb g))] []) : XW K g 19 Q M a b 1404 [(13, .int (nI (rj))), (12, .int (nI (ri))), (11, .int (nI (dd))), (10, .int (nI (zz))), (9, .int (xv)), (8, .int (nI (t))), (7, .int (nI (T))), (6, .int (nI (1))), (5, .int (lk)), (4, .int (nI (σ.1 18 0))), (3, .int (nI (σ.1 7 0))), (2, .int (nI (σ.1 6 0))), (1, .ref (o)), (0, .ref (gXb g))] [] := by
  have h6 := hJ.1.B.1
  have h7 := hJ.1.B.2.1
  have h18 := hJ.1.B.2.2.1
  refine x_aload_n F 12 dL_law_1404 rfl ?_
  refine x_bipush F (nI 17) dL_law_1405 (by decide) ?_
  refine x_iload F 3 dL_law_1407 rfl ?_
  refine x_iconst F (nI 2) dL_law_1409 (by decide) ?_
  refine x_ishr F dL_law_1410 ?_
  refine x_ri0 (y := nI (zz / 2 ^ 2)) (sh_nI (by omega) (by decide)) ?_
  refine x_ldc F (nI 65537) k_L_113 dL_law_1411 ?_
  refine x_iremN F dL_law_1413 (by omega) (by omega) (by omega) ?_
  refine x_iconst F (nI 0) dL_law_1414 (by decide) ?_
  refine x_iconst F (nI 0) dL_law_1415 (by decide) ?_
  refine x_iconst F (nI 0) dL_law_1416 (by decide) ?_
  refine x_callH F w_h_ask rfl (qa_hide F.nt ho hR hJ.1 (x0 := nI (zz / 2 ^ 2 % 65537))) rfl dL_law_1417 (by decide) ⟨by omega, by omega⟩ (Nat.le_of_ble_eq_true rfl) (ki fun r M2 hp => ?_)
  rcases hp with ⟨hcd, rfl, A2, hA2, hC2⟩ | ⟨hcd, rfl, rfl⟩
  · have hJ2 := IJ_hide hJ hc hcd
    refine x_if_ne F 1427 dL_law_1420 (by decide) (fun c1420 => ?_) (fun c1420 => ?_)
    · have c1420 := mt (nI_z (by omega)).mpr c1420
      omega
    · have c1420 := (nI_z (by omega)).mp c1420
      refine x_iconst F (nI 1) dL_law_1423 (by decide) ?_
      refine x_goto F 1428 dL_law_1424 (by decide) ?_
      refine x_istore F [(6, .int (nI (1))), (13, .int (nI (rj))), (12, .int (nI (ri))), (11, .int (nI (dd))), (10, .int (nI (zz))), (9, .int (xv)), (8, .int (nI (t))), (7, .int (nI (T))), (5, .int (lk)), (4, .int (nI (σ.1 18 0))), (3, .int (nI (σ.1 7 0))), (2, .int (nI (σ.1 6 0))), (1, .ref (o)), (0, .ref (gXb g))] dL_law_1428 (by decide) rfl ?_
      refine x_goto F 1504 dL_law_1430 (by decide) ?_
      refine x_sub [6, 7, 0, 8, 9, 10, 11, 12, 13] rfl (L' := [(8, .int (nI (t))), (7, .int (nI (T))), (6, .int (nI (1))), (5, .int (lk)), (4, .int (nI (σ.1 18 0))), (3, .int (nI (σ.1 7 0))), (2, .int (nI (σ.1 6 0))), (1, .ref (o)), (0, .ref (gXb g))]) ?_
      refine x_widen (a' := a + 500) (b' := b + 5000) (by omega) (by omega) ?_
      exact kk A2 _ _ _ _ _ _ (hA2.trans ho) hC2 hJ2 rfl rfl rfl
  · rw [cdHi_k (by omega)] at hcd; cases hcd
set_option maxHeartbeats 4000000 in
set_option maxRecDepth 100000 in
theorem blk_ranks {K : KX} {g : GP} {Q : State → Prop} {M M0 : MM} {A : Nat → Nat} {σ : ST} {a b c o zz T t dd ri rj : Nat} {xv lk : Int32} {hh9 : List (Nat × Nat × Nat × Nat)} (F : Fx K g cL_law RL 19 (some .boolean) hh9 14 566 600064 7301640) (ha : a + 500 ≤ 600064) (hb : b + 5000 ≤ 7301640) (ho : A 0 = o) (hR : CM g A M0 σ M) (hJ : IJ c σ) (hc : c < 512) (hz : zz < 2 ^ 27)  (kk : ∀ A3 σ3 M3 nb nr nd lk3, A3 0 = o → CM g A3 M3 σ3 M3 → IJ (c + 1) σ3 → nb = σ3.1 6 0 → nr = σ3.1 7 0 → nd = σ3.1 18 0 → XW K g 19 Q M3 (a + 500) (b + 5000) 1504 [(8, .int (nI t)), (7, .int (nI T)), (6, .int (nI 1)), (5, .int lk3), (4, .int (nI nd)), (3, .int (nI nr)), (2, .int (nI nb)), (1, .ref o), (0, .ref (gXb g))] []) : XW K g 19 Q M a b 1440 [(13, .int (nI (rj))), (12, .int (nI (ri))), (11, .int (nI (dd))), (10, .int (nI (zz))), (9, .int (xv)), (8, .int (nI (t))), (7, .int (nI (T))), (6, .int (nI (1))), (5, .int (lk)), (4, .int (nI (σ.1 18 0))), (3, .int (nI (σ.1 7 0))), (2, .int (nI (σ.1 6 0))), (1, .ref (o)), (0, .ref (gXb g))] [] := by
  have h6 := hJ.1.B.1
  have h7 := hJ.1.B.2.1
  have h18 := hJ.1.B.2.2.1
  refine x_iinc F 8 [(5, .int (lk + Int32.ofInt 3)), (13, .int (nI (rj))), (12, .int (nI (ri))), (11, .int (nI (dd))), (10, .int (nI (zz))), (9, .int (xv)), (8, .int (nI (t))), (7, .int (nI (T))), (6, .int (nI (1))), (4, .int (nI (σ.1 18 0))), (3, .int (nI (σ.1 7 0))), (2, .int (nI (σ.1 6 0))), (1, .ref (o)), (0, .ref (gXb g))] dL_law_1440 rfl (rfl) (by decide) rfl ?_
  refine x_iload F 0 dL_law_1443 rfl ?_
  refine x_bipush F (nI 30) dL_law_1445 (by decide) ?_
  refine x_icmp_gt F 1466 dL_law_1447 (by decide) (fun c1447 => ?_) (fun c1447 => ?_)
  · refine x_iconst F (nI 1) dL_law_1466 (by decide) ?_
    refine x_goto F 1471 dL_law_1467 (by decide) ?_
    refine x_istore F [(6, .int (nI (1))), (5, .int (lk + Int32.ofInt 3)), (13, .int (nI (rj))), (12, .int (nI (ri))), (11, .int (nI (dd))), (10, .int (nI (zz))), (9, .int (xv)), (8, .int (nI (t))), (7, .int (nI (T))), (4, .int (nI (σ.1 18 0))), (3, .int (nI (σ.1 7 0))), (2, .int (nI (σ.1 6 0))), (1, .ref (o)), (0, .ref (gXb g))] dL_law_1471 (by decide) rfl ?_
    refine x_goto F 1504 dL_law_1473 (by decide) ?_
    refine x_sub [7, 8, 0, 1, 9, 10, 11, 12, 13] rfl (L' := [(8, .int (nI (t))), (7, .int (nI (T))), (6, .int (nI (1))), (5, .int (lk + Int32.ofInt 3)), (4, .int (nI (σ.1 18 0))), (3, .int (nI (σ.1 7 0))), (2, .int (nI (σ.1 6 0))), (1, .ref (o)), (0, .ref (gXb g))]) ?_
    refine x_widen (a' := a + 500) (b' := b + 5000) (by omega) (by omega) ?_
    exact kk A _ _ _ _ _ _ ho hR.self (IJ_s hJ) rfl rfl rfl
  · refine x_aload_n F 12 dL_law_1450 rfl ?_
    refine x_iload_n F 10 dL_law_1451 rfl ?_
    refine x_iload_n F 11 dL_law_1452 rfl ?_
    refine x_callS F s_L_114 rfl (q_areRanks F.nt ho hR hJ) rfl dL_law_1453 (by decide) ⟨by omega, by omega⟩ (Nat.le_of_ble_eq_true rfl) x_noX (ki fun r M2 hp => ?_)
    obtain ⟨rfl, rfl⟩ := hp
    refine x_if_eq F 1470 dL_law_1456 (by decide) (fun c1456 => ?_) (fun c1456 => ?_)
    · have c1456 := (nI_z (by omega)).mp c1456
      omega
    · have c1456 := mt (nI_z (by omega)).mpr c1456
      refine x_aload_n F 12 dL_law_1459 rfl ?_
      refine x_callV F s_L_118 (hR.co ho) rfl rfl (q_balances F.nt ho hR hJ.1 (bal_t hJ)) rfl dL_law_1460 (by decide) ⟨by omega, by omega⟩ (Nat.le_of_ble_eq_true rfl) x_noX (ki fun r_2 M2_2 hp_2 => ?_)
      obtain ⟨rfl, rfl⟩ := hp_2
      refine x_if_eq F 1470 dL_law_1463 (by decide) (fun c1463 => ?_) (fun c1463 => ?_)
      · have c1463 := (nI_z (by omega)).mp c1463
        omega
      · have c1463 := mt (nI_z (by omega)).mpr c1463
        refine x_iconst F (nI 1) dL_law_1466 (by decide) ?_
        refine x_goto F 1471 dL_law_1467 (by decide) ?_
        refine x_istore F [(6, .int (nI (1))), (5, .int (lk + Int32.ofInt 3)), (13, .int (nI (rj))), (12, .int (nI (ri))), (11, .int (nI (dd))), (10, .int (nI (zz))), (9, .int (xv)), (8, .int (nI (t))), (7, .int (nI (T))), (4, .int (nI (σ.1 18 0))), (3, .int (nI (σ.1 7 0))), (2, .int (nI (σ.1 6 0))), (1, .ref (o)), (0, .ref (gXb g))] dL_law_1471 (by decide) rfl ?_
        refine x_goto F 1504 dL_law_1473 (by decide) ?_
        refine x_sub [7, 8, 0, 1, 9, 10, 11, 12, 13] rfl (L' := [(8, .int (nI (t))), (7, .int (nI (T))), (6, .int (nI (1))), (5, .int (lk + Int32.ofInt 3)), (4, .int (nI (σ.1 18 0))), (3, .int (nI (σ.1 7 0))), (2, .int (nI (σ.1 6 0))), (1, .ref (o)), (0, .ref (gXb g))]) ?_
        refine x_widen (a' := a + 500) (b' := b + 5000) (by omega) (by omega) ?_
        exact kk A _ _ _ _ _ _ ho hR.self (IJ_s hJ) rfl rfl rfl
set_option maxHeartbeats 4000000 in
set_option maxRecDepth 100000 in
theorem blk_place {K : KX} {g : GP} {Q : State → Prop} {M M0 : MM} {A : Nat → Nat} {σ : ST} {a b c o zz T t dd ri rj : Nat} {xv lk : Int32} {hh9 : List (Nat × Nat × Nat × Nat)} (F : Fx K g cL_law RL 19 (some .boolean) hh9 14 566 600064 7301640) (ha : a + 500 ≤ 600064) (hb : b + 5000 ≤ 7301640) (ho : A 0 = o) (hR : CM g A M0 σ M) (hJ : IJ c σ) (hc : c < 512) (hz : zz < 2 ^ 27) (hri : ri < σ.1 18 0) (hrj : rj < σ.1 7 0) (kk : ∀ A3 σ3 M3 nb nr nd lk3, A3 0 = o → CM g A3 M3 σ3 M3 → IJ (c + 1) σ3 → nb = σ3.1 6 0 → nr = σ3.1 7 0 → nd = σ3.1 18 0 → XW K g 19 Q M3 (a + 500) (b + 5000) 1504 [(8, .int (nI t)), (7, .int (nI T)), (6, .int (nI 1)), (5, .int lk3), (4, .int (nI nd)), (3, .int (nI nr)), (2, .int (nI nb)), (1, .ref o), (0, .ref (gXb g))] []) : XW K g 19 Q M a b 1476 [(13, .int (nI (rj))), (12, .int (nI (ri))), (11, .int (nI (dd))), (10, .int (nI (zz))), (9, .int (xv)), (8, .int (nI (t))), (7, .int (nI (T))), (6, .int (nI (1))), (5, .int (lk)), (4, .int (nI (σ.1 18 0))), (3, .int (nI (σ.1 7 0))), (2, .int (nI (σ.1 6 0))), (1, .ref (o)), (0, .ref (gXb g))] [] := by
  have h6 := hJ.1.B.1
  have h7 := hJ.1.B.2.1
  have h18 := hJ.1.B.2.2.1
  refine x_aload_n F 12 dL_law_1476 rfl ?_
  refine x_iload F 1 dL_law_1477 rfl ?_
  refine x_iload F 0 dL_law_1479 rfl ?_
  refine x_callS F s_L_122 rfl (q_isPlace F.nt ho hR hJ (hri) (hrj)) rfl dL_law_1481 (by decide) ⟨by omega, by omega⟩ (Nat.le_of_ble_eq_true rfl) x_noX (ki fun r M2 hp => ?_)
  obtain ⟨rfl, rfl⟩ := hp
  refine x_if_eq F 1501 dL_law_1484 (by decide) (fun c1484 => ?_) (fun c1484 => ?_)
  · have c1484 := (nI_z (by omega)).mp c1484
    omega
  · have c1484 := mt (nI_z (by omega)).mpr c1484
    refine x_aload_n F 12 dL_law_1487 rfl ?_
    refine x_iload F 1 dL_law_1488 rfl ?_
    refine x_iload_n F 10 dL_law_1490 rfl ?_
    refine x_callS F s_L_125 rfl (q_isRodeo F.nt ho hR hJ (hri)) rfl dL_law_1491 (by decide) ⟨by omega, by omega⟩ (Nat.le_of_ble_eq_true rfl) x_noX (ki fun r_2 M2_2 hp_2 => ?_)
    obtain ⟨rfl, rfl⟩ := hp_2
    refine x_if_eq F 1501 dL_law_1494 (by decide) (fun c1494 => ?_) (fun c1494 => ?_)
    · have c1494 := (nI_z (by omega)).mp c1494
      omega
    · have c1494 := mt (nI_z (by omega)).mpr c1494
      refine x_iconst F (nI 1) dL_law_1497 (by decide) ?_
      refine x_goto F 1502 dL_law_1498 (by decide) ?_
      refine x_istore F [(6, .int (nI (1))), (13, .int (nI (rj))), (12, .int (nI (ri))), (11, .int (nI (dd))), (10, .int (nI (zz))), (9, .int (xv)), (8, .int (nI (t))), (7, .int (nI (T))), (5, .int (lk)), (4, .int (nI (σ.1 18 0))), (3, .int (nI (σ.1 7 0))), (2, .int (nI (σ.1 6 0))), (1, .ref (o)), (0, .ref (gXb g))] dL_law_1502 (by decide) rfl ?_
      refine x_sub [6, 7, 0, 8, 9, 10, 11, 12, 13] rfl (L' := [(8, .int (nI (t))), (7, .int (nI (T))), (6, .int (nI (1))), (5, .int (lk)), (4, .int (nI (σ.1 18 0))), (3, .int (nI (σ.1 7 0))), (2, .int (nI (σ.1 6 0))), (1, .ref (o)), (0, .ref (gXb g))]) ?_
      refine x_widen (a' := a + 500) (b' := b + 5000) (by omega) (by omega) ?_
      exact kk A _ _ _ _ _ _ ho hR.self (IJ_s hJ) rfl rfl rfl
