/-! may one get there -/
theorem abs_adst {x0 y0 : Nat} (hx : x0 < 2 ^ 30) (hy : y0 < 2 ^ 30) : (if 0 ≤ (nI x0) - (nI y0) then (nI x0) - (nI y0) else 0 - ((nI x0) - (nI y0))) = nI (adst x0 y0) := by
  unfold adst
  by_cases h : x0 < y0
  · have e : (nI x0) - (nI y0) = 0 - nI (y0 - x0) := by
      rw [← pk_sub (show x0 ≤ y0 by omega)]
      rw [Int32.zero_sub, Int32.neg_sub]
    have h1 : ¬ (0 : Int32) ≤ (nI x0) - (nI y0) := by
      intro z
      have z1 := Int32.le_iff_toInt_le.mp z
      have h5 : (0 : Int32).toInt = 0 := by decide
      have h6 := fb_subI (x := nI x0) (y := nI y0) (by rw [nI_toInt (by omega), nI_toInt (by omega)]; omega) (by rw [nI_toInt (by omega), nI_toInt (by omega)]; omega)
      rw [h6, nI_toInt (by omega), nI_toInt (by omega)] at z1
      omega
    rw [if_neg h1, if_pos h, e]
    rw [Int32.zero_sub, Int32.zero_sub, Int32.neg_neg]
  · have e : (nI x0) - (nI y0) = nI (x0 - y0) := pk_sub (by omega)
    rw [if_neg h, e]
    have h1 : (0 : Int32) ≤ nI (x0 - y0) := by
      rw [Int32.le_iff_toInt_le, nI_toInt (by omega)]
      have h5 : (0 : Int32).toInt = 0 := by decide
      omega
    rw [if_pos h1]
theorem getO_same {σ : ST} {r j p i : Nat} (h : i = r) : getO σ r j p i = true := by unfold getO; rw [decide_eq_true h]; rfl
theorem getO_np {σ : ST} {r j p i : Nat} (h : σ.2.1 22 (12 * i + j) = -1) : getO σ r j p i = true := by unfold getO; rw [decide_eq_true h, Bool.or_true]; rfl
theorem getO_far {σ : ST} {r j p i : Nat} (h : 0 < adst (σ.1 10 r + p) (σ.1 10 i + cl (σ.2.1 22 (12 * i + j)))) (h2 : adst (σ.1 9 r) (σ.1 9 i) ≤ 400 * adst (σ.1 10 r + p) (σ.1 10 i + cl (σ.2.1 22 (12 * i + j)))) : getO σ r j p i = true := by unfold getO; rw [decide_eq_true h, decide_eq_true h2, Bool.and_true, Bool.or_true]
theorem getO_no {σ : ST} {r j p i : Nat} (h : ¬ i = r) (h1 : ¬ σ.2.1 22 (12 * i + j) = -1) (h2 : adst (σ.1 10 r + p) (σ.1 10 i + cl (σ.2.1 22 (12 * i + j))) = 0 ∨ 400 * adst (σ.1 10 r + p) (σ.1 10 i + cl (σ.2.1 22 (12 * i + j))) < adst (σ.1 9 r) (σ.1 9 i)) : getO σ r j p i = false := by
  unfold getO
  rw [decide_eq_false h, decide_eq_false h1]
  rcases h2 with h2 | h2
  · rw [h2]; rfl
  · rw [decide_eq_false (show ¬ adst (σ.1 9 r) (σ.1 9 i) ≤ 400 * adst (σ.1 10 r + p) (σ.1 10 i + cl (σ.2.1 22 (12 * i + j))) by omega), Bool.and_false]; rfl
theorem cbp_a {t n : Nat} {b : Bool} (h : ¬ t < n) : (decide (t < n) && b) = false := by rw [decide_eq_false h]; rfl
theorem cbp_b {t n : Nat} {b : Bool} (h : b = false) : (decide (t < n) && b) = false := by rw [h, Bool.and_false]
theorem cbp_c {t n : Nat} {b : Bool} (h : t < n) (h2 : b = true) : (decide (t < n) && b) = true := by rw [h2, decide_eq_true h]; rfl
theorem gets_no {σ : ST} {r j p i : Nat} (hi : i < σ.1 18 0) (h : getO σ r j p i = false) : getsS σ r j p = false := by
  cases c : getsS σ r j p with
  | false => rfl
  | true =>
    have := allB_iff.mp c i hi
    rw [h] at this
    cases this
set_option maxHeartbeats 4000000 in
set_option maxRecDepth 100000 in
theorem c_X3_canGet {l : Launch} (hl : l.stackTraces = false) {g : GP} {M : MM} {A : Nat → Nat} {M0 : MM} {σ : ST} {r j p : Nat} (hR : CM g A M0 σ M) (hB : Bd σ) (hD : ID σ) (hr : r < σ.1 18 0) (hj : j < 12) (hp : p < 4) : CT l g yX3_canGet cX3_canGet 10 (some .boolean) 4 114 0 0 [.ref (A 0), .ref (A (30 + r)), .int (nI (j)), .int (nI (p))] M (pI (fun r9 M9 => nI (bz (getsS σ r j p)) = r9 ∧ M = M9)) nX := by
  refine ct_of [(0, .ref (A 0)), (1, .ref (A (30 + r))), (2, .int (nI (j))), (3, .int (nI (p)))] (by decide) hl (Nat.le_of_ble_eq_true rfl) rfl ?_
  intro K hK F
  subst hK
  have F : Fx K g cX3_canGet RX3 10 (some .boolean) [] 4 114 0 0 := F
  obtain ⟨Q, hQ⟩ : ∃ Q, Q = MQx K g (pI (fun r9 M9 => nI (bz (getsS σ r j p)) = r9 ∧ M = M9)) nX 0 0 := ⟨_, rfl⟩
  rw [← hQ]
  have hB9 := hB
  obtain ⟨h6, h7, h18, hr8, hk96, hp96, hb16, hh⟩ := hB9
  have b1 := hr8 r (by omega)
  refine x_aload_n F 1 dX3_canGet_0 rfl ?_
  refine x_iload_n F 3 dX3_canGet_1 rfl ?_
  refine x_callV F s_X3_281 (hR.r (by omega : r < σ.1 18 0) (by omega)) rfl rfl (c_X2_dayOf F.nt hR hB (by omega)) rfl dX3_canGet_2 (by decide) (by decide) (Nat.le_of_ble_eq_true rfl) x_noX (ki fun r M2 hp => ?_)
  obtain ⟨rfl, rfl⟩ := hp
  refine x_istore F [(4, .int (nI (σ.1 10 r + p))), (0, .ref (A 0)), (1, .ref (A (30 + r))), (2, .int (nI (j))), (3, .int (nI (p)))] dX3_canGet_5 (by decide) rfl ?_
  refine x_iconst F (nI 0) dX3_canGet_7 (by decide) ?_
  refine x_istore F [(5, .int (nI (0))), (4, .int (nI (σ.1 10 r + p))), (0, .ref (A 0)), (1, .ref (A (30 + r))), (2, .int (nI (j))), (3, .int (nI (p)))] dX3_canGet_8 (by decide) rfl ?_
  have LP10 : ∀ i, i ≤ (σ.1 18 0) → ∀ (v10_5 : Int32), v10_5 = nI (i) → allB (getO σ r j p) i = true → XW K g 10 Q M 0 0 10 [(5, .int (v10_5)), (4, .int (nI (σ.1 10 r + p))), (0, .ref (A 0)), (1, .ref (A (30 + r))), (2, .int (nI (j))), (3, .int (nI (p)))] [] := by
    refine x_loop ((σ.1 18 0)) _ (fun i hi ihi => ?_)
    intro v10_5 e10_5 hall
    subst e10_5
    have hj2 := hj
    refine x_iload F 0 dX3_canGet_10 rfl ?_
    refine x_aload_n F 2 dX3_canGet_12 rfl ?_
    refine x_fget F f_X3_16 hR.c (v := .ref (A 3)) dX3_canGet_13 rfl ?_
    refine x_callV F s_X3_37 hR.lr rfl rfl (c_lsize F.nt hR.lr) rfl dX3_canGet_16 (by decide) (by decide) (Nat.le_of_ble_eq_true rfl) x_noX (ki fun r_2 M2_2 hp_2 => ?_)
    obtain ⟨rfl, rfl⟩ := hp_2
    refine x_icmp_ge F 124 dX3_canGet_19 (by decide) (fun c19 => ?_) (fun c19 => ?_)
    · have c19 := (nI_leI (by omega) (by omega)).mp c19
      have c19b := Nat.not_lt.mpr c19
      refine x_iconst F (nI 1) dX3_canGet_124 (by decide) ?_
      rw [hQ]
      exact x_zret F dX3_canGet_125 (by decide) (Or.inr rfl) ⟨_, rfl, by have h9 : i = σ.1 18 0 := (by omega); rw [h9] at hall; rw [show getsS σ r j p = true from hall]; rfl, rfl⟩
    · have c19 := mt (nI_leI (by omega) (by omega)).mpr c19
      have c19b := Nat.not_le.mp c19
      have b2 := hr8 i (by omega)
      have b3 := hp96 (12 * i + j) (by omega)
      refine x_aload_n F 2 dX3_canGet_22 rfl ?_
      refine x_fget F f_X3_16 hR.c (v := .ref (A 3)) dX3_canGet_23 rfl ?_
      refine x_iload F 0 dX3_canGet_26 rfl ?_
      refine x_callV F s_X3_124 hR.lr rfl rfl (c_lget F.nt hR.lr hR.dr (by omega : i < σ.1 18 0) (by omega : σ.1 18 0 ≤ 22)) rfl dX3_canGet_28 (by decide) (by decide) (Nat.le_of_ble_eq_true rfl) x_noX (kr fun r_3 M2_3 hp_3 => ?_)
      obtain ⟨rfl, rfl⟩ := hp_3
      refine x_rr0 (y := A (30 + i)) (rfl) ?_
      refine x_cast F (hR.r (by omega : i < σ.1 18 0) (by omega)) rfl l_X3_70 dX3_canGet_31 ?_
      refine x_astore F [(6, .ref (A (30 + i))), (5, .int (nI (i))), (4, .int (nI (σ.1 10 r + p))), (0, .ref (A 0)), (1, .ref (A (30 + r))), (2, .int (nI (j))), (3, .int (nI (p)))] dX3_canGet_34 (by decide) rfl ?_
      refine x_aload F 0 dX3_canGet_36 rfl ?_
      refine x_aload_n F 4 dX3_canGet_38 rfl ?_
      refine x_acmp_ne (rx := some (A (30 + i))) (ry := some (A (30 + r))) F 46 dX3_canGet_39 (by decide) (fun c39_2 => ?_) (fun c39_2 => ?_)
      · have d39 : ¬ i = r := fun z => c39_2 (by rw [z])
        refine x_aload F 0 dX3_canGet_46 rfl ?_
        refine x_iload_n F 5 dX3_canGet_48 rfl ?_
        refine x_callV F s_X3_258 (hR.r (by omega : i < σ.1 18 0) (by omega)) rfl rfl (c_X2_entryOf F.nt hR hB (by omega) (by omega)) rfl dX3_canGet_49 (by decide) (by decide) (Nat.le_of_ble_eq_true rfl) x_noX (kq fun r_4 M2_4 hp_4 => ?_)
        obtain ⟨rfl, rfl⟩ := hp_4
        by_cases h41 : σ.1 41 (12 * i + j) = 1
        · refine x_rv0 (y := .ref (A (100 + (12 * i + j)))) (eO_t h41) ?_
          refine x_astore F [(7, .ref (A (100 + (12 * i + j)))), (6, .ref (A (30 + i))), (5, .int (nI (i))), (4, .int (nI (σ.1 10 r + p))), (0, .ref (A 0)), (1, .ref (A (30 + r))), (2, .int (nI (j))), (3, .int (nI (p)))] dX3_canGet_52 (by decide) rfl ?_
          refine x_aload F 0 dX3_canGet_54 rfl ?_
          refine x_ifnull F dX3_canGet_56 ?_
          refine x_aload F 0 dX3_canGet_59 rfl ?_
          refine x_callV F s_X3_284 (hR.e h41 (by omega)) rfl rfl (c_X1_isPlaced F.nt hR hB (h41) (by omega)) rfl dX3_canGet_61 (by decide) (by decide) (Nat.le_of_ble_eq_true rfl) x_noX (ki fun r_5 M2_5 hp_5 => ?_)
          obtain ⟨rfl, rfl⟩ := hp_5
          refine x_if_eq F 118 dX3_canGet_64 (by decide) (fun c64 => ?_) (fun c64 => ?_)
          · have c64 := nI_bz0.mp c64
            refine x_iinc F 2 [(5, .int (nI (i + 1))), (7, .ref (A (100 + (12 * i + j)))), (6, .ref (A (30 + i))), (4, .int (nI (σ.1 10 r + p))), (0, .ref (A 0)), (1, .ref (A (30 + r))), (2, .int (nI (j))), (3, .int (nI (p)))] dX3_canGet_118 rfl (iincN (i) 1) (by decide) rfl ?_
            refine x_goto F 10 dX3_canGet_121 (by decide) ?_
            refine x_sub [0, 3, 4, 5, 6, 7] rfl (L' := [(5, .int (nI (i + 1))), (4, .int (nI (σ.1 10 r + p))), (0, .ref (A 0)), (1, .ref (A (30 + r))), (2, .int (nI (j))), (3, .int (nI (p)))]) ?_
            exact ihi (by omega) _ (rfl) (by simp only [allB]; rw [hall]; first | exact getO_same d39 | exact getO_np (hD i j (by omega) hj h41).1.1 | exact getO_np (Decidable.not_not.mp (of_decide_eq_false c64)) | exact getO_far (Nat.pos_of_ne_zero c102) c113)
          · have c64 := nI_bz1.mp c64
            have b4 := pl_cl (by decide) b3.1 (of_decide_eq_true c64)
            refine x_iload F 3 dX3_canGet_67 rfl ?_
            refine x_aload F 1 dX3_canGet_69 rfl ?_
            refine x_aload F 0 dX3_canGet_71 rfl ?_
            refine x_fget F f_X3_132 (hR.e h41 (by omega)) (v := .int (σ.2.1 22 (12 * i + j))) dX3_canGet_73 rfl ?_
            refine x_ri0 (y := nI (cl (σ.2.1 22 (12 * i + j)))) (b4.1) ?_
            refine x_callV F s_X3_281 (hR.r (by omega : i < σ.1 18 0) (by omega)) rfl rfl (c_X2_dayOf F.nt hR hB (by omega)) rfl dX3_canGet_76 (by decide) (by decide) (Nat.le_of_ble_eq_true rfl) x_noX (ki fun r_6 M2_6 hp_6 => ?_)
            obtain ⟨rfl, rfl⟩ := hp_6
            refine x_isub F dX3_canGet_79 ?_
            refine x_mabs F u_X3_287 dX3_canGet_80 ⟨by decide, Nat.le_of_ble_eq_true rfl, by decide, by decide⟩ ?_
            refine x_ri0 (y := nI (adst (σ.1 10 r + p) (σ.1 10 i + cl (σ.2.1 22 (12 * i + j))))) (abs_adst (by omega) (by omega)) ?_
            refine x_istore F [(8, .int (nI (adst (σ.1 10 r + p) (σ.1 10 i + cl (σ.2.1 22 (12 * i + j)))))), (7, .ref (A (100 + (12 * i + j)))), (6, .ref (A (30 + i))), (5, .int (nI (i))), (4, .int (nI (σ.1 10 r + p))), (0, .ref (A 0)), (1, .ref (A (30 + r))), (2, .int (nI (j))), (3, .int (nI (p)))] dX3_canGet_83 (by decide) rfl ?_
            refine x_aload_n F 6 dX3_canGet_85 rfl ?_
            refine x_fget F f_X3_290 (hR.r (by omega : r < σ.1 18 0) (by omega)) (v := .int (nI (σ.1 9 r))) dX3_canGet_86 rfl ?_
            refine x_aload F 2 dX3_canGet_89 rfl ?_
            refine x_fget F f_X3_290 (hR.r (by omega : i < σ.1 18 0) (by omega)) (v := .int (nI (σ.1 9 i))) dX3_canGet_91 rfl ?_
            refine x_isub F dX3_canGet_94 ?_
            refine x_mabs F u_X3_287 dX3_canGet_95 ⟨by decide, Nat.le_of_ble_eq_true rfl, by decide, by decide⟩ ?_
            refine x_ri0 (y := nI (adst (σ.1 9 r) (σ.1 9 i))) (abs_adst (by omega) (by omega)) ?_
            refine x_istore F [(9, .int (nI (adst (σ.1 9 r) (σ.1 9 i)))), (8, .int (nI (adst (σ.1 10 r + p) (σ.1 10 i + cl (σ.2.1 22 (12 * i + j)))))), (7, .ref (A (100 + (12 * i + j)))), (6, .ref (A (30 + i))), (5, .int (nI (i))), (4, .int (nI (σ.1 10 r + p))), (0, .ref (A 0)), (1, .ref (A (30 + r))), (2, .int (nI (j))), (3, .int (nI (p)))] dX3_canGet_98 (by decide) rfl ?_
            refine x_iload F 1 dX3_canGet_100 rfl ?_
            refine x_if_eq F 116 dX3_canGet_102 (by decide) (fun c102 => ?_) (fun c102 => ?_)
            · have c102 := (nI_z (by have := adst_le (σ.1 10 r + p) (σ.1 10 i + cl (σ.2.1 22 (12 * i + j))); omega)).mp c102
              refine x_iconst F (nI 0) dX3_canGet_116 (by decide) ?_
              rw [hQ]
              exact x_zret F dX3_canGet_117 (by decide) (Or.inl rfl) ⟨_, rfl, by (first | rw [gets_no (i := i) (by omega) (getO_no d39 (of_decide_eq_true c64) (Or.inl c102))] | rw [gets_no (i := i) (by omega) (getO_no d39 (of_decide_eq_true c64) (Or.inr c113b))]); rfl, rfl⟩
            · have c102 := mt (nI_z (by have := adst_le (σ.1 10 r + p) (σ.1 10 i + cl (σ.2.1 22 (12 * i + j))); omega)).mpr c102
              refine x_sipush F (nI 400) dX3_canGet_105 (by decide) ?_
              refine x_iload F 1 dX3_canGet_108 rfl ?_
              refine x_imulN F dX3_canGet_110 ?_
              refine x_iload F 0 dX3_canGet_111 rfl ?_
              refine x_icmp_ge F 118 dX3_canGet_113 (by decide) (fun c113 => ?_) (fun c113 => ?_)
              · have c113 := (nI_leI (by have := adst_le (σ.1 9 r) (σ.1 9 i); omega) (by have := adst_le (σ.1 10 r + p) (σ.1 10 i + cl (σ.2.1 22 (12 * i + j))); omega)).mp c113
                have c113b := Nat.not_lt.mpr c113
                refine x_iinc F 4 [(5, .int (nI (i + 1))), (9, .int (nI (adst (σ.1 9 r) (σ.1 9 i)))), (8, .int (nI (adst (σ.1 10 r + p) (σ.1 10 i + cl (σ.2.1 22 (12 * i + j)))))), (7, .ref (A (100 + (12 * i + j)))), (6, .ref (A (30 + i))), (4, .int (nI (σ.1 10 r + p))), (0, .ref (A 0)), (1, .ref (A (30 + r))), (2, .int (nI (j))), (3, .int (nI (p)))] dX3_canGet_118 rfl (iincN (i) 1) (by decide) rfl ?_
                refine x_goto F 10 dX3_canGet_121 (by decide) ?_
                refine x_sub [0, 5, 6, 7, 8, 9] rfl (L' := [(5, .int (nI (i + 1))), (4, .int (nI (σ.1 10 r + p))), (0, .ref (A 0)), (1, .ref (A (30 + r))), (2, .int (nI (j))), (3, .int (nI (p)))]) ?_
                exact ihi (by omega) _ (rfl) (by simp only [allB]; rw [hall]; first | exact getO_same d39 | exact getO_np (hD i j (by omega) hj h41).1.1 | exact getO_np (Decidable.not_not.mp (of_decide_eq_false c64)) | exact getO_far (Nat.pos_of_ne_zero c102) c113)
              · have c113 := mt (nI_leI (by have := adst_le (σ.1 9 r) (σ.1 9 i); omega) (by have := adst_le (σ.1 10 r + p) (σ.1 10 i + cl (σ.2.1 22 (12 * i + j))); omega)).mpr c113
                have c113b := Nat.not_le.mp c113
                refine x_iconst F (nI 0) dX3_canGet_116 (by decide) ?_
                rw [hQ]
                exact x_zret F dX3_canGet_117 (by decide) (Or.inl rfl) ⟨_, rfl, by (first | rw [gets_no (i := i) (by omega) (getO_no d39 (of_decide_eq_true c64) (Or.inl c102))] | rw [gets_no (i := i) (by omega) (getO_no d39 (of_decide_eq_true c64) (Or.inr c113b))]); rfl, rfl⟩
        · refine x_rv0 (y := .null) (eO_f h41) ?_
          refine x_astoreN F [(7, .null), (6, .ref (A (30 + i))), (5, .int (nI (i))), (4, .int (nI (σ.1 10 r + p))), (0, .ref (A 0)), (1, .ref (A (30 + r))), (2, .int (nI (j))), (3, .int (nI (p)))] dX3_canGet_52 (by decide) rfl ?_
          refine x_aloadN F 0 dX3_canGet_54 rfl ?_
          refine x_ifnullN F 118 dX3_canGet_56 (by decide) ?_
          refine x_iinc F 2 [(5, .int (nI (i + 1))), (7, .null), (6, .ref (A (30 + i))), (4, .int (nI (σ.1 10 r + p))), (0, .ref (A 0)), (1, .ref (A (30 + r))), (2, .int (nI (j))), (3, .int (nI (p)))] dX3_canGet_118 rfl (iincN (i) 1) (by decide) rfl ?_
          refine x_goto F 10 dX3_canGet_121 (by decide) ?_
          refine x_sub [0, 3, 4, 5, 6, 7] rfl (L' := [(5, .int (nI (i + 1))), (4, .int (nI (σ.1 10 r + p))), (0, .ref (A 0)), (1, .ref (A (30 + r))), (2, .int (nI (j))), (3, .int (nI (p)))]) ?_
          exact ihi (by omega) _ (rfl) (by simp only [allB]; rw [hall]; first | exact getO_same d39 | exact getO_np (hD i j (by omega) hj h41).1.1 | exact getO_np (Decidable.not_not.mp (of_decide_eq_false c64)) | exact getO_far (Nat.pos_of_ne_zero c102) c113)
      · have d39 : i = r := by have := hR.2.1 (30 + i) (30 + r) (lv_r (by omega) (by omega)) (lv_r (by omega) (by omega)) (Option.some.inj c39_2); omega
        refine x_null F dX3_canGet_42 ?_
        refine x_goto F 52 dX3_canGet_43 (by decide) ?_
        refine x_astoreN F [(7, .null), (6, .ref (A (30 + i))), (5, .int (nI (i))), (4, .int (nI (σ.1 10 r + p))), (0, .ref (A 0)), (1, .ref (A (30 + r))), (2, .int (nI (j))), (3, .int (nI (p)))] dX3_canGet_52 (by decide) rfl ?_
        refine x_aloadN F 0 dX3_canGet_54 rfl ?_
        refine x_ifnullN F 118 dX3_canGet_56 (by decide) ?_
        refine x_iinc F 2 [(5, .int (nI (i + 1))), (7, .null), (6, .ref (A (30 + i))), (4, .int (nI (σ.1 10 r + p))), (0, .ref (A 0)), (1, .ref (A (30 + r))), (2, .int (nI (j))), (3, .int (nI (p)))] dX3_canGet_118 rfl (iincN (i) 1) (by decide) rfl ?_
        refine x_goto F 10 dX3_canGet_121 (by decide) ?_
        refine x_sub [0, 3, 4, 5, 6, 7] rfl (L' := [(5, .int (nI (i + 1))), (4, .int (nI (σ.1 10 r + p))), (0, .ref (A 0)), (1, .ref (A (30 + r))), (2, .int (nI (j))), (3, .int (nI (p)))]) ?_
        exact ihi (by omega) _ (rfl) (by simp only [allB]; rw [hall]; first | exact getO_same d39 | exact getO_np (hD i j (by omega) hj h41).1.1 | exact getO_np (Decidable.not_not.mp (of_decide_eq_false c64)) | exact getO_far (Nat.pos_of_ne_zero c102) c113)
  exact LP10 0 (by omega) _ (rfl) (rfl)
set_option maxHeartbeats 4000000 in
set_option maxRecDepth 100000 in
theorem c_X3_canBePlaced {l : Launch} (hl : l.stackTraces = false) {g : GP} {M : MM} {A : Nat → Nat} {M0 : MM} {σ : ST} {r j p : Nat} (hR : CM g A M0 σ M) (hB : Bd σ) (hW : IW σ) (hD : ID σ) (hr : r < σ.1 18 0) (hj : j < 12) (hp : p < 4) : CT l g yX3_canBePlaced cX3_canBePlaced 4 (some .boolean) 5 143 0 0 [.ref (A 0), .ref (A (30 + r)), .int (nI (j)), .int (nI (p))] M (pI (fun r9 M9 => nI (bz (decide (takS σ r (nI p) < σ.1 12 r) && getsS σ r j p)) = r9 ∧ M = M9)) nX := by
  refine ct_of [(0, .ref (A 0)), (1, .ref (A (30 + r))), (2, .int (nI (j))), (3, .int (nI (p)))] (by decide) hl (Nat.le_of_ble_eq_true rfl) rfl ?_
  intro K hK F
  subst hK
  have F : Fx K g cX3_canBePlaced RX3 4 (some .boolean) [] 5 143 0 0 := F
  obtain ⟨Q, hQ⟩ : ∃ Q, Q = MQx K g (pI (fun r9 M9 => nI (bz (decide (takS σ r (nI p) < σ.1 12 r) && getsS σ r j p)) = r9 ∧ M = M9)) nX 0 0 := ⟨_, rfl⟩
  rw [← hQ]
  have hB9 := hB
  obtain ⟨h6, h7, h18, hr8, hk96, hp96, hb16, hh⟩ := hB9
  have b1 := hr8 r (by omega)
  have t1 := cIn_tak (v := nI p) hW hD hr (nI_m1 (by omega))
  have t2 := cIn_le (σ := σ) (r := r) (v := nI p)
  refine x_aload_n F 1 dX3_canBePlaced_0 rfl ?_
  refine x_iload_n F 3 dX3_canBePlaced_1 rfl ?_
  refine x_callV F s_X3_275 (hR.r (by omega : r < σ.1 18 0) (by omega)) rfl rfl (c_X2_countIn F.nt hR hB hW (by omega)) rfl dX3_canBePlaced_2 (by decide) (by decide) (Nat.le_of_ble_eq_true rfl) x_noX (ki fun r M2 hp => ?_)
  obtain ⟨rfl, rfl⟩ := hp
  refine x_aload_n F 1 dX3_canBePlaced_5 rfl ?_
  refine x_fget F f_X3_135 (hR.r (by omega : r < σ.1 18 0) (by omega)) (v := .int (nI (σ.1 12 r))) dX3_canBePlaced_6 rfl ?_
  refine x_icmp_ge F 26 dX3_canBePlaced_9 (by decide) (fun c9 => ?_) (fun c9 => ?_)
  · have c9 := (nI_leI (by omega) (by omega)).mp c9
    have c9b := Nat.not_lt.mpr c9
    refine x_iconst F (nI 0) dX3_canBePlaced_26 (by decide) ?_
    rw [hQ]
    exact x_zret F dX3_canBePlaced_27 (by decide) (Or.inl rfl) ⟨_, rfl, by first | (rw [cbp_a (by omega)]; rfl) | (rw [cbp_b c19]; rfl) | (rw [cbp_c (by omega) c19]; rfl), rfl⟩
  · have c9 := mt (nI_leI (by omega) (by omega)).mpr c9
    have c9b := Nat.not_le.mp c9
    refine x_aload_n F 0 dX3_canBePlaced_12 rfl ?_
    refine x_aload_n F 1 dX3_canBePlaced_13 rfl ?_
    refine x_iload_n F 2 dX3_canBePlaced_14 rfl ?_
    refine x_iload_n F 3 dX3_canBePlaced_15 rfl ?_
    refine x_callV F s_X3_278 hR.c rfl rfl (c_X3_canGet F.nt hR hB hD (by omega) (by omega) (by omega)) rfl dX3_canBePlaced_16 (by decide) (by decide) (Nat.le_of_ble_eq_true rfl) x_noX (ki fun r_2 M2_2 hp_2 => ?_)
    obtain ⟨rfl, rfl⟩ := hp_2
    refine x_if_eq F 26 dX3_canBePlaced_19 (by decide) (fun c19 => ?_) (fun c19 => ?_)
    · have c19 := nI_bz0.mp c19
      refine x_iconst F (nI 0) dX3_canBePlaced_26 (by decide) ?_
      rw [hQ]
      exact x_zret F dX3_canBePlaced_27 (by decide) (Or.inl rfl) ⟨_, rfl, by first | (rw [cbp_a (by omega)]; rfl) | (rw [cbp_b c19]; rfl) | (rw [cbp_c (by omega) c19]; rfl), rfl⟩
    · have c19 := nI_bz1.mp c19
      refine x_iconst F (nI 1) dX3_canBePlaced_22 (by decide) ?_
      refine x_goto F 27 dX3_canBePlaced_23 (by decide) ?_
      rw [hQ]
      exact x_zret F dX3_canBePlaced_27 (by decide) (Or.inr rfl) ⟨_, rfl, by first | (rw [cbp_a (by omega)]; rfl) | (rw [cbp_b c19]; rfl) | (rw [cbp_c (by omega) c19]; rfl), rfl⟩
