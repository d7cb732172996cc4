/-! money, by entries -/
set_option maxRecDepth 20000 in
theorem w_sp : Cond.initialized RX3 ∈ TB ∧ Cond.code yX3_split cX3_split 2 (some .int) ∈ TB ∧ Cond.static yX3_split ∈ TB := ⟨it_X3, tb_3 103 rfl rfl, tb_3 102 rfl rfl⟩
def shC (pt f0 b0 : Nat) : Nat → Nat
  | 0 => 0
  | n + 1 => shC pt f0 b0 n + if f0 ≤ n ∧ n < b0 then pt * (40 - 10 * n) / 100 else 0
theorem shC_y {pt f0 b0 n : Nat} (h : f0 ≤ n ∧ n < b0) : shC pt f0 b0 (n + 1) = shC pt f0 b0 n + pt * (40 - 10 * n) / 100 := by simp only [shC]; rw [if_pos h]
theorem shC_n {pt f0 b0 n : Nat} (h : ¬ (f0 ≤ n ∧ n < b0)) : shC pt f0 b0 (n + 1) = shC pt f0 b0 n := by simp only [shC]; rw [if_neg h]; rfl
theorem shC_leG {pt f0 b0 c : Nat} (hc : ∀ n, pt * (40 - 10 * n) / 100 ≤ c) : ∀ n, shC pt f0 b0 n ≤ n * c
  | 0 => Nat.zero_le _
  | n + 1 => by
    have ih := shC_leG (f0 := f0) (b0 := b0) hc n
    simp only [shC]
    rw [show (n + 1) * c = n * c + c from Nat.succ_mul n c]
    refine Nat.add_le_add ih ?_
    split
    · exact hc n
    · exact Nat.zero_le _
theorem shC_le {pt f0 b0 : Nat} (hp : pt ≤ 200000) (n : Nat) : shC pt f0 b0 n ≤ n * 80000 :=
  shC_leG (fun n => Nat.le_trans (Nat.div_le_div_right (c := 100) (Nat.le_trans (Nat.mul_le_mul_left pt (Nat.sub_le 40 (10 * n))) (Nat.mul_le_mul_right 40 hp))) (Nat.le_of_ble_eq_true rfl)) n
theorem hun_i {i : Nat} (h : i < 4) : hundV (nI i).toNatClampNeg = .int (nI (40 - 10 * i)) := by
  rw [nI_clamp (by omega)]
  have : i = 0 ∨ i = 1 ∨ i = 2 ∨ i = 3 := by omega
  rcases this with rfl | rfl | rfl | rfl <;> rfl
def betE (σ : ST) (r : Nat) (v : Int32) : Nat := fb_ct (fun e => decide (¬ σ.1 27 (12 * r + whS σ r e) = 0) && decide (v < σ.2.1 28 (12 * r + whS σ r e))) (σ.1 17 r)
def likE (σ : ST) (r : Nat) (v : Int32) : Nat := fb_ct (fun e => decide (¬ σ.1 27 (12 * r + whS σ r e) = 0) && decide (σ.2.1 28 (12 * r + whS σ r e) = v)) (σ.1 17 r)
theorem betE_le {σ : ST} {r : Nat} {v : Int32} : betE σ r v ≤ σ.1 17 r := fb_ct_le _ _
theorem likE_le {σ : ST} {r : Nat} {v : Int32} : likE σ r v ≤ σ.1 17 r := fb_ct_le _ _
def plM (σ : ST) (r pt : Nat) (v : Int32) : Nat := shC pt (betE σ r v) (betE σ r v + likE σ r v) 4 / likE σ r v
set_option maxHeartbeats 4000000 in
set_option maxRecDepth 100000 in
theorem c_X2_sharesOf {l : Launch} (hl : l.stackTraces = false) {g : GP} {M : MM} {A : Nat → Nat} {M0 : MM} {σ : ST} {r pt f0 b0 : Nat} (hR : CM g A M0 σ M) (hB : Bd σ) (hr : r < σ.1 18 0) (hp : pt ≤ 200000) (hf : f0 < 100) (hb : b0 < 100) : CT l g yX2_sharesOf cX2_sharesOf 6 (some .int) 0 0 0 0 [.ref (A (30 + r)), .int (nI (pt)), .int (nI (f0)), .int (nI (b0))] M (pI (fun r9 M9 => nI (shC pt f0 b0 4) = r9 ∧ M = M9)) nX := by
  refine ct_of [(0, .ref (A (30 + r))), (1, .int (nI (pt))), (2, .int (nI (f0))), (3, .int (nI (b0)))] (by decide) hl (Nat.le_of_ble_eq_true rfl) rfl ?_
  intro K hK F
  subst hK
  have F : Fx K g cX2_sharesOf RX2 6 (some .int) [] 0 0 0 0 := F
  obtain ⟨Q, hQ⟩ : ∃ Q, Q = MQx K g (pI (fun r9 M9 => nI (shC pt f0 b0 4) = r9 ∧ M = M9)) nX 0 0 := ⟨_, rfl⟩
  rw [← hQ]
  have hB9 := hB
  obtain ⟨h6, h7, h18, hr8, hk96, hp96, hb16, hh⟩ := hB9
  refine x_iconst F (nI 0) dX2_sharesOf_0 (by decide) ?_
  refine x_istore F [(4, .int (nI (0))), (0, .ref (A (30 + r))), (1, .int (nI (pt))), (2, .int (nI (f0))), (3, .int (nI (b0)))] dX2_sharesOf_1 (by decide) rfl ?_
  refine x_iconst F (nI 0) dX2_sharesOf_3 (by decide) ?_
  refine x_istore F [(5, .int (nI (0))), (4, .int (nI (0))), (0, .ref (A (30 + r))), (1, .int (nI (pt))), (2, .int (nI (f0))), (3, .int (nI (b0)))] dX2_sharesOf_4 (by decide) rfl ?_
  have LP6 : ∀ i, i ≤ 4 → ∀ (v6_4 : Int32) (v6_5 : Int32), v6_4 = nI (shC pt f0 b0 i) → v6_5 = nI (i) → XW K g 6 Q M 0 0 6 [(5, .int (v6_5)), (4, .int (v6_4)), (0, .ref (A (30 + r))), (1, .int (nI (pt))), (2, .int (nI (f0))), (3, .int (nI (b0)))] [] := by
    refine x_loop 4 _ (fun i hi ihi => ?_)
    intro v6_4 v6_5 e6_4 e6_5
    subst e6_4
    subst e6_5
    refine x_iload F 0 dX2_sharesOf_6 rfl ?_
    refine x_gsHun F rfl rfl dX2_sharesOf_8 ?_
    refine x_alenHun F dX2_sharesOf_11 ?_
    refine x_ri0 (y := nI 4) (by decide) ?_
    refine x_icmp_ge F 49 dX2_sharesOf_12 (by decide) (fun c12 => ?_) (fun c12 => ?_)
    · have c12 := (nI_leI (by omega) (by omega)).mp c12
      have c12b := Nat.not_lt.mpr c12
      refine x_iload F 1 dX2_sharesOf_49 rfl ?_
      rw [hQ]
      exact x_iret F dX2_sharesOf_51 (by decide) ⟨_, rfl, by have h9 : i = 4 := (by omega); rw [h9], rfl⟩
    · have c12 := mt (nI_leI (by omega) (by omega)).mpr c12
      have c12b := Nat.not_le.mp c12
      refine x_iload F 0 dX2_sharesOf_15 rfl ?_
      refine x_iload_n F 4 dX2_sharesOf_17 rfl ?_
      refine x_icmp_lt F 43 dX2_sharesOf_18 (by decide) (fun c18 => ?_) (fun c18 => ?_)
      · have c18 := (nI_ltI (by omega) (by omega)).mp c18
        have c18b := Nat.not_le.mpr c18
        refine x_iinc F 0 [(5, .int (nI (i + 1))), (4, .int (nI (shC pt f0 b0 i))), (0, .ref (A (30 + r))), (1, .int (nI (pt))), (2, .int (nI (f0))), (3, .int (nI (b0)))] dX2_sharesOf_43 rfl (iincN (i) 1) (by decide) rfl ?_
        refine x_goto F 6 dX2_sharesOf_46 (by decide) ?_
        exact ihi (by omega) _ _ (by (first | exact congrArg nI (shC_n (by omega)).symm | exact congrArg nI (shC_y (by omega)).symm)) (rfl)
      · have c18 := mt (nI_ltI (by omega) (by omega)).mpr c18
        have c18b := Nat.not_lt.mp c18
        refine x_iload F 0 dX2_sharesOf_21 rfl ?_
        refine x_iload_n F 5 dX2_sharesOf_23 rfl ?_
        refine x_icmp_ge F 43 dX2_sharesOf_24 (by decide) (fun c24 => ?_) (fun c24 => ?_)
        · have c24 := (nI_leI (by omega) (by omega)).mp c24
          have c24b := Nat.not_lt.mpr c24
          refine x_iinc F 0 [(5, .int (nI (i + 1))), (4, .int (nI (shC pt f0 b0 i))), (0, .ref (A (30 + r))), (1, .int (nI (pt))), (2, .int (nI (f0))), (3, .int (nI (b0)))] dX2_sharesOf_43 rfl (iincN (i) 1) (by decide) rfl ?_
          refine x_goto F 6 dX2_sharesOf_46 (by decide) ?_
          exact ihi (by omega) _ _ (by (first | exact congrArg nI (shC_n (by omega)).symm | exact congrArg nI (shC_y (by omega)).symm)) (rfl)
        · have c24 := mt (nI_leI (by omega) (by omega)).mpr c24
          have c24b := Nat.not_le.mp c24
          refine x_iload F 1 dX2_sharesOf_27 rfl ?_
          refine x_iload_n F 3 dX2_sharesOf_29 rfl ?_
          refine x_gsHun F rfl rfl dX2_sharesOf_30 ?_
          refine x_iload F 0 dX2_sharesOf_33 rfl ?_
          refine x_ialdHun F (vp_in_nI (n := i) (by omega) (by decide)) (hun_i (by omega)) dX2_sharesOf_35 ?_
          refine x_imulN F dX2_sharesOf_36 ?_
          refine x_bipush F (nI 100) dX2_sharesOf_37 (by decide) ?_
          refine x_idivN F dX2_sharesOf_39 (by have := Nat.mul_le_mul_left pt (Nat.sub_le 40 (10 * i)); omega) (by omega) (by omega) ?_
          refine x_iaddN F dX2_sharesOf_40 ?_
          refine x_istore F [(4, .int (nI ((shC pt f0 b0 i) + ((pt * (40 - 10 * i)) / 100)))), (5, .int (nI (i))), (0, .ref (A (30 + r))), (1, .int (nI (pt))), (2, .int (nI (f0))), (3, .int (nI (b0)))] dX2_sharesOf_41 (by decide) rfl ?_
          refine x_iinc F 1 [(5, .int (nI (i + 1))), (4, .int (nI ((shC pt f0 b0 i) + ((pt * (40 - 10 * i)) / 100)))), (0, .ref (A (30 + r))), (1, .int (nI (pt))), (2, .int (nI (f0))), (3, .int (nI (b0)))] dX2_sharesOf_43 rfl (iincN (i) 1) (by decide) rfl ?_
          refine x_goto F 6 dX2_sharesOf_46 (by decide) ?_
          exact ihi (by omega) _ _ (by (first | exact congrArg nI (shC_n (by omega)).symm | exact congrArg nI (shC_y (by omega)).symm)) (rfl)
  exact LP6 0 (by omega) _ _ (rfl) (rfl)
set_option maxHeartbeats 4000000 in
set_option maxRecDepth 100000 in
theorem c_X2_placeMoney {l : Launch} (hl : l.stackTraces = false) {g : GP} {M : MM} {A : Nat → Nat} {M0 : MM} {σ : ST} {r pt : Nat} {v : Int32} (hR : CM g A M0 σ M) (hB : Bd σ) (hW : IW σ) (hr : r < σ.1 18 0) (hp : pt ≤ 200000) : CT l g yX2_placeMoney cX2_placeMoney 7 (some .int) 4 114 0 0 [.ref (A (30 + r)), .int (nI (pt)), .int (v)] M (pI (fun r9 M9 => nI (plM σ r pt v) = r9 ∧ M = M9)) nX := by
  refine ct_of [(0, .ref (A (30 + r))), (1, .int (nI (pt))), (2, .int (v))] (by decide) hl (Nat.le_of_ble_eq_true rfl) rfl ?_
  intro K hK F
  subst hK
  have F : Fx K g cX2_placeMoney RX2 7 (some .int) [] 4 114 0 0 := F
  obtain ⟨Q, hQ⟩ : ∃ Q, Q = MQx K g (pI (fun r9 M9 => nI (plM σ r pt v) = r9 ∧ M = M9)) nX 0 0 := ⟨_, rfl⟩
  rw [← hQ]
  have hB9 := hB
  obtain ⟨h6, h7, h18, hr8, hk96, hp96, hb16, hh⟩ := hB9
  have b1 := hr8 r (by omega)
  refine x_iconst F (nI 0) dX2_placeMoney_0 (by decide) ?_
  refine x_istore_n F [(3, .int (nI (0))), (0, .ref (A (30 + r))), (1, .int (nI (pt))), (2, .int (v))] dX2_placeMoney_1 (by decide) rfl ?_
  refine x_iconst F (nI 0) dX2_placeMoney_2 (by decide) ?_
  refine x_istore F [(4, .int (nI (0))), (3, .int (nI (0))), (0, .ref (A (30 + r))), (1, .int (nI (pt))), (2, .int (v))] dX2_placeMoney_3 (by decide) rfl ?_
  refine x_iconst F (nI 0) dX2_placeMoney_5 (by decide) ?_
  refine x_istore F [(5, .int (nI (0))), (4, .int (nI (0))), (3, .int (nI (0))), (0, .ref (A (30 + r))), (1, .int (nI (pt))), (2, .int (v))] dX2_placeMoney_6 (by decide) rfl ?_
  have LP8 : ∀ i, i ≤ (σ.1 17 r) → ∀ (v8_3 : Int32) (v8_4 : Int32) (v8_5 : Int32), v8_3 = nI (fb_ct (fun e => decide (¬ σ.1 27 (12 * r + whS σ r e) = 0) && decide (v < σ.2.1 28 (12 * r + whS σ r e))) i) → v8_4 = nI (fb_ct (fun e => decide (¬ σ.1 27 (12 * r + whS σ r e) = 0) && decide (σ.2.1 28 (12 * r + whS σ r e) = v)) i) → v8_5 = nI (i) → XW K g 7 Q M 0 0 8 [(5, .int (v8_5)), (4, .int (v8_4)), (3, .int (v8_3)), (0, .ref (A (30 + r))), (1, .int (nI (pt))), (2, .int (v))] [] := by
    refine x_loop ((σ.1 17 r)) _ (fun i hi ihi => ?_)
    intro v8_3 v8_4 v8_5 e8_3 e8_4 e8_5
    subst e8_3
    subst e8_4
    subst e8_5
    refine x_iload F 0 dX2_placeMoney_8 rfl ?_
    refine x_aload_n F 3 dX2_placeMoney_10 rfl ?_
    refine x_fget F f_X2_36 (hR.r (by omega : r < σ.1 18 0) (by omega)) (v := .ref (A (40 + r))) dX2_placeMoney_11 rfl ?_
    refine x_callV F s_X2_56 (hR.l (by omega : r < σ.1 18 0) (by omega)) rfl rfl (c_lsize F.nt (hR.l (by omega : r < σ.1 18 0) (by omega))) rfl dX2_placeMoney_14 (by decide) (by decide) (Nat.le_of_ble_eq_true rfl) x_noX (ki fun r M2 hp => ?_)
    obtain ⟨rfl, rfl⟩ := hp
    refine x_icmp_ge F 83 dX2_placeMoney_17 (by decide) (fun c17 => ?_) (fun c17 => ?_)
    · have c17 := (nI_leI (by omega) (by omega)).mp c17
      have c17b := Nat.not_lt.mpr c17
      have h9 : i = σ.1 17 r := by omega
      have hb9 := betE_le (σ := σ) (r := r) (v := v)
      have hl9 := likE_le (σ := σ) (r := r) (v := v)
      rw [h9]
      refine x_sub [1, 2, 3, 4, 5] rfl (L' := [(4, .int (nI (likE σ r v))), (3, .int (nI (betE σ r v))), (0, .ref (A (30 + r))), (1, .int (nI (pt))), (2, .int (v))]) ?_
      refine x_aload_n F 2 dX2_placeMoney_83 rfl ?_
      refine x_iload_n F 3 dX2_placeMoney_84 rfl ?_
      refine x_iload_n F 1 dX2_placeMoney_85 rfl ?_
      refine x_iload_n F 1 dX2_placeMoney_86 rfl ?_
      refine x_iload F 0 dX2_placeMoney_87 rfl ?_
      refine x_iaddN F dX2_placeMoney_89 ?_
      refine x_callV F s_X2_94 (hR.r (by omega : r < σ.1 18 0) (by omega)) rfl rfl (c_X2_sharesOf F.nt hR hB (by omega) (by omega) (by omega) (by omega)) rfl dX2_placeMoney_90 (by decide) (by decide) (Nat.le_of_ble_eq_true rfl) x_noX (ki fun r_2 M2_2 hp_2 => ?_)
      obtain ⟨rfl, rfl⟩ := hp_2
      refine x_iload F 0 dX2_placeMoney_93 rfl ?_
      refine x_callSplit F w_sp.1 w_sp.2.1 w_sp.2.2 rfl (c_X3_split F.nt (x0 := shC pt (betE σ r v) ((betE σ r v) + (likE σ r v)) 4) (y0 := likE σ r v) (Nat.lt_of_le_of_lt (shC_le hp 4) (by decide)) (by omega)) rfl dX2_placeMoney_95 (by decide) (by decide) (Nat.le_of_ble_eq_true rfl) (ki fun r_3 M2_3 hp_3 => ?_)
      obtain ⟨rfl, rfl⟩ := hp_3
      rw [hQ]
      exact x_iret F dX2_placeMoney_98 (by decide) ⟨_, rfl, rfl, rfl⟩
    · have c17 := mt (nI_leI (by omega) (by omega)).mpr c17
      have c17b := Nat.not_le.mp c17
      refine x_aload_n F 3 dX2_placeMoney_20 rfl ?_
      refine x_fget F f_X2_36 (hR.r (by omega : r < σ.1 18 0) (by omega)) (v := .ref (A (40 + r))) dX2_placeMoney_21 rfl ?_
      refine x_iload F 0 dX2_placeMoney_24 rfl ?_
      refine x_callV F s_X2_60 (hR.l (by omega : r < σ.1 18 0) (by omega)) rfl rfl (c_lget F.nt (hR.l (by omega : r < σ.1 18 0) (by omega)) (fun h0 => hR.d (by omega : r < σ.1 18 0) (by omega) h0) (by omega : i < σ.1 17 r) (by omega : σ.1 17 r ≤ 22)) rfl dX2_placeMoney_26 (by decide) (by decide) (Nat.le_of_ble_eq_true rfl) x_noX (kr fun r_4 M2_4 hp_4 => ?_)
      obtain ⟨rfl, rfl⟩ := hp_4
      have w9 := (hW r (by omega : r < σ.1 18 0)).1 i (by omega : i < σ.1 17 r)
      refine x_rr0 (y := A (100 + (12 * r + whS σ r i))) (rfl) ?_
      refine x_cast F (hR.e w9.2 (by omega)) rfl l_X2_40 dX2_placeMoney_29 ?_
      refine x_astore F [(6, .ref (A (100 + (12 * r + whS σ r i)))), (5, .int (nI (i))), (4, .int (nI (fb_ct (fun e => decide (¬ σ.1 27 (12 * r + whS σ r e) = 0) && decide (σ.2.1 28 (12 * r + whS σ r e) = v)) i))), (3, .int (nI (fb_ct (fun e => decide (¬ σ.1 27 (12 * r + whS σ r e) = 0) && decide (v < σ.2.1 28 (12 * r + whS σ r e))) i))), (0, .ref (A (30 + r))), (1, .int (nI (pt))), (2, .int (v))] dX2_placeMoney_32 (by decide) rfl ?_
      refine x_aload F 0 dX2_placeMoney_34 rfl ?_
      refine x_fget F f_X2_81 (hR.e w9.2 (by omega)) (v := .int (nI (σ.1 27 (12 * r + whS σ r i)))) dX2_placeMoney_36 rfl ?_
      refine x_if_eq F 57 dX2_placeMoney_39 (by decide) (fun c39 => ?_) (fun c39 => ?_)
      · have c39 := (nI_z (by have := (hk96 (12 * r + whS σ r i) (by omega)); omega)).mp c39
        refine x_aload F 0 dX2_placeMoney_57 rfl ?_
        refine x_fget F f_X2_81 (hR.e w9.2 (by omega)) (v := .int (nI (σ.1 27 (12 * r + whS σ r i)))) dX2_placeMoney_59 rfl ?_
        refine x_if_eq F 77 dX2_placeMoney_62 (by decide) (fun c62 => ?_) (fun c62 => ?_)
        · have c62 := (nI_z (by have := (hk96 (12 * r + whS σ r i) (by omega)); omega)).mp c62
          refine x_iinc F 1 [(5, .int (nI (i + 1))), (6, .ref (A (100 + (12 * r + whS σ r i)))), (4, .int (nI (fb_ct (fun e => decide (¬ σ.1 27 (12 * r + whS σ r e) = 0) && decide (σ.2.1 28 (12 * r + whS σ r e) = v)) i))), (3, .int (nI (fb_ct (fun e => decide (¬ σ.1 27 (12 * r + whS σ r e) = 0) && decide (v < σ.2.1 28 (12 * r + whS σ r e))) i))), (0, .ref (A (30 + r))), (1, .int (nI (pt))), (2, .int (v))] dX2_placeMoney_77 rfl (iincN (i) 1) (by decide) rfl ?_
          refine x_goto F 8 dX2_placeMoney_80 (by decide) ?_
          refine x_sub [0, 2, 3, 4, 5, 6] rfl (L' := [(5, .int (nI (i + 1))), (4, .int (nI (fb_ct (fun e => decide (¬ σ.1 27 (12 * r + whS σ r e) = 0) && decide (σ.2.1 28 (12 * r + whS σ r e) = v)) i))), (3, .int (nI (fb_ct (fun e => decide (¬ σ.1 27 (12 * r + whS σ r e) = 0) && decide (v < σ.2.1 28 (12 * r + whS σ r e))) i))), (0, .ref (A (30 + r))), (1, .int (nI (pt))), (2, .int (v))]) ?_
          exact ihi (by omega) _ _ _ (by first | (rw [fb_ct_succ]; simp [*]; done) | exact absurd c39 c62 | exact absurd c62 c39) (by first | (rw [fb_ct_succ]; simp [*]; done) | exact absurd c39 c62 | exact absurd c62 c39) (rfl)
        · have c62 := mt (nI_z (by have := (hk96 (12 * r + whS σ r i) (by omega)); omega)).mpr c62
          refine x_aload F 0 dX2_placeMoney_65 rfl ?_
          refine x_fget F f_X2_102 (hR.e w9.2 (by omega)) (v := .int (σ.2.1 28 (12 * r + whS σ r i))) dX2_placeMoney_67 rfl ?_
          refine x_iload_n F 6 dX2_placeMoney_70 rfl ?_
          refine x_icmp_ne F 77 dX2_placeMoney_71 (by decide) (fun c71 => ?_) (fun c71 => ?_)
          · refine x_iinc F 1 [(5, .int (nI (i + 1))), (6, .ref (A (100 + (12 * r + whS σ r i)))), (4, .int (nI (fb_ct (fun e => decide (¬ σ.1 27 (12 * r + whS σ r e) = 0) && decide (σ.2.1 28 (12 * r + whS σ r e) = v)) i))), (3, .int (nI (fb_ct (fun e => decide (¬ σ.1 27 (12 * r + whS σ r e) = 0) && decide (v < σ.2.1 28 (12 * r + whS σ r e))) i))), (0, .ref (A (30 + r))), (1, .int (nI (pt))), (2, .int (v))] dX2_placeMoney_77 rfl (iincN (i) 1) (by decide) rfl ?_
            refine x_goto F 8 dX2_placeMoney_80 (by decide) ?_
            refine x_sub [0, 2, 3, 4, 5, 6] rfl (L' := [(5, .int (nI (i + 1))), (4, .int (nI (fb_ct (fun e => decide (¬ σ.1 27 (12 * r + whS σ r e) = 0) && decide (σ.2.1 28 (12 * r + whS σ r e) = v)) i))), (3, .int (nI (fb_ct (fun e => decide (¬ σ.1 27 (12 * r + whS σ r e) = 0) && decide (v < σ.2.1 28 (12 * r + whS σ r e))) i))), (0, .ref (A (30 + r))), (1, .int (nI (pt))), (2, .int (v))]) ?_
            exact ihi (by omega) _ _ _ (by first | (rw [fb_ct_succ]; simp [*]; done) | exact absurd c39 c62 | exact absurd c62 c39) (by first | (rw [fb_ct_succ]; simp [*]; done) | exact absurd c39 c62 | exact absurd c62 c39) (rfl)
          · refine x_iinc F 2 [(4, .int (nI (fb_ct (fun e => decide (¬ σ.1 27 (12 * r + whS σ r e) = 0) && decide (σ.2.1 28 (12 * r + whS σ r e) = v)) i + 1))), (6, .ref (A (100 + (12 * r + whS σ r i)))), (5, .int (nI (i))), (3, .int (nI (fb_ct (fun e => decide (¬ σ.1 27 (12 * r + whS σ r e) = 0) && decide (v < σ.2.1 28 (12 * r + whS σ r e))) i))), (0, .ref (A (30 + r))), (1, .int (nI (pt))), (2, .int (v))] dX2_placeMoney_74 rfl (iincN (fb_ct (fun e => decide (¬ σ.1 27 (12 * r + whS σ r e) = 0) && decide (σ.2.1 28 (12 * r + whS σ r e) = v)) i) 1) (by decide) rfl ?_
            refine x_iinc F 2 [(5, .int (nI (i + 1))), (4, .int (nI (fb_ct (fun e => decide (¬ σ.1 27 (12 * r + whS σ r e) = 0) && decide (σ.2.1 28 (12 * r + whS σ r e) = v)) i + 1))), (6, .ref (A (100 + (12 * r + whS σ r i)))), (3, .int (nI (fb_ct (fun e => decide (¬ σ.1 27 (12 * r + whS σ r e) = 0) && decide (v < σ.2.1 28 (12 * r + whS σ r e))) i))), (0, .ref (A (30 + r))), (1, .int (nI (pt))), (2, .int (v))] dX2_placeMoney_77 rfl (iincN (i) 1) (by decide) rfl ?_
            refine x_goto F 8 dX2_placeMoney_80 (by decide) ?_
            refine x_sub [0, 1, 3, 4, 5, 6] rfl (L' := [(5, .int (nI (i + 1))), (4, .int (nI (fb_ct (fun e => decide (¬ σ.1 27 (12 * r + whS σ r e) = 0) && decide (σ.2.1 28 (12 * r + whS σ r e) = v)) i + 1))), (3, .int (nI (fb_ct (fun e => decide (¬ σ.1 27 (12 * r + whS σ r e) = 0) && decide (v < σ.2.1 28 (12 * r + whS σ r e))) i))), (0, .ref (A (30 + r))), (1, .int (nI (pt))), (2, .int (v))]) ?_
            exact ihi (by omega) _ _ _ (by first | (rw [fb_ct_succ]; simp [*]; done) | exact absurd c39 c62 | exact absurd c62 c39) (by first | (rw [fb_ct_succ]; simp [*]; done) | exact absurd c39 c62 | exact absurd c62 c39) (rfl)
      · have c39 := mt (nI_z (by have := (hk96 (12 * r + whS σ r i) (by omega)); omega)).mpr c39
        refine x_aload F 0 dX2_placeMoney_42 rfl ?_
        refine x_fget F f_X2_102 (hR.e w9.2 (by omega)) (v := .int (σ.2.1 28 (12 * r + whS σ r i))) dX2_placeMoney_44 rfl ?_
        refine x_iload_n F 6 dX2_placeMoney_47 rfl ?_
        refine x_icmp_le F 57 dX2_placeMoney_48 (by decide) (fun c48 => ?_) (fun c48 => ?_)
        · have c48 := Int32.not_lt.mpr c48
          refine x_aload F 0 dX2_placeMoney_57 rfl ?_
          refine x_fget F f_X2_81 (hR.e w9.2 (by omega)) (v := .int (nI (σ.1 27 (12 * r + whS σ r i)))) dX2_placeMoney_59 rfl ?_
          refine x_if_eq F 77 dX2_placeMoney_62 (by decide) (fun c62_2 => ?_) (fun c62_2 => ?_)
          · have c62_2 := (nI_z (by have := (hk96 (12 * r + whS σ r i) (by omega)); omega)).mp c62_2
            refine x_iinc F 1 [(5, .int (nI (i + 1))), (6, .ref (A (100 + (12 * r + whS σ r i)))), (4, .int (nI (fb_ct (fun e => decide (¬ σ.1 27 (12 * r + whS σ r e) = 0) && decide (σ.2.1 28 (12 * r + whS σ r e) = v)) i))), (3, .int (nI (fb_ct (fun e => decide (¬ σ.1 27 (12 * r + whS σ r e) = 0) && decide (v < σ.2.1 28 (12 * r + whS σ r e))) i))), (0, .ref (A (30 + r))), (1, .int (nI (pt))), (2, .int (v))] dX2_placeMoney_77 rfl (iincN (i) 1) (by decide) rfl ?_
            refine x_goto F 8 dX2_placeMoney_80 (by decide) ?_
            refine x_sub [0, 2, 3, 4, 5, 6] rfl (L' := [(5, .int (nI (i + 1))), (4, .int (nI (fb_ct (fun e => decide (¬ σ.1 27 (12 * r + whS σ r e) = 0) && decide (σ.2.1 28 (12 * r + whS σ r e) = v)) i))), (3, .int (nI (fb_ct (fun e => decide (¬ σ.1 27 (12 * r + whS σ r e) = 0) && decide (v < σ.2.1 28 (12 * r + whS σ r e))) i))), (0, .ref (A (30 + r))), (1, .int (nI (pt))), (2, .int (v))]) ?_
            exact ihi (by omega) _ _ _ (by first | (rw [fb_ct_succ]; simp [*]; done) | exact absurd c39 c62 | exact absurd c62 c39) (by first | (rw [fb_ct_succ]; simp [*]; done) | exact absurd c39 c62 | exact absurd c62 c39) (rfl)
          · have c62_2 := mt (nI_z (by have := (hk96 (12 * r + whS σ r i) (by omega)); omega)).mpr c62_2
            refine x_aload F 0 dX2_placeMoney_65 rfl ?_
            refine x_fget F f_X2_102 (hR.e w9.2 (by omega)) (v := .int (σ.2.1 28 (12 * r + whS σ r i))) dX2_placeMoney_67 rfl ?_
            refine x_iload_n F 6 dX2_placeMoney_70 rfl ?_
            refine x_icmp_ne F 77 dX2_placeMoney_71 (by decide) (fun c71_2 => ?_) (fun c71_2 => ?_)
            · refine x_iinc F 1 [(5, .int (nI (i + 1))), (6, .ref (A (100 + (12 * r + whS σ r i)))), (4, .int (nI (fb_ct (fun e => decide (¬ σ.1 27 (12 * r + whS σ r e) = 0) && decide (σ.2.1 28 (12 * r + whS σ r e) = v)) i))), (3, .int (nI (fb_ct (fun e => decide (¬ σ.1 27 (12 * r + whS σ r e) = 0) && decide (v < σ.2.1 28 (12 * r + whS σ r e))) i))), (0, .ref (A (30 + r))), (1, .int (nI (pt))), (2, .int (v))] dX2_placeMoney_77 rfl (iincN (i) 1) (by decide) rfl ?_
              refine x_goto F 8 dX2_placeMoney_80 (by decide) ?_
              refine x_sub [0, 2, 3, 4, 5, 6] rfl (L' := [(5, .int (nI (i + 1))), (4, .int (nI (fb_ct (fun e => decide (¬ σ.1 27 (12 * r + whS σ r e) = 0) && decide (σ.2.1 28 (12 * r + whS σ r e) = v)) i))), (3, .int (nI (fb_ct (fun e => decide (¬ σ.1 27 (12 * r + whS σ r e) = 0) && decide (v < σ.2.1 28 (12 * r + whS σ r e))) i))), (0, .ref (A (30 + r))), (1, .int (nI (pt))), (2, .int (v))]) ?_
              exact ihi (by omega) _ _ _ (by first | (rw [fb_ct_succ]; simp [*]; done) | exact absurd c39 c62 | exact absurd c62 c39) (by first | (rw [fb_ct_succ]; simp [*]; done) | exact absurd c39 c62 | exact absurd c62 c39) (rfl)
            · refine x_iinc F 2 [(4, .int (nI (fb_ct (fun e => decide (¬ σ.1 27 (12 * r + whS σ r e) = 0) && decide (σ.2.1 28 (12 * r + whS σ r e) = v)) i + 1))), (6, .ref (A (100 + (12 * r + whS σ r i)))), (5, .int (nI (i))), (3, .int (nI (fb_ct (fun e => decide (¬ σ.1 27 (12 * r + whS σ r e) = 0) && decide (v < σ.2.1 28 (12 * r + whS σ r e))) i))), (0, .ref (A (30 + r))), (1, .int (nI (pt))), (2, .int (v))] dX2_placeMoney_74 rfl (iincN (fb_ct (fun e => decide (¬ σ.1 27 (12 * r + whS σ r e) = 0) && decide (σ.2.1 28 (12 * r + whS σ r e) = v)) i) 1) (by decide) rfl ?_
              refine x_iinc F 2 [(5, .int (nI (i + 1))), (4, .int (nI (fb_ct (fun e => decide (¬ σ.1 27 (12 * r + whS σ r e) = 0) && decide (σ.2.1 28 (12 * r + whS σ r e) = v)) i + 1))), (6, .ref (A (100 + (12 * r + whS σ r i)))), (3, .int (nI (fb_ct (fun e => decide (¬ σ.1 27 (12 * r + whS σ r e) = 0) && decide (v < σ.2.1 28 (12 * r + whS σ r e))) i))), (0, .ref (A (30 + r))), (1, .int (nI (pt))), (2, .int (v))] dX2_placeMoney_77 rfl (iincN (i) 1) (by decide) rfl ?_
              refine x_goto F 8 dX2_placeMoney_80 (by decide) ?_
              refine x_sub [0, 1, 3, 4, 5, 6] rfl (L' := [(5, .int (nI (i + 1))), (4, .int (nI (fb_ct (fun e => decide (¬ σ.1 27 (12 * r + whS σ r e) = 0) && decide (σ.2.1 28 (12 * r + whS σ r e) = v)) i + 1))), (3, .int (nI (fb_ct (fun e => decide (¬ σ.1 27 (12 * r + whS σ r e) = 0) && decide (v < σ.2.1 28 (12 * r + whS σ r e))) i))), (0, .ref (A (30 + r))), (1, .int (nI (pt))), (2, .int (v))]) ?_
              exact ihi (by omega) _ _ _ (by first | (rw [fb_ct_succ]; simp [*]; done) | exact absurd c39 c62 | exact absurd c62 c39) (by first | (rw [fb_ct_succ]; simp [*]; done) | exact absurd c39 c62 | exact absurd c62 c39) (rfl)
        · have c48 := Int32.not_le.mp c48
          have c48n : ¬ σ.2.1 28 (12 * r + whS σ r i) = v := fun z => by (rw [z] at c48; exact Int32.lt_irrefl c48)
          refine x_iinc F 3 [(3, .int (nI (fb_ct (fun e => decide (¬ σ.1 27 (12 * r + whS σ r e) = 0) && decide (v < σ.2.1 28 (12 * r + whS σ r e))) i + 1))), (6, .ref (A (100 + (12 * r + whS σ r i)))), (5, .int (nI (i))), (4, .int (nI (fb_ct (fun e => decide (¬ σ.1 27 (12 * r + whS σ r e) = 0) && decide (σ.2.1 28 (12 * r + whS σ r e) = v)) i))), (0, .ref (A (30 + r))), (1, .int (nI (pt))), (2, .int (v))] dX2_placeMoney_51 rfl (iincN (fb_ct (fun e => decide (¬ σ.1 27 (12 * r + whS σ r e) = 0) && decide (v < σ.2.1 28 (12 * r + whS σ r e))) i) 1) (by decide) rfl ?_
          refine x_goto F 77 dX2_placeMoney_54 (by decide) ?_
          refine x_iinc F 2 [(5, .int (nI (i + 1))), (3, .int (nI (fb_ct (fun e => decide (¬ σ.1 27 (12 * r + whS σ r e) = 0) && decide (v < σ.2.1 28 (12 * r + whS σ r e))) i + 1))), (6, .ref (A (100 + (12 * r + whS σ r i)))), (4, .int (nI (fb_ct (fun e => decide (¬ σ.1 27 (12 * r + whS σ r e) = 0) && decide (σ.2.1 28 (12 * r + whS σ r e) = v)) i))), (0, .ref (A (30 + r))), (1, .int (nI (pt))), (2, .int (v))] dX2_placeMoney_77 rfl (iincN (i) 1) (by decide) rfl ?_
          refine x_goto F 8 dX2_placeMoney_80 (by decide) ?_
          refine x_sub [0, 3, 1, 4, 5, 6] rfl (L' := [(5, .int (nI (i + 1))), (4, .int (nI (fb_ct (fun e => decide (¬ σ.1 27 (12 * r + whS σ r e) = 0) && decide (σ.2.1 28 (12 * r + whS σ r e) = v)) i))), (3, .int (nI (fb_ct (fun e => decide (¬ σ.1 27 (12 * r + whS σ r e) = 0) && decide (v < σ.2.1 28 (12 * r + whS σ r e))) i + 1))), (0, .ref (A (30 + r))), (1, .int (nI (pt))), (2, .int (v))]) ?_
          exact ihi (by omega) _ _ _ (by first | (rw [fb_ct_succ]; simp [*]; done) | exact absurd c39 c62 | exact absurd c62 c39) (by first | (rw [fb_ct_succ]; simp [*]; done) | exact absurd c39 c62 | exact absurd c62 c39) (rfl)
  exact LP8 0 (by omega) _ _ _ (rfl) (rfl) (rfl)
