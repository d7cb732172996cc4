/-! where one is placed -/
theorem fit_t {σ : ST} {r j p : Nat} (h : (σ.1 20 (12 * r + j)).testBit p = true) (h2 : (decide (takS σ r (nI p) < σ.1 12 r) && getsS σ r j p) = true) : fitS σ r j p = true := by
  unfold fitS
  rw [Bool.and_assoc, h, h2]; rfl
theorem fit_1 {σ : ST} {r j p : Nat} (h : (σ.1 20 (12 * r + j)).testBit p = false) : fitS σ r j p = false := by
  unfold fitS
  rw [h]; rfl
theorem fit_2 {σ : ST} {r j p : Nat} (h2 : (decide (takS σ r (nI p) < σ.1 12 r) && getsS σ r j p) = false) : fitS σ r j p = false := by
  unfold fitS
  rw [Bool.and_assoc, h2, Bool.and_false]
theorem plc_t {σ : ST} {r j : Nat} {x0 : Nat} (h : fitS σ r j (σ.1 21 (12 * r + j)) = true) (e : σ.1 21 (12 * r + j) = x0) : plcS σ r j = nI x0 := by
  unfold plcS
  rw [if_pos h, e]
theorem plc_f {σ : ST} {r j : Nat} (h : fitS σ r j (σ.1 21 (12 * r + j)) = false) : plcS σ r j = fF (fitS σ r j) 0 (σ.1 11 r) := by
  unfold plcS
  rw [if_neg (by rw [h]; exact Bool.false_ne_true)]
theorem fF_no {f : Nat → Bool} {i n : Nat} (h : i < n) (hf : f i = false) : fF f i (n - i) = fF f (i + 1) (n - (i + 1)) := by
  have e : n - i = n - (i + 1) + 1 := by omega
  rw [e]
  simp only [fF]
  rw [if_neg (by rw [hf]; exact Bool.false_ne_true)]
theorem fF_yes {f : Nat → Bool} {i n : Nat} (h : i < n) (hf : f i = true) : fF f i (n - i) = nI i := by
  have e : n - i = n - (i + 1) + 1 := by omega
  rw [e]
  simp only [fF]
  rw [if_pos hf]
def wayS (σ : ST) (r j st9 p : Nat) : Bool := (σ.1 20 (12 * r + j)).testBit p && !st9.testBit p && getsS σ r j p
def hwoS (σ : ST) (r j st9 : Nat) : Bool := anyB (wayS σ r j st9) (σ.1 11 r)
theorem way_1 {σ : ST} {r j st9 p : Nat} (h : ((σ.1 20 (12 * r + j)).testBit p && !st9.testBit p) = false) : (false || wayS σ r j st9 p) = false := by unfold wayS; rw [h]; rfl
theorem way_3 {σ : ST} {r j st9 p : Nat} (h : getsS σ r j p = false) : (false || wayS σ r j st9 p) = false := by unfold wayS; rw [h]; simp
theorem way_t {σ : ST} {r j st9 p : Nat} (h : ((σ.1 20 (12 * r + j)).testBit p && !st9.testBit p) = true) (h2 : getsS σ r j p = true) : wayS σ r j st9 p = true := by unfold wayS; rw [h, h2]; rfl
set_option maxHeartbeats 4000000 in
set_option maxRecDepth 100000 in
theorem c_X3_performanceFor {l : Launch} (hl : l.stackTraces = false) {g : GP} {M : MM} {A : Nat → Nat} {M0 : MM} {σ : ST} {r k j : Nat} (hR : CM g A M0 σ M) (hB : Bd σ) (hW : IW σ) (hD : ID σ) (hr : r < σ.1 18 0) (hkj : k = 12 * r + j) (hj : j < 12) (he : σ.1 41 k = 1) (hwi : (σ.1 20 k).testBit (σ.1 21 k) = true) : CT l g yX3_performanceFor cX3_performanceFor 4 (some .int) 6 166 0 0 [.ref (A 0), .ref (A (30 + r)), .ref (A (100 + k))] M (pI (fun r9 M9 => plcS σ r j = r9 ∧ M = M9)) nX := by
  refine ct_of [(0, .ref (A 0)), (1, .ref (A (30 + r))), (2, .ref (A (100 + k)))] (by decide) hl (Nat.le_of_ble_eq_true rfl) rfl ?_
  intro K hK F
  subst hK
  have F : Fx K g cX3_performanceFor RX3 4 (some .int) [] 6 166 0 0 := F
  obtain ⟨Q, hQ⟩ : ∃ Q, Q = MQx K g (pI (fun r9 M9 => plcS σ r j = r9 ∧ M = M9)) nX 0 0 := ⟨_, rfl⟩
  rw [← hQ]
  have hB9 := hB
  obtain ⟨h6, h7, h18, hr8, hk96, hp96, hb16, hh⟩ := hB9
  have b1 := hr8 r (by omega)
  have b2 := hk96 k (by omega)
  refine x_aload_n F 0 dX3_performanceFor_0 rfl ?_
  refine x_aload_n F 1 dX3_performanceFor_1 rfl ?_
  refine x_aload_n F 2 dX3_performanceFor_2 rfl ?_
  refine x_fget F f_X3_262 (hR.e he (by omega)) (v := .int (nI (k % 12))) dX3_performanceFor_3 rfl ?_
  refine x_ri0 (y := nI (j)) (congrArg nI (by omega)) ?_
  refine x_aload_n F 2 dX3_performanceFor_6 rfl ?_
  refine x_fget F f_X3_265 (hR.e he (by omega)) (v := .int (nI (σ.1 21 k))) dX3_performanceFor_7 rfl ?_
  refine x_callV F s_X3_268 hR.c rfl rfl (c_X3_canBePlaced F.nt hR hB hW hD (by omega) (by omega) (by omega) (j := j)) rfl dX3_performanceFor_10 (by decide) (by decide) (Nat.le_of_ble_eq_true rfl) x_noX (ki fun r M2 hp => ?_)
  obtain ⟨rfl, rfl⟩ := hp
  refine x_if_eq F 21 dX3_performanceFor_13 (by decide) (fun c13 => ?_) (fun c13 => ?_)
  · have c13 := nI_bz0.mp c13
    have g13 : plcS σ r j = fF (fitS σ r j) 0 (σ.1 11 r) := plc_f (by rw [← hkj]; exact fit_2 c13)
    refine x_iconst F (nI 0) dX3_performanceFor_21 (by decide) ?_
    refine x_istore_n F [(3, .int (nI (0))), (0, .ref (A 0)), (1, .ref (A (30 + r))), (2, .ref (A (100 + k)))] dX3_performanceFor_22 (by decide) rfl ?_
    have LP23 : ∀ i, i ≤ (σ.1 11 r) → ∀ (v23_3 : Int32), v23_3 = nI (i) → fF (fitS σ r j) 0 (σ.1 11 r) = fF (fitS σ r j) i (σ.1 11 r - i) → XW K g 4 Q M 0 0 23 [(3, .int (v23_3)), (0, .ref (A 0)), (1, .ref (A (30 + r))), (2, .ref (A (100 + k)))] [] := by
      refine x_loop ((σ.1 11 r)) _ (fun i hi ihi => ?_)
      intro v23_3 e23_3 hff
      subst e23_3
      refine x_iload_n F 0 dX3_performanceFor_23 rfl ?_
      refine x_aload_n F 2 dX3_performanceFor_24 rfl ?_
      refine x_fget F f_X3_100 (hR.r (by omega : r < σ.1 18 0) (by omega)) (v := .int (nI (σ.1 11 r))) dX3_performanceFor_25 rfl ?_
      refine x_icmp_ge F 63 dX3_performanceFor_28 (by decide) (fun c28 => ?_) (fun c28 => ?_)
      · have c28 := (nI_leI (by omega) (by omega)).mp c28
        have c28b := Nat.not_lt.mpr c28
        refine x_iconst F ((-1)) dX3_performanceFor_63 (by decide) ?_
        rw [hQ]
        exact x_iret F dX3_performanceFor_64 (by decide) ⟨_, rfl, (g13.trans (hff.trans (by rw [show σ.1 11 r - i = 0 by omega]; rfl))), rfl⟩
      · have c28 := mt (nI_leI (by omega) (by omega)).mpr c28
        have c28b := Nat.not_le.mp c28
        refine x_aload_n F 3 dX3_performanceFor_31 rfl ?_
        refine x_fget F f_X3_272 (hR.e he (by omega)) (v := .int (nI (σ.1 20 k))) dX3_performanceFor_32 rfl ?_
        refine x_iload_n F 0 dX3_performanceFor_35 rfl ?_
        refine x_callS F s_X3_105 rfl (c_X3_isInSet F.nt (by omega) (by omega)) rfl dX3_performanceFor_36 (by decide) (by decide) (Nat.le_of_ble_eq_true rfl) x_noX (ki fun r_2 M2_2 hp_2 => ?_)
        obtain ⟨rfl, rfl⟩ := hp_2
        refine x_if_eq F 57 dX3_performanceFor_39 (by decide) (fun c39 => ?_) (fun c39 => ?_)
        · have c39 := nI_bz0.mp c39
          refine x_iinc F 0 [(3, .int (nI (i + 1))), (0, .ref (A 0)), (1, .ref (A (30 + r))), (2, .ref (A (100 + k)))] dX3_performanceFor_57 rfl (iincN (i) 1) (by decide) rfl ?_
          refine x_goto F 23 dX3_performanceFor_60 (by decide) ?_
          exact ihi (by omega) _ (rfl) (by first | exact hff.trans (fF_no (by omega) (fit_1 (by rw [← hkj]; exact c39))) | exact hff.trans (fF_no (by omega) (fit_2 c52)))
        · have c39 := nI_bz1.mp c39
          refine x_aload_n F 1 dX3_performanceFor_42 rfl ?_
          refine x_aload_n F 2 dX3_performanceFor_43 rfl ?_
          refine x_aload_n F 3 dX3_performanceFor_44 rfl ?_
          refine x_fget F f_X3_262 (hR.e he (by omega)) (v := .int (nI (k % 12))) dX3_performanceFor_45 rfl ?_
          refine x_ri0 (y := nI (j)) (congrArg nI (by omega)) ?_
          refine x_iload_n F 0 dX3_performanceFor_48 rfl ?_
          refine x_callV F s_X3_268 hR.c rfl rfl (c_X3_canBePlaced F.nt hR hB hW hD (by omega) (by omega) (by omega)) rfl dX3_performanceFor_49 (by decide) (by decide) (Nat.le_of_ble_eq_true rfl) x_noX (ki fun r_3 M2_3 hp_3 => ?_)
          obtain ⟨rfl, rfl⟩ := hp_3
          refine x_if_eq F 57 dX3_performanceFor_52 (by decide) (fun c52 => ?_) (fun c52 => ?_)
          · have c52 := nI_bz0.mp c52
            refine x_iinc F 0 [(3, .int (nI (i + 1))), (0, .ref (A 0)), (1, .ref (A (30 + r))), (2, .ref (A (100 + k)))] dX3_performanceFor_57 rfl (iincN (i) 1) (by decide) rfl ?_
            refine x_goto F 23 dX3_performanceFor_60 (by decide) ?_
            exact ihi (by omega) _ (rfl) (by first | exact hff.trans (fF_no (by omega) (fit_1 (by rw [← hkj]; exact c39))) | exact hff.trans (fF_no (by omega) (fit_2 c52)))
          · have c52 := nI_bz1.mp c52
            refine x_iload_n F 0 dX3_performanceFor_55 rfl ?_
            rw [hQ]
            exact x_iret F dX3_performanceFor_56 (by decide) ⟨_, rfl, (g13.trans (hff.trans (fF_yes (by omega) (fit_t (by rw [← hkj]; exact c39) c52)))), rfl⟩
    exact LP23 0 (by omega) _ (rfl) (rfl)
  · have c13 := nI_bz1.mp c13
    refine x_aload_n F 2 dX3_performanceFor_16 rfl ?_
    refine x_fget F f_X3_265 (hR.e he (by omega)) (v := .int (nI (σ.1 21 k))) dX3_performanceFor_17 rfl ?_
    rw [hQ]
    exact x_iret F dX3_performanceFor_20 (by decide) ⟨_, rfl, (plc_t (by rw [← hkj]; exact fit_t (by rw [← hkj]; exact hwi) c13) (by rw [← hkj])), rfl⟩
set_option maxHeartbeats 4000000 in
set_option maxRecDepth 100000 in
theorem c_X3_hasWayOutside {l : Launch} (hl : l.stackTraces = false) {g : GP} {M : MM} {A : Nat → Nat} {M0 : MM} {σ : ST} {r k j st9 : Nat} (hR : CM g A M0 σ M) (hB : Bd σ) (hD : ID σ) (hr : r < σ.1 18 0) (hkj : k = 12 * r + j) (hj : j < 12) (he : σ.1 41 k = 1) (hst : st9 < 16) : CT l g yX3_hasWayOutside cX3_hasWayOutside 6 (some .boolean) 5 143 0 0 [.ref (A 0), .ref (A (30 + r)), .ref (A (100 + k)), .int (nI (st9))] M (pI (fun r9 M9 => nI (bz (hwoS σ r j st9)) = r9 ∧ M = M9)) nX := by
  refine ct_of [(0, .ref (A 0)), (1, .ref (A (30 + r))), (2, .ref (A (100 + k))), (3, .int (nI (st9)))] (by decide) hl (Nat.le_of_ble_eq_true rfl) rfl ?_
  intro K hK F
  subst hK
  have F : Fx K g cX3_hasWayOutside RX3 6 (some .boolean) [] 5 143 0 0 := F
  obtain ⟨Q, hQ⟩ : ∃ Q, Q = MQx K g (pI (fun r9 M9 => nI (bz (hwoS σ r j st9)) = r9 ∧ M = M9)) nX 0 0 := ⟨_, rfl⟩
  rw [← hQ]
  have hB9 := hB
  obtain ⟨h6, h7, h18, hr8, hk96, hp96, hb16, hh⟩ := hB9
  have b1 := hr8 r (by omega)
  have b2 := hk96 k (by omega)
  refine x_iconst F (nI 0) dX3_hasWayOutside_0 (by decide) ?_
  refine x_istore F [(4, .int (nI (0))), (0, .ref (A 0)), (1, .ref (A (30 + r))), (2, .ref (A (100 + k))), (3, .int (nI (st9)))] dX3_hasWayOutside_1 (by decide) rfl ?_
  have LP3 : ∀ i, i ≤ (σ.1 11 r) → ∀ (v3_4 : Int32), v3_4 = nI (i) → anyB (wayS σ r j st9) i = false → XW K g 6 Q M 0 0 3 [(4, .int (v3_4)), (0, .ref (A 0)), (1, .ref (A (30 + r))), (2, .ref (A (100 + k))), (3, .int (nI (st9)))] [] := by
    refine x_loop ((σ.1 11 r)) _ (fun i hi ihi => ?_)
    intro v3_4 e3_4 hany
    subst e3_4
    refine x_iload F 0 dX3_hasWayOutside_3 rfl ?_
    refine x_aload_n F 2 dX3_hasWayOutside_5 rfl ?_
    refine x_fget F f_X3_100 (hR.r (by omega : r < σ.1 18 0) (by omega)) (v := .int (nI (σ.1 11 r))) dX3_hasWayOutside_6 rfl ?_
    refine x_icmp_ge F 67 dX3_hasWayOutside_9 (by decide) (fun c9 => ?_) (fun c9 => ?_)
    · have c9 := (nI_leI (by omega) (by omega)).mp c9
      have c9b := Nat.not_lt.mpr c9
      refine x_iconst F (nI 0) dX3_hasWayOutside_67 (by decide) ?_
      rw [hQ]
      exact x_zret F dX3_hasWayOutside_68 (by decide) (Or.inl rfl) ⟨_, rfl, by (have h9 : i = σ.1 11 r := (by omega); rw [h9] at hany; rw [show hwoS σ r j st9 = false from hany]; rfl), rfl⟩
    · have c9 := mt (nI_leI (by omega) (by omega)).mpr c9
      have c9b := Nat.not_le.mp c9
      refine x_aload_n F 3 dX3_hasWayOutside_12 rfl ?_
      refine x_fget F f_X3_272 (hR.e he (by omega)) (v := .int (nI (σ.1 20 k))) dX3_hasWayOutside_13 rfl ?_
      refine x_iload F 0 dX3_hasWayOutside_16 rfl ?_
      refine x_callS F s_X3_105 rfl (c_X3_isInSet F.nt (by omega) (by omega)) rfl dX3_hasWayOutside_18 (by decide) (by decide) (Nat.le_of_ble_eq_true rfl) x_noX (ki fun r M2 hp => ?_)
      obtain ⟨rfl, rfl⟩ := hp
      have J38 : ∀ (vj : Int32), vj = nI (bz ((σ.1 20 k).testBit i && !st9.testBit i)) → XW K g 6 Q M 0 0 38 [(4, .int (nI (i))), (0, .ref (A 0)), (1, .ref (A (30 + r))), (2, .ref (A (100 + k))), (3, .int (nI (st9)))] [.int (vj)] := by
        intro vj ej38_vj
        subst ej38_vj
        refine x_istore F [(5, .int (nI (bz ((σ.1 20 k).testBit i && !st9.testBit i)))), (4, .int (nI (i))), (0, .ref (A 0)), (1, .ref (A (30 + r))), (2, .ref (A (100 + k))), (3, .int (nI (st9)))] dX3_hasWayOutside_38 (by decide) rfl ?_
        refine x_iload F 0 dX3_hasWayOutside_40 rfl ?_
        refine x_if_eq F 61 dX3_hasWayOutside_42 (by decide) (fun c42 => ?_) (fun c42 => ?_)
        · have c42 := nI_bz0.mp c42
          refine x_iinc F 1 [(4, .int (nI (i + 1))), (5, .int (nI (bz ((σ.1 20 k).testBit i && !st9.testBit i)))), (0, .ref (A 0)), (1, .ref (A (30 + r))), (2, .ref (A (100 + k))), (3, .int (nI (st9)))] dX3_hasWayOutside_61 rfl (iincN (i) 1) (by decide) rfl ?_
          refine x_goto F 3 dX3_hasWayOutside_64 (by decide) ?_
          refine x_sub [0, 2, 3, 4, 5] rfl (L' := [(4, .int (nI (i + 1))), (0, .ref (A 0)), (1, .ref (A (30 + r))), (2, .ref (A (100 + k))), (3, .int (nI (st9)))]) ?_
          exact ihi (by omega) _ (rfl) (by simp only [anyB]; rw [hany]; first | exact way_1 (by rw [← hkj]; exact c42) | exact way_3 c56)
        · have c42 := nI_bz1.mp c42
          refine x_aload_n F 2 dX3_hasWayOutside_45 rfl ?_
          refine x_aload_n F 3 dX3_hasWayOutside_46 rfl ?_
          refine x_aload_n F 4 dX3_hasWayOutside_47 rfl ?_
          refine x_fget F f_X3_262 (hR.e he (by omega)) (v := .int (nI (k % 12))) dX3_hasWayOutside_48 rfl ?_
          refine x_ri0 (y := nI (j)) (congrArg nI (by omega)) ?_
          refine x_iload F 1 dX3_hasWayOutside_51 rfl ?_
          refine x_callV F s_X3_278 hR.c rfl rfl (c_X3_canGet F.nt hR hB hD (by omega) (by omega) (by omega)) rfl dX3_hasWayOutside_53 (by decide) (by decide) (Nat.le_of_ble_eq_true rfl) x_noX (ki fun r_2 M2_2 hp_2 => ?_)
          obtain ⟨rfl, rfl⟩ := hp_2
          refine x_if_eq F 61 dX3_hasWayOutside_56 (by decide) (fun c56 => ?_) (fun c56 => ?_)
          · have c56 := nI_bz0.mp c56
            refine x_iinc F 1 [(4, .int (nI (i + 1))), (5, .int (nI (bz ((σ.1 20 k).testBit i && !st9.testBit i)))), (0, .ref (A 0)), (1, .ref (A (30 + r))), (2, .ref (A (100 + k))), (3, .int (nI (st9)))] dX3_hasWayOutside_61 rfl (iincN (i) 1) (by decide) rfl ?_
            refine x_goto F 3 dX3_hasWayOutside_64 (by decide) ?_
            refine x_sub [0, 2, 3, 4, 5] rfl (L' := [(4, .int (nI (i + 1))), (0, .ref (A 0)), (1, .ref (A (30 + r))), (2, .ref (A (100 + k))), (3, .int (nI (st9)))]) ?_
            exact ihi (by omega) _ (rfl) (by simp only [anyB]; rw [hany]; first | exact way_1 (by rw [← hkj]; exact c42) | exact way_3 c56)
          · have c56 := nI_bz1.mp c56
            refine x_iconst F (nI 1) dX3_hasWayOutside_59 (by decide) ?_
            rw [hQ]
            exact x_zret F dX3_hasWayOutside_60 (by decide) (Or.inr rfl) ⟨_, rfl, by (rw [show hwoS σ r j st9 = true from anyB_iff.mpr ⟨i, by omega, way_t (by rw [← hkj]; exact c42) c56⟩]; rfl), rfl⟩
      refine x_if_eq F 37 dX3_hasWayOutside_21 (by decide) (fun c21 => ?_) (fun c21 => ?_)
      · have c21 := nI_bz0.mp c21
        refine x_iconst F (nI 0) dX3_hasWayOutside_37 (by decide) ?_
        exact J38 _ (by first | (rw [c21]; rfl) | (rw [c21, c30]; rfl))
      · have c21 := nI_bz1.mp c21
        refine x_iload_n F 4 dX3_hasWayOutside_24 rfl ?_
        refine x_iload F 0 dX3_hasWayOutside_25 rfl ?_
        refine x_callS F s_X3_105 rfl (c_X3_isInSet F.nt (by omega) (by omega)) rfl dX3_hasWayOutside_27 (by decide) (by decide) (Nat.le_of_ble_eq_true rfl) x_noX (ki fun r_3 M2_3 hp_3 => ?_)
        obtain ⟨rfl, rfl⟩ := hp_3
        refine x_if_ne F 37 dX3_hasWayOutside_30 (by decide) (fun c30 => ?_) (fun c30 => ?_)
        · have c30 := nI_bz1.mp c30
          refine x_iconst F (nI 0) dX3_hasWayOutside_37 (by decide) ?_
          exact J38 _ (by first | (rw [c21]; rfl) | (rw [c21, c30]; rfl))
        · have c30 := nI_bz0.mp c30
          refine x_iconst F (nI 1) dX3_hasWayOutside_33 (by decide) ?_
          refine x_goto F 38 dX3_hasWayOutside_34 (by decide) ?_
          exact J38 _ (by first | (rw [c21]; rfl) | (rw [c21, c30]; rfl))
  exact LP3 0 (by omega) _ (rfl) (rfl)
