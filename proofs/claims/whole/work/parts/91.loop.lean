/-! the law's loop -/
theorem and31 (x9 : Int32) : ∃ q : Nat, q < 32 ∧ x9 &&& nI 31 = nI q := by
  refine ⟨(x9 &&& nI 31).toBitVec.toNat, ?_, ?_⟩
  · have h : (x9 &&& nI 31).toBitVec = x9.toBitVec &&& (nI 31).toBitVec := rfl
    rw [h, BitVec.toNat_and]
    exact Nat.and_lt_two_pow (n := 5) _ (by decide)
  · apply Int32.toBitVec_inj.mp
    rw [show (nI (x9 &&& nI 31).toBitVec.toNat).toBitVec = BitVec.ofNat 32 (x9 &&& nI 31).toBitVec.toNat from rfl, BitVec.ofNat_toNat, BitVec.setWidth_eq]
set_option maxHeartbeats 4000000 in
set_option maxRecDepth 100000 in
theorem law_loop {K : KX} {g : GP} {Q : State → Prop} {m : Nat → Nat} {b0 L0 o a0 : Nat} {xs : Nat → Int32} {hh9 : List (Nat × Nat × Nat × Nat)} (F : Fx K g cL_law RL 7 (some .boolean) hh9 12 460 601024 7293034) (hX : va_X b0 L0 xs (ks K) (ks K).heap) (hbl : b0 < (ks K).heap.size) (hbA : ¬ gO g b0) (hL0 : L0 ≤ 4096)
    (hEnd : ∀ M a b L, a ≤ 601024 → b ≤ 7293034 → XW K g 7 Q M a b 1554 L []) : ∀ i, i ≤ L0 / 8 → ∀ A σ M, A 0 = a0 → LJ g A m σ M o → Inv i σ → XW K g 7 Q M (100 + 100 * i) (3000 + 1000 * i) 23 [(4, .int (nI (8 * i))), (3, .ref o), (2, .ref (m 0)), (1, .ref a0), (0, .ref b0)] [] := by
  refine x_loop (L0 / 8) _ (fun i hi0 ih => ?_)
  intro A σ M hA hJ hI
  subst hA
  refine x_iload F 0 dL_law_23 rfl ?_
  refine x_aload_n F 4 dL_law_25 rfl ?_
  refine x_slen F hX hbl hbA dL_law_26 ?_
  refine x_ri0 (y := nI L0) rfl ?_
  refine x_bipush F (nI 8) dL_law_27 (by decide) ?_
  refine x_isub F dL_law_29 ?_
  refine x_icmp_gt F 1554 dL_law_30 (by decide) (fun c => ?_) (fun c => ?_)
  · exact hEnd M _ _ _ (by omega) (by omega)
  have hi : 8 * i + 8 ≤ L0 := by
    have c1 := mt Int32.lt_iff_toInt_lt.mpr c
    rw [pk_sub_toInt (by omega) (by decide), nI_toInt (by omega)] at c1
    omega
  refine x_aload_n F 4 dL_law_33 rfl ?_
  refine x_iload F 0 dL_law_34 rfl ?_
  refine x_sld F hX hbl hbA (vp_in_nI (n := 8 * i) (by omega) (by omega)) dL_law_36 ?_
  refine x_bipush F (nI 31) dL_law_37 (by decide) ?_
  refine x_iand F dL_law_39 ?_
  obtain ⟨q, hq, eq⟩ := and31 (xs (nI (8 * i)).toNatClampNeg)
  refine x_ri0 (y := nI q) eq ?_
  have hN : ∀ A3 σ3 M3, A3 0 = A 0 → LJ g A3 m σ3 M3 o → Inv (i + 1) σ3 → XW K g 7 Q M3 (100 + 100 * i + 100) (3000 + 1000 * i + 1000) 1548 [(4, .int (nI (8 * i))), (3, .ref o), (2, .ref (m 0)), (1, .ref (A 0)), (0, .ref b0)] [] := by
    intro A3 σ3 M3 hA3 hJ3 hI3
    refine x_iinc F 0 [(4, .int (nI (8 * i + 8))), (3, .ref o), (2, .ref (m 0)), (1, .ref (A 0)), (0, .ref b0)] dL_law_1548 rfl (iincN (8 * i) 8) (by decide) rfl ?_
    refine x_goto F 23 dL_law_1551 (by decide) ?_
    have h9 := ih (by omega) A3 σ3 M3 hA3 hJ3 hI3
    rw [show 100 + 100 * (i + 1) = 100 + 100 * i + 100 by omega, show 3000 + 1000 * (i + 1) = 3000 + 1000 * i + 1000 by omega, show 8 * (i + 1) = 8 * i + 8 by omega] at h9
    exact h9
  by_cases q0 : q = 0
  · subst q0
    refine x_tableIn F 140 dL_law_40 (by decide) (by decide) rfl (by decide) ?_
    exact blk_beast F hX hbl hbA hL0 hi (by omega) (by omega) hJ hI hN
  by_cases q1 : q = 1
  · subst q1
    refine x_tableIn F 196 dL_law_40 (by decide) (by decide) rfl (by decide) ?_
    exact blk_rider F hX hbl hbA hL0 hi (by omega) (by omega) hJ hI hN
  by_cases q2 : q = 2
  · subst q2
    refine x_tableIn F 240 dL_law_40 (by decide) (by decide) rfl (by decide) ?_
    exact blk_rodeo F hX hbl hbA hL0 hi (by omega) (by omega) hJ hI hN
  by_cases q3 : q = 3
  · subst q3
    refine x_tableIn F 372 dL_law_40 (by decide) (by decide) rfl (by decide) ?_
    exact blk_rodeoIs F hX hbl hbA hL0 hi (by omega) (by omega) hJ hI hN
  by_cases q4 : q = 4
  · subst q4
    refine x_tableIn F 440 dL_law_40 (by decide) (by decide) rfl (by decide) ?_
    exact blk_enter F hX hbl hbA hL0 hi (by omega) (by omega) hJ hI hN
  by_cases q5 : q = 5
  · subst q5
    refine x_tableIn F 532 dL_law_40 (by decide) (by decide) rfl (by decide) ?_
    exact blk_close F hX hbl hbA hL0 hi (by omega) (by omega) hJ hI hN
  by_cases q6 : q = 6
  · subst q6
    refine x_tableIn F 588 dL_law_40 (by decide) (by decide) rfl (by decide) ?_
    exact blk_placed F hX hbl hbA hL0 hi (by omega) (by omega) hJ hI hN
  by_cases q7 : q = 7
  · subst q7
    refine x_tableIn F 656 dL_law_40 (by decide) (by decide) rfl (by decide) ?_
    exact blk_most F hX hbl hbA hL0 hi (by omega) (by omega) hJ hI hN
  by_cases q8 : q = 8
  · subst q8
    refine x_tableIn F 712 dL_law_40 (by decide) (by decide) rfl (by decide) ?_
    exact blk_hide F hX hbl hbA hL0 hi (by omega) (by omega) hJ hI hN
  by_cases q9 : q = 9
  · subst q9
    refine x_tableIn F 748 dL_law_40 (by decide) (by decide) rfl (by decide) ?_
    exact blk_draw F hX hbl hbA hL0 hi (by omega) (by omega) hJ hI hN
  by_cases q10 : q = 10
  · subst q10
    refine x_tableIn F 804 dL_law_40 (by decide) (by decide) rfl (by decide) ?_
    exact blk_drawn F hX hbl hbA hL0 hi (by omega) (by omega) hJ hI hN
  by_cases q11 : q = 11
  · subst q11
    refine x_tableIn F 872 dL_law_40 (by decide) (by decide) rfl (by decide) ?_
    exact blk_ride F hX hbl hbA hL0 hi (by omega) (by omega) hJ hI hN
  by_cases q12 : q = 12
  · subst q12
    refine x_tableIn F 992 dL_law_40 (by decide) (by decide) rfl (by decide) ?_
    exact blk_isOffered F hX hbl hbA hL0 hi (by omega) (by omega) hJ hI hN
  by_cases q13 : q = 13
  · subst q13
    refine x_tableIn F 1067 dL_law_40 (by decide) (by decide) rfl (by decide) ?_
    exact blk_answer F hX hbl hbA hL0 hi (by omega) (by omega) hJ hI hN
  by_cases q14 : q = 14
  · subst q14
    refine x_tableIn F 1163 dL_law_40 (by decide) (by decide) rfl (by decide) ?_
    exact blk_score F hX hbl hbA hL0 hi (by omega) (by omega) hJ hI hN
  by_cases q15 : q = 15
  · subst q15
    refine x_tableIn F 1231 dL_law_40 (by decide) (by decide) rfl (by decide) ?_
    exact blk_beastIs F hX hbl hbA hL0 hi (by omega) (by omega) hJ hI hN
  by_cases q16 : q = 16
  · subst q16
    refine x_tableIn F 1299 dL_law_40 (by decide) (by decide) rfl (by decide) ?_
    exact blk_pay F hX hbl hbA hL0 hi (by omega) (by omega) hJ hI hN
  by_cases q17 : q = 17
  · subst q17
    refine x_tableIn F 1355 dL_law_40 (by decide) (by decide) rfl (by decide) ?_
    exact blk_got F hX hbl hbA hL0 hi (by omega) (by omega) hJ hI hN
  by_cases q18 : q = 18
  · subst q18
    refine x_tableIn F 1423 dL_law_40 (by decide) (by decide) rfl (by decide) ?_
    exact blk_counts F hX hbl hbA hL0 hi (by omega) (by omega) hJ hI hN
  by_cases q19 : q = 19
  · subst q19
    refine x_tableIn F 1479 dL_law_40 (by decide) (by decide) rfl (by decide) ?_
    exact blk_ranked F hX hbl hbA hL0 hi (by omega) (by omega) hJ hI hN
  by_cases q20 : q = 20
  · subst q20
    refine x_tableIn F 1535 dL_law_40 (by decide) (by decide) rfl (by decide) ?_
    exact blk_balances F hX hbl hbA hL0 hi (by omega) (by omega) hJ hI hN
  refine x_tableOut F 1548 dL_law_40 (Or.inr (by rw [nI_toInt (by omega)]; omega)) (by decide) ?_
  refine x_widen (a' := 100 + 100 * i + 100) (b' := 3000 + 1000 * i + 1000) (by omega) (by omega) ?_
  exact hN A σ M rfl hJ (Inv_s hI)
