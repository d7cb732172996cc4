/-! paying out, entry by entry -/
theorem shC_pt {pt f0 b0 : Nat} (hp : pt ≤ 200000) : shC pt f0 b0 4 ≤ pt := by
  have h0 : (if f0 ≤ 0 ∧ 0 < b0 then pt * (40 - 10 * 0) / 100 else 0) ≤ pt * 40 / 100 := by split <;> omega
  have h1 : (if f0 ≤ 1 ∧ 1 < b0 then pt * (40 - 10 * 1) / 100 else 0) ≤ pt * 30 / 100 := by split <;> omega
  have h2 : (if f0 ≤ 2 ∧ 2 < b0 then pt * (40 - 10 * 2) / 100 else 0) ≤ pt * 20 / 100 := by split <;> omega
  have h3 : (if f0 ≤ 3 ∧ 3 < b0 then pt * (40 - 10 * 3) / 100 else 0) ≤ pt * 10 / 100 := by split <;> omega
  simp only [shC]
  omega
theorem plM_le {σ : ST} {r pt : Nat} {v : Int32} (hp : pt ≤ 200000) : plM σ r pt v ≤ pt := Nat.le_trans (Nat.div_le_self _ _) (shC_pt hp)
theorem potR_le {σ : ST} {r : Nat} (hB : Bd σ) (hr : r < σ.1 18 0) : potS σ r ≤ 111987 := by
  obtain ⟨h6, h7, h18, hr8, -⟩ := hB
  have b1 := hr8 r (by omega)
  unfold potS
  split
  · exact Nat.zero_le _
  · have h1 : plIn σ r ≤ 12 := fb_ct_le _ _
    have h2 : σ.1 14 r * plIn σ r ≤ 999 * 12 := Nat.mul_le_mul b1.2.2.2.2.2.1 h1
    omega
def grS (σ : ST) (r : Nat) : Nat := shC (potS σ r) (ccN σ r) 4 4 / ccN σ r
theorem grS_le {σ : ST} {r : Nat} (hB : Bd σ) (hr : r < σ.1 18 0) : grS σ r ≤ 111987 := Nat.le_trans (Nat.div_le_self _ _) (Nat.le_trans (shC_pt (Nat.le_trans (potR_le hB hr) (by omega))) (potR_le hB hr))
def pyE (σ : ST) (r pt gr : Nat) : Nat → ST
  | 0 => σ
  | e + 1 => if σ.1 27 (12 * r + whS σ r e) = 0 then pyE σ r pt gr e else uN (pyE σ r pt gr e) 29 (12 * r + whS σ r e) (plM σ r pt (σ.2.1 28 (12 * r + whS σ r e)) + gr)
def lfE (σ : ST) (r pt gr : Nat) : Nat → Int32
  | 0 => nI pt
  | e + 1 => if σ.1 27 (12 * r + whS σ r e) = 0 then lfE σ r pt gr e else lfE σ r pt gr e - nI (plM σ r pt (σ.2.1 28 (12 * r + whS σ r e)) + gr)
def pyU (σ : ST) (r : Nat) : ST := uN (uR (pyE σ r (potS σ r) (grS σ r) (σ.1 17 r)) 16 r (lfE σ r (potS σ r) (grS σ r) (σ.1 17 r))) 15 r 3
theorem pyE_n {σ : ST} {r pt gr e : Nat} (h : σ.1 27 (12 * r + whS σ r e) = 0) : pyE σ r pt gr (e + 1) = pyE σ r pt gr e := if_pos h
theorem pyE_y {σ : ST} {r pt gr e : Nat} (h : ¬ σ.1 27 (12 * r + whS σ r e) = 0) : pyE σ r pt gr (e + 1) = uN (pyE σ r pt gr e) 29 (12 * r + whS σ r e) (plM σ r pt (σ.2.1 28 (12 * r + whS σ r e)) + gr) := if_neg h
theorem lfE_n {σ : ST} {r pt gr e : Nat} (h : σ.1 27 (12 * r + whS σ r e) = 0) : lfE σ r pt gr (e + 1) = lfE σ r pt gr e := if_pos h
theorem lfE_y {σ : ST} {r pt gr e : Nat} (h : ¬ σ.1 27 (12 * r + whS σ r e) = 0) : lfE σ r pt gr (e + 1) = lfE σ r pt gr e - nI (plM σ r pt (σ.2.1 28 (12 * r + whS σ r e)) + gr) := if_neg h
theorem pyE_N {σ : ST} {r pt gr s q : Nat} (h : ¬ s = 29) : ∀ e, (pyE σ r pt gr e).1 s q = σ.1 s q
  | 0 => rfl
  | e + 1 => by
    unfold pyE
    split
    · exact pyE_N h e
    · have ih := pyE_N (σ := σ) (r := r) (pt := pt) (gr := gr) (q := q) h e
      simp only [uN, h, false_and, if_false]
      exact ih
theorem pyE_R {σ : ST} {r pt gr : Nat} : ∀ e, (pyE σ r pt gr e).2 = σ.2
  | 0 => rfl
  | e + 1 => by
    unfold pyE
    split
    · exact pyE_R e
    · exact pyE_R e
theorem IW_of {σ σ' : ST} (h : ∀ s q, s = 17 ∨ s = 18 ∨ s = 19 ∨ s = 41 → σ'.1 s q = σ.1 s q) (hW : IW σ) : IW σ' := by
  intro r hr
  have e17 : ∀ q, σ'.1 17 q = σ.1 17 q := fun q => h 17 q (by omega)
  have e18 : ∀ q, σ'.1 18 q = σ.1 18 q := fun q => h 18 q (by omega)
  have e41 : ∀ q, σ'.1 41 q = σ.1 41 q := fun q => h 41 q (by omega)
  have ew : whS σ' = whS σ := by funext r e; exact h 19 _ (by omega)
  rw [e17, ew]
  simp only [e41]
  exact hW r (by rw [← e18]; exact hr)
theorem plM_of {σ σ' : ST} {r pt : Nat} {v : Int32} (h : ∀ s q, ¬ s = 29 → σ'.1 s q = σ.1 s q) (h2 : σ'.2 = σ.2) : plM σ' r pt v = plM σ r pt v := by
  have e17 : ∀ q, σ'.1 17 q = σ.1 17 q := fun q => h 17 q (by omega)
  have e27 : ∀ q, σ'.1 27 q = σ.1 27 q := fun q => h 27 q (by omega)
  have ew : whS σ' = whS σ := by funext r e; exact h 19 _ (by omega)
  unfold plM betE likE
  simp only [e17, e27, ew, h2]
theorem Bd_py {σ : ST} {r : Nat} (hB : Bd σ) (hr : r < σ.1 18 0) (_ : ID σ) : ∀ e, Bd (pyE σ r (potS σ r) (grS σ r) e)
  | 0 => hB
  | e + 1 => by
    have ih := Bd_py hB hr (by assumption) e
    have h1 := potR_le hB hr
    have h2 := grS_le hB hr
    unfold pyE
    split
    · exact ih
    · obtain ⟨h6, h7, h18, hr8, hk96, hp96, hb16, hh⟩ := ih
      refine ⟨h6, h7, h18, hr8, fun k hk => ?_, hp96, hb16, hh⟩
      have h3 : plM σ r (potS σ r) (σ.2.1 28 (12 * r + whS σ r e)) ≤ potS σ r := plM_le (by omega)
      obtain ⟨a1, a2, a3, a4, a5, a6, a7, a8⟩ := hk96 k hk
      refine ⟨a1, a2, a3, a4, a5, a6, a7, ?_⟩
      simp only [uN]
      split
      · omega
      · exact a8
set_option maxHeartbeats 4000000 in
set_option maxRecDepth 100000 in
theorem c_X2_payOut {l : Launch} (hl : l.stackTraces = false) {g : GP} {M : MM} {A : Nat → Nat} {M0 : MM} {σ : ST} {r : Nat} (hR : CM g A M0 σ M) (hB : Bd σ) (hW : IW σ) (hD : ID σ) (hr : r < σ.1 18 0) : CT l g yX2_payOut cX2_payOut 7 (none : Option Jvm.ClassFile.FieldType) 7 177 0 0 [.ref (A (30 + r))] M (pV (fun M9 => CM g A M0 (pyU σ r) M9)) nX := by
  refine ct_of [(0, .ref (A (30 + r)))] (by decide) hl (Nat.le_of_ble_eq_true rfl) rfl ?_
  intro K hK F
  subst hK
  have F : Fx K g cX2_payOut RX2 7 (none : Option Jvm.ClassFile.FieldType) [] 7 177 0 0 := F
  obtain ⟨Q, hQ⟩ : ∃ Q, Q = MQx K g (pV (fun M9 => CM g A M0 (pyU σ r) M9)) nX 0 0 := ⟨_, rfl⟩
  rw [← hQ]
  have hB9 := hB
  obtain ⟨h6, h7, h18, hr8, hk96, hp96, hb16, hh⟩ := hB9
  have b1 := hr8 r (by omega)
  have hp9 := potR_le hB hr
  have hcc : ccN σ r ≤ 12 := Nat.le_trans (fb_ct_le _ _) b1.2.2.2.2.2.2.2.1
  refine x_aload_n F 0 dX2_payOut_0 rfl ?_
  refine x_callV F s_X2_84 (hR.r (by omega : r < σ.1 18 0) (by omega)) rfl rfl (c_X2_pot F.nt hR hB hW hD (by omega)) rfl dX2_payOut_1 (by decide) (by decide) (Nat.le_of_ble_eq_true rfl) x_noX (ki fun r M2 hp => ?_)
  obtain ⟨rfl, rfl⟩ := hp
  refine x_istore_n F [(1, .int (nI (potS σ r))), (0, .ref (A (30 + r)))] dX2_payOut_4 (by decide) rfl ?_
  refine x_aload_n F 1 dX2_payOut_5 rfl ?_
  refine x_callV F s_X2_87 (hR.r (by omega : r < σ.1 18 0) (by omega)) rfl rfl (c_X2_countCounting F.nt hR hB hW (by omega)) rfl dX2_payOut_6 (by decide) (by decide) (Nat.le_of_ble_eq_true rfl) x_noX (ki fun r_2 M2_2 hp_2 => ?_)
  obtain ⟨rfl, rfl⟩ := hp_2
  refine x_istore_n F [(2, .int (nI (ccN σ r))), (1, .int (nI (potS σ r))), (0, .ref (A (30 + r)))] dX2_payOut_9 (by decide) rfl ?_
  refine x_aload_n F 2 dX2_payOut_10 rfl ?_
  refine x_iload_n F 1 dX2_payOut_11 rfl ?_
  refine x_iload_n F 0 dX2_payOut_12 rfl ?_
  refine x_gsHun F rfl rfl dX2_payOut_13 ?_
  refine x_alenHun F dX2_payOut_16 ?_
  refine x_ri0 (y := nI 4) (by decide) ?_
  refine x_callV F s_X2_94 (hR.r (by omega : r < σ.1 18 0) (by omega)) rfl rfl (c_X2_sharesOf F.nt hR hB (by omega) (by omega) (by omega) (by omega)) rfl dX2_payOut_17 (by decide) (by decide) (Nat.le_of_ble_eq_true rfl) x_noX (ki fun r_3 M2_3 hp_3 => ?_)
  obtain ⟨rfl, rfl⟩ := hp_3
  refine x_iload_n F 0 dX2_payOut_20 rfl ?_
  refine x_callSplit F w_sp.1 w_sp.2.1 w_sp.2.2 rfl (c_X3_split F.nt (x0 := shC (potS σ r) (ccN σ r) 4 4) (y0 := ccN σ r) (Nat.lt_of_le_of_lt (shC_pt (by omega)) (by omega)) (by omega)) rfl dX2_payOut_21 (by decide) (by decide) (Nat.le_of_ble_eq_true rfl) (ki fun r_4 M2_4 hp_4 => ?_)
  obtain ⟨rfl, rfl⟩ := hp_4
  refine x_ri0 (y := nI (grS σ r)) (rfl) ?_
  refine x_istore_n F [(3, .int (nI (grS σ r))), (2, .int (nI (ccN σ r))), (1, .int (nI (potS σ r))), (0, .ref (A (30 + r)))] dX2_payOut_24 (by decide) rfl ?_
  refine x_iload_n F 2 dX2_payOut_25 rfl ?_
  refine x_istore F [(4, .int (nI (potS σ r))), (3, .int (nI (grS σ r))), (2, .int (nI (ccN σ r))), (1, .int (nI (potS σ r))), (0, .ref (A (30 + r)))] dX2_payOut_26 (by decide) rfl ?_
  refine x_iconst F (nI 0) dX2_payOut_28 (by decide) ?_
  refine x_istore F [(5, .int (nI (0))), (4, .int (nI (potS σ r))), (3, .int (nI (grS σ r))), (2, .int (nI (ccN σ r))), (1, .int (nI (potS σ r))), (0, .ref (A (30 + r)))] dX2_payOut_29 (by decide) rfl ?_
  have LP31 : ∀ i, i ≤ (σ.1 17 r) → ∀ (Mi31 : MM), CM g A M0 (pyE σ r (potS σ r) (grS σ r) i) Mi31 → ∀ (v31_4 : Int32) (v31_5 : Int32), v31_4 = lfE σ r (potS σ r) (grS σ r) i → v31_5 = nI (i) → XW K g 7 Q Mi31 0 0 31 [(5, .int (v31_5)), (4, .int (v31_4)), (3, .int (nI (grS σ r))), (2, .int (nI (ccN σ r))), (1, .int (nI (potS σ r))), (0, .ref (A (30 + r)))] [] := by
    refine x_loop ((σ.1 17 r)) _ (fun i hi ihi => ?_)
    intro Mi31 hR31 v31_4 v31_5 e31_4 e31_5
    subst e31_4
    subst e31_5
    have KN : ∀ s9 q9, ¬ s9 = 29 → (pyE σ r (potS σ r) (grS σ r) i).1 s9 q9 = σ.1 s9 q9 := fun s9 q9 h9 => pyE_N h9 i
    have KR : (pyE σ r (potS σ r) (grS σ r) i).2 = σ.2 := pyE_R i
    have K18 := KN 18 0 (by decide)
    have K17 := KN 17 r (by decide)
    have hWi : IW (pyE σ r (potS σ r) (grS σ r) i) := IW_of (fun s9 q9 h9 => KN s9 q9 (by omega)) hW
    have hBi : Bd (pyE σ r (potS σ r) (grS σ r) i) := Bd_py hB hr hD i
    refine x_iload F 0 dX2_payOut_31 rfl ?_
    refine x_aload_n F 5 dX2_payOut_33 rfl ?_
    refine x_fget F f_X2_36 (hR31.r (by omega : r < (pyE σ r (potS σ r) (grS σ r) i).1 18 0) (by omega)) (v := .ref (A (40 + r))) dX2_payOut_34 rfl ?_
    refine x_callV F s_X2_56 (hR31.l (by omega : r < (pyE σ r (potS σ r) (grS σ r) i).1 18 0) (by omega)) rfl rfl (c_lsize F.nt (hR31.l (by omega : r < (pyE σ r (potS σ r) (grS σ r) i).1 18 0) (by omega))) rfl dX2_payOut_37 (by decide) (by decide) (Nat.le_of_ble_eq_true rfl) x_noX (ki fun r_5 M2_5 hp_5 => ?_)
    obtain ⟨rfl, rfl⟩ := hp_5
    refine x_ri0 (y := nI (σ.1 17 r)) (by simp [whA, whS, KN, KR]) ?_
    refine x_icmp_ge F 98 dX2_payOut_40 (by decide) (fun c40 => ?_) (fun c40 => ?_)
    · have c40 := (nI_leI (by omega) (by omega)).mp c40
      have c40b := Nat.not_lt.mpr c40
      have h9 : i = σ.1 17 r := by omega
      refine x_aload_n F 5 dX2_payOut_98 rfl ?_
      refine x_iload F 1 dX2_payOut_99 rfl ?_
      refine x_pX2_10 F hR31 (r := r) (by omega : r < (pyE σ r (potS σ r) (grS σ r) i).1 18 0) (by omega) p_X2_111 dX2_payOut_101 (fun M1 hR1 => ?_)
      refine x_aload_n F 5 dX2_payOut_104 rfl ?_
      refine x_iconst F (nI 3) dX2_payOut_105 (by decide) ?_
      refine x_pX2_9 F hR1 (r := r) (by omega : r < (pyE σ r (potS σ r) (grS σ r) i).1 18 0) (by omega) p_X2_46 dX2_payOut_106 (fun M1_2 hR1_2 => ?_)
      rw [hQ]
      exact x_vret F dX2_payOut_109 (by decide) ⟨rfl, by rw [h9] at hR1_2; exact hR1_2⟩
    · have c40 := mt (nI_leI (by omega) (by omega)).mpr c40
      have c40b := Nat.not_le.mp c40
      refine x_aload_n F 5 dX2_payOut_43 rfl ?_
      refine x_fget F f_X2_36 (hR31.r (by omega : r < (pyE σ r (potS σ r) (grS σ r) i).1 18 0) (by omega)) (v := .ref (A (40 + r))) dX2_payOut_44 rfl ?_
      refine x_iload F 0 dX2_payOut_47 rfl ?_
      refine x_callV F s_X2_60 (hR31.l (by omega : r < (pyE σ r (potS σ r) (grS σ r) i).1 18 0) (by omega)) rfl rfl (c_lget F.nt (hR31.l (by omega : r < (pyE σ r (potS σ r) (grS σ r) i).1 18 0) (by omega)) (fun h0 => hR31.d (by omega : r < (pyE σ r (potS σ r) (grS σ r) i).1 18 0) (by omega) h0) (by omega : i < (pyE σ r (potS σ r) (grS σ r) i).1 17 r) (by omega : (pyE σ r (potS σ r) (grS σ r) i).1 17 r ≤ 22)) rfl dX2_payOut_49 (by decide) (by decide) (Nat.le_of_ble_eq_true rfl) x_noX (kr fun r_6 M2_6 hp_6 => ?_)
      obtain ⟨rfl, rfl⟩ := hp_6
      have w9 := (hW r (by omega : r < σ.1 18 0)).1 i (by omega : i < σ.1 17 r)
      refine x_rr0 (y := A (100 + (12 * r + whS σ r i))) (by simp [whA, whS, KN, KR]) ?_
      refine x_cast F (hR31.e ((KN 41 _ (by decide)).trans w9.2) (by omega)) rfl l_X2_40 dX2_payOut_52 ?_
      refine x_astore F [(6, .ref (A (100 + (12 * r + whS σ r i)))), (5, .int (nI (i))), (4, .int (lfE σ r (potS σ r) (grS σ r) i)), (3, .int (nI (grS σ r))), (2, .int (nI (ccN σ r))), (1, .int (nI (potS σ r))), (0, .ref (A (30 + r)))] dX2_payOut_55 (by decide) rfl ?_
      refine x_aload F 0 dX2_payOut_57 rfl ?_
      refine x_fget F f_X2_81 (hR31.e ((KN 41 _ (by decide)).trans w9.2) (by omega)) (v := .int (nI ((pyE σ r (potS σ r) (grS σ r) i).1 27 (12 * r + whS σ r i)))) dX2_payOut_59 rfl ?_
      refine x_ri0 (y := nI (σ.1 27 (12 * r + whS σ r i))) (by simp [whA, whS, KN, KR]) ?_
      refine x_if_eq F 92 dX2_payOut_62 (by decide) (fun c62 => ?_) (fun c62 => ?_)
      · have c62 := (nI_z (by have := (hk96 (12 * r + whS σ r i) (by omega)); omega)).mp c62
        refine x_iinc F 1 [(5, .int (nI (i + 1))), (6, .ref (A (100 + (12 * r + whS σ r i)))), (4, .int (lfE σ r (potS σ r) (grS σ r) i)), (3, .int (nI (grS σ r))), (2, .int (nI (ccN σ r))), (1, .int (nI (potS σ r))), (0, .ref (A (30 + r)))] dX2_payOut_92 rfl (iincN (i) 1) (by decide) rfl ?_
        refine x_goto F 31 dX2_payOut_95 (by decide) ?_
        refine x_sub [0, 2, 3, 4, 5, 6] rfl (L' := [(5, .int (nI (i + 1))), (4, .int (lfE σ r (potS σ r) (grS σ r) i)), (3, .int (nI (grS σ r))), (2, .int (nI (ccN σ r))), (1, .int (nI (potS σ r))), (0, .ref (A (30 + r)))]) ?_
        exact ihi (by omega) _ (by first | (rw [pyE_n c62]; exact hR31) | (rw [pyE_y c62]; exact hR31)) _ _ (by first | exact (lfE_n c62).symm | exact (lfE_y c62).symm) (rfl)
      · have c62 := mt (nI_z (by have := (hk96 (12 * r + whS σ r i) (by omega)); omega)).mpr c62
        refine x_aload F 0 dX2_payOut_65 rfl ?_
        refine x_aload_n F 6 dX2_payOut_67 rfl ?_
        refine x_iload_n F 5 dX2_payOut_68 rfl ?_
        refine x_aload F 0 dX2_payOut_69 rfl ?_
        refine x_fget F f_X2_102 (hR31.e ((KN 41 _ (by decide)).trans w9.2) (by omega)) (v := .int ((pyE σ r (potS σ r) (grS σ r) i).2.1 28 (12 * r + whS σ r i))) dX2_payOut_71 rfl ?_
        refine x_ri0 (y := σ.2.1 28 (12 * r + whS σ r i)) (by simp [whA, whS, KN, KR]) ?_
        refine x_callV F s_X2_105 (hR31.r (by omega : r < (pyE σ r (potS σ r) (grS σ r) i).1 18 0) (by omega)) rfl rfl (c_X2_placeMoney F.nt hR31 hBi hWi (by omega) (by omega)) rfl dX2_payOut_74 (by decide) (by decide) (Nat.le_of_ble_eq_true rfl) x_noX (ki fun r_7 M2_7 hp_7 => ?_)
        obtain ⟨rfl, rfl⟩ := hp_7
        refine x_ri0 (y := nI (plM σ r (potS σ r) (σ.2.1 28 (12 * r + whS σ r i)))) (congrArg nI (plM_of KN KR)) ?_
        refine x_iload_n F 3 dX2_payOut_77 rfl ?_
        refine x_iaddN F dX2_payOut_78 ?_
        refine x_pX1_10 F hR31 (k := 12 * r + whS σ r i) ((KN 41 _ (by decide)).trans w9.2) (by omega) p_X2_108 dX2_payOut_79 (fun M1_3 hR1_3 => ?_)
        refine x_iload F 2 dX2_payOut_82 rfl ?_
        refine x_aload F 0 dX2_payOut_84 rfl ?_
        refine x_fget F f_X2_108 (hR1_3.e ((KN 41 _ (by decide)).trans w9.2) (by omega)) (v := .int (nI ((uN (pyE σ r (potS σ r) (grS σ r) i) 29 (12 * r + whS σ r i) ((plM σ r (potS σ r) (σ.2.1 28 (12 * r + whS σ r i))) + (grS σ r))).1 29 (12 * r + whS σ r i)))) dX2_payOut_86 rfl ?_
        refine x_ri0 (y := nI (plM σ r (potS σ r) (σ.2.1 28 (12 * r + whS σ r i)) + grS σ r)) (by simp [uN]) ?_
        refine x_isub F dX2_payOut_89 ?_
        refine x_istore F [(4, .int ((lfE σ r (potS σ r) (grS σ r) i) - (nI (plM σ r (potS σ r) (σ.2.1 28 (12 * r + whS σ r i)) + grS σ r)))), (6, .ref (A (100 + (12 * r + whS σ r i)))), (5, .int (nI (i))), (3, .int (nI (grS σ r))), (2, .int (nI (ccN σ r))), (1, .int (nI (potS σ r))), (0, .ref (A (30 + r)))] dX2_payOut_90 (by decide) rfl ?_
        refine x_iinc F 2 [(5, .int (nI (i + 1))), (4, .int ((lfE σ r (potS σ r) (grS σ r) i) - (nI (plM σ r (potS σ r) (σ.2.1 28 (12 * r + whS σ r i)) + grS σ r)))), (6, .ref (A (100 + (12 * r + whS σ r i)))), (3, .int (nI (grS σ r))), (2, .int (nI (ccN σ r))), (1, .int (nI (potS σ r))), (0, .ref (A (30 + r)))] dX2_payOut_92 rfl (iincN (i) 1) (by decide) rfl ?_
        refine x_goto F 31 dX2_payOut_95 (by decide) ?_
        refine x_sub [0, 1, 3, 4, 5, 6] rfl (L' := [(5, .int (nI (i + 1))), (4, .int ((lfE σ r (potS σ r) (grS σ r) i) - (nI (plM σ r (potS σ r) (σ.2.1 28 (12 * r + whS σ r i)) + grS σ r)))), (3, .int (nI (grS σ r))), (2, .int (nI (ccN σ r))), (1, .int (nI (potS σ r))), (0, .ref (A (30 + r)))]) ?_
        exact ihi (by omega) _ (by first | (rw [pyE_n c62]; exact hR1_3) | (rw [pyE_y c62]; exact hR1_3)) _ _ (by first | exact (lfE_n c62).symm | exact (lfE_y c62).symm) (rfl)
  exact LP31 0 (by omega) _ hR _ _ (rfl) (rfl)
