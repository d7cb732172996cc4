/-! entering -/
theorem has_41 {σ : ST} {r j : Nat} (hW : IW σ) (hr : r < σ.1 18 0) (hj : j < 12) : hasE σ r j = true ↔ σ.1 41 (12 * r + j) = 1 := by
  obtain ⟨h1, h2, h3⟩ := hW r hr
  unfold hasE
  rw [anyB_iff]
  constructor
  · rintro ⟨e, he, h⟩
    have h4 := of_decide_eq_true h
    have h5 := (h1 e he).2
    unfold whS at h5
    rw [h4] at h5
    exact h5
  · intro h
    obtain ⟨e, he, h4⟩ := h3 j hj h
    exact ⟨e, he, decide_eq_true h4⟩
theorem may_a {σ : ST} {r : Nat} {s0 w0 : Int32} (hr : r < 1000) (hp : σ.1 11 r ≤ 4) (h : inR s0 (nI 1) (nI (2 ^ σ.1 11 r - 1)) = false) : mayE σ (nI r) s0 w0 = false := by
  cases c : mayE σ (nI r) s0 w0 with
  | false => rfl
  | true =>
    have p16 := p2_16 hp
    obtain ⟨h1, h2, -⟩ := mayE_1 (x0 := nI r) (by rw [cl_nI (by omega)]; exact hp) c
    rw [cl_nI (n := r) (by omega)] at h2
    rw [h1, inR_nI (by omega) (by decide) (by omega), decide_eq_true (show 1 ≤ cl s0 by omega), decide_eq_true (show cl s0 ≤ 2 ^ σ.1 11 r - 1 by omega)] at h
    cases h
theorem may_w {s p w : Nat} (h : s < 2 ^ p) (hb : s.testBit w = true) : w < p := by
  have h1 := Nat.ge_two_pow_of_testBit hb
  rcases Nat.lt_or_ge w p with h2 | h2
  · exact h2
  · have := Nat.pow_le_pow_right (show 0 < 2 by decide) h2
    omega
theorem may_b {σ : ST} {r s0 : Nat} {w0 : Int32} (hr : r < 1000) (hp : σ.1 11 r ≤ 4) (hs : s0 < 1000) (h : inR w0 (nI 0) (nI (σ.1 11 r - 1)) = false) : mayE σ (nI r) (nI s0) w0 = false := by
  cases c : mayE σ (nI r) (nI s0) w0 with
  | false => rfl
  | true =>
    obtain ⟨h1, h2, h3, h4, h5⟩ := mayE_1 (x0 := nI r) (by rw [cl_nI (by omega)]; exact hp) c
    rw [cl_nI (n := r) (by omega), cl_nI (n := s0) (by omega)] at h2
    rw [cl_nI (n := s0) (by omega)] at h5
    have h6 := may_w h2.2 h5
    rw [h3, inR_nI (by omega) (by decide) (by omega), decide_eq_true (show 0 ≤ cl w0 by omega), decide_eq_true (show cl w0 ≤ σ.1 11 r - 1 by omega)] at h
    cases h
theorem may_c {σ : ST} {r s0 w0 : Nat} (hr : r < 1000) (hp : σ.1 11 r ≤ 4) (hs : s0 < 1000) (hw : w0 < 4) (h : s0.testBit w0 = false) : mayE σ (nI r) (nI s0) (nI w0) = false := by
  cases c : mayE σ (nI r) (nI s0) (nI w0) with
  | false => rfl
  | true =>
    obtain ⟨h1, h2, h3, h4, h5⟩ := mayE_1 (x0 := nI r) (by rw [cl_nI (by omega)]; exact hp) c
    rw [cl_nI (n := s0) (by omega), cl_nI (n := w0) (by omega), h] at h5
    cases h5
theorem may_d {σ : ST} {r s0 w0 : Nat} (hr : r < 1000) (hp : σ.1 11 r ≤ 4) (hs : 1 ≤ s0 ∧ s0 ≤ 2 ^ σ.1 11 r - 1) (hw : w0 < 4) (h : s0.testBit w0 = true) : mayE σ (nI r) (nI s0) (nI w0) = true := by
  have p16 := p2_16 hp
  have p1 : 1 ≤ 2 ^ σ.1 11 r := Nat.one_le_two_pow
  unfold mayE
  rw [cl_nI (by omega), shl_p hp, tb_sh (by omega) (by omega), h, inR_nI (by omega) (by decide) (by decide), decide_eq_true (show 0 ≤ w0 by omega), decide_eq_true (show w0 ≤ 3 by omega),
    decide_eq_true (show nI s0 < nI (2 ^ σ.1 11 r) from (nI_ltI (by omega) (by omega)).mpr (by omega)), decide_eq_true (show (0 : Int32) < nI s0 from (nI_ltI (a := 0) (by decide) (by omega)).mpr (by omega))]
  rfl
theorem cdEn_a {σ : ST} {x0 y0 s0 w0 : Int32} (h : (inN x0 (σ.1 18 0) && inN y0 (σ.1 7 0)) = true) (h2 : mayE σ x0 s0 w0 = false) : cdEn σ x0 y0 s0 w0 = 2 := by
  unfold cdEn
  rw [if_neg (by rw [h]; exact Bool.noConfusion), if_pos h2]
theorem cdEn_b {σ : ST} {r j : Nat} {s0 w0 : Int32} (h : (inN (nI r) (σ.1 18 0) && inN (nI j) (σ.1 7 0)) = true) (h2 : mayE σ (nI r) s0 w0 = true) (hr : r < 1000) (hj : j < 1000) (h3 : ¬ σ.1 15 r = 0 ∨ hasE σ r j = true) : cdEn σ (nI r) (nI j) s0 w0 = 3 := by
  unfold cdEn
  rw [if_neg (by rw [h]; exact Bool.noConfusion), if_neg (by rw [h2]; exact Bool.noConfusion), cl_nI (n := r) (by omega), cl_nI (n := j) (by omega), if_pos h3]
theorem cdEn_c {σ : ST} {r j : Nat} {s0 w0 : Int32} (h : (inN (nI r) (σ.1 18 0) && inN (nI j) (σ.1 7 0)) = true) (h2 : mayE σ (nI r) s0 w0 = true) (hr : r < 1000) (hj : j < 1000) (h3 : σ.1 15 r = 0) (h4 : hasE σ r j = false) : cdEn σ (nI r) (nI j) s0 w0 = 0 := by
  unfold cdEn
  rw [if_neg (by rw [h]; exact Bool.noConfusion), if_neg (by rw [h2]; exact Bool.noConfusion), cl_nI (n := r) (by omega), cl_nI (n := j) (by omega), if_neg (by rintro (z | z); exact z h3; rw [h4] at z; cases z)]
set_option maxHeartbeats 4000000 in
set_option maxRecDepth 100000 in
theorem c_X2_addEntry {l : Launch} (hl : l.stackTraces = false) {g : GP} {M : MM} {A : Nat → Nat} {M0 Mb : MM} {σ : ST} {q r j s0 w0 : Nat} (hR : CM g A M0 σ Mb) (hB : Bd σ) (hW : IW σ) (hbs : IBe σ) (hr : r < σ.1 18 0) (hj : j < 12) (h12 : σ.1 17 r < 12) (h41 : ¬ σ.1 41 (12 * r + j) = 1) (hz : (σ.2.1 22 (12 * r + j) = -1 ∧ σ.2.1 23 (12 * r + j) = -1 ∧ σ.2.1 28 (12 * r + j) = -1) ∧ σ.1 24 (12 * r + j) = 0 ∧ σ.1 25 (12 * r + j) = 0 ∧ σ.1 26 (12 * r + j) = 0 ∧ σ.1 27 (12 * r + j) = 0 ∧ σ.1 29 (12 * r + j) = 0) (zq : Mb q = none) (hq1 : M q = some (.inr (2, [.int (nI j), .int (nI s0), .int (nI w0), .int (-1), .null, .int 0, .int 0, .int 0, .int 0, .int (-1), .int 0]))) (fr1 : ∀ x9, x9 ≠ q → M x9 = Mb x9) : CT l g yX2_addEntry cX2_addEntry 2 (none : Option Jvm.ClassFile.FieldType) 7 190 1 22 [.ref (A (30 + r)), .ref (q)] M (pV (fun M9 => ∃ A2, A2 0 = A 0 ∧ A2 (30 + r) = A (30 + r) ∧ CM g A2 Mb (enU σ r j s0 w0) M9 ∧ ∀ c, lvB (enU σ r j s0 w0) c = true → (lvB σ c = true ∧ A2 c = A c) ∨ Mb (A2 c) = none)) nX := by
  refine ct_of [(0, .ref (A (30 + r))), (1, .ref (q))] (by decide) hl (Nat.le_of_ble_eq_true rfl) rfl ?_
  intro K hK F
  subst hK
  have F : Fx K g cX2_addEntry RX2 2 (none : Option Jvm.ClassFile.FieldType) [] 7 190 1 22 := F
  obtain ⟨Q, hQ⟩ : ∃ Q, Q = MQx K g (pV (fun M9 => ∃ A2, A2 0 = A 0 ∧ A2 (30 + r) = A (30 + r) ∧ CM g A2 Mb (enU σ r j s0 w0) M9 ∧ ∀ c, lvB (enU σ r j s0 w0) c = true → (lvB σ c = true ∧ A2 c = A c) ∨ Mb (A2 c) = none)) nX 1 22 := ⟨_, rfl⟩
  rw [← hQ]
  have hB9 := hB
  obtain ⟨h6, h7, h18, hr8, hk96, hp96, hb16, hh⟩ := hB9
  have hql : ∀ c, lvB σ c = true → A c ≠ q := fun c hc => ne_fr zq (hR.1 c hc)
  have fM : ∀ c, lvB σ c = true → M (A c) = Mb (A c) := fun c hc => fr1 _ (hql c hc)
  have hRr := (fM _ (lv_r hr (by omega))).trans (hR.r hr (by omega))
  have hRy := (fM _ (lv_y hr (by omega))).trans (hR.y hr (by omega))
  refine x_aload_n F 1 dX2_addEntry_0 rfl ?_
  refine x_fget F f_X2_49 hq1 (v := .int (nI j)) dX2_addEntry_1 rfl ?_
  refine x_if_lt F 38 dX2_addEntry_4 (by decide) (fun c4 => absurd c4 (nI_nn (by omega))) (fun _ => ?_)
  refine x_aload_n F 1 dX2_addEntry_7 rfl ?_
  refine x_fget F f_X2_49 hq1 (v := .int (nI j)) dX2_addEntry_8 rfl ?_
  refine x_aload_n F 0 dX2_addEntry_11 rfl ?_
  refine x_fget F f_X2_42 hRr (v := .ref (A (60 + r))) dX2_addEntry_12 rfl ?_
  refine x_alen F 4 hRy rfl (v := nI 12) rfl dX2_addEntry_15 ?_
  refine x_icmp_ge F 38 dX2_addEntry_16 (by decide) (fun c16 => absurd ((nI_leI (by decide) (by omega)).mp c16) (by omega)) (fun _ => ?_)
  refine x_aload_n F 0 dX2_addEntry_19 rfl ?_
  refine x_fget F f_X2_42 hRr (v := .ref (A (60 + r))) dX2_addEntry_20 rfl ?_
  refine x_aload_n F 1 dX2_addEntry_23 rfl ?_
  refine x_fget F f_X2_49 hq1 (v := .int (nI j)) dX2_addEntry_24 rfl ?_
  refine x_aload_n F 1 dX2_addEntry_27 rfl ?_
  refine x_qastE F hRy hq1 (vp_in_nI (by omega) (by decide)) dX2_addEntry_28 ?_
  rw [nI_clamp (n := j) (by omega)]
  obtain ⟨f, hf⟩ : ∃ f : Nat → Option Nat, f = fun i => if i < 12 ∧ σ.1 41 (12 * r + i) = 1 then some (A (100 + (12 * r + i))) else none := ⟨_, rfl⟩
  rw [← hf]
  obtain ⟨M2, hM2⟩ : ∃ M2, M2 = mup M (A (60 + r)) (.inl (gC g 4, 12, .inr (.inr (.inr (.inr (va_up f j (some q))))))) := ⟨_, rfl⟩
  rw [← hM2]
  have f2 : ∀ x9, x9 ≠ A (60 + r) → M2 x9 = M x9 := fun x9 h9 => by rw [hM2]; exact mup_n h9
  have fY : ∀ c, lvB σ c = true → ¬ c = 60 + r → M2 (A c) = Mb (A c) := fun c hc h9 => (f2 _ (fun z => h9 (hR.2.1 c _ hc (lv_y hr (by omega)) z))).trans (fM c hc)
  have hRr2 := (fY _ (lv_r hr (by omega)) (by omega)).trans (hR.r hr (by omega))
  have hRl2 := (fY _ (lv_l hr (by omega)) (by omega)).trans (hR.l hr (by omega))
  have hq2 := (f2 q (hql _ (lv_y hr (by omega))).symm).trans hq1
  refine x_aload_n F 0 dX2_addEntry_29 rfl ?_
  refine x_fget F f_X2_36 hRr2 (v := .ref (A (40 + r))) dX2_addEntry_30 rfl ?_
  refine x_aload_n F 1 dX2_addEntry_33 rfl ?_
  refine x_callV F s_X2_52 hRl2 rfl rfl (c_lapp F.nt (ad := whA A σ r) hRl2 (fun h0 => (fY _ (lv_d hr (by omega) h0) (by omega)).trans (hR.d hr (by omega) h0)) (by omega) (rfl : vwCl[2]? = some (RX1, TX1, 11)) (by decide) (fun i9 h9 => ⟨_, (fY _ (lv_e ((hW r hr).1 i9 h9).2 (by have := ((hW r hr).1 i9 h9).1; omega)) (by omega)).trans (hR.e ((hW r hr).1 i9 h9).2 (by have := ((hW r hr).1 i9 h9).1; omega))⟩) hq2 (by decide)) rfl dX2_addEntry_34 (by decide) (by decide) (Nat.le_of_ble_eq_true rfl) x_noX (ki fun r9 M9 hp9 => ?_)
  obtain ⟨rfl, hL⟩ := hp9
  refine x_pop F dX2_addEntry_37 rfl ?_
  rw [hQ]
  exact x_vret F dX2_addEntry_38 (by decide) ⟨rfl, CM_en hR hB hW hbs hr hj h12 h41 hz zq hq1 fr1 hf hM2 hL⟩
set_option maxHeartbeats 4000000 in
set_option maxRecDepth 100000 in
theorem c_X3_enter {l : Launch} (hl : l.stackTraces = false) {g : GP} {M : MM} {A : Nat → Nat} {M0 : MM} {σ : ST} {x0 y0 s0 w0 : Int32} (hR : CM g A M0 σ M) (hB : Bd σ) (hW : IW σ) (hD : ID σ) (hbs : IBe σ) (hp1 : ∀ r, r < σ.1 18 0 → 1 ≤ σ.1 11 r) (hlt : ∀ r j, r < σ.1 18 0 → j < σ.1 7 0 → hasE σ r j = false → σ.1 17 r < 12) : CT l g yX3_enter cX3_enter 7 (some .int) 9 215 5 51 [.ref (A 0), .int (x0), .int (y0), .int (s0), .int (w0)] M (pI (fun r9 M9 => cdEn σ x0 y0 s0 w0 = 0 ∧ nI (σ.1 17 (cl x0) + 1) = r9 ∧ ∃ A2, A2 0 = A 0 ∧ CM g A2 M (enU σ (cl x0) (cl y0) (cl s0) (cl w0)) M9 ∧ ∀ c, lvB (enU σ (cl x0) (cl y0) (cl s0) (cl w0)) c = true → (lvB σ c = true ∧ A2 c = A c) ∨ M (A2 c) = none)) (fun E M9 => M = M9 ∧ xp3 E (cdEn σ x0 y0 s0 w0) sIO sIA sIS) := by
  refine ct_of [(0, .ref (A 0)), (1, .int (x0)), (2, .int (y0)), (3, .int (s0)), (4, .int (w0))] (by decide) hl (Nat.le_of_ble_eq_true rfl) rfl ?_
  intro K hK F
  subst hK
  have F : Fx K g cX3_enter RX3 7 (some .int) [] 9 215 5 51 := F
  obtain ⟨Q, hQ⟩ : ∃ Q, Q = MQx K g (pI (fun r9 M9 => cdEn σ x0 y0 s0 w0 = 0 ∧ nI (σ.1 17 (cl x0) + 1) = r9 ∧ ∃ A2, A2 0 = A 0 ∧ CM g A2 M (enU σ (cl x0) (cl y0) (cl s0) (cl w0)) M9 ∧ ∀ c, lvB (enU σ (cl x0) (cl y0) (cl s0) (cl w0)) c = true → (lvB σ c = true ∧ A2 c = A c) ∨ M (A2 c) = none)) ((fun E M9 => M = M9 ∧ xp3 E (cdEn σ x0 y0 s0 w0) sIO sIA sIS)) 5 51 := ⟨_, rfl⟩
  rw [← hQ]
  have hB9 := hB
  obtain ⟨h6, h7, h18, hr8, hk96, hp96, hb16, hh⟩ := hB9
  refine x_aload_n F 0 dX3_enter_0 rfl ?_
  refine x_iload_n F 1 dX3_enter_1 rfl ?_
  refine x_iload_n F 2 dX3_enter_2 rfl ?_
  rw [hQ]
  refine x_callV F s_X3_96 hR.c rfl rfl (c_X3_entryAt F.nt hR hB) rfl dX3_enter_3 (by decide) (by decide) (Nat.le_of_ble_eq_true rfl) (x_outX F (by decide) (by rintro E M9 ⟨k1, k2, k3⟩; exact ⟨k3, (Or.inl ⟨k1, (if_pos k2)⟩)⟩)) (kq fun r9 M9 hp9 => ?_)
  rw [← hQ]
  obtain ⟨hin9, rfl, rfl⟩ := hp9
  have hin8 := Bool.and_eq_true_iff.mp hin9
  obtain ⟨r, hr, rfl⟩ := inN_t (by omega) hin8.1
  obtain ⟨j, hj7, rfl⟩ := inN_t (by omega) hin8.2
  have hj : j < 12 := by omega
  rw [cl_nI (n := r) (by omega), cl_nI (n := j) (by omega)]
  have b9 := hk96 (12 * r + j) (by omega)
  have b1 := hr8 r (by omega)
  have p1 := hp1 r hr
  have p2 : 1 ≤ 2 ^ σ.1 11 r := Nat.one_le_two_pow
  have p16 := p2_16 b1.2.2.1
  by_cases h41 : σ.1 41 (12 * r + j) = 1
  · refine x_rv0 (y := .ref (A (100 + (12 * r + j)))) (eO_t h41) ?_
    refine x_astore F [(5, .ref (A (100 + (12 * r + j)))), (0, .ref (A 0)), (1, .int (nI (r))), (2, .int (nI (j))), (3, .int (s0)), (4, .int (w0))] dX3_enter_6 (by decide) rfl ?_
    refine x_aload_n F 1 dX3_enter_8 rfl ?_
    refine x_iload_n F 2 dX3_enter_9 rfl ?_
    rw [hQ]
    refine x_callV F s_X3_75 hR.c rfl rfl (c_X3_rodeoAt F.nt hR hB) rfl dX3_enter_10 (by decide) (by decide) (Nat.le_of_ble_eq_true rfl) (x_outX F (by decide) (by rintro E M9 ⟨k1, k2, k3⟩; rw [hin8.1] at k2; cases k2)) (kr fun r9 M9 hp9 => ?_)
    rw [← hQ]
    obtain ⟨-, rfl, rfl⟩ := hp9
    rw [cl_nI (n := r) (by omega)]
    refine x_astore F [(6, .ref (A (30 + r))), (5, .ref (A (100 + (12 * r + j)))), (0, .ref (A 0)), (1, .int (nI (r))), (2, .int (nI (j))), (3, .int (s0)), (4, .int (w0))] dX3_enter_13 (by decide) rfl ?_
    refine x_iload_n F 5 dX3_enter_15 rfl ?_
    refine x_iconst F (nI 1) dX3_enter_16 (by decide) ?_
    refine x_iconst F (nI 1) dX3_enter_17 (by decide) ?_
    refine x_aload F 0 dX3_enter_18 rfl ?_
    refine x_fget F f_X3_100 (hR.r (by omega : r < σ.1 18 0) (by omega)) (v := .int (nI (σ.1 11 r))) dX3_enter_20 rfl ?_
    refine x_ishl F dX3_enter_23 ?_
    refine x_ri0 (y := nI (2 ^ σ.1 11 r)) (shl_p b1.2.2.1) ?_
    refine x_iconst F (nI 1) dX3_enter_24 (by decide) ?_
    refine x_isubN F dX3_enter_25 (by omega) ?_
    refine x_callS F s_X3_57 rfl (c_X3_isWithin F.nt ) rfl dX3_enter_26 (by decide) (by decide) (Nat.le_of_ble_eq_true rfl) x_noX (ki fun r_3 M2_3 hp_3 => ?_)
    obtain ⟨rfl, rfl⟩ := hp_3
    refine x_if_ne F 42 dX3_enter_29 (by decide) (fun c29 => ?_) (fun c29 => ?_)
    · have c29 := nI_bz1.mp c29
      have g29 : inR s0 (nI 1) (nI (2 ^ σ.1 11 r - 1)) = true := by assumption
      obtain ⟨s0, hs1, hs2, rfl⟩ := inR_t (by decide) (by omega) g29
      refine x_iload F 6 dX3_enter_42 rfl ?_
      refine x_iconst F (nI 0) dX3_enter_44 (by decide) ?_
      refine x_aload F 0 dX3_enter_45 rfl ?_
      refine x_fget F f_X3_100 (hR.r (by omega : r < σ.1 18 0) (by omega)) (v := .int (nI (σ.1 11 r))) dX3_enter_47 rfl ?_
      refine x_iconst F (nI 1) dX3_enter_50 (by decide) ?_
      refine x_isubN F dX3_enter_51 (by omega) ?_
      refine x_callS F s_X3_57 rfl (c_X3_isWithin F.nt ) rfl dX3_enter_52 (by decide) (by decide) (Nat.le_of_ble_eq_true rfl) x_noX (ki fun r_4 M2_4 hp_4 => ?_)
      obtain ⟨rfl, rfl⟩ := hp_4
      refine x_if_eq F 67 dX3_enter_55 (by decide) (fun c55 => ?_) (fun c55 => ?_)
      · have c55 := nI_bz0.mp c55
        rw [hQ]
        exact x_throw F th_IA (text := "the wish is not in the set") (by decide +kernel) dX3_enter_67 dX3_enter_70 dX3_enter_71 dX3_enter_73 dX3_enter_76 ⟨by decide, Nat.le_of_ble_eq_true rfl, by decide, by decide⟩ (⟨rfl, Or.inr (Or.inl ⟨rfl, by first | exact cdEn_a hin9 (may_b (by omega) b1.2.2.1 (by omega) (by assumption)) | exact cdEn_a hin9 (may_c (by omega) b1.2.2.1 (by omega) (by omega) (by assumption))⟩)⟩)
      · have c55 := nI_bz1.mp c55
        have g55 : inR w0 (nI 0) (nI (σ.1 11 r - 1)) = true := by assumption
        obtain ⟨w0, -, hw2, rfl⟩ := inR_t (by decide) (by omega) g55
        refine x_iload_n F 5 dX3_enter_58 rfl ?_
        refine x_iload F 6 dX3_enter_59 rfl ?_
        refine x_callS F s_X3_105 rfl (c_X3_isInSet F.nt (by omega) (by omega)) rfl dX3_enter_61 (by decide) (by decide) (Nat.le_of_ble_eq_true rfl) x_noX (ki fun r_5 M2_5 hp_5 => ?_)
        obtain ⟨rfl, rfl⟩ := hp_5
        refine x_if_ne F 77 dX3_enter_64 (by decide) (fun c64 => ?_) (fun c64 => ?_)
        · have c64 := nI_bz1.mp c64
          have g64 : s0.testBit w0 = true := by assumption
          have hmay := may_d (σ := σ) (r := r) (s0 := s0) (w0 := w0) (by omega) b1.2.2.1 (by omega) (by omega) g64
          refine x_aload F 0 dX3_enter_77 rfl ?_
          refine x_fget F f_X3_79 (hR.r (by omega : r < σ.1 18 0) (by omega)) (v := .int (nI (σ.1 15 r))) dX3_enter_79 rfl ?_
          refine x_if_ne F 90 dX3_enter_82 (by decide) (fun c82 => ?_) (fun c82 => ?_)
          · have c82 := mt (nI_z (by omega)).mpr c82
            rw [hQ]
            exact x_throw F th_IS (text := "not open, or entered by that rider") (by decide +kernel) dX3_enter_90 dX3_enter_93 dX3_enter_94 dX3_enter_96 dX3_enter_99 ⟨by decide, Nat.le_of_ble_eq_true rfl, by decide, by decide⟩ (⟨rfl, Or.inr (Or.inr ⟨rfl, by first | exact cdEn_b hin9 hmay (by omega) (by omega) (Or.inl (by assumption)) | exact cdEn_b hin9 hmay (by omega) (by omega) (Or.inr ((has_41 hW hr hj).mpr (by assumption)))⟩)⟩)
          · have c82 := (nI_z (by omega)).mp c82
            refine x_aload F 1 dX3_enter_85 rfl ?_
            refine x_ifnull F dX3_enter_87 ?_
            rw [hQ]
            exact x_throw F th_IS (text := "not open, or entered by that rider") (by decide +kernel) dX3_enter_90 dX3_enter_93 dX3_enter_94 dX3_enter_96 dX3_enter_99 ⟨by decide, Nat.le_of_ble_eq_true rfl, by decide, by decide⟩ (⟨rfl, Or.inr (Or.inr ⟨rfl, by first | exact cdEn_b hin9 hmay (by omega) (by omega) (Or.inl (by assumption)) | exact cdEn_b hin9 hmay (by omega) (by omega) (Or.inr ((has_41 hW hr hj).mpr (by assumption)))⟩)⟩)
        · have c64 := nI_bz0.mp c64
          rw [hQ]
          exact x_throw F th_IA (text := "the wish is not in the set") (by decide +kernel) dX3_enter_67 dX3_enter_70 dX3_enter_71 dX3_enter_73 dX3_enter_76 ⟨by decide, Nat.le_of_ble_eq_true rfl, by decide, by decide⟩ (⟨rfl, Or.inr (Or.inl ⟨rfl, by first | exact cdEn_a hin9 (may_b (by omega) b1.2.2.1 (by omega) (by assumption)) | exact cdEn_a hin9 (may_c (by omega) b1.2.2.1 (by omega) (by omega) (by assumption))⟩)⟩)
    · have c29 := nI_bz0.mp c29
      rw [hQ]
      exact x_throw F th_IA (text := "no such set of performances") (by decide +kernel) dX3_enter_32 dX3_enter_35 dX3_enter_36 dX3_enter_38 dX3_enter_41 ⟨by decide, Nat.le_of_ble_eq_true rfl, by decide, by decide⟩ (⟨rfl, Or.inr (Or.inl ⟨rfl, cdEn_a hin9 (may_a (by omega) b1.2.2.1 (by assumption))⟩)⟩)
  · refine x_rv0 (y := .null) (eO_f h41) ?_
    refine x_astoreN F [(5, .null), (0, .ref (A 0)), (1, .int (nI (r))), (2, .int (nI (j))), (3, .int (s0)), (4, .int (w0))] dX3_enter_6 (by decide) rfl ?_
    refine x_aload_n F 1 dX3_enter_8 rfl ?_
    refine x_iload_n F 2 dX3_enter_9 rfl ?_
    rw [hQ]
    refine x_callV F s_X3_75 hR.c rfl rfl (c_X3_rodeoAt F.nt hR hB) rfl dX3_enter_10 (by decide) (by decide) (Nat.le_of_ble_eq_true rfl) (x_outX F (by decide) (by rintro E M9 ⟨k1, k2, k3⟩; rw [hin8.1] at k2; cases k2)) (kr fun r9 M9 hp9 => ?_)
    rw [← hQ]
    obtain ⟨-, rfl, rfl⟩ := hp9
    rw [cl_nI (n := r) (by omega)]
    refine x_astore F [(6, .ref (A (30 + r))), (5, .null), (0, .ref (A 0)), (1, .int (nI (r))), (2, .int (nI (j))), (3, .int (s0)), (4, .int (w0))] dX3_enter_13 (by decide) rfl ?_
    refine x_iload_n F 5 dX3_enter_15 rfl ?_
    refine x_iconst F (nI 1) dX3_enter_16 (by decide) ?_
    refine x_iconst F (nI 1) dX3_enter_17 (by decide) ?_
    refine x_aload F 0 dX3_enter_18 rfl ?_
    refine x_fget F f_X3_100 (hR.r (by omega : r < σ.1 18 0) (by omega)) (v := .int (nI (σ.1 11 r))) dX3_enter_20 rfl ?_
    refine x_ishl F dX3_enter_23 ?_
    refine x_ri0 (y := nI (2 ^ σ.1 11 r)) (shl_p b1.2.2.1) ?_
    refine x_iconst F (nI 1) dX3_enter_24 (by decide) ?_
    refine x_isubN F dX3_enter_25 (by omega) ?_
    refine x_callS F s_X3_57 rfl (c_X3_isWithin F.nt ) rfl dX3_enter_26 (by decide) (by decide) (Nat.le_of_ble_eq_true rfl) x_noX (ki fun r_7 M2_7 hp_7 => ?_)
    obtain ⟨rfl, rfl⟩ := hp_7
    refine x_if_ne F 42 dX3_enter_29 (by decide) (fun c29_2 => ?_) (fun c29_2 => ?_)
    · have c29_2 := nI_bz1.mp c29_2
      have g29 : inR s0 (nI 1) (nI (2 ^ σ.1 11 r - 1)) = true := by assumption
      obtain ⟨s0, hs1, hs2, rfl⟩ := inR_t (by decide) (by omega) g29
      refine x_iload F 6 dX3_enter_42 rfl ?_
      refine x_iconst F (nI 0) dX3_enter_44 (by decide) ?_
      refine x_aload F 0 dX3_enter_45 rfl ?_
      refine x_fget F f_X3_100 (hR.r (by omega : r < σ.1 18 0) (by omega)) (v := .int (nI (σ.1 11 r))) dX3_enter_47 rfl ?_
      refine x_iconst F (nI 1) dX3_enter_50 (by decide) ?_
      refine x_isubN F dX3_enter_51 (by omega) ?_
      refine x_callS F s_X3_57 rfl (c_X3_isWithin F.nt ) rfl dX3_enter_52 (by decide) (by decide) (Nat.le_of_ble_eq_true rfl) x_noX (ki fun r_8 M2_8 hp_8 => ?_)
      obtain ⟨rfl, rfl⟩ := hp_8
      refine x_if_eq F 67 dX3_enter_55 (by decide) (fun c55_2 => ?_) (fun c55_2 => ?_)
      · have c55_2 := nI_bz0.mp c55_2
        rw [hQ]
        exact x_throw F th_IA (text := "the wish is not in the set") (by decide +kernel) dX3_enter_67 dX3_enter_70 dX3_enter_71 dX3_enter_73 dX3_enter_76 ⟨by decide, Nat.le_of_ble_eq_true rfl, by decide, by decide⟩ (⟨rfl, Or.inr (Or.inl ⟨rfl, by first | exact cdEn_a hin9 (may_b (by omega) b1.2.2.1 (by omega) (by assumption)) | exact cdEn_a hin9 (may_c (by omega) b1.2.2.1 (by omega) (by omega) (by assumption))⟩)⟩)
      · have c55_2 := nI_bz1.mp c55_2
        have g55 : inR w0 (nI 0) (nI (σ.1 11 r - 1)) = true := by assumption
        obtain ⟨w0, -, hw2, rfl⟩ := inR_t (by decide) (by omega) g55
        refine x_iload_n F 5 dX3_enter_58 rfl ?_
        refine x_iload F 6 dX3_enter_59 rfl ?_
        refine x_callS F s_X3_105 rfl (c_X3_isInSet F.nt (by omega) (by omega)) rfl dX3_enter_61 (by decide) (by decide) (Nat.le_of_ble_eq_true rfl) x_noX (ki fun r_9 M2_9 hp_9 => ?_)
        obtain ⟨rfl, rfl⟩ := hp_9
        refine x_if_ne F 77 dX3_enter_64 (by decide) (fun c64_2 => ?_) (fun c64_2 => ?_)
        · have c64_2 := nI_bz1.mp c64_2
          have g64 : s0.testBit w0 = true := by assumption
          have hmay := may_d (σ := σ) (r := r) (s0 := s0) (w0 := w0) (by omega) b1.2.2.1 (by omega) (by omega) g64
          refine x_aload F 0 dX3_enter_77 rfl ?_
          refine x_fget F f_X3_79 (hR.r (by omega : r < σ.1 18 0) (by omega)) (v := .int (nI (σ.1 15 r))) dX3_enter_79 rfl ?_
          refine x_if_ne F 90 dX3_enter_82 (by decide) (fun c82_2 => ?_) (fun c82_2 => ?_)
          · have c82_2 := mt (nI_z (by omega)).mpr c82_2
            rw [hQ]
            exact x_throw F th_IS (text := "not open, or entered by that rider") (by decide +kernel) dX3_enter_90 dX3_enter_93 dX3_enter_94 dX3_enter_96 dX3_enter_99 ⟨by decide, Nat.le_of_ble_eq_true rfl, by decide, by decide⟩ (⟨rfl, Or.inr (Or.inr ⟨rfl, by first | exact cdEn_b hin9 hmay (by omega) (by omega) (Or.inl (by assumption)) | exact cdEn_b hin9 hmay (by omega) (by omega) (Or.inr ((has_41 hW hr hj).mpr (by assumption)))⟩)⟩)
          · have c82_2 := (nI_z (by omega)).mp c82_2
            refine x_aloadN F 1 dX3_enter_85 rfl ?_
            refine x_ifnullN F 100 dX3_enter_87 (by decide) ?_
            refine x_aload F 0 dX3_enter_100 rfl ?_
            have g41 : ¬ σ.1 41 (12 * r + j) = 1 := by assumption
            have g82 : σ.1 15 r = 0 := by assumption
            have hnE : hasE σ r j = false := by (cases z : hasE σ r j with | false => rfl | true => exact absurd ((has_41 hW hr hj).mp z) g41)
            have hcd := cdEn_c hin9 hmay (show r < 1000 by omega) (show j < 1000 by omega) g82 hnE
            have h12 := hlt r j hr hj7 hnE
            refine x_new F (ci := 2) (fs := [.int 0, .int 0, .int 0, .int 0, .null, .int 0, .int 0, .int 0, .int 0, .int 0, .int 0]) tyX1 rfl inT_X1 tyX1_ok w_nX3_113.1 w_nX3_113.2.1 w_nX3_113.2.2 df_X1 ⟨by decide, by decide⟩ dX3_enter_102 (fun q zq _ => ?_)
            refine x_dup F dX3_enter_105 rfl ?_
            refine x_iload_n F 4 dX3_enter_106 rfl ?_
            refine x_iload_n F 5 dX3_enter_107 rfl ?_
            refine x_iload F 6 dX3_enter_108 rfl ?_
            refine x_callI F s_X3_115 rfl (c_X1_init F.nt mup_s) rfl dX3_enter_110 (by decide) (by decide) (Nat.le_of_ble_eq_true rfl) (kv fun M2 hp2 => ?_)
            have fr1 : ∀ x9, x9 ≠ q → M2 x9 = M x9 := fun x9 h9 => (hp2.2.2.1 x9 h9 (fun y9 h8 => by cases h8)).trans (mup_n h9)
            have hRr := (fr1 _ (ne_fr zq (hR.r hr (by omega)))).trans (hR.r hr (by omega))
            refine x_callV F s_X3_118 hRr rfl rfl (c_X2_addEntry F.nt hR hB hW hbs hr hj h12 g41 (hD r j hr hj g41) zq hp2.1 fr1) rfl dX3_enter_113 (by decide) (by decide) (Nat.le_of_ble_eq_true rfl) x_noX (kv fun M9 hp9 => ?_)
            obtain ⟨A2, hA0, hA30, hR2, hA2⟩ := hp9
            have e17 : (enU σ r j s0 w0).1 17 r = σ.1 17 r + 1 := by simp [enU, uN]
            have hRr9 := hR2.r (r := r) hr (by omega)
            rw [hA30] at hRr9
            have hRl9 := hR2.l (r := r) hr (by omega)
            refine x_aload F 0 dX3_enter_116 rfl ?_
            refine x_fget F f_X3_82 hRr9 (v := .ref (A2 (40 + r))) dX3_enter_118 rfl ?_
            refine x_callV F s_X3_37 hRl9 rfl rfl (c_lsize F.nt hRl9) rfl dX3_enter_121 (by decide) (by decide) (Nat.le_of_ble_eq_true rfl) x_noX (ki fun r8 M8 hp8 => ?_)
            obtain ⟨rfl, rfl⟩ := hp8
            rw [hQ]
            exact x_iret F dX3_enter_124 (by decide) ⟨_, rfl, hcd, by rw [cl_nI (n := r) (by omega), e17], A2, hA0, by rw [cl_nI (n := r) (by omega), cl_nI (n := j) (by omega), cl_nI (n := s0) (by omega), cl_nI (n := w0) (by omega)]; exact ⟨hR2, hA2⟩⟩
        · have c64_2 := nI_bz0.mp c64_2
          rw [hQ]
          exact x_throw F th_IA (text := "the wish is not in the set") (by decide +kernel) dX3_enter_67 dX3_enter_70 dX3_enter_71 dX3_enter_73 dX3_enter_76 ⟨by decide, Nat.le_of_ble_eq_true rfl, by decide, by decide⟩ (⟨rfl, Or.inr (Or.inl ⟨rfl, by first | exact cdEn_a hin9 (may_b (by omega) b1.2.2.1 (by omega) (by assumption)) | exact cdEn_a hin9 (may_c (by omega) b1.2.2.1 (by omega) (by omega) (by assumption))⟩)⟩)
    · have c29_2 := nI_bz0.mp c29_2
      rw [hQ]
      exact x_throw F th_IA (text := "no such set of performances") (by decide +kernel) dX3_enter_32 dX3_enter_35 dX3_enter_36 dX3_enter_38 dX3_enter_41 ⟨by decide, Nat.le_of_ble_eq_true rfl, by decide, by decide⟩ (⟨rfl, Or.inr (Or.inl ⟨rfl, cdEn_a hin9 (may_a (by omega) b1.2.2.1 (by assumption))⟩)⟩)
