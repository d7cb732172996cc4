/-! drawing -/
def cdnS (σ : ST) (kd day : Nat) : Nat := fb_ct (cbdS σ kd day) (σ.1 6 0)
theorem enB_s {A : Nat → Nat} {v : Int32} {b : Nat} (h : v = nI b) (hb : b < 2 ^ 31) : enB A v = some (A (10 + b)) := by
  unfold enB; rw [h, if_neg (nI_m1 hb), cl_nI hb]
theorem enB_n {A : Nat → Nat} {v : Int32} (h : v = -1) : enB A v = none := by unfold enB; rw [if_pos h]
theorem fnd_at {f : Nat → Bool} {t i : Nat} : ∀ {n : Nat}, i < n → f i = true → fb_ct f i = t → fndS f t n = nI i
  | 0, h, _, _ => absurd h (Nat.not_lt_zero _)
  | n + 1, h, h1, h2 => by
    rcases Nat.lt_succ_iff_lt_or_eq.mp h with h3 | rfl
    · have h4 : ¬ fb_ct f n = t := by
        have h5 : fb_ct f (i + 1) ≤ fb_ct f n := fb_ct_mono f (by omega)
        rw [fb_ct_yes h1] at h5
        omega
      rw [fndS_n h4]
      exact fnd_at h3 h1 h2
    · exact fndS_t h1 h2
theorem uN_comm {σ : ST} {s i v s' i' v' : Nat} (h : ¬ s = s') : uN (uN σ s i v) s' i' v' = uN (uN σ s' i' v') s i v := by
  unfold uN
  congr 1
  funext k j
  by_cases h1 : k = s
  · subst h1; simp [h]
  · by_cases h2 : k = s'
    · subst h2; simp [h1]
    · simp [h1, h2]
theorem drw_n {σ : ST} {r j k : Nat} (h : cdnS σ (σ.1 8 r) (dayS σ r j) = 0) (hk : k = 12 * r + j) : uN (uR σ 23 k (-1)) 24 k 0 = drwU σ r j := by
  subst hk
  unfold drwU
  rw [if_pos (show manS σ r (dayS σ r j) = 0 from h)]
theorem drw_y {σ : ST} {r j k b : Nat} (h : ¬ cdnS σ (σ.1 8 r) (dayS σ r j) = 0) (hv : fndS (cbdS σ (σ.1 8 r) (dayS σ r j)) (hidS σ % cdnS σ (σ.1 8 r) (dayS σ r j)) (σ.1 6 0) = nI b) (hb : b < 2 ^ 31) (hk : k = 12 * r + j) : uN (uR (uN (uD (uN σ 30 0 (hidS σ)) b (σ.2.2 b ||| bitD (dayS σ r j))) 42 b (σ.1 42 b + 1)) 23 k (nI b)) 24 k 1 = drwU σ r j := by
  subst hk
  have e : drwF σ r (dayS σ r j) = nI b := (if_neg (show ¬ manS σ r (dayS σ r j) = 0 from h)).trans hv
  unfold drwU
  rw [if_neg (show ¬ manS σ r (dayS σ r j) = 0 from h), e, cl_nI hb]
  exact uN_comm (σ := uR (uD (uN σ 30 0 (hidS σ)) b (σ.2.2 b ||| bitD (dayS σ r j))) 23 (12 * r + j) (nI b)) (by decide)
set_option maxHeartbeats 4000000 in
set_option maxRecDepth 100000 in
theorem c_X3_countDrawable {l : Launch} (hl : l.stackTraces = false) {g : GP} {M : MM} {A : Nat → Nat} {M0 : MM} {σ : ST} {kd day : Nat} (hR : CM g A M0 σ M) (hB : Bd σ) (hk : kd < 2 ^ 31) (hd : day < 64) : CT l g yX3_countDrawable cX3_countDrawable 5 (some .int) 4 114 0 0 [.ref (A 0), .int (nI (kd)), .int (nI (day))] M (pI (fun r9 M9 => nI (cdnS σ kd day) = r9 ∧ M = M9)) nX := by
  refine ct_of [(0, .ref (A 0)), (1, .int (nI (kd))), (2, .int (nI (day)))] (by decide) hl (Nat.le_of_ble_eq_true rfl) rfl ?_
  intro K hK F
  subst hK
  have F : Fx K g cX3_countDrawable RX3 5 (some .int) [] 4 114 0 0 := F
  obtain ⟨Q, hQ⟩ : ∃ Q, Q = MQx K g (pI (fun r9 M9 => nI (cdnS σ kd day) = r9 ∧ M = M9)) nX 0 0 := ⟨_, rfl⟩
  rw [← hQ]
  have hB9 := hB
  obtain ⟨h6, h7, h18, hr8, hk96, hp96, hb16, hh⟩ := hB9
  refine x_iconst F (nI 0) dX3_countDrawable_0 (by decide) ?_
  refine x_istore_n F [(3, .int (nI (0))), (0, .ref (A 0)), (1, .int (nI (kd))), (2, .int (nI (day)))] dX3_countDrawable_1 (by decide) rfl ?_
  refine x_iconst F (nI 0) dX3_countDrawable_2 (by decide) ?_
  refine x_istore F [(4, .int (nI (0))), (3, .int (nI (0))), (0, .ref (A 0)), (1, .int (nI (kd))), (2, .int (nI (day)))] dX3_countDrawable_3 (by decide) rfl ?_
  have LP5 : ∀ i, i ≤ (σ.1 6 0) → ∀ (v5_3 : Int32) (v5_4 : Int32), v5_3 = nI (fb_ct (cbdS σ kd day) i) → v5_4 = nI (i) → XW K g 5 Q M 0 0 5 [(4, .int (v5_4)), (3, .int (v5_3)), (0, .ref (A 0)), (1, .int (nI (kd))), (2, .int (nI (day)))] [] := by
    refine x_loop ((σ.1 6 0)) _ (fun i hi ihi => ?_)
    intro v5_3 v5_4 e5_3 e5_4
    subst e5_3
    subst e5_4
    refine x_iload F 0 dX3_countDrawable_5 rfl ?_
    refine x_aload_n F 2 dX3_countDrawable_7 rfl ?_
    refine x_fget F f_X3_12 hR.c (v := .ref (A 1)) dX3_countDrawable_8 rfl ?_
    refine x_callV F s_X3_37 hR.lb rfl rfl (c_lsize F.nt hR.lb) rfl dX3_countDrawable_11 (by decide) (by decide) (Nat.le_of_ble_eq_true rfl) x_noX (ki fun r M2 hp => ?_)
    obtain ⟨rfl, rfl⟩ := hp
    refine x_icmp_ge F 46 dX3_countDrawable_14 (by decide) (fun c14 => ?_) (fun c14 => ?_)
    · have c14 := (nI_leI (by omega) (by omega)).mp c14
      have c14b := Nat.not_lt.mpr c14
      refine x_iload_n F 1 dX3_countDrawable_46 rfl ?_
      rw [hQ]
      exact x_iret F dX3_countDrawable_47 (by decide) ⟨_, rfl, by have h9 : i = σ.1 6 0 := (by omega); rw [h9]; rfl, rfl⟩
    · have c14 := mt (nI_leI (by omega) (by omega)).mpr c14
      have c14b := Nat.not_le.mp c14
      refine x_aload_n F 2 dX3_countDrawable_17 rfl ?_
      refine x_fget F f_X3_12 hR.c (v := .ref (A 1)) dX3_countDrawable_18 rfl ?_
      refine x_iload F 0 dX3_countDrawable_21 rfl ?_
      refine x_callV F s_X3_124 hR.lb rfl rfl (c_lget F.nt hR.lb hR.db (by omega : i < σ.1 6 0) (by omega : σ.1 6 0 ≤ 22)) rfl dX3_countDrawable_23 (by decide) (by decide) (Nat.le_of_ble_eq_true rfl) x_noX (kr fun r_2 M2_2 hp_2 => ?_)
      obtain ⟨rfl, rfl⟩ := hp_2
      refine x_rr0 (y := A (10 + i)) (rfl) ?_
      refine x_cast F (hR.b (by omega : i < σ.1 6 0) (by omega)) rfl l_X3_46 dX3_countDrawable_26 ?_
      refine x_iload_n F 3 dX3_countDrawable_29 rfl ?_
      refine x_iload_n F 4 dX3_countDrawable_30 rfl ?_
      refine x_callV F s_X3_317 (hR.b (by omega : i < σ.1 6 0) (by omega)) rfl rfl (c_X0_canBeDrawn F.nt hR hB (by omega) (by omega) (by omega)) rfl dX3_countDrawable_31 (by decide) (by decide) (Nat.le_of_ble_eq_true rfl) x_noX (ki fun r_3 M2_3 hp_3 => ?_)
      obtain ⟨rfl, rfl⟩ := hp_3
      refine x_if_eq F 40 dX3_countDrawable_34 (by decide) (fun c34 => ?_) (fun c34 => ?_)
      · have c34 := nI_bz0.mp c34
        refine x_iinc F 0 [(4, .int (nI (i + 1))), (3, .int (nI (fb_ct (cbdS σ kd day) i))), (0, .ref (A 0)), (1, .int (nI (kd))), (2, .int (nI (day)))] dX3_countDrawable_40 rfl (iincN (i) 1) (by decide) rfl ?_
        refine x_goto F 5 dX3_countDrawable_43 (by decide) ?_
        exact ihi (by omega) _ _ (by (first | rw [fb_ct_yes (f := cbdS σ kd day) (n := i) c34] | rw [fb_ct_no (f := cbdS σ kd day) (n := i) c34])) (rfl)
      · have c34 := nI_bz1.mp c34
        refine x_iinc F 1 [(3, .int (nI (fb_ct (cbdS σ kd day) i + 1))), (4, .int (nI (i))), (0, .ref (A 0)), (1, .int (nI (kd))), (2, .int (nI (day)))] dX3_countDrawable_37 rfl (iincN (fb_ct (cbdS σ kd day) i) 1) (by decide) rfl ?_
        refine x_iinc F 1 [(4, .int (nI (i + 1))), (3, .int (nI (fb_ct (cbdS σ kd day) i + 1))), (0, .ref (A 0)), (1, .int (nI (kd))), (2, .int (nI (day)))] dX3_countDrawable_40 rfl (iincN (i) 1) (by decide) rfl ?_
        refine x_goto F 5 dX3_countDrawable_43 (by decide) ?_
        exact ihi (by omega) _ _ (by (first | rw [fb_ct_yes (f := cbdS σ kd day) (n := i) c34] | rw [fb_ct_no (f := cbdS σ kd day) (n := i) c34])) (rfl)
  exact LP5 0 (by omega) _ _ (rfl) (rfl)
set_option maxHeartbeats 4000000 in
set_option maxRecDepth 100000 in
theorem c_X3_drawableAt {l : Launch} (hl : l.stackTraces = false) {g : GP} {M : MM} {A : Nat → Nat} {M0 : MM} {σ : ST} {kd day t : Nat} (hR : CM g A M0 σ M) (hB : Bd σ) (hk : kd < 2 ^ 31) (hd : day < 64) (ht : t < 2 ^ 31) : CT l g yX3_drawableAt cX3_drawableAt 7 (some (.object "RankStock$Beast")) 4 114 0 0 [.ref (A 0), .int (nI (kd)), .int (nI (day)), .int (nI (t))] M (pQ (fun r9 M9 => enB A (fndS (cbdS σ kd day) t (σ.1 6 0)) = r9 ∧ M = M9)) nX := by
  refine ct_of [(0, .ref (A 0)), (1, .int (nI (kd))), (2, .int (nI (day))), (3, .int (nI (t)))] (by decide) hl (Nat.le_of_ble_eq_true rfl) rfl ?_
  intro K hK F
  subst hK
  have F : Fx K g cX3_drawableAt RX3 7 (some (.object "RankStock$Beast")) [] 4 114 0 0 := F
  obtain ⟨Q, hQ⟩ : ∃ Q, Q = MQx K g (pQ (fun r9 M9 => enB A (fndS (cbdS σ kd day) t (σ.1 6 0)) = r9 ∧ M = M9)) nX 0 0 := ⟨_, rfl⟩
  rw [← hQ]
  have hB9 := hB
  obtain ⟨h6, h7, h18, hr8, hk96, hp96, hb16, hh⟩ := hB9
  refine x_iconst F (nI 0) dX3_drawableAt_0 (by decide) ?_
  refine x_istore F [(4, .int (nI (0))), (0, .ref (A 0)), (1, .int (nI (kd))), (2, .int (nI (day))), (3, .int (nI (t)))] dX3_drawableAt_1 (by decide) rfl ?_
  refine x_iconst F (nI 0) dX3_drawableAt_3 (by decide) ?_
  refine x_istore F [(5, .int (nI (0))), (4, .int (nI (0))), (0, .ref (A 0)), (1, .int (nI (kd))), (2, .int (nI (day))), (3, .int (nI (t)))] dX3_drawableAt_4 (by decide) rfl ?_
  have LP6 : ∀ i, i ≤ (σ.1 6 0) → ∀ (v6_4 : Int32) (v6_5 : Int32), v6_4 = nI (fb_ct (cbdS σ kd day) i) → v6_5 = nI (i) → fndS (cbdS σ kd day) t i = -1 → XW K g 7 Q M 0 0 6 [(5, .int (v6_5)), (4, .int (v6_4)), (0, .ref (A 0)), (1, .int (nI (kd))), (2, .int (nI (day))), (3, .int (nI (t)))] [] := by
    refine x_loop ((σ.1 6 0)) _ (fun i hi ihi => ?_)
    intro v6_4 v6_5 e6_4 e6_5 hff
    subst e6_4
    subst e6_5
    have hle := fb_ct_le (cbdS σ kd day) i
    refine x_iload F 0 dX3_drawableAt_6 rfl ?_
    refine x_aload_n F 2 dX3_drawableAt_8 rfl ?_
    refine x_fget F f_X3_12 hR.c (v := .ref (A 1)) dX3_drawableAt_9 rfl ?_
    refine x_callV F s_X3_37 hR.lb rfl rfl (c_lsize F.nt hR.lb) rfl dX3_drawableAt_12 (by decide) (by decide) (Nat.le_of_ble_eq_true rfl) x_noX (ki fun r M2 hp => ?_)
    obtain ⟨rfl, rfl⟩ := hp
    refine x_icmp_ge F 60 dX3_drawableAt_15 (by decide) (fun c15 => ?_) (fun c15 => ?_)
    · have c15 := (nI_leI (by omega) (by omega)).mp c15
      have c15b := Nat.not_lt.mpr c15
      refine x_null F dX3_drawableAt_60 ?_
      rw [hQ]
      exact x_aretN F rfl (Or.inl ⟨_, rfl⟩) dX3_drawableAt_61 (by decide) ⟨none, rfl, by have h9 : i = σ.1 6 0 := (by omega); rw [h9] at hff; exact enB_n hff, rfl⟩
    · have c15 := mt (nI_leI (by omega) (by omega)).mpr c15
      have c15b := Nat.not_le.mp c15
      refine x_aload_n F 2 dX3_drawableAt_18 rfl ?_
      refine x_fget F f_X3_12 hR.c (v := .ref (A 1)) dX3_drawableAt_19 rfl ?_
      refine x_iload F 0 dX3_drawableAt_22 rfl ?_
      refine x_callV F s_X3_124 hR.lb rfl rfl (c_lget F.nt hR.lb hR.db (by omega : i < σ.1 6 0) (by omega : σ.1 6 0 ≤ 22)) rfl dX3_drawableAt_24 (by decide) (by decide) (Nat.le_of_ble_eq_true rfl) x_noX (kr fun r_2 M2_2 hp_2 => ?_)
      obtain ⟨rfl, rfl⟩ := hp_2
      refine x_rr0 (y := A (10 + i)) (rfl) ?_
      refine x_cast F (hR.b (by omega : i < σ.1 6 0) (by omega)) rfl l_X3_46 dX3_drawableAt_27 ?_
      refine x_astore F [(6, .ref (A (10 + i))), (5, .int (nI (i))), (4, .int (nI (fb_ct (cbdS σ kd day) i))), (0, .ref (A 0)), (1, .int (nI (kd))), (2, .int (nI (day))), (3, .int (nI (t)))] dX3_drawableAt_30 (by decide) rfl ?_
      refine x_aload F 0 dX3_drawableAt_32 rfl ?_
      refine x_iload_n F 4 dX3_drawableAt_34 rfl ?_
      refine x_iload_n F 5 dX3_drawableAt_35 rfl ?_
      refine x_callV F s_X3_317 (hR.b (by omega : i < σ.1 6 0) (by omega)) rfl rfl (c_X0_canBeDrawn F.nt hR hB (by omega) (by omega) (by omega)) rfl dX3_drawableAt_36 (by decide) (by decide) (Nat.le_of_ble_eq_true rfl) x_noX (ki fun r_3 M2_3 hp_3 => ?_)
      obtain ⟨rfl, rfl⟩ := hp_3
      refine x_if_eq F 54 dX3_drawableAt_39 (by decide) (fun c39 => ?_) (fun c39 => ?_)
      · have c39 := nI_bz0.mp c39
        refine x_iinc F 1 [(5, .int (nI (i + 1))), (6, .ref (A (10 + i))), (4, .int (nI (fb_ct (cbdS σ kd day) i))), (0, .ref (A 0)), (1, .int (nI (kd))), (2, .int (nI (day))), (3, .int (nI (t)))] dX3_drawableAt_54 rfl (iincN (i) 1) (by decide) rfl ?_
        refine x_goto F 6 dX3_drawableAt_57 (by decide) ?_
        refine x_sub [0, 2, 3, 4, 5, 6] rfl (L' := [(5, .int (nI (i + 1))), (4, .int (nI (fb_ct (cbdS σ kd day) i))), (0, .ref (A 0)), (1, .int (nI (kd))), (2, .int (nI (day))), (3, .int (nI (t)))]) ?_
        exact ihi (by omega) _ _ (by (first | rw [fb_ct_yes (f := cbdS σ kd day) (n := i) c39] | rw [fb_ct_no (f := cbdS σ kd day) (n := i) c39])) (rfl) (by first | exact (fndS_f (f := cbdS σ kd day) c39).trans hff | exact (fndS_n c45).trans hff)
      · have c39 := nI_bz1.mp c39
        refine x_iload F 2 dX3_drawableAt_42 rfl ?_
        refine x_iload_n F 6 dX3_drawableAt_44 rfl ?_
        refine x_icmp_ne F 51 dX3_drawableAt_45 (by decide) (fun c45 => ?_) (fun c45 => ?_)
        · have c45 := mt (nI_eq (by omega) (by omega)).mpr c45
          refine x_iinc F 2 [(4, .int (nI (fb_ct (cbdS σ kd day) i + 1))), (6, .ref (A (10 + i))), (5, .int (nI (i))), (0, .ref (A 0)), (1, .int (nI (kd))), (2, .int (nI (day))), (3, .int (nI (t)))] dX3_drawableAt_51 rfl (iincN (fb_ct (cbdS σ kd day) i) 1) (by decide) rfl ?_
          refine x_iinc F 2 [(5, .int (nI (i + 1))), (4, .int (nI (fb_ct (cbdS σ kd day) i + 1))), (6, .ref (A (10 + i))), (0, .ref (A 0)), (1, .int (nI (kd))), (2, .int (nI (day))), (3, .int (nI (t)))] dX3_drawableAt_54 rfl (iincN (i) 1) (by decide) rfl ?_
          refine x_goto F 6 dX3_drawableAt_57 (by decide) ?_
          refine x_sub [0, 1, 3, 4, 5, 6] rfl (L' := [(5, .int (nI (i + 1))), (4, .int (nI (fb_ct (cbdS σ kd day) i + 1))), (0, .ref (A 0)), (1, .int (nI (kd))), (2, .int (nI (day))), (3, .int (nI (t)))]) ?_
          exact ihi (by omega) _ _ (by (first | rw [fb_ct_yes (f := cbdS σ kd day) (n := i) c39] | rw [fb_ct_no (f := cbdS σ kd day) (n := i) c39])) (rfl) (by first | exact (fndS_f (f := cbdS σ kd day) c39).trans hff | exact (fndS_n c45).trans hff)
        · have c45 := (nI_eq (by omega) (by omega)).mp c45
          refine x_aload F 0 dX3_drawableAt_48 rfl ?_
          rw [hQ]
          exact x_aret F rfl (Or.inl ⟨_, rfl⟩) dX3_drawableAt_50 (by decide) ⟨some _, rfl, enB_s (fnd_at (f := cbdS σ kd day) (by omega) c39 c45) (by omega), rfl⟩
  exact LP6 0 (by omega) _ _ (rfl) (rfl) (rfl)
set_option maxHeartbeats 4000000 in
set_option maxRecDepth 100000 in
theorem c_X3_drawBeast {l : Launch} (hl : l.stackTraces = false) {g : GP} {M : MM} {A : Nat → Nat} {M0 : MM} {σ : ST} {kd day : Nat} (hR : CM g A M0 σ M) (hB : Bd σ) (hk : kd < 2 ^ 31) (hd : day < 64) : CT l g yX3_drawBeast cX3_drawBeast 5 (some (.object "RankStock$Beast")) 5 140 0 0 [.ref (A 0), .int (nI (kd)), .int (nI (day))] M (pQ (fun r9 M9 => (cdnS σ kd day = 0 ∧ none = r9 ∧ M = M9) ∨ (¬ cdnS σ kd day = 0 ∧ ∃ b, b < σ.1 6 0 ∧ fndS (cbdS σ kd day) (hidS σ % cdnS σ kd day) (σ.1 6 0) = nI b ∧ some (A (10 + b)) = r9 ∧ CM g A M0 (uN (uD (uN σ 30 0 (hidS σ)) b (σ.2.2 b ||| bitD day)) 42 b (σ.1 42 b + 1)) M9))) nX := by
  refine ct_of [(0, .ref (A 0)), (1, .int (nI (kd))), (2, .int (nI (day)))] (by decide) hl (Nat.le_of_ble_eq_true rfl) rfl ?_
  intro K hK F
  subst hK
  have F : Fx K g cX3_drawBeast RX3 5 (some (.object "RankStock$Beast")) [] 5 140 0 0 := F
  obtain ⟨Q, hQ⟩ : ∃ Q, Q = MQx K g (pQ (fun r9 M9 => (cdnS σ kd day = 0 ∧ none = r9 ∧ M = M9) ∨ (¬ cdnS σ kd day = 0 ∧ ∃ b, b < σ.1 6 0 ∧ fndS (cbdS σ kd day) (hidS σ % cdnS σ kd day) (σ.1 6 0) = nI b ∧ some (A (10 + b)) = r9 ∧ CM g A M0 (uN (uD (uN σ 30 0 (hidS σ)) b (σ.2.2 b ||| bitD day)) 42 b (σ.1 42 b + 1)) M9))) nX 0 0 := ⟨_, rfl⟩
  rw [← hQ]
  have hB9 := hB
  obtain ⟨h6, h7, h18, hr8, hk96, hp96, hb16, hh⟩ := hB9
  have b5 : cdnS σ kd day ≤ 16 := Nat.le_trans (fb_ct_le _ _) h6
  have b6 : hidS σ < 65537 := by (unfold hidS; omega)
  refine x_aload_n F 0 dX3_drawBeast_0 rfl ?_
  refine x_iload_n F 1 dX3_drawBeast_1 rfl ?_
  refine x_iload_n F 2 dX3_drawBeast_2 rfl ?_
  refine x_callV F s_X3_306 hR.c rfl rfl (c_X3_countDrawable F.nt hR hB (by omega) (by omega)) rfl dX3_drawBeast_3 (by decide) (by decide) (Nat.le_of_ble_eq_true rfl) x_noX (ki fun r M2 hp => ?_)
  obtain ⟨rfl, rfl⟩ := hp
  refine x_istore_n F [(3, .int (nI (cdnS σ kd day))), (0, .ref (A 0)), (1, .int (nI (kd))), (2, .int (nI (day)))] dX3_drawBeast_6 (by decide) rfl ?_
  refine x_iload_n F 0 dX3_drawBeast_7 rfl ?_
  refine x_iconst F (nI 1) dX3_drawBeast_8 (by decide) ?_
  refine x_icmp_ge F 14 dX3_drawBeast_9 (by decide) (fun c9 => ?_) (fun c9 => ?_)
  · have c9 := (nI_leI (by omega) (by omega)).mp c9
    have c9b := Nat.not_lt.mpr c9
    refine x_aload_n F 1 dX3_drawBeast_14 rfl ?_
    refine x_bipush F (nI 75) dX3_drawBeast_15 (by decide) ?_
    refine x_aload_n F 1 dX3_drawBeast_17 rfl ?_
    refine x_fget F f_X3_23 hR.c (v := .int (nI (σ.1 30 0))) dX3_drawBeast_18 rfl ?_
    refine x_imulN F dX3_drawBeast_21 ?_
    refine x_bipush F (nI 74) dX3_drawBeast_22 (by decide) ?_
    refine x_iaddN F dX3_drawBeast_24 ?_
    refine x_ldcw F (nI 65537) k_X3_309 dX3_drawBeast_25 ?_
    refine x_iremN F dX3_drawBeast_28 (by omega) (by omega) (by omega) ?_
    refine x_ri0 (y := nI (hidS σ)) (rfl) ?_
    refine x_pX3_3 F hR  p_X3_23 dX3_drawBeast_29 (fun M1 hR1 => ?_)
    have hB1 : Bd (uN σ 30 0 (hidS σ)) := ⟨h6, h7, h18, hr8, hk96, hp96, hb16, (show hidS σ ≤ 65536 by omega)⟩
    refine x_aload_n F 1 dX3_drawBeast_32 rfl ?_
    refine x_iload_n F 2 dX3_drawBeast_33 rfl ?_
    refine x_iload_n F 3 dX3_drawBeast_34 rfl ?_
    refine x_aload_n F 1 dX3_drawBeast_35 rfl ?_
    refine x_fget F f_X3_23 hR1.c (v := .int (nI ((uN σ 30 0 (hidS σ)).1 30 0))) dX3_drawBeast_36 rfl ?_
    refine x_ri0 (y := nI (hidS σ)) (rfl) ?_
    refine x_iload_n F 0 dX3_drawBeast_39 rfl ?_
    refine x_iremN F dX3_drawBeast_40 (by omega) (by omega) (by omega) ?_
    refine x_callV F s_X3_310 hR1.c rfl rfl (c_X3_drawableAt F.nt hR1 hB1 (by omega) (by omega) (by have := Nat.mod_le (hidS σ) (cdnS σ kd day); omega)) rfl dX3_drawBeast_41 (by decide) (by decide) (Nat.le_of_ble_eq_true rfl) x_noX (kq fun r9 M9 hp9 => ?_)
    obtain ⟨rfl, rfl⟩ := hp9
    obtain ⟨b, hb, hf, hc, hv⟩ := fndS_some (f := cbdS σ kd day) (t := hidS σ % cdnS σ kd day) (n := σ.1 6 0) (Nat.mod_lt _ (by omega))
    refine x_rv0 (y := .ref (A (10 + b))) (enB_t hv (by omega)) ?_
    refine x_astore F [(4, .ref (A (10 + b))), (3, .int (nI (cdnS σ kd day))), (0, .ref (A 0)), (1, .int (nI (kd))), (2, .int (nI (day)))] dX3_drawBeast_44 (by decide) rfl ?_
    refine x_aload F 0 dX3_drawBeast_46 rfl ?_
    refine x_ifnull F dX3_drawBeast_48 ?_
    refine x_aload F 0 dX3_drawBeast_51 rfl ?_
    refine x_iload_n F 4 dX3_drawBeast_53 rfl ?_
    refine x_callV F s_X3_314 (hR1.b (by omega : b < σ.1 6 0) (by omega)) rfl rfl (c_X0_noteDraw F.nt hR1 hB1 (hb)) rfl dX3_drawBeast_54 (by decide) (by decide) (Nat.le_of_ble_eq_true rfl) x_noX (kv fun M9 hp8 => ?_)
    have hR8 : CM g A M0 (uN (uD (uN σ 30 0 (hidS σ)) b (σ.2.2 b ||| bitD day)) 42 b (σ.1 42 b + 1)) M9 := hp8
    refine x_aload F 0 dX3_drawBeast_57 rfl ?_
    rw [hQ]
    exact x_aret F rfl (Or.inl ⟨_, rfl⟩) dX3_drawBeast_59 (by decide) ⟨some _, rfl, Or.inr ⟨by omega, b, hb, hv, rfl, hR8⟩⟩
  · have c9 := mt (nI_leI (by omega) (by omega)).mpr c9
    have c9b := Nat.not_le.mp c9
    refine x_null F dX3_drawBeast_12 ?_
    rw [hQ]
    exact x_aretN F rfl (Or.inl ⟨_, rfl⟩) dX3_drawBeast_13 (by decide) ⟨none, rfl, Or.inl ⟨by omega, rfl, rfl⟩⟩
set_option maxHeartbeats 4000000 in
set_option maxRecDepth 100000 in
theorem c_X3_mount {l : Launch} (hl : l.stackTraces = false) {g : GP} {M : MM} {A : Nat → Nat} {M0 : MM} {σ : ST} {r k j : Nat} (hR : CM g A M0 σ M) (hB : Bd σ) (hr : r < σ.1 18 0) (hkj : k = 12 * r + j) (hj : j < 12) (he : σ.1 41 k = 1) (hp : ¬ σ.2.1 22 k = -1) : CT l g yX3_mount cX3_mount 3 (none : Option Jvm.ClassFile.FieldType) 6 164 0 0 [.ref (A 0), .ref (A (30 + r)), .ref (A (100 + k))] M (pV (fun M9 => CM g A M0 (drwU σ r j) M9)) nX := by
  refine ct_of [(0, .ref (A 0)), (1, .ref (A (30 + r))), (2, .ref (A (100 + k)))] (by decide) hl (Nat.le_of_ble_eq_true rfl) rfl ?_
  intro K hK F
  subst hK
  have F : Fx K g cX3_mount RX3 3 (none : Option Jvm.ClassFile.FieldType) [] 6 164 0 0 := F
  obtain ⟨Q, hQ⟩ : ∃ Q, Q = MQx K g (pV (fun M9 => CM g A M0 (drwU σ r j) M9)) nX 0 0 := ⟨_, rfl⟩
  rw [← hQ]
  have hB9 := hB
  obtain ⟨h6, h7, h18, hr8, hk96, hp96, hb16, hh⟩ := hB9
  have b1 := hr8 r (by omega)
  have b2 := hp96 k (by omega)
  have b3 := pl_cl (by decide) b2.1 hp
  refine x_aload_n F 2 dX3_mount_0 rfl ?_
  refine x_aload_n F 0 dX3_mount_1 rfl ?_
  refine x_aload_n F 1 dX3_mount_2 rfl ?_
  refine x_fget F f_X3_297 (hR.r (by omega : r < σ.1 18 0) (by omega)) (v := .int (nI (σ.1 8 r))) dX3_mount_3 rfl ?_
  refine x_aload_n F 1 dX3_mount_6 rfl ?_
  refine x_aload_n F 2 dX3_mount_7 rfl ?_
  refine x_fget F f_X3_132 (hR.e he (by omega)) (v := .int (σ.2.1 22 k)) dX3_mount_8 rfl ?_
  refine x_ri0 (y := nI (cl (σ.2.1 22 k))) (b3.1) ?_
  refine x_callV F s_X3_281 (hR.r (by omega : r < σ.1 18 0) (by omega)) rfl rfl (c_X2_dayOf F.nt hR hB (by omega)) rfl dX3_mount_11 (by decide) (by decide) (Nat.le_of_ble_eq_true rfl) x_noX (ki fun r M2 hp => ?_)
  obtain ⟨rfl, rfl⟩ := hp
  have b4 : dayS σ r j < 64 := by (unfold dayS; rw [← hkj]; omega)
  refine x_ri0 (y := nI (dayS σ r j)) (by (rw [hkj]; rfl)) ?_
  refine x_callV F s_X3_298 hR.c rfl rfl (c_X3_drawBeast F.nt hR hB (by omega) (b4)) rfl dX3_mount_14 (by decide) (by decide) (Nat.le_of_ble_eq_true rfl) x_noX (kq fun r9 M9 hp9 => ?_)
  rcases hp9 with ⟨hc9, rfl, rfl⟩ | ⟨hc9, b, hb, hv, rfl, hR9⟩
  · refine x_rv0 (y := .null) rfl ?_
    refine x_pX1_4N F hR (k := k) he (by omega) p_X3_302 dX3_mount_17 (fun M1 hR1 => ?_)
    refine x_aload_n F 2 dX3_mount_20 rfl ?_
    refine x_aload_n F 2 dX3_mount_21 rfl ?_
    refine x_fget F f_X3_302 (hR1.e he (by omega)) (v := va_rf (enB A ((uR σ 23 k (-1)).2.1 23 k))) dX3_mount_22 rfl ?_
    refine x_rv0 (y := .null) (enB_f (if_pos ⟨rfl, rfl⟩)) ?_
    refine x_ifnullN F 32 dX3_mount_25 (by decide) ?_
    refine x_iconst F (nI 0) dX3_mount_32 (by decide) ?_
    refine x_pX1_5 F hR1 (k := k) he (by omega) (by omega) p_X3_169 dX3_mount_33 (fun M1_2 hR1_2 => ?_)
    rw [hQ]
    exact x_vret F dX3_mount_36 (by decide) ⟨rfl, by first | exact (drw_n hc9 hkj) ▸ hR1_2 | exact (drw_y hc9 hv (by omega) hkj) ▸ hR1_2⟩
  · refine x_rv0 (y := .ref (A (10 + b))) rfl ?_
    refine x_pX1_4 F hR9 (k := k) he (by omega) (by omega) p_X3_302 dX3_mount_17 (fun M1_3 hR1_3 => ?_)
    refine x_aload_n F 2 dX3_mount_20 rfl ?_
    refine x_aload_n F 2 dX3_mount_21 rfl ?_
    refine x_fget F f_X3_302 (hR1_3.e he (by omega)) (v := va_rf (enB A ((uR (uN (uD (uN σ 30 0 (hidS σ)) b (σ.2.2 b ||| bitD (dayS σ r j))) 42 b (σ.1 42 b + 1)) 23 k (nI b)).2.1 23 k))) dX3_mount_22 rfl ?_
    refine x_rv0 (y := .ref (A (10 + b))) (enB_t (if_pos ⟨rfl, rfl⟩) (by omega)) ?_
    refine x_ifnull F dX3_mount_25 ?_
    refine x_iconst F (nI 1) dX3_mount_28 (by decide) ?_
    refine x_goto F 33 dX3_mount_29 (by decide) ?_
    refine x_pX1_5 F hR1_3 (k := k) he (by omega) (by omega) p_X3_169 dX3_mount_33 (fun M1_4 hR1_4 => ?_)
    rw [hQ]
    exact x_vret F dX3_mount_36 (by decide) ⟨rfl, by first | exact (drw_n hc9 hkj) ▸ hR1_4 | exact (drw_y hc9 hv (by omega) hkj) ▸ hR1_4⟩
