/-! rides, answers, ranks, money of riders -/
theorem cdRi_a {σ : ST} {x0 y0 mk w : Int32} (h : (inN x0 (σ.1 18 0) && inN y0 (σ.1 7 0)) = true) (h2 : inR mk (nI 0) (nI 456975) = false ∨ inR w (nI 0) (nI 999999) = false) : cdRi σ x0 y0 mk w = 2 := by
  unfold cdRi
  rw [if_neg (by rw [h]; exact Bool.noConfusion), if_pos (by rcases h2 with h2 | h2 <;> rw [h2] <;> simp)]
theorem cdRi_b {σ : ST} {r j : Nat} {mk w : Int32} (h : (inN (nI r) (σ.1 18 0) && inN (nI j) (σ.1 7 0)) = true) (h2 : inR mk (nI 0) (nI 456975) = true) (h3 : inR w (nI 0) (nI 999999) = true) (hr : r < σ.1 18 0) (hrj : r < 1000 ∧ j < 1000) (h4 : ¬ σ.1 15 r = 2 ∨ σ.1 24 (12 * r + j) = 0) : cdRi σ (nI r) (nI j) mk w = 3 := by
  unfold cdRi
  rw [if_neg (by rw [h]; exact Bool.noConfusion), if_neg (by rw [h2, h3]; exact Bool.noConfusion), cl_nI (by omega), cl_nI (by omega), if_pos h4]
theorem cdRi_c {σ : ST} {r j : Nat} {mk w : Int32} (h : (inN (nI r) (σ.1 18 0) && inN (nI j) (σ.1 7 0)) = true) (h2 : inR mk (nI 0) (nI 456975) = true) (h3 : inR w (nI 0) (nI 999999) = true) (hr : r < σ.1 18 0) (hrj : r < 1000 ∧ j < 1000) (h4 : σ.1 15 r = 2) (h5 : ¬ σ.1 24 (12 * r + j) = 0) : cdRi σ (nI r) (nI j) mk w = 0 := by
  unfold cdRi
  rw [if_neg (by rw [h]; exact Bool.noConfusion), if_neg (by rw [h2, h3]; exact Bool.noConfusion), cl_nI (by omega), cl_nI (by omega), if_neg (by rintro (z | z); exact z h4; exact h5 z)]
theorem cdAn_b {σ : ST} {r j : Nat} (h : (inN (nI r) (σ.1 18 0) && inN (nI j) (σ.1 7 0)) = true) (hr : r < σ.1 18 0) (hrj : r < 1000 ∧ j < 1000) (h4 : σ.1 26 (12 * r + j) = 0) : cdAn σ (nI r) (nI j) = 2 := by
  unfold cdAn
  rw [if_neg (by rw [h]; exact Bool.noConfusion), cl_nI (by omega), cl_nI (by omega), if_pos h4]
theorem cdAn_c {σ : ST} {r j : Nat} (h : (inN (nI r) (σ.1 18 0) && inN (nI j) (σ.1 7 0)) = true) (hr : r < σ.1 18 0) (hrj : r < 1000 ∧ j < 1000) (h4 : ¬ σ.1 26 (12 * r + j) = 0) : cdAn σ (nI r) (nI j) = 0 := by
  unfold cdAn
  rw [if_neg (by rw [h]; exact Bool.noConfusion), cl_nI (by omega), cl_nI (by omega), if_neg h4]
theorem rc_1 {w : Nat} {f : Bool} (h : f = true) : rcS w f = false := by unfold rcS; rw [h]; rfl
theorem rc_2 {w : Nat} {f : Bool} (h : decide (1600 ≤ w / 1000 + w % 1000) = false) : rcS w f = false := by unfold rcS; rw [h, Bool.and_false]
theorem rc_3 {w : Nat} {f : Bool} (h : f = false) (h2 : decide (1600 ≤ w / 1000 + w % 1000) = true) : rcS w f = true := by unfold rcS; rw [h, h2]; rfl
theorem tk_rid {σ : ST} {k b mk w : Nat} {f : Bool} (hm : mk ≤ 456975) : tkU σ k b (rcS w f) (mkD mk 0 % 26 + mkD mk 2 % 26) (mkD mk 1 % 26 + mkD mk 3 % 26) = ridU σ k b mk w f := by
  have e3 : mkD mk 1 % 26 + mkD mk 3 % 26 = mkB mk := by
    show mk / 26 % 26 + mk / 26 / 26 / 26 % 26 = _
    unfold mkB
    omega
  have e4 : mkD mk 0 % 26 + mkD mk 2 % 26 + mkB mk = mkA mk := by
    show mk % 26 + mk / 26 / 26 % 26 + mkB mk = _
    unfold mkB mkA
    omega
  unfold tkU ridU
  rw [e3, e4]
  have c1 : ∀ (τ : ST) (s i v : Nat), ¬ s = 2 → uN (uN τ s i v) 2 b (σ.1 2 b + 1) = uN (uN τ 2 b (σ.1 2 b + 1)) s i v := fun τ s i v h => uN_comm h
  have c2 : ∀ (τ : ST) (s i v : Nat), ¬ s = 3 → uN (uN τ s i v) 3 b (σ.1 3 b + if rcS w f = true then 0 else 1) = uN (uN τ 3 b (σ.1 3 b + if rcS w f = true then 0 else 1)) s i v := fun τ s i v h => uN_comm h
  have c3 : ∀ (τ : ST) (s i v : Nat), ¬ s = 4 → uN (uN τ s i v) 4 b (σ.1 4 b + mkB mk) = uN (uN τ 4 b (σ.1 4 b + mkB mk)) s i v := fun τ s i v h => uN_comm h
  have d : ∀ (τ : ST) (s i v s' i' : Nat) (v' : Int32), uN (uR τ s' i' v') s i v = uR (uN τ s i v) s' i' v' := fun _ _ _ _ _ _ _ => rfl
  simp only [d]
  rw [c1 _ 26 _ _ (by decide), c1 _ 27 _ _ (by decide), c1 _ 24 _ _ (by decide), c2 _ 26 _ _ (by decide), c2 _ 27 _ _ (by decide), c2 _ 24 _ _ (by decide), c3 _ 26 _ _ (by decide), c3 _ 27 _ _ (by decide), c3 _ 24 _ _ (by decide)]
theorem Bd_26 {σ : ST} {k : Nat} (hB : Bd σ) : Bd (uN σ 26 k 0) := by
  obtain ⟨h6, h7, h18, hr8, hk96, hp96, hb16, hh⟩ := hB
  refine ⟨h6, h7, h18, hr8, fun q hq => ?_, hp96, hb16, hh⟩
  obtain ⟨a1, a2, a3, a4, a5, a6, a7, a8⟩ := hk96 q hq
  refine ⟨a1, a2, a3, a4, a5, ?_, a7, a8⟩
  simp only [uN]
  split
  · omega
  · exact a6
theorem IBe_drw {σ τ : ST} {r j : Nat} (h : IBe σ) (e : τ.2.1 23 = σ.2.1 23 ∧ τ.1 6 0 = σ.1 6 0 ∧ ∀ k, τ.1 41 k = σ.1 41 k := by exact ⟨rfl, rfl, fun _ => rfl⟩) : IBe (drwU τ r j) := by
  intro k hk h41 hn
  have h41 : σ.1 41 k = 1 := (e.2.2 k).symm.trans ((congrFun (drwU_N (k := 41) (by decide)) k).symm.trans h41)
  have e6 : (drwU τ r j).1 6 0 = σ.1 6 0 := (congrFun (drwU_N (by decide)) 0).trans e.2.1
  rw [e6]
  unfold drwU at hn ⊢
  split at hn
  · rename_i c
    rw [if_pos c]
    by_cases z : k = 12 * r + j
    · exact absurd (if_pos ⟨rfl, z⟩) hn
    · have e2 : (uN (uR τ 23 (12 * r + j) (-1)) 24 (12 * r + j) 0).2.1 23 k = σ.2.1 23 k := (if_neg (fun y => z y.2)).trans (congrFun e.1 k)
      rw [e2] at hn ⊢
      exact h k hk h41 hn
  · rename_i c
    rw [if_neg c]
    obtain ⟨b, hb, -, -, hv⟩ := drwF_some c
    by_cases z : k = 12 * r + j
    · exact ⟨b, by rw [← e.2.1]; exact hb, (if_pos ⟨rfl, z⟩).trans hv⟩
    · have e2 : (uN (uN (uR (uD (uN τ 30 0 (hidS τ)) (cl (drwF τ r (dayS τ r j))) (τ.2.2 (cl (drwF τ r (dayS τ r j))) ||| bitD (dayS τ r j))) 23 (12 * r + j) (drwF τ r (dayS τ r j))) 24 (12 * r + j) 1) 42 (cl (drwF τ r (dayS τ r j))) (τ.1 42 (cl (drwF τ r (dayS τ r j))) + 1)).2.1 23 k = σ.2.1 23 k := (if_neg (fun y => z y.2)).trans (congrFun e.1 k)
      rw [e2] at hn ⊢
      exact h k hk h41 hn
theorem ahdS_irr {σ : ST} {b : Nat} : ahdS σ b b = false := by
  unfold ahdS
  rw [if_neg (by simp), if_neg (by simp)]
  simp
theorem rkb_1 {σ : ST} {b o : Nat} (h : σ.1 2 o = 0) : (fun o => decide (¬ o = b) && decide (0 < σ.1 2 o) && ahdS σ o b) o = false := by
  show (decide (¬ o = b) && decide (0 < σ.1 2 o) && ahdS σ o b) = false
  rw [h]; simp
theorem rkb_2 {σ : ST} {b o : Nat} (h : ahdS σ o b = false) : (fun o => decide (¬ o = b) && decide (0 < σ.1 2 o) && ahdS σ o b) o = false := by
  show (decide (¬ o = b) && decide (0 < σ.1 2 o) && ahdS σ o b) = false
  rw [h, Bool.and_false]
theorem rkb_3 {σ : ST} {b o : Nat} (h : ¬ σ.1 2 o = 0) (h2 : ahdS σ o b = true) : (fun o => decide (¬ o = b) && decide (0 < σ.1 2 o) && ahdS σ o b) o = true := by
  show (decide (¬ o = b) && decide (0 < σ.1 2 o) && ahdS σ o b) = true
  have : ¬ o = b := by
    intro z
    rw [z, ahdS_irr] at h2
    cases h2
  rw [h2, decide_eq_true this, decide_eq_true (Nat.pos_of_ne_zero h)]; rfl
theorem rkb_0 {σ : ST} {b : Nat} (h : σ.1 2 b = 0) : rkbS σ b = -1 := if_pos h
theorem rkb_4 {σ : ST} {b : Nat} (h : ¬ σ.1 2 b = 0) : rkbS σ b = nI (fb_ct (fun o => decide (¬ o = b) && decide (0 < σ.1 2 o) && ahdS σ o b) (σ.1 6 0)) := if_neg h
def mnY (σ : ST) (j r : Nat) : Nat := σ.1 29 (12 * r + j)
theorem mnY_le {σ : ST} {j : Nat} (hB : Bd σ) (hj : j < 12) (r : Nat) (hr : r < 8) : mnY σ j r ≤ 300000 := (hB.2.2.2.2.1 (12 * r + j) (by omega)).2.2.2.2.2.2.2
def b3S (f : Nat → Nat) : Nat → Nat × Nat × Nat
  | 0 => (0, 0, 0)
  | n + 1 => if (b3S f n).1 < f n then (f n, (b3S f n).1, (b3S f n).2.1) else if (b3S f n).2.1 < f n then ((b3S f n).1, f n, (b3S f n).2.1) else if (b3S f n).2.2 < f n then ((b3S f n).1, (b3S f n).2.1, f n) else b3S f n
theorem b3_1 {f : Nat → Nat} {n : Nat} (h : (b3S f n).1 < f n) : b3S f (n + 1) = (f n, (b3S f n).1, (b3S f n).2.1) := if_pos h
theorem b3_2 {f : Nat → Nat} {n : Nat} (h : ¬ (b3S f n).1 < f n) (h2 : (b3S f n).2.1 < f n) : b3S f (n + 1) = ((b3S f n).1, f n, (b3S f n).2.1) := (if_neg h).trans (if_pos h2)
theorem b3_3 {f : Nat → Nat} {n : Nat} (h : ¬ (b3S f n).1 < f n) (h2 : ¬ (b3S f n).2.1 < f n) (h3 : (b3S f n).2.2 < f n) : b3S f (n + 1) = ((b3S f n).1, (b3S f n).2.1, f n) := (if_neg h).trans ((if_neg h2).trans (if_pos h3))
theorem b3_4 {f : Nat → Nat} {n : Nat} (h : ¬ (b3S f n).1 < f n) (h2 : ¬ (b3S f n).2.1 < f n) (h3 : ¬ (b3S f n).2.2 < f n) : b3S f (n + 1) = b3S f n := (if_neg h).trans ((if_neg h2).trans (if_neg h3))
theorem b3S_le {f : Nat → Nat} {c : Nat} (hf : ∀ r, r < 8 → f r ≤ c) : ∀ n, n ≤ 8 → (b3S f n).1 ≤ c ∧ (b3S f n).2.1 ≤ c ∧ (b3S f n).2.2 ≤ c
  | 0, _ => ⟨Nat.zero_le _, Nat.zero_le _, Nat.zero_le _⟩
  | n + 1, h => by
    have ih := b3S_le hf n (by omega)
    have h1 := hf n (by omega)
    simp only [b3S]
    split
    · exact ⟨h1, ih.1, ih.2.1⟩
    · split
      · exact ⟨ih.1, h1, ih.2.1⟩
      · split
        · exact ⟨ih.1, ih.2.1, h1⟩
        · exact ih
def b3T (σ : ST) (j : Nat) : Nat := (b3S (mnY σ j) (σ.1 18 0)).1 + (b3S (mnY σ j) (σ.1 18 0)).2.1 + (b3S (mnY σ j) (σ.1 18 0)).2.2
theorem b3T_le {σ : ST} {j : Nat} (hB : Bd σ) (hj : j < 12) : b3T σ j ≤ 900000 := by
  have := b3S_le (f := mnY σ j) (c := 300000) (mnY_le hB hj) (σ.1 18 0) hB.2.2.1
  unfold b3T
  omega
def btcS (σ : ST) (a0 b0 : Nat) : Bool := if ¬ b3T σ a0 = b3T σ b0 then decide (b3T σ b0 < b3T σ a0) else if ¬ allS σ a0 = allS σ b0 then decide (allS σ b0 < allS σ a0) else decide (a0 < b0)
def rkcS (σ : ST) (k : Nat) : Nat := fb_ct (fun e => btcS σ e k) (σ.1 7 0)
theorem cbP_pay {σ : ST} {r : Nat} (hW : IW σ) (hD : ID σ) (hr : r < σ.1 18 0) : cbP σ r = payB σ r := by
  unfold cbP payB
  rw [pm_any hW hr (fun j => decide (σ.1 24 (12 * r + j) = 0) && decide (σ.1 26 (12 * r + j) = 0)) (fun j hj hn => by
    have := hD r j hr hj hn
    rw [this.2.1, this.2.2.2.1]; rfl)]
theorem pyU_N {σ : ST} {r s q : Nat} (h : ¬ s = 29) (h2 : ¬ s = 15) : (pyU σ r).1 s q = σ.1 s q := (if_neg (fun z => h2 z.1)).trans (pyE_N h _)
theorem Bd_pyU {σ : ST} {r : Nat} (hB : Bd σ) (hr : r < σ.1 18 0) (hD : ID σ) : Bd (pyU σ r) := by
  have h := Bd_py hB hr hD (σ.1 17 r)
  obtain ⟨h6, h7, h18, hr8, hk96, hp96, hb16, hh⟩ := h
  have h2 : Bd (uR (pyE σ r (potS σ r) (grS σ r) (σ.1 17 r)) 16 r (lfE σ r (potS σ r) (grS σ r) (σ.1 17 r))) := ⟨h6, h7, h18, hr8, hk96, hp96, hb16, hh⟩
  exact Bd_st h2 (by decide)
theorem ccN_py {σ : ST} {r : Nat} : ccN (pyU σ r) r = ccN σ r := by
  have e17 : (pyU σ r).1 17 r = σ.1 17 r := pyU_N (by decide) (by decide)
  unfold ccN
  rw [e17]
  refine fb_ct_cong (fun e _ => ?_)
  have ew : whS (pyU σ r) r e = whS σ r e := pyU_N (by decide) (by decide)
  rw [ew, pyU_N (by decide) (by decide)]
theorem all_no {f : Nat → Bool} {i n : Nat} (hi : i < n) (h : f i = false) : allB f n = false := by
  cases c : allB f n with
  | false => rfl
  | true => rw [allB_iff.mp c i hi] at h; cases h
set_option maxHeartbeats 4000000 in
set_option maxRecDepth 100000 in
theorem c_X3_ride {l : Launch} (hl : l.stackTraces = false) {g : GP} {M : MM} {A : Nat → Nat} {M0 : MM} {σ : ST} {x0 y0 mk w : Int32} {f : Bool} (hR : CM g A M0 σ M) (hB : Bd σ) (hD : ID σ) (hbr : ∀ r j, r < σ.1 18 0 → j < σ.1 7 0 → ¬ σ.1 24 (12 * r + j) = 0 → ∃ b, b < σ.1 6 0 ∧ σ.2.1 23 (12 * r + j) = nI b) : CT l g yX3_ride cX3_ride 10 (some .int) 8 158 4 24 [.ref (A 0), .int (x0), .int (y0), .int (mk), .int (w), .int (nI (bz f))] M (pI (fun r9 M9 => cdRi σ x0 y0 mk w = 0 ∧ (ridU σ (12 * cl x0 + cl y0) (cl (σ.2.1 23 (12 * cl x0 + cl y0))) (cl mk) (cl w) f).2.1 28 (12 * cl x0 + cl y0) = r9 ∧ CM g A M0 (ridU σ (12 * cl x0 + cl y0) (cl (σ.2.1 23 (12 * cl x0 + cl y0))) (cl mk) (cl w) f) M9)) (fun E M9 => M = M9 ∧ xp3 E (cdRi σ x0 y0 mk w) sIO sIA sIS) := by
  refine ct_of [(0, .ref (A 0)), (1, .int (x0)), (2, .int (y0)), (3, .int (mk)), (4, .int (w)), (5, .int (nI (bz f)))] (by decide) hl (Nat.le_of_ble_eq_true rfl) rfl ?_
  intro K hK F
  subst hK
  have F : Fx K g cX3_ride RX3 10 (some .int) [] 8 158 4 24 := F
  obtain ⟨Q, hQ⟩ : ∃ Q, Q = MQx K g (pI (fun r9 M9 => cdRi σ x0 y0 mk w = 0 ∧ (ridU σ (12 * cl x0 + cl y0) (cl (σ.2.1 23 (12 * cl x0 + cl y0))) (cl mk) (cl w) f).2.1 28 (12 * cl x0 + cl y0) = r9 ∧ CM g A M0 (ridU σ (12 * cl x0 + cl y0) (cl (σ.2.1 23 (12 * cl x0 + cl y0))) (cl mk) (cl w) f) M9)) ((fun E M9 => M = M9 ∧ xp3 E (cdRi σ x0 y0 mk w) sIO sIA sIS)) 4 24 := ⟨_, rfl⟩
  rw [← hQ]
  have hB9 := hB
  obtain ⟨h6, h7, h18, hr8, hk96, hp96, hb16, hh⟩ := hB9
  refine x_aload_n F 0 dX3_ride_0 rfl ?_
  refine x_iload_n F 1 dX3_ride_1 rfl ?_
  refine x_iload_n F 2 dX3_ride_2 rfl ?_
  rw [hQ]
  refine x_callV F s_X3_96 hR.c rfl rfl (c_X3_entryAt F.nt hR hB) rfl dX3_ride_3 (by decide) (by decide) (Nat.le_of_ble_eq_true rfl) (x_outX F (by decide) (by rintro E M9 ⟨k1, k2, k3⟩; exact ⟨k3, (Or.inl ⟨k1, (if_pos k2)⟩)⟩)) (kq fun r9 M9 hp9 => ?_)
  rw [← hQ]
  obtain ⟨hin9, rfl, rfl⟩ := hp9
  have hin8 := Bool.and_eq_true_iff.mp hin9
  obtain ⟨r, hr, rfl⟩ := inN_t (by omega) hin8.1
  obtain ⟨j, hj7, rfl⟩ := inN_t (by omega) hin8.2
  have hj : j < 12 := by omega
  rw [cl_nI (n := r) (by omega), cl_nI (n := j) (by omega)]
  have b9 := hk96 (12 * r + j) (by omega)
  by_cases h41 : σ.1 41 (12 * r + j) = 1
  · refine x_rv0 (y := .ref (A (100 + (12 * r + j)))) (eO_t h41) ?_
    refine x_astore F [(6, .ref (A (100 + (12 * r + j)))), (0, .ref (A 0)), (1, .int (nI (r))), (2, .int (nI (j))), (3, .int (mk)), (4, .int (w)), (5, .int (nI (bz f)))] dX3_ride_6 (by decide) rfl ?_
    refine x_iload_n F 4 dX3_ride_8 rfl ?_
    refine x_iconst F (nI 0) dX3_ride_9 (by decide) ?_
    refine x_ldc F (nI 456975) k_X3_165 dX3_ride_10 ?_
    refine x_callS F s_X3_57 rfl (c_X3_isWithin F.nt ) rfl dX3_ride_12 (by decide) (by decide) (Nat.le_of_ble_eq_true rfl) x_noX (ki fun r_2 M2_2 hp_2 => ?_)
    obtain ⟨rfl, rfl⟩ := hp_2
    refine x_if_eq F 29 dX3_ride_15 (by decide) (fun c15 => ?_) (fun c15 => ?_)
    · have c15 := nI_bz0.mp c15
      rw [hQ]
      exact x_throw F th_IA (text := "marks or watches") (by decide +kernel) dX3_ride_29 dX3_ride_32 dX3_ride_33 dX3_ride_35 dX3_ride_38 ⟨by decide, Nat.le_of_ble_eq_true rfl, by decide, by decide⟩ (⟨rfl, Or.inr (Or.inl ⟨rfl, by first | exact cdRi_a hin9 (Or.inl (by assumption)) | exact cdRi_a hin9 (Or.inr (by assumption))⟩)⟩)
    · have c15 := nI_bz1.mp c15
      refine x_iload F 5 dX3_ride_18 rfl ?_
      refine x_iconst F (nI 0) dX3_ride_20 (by decide) ?_
      refine x_ldc F (nI 999999) k_X3_166 dX3_ride_21 ?_
      refine x_callS F s_X3_57 rfl (c_X3_isWithin F.nt ) rfl dX3_ride_23 (by decide) (by decide) (Nat.le_of_ble_eq_true rfl) x_noX (ki fun r_3 M2_3 hp_3 => ?_)
      obtain ⟨rfl, rfl⟩ := hp_3
      refine x_if_ne F 39 dX3_ride_26 (by decide) (fun c26 => ?_) (fun c26 => ?_)
      · have c26 := nI_bz1.mp c26
        have g15 : inR mk (nI 0) (nI 456975) = true := by assumption
        have g26 : inR w (nI 0) (nI 999999) = true := by assumption
        obtain ⟨mk, -, hmk, rfl⟩ := inR_t (by decide) (by decide) g15
        obtain ⟨w, -, hw, rfl⟩ := inR_t (by decide) (by decide) g26
        refine x_aload_n F 1 dX3_ride_39 rfl ?_
        refine x_iload_n F 2 dX3_ride_40 rfl ?_
        rw [hQ]
        refine x_callV F s_X3_75 hR.c rfl rfl (c_X3_rodeoAt F.nt hR hB) rfl dX3_ride_41 (by decide) (by decide) (Nat.le_of_ble_eq_true rfl) (x_outX F (by decide) (by rintro E M9 ⟨k1, k2, k3⟩; rw [hin8.1] at k2; cases k2)) (kr fun r9 M9 hp9 => ?_)
        rw [← hQ]
        obtain ⟨-, rfl, rfl⟩ := hp9
        rw [cl_nI (n := r) (by omega)]
        refine x_fget F f_X3_79 (hR.r (by omega : r < σ.1 18 0) (by omega)) (v := .int (nI (σ.1 15 r))) dX3_ride_44 rfl ?_
        refine x_iconst F (nI 2) dX3_ride_47 (by decide) ?_
        refine x_icmp_ne F 64 dX3_ride_48 (by decide) (fun c48 => ?_) (fun c48 => ?_)
        · have c48 := mt (nI_eq (by have := hr8 r (by omega); omega) (by omega)).mpr c48
          rw [hQ]
          exact x_throw F th_IS (text := "no beast to be ridden") (by decide +kernel) dX3_ride_64 dX3_ride_67 dX3_ride_68 dX3_ride_70 dX3_ride_73 ⟨by decide, Nat.le_of_ble_eq_true rfl, by decide, by decide⟩ (⟨rfl, Or.inr (Or.inr ⟨rfl, by first | exact cdRi_b hin9 g15 g26 hr (by omega) (Or.inl (by assumption)) | exact cdRi_b hin9 g15 g26 hr (by omega) (Or.inr (by assumption)) | exact cdRi_b hin9 g15 g26 hr (by omega) (Or.inr (hD r j hr hj (by assumption)).2.1)⟩)⟩)
        · have c48 := (nI_eq (by have := hr8 r (by omega); omega) (by omega)).mp c48
          refine x_aload F 0 dX3_ride_51 rfl ?_
          refine x_ifnull F dX3_ride_53 ?_
          refine x_aload F 0 dX3_ride_56 rfl ?_
          refine x_fget F f_X3_169 (hR.e h41 (by omega)) (v := .int (nI (σ.1 24 (12 * r + j)))) dX3_ride_58 rfl ?_
          refine x_if_ne F 74 dX3_ride_61 (by decide) (fun c61 => ?_) (fun c61 => ?_)
          · have c61 := mt (nI_z (by omega)).mpr c61
            obtain ⟨b, hb, hbq⟩ := hbr r j hr hj7 c61
            have hcd := cdRi_c hin9 g15 g26 hr (by omega) c48 c61
            refine x_iload_n F 4 dX3_ride_74 rfl ?_
            refine x_iconst F (nI 0) dX3_ride_75 (by decide) ?_
            refine x_callS F s_X3_175 rfl (c_X3_markAt F.nt (by omega) (by decide)) rfl dX3_ride_76 (by decide) (by decide) (Nat.le_of_ble_eq_true rfl) x_noX (ki fun r_5 M2_5 hp_5 => ?_)
            obtain ⟨rfl, rfl⟩ := hp_5
            refine x_iload_n F 4 dX3_ride_79 rfl ?_
            refine x_iconst F (nI 2) dX3_ride_80 (by decide) ?_
            refine x_callS F s_X3_175 rfl (c_X3_markAt F.nt (by omega) (by decide)) rfl dX3_ride_81 (by decide) (by decide) (Nat.le_of_ble_eq_true rfl) x_noX (ki fun r_6 M2_6 hp_6 => ?_)
            obtain ⟨rfl, rfl⟩ := hp_6
            refine x_iaddN F dX3_ride_84 ?_
            refine x_istore F [(7, .int (nI ((mkD mk 0 % 26) + (mkD mk 2 % 26)))), (6, .ref (A (100 + (12 * r + j)))), (0, .ref (A 0)), (1, .int (nI (r))), (2, .int (nI (j))), (3, .int (nI (mk))), (4, .int (nI (w))), (5, .int (nI (bz f)))] dX3_ride_85 (by decide) rfl ?_
            refine x_iload_n F 5 dX3_ride_87 rfl ?_
            refine x_iconst F (nI 1) dX3_ride_88 (by decide) ?_
            refine x_callS F s_X3_175 rfl (c_X3_markAt F.nt (by omega) (by decide)) rfl dX3_ride_89 (by decide) (by decide) (Nat.le_of_ble_eq_true rfl) x_noX (ki fun r_7 M2_7 hp_7 => ?_)
            obtain ⟨rfl, rfl⟩ := hp_7
            refine x_iload_n F 5 dX3_ride_92 rfl ?_
            refine x_iconst F (nI 3) dX3_ride_93 (by decide) ?_
            refine x_callS F s_X3_175 rfl (c_X3_markAt F.nt (by omega) (by decide)) rfl dX3_ride_94 (by decide) (by decide) (Nat.le_of_ble_eq_true rfl) x_noX (ki fun r_8 M2_8 hp_8 => ?_)
            obtain ⟨rfl, rfl⟩ := hp_8
            refine x_iaddN F dX3_ride_97 ?_
            refine x_istore F [(8, .int (nI ((mkD mk 1 % 26) + (mkD mk 3 % 26)))), (7, .int (nI ((mkD mk 0 % 26) + (mkD mk 2 % 26)))), (6, .ref (A (100 + (12 * r + j)))), (0, .ref (A 0)), (1, .int (nI (r))), (2, .int (nI (j))), (3, .int (nI (mk))), (4, .int (nI (w))), (5, .int (nI (bz f)))] dX3_ride_98 (by decide) rfl ?_
            have J124 : ∀ (vj : Int32), vj = nI (bz (decide (1600 ≤ w / 1000 + w % 1000))) → XW K g 10 Q M 3 18 124 [(8, .int (nI ((mkD mk 1 % 26) + (mkD mk 3 % 26)))), (7, .int (nI ((mkD mk 0 % 26) + (mkD mk 2 % 26)))), (6, .ref (A (100 + (12 * r + j)))), (0, .ref (A 0)), (1, .int (nI (r))), (2, .int (nI (j))), (3, .int (nI (mk))), (4, .int (nI (w))), (5, .int (nI (bz f)))] [.int (vj)] := by
              intro vj ej124_vj
              subst ej124_vj
              refine x_istore F [(9, .int (nI (bz (decide (1600 ≤ w / 1000 + w % 1000))))), (8, .int (nI ((mkD mk 1 % 26) + (mkD mk 3 % 26)))), (7, .int (nI ((mkD mk 0 % 26) + (mkD mk 2 % 26)))), (6, .ref (A (100 + (12 * r + j)))), (0, .ref (A 0)), (1, .int (nI (r))), (2, .int (nI (j))), (3, .int (nI (mk))), (4, .int (nI (w))), (5, .int (nI (bz f)))] dX3_ride_124 (by decide) rfl ?_
              refine x_aload F 3 dX3_ride_126 rfl ?_
              have J143 : ∀ (vk : Int32), vk = nI (bz (rcS w f)) → XW K g 10 Q M 3 18 143 [(9, .int (nI (bz (decide (1600 ≤ w / 1000 + w % 1000))))), (8, .int (nI ((mkD mk 1 % 26) + (mkD mk 3 % 26)))), (7, .int (nI ((mkD mk 0 % 26) + (mkD mk 2 % 26)))), (6, .ref (A (100 + (12 * r + j)))), (0, .ref (A 0)), (1, .int (nI (r))), (2, .int (nI (j))), (3, .int (nI (mk))), (4, .int (nI (w))), (5, .int (nI (bz f)))] [.int (vk), .ref (A (100 + (12 * r + j)))] := by
                intro vk ej143_vk
                subst ej143_vk
                refine x_iload F 2 dX3_ride_143 rfl ?_
                refine x_iload F 1 dX3_ride_145 rfl ?_
                refine x_callV F s_X3_178 (hR.e h41 (by omega)) rfl rfl (c_X1_takeRide F.nt hR hB (h41) (by omega) (hb) (hbq) (by omega) (by omega)) rfl dX3_ride_147 (by decide) (by decide) (Nat.le_of_ble_eq_true rfl) x_noX (kv fun M9 hp8 => ?_)
                have hR8 : CM g A M0 (ridU σ (12 * r + j) b mk w f) M9 := (tk_rid (by omega)) ▸ hp8
                refine x_aload F 3 dX3_ride_150 rfl ?_
                refine x_fget F f_X3_182 (hR8.e h41 (by omega)) (v := .int ((ridU σ (12 * r + j) b mk w f).2.1 28 (12 * r + j))) dX3_ride_152 rfl ?_
                rw [hQ]
                exact x_iret F dX3_ride_155 (by decide) ⟨_, rfl, hcd, by rw [cl_nI (n := r) (by omega), cl_nI (n := j) (by omega), cl_nI (n := mk) (by omega), cl_nI (n := w) (by omega), hbq, cl_nI (n := b) (by omega)], by rw [cl_nI (n := r) (by omega), cl_nI (n := j) (by omega), cl_nI (n := mk) (by omega), cl_nI (n := w) (by omega), hbq, cl_nI (n := b) (by omega)]; exact hR8⟩
              refine x_iload F 9 dX3_ride_128 rfl ?_
              refine x_if_ne F 142 dX3_ride_130 (by decide) (fun c130 => ?_) (fun c130 => ?_)
              · have c130 := nI_bz1.mp c130
                refine x_iconst F (nI 0) dX3_ride_142 (by decide) ?_
                exact J143 _ (by first | (rw [rc_1 c130]; rfl) | (rw [rc_2 c135]; rfl) | (rw [rc_3 c130 c135]; rfl))
              · have c130 := nI_bz0.mp c130
                refine x_iload F 0 dX3_ride_133 rfl ?_
                refine x_if_eq F 142 dX3_ride_135 (by decide) (fun c135 => ?_) (fun c135 => ?_)
                · have c135 := nI_bz0.mp c135
                  refine x_iconst F (nI 0) dX3_ride_142 (by decide) ?_
                  exact J143 _ (by first | (rw [rc_1 c130]; rfl) | (rw [rc_2 c135]; rfl) | (rw [rc_3 c130 c135]; rfl))
                · have c135 := nI_bz1.mp c135
                  refine x_iconst F (nI 1) dX3_ride_138 (by decide) ?_
                  refine x_goto F 143 dX3_ride_139 (by decide) ?_
                  exact J143 _ (by first | (rw [rc_1 c130]; rfl) | (rw [rc_2 c135]; rfl) | (rw [rc_3 c130 c135]; rfl))
            refine x_iload F 7 dX3_ride_100 rfl ?_
            refine x_sipush F (nI 1000) dX3_ride_102 (by decide) ?_
            refine x_idivN F dX3_ride_105 (by omega) (by omega) (by omega) ?_
            refine x_iload F 7 dX3_ride_106 rfl ?_
            refine x_sipush F (nI 1000) dX3_ride_108 (by decide) ?_
            refine x_iremN F dX3_ride_111 (by omega) (by omega) (by omega) ?_
            refine x_iaddN F dX3_ride_112 ?_
            refine x_sipush F (nI 1600) dX3_ride_113 (by decide) ?_
            refine x_icmp_lt F 123 dX3_ride_116 (by decide) (fun c116 => ?_) (fun c116 => ?_)
            · have c116 := (nI_ltI (by omega) (by omega)).mp c116
              have c116b := Nat.not_le.mpr c116
              refine x_iconst F (nI 0) dX3_ride_123 (by decide) ?_
              exact J124 _ (by first | (rw [decide_eq_true (show 1600 ≤ w / 1000 + w % 1000 by omega)]; rfl) | (rw [decide_eq_false (show ¬ 1600 ≤ w / 1000 + w % 1000 by omega)]; rfl))
            · have c116 := mt (nI_ltI (by omega) (by omega)).mpr c116
              have c116b := Nat.not_lt.mp c116
              refine x_iconst F (nI 1) dX3_ride_119 (by decide) ?_
              refine x_goto F 124 dX3_ride_120 (by decide) ?_
              exact J124 _ (by first | (rw [decide_eq_true (show 1600 ≤ w / 1000 + w % 1000 by omega)]; rfl) | (rw [decide_eq_false (show ¬ 1600 ≤ w / 1000 + w % 1000 by omega)]; rfl))
          · have c61 := (nI_z (by omega)).mp c61
            rw [hQ]
            exact x_throw F th_IS (text := "no beast to be ridden") (by decide +kernel) dX3_ride_64 dX3_ride_67 dX3_ride_68 dX3_ride_70 dX3_ride_73 ⟨by decide, Nat.le_of_ble_eq_true rfl, by decide, by decide⟩ (⟨rfl, Or.inr (Or.inr ⟨rfl, by first | exact cdRi_b hin9 g15 g26 hr (by omega) (Or.inl (by assumption)) | exact cdRi_b hin9 g15 g26 hr (by omega) (Or.inr (by assumption)) | exact cdRi_b hin9 g15 g26 hr (by omega) (Or.inr (hD r j hr hj (by assumption)).2.1)⟩)⟩)
      · have c26 := nI_bz0.mp c26
        rw [hQ]
        exact x_throw F th_IA (text := "marks or watches") (by decide +kernel) dX3_ride_29 dX3_ride_32 dX3_ride_33 dX3_ride_35 dX3_ride_38 ⟨by decide, Nat.le_of_ble_eq_true rfl, by decide, by decide⟩ (⟨rfl, Or.inr (Or.inl ⟨rfl, by first | exact cdRi_a hin9 (Or.inl (by assumption)) | exact cdRi_a hin9 (Or.inr (by assumption))⟩)⟩)
  · refine x_rv0 (y := .null) (eO_f h41) ?_
    refine x_astoreN F [(6, .null), (0, .ref (A 0)), (1, .int (nI (r))), (2, .int (nI (j))), (3, .int (mk)), (4, .int (w)), (5, .int (nI (bz f)))] dX3_ride_6 (by decide) rfl ?_
    refine x_iload_n F 4 dX3_ride_8 rfl ?_
    refine x_iconst F (nI 0) dX3_ride_9 (by decide) ?_
    refine x_ldc F (nI 456975) k_X3_165 dX3_ride_10 ?_
    refine x_callS F s_X3_57 rfl (c_X3_isWithin F.nt ) rfl dX3_ride_12 (by decide) (by decide) (Nat.le_of_ble_eq_true rfl) x_noX (ki fun r_10 M2_10 hp_10 => ?_)
    obtain ⟨rfl, rfl⟩ := hp_10
    refine x_if_eq F 29 dX3_ride_15 (by decide) (fun c15_2 => ?_) (fun c15_2 => ?_)
    · have c15_2 := nI_bz0.mp c15_2
      rw [hQ]
      exact x_throw F th_IA (text := "marks or watches") (by decide +kernel) dX3_ride_29 dX3_ride_32 dX3_ride_33 dX3_ride_35 dX3_ride_38 ⟨by decide, Nat.le_of_ble_eq_true rfl, by decide, by decide⟩ (⟨rfl, Or.inr (Or.inl ⟨rfl, by first | exact cdRi_a hin9 (Or.inl (by assumption)) | exact cdRi_a hin9 (Or.inr (by assumption))⟩)⟩)
    · have c15_2 := nI_bz1.mp c15_2
      refine x_iload F 5 dX3_ride_18 rfl ?_
      refine x_iconst F (nI 0) dX3_ride_20 (by decide) ?_
      refine x_ldc F (nI 999999) k_X3_166 dX3_ride_21 ?_
      refine x_callS F s_X3_57 rfl (c_X3_isWithin F.nt ) rfl dX3_ride_23 (by decide) (by decide) (Nat.le_of_ble_eq_true rfl) x_noX (ki fun r_11 M2_11 hp_11 => ?_)
      obtain ⟨rfl, rfl⟩ := hp_11
      refine x_if_ne F 39 dX3_ride_26 (by decide) (fun c26_2 => ?_) (fun c26_2 => ?_)
      · have c26_2 := nI_bz1.mp c26_2
        have g15 : inR mk (nI 0) (nI 456975) = true := by assumption
        have g26 : inR w (nI 0) (nI 999999) = true := by assumption
        obtain ⟨mk, -, hmk, rfl⟩ := inR_t (by decide) (by decide) g15
        obtain ⟨w, -, hw, rfl⟩ := inR_t (by decide) (by decide) g26
        refine x_aload_n F 1 dX3_ride_39 rfl ?_
        refine x_iload_n F 2 dX3_ride_40 rfl ?_
        rw [hQ]
        refine x_callV F s_X3_75 hR.c rfl rfl (c_X3_rodeoAt F.nt hR hB) rfl dX3_ride_41 (by decide) (by decide) (Nat.le_of_ble_eq_true rfl) (x_outX F (by decide) (by rintro E M9 ⟨k1, k2, k3⟩; rw [hin8.1] at k2; cases k2)) (kr fun r9 M9 hp9 => ?_)
        rw [← hQ]
        obtain ⟨-, rfl, rfl⟩ := hp9
        rw [cl_nI (n := r) (by omega)]
        refine x_fget F f_X3_79 (hR.r (by omega : r < σ.1 18 0) (by omega)) (v := .int (nI (σ.1 15 r))) dX3_ride_44 rfl ?_
        refine x_iconst F (nI 2) dX3_ride_47 (by decide) ?_
        refine x_icmp_ne F 64 dX3_ride_48 (by decide) (fun c48_2 => ?_) (fun c48_2 => ?_)
        · have c48_2 := mt (nI_eq (by have := hr8 r (by omega); omega) (by omega)).mpr c48_2
          rw [hQ]
          exact x_throw F th_IS (text := "no beast to be ridden") (by decide +kernel) dX3_ride_64 dX3_ride_67 dX3_ride_68 dX3_ride_70 dX3_ride_73 ⟨by decide, Nat.le_of_ble_eq_true rfl, by decide, by decide⟩ (⟨rfl, Or.inr (Or.inr ⟨rfl, by first | exact cdRi_b hin9 g15 g26 hr (by omega) (Or.inl (by assumption)) | exact cdRi_b hin9 g15 g26 hr (by omega) (Or.inr (by assumption)) | exact cdRi_b hin9 g15 g26 hr (by omega) (Or.inr (hD r j hr hj (by assumption)).2.1)⟩)⟩)
        · have c48_2 := (nI_eq (by have := hr8 r (by omega); omega) (by omega)).mp c48_2
          refine x_aloadN F 0 dX3_ride_51 rfl ?_
          refine x_ifnullN F 64 dX3_ride_53 (by decide) ?_
          rw [hQ]
          exact x_throw F th_IS (text := "no beast to be ridden") (by decide +kernel) dX3_ride_64 dX3_ride_67 dX3_ride_68 dX3_ride_70 dX3_ride_73 ⟨by decide, Nat.le_of_ble_eq_true rfl, by decide, by decide⟩ (⟨rfl, Or.inr (Or.inr ⟨rfl, by first | exact cdRi_b hin9 g15 g26 hr (by omega) (Or.inl (by assumption)) | exact cdRi_b hin9 g15 g26 hr (by omega) (Or.inr (by assumption)) | exact cdRi_b hin9 g15 g26 hr (by omega) (Or.inr (hD r j hr hj (by assumption)).2.1)⟩)⟩)
      · have c26_2 := nI_bz0.mp c26_2
        rw [hQ]
        exact x_throw F th_IA (text := "marks or watches") (by decide +kernel) dX3_ride_29 dX3_ride_32 dX3_ride_33 dX3_ride_35 dX3_ride_38 ⟨by decide, Nat.le_of_ble_eq_true rfl, by decide, by decide⟩ (⟨rfl, Or.inr (Or.inl ⟨rfl, by first | exact cdRi_a hin9 (Or.inl (by assumption)) | exact cdRi_a hin9 (Or.inr (by assumption))⟩)⟩)
set_option maxHeartbeats 4000000 in
set_option maxRecDepth 100000 in
theorem c_X3_answer {l : Launch} (hl : l.stackTraces = false) {g : GP} {M : MM} {A : Nat → Nat} {M0 : MM} {σ : ST} {x0 y0 : Int32} {t : Bool} (hR : CM g A M0 σ M) (hB : Bd σ) (hD : ID σ) (hbs : IBe σ) (hpl : ∀ r j, r < σ.1 18 0 → j < σ.1 7 0 → ¬ σ.1 26 (12 * r + j) = 0 → ¬ σ.2.1 22 (12 * r + j) = -1) : CT l g yX3_answer cX3_answer 5 (some .int) 8 186 3 18 [.ref (A 0), .int (x0), .int (y0), .int (nI (bz t))] M (pI (fun r9 M9 => cdAn σ x0 y0 = 0 ∧ (if t = true then (ansU σ (cl x0) (cl y0) t).2.1 23 (12 * cl x0 + cl y0) else -1) = r9 ∧ CM g A M0 (ansU σ (cl x0) (cl y0) t) M9)) (fun E M9 => M = M9 ∧ xp2 E (cdAn σ x0 y0) sIO sIS) := by
  refine ct_of [(0, .ref (A 0)), (1, .int (x0)), (2, .int (y0)), (3, .int (nI (bz t)))] (by decide) hl (Nat.le_of_ble_eq_true rfl) rfl ?_
  intro K hK F
  subst hK
  have F : Fx K g cX3_answer RX3 5 (some .int) [] 8 186 3 18 := F
  obtain ⟨Q, hQ⟩ : ∃ Q, Q = MQx K g (pI (fun r9 M9 => cdAn σ x0 y0 = 0 ∧ (if t = true then (ansU σ (cl x0) (cl y0) t).2.1 23 (12 * cl x0 + cl y0) else -1) = r9 ∧ CM g A M0 (ansU σ (cl x0) (cl y0) t) M9)) ((fun E M9 => M = M9 ∧ xp2 E (cdAn σ x0 y0) sIO sIS)) 3 18 := ⟨_, rfl⟩
  rw [← hQ]
  have hB9 := hB
  obtain ⟨h6, h7, h18, hr8, hk96, hp96, hb16, hh⟩ := hB9
  refine x_aload_n F 0 dX3_answer_0 rfl ?_
  refine x_iload_n F 1 dX3_answer_1 rfl ?_
  refine x_iload_n F 2 dX3_answer_2 rfl ?_
  rw [hQ]
  refine x_callV F s_X3_96 hR.c rfl rfl (c_X3_entryAt F.nt hR hB) rfl dX3_answer_3 (by decide) (by decide) (Nat.le_of_ble_eq_true rfl) (x_outX F (by decide) (by rintro E M9 ⟨k1, k2, k3⟩; exact ⟨k3, (Or.inl ⟨k1, (if_pos k2)⟩)⟩)) (kq fun r9 M9 hp9 => ?_)
  rw [← hQ]
  obtain ⟨hin9, rfl, rfl⟩ := hp9
  have hin8 := Bool.and_eq_true_iff.mp hin9
  obtain ⟨r, hr, rfl⟩ := inN_t (by omega) hin8.1
  obtain ⟨j, hj7, rfl⟩ := inN_t (by omega) hin8.2
  have hj : j < 12 := by omega
  rw [cl_nI (n := r) (by omega), cl_nI (n := j) (by omega)]
  have b9 := hk96 (12 * r + j) (by omega)
  have b1 := hr8 r (by omega)
  by_cases h41 : σ.1 41 (12 * r + j) = 1
  · refine x_rv0 (y := .ref (A (100 + (12 * r + j)))) (eO_t h41) ?_
    refine x_astore F [(4, .ref (A (100 + (12 * r + j)))), (0, .ref (A 0)), (1, .int (nI (r))), (2, .int (nI (j))), (3, .int (nI (bz t)))] dX3_answer_6 (by decide) rfl ?_
    refine x_aload F 0 dX3_answer_8 rfl ?_
    refine x_ifnull F dX3_answer_10 ?_
    refine x_aload F 0 dX3_answer_13 rfl ?_
    refine x_fget F f_X3_185 (hR.e h41 (by omega)) (v := .int (nI (σ.1 26 (12 * r + j)))) dX3_answer_15 rfl ?_
    refine x_if_ne F 31 dX3_answer_18 (by decide) (fun c18 => ?_) (fun c18 => ?_)
    · have c18 := mt (nI_z (by omega)).mpr c18
      have hcd := cdAn_c hin9 hr (by omega) c18
      have hp9 := hpl r j hr hj7 c18
      refine x_aload F 0 dX3_answer_31 rfl ?_
      refine x_iconst F (nI 0) dX3_answer_33 (by decide) ?_
      refine x_pX1_7 F hR (k := 12 * r + j) h41 (by omega) (by omega) p_X3_185 dX3_answer_34 (fun M1 hR1 => ?_)
      refine x_iload_n F 4 dX3_answer_37 rfl ?_
      refine x_if_ne F 43 dX3_answer_38 (by decide) (fun c38 => ?_) (fun c38 => ?_)
      · have c38 := nI_bz1.mp c38
        refine x_aload F 0 dX3_answer_43 rfl ?_
        have hB7 : Bd (uN σ 26 (12 * r + j) 0) := Bd_26 hB
        refine x_callV F s_X3_190 (hR1.e h41 (by omega)) rfl rfl (c_X1_loseScore F.nt hR1 hB7 (h41) (by omega)) rfl dX3_answer_45 (by decide) (by decide) (Nat.le_of_ble_eq_true rfl) x_noX (kv fun M9 hp8 => ?_)
        have hR8 : CM g A M0 (uN (uR (uN σ 26 (12 * r + j) 0) 28 (12 * r + j) (-1)) 27 (12 * r + j) 0) M9 := hp8
        refine x_aload F 0 dX3_answer_48 rfl ?_
        refine x_iconst F (nI 1) dX3_answer_50 (by decide) ?_
        have hB8 : Bd (uN (uN (uR (uN σ 26 (12 * r + j) 0) 28 (12 * r + j) (-1)) 27 (12 * r + j) 0) 25 (12 * r + j) 1) := Bd_ans hB
        refine x_pX1_6 F hR8 (k := 12 * r + j) h41 (by omega) (by omega) p_X3_193 dX3_answer_51 (fun M1_2 hR1_2 => ?_)
        refine x_aload_n F 1 dX3_answer_54 rfl ?_
        refine x_aload_n F 1 dX3_answer_55 rfl ?_
        refine x_iload_n F 2 dX3_answer_56 rfl ?_
        rw [hQ]
        refine x_callV F s_X3_75 hR1_2.c rfl rfl (c_X3_rodeoAt F.nt hR1_2 hB8) rfl dX3_answer_57 (by decide) (by decide) (Nat.le_of_ble_eq_true rfl) (x_outX F (by decide) (by rintro E M9 ⟨k1, k2, k3⟩; have k4 := hin8.1.symm.trans k2; cases k4)) (kr fun r9 M9 hp9 => ?_)
        rw [← hQ]
        obtain ⟨-, rfl, rfl⟩ := hp9
        rw [cl_nI (n := r) (by omega)]
        refine x_aload F 0 dX3_answer_60 rfl ?_
        refine x_callV F s_X3_196 hR1_2.c rfl rfl (c_X3_mount F.nt hR1_2 hB8 (hr) (rfl) (hj) (h41) (hp9) (j := j)) rfl dX3_answer_62 (by decide) (by decide) (Nat.le_of_ble_eq_true rfl) x_noX (kv fun M9 hp8 => ?_)
        have hR7 : CM g A M0 (ansU σ r j true) M9 := hp8
        have hB6 : Bd (ansU σ r j true) := Bd_drw hB8
        have hbs6 : IBe (ansU σ r j true) := IBe_drw hbs
        refine x_aload F 0 dX3_answer_65 rfl ?_
        refine x_callV F s_X3_162 (hR7.e ((congrFun (drwU_N (k := 41) (by decide)) _).trans h41) (by omega)) rfl rfl (c_X1_beastNumber F.nt hR7 hB6 hbs6 (((congrFun (drwU_N (k := 41) (by decide)) _).trans h41)) (by omega)) rfl dX3_answer_67 (by decide) (by decide) (Nat.le_of_ble_eq_true rfl) x_noX (ki fun r_5 M2_5 hp_5 => ?_)
        obtain ⟨rfl, rfl⟩ := hp_5
        rw [hQ]
        exact x_iret F dX3_answer_70 (by decide) ⟨_, rfl, hcd, by rw [cl_nI (n := r) (by omega), cl_nI (n := j) (by omega), c38]; rfl, by rw [cl_nI (n := r) (by omega), cl_nI (n := j) (by omega), c38]; exact hR7⟩
      · have c38 := nI_bz0.mp c38
        refine x_iconst F ((-1)) dX3_answer_41 (by decide) ?_
        rw [hQ]
        exact x_iret F dX3_answer_42 (by decide) ⟨_, rfl, hcd, by rw [c38]; rfl, by rw [cl_nI (n := r) (by omega), cl_nI (n := j) (by omega), c38]; exact hR1⟩
    · have c18 := (nI_z (by omega)).mp c18
      rw [hQ]
      exact x_throw F th_IS (text := "no re-ride is offered") (by decide +kernel) dX3_answer_21 dX3_answer_24 dX3_answer_25 dX3_answer_27 dX3_answer_30 ⟨by decide, Nat.le_of_ble_eq_true rfl, by decide, by decide⟩ (⟨rfl, Or.inr ⟨rfl, by first | exact cdAn_b hin9 hr (by omega) c18 | exact cdAn_b hin9 hr (by omega) (hD r j hr hj h41).2.2.2.1⟩⟩)
  · refine x_rv0 (y := .null) (eO_f h41) ?_
    refine x_astoreN F [(4, .null), (0, .ref (A 0)), (1, .int (nI (r))), (2, .int (nI (j))), (3, .int (nI (bz t)))] dX3_answer_6 (by decide) rfl ?_
    refine x_aloadN F 0 dX3_answer_8 rfl ?_
    refine x_ifnullN F 21 dX3_answer_10 (by decide) ?_
    rw [hQ]
    exact x_throw F th_IS (text := "no re-ride is offered") (by decide +kernel) dX3_answer_21 dX3_answer_24 dX3_answer_25 dX3_answer_27 dX3_answer_30 ⟨by decide, Nat.le_of_ble_eq_true rfl, by decide, by decide⟩ (⟨rfl, Or.inr ⟨rfl, by first | exact cdAn_b hin9 hr (by omega) c18 | exact cdAn_b hin9 hr (by omega) (hD r j hr hj h41).2.2.2.1⟩⟩)
set_option maxHeartbeats 4000000 in
set_option maxRecDepth 100000 in
theorem c_X3_rankOfBeast {l : Launch} (hl : l.stackTraces = false) {g : GP} {M : MM} {A : Nat → Nat} {M0 : MM} {σ : ST} {b : Nat} (hR : CM g A M0 σ M) (hB : Bd σ) (hb : b < σ.1 6 0) : CT l g yX3_rankOfBeast cX3_rankOfBeast 5 (some .int) 4 114 0 0 [.ref (A 0), .ref (A (10 + b))] M (pI (fun r9 M9 => rkbS σ b = r9 ∧ M = M9)) nX := by
  refine ct_of [(0, .ref (A 0)), (1, .ref (A (10 + b)))] (by decide) hl (Nat.le_of_ble_eq_true rfl) rfl ?_
  intro K hK F
  subst hK
  have F : Fx K g cX3_rankOfBeast RX3 5 (some .int) [] 4 114 0 0 := F
  obtain ⟨Q, hQ⟩ : ∃ Q, Q = MQx K g (pI (fun r9 M9 => rkbS σ b = r9 ∧ M = M9)) nX 0 0 := ⟨_, rfl⟩
  rw [← hQ]
  have hB9 := hB
  obtain ⟨h6, h7, h18, hr8, hk96, hp96, hb16, hh⟩ := hB9
  have b1 := hb16 b (by omega)
  refine x_aload_n F 1 dX3_rankOfBeast_0 rfl ?_
  refine x_fget F f_X3_208 (hR.b (by omega : b < σ.1 6 0) (by omega)) (v := .int (nI (σ.1 2 b))) dX3_rankOfBeast_1 rfl ?_
  refine x_if_ne F 9 dX3_rankOfBeast_4 (by decide) (fun c4 => ?_) (fun c4 => ?_)
  · have c4 := mt (nI_z (by omega)).mpr c4
    refine x_iconst F (nI 0) dX3_rankOfBeast_9 (by decide) ?_
    refine x_istore_n F [(2, .int (nI (0))), (0, .ref (A 0)), (1, .ref (A (10 + b)))] dX3_rankOfBeast_10 (by decide) rfl ?_
    refine x_iconst F (nI 0) dX3_rankOfBeast_11 (by decide) ?_
    refine x_istore_n F [(3, .int (nI (0))), (2, .int (nI (0))), (0, .ref (A 0)), (1, .ref (A (10 + b)))] dX3_rankOfBeast_12 (by decide) rfl ?_
    have LP13 : ∀ i, i ≤ (σ.1 6 0) → ∀ (v13_2 : Int32) (v13_3 : Int32), v13_2 = nI (fb_ct (fun o => decide (¬ o = b) && decide (0 < σ.1 2 o) && ahdS σ o b) i) → v13_3 = nI (i) → XW K g 5 Q M 0 0 13 [(3, .int (v13_3)), (2, .int (v13_2)), (0, .ref (A 0)), (1, .ref (A (10 + b)))] [] := by
      refine x_loop ((σ.1 6 0)) _ (fun i hi ihi => ?_)
      intro v13_2 v13_3 e13_2 e13_3
      subst e13_2
      subst e13_3
      refine x_iload_n F 0 dX3_rankOfBeast_13 rfl ?_
      refine x_aload_n F 2 dX3_rankOfBeast_14 rfl ?_
      refine x_fget F f_X3_12 hR.c (v := .ref (A 1)) dX3_rankOfBeast_15 rfl ?_
      refine x_callV F s_X3_37 hR.lb rfl rfl (c_lsize F.nt hR.lb) rfl dX3_rankOfBeast_18 (by decide) (by decide) (Nat.le_of_ble_eq_true rfl) x_noX (ki fun r M2 hp => ?_)
      obtain ⟨rfl, rfl⟩ := hp
      refine x_icmp_ge F 63 dX3_rankOfBeast_21 (by decide) (fun c21 => ?_) (fun c21 => ?_)
      · have c21 := (nI_leI (by omega) (by omega)).mp c21
        have c21b := Nat.not_lt.mpr c21
        refine x_iload_n F 1 dX3_rankOfBeast_63 rfl ?_
        rw [hQ]
        exact x_iret F dX3_rankOfBeast_64 (by decide) ⟨_, rfl, by have h9 : i = σ.1 6 0 := (by omega); subst h9; exact rkb_4 c4, rfl⟩
      · have c21 := mt (nI_leI (by omega) (by omega)).mpr c21
        have c21b := Nat.not_le.mp c21
        have b2 := hb16 i (by omega)
        refine x_aload_n F 2 dX3_rankOfBeast_24 rfl ?_
        refine x_fget F f_X3_12 hR.c (v := .ref (A 1)) dX3_rankOfBeast_25 rfl ?_
        refine x_iload_n F 0 dX3_rankOfBeast_28 rfl ?_
        refine x_callV F s_X3_124 hR.lb rfl rfl (c_lget F.nt hR.lb hR.db (by omega : i < σ.1 6 0) (by omega : σ.1 6 0 ≤ 22)) rfl dX3_rankOfBeast_29 (by decide) (by decide) (Nat.le_of_ble_eq_true rfl) x_noX (kr fun r_2 M2_2 hp_2 => ?_)
        obtain ⟨rfl, rfl⟩ := hp_2
        refine x_rr0 (y := A (10 + i)) (rfl) ?_
        refine x_cast F (hR.b (by omega : i < σ.1 6 0) (by omega)) rfl l_X3_46 dX3_rankOfBeast_32 ?_
        refine x_astore F [(4, .ref (A (10 + i))), (3, .int (nI (i))), (2, .int (nI (fb_ct (fun o => decide (¬ o = b) && decide (0 < σ.1 2 o) && ahdS σ o b) i))), (0, .ref (A 0)), (1, .ref (A (10 + b)))] dX3_rankOfBeast_35 (by decide) rfl ?_
        refine x_aload F 0 dX3_rankOfBeast_37 rfl ?_
        refine x_fget F f_X3_208 (hR.b (by omega : i < σ.1 6 0) (by omega)) (v := .int (nI (σ.1 2 i))) dX3_rankOfBeast_39 rfl ?_
        refine x_if_le F 57 dX3_rankOfBeast_42 (by decide) (fun c42 => ?_) (fun c42 => ?_)
        · have c42 := (nI_le0 (by omega)).mp c42
          have c42b := Nat.not_lt.mpr (Nat.le_zero.mpr c42)
          refine x_iinc F 1 [(3, .int (nI (i + 1))), (4, .ref (A (10 + i))), (2, .int (nI (fb_ct (fun o => decide (¬ o = b) && decide (0 < σ.1 2 o) && ahdS σ o b) i))), (0, .ref (A 0)), (1, .ref (A (10 + b)))] dX3_rankOfBeast_57 rfl (iincN (i) 1) (by decide) rfl ?_
          refine x_goto F 13 dX3_rankOfBeast_60 (by decide) ?_
          refine x_sub [0, 2, 3, 4] rfl (L' := [(3, .int (nI (i + 1))), (2, .int (nI (fb_ct (fun o => decide (¬ o = b) && decide (0 < σ.1 2 o) && ahdS σ o b) i))), (0, .ref (A 0)), (1, .ref (A (10 + b)))]) ?_
          exact ihi (by omega) _ _ (by first | rw [fb_ct_no (rkb_1 c42)] | rw [fb_ct_no (rkb_2 c51)] | rw [fb_ct_yes (rkb_3 c42 c51)]) (rfl)
        · have c42 := mt (nI_le0 (by omega)).mpr c42
          have c42b := Nat.pos_of_ne_zero c42
          refine x_aload F 0 dX3_rankOfBeast_45 rfl ?_
          refine x_aload_n F 4 dX3_rankOfBeast_47 rfl ?_
          refine x_callV F s_X3_320 (hR.b (by omega : i < σ.1 6 0) (by omega)) rfl rfl (c_X0_isAheadOf F.nt hR hB (by omega) (by omega)) rfl dX3_rankOfBeast_48 (by decide) (by decide) (Nat.le_of_ble_eq_true rfl) x_noX (ki fun r_3 M2_3 hp_3 => ?_)
          obtain ⟨rfl, rfl⟩ := hp_3
          refine x_if_eq F 57 dX3_rankOfBeast_51 (by decide) (fun c51 => ?_) (fun c51 => ?_)
          · have c51 := nI_bz0.mp c51
            refine x_iinc F 1 [(3, .int (nI (i + 1))), (4, .ref (A (10 + i))), (2, .int (nI (fb_ct (fun o => decide (¬ o = b) && decide (0 < σ.1 2 o) && ahdS σ o b) i))), (0, .ref (A 0)), (1, .ref (A (10 + b)))] dX3_rankOfBeast_57 rfl (iincN (i) 1) (by decide) rfl ?_
            refine x_goto F 13 dX3_rankOfBeast_60 (by decide) ?_
            refine x_sub [0, 2, 3, 4] rfl (L' := [(3, .int (nI (i + 1))), (2, .int (nI (fb_ct (fun o => decide (¬ o = b) && decide (0 < σ.1 2 o) && ahdS σ o b) i))), (0, .ref (A 0)), (1, .ref (A (10 + b)))]) ?_
            exact ihi (by omega) _ _ (by first | rw [fb_ct_no (rkb_1 c42)] | rw [fb_ct_no (rkb_2 c51)] | rw [fb_ct_yes (rkb_3 c42 c51)]) (rfl)
          · have c51 := nI_bz1.mp c51
            refine x_iinc F 2 [(2, .int (nI (fb_ct (fun o => decide (¬ o = b) && decide (0 < σ.1 2 o) && ahdS σ o b) i + 1))), (4, .ref (A (10 + i))), (3, .int (nI (i))), (0, .ref (A 0)), (1, .ref (A (10 + b)))] dX3_rankOfBeast_54 rfl (iincN (fb_ct (fun o => decide (¬ o = b) && decide (0 < σ.1 2 o) && ahdS σ o b) i) 1) (by decide) rfl ?_
            refine x_iinc F 2 [(3, .int (nI (i + 1))), (2, .int (nI (fb_ct (fun o => decide (¬ o = b) && decide (0 < σ.1 2 o) && ahdS σ o b) i + 1))), (4, .ref (A (10 + i))), (0, .ref (A 0)), (1, .ref (A (10 + b)))] dX3_rankOfBeast_57 rfl (iincN (i) 1) (by decide) rfl ?_
            refine x_goto F 13 dX3_rankOfBeast_60 (by decide) ?_
            refine x_sub [0, 1, 3, 4] rfl (L' := [(3, .int (nI (i + 1))), (2, .int (nI (fb_ct (fun o => decide (¬ o = b) && decide (0 < σ.1 2 o) && ahdS σ o b) i + 1))), (0, .ref (A 0)), (1, .ref (A (10 + b)))]) ?_
            exact ihi (by omega) _ _ (by first | rw [fb_ct_no (rkb_1 c42)] | rw [fb_ct_no (rkb_2 c51)] | rw [fb_ct_yes (rkb_3 c42 c51)]) (rfl)
    exact LP13 0 (by omega) _ _ (rfl) (rfl)
  · have c4 := (nI_z (by omega)).mp c4
    refine x_iconst F ((-1)) dX3_rankOfBeast_7 (by decide) ?_
    rw [hQ]
    exact x_iret F dX3_rankOfBeast_8 (by decide) ⟨_, rfl, rkb_0 c4, rfl⟩
set_option maxHeartbeats 4000000 in
set_option maxRecDepth 100000 in
theorem c_X3_beastIs {l : Launch} (hl : l.stackTraces = false) {g : GP} {M : MM} {A : Nat → Nat} {M0 : MM} {σ : ST} {x0 y0 : Int32} (hR : CM g A M0 σ M) (hB : Bd σ) : CT l g yX3_beastIs cX3_beastIs 4 (some .int) 6 138 1 6 [.ref (A 0), .int (x0), .int (y0)] M (pI (fun r9 M9 => cdBI σ x0 y0 = 0 ∧ toldS σ (cl x0) y0 = r9 ∧ M = M9)) (fun E M9 => M = M9 ∧ xp2 E (cdBI σ x0 y0) sIO sIA) := by
  refine ct_of [(0, .ref (A 0)), (1, .int (x0)), (2, .int (y0))] (by decide) hl (Nat.le_of_ble_eq_true rfl) rfl ?_
  intro K hK F
  subst hK
  have F : Fx K g cX3_beastIs RX3 4 (some .int) [] 6 138 1 6 := F
  obtain ⟨Q, hQ⟩ : ∃ Q, Q = MQx K g (pI (fun r9 M9 => cdBI σ x0 y0 = 0 ∧ toldS σ (cl x0) y0 = r9 ∧ M = M9)) ((fun E M9 => M = M9 ∧ xp2 E (cdBI σ x0 y0) sIO sIA)) 1 6 := ⟨_, rfl⟩
  rw [← hQ]
  have hB9 := hB
  obtain ⟨h6, h7, h18, hr8, hk96, hp96, hb16, hh⟩ := hB9
  refine x_iload_n F 1 dX3_beastIs_0 rfl ?_
  refine x_if_lt F 15 dX3_beastIs_1 (by decide) (fun c1 => ?_) (fun c1 => ?_)
  · rw [hQ]
    exact x_throw F th_IO (text := "no such beast") (by decide +kernel) dX3_beastIs_15 dX3_beastIs_18 dX3_beastIs_19 dX3_beastIs_21 dX3_beastIs_24 ⟨by decide, Nat.le_of_ble_eq_true rfl, by decide, by decide⟩ (⟨rfl, Or.inl ⟨rfl, if_pos (by first | exact inN_lo c1 | exact inN_hi (by omega) c12)⟩⟩)
  · refine x_iload_n F 1 dX3_beastIs_4 rfl ?_
    refine x_aload_n F 0 dX3_beastIs_5 rfl ?_
    refine x_fget F f_X3_12 hR.c (v := .ref (A 1)) dX3_beastIs_6 rfl ?_
    refine x_callV F s_X3_37 hR.lb rfl rfl (c_lsize F.nt hR.lb) rfl dX3_beastIs_9 (by decide) (by decide) (Nat.le_of_ble_eq_true rfl) x_noX (ki fun r M2 hp => ?_)
    obtain ⟨rfl, rfl⟩ := hp
    refine x_icmp_lt F 25 dX3_beastIs_12 (by decide) (fun c12 => ?_) (fun c12 => ?_)
    · have hIn := inN_in (n := σ.1 6 0) (by omega) c1 c12
      obtain ⟨q, hq, rfl⟩ := inN_t (by omega) hIn
      have b1 := hb16 q (by omega)
      refine x_aload_n F 0 dX3_beastIs_25 rfl ?_
      refine x_fget F f_X3_12 hR.c (v := .ref (A 1)) dX3_beastIs_26 rfl ?_
      refine x_iload_n F 1 dX3_beastIs_29 rfl ?_
      refine x_callV F s_X3_124 hR.lb rfl rfl (c_lget F.nt hR.lb hR.db (by omega : q < σ.1 6 0) (by omega : σ.1 6 0 ≤ 22)) rfl dX3_beastIs_30 (by decide) (by decide) (Nat.le_of_ble_eq_true rfl) x_noX (kr fun r_2 M2_2 hp_2 => ?_)
      obtain ⟨rfl, rfl⟩ := hp_2
      refine x_rr0 (y := A (10 + q)) (rfl) ?_
      refine x_cast F (hR.b (by omega : q < σ.1 6 0) (by omega)) rfl l_X3_46 dX3_beastIs_33 ?_
      refine x_astore_n F [(3, .ref (A (10 + q))), (0, .ref (A 0)), (1, .int (nI (q))), (2, .int (y0))] dX3_beastIs_36 (by decide) rfl ?_
      refine x_iload_n F 3 dX3_beastIs_37 rfl ?_
      by_cases yy0 : y0 = 0
      · subst yy0
        refine x_tableIn F 72 dX3_beastIs_38 (by decide) (by decide) rfl (by decide) ?_
        refine x_aload_n F 0 dX3_beastIs_72 rfl ?_
        refine x_fget F f_X3_205 (hR.b (by omega : q < σ.1 6 0) (by omega)) (v := .int (nI (σ.1 1 q))) dX3_beastIs_73 rfl ?_
        rw [hQ]
        exact x_iret F dX3_beastIs_76 (by decide) ⟨_, rfl, (by unfold cdBI; rw [if_neg (by rw [hIn]; exact Bool.noConfusion)]; exact if_neg (by decide)), (by rw [cl_nI (n := q) (by omega)] <;> rfl), rfl⟩
      by_cases yy1 : y0 = 1
      · subst yy1
        refine x_tableIn F 77 dX3_beastIs_38 (by decide) (by decide) rfl (by decide) ?_
        refine x_aload_n F 0 dX3_beastIs_77 rfl ?_
        refine x_fget F f_X3_208 (hR.b (by omega : q < σ.1 6 0) (by omega)) (v := .int (nI (σ.1 2 q))) dX3_beastIs_78 rfl ?_
        rw [hQ]
        exact x_iret F dX3_beastIs_81 (by decide) ⟨_, rfl, (by unfold cdBI; rw [if_neg (by rw [hIn]; exact Bool.noConfusion)]; exact if_neg (by decide)), (by rw [cl_nI (n := q) (by omega)] <;> rfl), rfl⟩
      by_cases yy2 : y0 = 2
      · subst yy2
        refine x_tableIn F 82 dX3_beastIs_38 (by decide) (by decide) rfl (by decide) ?_
        refine x_aload_n F 0 dX3_beastIs_82 rfl ?_
        refine x_fget F f_X3_211 (hR.b (by omega : q < σ.1 6 0) (by omega)) (v := .int (nI (σ.1 3 q))) dX3_beastIs_83 rfl ?_
        rw [hQ]
        exact x_iret F dX3_beastIs_86 (by decide) ⟨_, rfl, (by unfold cdBI; rw [if_neg (by rw [hIn]; exact Bool.noConfusion)]; exact if_neg (by decide)), (by rw [cl_nI (n := q) (by omega)] <;> rfl), rfl⟩
      by_cases yy3 : y0 = 3
      · subst yy3
        refine x_tableIn F 87 dX3_beastIs_38 (by decide) (by decide) rfl (by decide) ?_
        refine x_aload_n F 0 dX3_beastIs_87 rfl ?_
        refine x_fget F f_X3_214 (hR.b (by omega : q < σ.1 6 0) (by omega)) (v := .int (nI (σ.1 4 q))) dX3_beastIs_88 rfl ?_
        rw [hQ]
        exact x_iret F dX3_beastIs_91 (by decide) ⟨_, rfl, (by unfold cdBI; rw [if_neg (by rw [hIn]; exact Bool.noConfusion)]; exact if_neg (by decide)), (by rw [cl_nI (n := q) (by omega)] <;> rfl), rfl⟩
      by_cases yy4 : y0 = 4
      · subst yy4
        refine x_tableIn F 92 dX3_beastIs_38 (by decide) (by decide) rfl (by decide) ?_
        refine x_aload_n F 1 dX3_beastIs_92 rfl ?_
        refine x_aload_n F 0 dX3_beastIs_93 rfl ?_
        refine x_callV F s_X3_217 hR.c rfl rfl (c_X3_rankOfBeast F.nt hR hB (by omega)) rfl dX3_beastIs_94 (by decide) (by decide) (Nat.le_of_ble_eq_true rfl) x_noX (ki fun r_3 M2_3 hp_3 => ?_)
        obtain ⟨rfl, rfl⟩ := hp_3
        rw [hQ]
        exact x_iret F dX3_beastIs_97 (by decide) ⟨_, rfl, (by unfold cdBI; rw [if_neg (by rw [hIn]; exact Bool.noConfusion)]; exact if_neg (by decide)), (by rw [cl_nI (n := q) (by omega)] <;> rfl), rfl⟩
      have hno := tell_no yy0 yy1 yy2 yy3 yy4
      refine x_tableOut F 98 dX3_beastIs_38 (tell_out hno) (by decide) ?_
      rw [hQ]
      exact x_throw F th_IA (text := "no such question") (by decide +kernel) dX3_beastIs_98 dX3_beastIs_101 dX3_beastIs_102 dX3_beastIs_104 dX3_beastIs_107 ⟨by decide, Nat.le_of_ble_eq_true rfl, by decide, by decide⟩ (⟨rfl, Or.inr ⟨rfl, (by unfold cdBI; rw [if_neg (by rw [hIn]; exact Bool.noConfusion), if_pos hno])⟩⟩)
    · rw [hQ]
      exact x_throw F th_IO (text := "no such beast") (by decide +kernel) dX3_beastIs_15 dX3_beastIs_18 dX3_beastIs_19 dX3_beastIs_21 dX3_beastIs_24 ⟨by decide, Nat.le_of_ble_eq_true rfl, by decide, by decide⟩ (⟨rfl, Or.inl ⟨rfl, if_pos (by first | exact inN_lo c1 | exact inN_hi (by omega) c12)⟩⟩)
set_option maxHeartbeats 4000000 in
set_option maxRecDepth 100000 in
theorem c_X3_moneyOf {l : Launch} (hl : l.stackTraces = false) {g : GP} {M : MM} {A : Nat → Nat} {M0 : MM} {σ : ST} {r j : Nat} (hR : CM g A M0 σ M) (hB : Bd σ) (hD : ID σ) (hr : r < σ.1 18 0) (hj : j < 12) : CT l g yX3_moneyOf cX3_moneyOf 4 (some .int) 1 21 0 0 [.ref (A 0), .ref (A (30 + r)), .int (nI (j))] M (pI (fun r9 M9 => nI (σ.1 29 (12 * r + j)) = r9 ∧ M = M9)) nX := by
  refine ct_of [(0, .ref (A 0)), (1, .ref (A (30 + r))), (2, .int (nI (j)))] (by decide) hl (Nat.le_of_ble_eq_true rfl) rfl ?_
  intro K hK F
  subst hK
  have F : Fx K g cX3_moneyOf RX3 4 (some .int) [] 1 21 0 0 := F
  obtain ⟨Q, hQ⟩ : ∃ Q, Q = MQx K g (pI (fun r9 M9 => nI (σ.1 29 (12 * r + j)) = r9 ∧ M = M9)) nX 0 0 := ⟨_, rfl⟩
  rw [← hQ]
  have hB9 := hB
  obtain ⟨h6, h7, h18, hr8, hk96, hp96, hb16, hh⟩ := hB9
  refine x_aload_n F 1 dX3_moneyOf_0 rfl ?_
  refine x_iload_n F 2 dX3_moneyOf_1 rfl ?_
  refine x_callV F s_X3_258 (hR.r (by omega : r < σ.1 18 0) (by omega)) rfl rfl (c_X2_entryOf F.nt hR hB (by omega) (by omega)) rfl dX3_moneyOf_2 (by decide) (by decide) (Nat.le_of_ble_eq_true rfl) x_noX (kq fun r M2 hp => ?_)
  obtain ⟨rfl, rfl⟩ := hp
  by_cases h41 : σ.1 41 (12 * r + j) = 1
  · refine x_rv0 (y := .ref (A (100 + (12 * r + j)))) (eO_t h41) ?_
    refine x_astore_n F [(3, .ref (A (100 + (12 * r + j)))), (0, .ref (A 0)), (1, .ref (A (30 + r))), (2, .int (nI (j)))] dX3_moneyOf_5 (by decide) rfl ?_
    refine x_aload_n F 0 dX3_moneyOf_6 rfl ?_
    refine x_ifnonnull F 14 dX3_moneyOf_7 (by decide) ?_
    refine x_aload_n F 0 dX3_moneyOf_14 rfl ?_
    refine x_fget F f_X3_233 (hR.e h41 (by omega)) (v := .int (nI (σ.1 29 (12 * r + j)))) dX3_moneyOf_15 rfl ?_
    rw [hQ]
    exact x_iret F dX3_moneyOf_18 (by decide) ⟨_, rfl, by first | rfl | (rw [(hD r j hr hj h41).2.2.2.2.2] <;> rfl), rfl⟩
  · refine x_rv0 (y := .null) (eO_f h41) ?_
    refine x_astore_nN F [(3, .null), (0, .ref (A 0)), (1, .ref (A (30 + r))), (2, .int (nI (j)))] dX3_moneyOf_5 (by decide) rfl ?_
    refine x_aload_nN F 0 dX3_moneyOf_6 rfl ?_
    refine x_ifnonnullN F dX3_moneyOf_7 ?_
    refine x_iconst F (nI 0) dX3_moneyOf_10 (by decide) ?_
    refine x_goto F 18 dX3_moneyOf_11 (by decide) ?_
    rw [hQ]
    exact x_iret F dX3_moneyOf_18 (by decide) ⟨_, rfl, by first | rfl | (rw [(hD r j hr hj h41).2.2.2.2.2] <;> rfl), rfl⟩
set_option maxHeartbeats 4000000 in
set_option maxRecDepth 100000 in
theorem c_X3_bestThreePays {l : Launch} (hl : l.stackTraces = false) {g : GP} {M : MM} {A : Nat → Nat} {M0 : MM} {σ : ST} {j : Nat} (hR : CM g A M0 σ M) (hB : Bd σ) (hD : ID σ) (hj : j < 12) : CT l g yX3_bestThreePays cX3_bestThreePays 7 (some .int) 4 114 0 0 [.ref (A 0), .int (nI (j))] M (pI (fun r9 M9 => nI (b3T σ j) = r9 ∧ M = M9)) nX := by
  refine ct_of [(0, .ref (A 0)), (1, .int (nI (j)))] (by decide) hl (Nat.le_of_ble_eq_true rfl) rfl ?_
  intro K hK F
  subst hK
  have F : Fx K g cX3_bestThreePays RX3 7 (some .int) [] 4 114 0 0 := F
  obtain ⟨Q, hQ⟩ : ∃ Q, Q = MQx K g (pI (fun r9 M9 => nI (b3T σ j) = r9 ∧ M = M9)) nX 0 0 := ⟨_, rfl⟩
  rw [← hQ]
  have hB9 := hB
  obtain ⟨h6, h7, h18, hr8, hk96, hp96, hb16, hh⟩ := hB9
  refine x_iconst F (nI 0) dX3_bestThreePays_0 (by decide) ?_
  refine x_istore_n F [(2, .int (nI (0))), (0, .ref (A 0)), (1, .int (nI (j)))] dX3_bestThreePays_1 (by decide) rfl ?_
  refine x_iconst F (nI 0) dX3_bestThreePays_2 (by decide) ?_
  refine x_istore_n F [(3, .int (nI (0))), (2, .int (nI (0))), (0, .ref (A 0)), (1, .int (nI (j)))] dX3_bestThreePays_3 (by decide) rfl ?_
  refine x_iconst F (nI 0) dX3_bestThreePays_4 (by decide) ?_
  refine x_istore F [(4, .int (nI (0))), (3, .int (nI (0))), (2, .int (nI (0))), (0, .ref (A 0)), (1, .int (nI (j)))] dX3_bestThreePays_5 (by decide) rfl ?_
  refine x_iconst F (nI 0) dX3_bestThreePays_7 (by decide) ?_
  refine x_istore F [(5, .int (nI (0))), (4, .int (nI (0))), (3, .int (nI (0))), (2, .int (nI (0))), (0, .ref (A 0)), (1, .int (nI (j)))] dX3_bestThreePays_8 (by decide) rfl ?_
  have LP10 : ∀ i, i ≤ (σ.1 18 0) → ∀ (v10_2 : Int32) (v10_3 : Int32) (v10_4 : Int32) (v10_5 : Int32), v10_2 = nI ((b3S (mnY σ j) i).1) → v10_3 = nI ((b3S (mnY σ j) i).2.1) → v10_4 = nI ((b3S (mnY σ j) i).2.2) → v10_5 = nI (i) → XW K g 7 Q M 0 0 10 [(5, .int (v10_5)), (4, .int (v10_4)), (3, .int (v10_3)), (2, .int (v10_2)), (0, .ref (A 0)), (1, .int (nI (j)))] [] := by
    refine x_loop ((σ.1 18 0)) _ (fun i hi ihi => ?_)
    intro v10_2 v10_3 v10_4 v10_5 e10_2 e10_3 e10_4 e10_5
    subst e10_2
    subst e10_3
    subst e10_4
    subst e10_5
    have hle := b3S_le (f := mnY σ j) (c := 300000) (mnY_le hB hj) i (by omega)
    refine x_iload F 0 dX3_bestThreePays_10 rfl ?_
    refine x_aload_n F 4 dX3_bestThreePays_12 rfl ?_
    refine x_fget F f_X3_16 hR.c (v := .ref (A 3)) dX3_bestThreePays_13 rfl ?_
    refine x_callV F s_X3_37 hR.lr rfl rfl (c_lsize F.nt hR.lr) rfl dX3_bestThreePays_16 (by decide) (by decide) (Nat.le_of_ble_eq_true rfl) x_noX (ki fun r M2 hp => ?_)
    obtain ⟨rfl, rfl⟩ := hp
    refine x_icmp_ge F 90 dX3_bestThreePays_19 (by decide) (fun c19 => ?_) (fun c19 => ?_)
    · have c19 := (nI_leI (by omega) (by omega)).mp c19
      have c19b := Nat.not_lt.mpr c19
      refine x_iload_n F 3 dX3_bestThreePays_90 rfl ?_
      refine x_iload_n F 2 dX3_bestThreePays_91 rfl ?_
      refine x_iaddN F dX3_bestThreePays_92 ?_
      refine x_iload F 1 dX3_bestThreePays_93 rfl ?_
      refine x_iaddN F dX3_bestThreePays_95 ?_
      rw [hQ]
      exact x_iret F dX3_bestThreePays_96 (by decide) ⟨_, rfl, by have h9 : i = σ.1 18 0 := (by omega); rw [h9]; rfl, rfl⟩
    · have c19 := mt (nI_leI (by omega) (by omega)).mpr c19
      have c19b := Nat.not_le.mp c19
      refine x_aload_n F 4 dX3_bestThreePays_22 rfl ?_
      refine x_aload_n F 4 dX3_bestThreePays_23 rfl ?_
      refine x_fget F f_X3_16 hR.c (v := .ref (A 3)) dX3_bestThreePays_24 rfl ?_
      refine x_iload F 0 dX3_bestThreePays_27 rfl ?_
      refine x_callV F s_X3_124 hR.lr rfl rfl (c_lget F.nt hR.lr hR.dr (by omega : i < σ.1 18 0) (by omega : σ.1 18 0 ≤ 22)) rfl dX3_bestThreePays_29 (by decide) (by decide) (Nat.le_of_ble_eq_true rfl) x_noX (kr fun r_2 M2_2 hp_2 => ?_)
      obtain ⟨rfl, rfl⟩ := hp_2
      refine x_rr0 (y := A (30 + i)) (rfl) ?_
      refine x_cast F (hR.r (by omega : i < σ.1 18 0) (by omega)) rfl l_X3_70 dX3_bestThreePays_32 ?_
      refine x_iload_n F 5 dX3_bestThreePays_35 rfl ?_
      refine x_callV F s_X3_324 hR.c rfl rfl (c_X3_moneyOf F.nt hR hB hD (by omega) (by omega)) rfl dX3_bestThreePays_36 (by decide) (by decide) (Nat.le_of_ble_eq_true rfl) x_noX (ki fun r_3 M2_3 hp_3 => ?_)
      obtain ⟨rfl, rfl⟩ := hp_3
      have hm9 := mnY_le hB hj i (by omega)
      refine x_ri0 (y := nI (mnY σ j i)) (rfl) ?_
      refine x_istore F [(6, .int (nI (mnY σ j i))), (5, .int (nI (i))), (4, .int (nI ((b3S (mnY σ j) i).2.2))), (3, .int (nI ((b3S (mnY σ j) i).2.1))), (2, .int (nI ((b3S (mnY σ j) i).1))), (0, .ref (A 0)), (1, .int (nI (j)))] dX3_bestThreePays_39 (by decide) rfl ?_
      refine x_iload F 0 dX3_bestThreePays_41 rfl ?_
      refine x_iload_n F 4 dX3_bestThreePays_43 rfl ?_
      refine x_icmp_le F 58 dX3_bestThreePays_44 (by decide) (fun c44 => ?_) (fun c44 => ?_)
      · have c44 := (nI_leI (by omega) (by omega)).mp c44
        have c44b := Nat.not_lt.mpr c44
        refine x_iload F 0 dX3_bestThreePays_58 rfl ?_
        refine x_iload_n F 3 dX3_bestThreePays_60 rfl ?_
        refine x_icmp_le F 73 dX3_bestThreePays_61 (by decide) (fun c61 => ?_) (fun c61 => ?_)
        · have c61 := (nI_leI (by omega) (by omega)).mp c61
          have c61b := Nat.not_lt.mpr c61
          refine x_iload F 0 dX3_bestThreePays_73 rfl ?_
          refine x_iload F 2 dX3_bestThreePays_75 rfl ?_
          refine x_icmp_le F 84 dX3_bestThreePays_77 (by decide) (fun c77 => ?_) (fun c77 => ?_)
          · have c77 := (nI_leI (by omega) (by omega)).mp c77
            have c77b := Nat.not_lt.mpr c77
            refine x_iinc F 1 [(5, .int (nI (i + 1))), (6, .int (nI (mnY σ j i))), (4, .int (nI ((b3S (mnY σ j) i).2.2))), (3, .int (nI ((b3S (mnY σ j) i).2.1))), (2, .int (nI ((b3S (mnY σ j) i).1))), (0, .ref (A 0)), (1, .int (nI (j)))] dX3_bestThreePays_84 rfl (iincN (i) 1) (by decide) rfl ?_
            refine x_goto F 10 dX3_bestThreePays_87 (by decide) ?_
            refine x_sub [0, 2, 3, 4, 5, 6] rfl (L' := [(5, .int (nI (i + 1))), (4, .int (nI ((b3S (mnY σ j) i).2.2))), (3, .int (nI ((b3S (mnY σ j) i).2.1))), (2, .int (nI ((b3S (mnY σ j) i).1))), (0, .ref (A 0)), (1, .int (nI (j)))]) ?_
            exact ihi (by omega) _ _ _ _ (by first | exact congrArg (fun z => nI z.1) (b3_1 c44b).symm | exact congrArg (fun z => nI z.1) (b3_2 c44b c61b).symm | exact congrArg (fun z => nI z.1) (b3_3 c44b c61b c77b).symm | exact congrArg (fun z => nI z.1) (b3_4 c44b c61b c77b).symm) (by first | exact congrArg (fun z => nI z.2.1) (b3_1 c44b).symm | exact congrArg (fun z => nI z.2.1) (b3_2 c44b c61b).symm | exact congrArg (fun z => nI z.2.1) (b3_3 c44b c61b c77b).symm | exact congrArg (fun z => nI z.2.1) (b3_4 c44b c61b c77b).symm) (by first | exact congrArg (fun z => nI z.2.2) (b3_1 c44b).symm | exact congrArg (fun z => nI z.2.2) (b3_2 c44b c61b).symm | exact congrArg (fun z => nI z.2.2) (b3_3 c44b c61b c77b).symm | exact congrArg (fun z => nI z.2.2) (b3_4 c44b c61b c77b).symm) (rfl)
          · have c77 := mt (nI_leI (by omega) (by omega)).mpr c77
            have c77b := Nat.not_le.mp c77
            refine x_iload F 0 dX3_bestThreePays_80 rfl ?_
            refine x_istore F [(4, .int (nI (mnY σ j i))), (6, .int (nI (mnY σ j i))), (5, .int (nI (i))), (3, .int (nI ((b3S (mnY σ j) i).2.1))), (2, .int (nI ((b3S (mnY σ j) i).1))), (0, .ref (A 0)), (1, .int (nI (j)))] dX3_bestThreePays_82 (by decide) rfl ?_
            refine x_iinc F 2 [(5, .int (nI (i + 1))), (4, .int (nI (mnY σ j i))), (6, .int (nI (mnY σ j i))), (3, .int (nI ((b3S (mnY σ j) i).2.1))), (2, .int (nI ((b3S (mnY σ j) i).1))), (0, .ref (A 0)), (1, .int (nI (j)))] dX3_bestThreePays_84 rfl (iincN (i) 1) (by decide) rfl ?_
            refine x_goto F 10 dX3_bestThreePays_87 (by decide) ?_
            refine x_sub [0, 1, 3, 4, 5, 6] rfl (L' := [(5, .int (nI (i + 1))), (4, .int (nI (mnY σ j i))), (3, .int (nI ((b3S (mnY σ j) i).2.1))), (2, .int (nI ((b3S (mnY σ j) i).1))), (0, .ref (A 0)), (1, .int (nI (j)))]) ?_
            exact ihi (by omega) _ _ _ _ (by first | exact congrArg (fun z => nI z.1) (b3_1 c44b).symm | exact congrArg (fun z => nI z.1) (b3_2 c44b c61b).symm | exact congrArg (fun z => nI z.1) (b3_3 c44b c61b c77b).symm | exact congrArg (fun z => nI z.1) (b3_4 c44b c61b c77b).symm) (by first | exact congrArg (fun z => nI z.2.1) (b3_1 c44b).symm | exact congrArg (fun z => nI z.2.1) (b3_2 c44b c61b).symm | exact congrArg (fun z => nI z.2.1) (b3_3 c44b c61b c77b).symm | exact congrArg (fun z => nI z.2.1) (b3_4 c44b c61b c77b).symm) (by first | exact congrArg (fun z => nI z.2.2) (b3_1 c44b).symm | exact congrArg (fun z => nI z.2.2) (b3_2 c44b c61b).symm | exact congrArg (fun z => nI z.2.2) (b3_3 c44b c61b c77b).symm | exact congrArg (fun z => nI z.2.2) (b3_4 c44b c61b c77b).symm) (rfl)
        · have c61 := mt (nI_leI (by omega) (by omega)).mpr c61
          have c61b := Nat.not_le.mp c61
          refine x_iload_n F 3 dX3_bestThreePays_64 rfl ?_
          refine x_istore F [(4, .int (nI ((b3S (mnY σ j) i).2.1))), (6, .int (nI (mnY σ j i))), (5, .int (nI (i))), (3, .int (nI ((b3S (mnY σ j) i).2.1))), (2, .int (nI ((b3S (mnY σ j) i).1))), (0, .ref (A 0)), (1, .int (nI (j)))] dX3_bestThreePays_65 (by decide) rfl ?_
          refine x_iload F 1 dX3_bestThreePays_67 rfl ?_
          refine x_istore_n F [(3, .int (nI (mnY σ j i))), (4, .int (nI ((b3S (mnY σ j) i).2.1))), (6, .int (nI (mnY σ j i))), (5, .int (nI (i))), (2, .int (nI ((b3S (mnY σ j) i).1))), (0, .ref (A 0)), (1, .int (nI (j)))] dX3_bestThreePays_69 (by decide) rfl ?_
          refine x_goto F 84 dX3_bestThreePays_70 (by decide) ?_
          refine x_iinc F 3 [(5, .int (nI (i + 1))), (3, .int (nI (mnY σ j i))), (4, .int (nI ((b3S (mnY σ j) i).2.1))), (6, .int (nI (mnY σ j i))), (2, .int (nI ((b3S (mnY σ j) i).1))), (0, .ref (A 0)), (1, .int (nI (j)))] dX3_bestThreePays_84 rfl (iincN (i) 1) (by decide) rfl ?_
          refine x_goto F 10 dX3_bestThreePays_87 (by decide) ?_
          refine x_sub [0, 2, 1, 4, 5, 6] rfl (L' := [(5, .int (nI (i + 1))), (4, .int (nI ((b3S (mnY σ j) i).2.1))), (3, .int (nI (mnY σ j i))), (2, .int (nI ((b3S (mnY σ j) i).1))), (0, .ref (A 0)), (1, .int (nI (j)))]) ?_
          exact ihi (by omega) _ _ _ _ (by first | exact congrArg (fun z => nI z.1) (b3_1 c44b).symm | exact congrArg (fun z => nI z.1) (b3_2 c44b c61b).symm | exact congrArg (fun z => nI z.1) (b3_3 c44b c61b c77b).symm | exact congrArg (fun z => nI z.1) (b3_4 c44b c61b c77b).symm) (by first | exact congrArg (fun z => nI z.2.1) (b3_1 c44b).symm | exact congrArg (fun z => nI z.2.1) (b3_2 c44b c61b).symm | exact congrArg (fun z => nI z.2.1) (b3_3 c44b c61b c77b).symm | exact congrArg (fun z => nI z.2.1) (b3_4 c44b c61b c77b).symm) (by first | exact congrArg (fun z => nI z.2.2) (b3_1 c44b).symm | exact congrArg (fun z => nI z.2.2) (b3_2 c44b c61b).symm | exact congrArg (fun z => nI z.2.2) (b3_3 c44b c61b c77b).symm | exact congrArg (fun z => nI z.2.2) (b3_4 c44b c61b c77b).symm) (rfl)
      · have c44 := mt (nI_leI (by omega) (by omega)).mpr c44
        have c44b := Nat.not_le.mp c44
        refine x_iload_n F 3 dX3_bestThreePays_47 rfl ?_
        refine x_istore F [(4, .int (nI ((b3S (mnY σ j) i).2.1))), (6, .int (nI (mnY σ j i))), (5, .int (nI (i))), (3, .int (nI ((b3S (mnY σ j) i).2.1))), (2, .int (nI ((b3S (mnY σ j) i).1))), (0, .ref (A 0)), (1, .int (nI (j)))] dX3_bestThreePays_48 (by decide) rfl ?_
        refine x_iload_n F 4 dX3_bestThreePays_50 rfl ?_
        refine x_istore_n F [(3, .int (nI ((b3S (mnY σ j) i).1))), (4, .int (nI ((b3S (mnY σ j) i).2.1))), (6, .int (nI (mnY σ j i))), (5, .int (nI (i))), (2, .int (nI ((b3S (mnY σ j) i).1))), (0, .ref (A 0)), (1, .int (nI (j)))] dX3_bestThreePays_51 (by decide) rfl ?_
        refine x_iload F 2 dX3_bestThreePays_52 rfl ?_
        refine x_istore_n F [(2, .int (nI (mnY σ j i))), (3, .int (nI ((b3S (mnY σ j) i).1))), (4, .int (nI ((b3S (mnY σ j) i).2.1))), (6, .int (nI (mnY σ j i))), (5, .int (nI (i))), (0, .ref (A 0)), (1, .int (nI (j)))] dX3_bestThreePays_54 (by decide) rfl ?_
        refine x_goto F 84 dX3_bestThreePays_55 (by decide) ?_
        refine x_iinc F 4 [(5, .int (nI (i + 1))), (2, .int (nI (mnY σ j i))), (3, .int (nI ((b3S (mnY σ j) i).1))), (4, .int (nI ((b3S (mnY σ j) i).2.1))), (6, .int (nI (mnY σ j i))), (0, .ref (A 0)), (1, .int (nI (j)))] dX3_bestThreePays_84 rfl (iincN (i) 1) (by decide) rfl ?_
        refine x_goto F 10 dX3_bestThreePays_87 (by decide) ?_
        refine x_sub [0, 3, 2, 1, 5, 6] rfl (L' := [(5, .int (nI (i + 1))), (4, .int (nI ((b3S (mnY σ j) i).2.1))), (3, .int (nI ((b3S (mnY σ j) i).1))), (2, .int (nI (mnY σ j i))), (0, .ref (A 0)), (1, .int (nI (j)))]) ?_
        exact ihi (by omega) _ _ _ _ (by first | exact congrArg (fun z => nI z.1) (b3_1 c44b).symm | exact congrArg (fun z => nI z.1) (b3_2 c44b c61b).symm | exact congrArg (fun z => nI z.1) (b3_3 c44b c61b c77b).symm | exact congrArg (fun z => nI z.1) (b3_4 c44b c61b c77b).symm) (by first | exact congrArg (fun z => nI z.2.1) (b3_1 c44b).symm | exact congrArg (fun z => nI z.2.1) (b3_2 c44b c61b).symm | exact congrArg (fun z => nI z.2.1) (b3_3 c44b c61b c77b).symm | exact congrArg (fun z => nI z.2.1) (b3_4 c44b c61b c77b).symm) (by first | exact congrArg (fun z => nI z.2.2) (b3_1 c44b).symm | exact congrArg (fun z => nI z.2.2) (b3_2 c44b c61b).symm | exact congrArg (fun z => nI z.2.2) (b3_3 c44b c61b c77b).symm | exact congrArg (fun z => nI z.2.2) (b3_4 c44b c61b c77b).symm) (rfl)
  exact LP10 0 (by omega) _ _ _ _ (rfl) (rfl) (rfl) (rfl)
set_option maxHeartbeats 4000000 in
set_option maxRecDepth 100000 in
theorem c_X3_allPays {l : Launch} (hl : l.stackTraces = false) {g : GP} {M : MM} {A : Nat → Nat} {M0 : MM} {σ : ST} {j : Nat} (hR : CM g A M0 σ M) (hB : Bd σ) (hD : ID σ) (hj : j < 12) : CT l g yX3_allPays cX3_allPays 4 (some .int) 4 114 0 0 [.ref (A 0), .int (nI (j))] M (pI (fun r9 M9 => nI (allS σ j) = r9 ∧ M = M9)) nX := by
  refine ct_of [(0, .ref (A 0)), (1, .int (nI (j)))] (by decide) hl (Nat.le_of_ble_eq_true rfl) rfl ?_
  intro K hK F
  subst hK
  have F : Fx K g cX3_allPays RX3 4 (some .int) [] 4 114 0 0 := F
  obtain ⟨Q, hQ⟩ : ∃ Q, Q = MQx K g (pI (fun r9 M9 => nI (allS σ j) = r9 ∧ M = M9)) nX 0 0 := ⟨_, rfl⟩
  rw [← hQ]
  have hB9 := hB
  obtain ⟨h6, h7, h18, hr8, hk96, hp96, hb16, hh⟩ := hB9
  refine x_iconst F (nI 0) dX3_allPays_0 (by decide) ?_
  refine x_istore_n F [(2, .int (nI (0))), (0, .ref (A 0)), (1, .int (nI (j)))] dX3_allPays_1 (by decide) rfl ?_
  refine x_iconst F (nI 0) dX3_allPays_2 (by decide) ?_
  refine x_istore_n F [(3, .int (nI (0))), (2, .int (nI (0))), (0, .ref (A 0)), (1, .int (nI (j)))] dX3_allPays_3 (by decide) rfl ?_
  have LP4 : ∀ i, i ≤ (σ.1 18 0) → ∀ (v4_2 : Int32) (v4_3 : Int32), v4_2 = nI (fb_sm (fun r => σ.1 29 (12 * r + j)) i) → v4_3 = nI (i) → XW K g 4 Q M 0 0 4 [(3, .int (v4_3)), (2, .int (v4_2)), (0, .ref (A 0)), (1, .int (nI (j)))] [] := by
    refine x_loop ((σ.1 18 0)) _ (fun i hi ihi => ?_)
    intro v4_2 v4_3 e4_2 e4_3
    subst e4_2
    subst e4_3
    refine x_iload_n F 0 dX3_allPays_4 rfl ?_
    refine x_aload_n F 2 dX3_allPays_5 rfl ?_
    refine x_fget F f_X3_16 hR.c (v := .ref (A 3)) dX3_allPays_6 rfl ?_
    refine x_callV F s_X3_37 hR.lr rfl rfl (c_lsize F.nt hR.lr) rfl dX3_allPays_9 (by decide) (by decide) (Nat.le_of_ble_eq_true rfl) x_noX (ki fun r M2 hp => ?_)
    obtain ⟨rfl, rfl⟩ := hp
    refine x_icmp_ge F 40 dX3_allPays_12 (by decide) (fun c12 => ?_) (fun c12 => ?_)
    · have c12 := (nI_leI (by omega) (by omega)).mp c12
      have c12b := Nat.not_lt.mpr c12
      refine x_iload_n F 1 dX3_allPays_40 rfl ?_
      rw [hQ]
      exact x_iret F dX3_allPays_41 (by decide) ⟨_, rfl, by have h9 : i = σ.1 18 0 := (by omega); rw [h9]; rfl, rfl⟩
    · have c12 := mt (nI_leI (by omega) (by omega)).mpr c12
      have c12b := Nat.not_le.mp c12
      refine x_iload_n F 1 dX3_allPays_15 rfl ?_
      refine x_aload_n F 2 dX3_allPays_16 rfl ?_
      refine x_aload_n F 2 dX3_allPays_17 rfl ?_
      refine x_fget F f_X3_16 hR.c (v := .ref (A 3)) dX3_allPays_18 rfl ?_
      refine x_iload_n F 0 dX3_allPays_21 rfl ?_
      refine x_callV F s_X3_124 hR.lr rfl rfl (c_lget F.nt hR.lr hR.dr (by omega : i < σ.1 18 0) (by omega : σ.1 18 0 ≤ 22)) rfl dX3_allPays_22 (by decide) (by decide) (Nat.le_of_ble_eq_true rfl) x_noX (kr fun r_2 M2_2 hp_2 => ?_)
      obtain ⟨rfl, rfl⟩ := hp_2
      refine x_rr0 (y := A (30 + i)) (rfl) ?_
      refine x_cast F (hR.r (by omega : i < σ.1 18 0) (by omega)) rfl l_X3_70 dX3_allPays_25 ?_
      refine x_iload_n F 3 dX3_allPays_28 rfl ?_
      refine x_callV F s_X3_324 hR.c rfl rfl (c_X3_moneyOf F.nt hR hB hD (by omega) (by omega)) rfl dX3_allPays_29 (by decide) (by decide) (Nat.le_of_ble_eq_true rfl) x_noX (ki fun r_3 M2_3 hp_3 => ?_)
      obtain ⟨rfl, rfl⟩ := hp_3
      refine x_iaddN F dX3_allPays_32 ?_
      refine x_istore_n F [(2, .int (nI ((fb_sm (fun r => σ.1 29 (12 * r + j)) i) + (σ.1 29 (12 * i + j))))), (3, .int (nI (i))), (0, .ref (A 0)), (1, .int (nI (j)))] dX3_allPays_33 (by decide) rfl ?_
      refine x_iinc F 1 [(3, .int (nI (i + 1))), (2, .int (nI ((fb_sm (fun r => σ.1 29 (12 * r + j)) i) + (σ.1 29 (12 * i + j))))), (0, .ref (A 0)), (1, .int (nI (j)))] dX3_allPays_34 rfl (iincN (i) 1) (by decide) rfl ?_
      refine x_goto F 4 dX3_allPays_37 (by decide) ?_
      exact ihi (by omega) _ _ (rfl) (rfl)
  exact LP4 0 (by omega) _ _ (rfl) (rfl)
set_option maxHeartbeats 4000000 in
set_option maxRecDepth 100000 in
theorem c_X3_isRiderAhead {l : Launch} (hl : l.stackTraces = false) {g : GP} {M : MM} {A : Nat → Nat} {M0 : MM} {σ : ST} {a9 b9 : Nat} (hR : CM g A M0 σ M) (hB : Bd σ) (hD : ID σ) (ha : a9 < 12) (hb : b9 < 12) : CT l g yX3_isRiderAhead cX3_isRiderAhead 5 (some .boolean) 5 140 0 0 [.ref (A 0), .int (nI (a9)), .int (nI (b9))] M (pI (fun r9 M9 => nI (bz (btcS σ a9 b9)) = r9 ∧ M = M9)) nX := by
  refine ct_of [(0, .ref (A 0)), (1, .int (nI (a9))), (2, .int (nI (b9)))] (by decide) hl (Nat.le_of_ble_eq_true rfl) rfl ?_
  intro K hK F
  subst hK
  have F : Fx K g cX3_isRiderAhead RX3 5 (some .boolean) [] 5 140 0 0 := F
  obtain ⟨Q, hQ⟩ : ∃ Q, Q = MQx K g (pI (fun r9 M9 => nI (bz (btcS σ a9 b9)) = r9 ∧ M = M9)) nX 0 0 := ⟨_, rfl⟩
  rw [← hQ]
  have hB9 := hB
  obtain ⟨h6, h7, h18, hr8, hk96, hp96, hb16, hh⟩ := hB9
  have q1 := b3T_le hB ha
  have q2 := b3T_le hB hb
  have q3 := allS_le hB ha
  have q4 := allS_le hB hb
  refine x_aload_n F 0 dX3_isRiderAhead_0 rfl ?_
  refine x_iload_n F 1 dX3_isRiderAhead_1 rfl ?_
  refine x_callV F s_X3_240 hR.c rfl rfl (c_X3_bestThreePays F.nt hR hB hD (ha)) rfl dX3_isRiderAhead_2 (by decide) (by decide) (Nat.le_of_ble_eq_true rfl) x_noX (ki fun r M2 hp => ?_)
  obtain ⟨rfl, rfl⟩ := hp
  refine x_aload_n F 0 dX3_isRiderAhead_5 rfl ?_
  refine x_iload_n F 2 dX3_isRiderAhead_6 rfl ?_
  refine x_callV F s_X3_240 hR.c rfl rfl (c_X3_bestThreePays F.nt hR hB hD (hb)) rfl dX3_isRiderAhead_7 (by decide) (by decide) (Nat.le_of_ble_eq_true rfl) x_noX (ki fun r_2 M2_2 hp_2 => ?_)
  obtain ⟨rfl, rfl⟩ := hp_2
  refine x_callS F s_X3_330 rfl (c_J6_compare_7cf53 F.nt (by omega) (by omega)) rfl dX3_isRiderAhead_10 (by decide) (by decide) (Nat.le_of_ble_eq_true rfl) x_noX (ki fun r_3 M2_3 hp_3 => ?_)
  obtain ⟨rfl, rfl⟩ := hp_3
  refine x_istore_n F [(3, .int (cmpS (b3T σ a9) (b3T σ b9))), (0, .ref (A 0)), (1, .int (nI (a9))), (2, .int (nI (b9)))] dX3_isRiderAhead_13 (by decide) rfl ?_
  refine x_iload_n F 0 dX3_isRiderAhead_14 rfl ?_
  refine x_if_eq F 28 dX3_isRiderAhead_15 (by decide) (fun c15 => ?_) (fun c15 => ?_)
  · have c15 := cmpS_0.mp c15
    refine x_aload_n F 1 dX3_isRiderAhead_28 rfl ?_
    refine x_iload_n F 2 dX3_isRiderAhead_29 rfl ?_
    refine x_callV F s_X3_333 hR.c rfl rfl (c_X3_allPays F.nt hR hB hD (ha)) rfl dX3_isRiderAhead_30 (by decide) (by decide) (Nat.le_of_ble_eq_true rfl) x_noX (ki fun r_4 M2_4 hp_4 => ?_)
    obtain ⟨rfl, rfl⟩ := hp_4
    refine x_aload_n F 1 dX3_isRiderAhead_33 rfl ?_
    refine x_iload_n F 3 dX3_isRiderAhead_34 rfl ?_
    refine x_callV F s_X3_333 hR.c rfl rfl (c_X3_allPays F.nt hR hB hD (hb)) rfl dX3_isRiderAhead_35 (by decide) (by decide) (Nat.le_of_ble_eq_true rfl) x_noX (ki fun r_5 M2_5 hp_5 => ?_)
    obtain ⟨rfl, rfl⟩ := hp_5
    refine x_callS F s_X3_330 rfl (c_J6_compare_7cf53 F.nt (by omega) (by omega)) rfl dX3_isRiderAhead_38 (by decide) (by decide) (Nat.le_of_ble_eq_true rfl) x_noX (ki fun r_6 M2_6 hp_6 => ?_)
    obtain ⟨rfl, rfl⟩ := hp_6
    refine x_istore F [(4, .int (cmpS (allS σ a9) (allS σ b9))), (3, .int (cmpS (b3T σ a9) (b3T σ b9))), (0, .ref (A 0)), (1, .int (nI (a9))), (2, .int (nI (b9)))] dX3_isRiderAhead_41 (by decide) rfl ?_
    refine x_iload F 0 dX3_isRiderAhead_43 rfl ?_
    refine x_if_eq F 59 dX3_isRiderAhead_45 (by decide) (fun c45 => ?_) (fun c45 => ?_)
    · have c45 := cmpS_0.mp c45
      refine x_iload_n F 3 dX3_isRiderAhead_59 rfl ?_
      refine x_iload_n F 4 dX3_isRiderAhead_60 rfl ?_
      refine x_icmp_ge F 68 dX3_isRiderAhead_61 (by decide) (fun c61 => ?_) (fun c61 => ?_)
      · have c61 := (nI_leI (by omega) (by omega)).mp c61
        have c61b := Nat.not_lt.mpr c61
        refine x_iconst F (nI 0) dX3_isRiderAhead_68 (by decide) ?_
        rw [hQ]
        exact x_zret F dX3_isRiderAhead_69 (by decide) (Or.inl rfl) ⟨_, rfl, by simp [btcS, bz, *], rfl⟩
      · have c61 := mt (nI_leI (by omega) (by omega)).mpr c61
        have c61b := Nat.not_le.mp c61
        refine x_iconst F (nI 1) dX3_isRiderAhead_64 (by decide) ?_
        refine x_goto F 69 dX3_isRiderAhead_65 (by decide) ?_
        rw [hQ]
        exact x_zret F dX3_isRiderAhead_69 (by decide) (Or.inr rfl) ⟨_, rfl, by simp [btcS, bz, *], rfl⟩
    · have c45 := mt cmpS_0.mpr c45
      refine x_iload F 0 dX3_isRiderAhead_48 rfl ?_
      refine x_if_le F 57 dX3_isRiderAhead_50 (by decide) (fun c50 => ?_) (fun c50 => ?_)
      · have c50 := Nat.not_lt.mpr (cmpS_le.mp c50)
        refine x_iconst F (nI 0) dX3_isRiderAhead_57 (by decide) ?_
        rw [hQ]
        exact x_zret F dX3_isRiderAhead_58 (by decide) (Or.inl rfl) ⟨_, rfl, by simp [btcS, bz, *], rfl⟩
      · have c50 := Nat.not_le.mp (mt cmpS_le.mpr c50)
        refine x_iconst F (nI 1) dX3_isRiderAhead_53 (by decide) ?_
        refine x_goto F 58 dX3_isRiderAhead_54 (by decide) ?_
        rw [hQ]
        exact x_zret F dX3_isRiderAhead_58 (by decide) (Or.inr rfl) ⟨_, rfl, by simp [btcS, bz, *], rfl⟩
  · have c15 := mt cmpS_0.mpr c15
    refine x_iload_n F 0 dX3_isRiderAhead_18 rfl ?_
    refine x_if_le F 26 dX3_isRiderAhead_19 (by decide) (fun c19 => ?_) (fun c19 => ?_)
    · have c19 := Nat.not_lt.mpr (cmpS_le.mp c19)
      refine x_iconst F (nI 0) dX3_isRiderAhead_26 (by decide) ?_
      rw [hQ]
      exact x_zret F dX3_isRiderAhead_27 (by decide) (Or.inl rfl) ⟨_, rfl, by simp [btcS, bz, *], rfl⟩
    · have c19 := Nat.not_le.mp (mt cmpS_le.mpr c19)
      refine x_iconst F (nI 1) dX3_isRiderAhead_22 (by decide) ?_
      refine x_goto F 27 dX3_isRiderAhead_23 (by decide) ?_
      rw [hQ]
      exact x_zret F dX3_isRiderAhead_27 (by decide) (Or.inr rfl) ⟨_, rfl, by simp [btcS, bz, *], rfl⟩
set_option maxHeartbeats 4000000 in
set_option maxRecDepth 100000 in
theorem c_X3_rankOfRider {l : Launch} (hl : l.stackTraces = false) {g : GP} {M : MM} {A : Nat → Nat} {M0 : MM} {σ : ST} {k : Nat} (hR : CM g A M0 σ M) (hB : Bd σ) (hD : ID σ) (hk : k < 12) : CT l g yX3_rankOfRider cX3_rankOfRider 4 (some .int) 6 164 0 0 [.ref (A 0), .int (nI (k))] M (pI (fun r9 M9 => nI (rkcS σ k) = r9 ∧ M = M9)) nX := by
  refine ct_of [(0, .ref (A 0)), (1, .int (nI (k)))] (by decide) hl (Nat.le_of_ble_eq_true rfl) rfl ?_
  intro K hK F
  subst hK
  have F : Fx K g cX3_rankOfRider RX3 4 (some .int) [] 6 164 0 0 := F
  obtain ⟨Q, hQ⟩ : ∃ Q, Q = MQx K g (pI (fun r9 M9 => nI (rkcS σ k) = r9 ∧ M = M9)) nX 0 0 := ⟨_, rfl⟩
  rw [← hQ]
  have hB9 := hB
  obtain ⟨h6, h7, h18, hr8, hk96, hp96, hb16, hh⟩ := hB9
  refine x_iconst F (nI 0) dX3_rankOfRider_0 (by decide) ?_
  refine x_istore_n F [(2, .int (nI (0))), (0, .ref (A 0)), (1, .int (nI (k)))] dX3_rankOfRider_1 (by decide) rfl ?_
  refine x_iconst F (nI 0) dX3_rankOfRider_2 (by decide) ?_
  refine x_istore_n F [(3, .int (nI (0))), (2, .int (nI (0))), (0, .ref (A 0)), (1, .int (nI (k)))] dX3_rankOfRider_3 (by decide) rfl ?_
  have LP4 : ∀ i, i ≤ (σ.1 7 0) → ∀ (v4_2 : Int32) (v4_3 : Int32), v4_2 = nI (fb_ct (fun e => btcS σ e k) i) → v4_3 = nI (i) → XW K g 4 Q M 0 0 4 [(3, .int (v4_3)), (2, .int (v4_2)), (0, .ref (A 0)), (1, .int (nI (k)))] [] := by
    refine x_loop ((σ.1 7 0)) _ (fun i hi ihi => ?_)
    intro v4_2 v4_3 e4_2 e4_3
    subst e4_2
    subst e4_3
    refine x_iload_n F 0 dX3_rankOfRider_4 rfl ?_
    refine x_aload_n F 2 dX3_rankOfRider_5 rfl ?_
    refine x_fget F f_X3_19 hR.c (v := .int (nI (σ.1 7 0))) dX3_rankOfRider_6 rfl ?_
    refine x_icmp_ge F 30 dX3_rankOfRider_9 (by decide) (fun c9 => ?_) (fun c9 => ?_)
    · have c9 := (nI_leI (by omega) (by omega)).mp c9
      have c9b := Nat.not_lt.mpr c9
      refine x_iload_n F 1 dX3_rankOfRider_30 rfl ?_
      rw [hQ]
      exact x_iret F dX3_rankOfRider_31 (by decide) ⟨_, rfl, by have h9 : i = σ.1 7 0 := (by omega); rw [h9]; rfl, rfl⟩
    · have c9 := mt (nI_leI (by omega) (by omega)).mpr c9
      have c9b := Nat.not_le.mp c9
      refine x_aload_n F 2 dX3_rankOfRider_12 rfl ?_
      refine x_iload_n F 0 dX3_rankOfRider_13 rfl ?_
      refine x_iload_n F 3 dX3_rankOfRider_14 rfl ?_
      refine x_callV F s_X3_327 hR.c rfl rfl (c_X3_isRiderAhead F.nt hR hB hD (by omega) (hk)) rfl dX3_rankOfRider_15 (by decide) (by decide) (Nat.le_of_ble_eq_true rfl) x_noX (ki fun r M2 hp => ?_)
      obtain ⟨rfl, rfl⟩ := hp
      refine x_if_eq F 24 dX3_rankOfRider_18 (by decide) (fun c18 => ?_) (fun c18 => ?_)
      · have c18 := nI_bz0.mp c18
        refine x_iinc F 0 [(3, .int (nI (i + 1))), (2, .int (nI (fb_ct (fun e => btcS σ e k) i))), (0, .ref (A 0)), (1, .int (nI (k)))] dX3_rankOfRider_24 rfl (iincN (i) 1) (by decide) rfl ?_
        refine x_goto F 4 dX3_rankOfRider_27 (by decide) ?_
        exact ihi (by omega) _ _ (by first | rw [fb_ct_yes (f := fun e => btcS σ e k) (n := i) c18] | rw [fb_ct_no (f := fun e => btcS σ e k) (n := i) c18]) (rfl)
      · have c18 := nI_bz1.mp c18
        refine x_iinc F 1 [(2, .int (nI (fb_ct (fun e => btcS σ e k) i + 1))), (3, .int (nI (i))), (0, .ref (A 0)), (1, .int (nI (k)))] dX3_rankOfRider_21 rfl (iincN (fb_ct (fun e => btcS σ e k) i) 1) (by decide) rfl ?_
        refine x_iinc F 1 [(3, .int (nI (i + 1))), (2, .int (nI (fb_ct (fun e => btcS σ e k) i + 1))), (0, .ref (A 0)), (1, .int (nI (k)))] dX3_rankOfRider_24 rfl (iincN (i) 1) (by decide) rfl ?_
        refine x_goto F 4 dX3_rankOfRider_27 (by decide) ?_
        exact ihi (by omega) _ _ (by first | rw [fb_ct_yes (f := fun e => btcS σ e k) (n := i) c18] | rw [fb_ct_no (f := fun e => btcS σ e k) (n := i) c18]) (rfl)
  exact LP4 0 (by omega) _ _ (rfl) (rfl)
set_option maxHeartbeats 4000000 in
set_option maxRecDepth 100000 in
theorem c_X3_ranked {l : Launch} (hl : l.stackTraces = false) {g : GP} {M : MM} {A : Nat → Nat} {M0 : MM} {σ : ST} {x0 : Int32} (hR : CM g A M0 σ M) (hB : Bd σ) (hD : ID σ) : CT l g yX3_ranked cX3_ranked 3 (some .int) 7 187 1 6 [.ref (A 0), .int (x0)] M (pI (fun r9 M9 => cdRk x0 = 0 ∧ fF (fun k => decide (nI (rkcS σ k) = x0)) 0 (σ.1 7 0) = r9 ∧ M = M9)) (fun E M9 => M = M9 ∧ xp1 E (cdRk x0) sIA) := by
  refine ct_of [(0, .ref (A 0)), (1, .int (x0))] (by decide) hl (Nat.le_of_ble_eq_true rfl) rfl ?_
  intro K hK F
  subst hK
  have F : Fx K g cX3_ranked RX3 3 (some .int) [] 7 187 1 6 := F
  obtain ⟨Q, hQ⟩ : ∃ Q, Q = MQx K g (pI (fun r9 M9 => cdRk x0 = 0 ∧ fF (fun k => decide (nI (rkcS σ k) = x0)) 0 (σ.1 7 0) = r9 ∧ M = M9)) ((fun E M9 => M = M9 ∧ xp1 E (cdRk x0) sIA)) 1 6 := ⟨_, rfl⟩
  rw [← hQ]
  have hB9 := hB
  obtain ⟨h6, h7, h18, hr8, hk96, hp96, hb16, hh⟩ := hB9
  refine x_iload_n F 1 dX3_ranked_0 rfl ?_
  refine x_iconst F (nI 0) dX3_ranked_1 (by decide) ?_
  refine x_bipush F (nI 11) dX3_ranked_2 (by decide) ?_
  refine x_callS F s_X3_57 rfl (c_X3_isWithin F.nt ) rfl dX3_ranked_4 (by decide) (by decide) (Nat.le_of_ble_eq_true rfl) x_noX (ki fun r M2 hp => ?_)
  obtain ⟨rfl, rfl⟩ := hp
  refine x_if_ne F 20 dX3_ranked_7 (by decide) (fun c7 => ?_) (fun c7 => ?_)
  · have c7 := nI_bz1.mp c7
    have hcd : cdRk x0 = 0 := if_pos c7
    refine x_iconst F (nI 0) dX3_ranked_20 (by decide) ?_
    refine x_istore_n F [(2, .int (nI (0))), (0, .ref (A 0)), (1, .int (x0))] dX3_ranked_21 (by decide) rfl ?_
    have LP22 : ∀ i, i ≤ (σ.1 7 0) → ∀ (v22_2 : Int32), v22_2 = nI (i) → fF (fun k => decide (nI (rkcS σ k) = x0)) 0 (σ.1 7 0) = fF (fun k => decide (nI (rkcS σ k) = x0)) i (σ.1 7 0 - i) → XW K g 3 Q M 0 0 22 [(2, .int (v22_2)), (0, .ref (A 0)), (1, .int (x0))] [] := by
      refine x_loop ((σ.1 7 0)) _ (fun i hi ihi => ?_)
      intro v22_2 e22_2 hff
      subst e22_2
      refine x_iload_n F 0 dX3_ranked_22 rfl ?_
      refine x_aload_n F 1 dX3_ranked_23 rfl ?_
      refine x_fget F f_X3_19 hR.c (v := .int (nI (σ.1 7 0))) dX3_ranked_24 rfl ?_
      refine x_icmp_ge F 47 dX3_ranked_27 (by decide) (fun c27 => ?_) (fun c27 => ?_)
      · have c27 := (nI_leI (by omega) (by omega)).mp c27
        have c27b := Nat.not_lt.mpr c27
        refine x_iconst F ((-1)) dX3_ranked_47 (by decide) ?_
        rw [hQ]
        exact x_iret F dX3_ranked_48 (by decide) ⟨_, rfl, hcd, hff.trans (by rw [show σ.1 7 0 - i = 0 by omega]; rfl), rfl⟩
      · have c27 := mt (nI_leI (by omega) (by omega)).mpr c27
        have c27b := Nat.not_le.mp c27
        refine x_aload_n F 1 dX3_ranked_30 rfl ?_
        refine x_iload_n F 0 dX3_ranked_31 rfl ?_
        refine x_callV F s_X3_245 hR.c rfl rfl (c_X3_rankOfRider F.nt hR hB hD (by omega)) rfl dX3_ranked_32 (by decide) (by decide) (Nat.le_of_ble_eq_true rfl) x_noX (ki fun r_2 M2_2 hp_2 => ?_)
        obtain ⟨rfl, rfl⟩ := hp_2
        refine x_iload_n F 2 dX3_ranked_35 rfl ?_
        refine x_icmp_ne F 41 dX3_ranked_36 (by decide) (fun c36 => ?_) (fun c36 => ?_)
        · refine x_iinc F 0 [(2, .int (nI (i + 1))), (0, .ref (A 0)), (1, .int (x0))] dX3_ranked_41 rfl (iincN (i) 1) (by decide) rfl ?_
          refine x_goto F 22 dX3_ranked_44 (by decide) ?_
          exact ihi (by omega) _ (rfl) (hff.trans (fF_no (by omega) (decide_eq_false c36)))
        · refine x_iload_n F 0 dX3_ranked_39 rfl ?_
          rw [hQ]
          exact x_iret F dX3_ranked_40 (by decide) ⟨_, rfl, hcd, hff.trans (fF_yes (by omega) (decide_eq_true c36)), rfl⟩
    exact LP22 0 (by omega) _ (rfl) (rfl)
  · have c7 := nI_bz0.mp c7
    rw [hQ]
    exact x_throw F th_IA (text := "no such rank") (by decide +kernel) dX3_ranked_10 dX3_ranked_13 dX3_ranked_14 dX3_ranked_16 dX3_ranked_19 ⟨by decide, Nat.le_of_ble_eq_true rfl, by decide, by decide⟩ (⟨rfl, rfl, if_neg (by rw [c7]; exact Bool.false_ne_true)⟩)
set_option maxHeartbeats 4000000 in
set_option maxRecDepth 100000 in
theorem c_X3_counts {l : Launch} (hl : l.stackTraces = false) {g : GP} {M : MM} {A : Nat → Nat} {M0 : MM} {σ : ST} {x0 : Int32} (hR : CM g A M0 σ M) (hB : Bd σ) (hD : ID σ) : CT l g yX3_counts cX3_counts 2 (some .int) 7 140 1 6 [.ref (A 0), .int (x0)] M (pI (fun r9 M9 => cdCo σ x0 = 0 ∧ nI (b3T σ (cl x0)) = r9 ∧ M = M9)) (fun E M9 => M = M9 ∧ xp1 E (cdCo σ x0) sIO) := by
  refine ct_of [(0, .ref (A 0)), (1, .int (x0))] (by decide) hl (Nat.le_of_ble_eq_true rfl) rfl ?_
  intro K hK F
  subst hK
  have F : Fx K g cX3_counts RX3 2 (some .int) [] 7 140 1 6 := F
  obtain ⟨Q, hQ⟩ : ∃ Q, Q = MQx K g (pI (fun r9 M9 => cdCo σ x0 = 0 ∧ nI (b3T σ (cl x0)) = r9 ∧ M = M9)) ((fun E M9 => M = M9 ∧ xp1 E (cdCo σ x0) sIO)) 1 6 := ⟨_, rfl⟩
  rw [← hQ]
  have hB9 := hB
  obtain ⟨h6, h7, h18, hr8, hk96, hp96, hb16, hh⟩ := hB9
  refine x_aload_n F 0 dX3_counts_0 rfl ?_
  refine x_iload_n F 1 dX3_counts_1 rfl ?_
  rw [hQ]
  refine x_callV F s_X3_236 hR.c rfl rfl (c_X3_checkRider F.nt hR hB) rfl dX3_counts_2 (by decide) (by decide) (Nat.le_of_ble_eq_true rfl) (x_outX F (by decide) (by rintro E M9 ⟨k1, k2, k3⟩; exact ⟨k3, k1, if_neg (by rw [k2]; exact Bool.false_ne_true)⟩)) (kv fun M9 hp8 => ?_)
  rw [← hQ]
  obtain ⟨hin8, rfl⟩ := hp8
  have hcd : cdCo σ x0 = 0 := if_pos hin8
  obtain ⟨j, hj7, rfl⟩ := inN_t (by omega) hin8
  refine x_aload_n F 0 dX3_counts_5 rfl ?_
  refine x_iload_n F 1 dX3_counts_6 rfl ?_
  refine x_callV F s_X3_240 hR.c rfl rfl (c_X3_bestThreePays F.nt hR hB hD (by omega)) rfl dX3_counts_7 (by decide) (by decide) (Nat.le_of_ble_eq_true rfl) x_noX (ki fun r_2 M2_2 hp_2 => ?_)
  obtain ⟨rfl, rfl⟩ := hp_2
  rw [hQ]
  exact x_iret F dX3_counts_10 (by decide) ⟨_, rfl, hcd, by rw [cl_nI (n := j) (by omega)], rfl⟩
set_option maxHeartbeats 4000000 in
set_option maxRecDepth 100000 in
theorem c_X3_pay {l : Launch} (hl : l.stackTraces = false) {g : GP} {M : MM} {A : Nat → Nat} {M0 : MM} {σ : ST} {x0 : Int32} (hR : CM g A M0 σ M) (hB : Bd σ) (hW : IW σ) (hD : ID σ) : CT l g yX3_pay cX3_pay 3 (some .int) 8 203 2 12 [.ref (A 0), .int (x0)] M (pI (fun r9 M9 => cdPa σ x0 = 0 ∧ nI (ccN σ (cl x0)) = r9 ∧ CM g A M0 (pyU σ (cl x0)) M9)) (fun E M9 => M = M9 ∧ xp2 E (cdPa σ x0) sIO sIS) := by
  refine ct_of [(0, .ref (A 0)), (1, .int (x0))] (by decide) hl (Nat.le_of_ble_eq_true rfl) rfl ?_
  intro K hK F
  subst hK
  have F : Fx K g cX3_pay RX3 3 (some .int) [] 8 203 2 12 := F
  obtain ⟨Q, hQ⟩ : ∃ Q, Q = MQx K g (pI (fun r9 M9 => cdPa σ x0 = 0 ∧ nI (ccN σ (cl x0)) = r9 ∧ CM g A M0 (pyU σ (cl x0)) M9)) ((fun E M9 => M = M9 ∧ xp2 E (cdPa σ x0) sIO sIS)) 2 12 := ⟨_, rfl⟩
  rw [← hQ]
  have hB9 := hB
  obtain ⟨h6, h7, h18, hr8, hk96, hp96, hb16, hh⟩ := hB9
  refine x_aload_n F 0 dX3_pay_0 rfl ?_
  refine x_iload_n F 1 dX3_pay_1 rfl ?_
  rw [hQ]
  refine x_callV F s_X3_75 hR.c rfl rfl (c_X3_rodeoAt F.nt hR hB) rfl dX3_pay_2 (by decide) (by decide) (Nat.le_of_ble_eq_true rfl) (x_outX F (by decide) (by rintro E M9 ⟨k1, k2, k3⟩; exact ⟨k3, (Or.inl ⟨k1, (if_pos k2)⟩)⟩)) (kr fun r9 M9 hp9 => ?_)
  rw [← hQ]
  obtain ⟨hin9, rfl, rfl⟩ := hp9
  obtain ⟨r, hr, rfl⟩ := inN_t (by omega) hin9
  rw [cl_nI (n := r) (by omega)]
  have b1 := hr8 r (by omega)
  have hpb := cbP_pay hW hD hr
  refine x_astore_n F [(2, .ref (A (30 + r))), (0, .ref (A 0)), (1, .int (nI (r)))] dX3_pay_5 (by decide) rfl ?_
  refine x_aload_n F 0 dX3_pay_6 rfl ?_
  refine x_callV F s_X3_221 (hR.r (by omega : r < σ.1 18 0) (by omega)) rfl rfl (c_X2_canBePaid F.nt hR hB hW (by omega)) rfl dX3_pay_7 (by decide) (by decide) (Nat.le_of_ble_eq_true rfl) x_noX (ki fun r_2 M2_2 hp_2 => ?_)
  obtain ⟨rfl, rfl⟩ := hp_2
  refine x_if_ne F 23 dX3_pay_10 (by decide) (fun c10 => ?_) (fun c10 => ?_)
  · have c10 := nI_bz1.mp c10
    have hcd : cdPa σ (nI r) = 0 := by (unfold cdPa; rw [if_neg (by rw [hin9]; exact Bool.noConfusion), cl_nI (n := r) (by omega)]; exact if_neg (by rw [← hpb, c10]; exact Bool.noConfusion))
    refine x_aload_n F 0 dX3_pay_23 rfl ?_
    refine x_callV F s_X3_227 (hR.r (by omega : r < σ.1 18 0) (by omega)) rfl rfl (c_X2_payOut F.nt hR hB hW hD (by omega)) rfl dX3_pay_24 (by decide) (by decide) (Nat.le_of_ble_eq_true rfl) x_noX (kv fun M9 hp8 => ?_)
    have K18 : (pyU σ r).1 18 0 = σ.1 18 0 := pyU_N (by decide) (by decide)
    have hW8 : IW (pyU σ r) := IW_of (fun s9 q9 h9 => pyU_N (by omega) (by omega)) hW
    have hB8 : Bd (pyU σ r) := Bd_pyU hB hr hD
    refine x_aload_n F 0 dX3_pay_27 rfl ?_
    refine x_callV F s_X3_230 (hp8.r (by omega : r < (pyU σ r).1 18 0) (by omega)) rfl rfl (c_X2_countCounting F.nt hp8 hB8 hW8 (by omega)) rfl dX3_pay_28 (by decide) (by decide) (Nat.le_of_ble_eq_true rfl) x_noX (ki fun r_4 M2_4 hp_4 => ?_)
    obtain ⟨rfl, rfl⟩ := hp_4
    rw [hQ]
    exact x_iret F dX3_pay_31 (by decide) ⟨_, rfl, hcd, by rw [cl_nI (n := r) (by omega)]; exact congrArg nI ccN_py.symm, by rw [cl_nI (n := r) (by omega)]; exact hp8⟩
  · have c10 := nI_bz0.mp c10
    rw [hQ]
    exact x_throw F th_IS (text := "cannot be paid") (by decide +kernel) dX3_pay_13 dX3_pay_16 dX3_pay_17 dX3_pay_19 dX3_pay_22 ⟨by decide, Nat.le_of_ble_eq_true rfl, by decide, by decide⟩ (⟨rfl, Or.inr ⟨rfl, (by unfold cdPa; rw [if_neg (by rw [hin9]; exact Bool.noConfusion), cl_nI (n := r) (by omega)]; exact if_pos (hpb.symm.trans c10))⟩⟩)
set_option maxHeartbeats 4000000 in
set_option maxRecDepth 100000 in
theorem c_X3_balances {l : Launch} (hl : l.stackTraces = false) {g : GP} {M : MM} {A : Nat → Nat} {M0 : MM} {σ : ST}  (hR : CM g A M0 σ M) (hB : Bd σ) (hW : IW σ) (hD : ID σ) : CT l g yX3_balances cX3_balances 2 (some .boolean) 8 199 0 0 [.ref (A 0)] M (pI (fun r9 M9 => nI (bz (allB (ieS σ) (σ.1 18 0) && allB (harS σ) (σ.1 6 0))) = r9 ∧ M = M9)) nX := by
  refine ct_of [(0, .ref (A 0))] (by decide) hl (Nat.le_of_ble_eq_true rfl) rfl ?_
  intro K hK F
  subst hK
  have F : Fx K g cX3_balances RX3 2 (some .boolean) [] 8 199 0 0 := F
  obtain ⟨Q, hQ⟩ : ∃ Q, Q = MQx K g (pI (fun r9 M9 => nI (bz (allB (ieS σ) (σ.1 18 0) && allB (harS σ) (σ.1 6 0))) = r9 ∧ M = M9)) nX 0 0 := ⟨_, rfl⟩
  rw [← hQ]
  have hB9 := hB
  obtain ⟨h6, h7, h18, hr8, hk96, hp96, hb16, hh⟩ := hB9
  refine x_iconst F (nI 0) dX3_balances_0 (by decide) ?_
  refine x_istore_n F [(1, .int (nI (0))), (0, .ref (A 0))] dX3_balances_1 (by decide) rfl ?_
  have LP2 : ∀ i, i ≤ (σ.1 18 0) → ∀ (v2_1 : Int32), v2_1 = nI (i) → allB (ieS σ) i = true → XW K g 2 Q M 0 0 2 [(1, .int (v2_1)), (0, .ref (A 0))] [] := by
    refine x_loop ((σ.1 18 0)) _ (fun i hi ihi => ?_)
    intro v2_1 e2_1 hal
    subst e2_1
    refine x_iload_n F 0 dX3_balances_2 rfl ?_
    refine x_aload_n F 1 dX3_balances_3 rfl ?_
    refine x_fget F f_X3_16 hR.c (v := .ref (A 3)) dX3_balances_4 rfl ?_
    refine x_callV F s_X3_37 hR.lr rfl rfl (c_lsize F.nt hR.lr) rfl dX3_balances_7 (by decide) (by decide) (Nat.le_of_ble_eq_true rfl) x_noX (ki fun r M2 hp => ?_)
    obtain ⟨rfl, rfl⟩ := hp
    refine x_icmp_ge F 38 dX3_balances_10 (by decide) (fun c10 => ?_) (fun c10 => ?_)
    · have c10 := (nI_leI (by omega) (by omega)).mp c10
      have c10b := Nat.not_lt.mpr c10
      have h9 : i = σ.1 18 0 := by omega
      rw [h9] at hal
      refine x_iconst F (nI 0) dX3_balances_38 (by decide) ?_
      refine x_istore_n F [(1, .int (nI (0))), (0, .ref (A 0))] dX3_balances_39 (by decide) rfl ?_
      have LP40 : ∀ e, e ≤ (σ.1 6 0) → ∀ (v40_1 : Int32), v40_1 = nI (e) → allB (harS σ) e = true → XW K g 2 Q M 0 0 40 [(1, .int (v40_1)), (0, .ref (A 0))] [] := by
        refine x_loop ((σ.1 6 0)) _ (fun e he ihe => ?_)
        intro v40_1 e40_1 ham
        subst e40_1
        refine x_iload_n F 0 dX3_balances_40 rfl ?_
        refine x_aload_n F 1 dX3_balances_41 rfl ?_
        refine x_fget F f_X3_12 hR.c (v := .ref (A 1)) dX3_balances_42 rfl ?_
        refine x_callV F s_X3_37 hR.lb rfl rfl (c_lsize F.nt hR.lb) rfl dX3_balances_45 (by decide) (by decide) (Nat.le_of_ble_eq_true rfl) x_noX (ki fun r_2 M2_2 hp_2 => ?_)
        obtain ⟨rfl, rfl⟩ := hp_2
        refine x_icmp_ge F 76 dX3_balances_48 (by decide) (fun c48 => ?_) (fun c48 => ?_)
        · have c48 := (nI_leI (by omega) (by omega)).mp c48
          have c48b := Nat.not_lt.mpr c48
          refine x_iconst F (nI 1) dX3_balances_76 (by decide) ?_
          rw [hQ]
          exact x_zret F dX3_balances_77 (by decide) (Or.inr rfl) ⟨_, rfl, by (have h8 : e = σ.1 6 0 := (by omega); rw [h8] at ham; rw [hal, ham]; rfl), rfl⟩
        · have c48 := mt (nI_leI (by omega) (by omega)).mpr c48
          have c48b := Nat.not_le.mp c48
          refine x_aload_n F 1 dX3_balances_51 rfl ?_
          refine x_fget F f_X3_12 hR.c (v := .ref (A 1)) dX3_balances_52 rfl ?_
          refine x_iload_n F 0 dX3_balances_55 rfl ?_
          refine x_callV F s_X3_124 hR.lb rfl rfl (c_lget F.nt hR.lb hR.db (by omega : e < σ.1 6 0) (by omega : σ.1 6 0 ≤ 22)) rfl dX3_balances_56 (by decide) (by decide) (Nat.le_of_ble_eq_true rfl) x_noX (kr fun r_3 M2_3 hp_3 => ?_)
          obtain ⟨rfl, rfl⟩ := hp_3
          refine x_rr0 (y := A (10 + e)) (rfl) ?_
          refine x_cast F (hR.b (by omega : e < σ.1 6 0) (by omega)) rfl l_X3_46 dX3_balances_59 ?_
          refine x_callV F s_X3_251 (hR.b (by omega : e < σ.1 6 0) (by omega)) rfl rfl (c_X0_hasAlwaysRested F.nt hR hB (by omega)) rfl dX3_balances_62 (by decide) (by decide) (Nat.le_of_ble_eq_true rfl) x_noX (ki fun r_4 M2_4 hp_4 => ?_)
          obtain ⟨rfl, rfl⟩ := hp_4
          refine x_if_ne F 70 dX3_balances_65 (by decide) (fun c65 => ?_) (fun c65 => ?_)
          · have c65 := nI_bz1.mp c65
            refine x_iinc F 0 [(1, .int (nI (e + 1))), (0, .ref (A 0))] dX3_balances_70 rfl (iincN (e) 1) (by decide) rfl ?_
            refine x_goto F 40 dX3_balances_73 (by decide) ?_
            exact ihe (by omega) _ (rfl) (by simp only [allB]; rw [ham, c65]; rfl)
          · have c65 := nI_bz0.mp c65
            refine x_iconst F (nI 0) dX3_balances_68 (by decide) ?_
            rw [hQ]
            exact x_zret F dX3_balances_69 (by decide) (Or.inl rfl) ⟨_, rfl, by (rw [all_no (f := harS σ) (i := e) (by omega) c65, Bool.and_false]; rfl), rfl⟩
      exact LP40 0 (by omega) _ (rfl) (rfl)
    · have c10 := mt (nI_leI (by omega) (by omega)).mpr c10
      have c10b := Nat.not_le.mp c10
      refine x_aload_n F 1 dX3_balances_13 rfl ?_
      refine x_fget F f_X3_16 hR.c (v := .ref (A 3)) dX3_balances_14 rfl ?_
      refine x_iload_n F 0 dX3_balances_17 rfl ?_
      refine x_callV F s_X3_124 hR.lr rfl rfl (c_lget F.nt hR.lr hR.dr (by omega : i < σ.1 18 0) (by omega : σ.1 18 0 ≤ 22)) rfl dX3_balances_18 (by decide) (by decide) (Nat.le_of_ble_eq_true rfl) x_noX (kr fun r_5 M2_5 hp_5 => ?_)
      obtain ⟨rfl, rfl⟩ := hp_5
      refine x_rr0 (y := A (30 + i)) (rfl) ?_
      refine x_cast F (hR.r (by omega : i < σ.1 18 0) (by omega)) rfl l_X3_70 dX3_balances_21 ?_
      refine x_callV F s_X3_248 (hR.r (by omega : i < σ.1 18 0) (by omega)) rfl rfl (c_X2_isEven F.nt hR hB hW hD (by omega)) rfl dX3_balances_24 (by decide) (by decide) (Nat.le_of_ble_eq_true rfl) x_noX (ki fun r_6 M2_6 hp_6 => ?_)
      obtain ⟨rfl, rfl⟩ := hp_6
      refine x_if_ne F 32 dX3_balances_27 (by decide) (fun c27 => ?_) (fun c27 => ?_)
      · have c27 := nI_bz1.mp c27
        refine x_iinc F 0 [(1, .int (nI (i + 1))), (0, .ref (A 0))] dX3_balances_32 rfl (iincN (i) 1) (by decide) rfl ?_
        refine x_goto F 2 dX3_balances_35 (by decide) ?_
        exact ihi (by omega) _ (rfl) (by simp only [allB]; rw [hal, c27]; rfl)
      · have c27 := nI_bz0.mp c27
        refine x_iconst F (nI 0) dX3_balances_30 (by decide) ?_
        rw [hQ]
        exact x_zret F dX3_balances_31 (by decide) (Or.inl rfl) ⟨_, rfl, by (rw [all_no (f := ieS σ) (i := i) (by omega) c27]; rfl), rfl⟩
  exact LP2 0 (by omega) _ (rfl) (rfl)
