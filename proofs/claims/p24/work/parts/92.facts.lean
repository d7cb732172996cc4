/-! what the law's checks rest on -/
def IJ (c : Nat) (σ : ST) : Prop := Inv c σ ∧ JV (σ.1 15) σ
section IJs
variable {c : Nat} {σ : ST}
theorem IJ_s (h : IJ c σ) : IJ (c + 1) σ := ⟨Inv_s h.1, h.2⟩
theorem IJ_beast {x0 : Int32} (h : IJ c σ) (h5 : c < 512) (hz : cdBe σ x0 = 0) : IJ (c + 1) (beU σ x0) := ⟨IV_beast h.1 h5 hz, JV_f (JV_beast h.2) (fun _ _ => rfl)⟩
theorem IJ_rider (h : IJ c σ) (h5 : c < 512) (hz : cdRd σ = 0) : IJ (c + 1) (rdU σ) := ⟨IV_rider h.1 h5 hz, JV_f (JV_rider h.2) (fun _ _ => rfl)⟩
theorem IJ_rodeo {a0 a1 a2 a3 a4 a5 a6 : Int32} (h : IJ c σ) (h5 : c < 512) (hz : cdRo σ a0 a1 a2 a3 a4 a5 a6 = 0) : IJ (c + 1) (roU σ a0 a1 a2 a3 a4 a5 a6) := ⟨IV_rodeo h.1 h5 hz, JV_rodeo h.1 h.2⟩
theorem IJ_hide {x0 : Int32} (h : IJ c σ) (h5 : c < 512) (hz : cdHi x0 = 0) : IJ (c + 1) (uN σ 30 0 (cl x0)) := ⟨IV_hide h.1 h5 hz, JV_f (JV_hide h.2) (fun _ _ => rfl)⟩
theorem IJ_enter {x0 y0 s0 w0 : Int32} (h : IJ c σ) (h5 : c < 512) (hz : cdEn σ x0 y0 s0 w0 = 0) : IJ (c + 1) (enU σ (cl x0) (cl y0) (cl s0) (cl w0)) := by
  have h7 := h.1.B.2.1
  refine ⟨IV_enter h.1 h5 hz, JV_f (JV_enter h.2 ?_ h7) (fun _ _ => rfl)⟩
  exact (inN_cl (by omega) (cdEn_1 hz).1.2).1
theorem IJ_close {x0 : Int32} (h : IJ c σ) (h5 : c < 512) (hz : cdSt σ x0 0 = 0) : IJ (c + 1) (clU σ (cl x0)) := by
  obtain ⟨r, hr, e0, h15, e⟩ := cdSt_1 h.1.B.2.2.1 hz
  refine ⟨IV_close h.1 h5 hz, ?_⟩
  rw [e]
  exact JV_close h.1 h.2 hr h15
theorem IJ_draw {x0 : Int32} (h : IJ c σ) (h5 : c < 512) (hz : cdSt σ x0 1 = 0) : IJ (c + 1) (drnU σ (cl x0)) := by
  obtain ⟨r, hr, e0, h15, e⟩ := cdSt_1 h.1.B.2.2.1 hz
  refine ⟨IV_draw h.1 h5 hz, ?_⟩
  rw [e]
  exact JV_draw h.1 h.2 hr h15
theorem IJ_ride {x0 y0 mk w : Int32} {f : Bool} (h : IJ c σ) (h5 : c < 512) (hz : cdRi σ x0 y0 mk w = 0) : IJ (c + 1) (ridU σ (12 * cl x0 + cl y0) (cl (σ.2.1 23 (12 * cl x0 + cl y0))) (cl mk) (cl w) f) := ⟨IV_ride h.1 h5 hz, JV_ride h.1 h.2 hz⟩
theorem IJ_answer {x0 y0 : Int32} {f : Bool} (h : IJ c σ) (h5 : c < 512) (hz : cdAn σ x0 y0 = 0) : IJ (c + 1) (ansU σ (cl x0) (cl y0) f) := ⟨IV_answer h.1 h5 hz, JV_answer h.1 h.2 hz⟩
theorem cdPa_2 {x0 : Int32} {r : Nat} (h18 : σ.1 18 0 ≤ 8) (hz : cdPa σ x0 = 0) (e : cl x0 = r) : σ.1 15 r = 2 ∧ ∀ j, j < 12 → σ.1 24 (12 * r + j) = 0 ∧ σ.1 26 (12 * r + j) = 0 := by
  unfold cdPa at hz
  by_cases z : inN x0 (σ.1 18 0) = false
  · rw [if_pos z] at hz; cases hz
  · rw [if_neg z] at hz
    by_cases y : payB σ (cl x0) = false
    · rw [if_pos y] at hz; cases hz
    · have y : payB σ (cl x0) = true := by simpa using y
      rw [e] at y
      unfold payB at y
      rw [Bool.and_eq_true, decide_eq_true_eq] at y
      refine ⟨y.1, fun j hj => ?_⟩
      have := allB_iff.mp y.2 j hj
      rw [Bool.and_eq_true, decide_eq_true_eq, decide_eq_true_eq] at this
      exact this
theorem IJ_pay {x0 : Int32} (h : IJ c σ) (h5 : c < 512) (hz : cdPa σ x0 = 0) : IJ (c + 1) (pyU σ (cl x0)) := by
  obtain ⟨r, hr, e, h15⟩ := cdPa_1 h.1.B.2.2.1 hz
  rw [← SQ_pay h.1 hz]
  refine ⟨IV_pay h.1 h5 hz, ?_⟩
  rw [e]
  exact JV_pay h.1 h.2 hr h15 (cdPa_2 h.1.B.2.2.1 hz e).2
/-- numbers told, or none -/
theorem v22 (h : IJ c σ) {r j : Nat} (hr : r < σ.1 18 0) (hj : j < 12) : σ.2.1 22 (12 * r + j) = -1 ∨ ∃ p, p < 4 ∧ σ.2.1 22 (12 * r + j) = nI p := (h.1.B.2.2.2.2.2.1 (12 * r + j) (by have := h.1.B.2.2.1; omega)).1
theorem v23 (h : IJ c σ) {r j : Nat} (hr : r < σ.1 18 0) (hj : j < 12) : σ.2.1 23 (12 * r + j) = -1 ∨ ∃ b, b < 16 ∧ σ.2.1 23 (12 * r + j) = nI b := (h.1.B.2.2.2.2.2.1 (12 * r + j) (by have := h.1.B.2.2.1; omega)).2.1
theorem v28 (h : IJ c σ) {r j : Nat} (hr : r < σ.1 18 0) (hj : j < 12) : σ.2.1 28 (12 * r + j) = -1 ∨ ∃ v, v ≤ 100 ∧ σ.2.1 28 (12 * r + j) = nI v := (h.1.B.2.2.2.2.2.1 (12 * r + j) (by have := h.1.B.2.2.1; omega)).2.2
end IJs
theorem lo_or {v : Int32} {N : Nat} (hN : N < 2 ^ 31) (h : v = -1 ∨ ∃ p, p < N ∧ v = nI p) : ¬ v < -1 ∧ (¬ v = -1 → ¬ v < 0) ∧ (¬ v = -1 → ∃ p, p < N ∧ v = nI p) := by
  rcases h with rfl | ⟨p, hp, rfl⟩
  · exact ⟨by decide, fun z => absurd rfl z, fun z => absurd rfl z⟩
  · refine ⟨fun z => ?_, fun _ => nI_nn (by omega), fun _ => ⟨p, hp, rfl⟩⟩
    have h2 := Int32.lt_iff_toInt_lt.mp z
    have h5 : (-1 : Int32).toInt = -1 := by decide
    rw [nI_toInt (by omega)] at h2
    omega
theorem v28' {c : Nat} {σ : ST} (h : IJ c σ) {r j : Nat} (hr : r < σ.1 18 0) (hj : j < 12) : σ.2.1 28 (12 * r + j) = -1 ∨ ∃ v, v < 101 ∧ σ.2.1 28 (12 * r + j) = nI v := by
  rcases v28 h hr hj with h1 | ⟨v, h1, h2⟩
  · exact Or.inl h1
  · exact Or.inr ⟨v, by omega, h2⟩
/-- placed are those with a beast, and more -/
theorem bea_pl {c r : Nat} {σ : ST} (h : IJ c σ) (hr : r < σ.1 18 0) : beaN σ r ≤ plIn σ r := fb_ct_sub (fun j hj hk => decide_eq_true ((h.2.1 r j hr hj).2.2.1 (of_decide_eq_true hk)).2.1)
theorem cou_pl {c r : Nat} {σ : ST} (h : IJ c σ) (hr : r < σ.1 18 0) : couN σ r ≤ plIn σ r := fb_ct_sub (fun j hj hk => by
  have hE := h.2.1 r j hr hj
  exact decide_eq_true (hE.2.2.1 (hE.2.2.2.2.2.1 (hE.2.2.2.2.2.2.2.1 (of_decide_eq_true hk)))).2.1)
theorem plIn_17 {c r : Nat} {σ : ST} (h : IJ c σ) (hr : r < σ.1 18 0) : plIn σ r ≤ σ.1 17 r := by
  have := cIn_pl h.1.W h.1.D hr
  omega
theorem sm_cut {f : Nat → Nat} {n N : Nat} (h : n ≤ N) (hz : ∀ j, n ≤ j → j < N → f j = 0) : fb_sm f N = fb_sm f n := by
  induction N with
  | zero => have : n = 0 := by omega
            rw [this]
  | succ N ih =>
    by_cases z : n = N + 1
    · rw [z]
    · rw [fb_sm_succ, hz N (by omega) (by omega), Nat.add_zero]
      exact ih (by omega) (fun j h1 h2 => hz j h1 (by omega))
/-- riders who are not there have nothing -/
theorem no_41 {c r j : Nat} {σ : ST} (h : IJ c σ) (hr : r < σ.1 18 0) (hj : j < 12) (h7 : σ.1 7 0 ≤ j) : ¬ σ.1 41 (12 * r + j) = 1 := fun z => by
  have := (h.2.1 r j hr hj).1 z
  omega
theorem pl_cut {c r : Nat} {σ : ST} (h : IJ c σ) (hr : r < σ.1 18 0) : plIn σ r = fb_sm (fun j => bz (decide (¬ σ.2.1 22 (12 * r + j) = -1))) (σ.1 7 0) := by
  unfold plIn
  rw [ct_sm]
  refine sm_cut h.1.B.2.1 (fun j h1 h2 => ?_)
  rw [(h.1.D r j hr h2 (no_41 h hr h2 h1)).1.1]
  rfl
theorem mo_cut {c r : Nat} {σ : ST} (h : IJ c σ) (hr : r < σ.1 18 0) : fb_sm (fun j => σ.1 29 (12 * r + j)) 12 = fb_sm (fun j => σ.1 29 (12 * r + j)) (σ.1 7 0) := sm_cut h.1.B.2.1 (fun j h1 h2 => (h.1.D r j hr h2 (no_41 h hr h2 h1)).2.2.2.2.2)
/-- what stays, and the pays -/
theorem pay_sum {c r : Nat} {σ : ST} (h : IJ c σ) (hr : r < σ.1 18 0) : σ.2.1 16 r + nI (fb_sm (fun j => σ.1 29 (12 * r + j)) (σ.1 7 0)) = if σ.1 15 r = 3 then nI (potS σ r) else 0 := by
  rw [← mo_cut h hr]
  have hm := h.2.2.1 r hr
  by_cases z : σ.1 15 r = 3
  · rw [if_pos z, hm.1 z]
    unfold potS
    rw [if_neg (by omega)]
  · rw [if_neg z, hm.2 z]
    have e : fb_sm (fun j => σ.1 29 (12 * r + j)) 12 = 0 := sm_0 (fun j hj => h.1.mo r j hr hj z)
    rw [e]; decide
theorem pot_0 {r : Nat} {σ : ST} (h : σ.1 15 r = 0) : potS σ r = 0 := if_pos h
/-- it balances -/
theorem bal_t {c : Nat} {σ : ST} (h : IJ c σ) : (allB (ieS σ) (σ.1 18 0) && allB (harS σ) (σ.1 6 0)) = true := by
  rw [Bool.and_eq_true, allB_iff, allB_iff]
  constructor
  · intro r hr
    unfold ieS
    by_cases z : σ.1 15 r = 3
    · rw [smE_n, pm_sm h.1.W hr (fun j => σ.1 29 (12 * r + j)) (fun j hj hn => (h.1.D r j hr hj hn).2.2.2.2.2), (h.2.2.1 r hr).1 z]
      unfold potS
      rw [if_neg (by omega), decide_eq_true (rfl), Bool.or_true]
    · rw [decide_eq_true z]; rfl
  · intro b hb
    unfold harS
    rw [bcL_pop, h.1.pc b, decide_eq_true (rfl : nI (σ.1 42 b) = nI (σ.1 42 b)), Bool.true_and, decide_eq_true_eq, and_0]
    intro d hd hx
    rw [bit_sl hd] at hx
    simp only [Bool.and_eq_true, decide_eq_true_eq] at hx
    have := (h.2.2.2 b).2 (d - 1) hx.2.2
    rw [show d - 1 + 1 = d by omega, hx.1] at this
    cases this
/-! the codes at the law's numbers -/
theorem cdBe_k {σ : ST} {kd : Nat} (h : kd ≤ 1) : cdBe σ (nI kd) = if σ.1 6 0 = 16 then 2 else 0 := by
  unfold cdBe
  rw [inR_nI (by omega) (by decide) (by decide), decide_eq_true (Nat.zero_le kd), decide_eq_true h]
  rfl
theorem cdRo_k {σ : ST} {k a b m p mo : Nat} (h0 : k ≤ 1) (h1 : a ≤ 2000) (h2 : b ≤ 60) (h3 : 1 ≤ m ∧ m ≤ 4) (h4 : 1 ≤ p ∧ p ≤ 4) (h5 : mo / 1000 ≤ 99999) : cdRo σ (nI k) (nI a) (nI b) (nI m) (nI p) (nI (mo / 1000)) (nI (mo % 1000)) = if σ.1 18 0 = 8 then 2 else 0 := by
  have h6 : mo % 1000 ≤ 999 := by omega
  unfold cdRo okRo
  rw [inR_nI (by omega) (by decide) (by decide), inR_nI (by omega) (by decide) (by decide), inR_nI (by omega) (by decide) (by decide), inR_nI (by omega) (by decide) (by decide), inR_nI (by omega) (by decide) (by decide), inR_nI (by omega) (by decide) (by decide), inR_nI (by omega) (by decide) (by decide)]
  rw [decide_eq_true (Nat.zero_le k), decide_eq_true h0, decide_eq_true (Nat.zero_le a), decide_eq_true h1, decide_eq_true (Nat.zero_le b), decide_eq_true h2, decide_eq_true h3.1, decide_eq_true h3.2, decide_eq_true h4.1, decide_eq_true h4.2, decide_eq_true (Nat.zero_le (mo / 1000)), decide_eq_true h5, decide_eq_true (Nat.zero_le (mo % 1000)), decide_eq_true h6]
  rfl
theorem cdSt_k {σ : ST} {r v : Nat} (h18 : σ.1 18 0 ≤ 8) (hr : r < σ.1 18 0) : cdSt σ (nI r) v = if ¬ σ.1 15 r = v then 2 else 0 := by
  unfold cdSt
  rw [inN_nI (by omega), decide_eq_true hr, cl_nI (by omega)]
  rfl
theorem cdEn_k {σ : ST} {r j : Nat} {s0 w0 : Int32} (h18 : σ.1 18 0 ≤ 8) (h7 : σ.1 7 0 ≤ 12) (hr : r < σ.1 18 0) (hj : j < σ.1 7 0) : ¬ cdEn σ (nI r) (nI j) s0 w0 = 1 := by
  unfold cdEn
  rw [inN_nI (by omega), inN_nI (by omega), decide_eq_true hr, decide_eq_true hj]
  rw [if_neg (by decide)]
  split
  · decide
  · split <;> decide
theorem cdRi_k {σ : ST} {r j m w : Nat} (h18 : σ.1 18 0 ≤ 8) (h7 : σ.1 7 0 ≤ 12) (hr : r < σ.1 18 0) (hj : j < σ.1 7 0) (hm : m ≤ 456975) (hw : w ≤ 999999) : cdRi σ (nI r) (nI j) (nI m) (nI w) = if ¬ σ.1 15 r = 2 ∨ σ.1 24 (12 * r + j) = 0 then 3 else 0 := by
  unfold cdRi
  rw [inN_nI (by omega), inN_nI (by omega), decide_eq_true hr, decide_eq_true hj, inR_nI (by omega) (by decide) (by decide), inR_nI (by omega) (by decide) (by decide), decide_eq_true (Nat.zero_le m), decide_eq_true hm, decide_eq_true (Nat.zero_le w), decide_eq_true hw, cl_nI (by omega), cl_nI (by omega)]
  rfl
theorem cdAn_k {σ : ST} {r j : Nat} (h18 : σ.1 18 0 ≤ 8) (h7 : σ.1 7 0 ≤ 12) (hr : r < σ.1 18 0) (hj : j < σ.1 7 0) : cdAn σ (nI r) (nI j) = if σ.1 26 (12 * r + j) = 0 then 2 else 0 := by
  unfold cdAn
  rw [inN_nI (by omega), inN_nI (by omega), decide_eq_true hr, decide_eq_true hj, cl_nI (by omega), cl_nI (by omega)]
  rfl
theorem cdPa_k {σ : ST} {r : Nat} (h18 : σ.1 18 0 ≤ 8) (hr : r < σ.1 18 0) : ¬ cdPa σ (nI r) = 1 := by
  unfold cdPa
  rw [inN_nI (by omega), decide_eq_true hr, if_neg (by decide)]
  split <;> decide
theorem cdHi_k {v : Nat} (h : v ≤ 65536) : cdHi (nI v) = 0 := by
  unfold cdHi
  rw [inR_nI (by omega) (by decide) (by decide), decide_eq_true (Nat.zero_le v), decide_eq_true h]
  rfl
theorem cdRk_k {v : Nat} (h : v ≤ 11) : cdRk (nI v) = 0 := by
  unfold cdRk
  rw [inR_nI (by omega) (by decide) (by decide), decide_eq_true (Nat.zero_le v), decide_eq_true h]
  rfl
theorem sh_nI {a p : Nat} (ha : a < 2 ^ 31) (hp : p < 31) : nI a >>> (nI p &&& 31) = nI (a / 2 ^ p) := pk_shrN ha (nI p &&& 31) p (by
  have : ∀ q, q < 32 → ((nI q &&& 31).toBitVec.smod 32).toNat = q := by decide
  exact this p (by omega))
/-! what a call leaves as it was, and what it tells -/
theorem en_f {σ : ST} {r j s0 w0 : Nat} : (∀ q, (enU σ r j s0 w0).1 15 q = σ.1 15 q) ∧ (enU σ r j s0 w0).1 17 r = σ.1 17 r + 1 ∧ (enU σ r j s0 w0).2 = σ.2 ∧ (enU σ r j s0 w0).1 18 0 = σ.1 18 0 ∧ (enU σ r j s0 w0).1 6 0 = σ.1 6 0 ∧ (enU σ r j s0 w0).1 7 0 = σ.1 7 0 := by
  refine ⟨fun q => ?_, ?_, rfl, ?_, ?_, ?_⟩ <;> (unfold enU; simp [uN])
theorem cl_f {σ : ST} {r : Nat} : (∀ s q, ¬ s = 15 → (clU σ r).1 s q = σ.1 s q) ∧ (clU σ r).1 15 r = 1 := by
  refine ⟨fun s q hs => ?_, if_pos ⟨rfl, rfl⟩⟩
  show (if s = 15 ∧ q = r then 1 else (clE σ r (σ.1 17 r)).1 s q) = _
  rw [if_neg (fun z => hs z.1), clE_1]
theorem drn_f {σ : ST} {r : Nat} : (∀ s q, ¬ (s = 15 ∨ s = 24 ∨ s = 30 ∨ s = 42) → (drnU σ r).1 s q = σ.1 s q) ∧ (drnU σ r).1 15 r = 2 := by
  refine ⟨fun s q hs => ?_, if_pos ⟨rfl, rfl⟩⟩
  show (if s = 15 ∧ q = r then 2 else (drP σ r (σ.1 11 r)).1 s q) = _
  rw [if_neg (fun z => hs (Or.inl z.1)), drP_N (by omega)]
theorem py_f {σ : ST} {r : Nat} : (∀ s q, ¬ (s = 15 ∨ s = 29) → (pyU σ r).1 s q = σ.1 s q) ∧ (pyU σ r).1 15 r = 3 := ⟨fun s q hs => pyU_N (by omega) (by omega), if_pos ⟨rfl, rfl⟩⟩
theorem py_22 {σ : ST} {r q : Nat} : (pyU σ r).2.1 22 q = σ.2.1 22 q := by
  have e1 : (pyE σ r (potS σ r) (grS σ r) (σ.1 17 r)).2 = σ.2 := pyE_R _
  show (if 22 = 16 ∧ q = r then lfE σ r (potS σ r) (grS σ r) (σ.1 17 r) else (pyE σ r (potS σ r) (grS σ r) (σ.1 17 r)).2.1 22 q) = _
  rw [if_neg (fun z => absurd z.1 (by decide)), e1]
theorem py_29 {c r : Nat} {σ : ST} (h : IJ c σ) (hr : r < σ.1 18 0) (h15 : σ.1 15 r = 2) (h0 : couN σ r = 0) : ∀ j, j < 12 → (pyU σ r).1 29 (12 * r + j) = 0 := by
  intro j hj
  rw [← SQ_pay0 h.1 hr h15]
  show (if 29 = 15 ∧ 12 * r + j = r then 3 else (gotU σ r 12).1 29 (12 * r + j)) = 0
  rw [if_neg (fun z => absurd z.1 (by decide)), gotU_29, if_pos (by omega)]
  unfold gotS
  rw [show 12 * r + (12 * r + j - 12 * r) = 12 * r + j by omega]
  refine if_pos (Classical.byContradiction (fun z => ?_))
  have := cou_pos hj z
  omega
theorem rid_f {σ : ST} {k b q w : Nat} {f : Bool} : (∀ s i, ¬ (s = 2 ∨ s = 3 ∨ s = 4 ∨ s = 24 ∨ s = 26 ∨ s = 27) → (ridU σ k b q w f).1 s i = σ.1 s i) ∧ (∀ s i, ¬ s = 28 → (ridU σ k b q w f).2.1 s i = σ.2.1 s i) ∧ (ridU σ k b q w f).1 2 b = σ.1 2 b + 1 ∧ (ridU σ k b q w f).1 3 b = σ.1 3 b + (if rcS w f then 0 else 1) ∧ (ridU σ k b q w f).2.1 28 k = if rcS w f then nI (mkA q) else nI 0 := by
  refine ⟨fun s i hs => ?_, fun s i hs => ?_, ?_, ?_, ?_⟩
  · unfold ridU
    simp only [uN, uR]
    rw [if_neg (by omega), if_neg (by omega), if_neg (by omega), if_neg (by omega), if_neg (by omega), if_neg (by omega)]
  · unfold ridU
    simp only [uN, uR]
    rw [if_neg (by omega)]
  · unfold ridU; simp [uN, uR]
  · unfold ridU; simp [uN, uR]
  · unfold ridU; simp [uN, uR]
/-- the re-ride's beast is another -/
theorem ans_ne {c r j : Nat} {σ : ST} (h : IJ c σ) (hr : r < σ.1 18 0) (hj : j < 12) (hn : ¬ σ.1 26 (12 * r + j) = 0) : ¬ (ansU σ r j true).2.1 23 (12 * r + j) = σ.2.1 23 (12 * r + j) := by
  have hE := h.2.1 r j hr hj
  have q28 := (hE.2.2.2.2.2.2.1 hn).2
  have q23 := hE.2.2.2.2.2.1 q28
  obtain ⟨b, hb, e23, hbit⟩ := (hE.2.2.1 q23).1
  obtain ⟨τ, ht⟩ : ∃ τ, τ = uN (uN (uR (uN σ 26 (12 * r + j) 0) 28 (12 * r + j) (-1)) 27 (12 * r + j) 0) 25 (12 * r + j) 1 := ⟨_, rfl⟩
  have hU : ansU σ r j true = drwU τ r j := by rw [ht]; rfl
  have tD : τ.2.2 = σ.2.2 := by rw [ht]; rfl
  have t6 : τ.1 6 0 = σ.1 6 0 := by rw [ht]; simp [uN, uR]
  have ed : dayS τ r j = dayS σ r j := by
    unfold dayS
    rw [ht]; simp [uN, uR]
  have h6 := h.1.B.1
  obtain ⟨v24, v23, -, f23, hv⟩ := drw_f2 (σ := τ) (r := r) (j := j) (by omega)
  rw [hU, f23, if_pos rfl]
  rcases hv with ⟨-, e, -⟩ | ⟨-, b0, hb0, e, hrest, -⟩
  · rw [e]; exact fun z => q23 z.symm
  · rw [e, e23]
    intro z
    have : b0 = b := (nI_eq (by omega) (by omega)).mp z
    have h2 := hrest (dayS τ r j) (Or.inl rfl)
    rw [this, tD, ed, hbit] at h2
    cases h2
theorem ans_f {σ : ST} {r j : Nat} {f : Bool} : (∀ s q, ¬ (s = 24 ∨ s = 25 ∨ s = 26 ∨ s = 27 ∨ s = 30 ∨ s = 42) → (ansU σ r j f).1 s q = σ.1 s q) ∧ (ansU σ r j f).1 26 (12 * r + j) = 0 ∧ (f = true → (ansU σ r j f).2.1 28 (12 * r + j) = -1) ∧ (f = false → (ansU σ r j f).2 = σ.2) := by
  cases f with
  | false =>
    refine ⟨fun s q hs => ?_, ?_, fun z => (by cases z), fun _ => rfl⟩
    · show (if s = 26 ∧ q = 12 * r + j then 0 else σ.1 s q) = _
      rw [if_neg (fun z => hs (by omega))]
    · exact if_pos ⟨rfl, rfl⟩
  | true =>
    obtain ⟨τ, ht⟩ : ∃ τ, τ = uN (uN (uR (uN σ 26 (12 * r + j) 0) 28 (12 * r + j) (-1)) 27 (12 * r + j) 0) 25 (12 * r + j) 1 := ⟨_, rfl⟩
    have hU : ansU σ r j true = drwU τ r j := by rw [ht]; rfl
    rw [hU]
    refine ⟨fun s q hs => ?_, ?_, fun _ => ?_, fun z => (by cases z)⟩
    · rw [drwU_N (by omega), ht]
      simp only [uN, uR]
      rw [if_neg (by omega), if_neg (by omega), if_neg (by omega)]
    · rw [drwU_N (by decide), ht]
      simp [uN, uR]
    · rw [drwU_R (by decide), ht]
      simp [uN, uR]
