/-! balances: the same sums, the same days -/
theorem smE_n {σ : ST} {r : Nat} : ∀ n, smE σ r n = σ.2.1 16 r + nI (fb_sm (fun e => σ.1 29 (12 * r + whS σ r e)) n)
  | 0 => by
    show σ.2.1 16 r = σ.2.1 16 r + nI 0
    rw [show nI 0 = (0 : Int32) from rfl, Int32.add_zero]
  | n + 1 => by
    show smE σ r n + nI (σ.1 29 (12 * r + whS σ r n)) = _
    rw [smE_n n, fb_sm_succ, ← nI_add, Int32.add_assoc]
theorem sumS_n {σ : ST} {r : Nat} : ∀ n, sumS σ r n = σ.2.1 16 r + nI (fb_sm (fun j => σ.1 29 (12 * r + j)) n)
  | 0 => by
    show σ.2.1 16 r = σ.2.1 16 r + nI 0
    rw [show nI 0 = (0 : Int32) from rfl, Int32.add_zero]
  | n + 1 => by
    show sumS σ r n + nI (σ.1 29 (12 * r + n)) = _
    rw [sumS_n n, fb_sm_succ, ← nI_add, Int32.add_assoc]
theorem bit_sl {w : Int64} {d : Nat} (hd : d < 64) : bitL (w <<< ((nI 1).toInt64 &&& 63)) d = (decide (1 ≤ d) && bitL w (d - 1)) := by
  have e2 : ((nI 1).toInt64 &&& 63).toBitVec.smod 64 = 1#64 := by decide
  unfold bitL
  rw [Int64.toBitVec_shiftLeft, e2]
  show (w.toBitVec <<< (1#64).toNat).getLsbD d = _
  rw [BitVec.getLsbD_shiftLeft, show (1#64).toNat = 1 from rfl, decide_eq_true hd, Bool.true_and]
  by_cases c : d < 1
  · simp [c, show ¬ 1 ≤ d by omega]
  · simp [c, show 1 ≤ d by omega]
theorem bit_sr {w : Int64} {d : Nat} (hd : d < 63) : bitL (w >>> ((1 : Int32).toInt64 &&& 63)) d = bitL w (d + 1) := by
  have e2 : ((1 : Int32).toInt64 &&& 63).toBitVec.smod 64 = 1#64 := by decide
  unfold bitL
  rw [Int64.toBitVec_shiftRight, e2]
  show (w.toBitVec.sshiftRight (1#64).toNat).getLsbD d = _
  rw [BitVec.getLsbD_sshiftRight, show (1#64).toNat = 1 from rfl]
  simp [show 1 + d < 64 by omega, show ¬ 64 ≤ d by omega, Nat.add_comm]; exact fun z => absurd hd (by omega)
theorem bit_an {w v : Int64} {d : Nat} : bitL (w &&& v) d = (bitL w d && bitL v d) := by
  unfold bitL
  rw [Int64.toBitVec_and, BitVec.getLsbD_and]
set_option maxRecDepth 100000 in
theorem bit_lo : ∀ d, d < 64 → bitL 9223372036854775807 d = decide (d < 63) := by decide +kernel
theorem day_har {w : Int64} : (w &&& (w <<< ((nI 1).toInt64 &&& 63)) = 0) ↔ ((w &&& (w >>> ((1 : Int32).toInt64 &&& 63))) &&& 9223372036854775807) = 0 := by
  rw [and_0, and_0]
  constructor
  · intro h d hd hb
    rw [bit_lo d hd, bit_an] at hb
    have hd3 : d < 63 := of_decide_eq_true hb.2
    rw [bit_sr hd3] at hb
    simp only [Bool.and_eq_true] at hb
    refine h (d + 1) (by omega) ⟨hb.1.2, ?_⟩
    rw [bit_sl (by omega), Nat.add_sub_cancel, hb.1.1, decide_eq_true (by omega)]
    rfl
  · intro h d hd hb
    rw [bit_sl hd] at hb
    simp only [Bool.and_eq_true, decide_eq_true_eq] at hb
    refine h (d - 1) (by omega) ⟨?_, by rw [bit_lo _ (by omega)]; exact decide_eq_true (by omega)⟩
    rw [bit_an, bit_sr (by omega), show d - 1 + 1 = d by omega, hb.1, hb.2.2]
    rfl
theorem allB_cong {p q : Nat → Bool} : ∀ {n : Nat}, (∀ k, k < n → p k = q k) → allB p n = allB q n
  | 0, _ => rfl
  | n + 1, h => by
    show (allB p n && p n) = (allB q n && q n)
    rw [allB_cong (fun k hk => h k (by omega)), h n (by omega)]
theorem RQ_balances {c : Nat} {σ : ST} (h : Inv c σ) : (allB (ieS σ) (σ.1 18 0) && allB (harS σ) (σ.1 6 0)) = balS (uN σ 0 0 0) := by
  have e : balS (uN σ 0 0 0) = balS σ := rfl
  rw [e]
  unfold balS
  congr 1
  · refine allB_cong (fun r hr => ?_)
    unfold ieS balR
    rw [smE_n, sumS_n, pm_sm h.W hr (fun j => σ.1 29 (12 * r + j)) (fun j hj hn => (h.D r j hr hj hn).2.2.2.2.2)]
  · refine allB_cong (fun b hb => ?_)
    unfold harS dayB
    rw [bcL_pop, h.pc b, decide_eq_true (rfl : nI (σ.1 42 b) = nI (σ.1 42 b)), Bool.true_and, Bool.eq_iff_iff, decide_eq_true_eq, decide_eq_true_eq]
    exact day_har
