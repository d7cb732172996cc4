/-! the bits of a word -/
theorem dvK {K a b : Nat} (h : a < K) : (a + K * b) / K = b := by rw [Nat.add_mul_div_left _ _ (by omega), Nat.div_eq_of_lt h, Nat.zero_add]
theorem tn_st {w : Int64} {c : UInt64} {k n m : Nat} (hk : (c.toBitVec % 64).toNat = k) (h : tnB w = n) (hm : n / 2 ^ k = m) (hs : n + m < 2 ^ 64) : tnB (w + (w.toUInt64 >>> c).toInt64) = n + m := by
  have h1 : tnB (w.toUInt64 >>> c).toInt64 = m := by
    have := sh_n (w := w) (c := c) hk
    unfold tnB at h ⊢
    rw [this, h, hm]
  rw [tn_add (by rw [h, h1]; exact hs), h, h1]
theorem b6_pop {w : Int64} {p0 p1 p2 p3 p4 p5 p6 p7 Y1 Y2 Y3 Y4 Y5 Y6 : Nat} (l0 : p0 ≤ 8) (l1 : p1 ≤ 8) (l2 : p2 ≤ 8) (l3 : p3 ≤ 8) (l4 : p4 ≤ 8) (l5 : p5 ≤ 8) (l6 : p6 ≤ 8) (l7 : p7 ≤ 8) (y6 : Y6 = 256 * p7 + p6) (y5 : Y5 = 256 * Y6 + p5) (y4 : Y4 = 256 * Y5 + p4) (y3 : Y3 = 256 * Y4 + p3) (y2 : Y2 = 256 * Y3 + p2) (y1 : Y1 = 256 * Y2 + p1) (h : tnB (b3L w) = 256 * Y1 + p0) : ∃ z, tnB (b6L w) = 256 * z + (p0 + p1 + p2 + p3 + p4 + p5 + p6 + p7) := by
  have u6 : Y6 ≤ 257 * 8 := by omega
  have u5 : Y5 ≤ 65793 * 8 := by omega
  have u4 : Y4 ≤ 16843009 * 8 := by omega
  have u3 : Y3 ≤ 4311810305 * 8 := by omega
  have u2 : Y2 ≤ 1103823438081 * 8 := by omega
  have u1 : Y1 ≤ 282578800148737 * 8 := by omega
  have k4 : tnB (b4L w) = 256 * Y1 + p0 + Y1 := by
    have := tn_st (w := b3L w) (c := (nI 8).toInt64.toUInt64 &&& Int64.toUInt64 63) (k := 8) (m := Y1) (by decide) h (by rw [Nat.add_comm (256 * Y1) p0]; exact dvK (by omega)) (by omega)
    exact this
  have k5 : tnB (b5L w) = 256 * Y1 + p0 + Y1 + (Y2 + Y3) := by
    have := tn_st (w := b4L w) (c := (nI 16).toInt64.toUInt64 &&& Int64.toUInt64 63) (k := 16) (m := Y2 + Y3) (by decide) k4 (by
      rw [show 256 * Y1 + p0 + Y1 = (p0 + p1 + 256 * p1 + 256 * p2) + 65536 * (Y2 + Y3) by omega]
      exact dvK (by omega)) (by omega)
    exact this
  have k6 : tnB (b6L w) = 256 * Y1 + p0 + Y1 + (Y2 + Y3) + (Y4 + Y5 + Y6 + p7) := by
    have := tn_st (w := b5L w) (c := (nI 32).toInt64.toUInt64 &&& Int64.toUInt64 63) (k := 32) (m := Y4 + Y5 + Y6 + p7) (by decide) k5 (by
      rw [show 256 * Y1 + p0 + Y1 + (Y2 + Y3) = ((p0 + p1 + p2 + p3) + 256 * (p1 + p2 + p3 + p4) + 65536 * (p2 + p3 + p4 + p5) + 16777216 * (p3 + p4 + p5 + p6)) + 4294967296 * (Y4 + Y5 + Y6 + p7) by omega]
      exact dvK (by omega)) (by omega)
    exact this
  exact ⟨Y1 + Y2 + Y3 + Y4 + Y5 + Y6 + p7, by omega⟩
theorem popN_sm {w : Int64} : popN w = smB ((byB 8 (tnB w)).map p8B) := byB_p 8 (tnB w)
theorem bcL_pop {w : Int64} : bcL w = nI (popN w) := by
  have hu : ∀ x ∈ (byB 8 (tnB w)).map p8B, x ≤ 8 := mp_lt (P := fun y => y ≤ 8) (fun x hx => (p8_all x (byB_lt 8 _ x hx)).2.2.2.2.1)
  have hv := st3B (w := w)
  have hs := popN_sm (w := w)
  obtain ⟨p0, p1, p2, p3, p4, p5, p6, p7, hL⟩ : ∃ p0 p1 p2 p3 p4 p5 p6 p7, (byB 8 (tnB w)).map p8B = [p0, p1, p2, p3, p4, p5, p6, p7] := ⟨_, _, _, _, _, _, _, _, rfl⟩
  rw [hL] at hu hv hs
  have l0 := hu p0 (by simp)
  have l1 := hu p1 (by simp)
  have l2 := hu p2 (by simp)
  have l3 := hu p3 (by simp)
  have l4 := hu p4 (by simp)
  have l5 := hu p5 (by simp)
  have l6 := hu p6 (by simp)
  have l7 := hu p7 (by simp)
  have hs : popN w = p0 + (p1 + (p2 + (p3 + (p4 + (p5 + (p6 + (p7 + 0))))))) := hs
  have hv : tnB (b3L w) = 256 * (256 * (256 * (256 * (256 * (256 * (256 * (256 * 0 + p7) + p6) + p5) + p4) + p3) + p2) + p1) + p0 := hv
  rw [Nat.mul_zero, Nat.zero_add] at hv
  obtain ⟨z, hz⟩ := b6_pop l0 l1 l2 l3 l4 l5 l6 l7 rfl rfl rfl rfl rfl rfl hv
  clear hv hu hL
  unfold bcL
  apply Int32.toBitVec_inj.mp
  apply BitVec.eq_of_toNat_eq
  have g1 : ((b6L w).toInt32 &&& nI 127).toBitVec = (b6L w).toInt32.toBitVec &&& 127#32 := rfl
  have g2 : (b6L w).toInt32.toBitVec.toNat = tnB (b6L w) % 2 ^ 32 := by
    show ((b6L w).toBitVec.signExtend 32).toNat = _
    rw [BitVec.signExtend_eq_setWidth_of_le _ (by decide), BitVec.toNat_setWidth]
    rfl
  have g3 : (nI (popN w)).toBitVec.toNat = popN w := by
    show (BitVec.ofNat 32 (popN w)).toNat = _
    rw [BitVec.toNat_ofNat, Nat.mod_eq_of_lt (by omega)]
  rw [g1, BitVec.toNat_and, g2, g3]
  show tnB (b6L w) % 2 ^ 32 &&& 2 ^ 7 - 1 = _
  rw [Nat.and_two_pow_sub_one_eq_mod, hz, hs]
  omega
