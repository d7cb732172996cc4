/-! the lanes -/
theorem s1B : ∀ l : List Nat, (∀ x ∈ l, x < 256) → vlB l - (vlB l / 2 &&& mkB8 85 l) = vlB (l.map f1B)
  | [], _ => rfl
  | x :: l, h => by
    have ih := s1B l (fun y hy => h y (List.mem_cons_of_mem _ hy))
    have hx := h x List.mem_cons_self
    show (256 * vlB l + x) - ((256 * vlB l + x) / 2 &&& (256 * mkB8 85 l + 85)) = 256 * vlB (l.map f1B) + f1B x
    rw [show (256 * vlB l + x) / 2 = 256 * (vlB l / 2) + (128 * (vlB l % 2) + x / 2) by omega, and_lane (by omega) (by decide), l1_all x hx _ (Nat.mod_lt _ (by decide)), ← ih]
    have h1 : (vlB l / 2 &&& mkB8 85 l) ≤ vlB l / 2 := Nat.and_le_left
    have h2 : (x / 2 &&& 85) ≤ x / 2 := Nat.and_le_left
    unfold f1B
    omega
theorem s2B : ∀ l : List Nat, (∀ x ∈ l, x < 256) → (vlB l &&& mkB8 51 l) + (vlB l / 4 &&& mkB8 51 l) = vlB (l.map g2B)
  | [], _ => rfl
  | x :: l, h => by
    have ih := s2B l (fun y hy => h y (List.mem_cons_of_mem _ hy))
    have hx := h x List.mem_cons_self
    show ((256 * vlB l + x) &&& (256 * mkB8 51 l + 51)) + ((256 * vlB l + x) / 4 &&& (256 * mkB8 51 l + 51)) = 256 * vlB (l.map g2B) + g2B x
    rw [show (256 * vlB l + x) / 4 = 256 * (vlB l / 4) + (64 * (vlB l % 4) + x / 4) by omega, and_lane hx (by decide), and_lane (by omega) (by decide), l2_all x hx _ (Nat.mod_lt _ (by decide)), ← ih]
    unfold g2B
    omega
theorem s3B : ∀ l : List Nat, (∀ x ∈ l, x < 69 ∧ x % 16 < 5) → (vlB l + vlB l / 16) &&& mkB8 15 l = vlB (l.map h3B)
  | [], _ => rfl
  | x :: l, h => by
    have ih := s3B l (fun y hy => h y (List.mem_cons_of_mem _ hy))
    have hx := h x List.mem_cons_self
    have hm : vlB l % 16 < 5 := by
      cases l with
      | nil => decide
      | cons y l =>
        have := h y (List.mem_cons_of_mem _ List.mem_cons_self)
        show (256 * vlB l + y) % 16 < 5
        omega
    show ((256 * vlB l + x) + (256 * vlB l + x) / 16) &&& (256 * mkB8 15 l + 15) = 256 * vlB (l.map h3B) + h3B x
    rw [show (256 * vlB l + x) + (256 * vlB l + x) / 16 = 256 * (vlB l + vlB l / 16) + (16 * (vlB l % 16) + (x + x / 16)) by omega, and_lane (by omega) (by decide), l3_all x hx.1 _ hm, ih]
    rfl
theorem sh_n {w : Int64} {c : UInt64} {k : Nat} (hk : (c.toBitVec % 64).toNat = k) : ((w.toUInt64 >>> c).toInt64).toBitVec.toNat = w.toBitVec.toNat / 2 ^ k := by
  have e : ((w.toUInt64 >>> c).toInt64).toBitVec = w.toBitVec >>> (c.toBitVec % 64) := rfl
  rw [e, BitVec.ushiftRight_eq', hk, BitVec.toNat_ushiftRight, Nat.shiftRight_eq_div_pow]
def tnB (w : Int64) : Nat := w.toBitVec.toNat
theorem tn_and {w v : Int64} : tnB (w &&& v) = tnB w &&& tnB v := by unfold tnB; rw [Int64.toBitVec_and, BitVec.toNat_and]
theorem tn_add {w v : Int64} (h : tnB w + tnB v < 2 ^ 64) : tnB (w + v) = tnB w + tnB v := by
  unfold tnB at h ⊢
  rw [Int64.toBitVec_add, BitVec.toNat_add, Nat.mod_eq_of_lt h]
theorem tn_sub {w v : Int64} (h : tnB v ≤ tnB w) : tnB (w - v) = tnB w - tnB v := by
  unfold tnB at h ⊢
  have h2 := w.toBitVec.isLt
  rw [Int64.toBitVec_sub, BitVec.toNat_sub, show 2 ^ 64 - v.toBitVec.toNat + w.toBitVec.toNat = (w.toBitVec.toNat - v.toBitVec.toNat) + 2 ^ 64 by omega, Nat.add_mod_right, Nat.mod_eq_of_lt (by omega)]
