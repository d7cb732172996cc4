/-! the bytes -/
def byB : Nat → Nat → List Nat
  | 0, _ => []
  | k + 1, n => n % 256 :: byB k (n / 256)
theorem byB_v : ∀ (k n : Nat), n < 256 ^ k → vlB (byB k n) = n
  | 0, n, h => by
    rw [Nat.pow_zero] at h
    show 0 = n
    omega
  | k + 1, n, h => by
    show 256 * vlB (byB k (n / 256)) + n % 256 = n
    rw [byB_v k (n / 256) (by rw [Nat.pow_succ] at h; exact Nat.div_lt_of_lt_mul (by rw [Nat.mul_comm]; exact h))]
    omega
theorem byB_lt : ∀ (k n : Nat), ∀ x ∈ byB k n, x < 256
  | 0, _, x, hx => by cases hx
  | k + 1, n, x, hx => by
    have hx : x ∈ n % 256 :: byB k (n / 256) := hx
    rcases List.mem_cons.mp hx with rfl | hx
    · exact Nat.mod_lt _ (by decide)
    · exact byB_lt k _ x hx
def smB : List Nat → Nat
  | [] => 0
  | x :: l => x + smB l
theorem byB_p : ∀ (k n : Nat), fb_ct (fun d => n.testBit d) (8 * k) = smB ((byB k n).map p8B)
  | 0, _ => rfl
  | k + 1, n => by
    show _ = p8B (n % 256) + smB ((byB k (n / 256)).map p8B)
    rw [← byB_p k (n / 256), (p8_all (n % 256) (Nat.mod_lt _ (by decide))).2.2.2.2.2, show 8 * (k + 1) = 8 + 8 * k by omega, fb_ct_split]
    congr 1
    · refine fb_ct_cong (fun d hd => ?_)
      rw [show (256 : Nat) = 2 ^ 8 from rfl, Nat.testBit_mod_two_pow, decide_eq_true hd, Bool.true_and]
    · refine fb_ct_cong (fun d hd => ?_)
      rw [show (256 : Nat) = 2 ^ 8 from rfl, Nat.testBit_div_two_pow]
      congr 1
      omega
theorem byB_ln : ∀ (k n : Nat), (byB k n).length = k
  | 0, _ => rfl
  | k + 1, n => congrArg (· + 1) (byB_ln k (n / 256))
theorem mkB8_l {c : Nat} : ∀ (l l' : List Nat), l.length = l'.length → mkB8 c l = mkB8 c l'
  | [], [], _ => rfl
  | [], _ :: _, h => by cases h
  | _ :: _, [], h => by cases h
  | _ :: l, _ :: l', h => by
    show 256 * mkB8 c l + c = 256 * mkB8 c l' + c
    rw [mkB8_l l l' (Nat.succ.inj h)]
theorem K85 {n : Nat} : mkB8 85 (byB 8 n) = tnB 6148914691236517205 := (mkB8_l _ [0, 0, 0, 0, 0, 0, 0, 0] (byB_ln 8 n)).trans (by decide +kernel)
theorem K51 {n : Nat} : mkB8 51 (byB 8 n) = tnB 3689348814741910323 := (mkB8_l _ [0, 0, 0, 0, 0, 0, 0, 0] (byB_ln 8 n)).trans (by decide +kernel)
theorem K15 {n : Nat} : mkB8 15 (byB 8 n) = tnB 1085102592571150095 := (mkB8_l _ [0, 0, 0, 0, 0, 0, 0, 0] (byB_ln 8 n)).trans (by decide +kernel)
theorem U51 : tnB 3689348814741910323 + tnB 3689348814741910323 < 2 ^ 63 := by decide +kernel
theorem st1B {w : Int64} : tnB (b1L w) = vlB ((byB 8 (tnB w)).map f1B) := by
  have hw : tnB w < 2 ^ 64 := w.toBitVec.isLt
  have e : tnB (((w).toUInt64 >>> ((nI 1).toInt64.toUInt64 &&& Int64.toUInt64 63)).toInt64 &&& 6148914691236517205) = (tnB w / 2 &&& mkB8 85 (byB 8 (tnB w))) := by
    rw [tn_and]
    have h1 := sh_n (w := w) (c := (nI 1).toInt64.toUInt64 &&& Int64.toUInt64 63) (k := 1) (by decide)
    unfold tnB
    rw [h1, K85]
    rfl
  unfold b1L
  rw [tn_sub (by rw [e]; exact Nat.le_trans Nat.and_le_left (Nat.div_le_self _ _)), e]
  have := s1B (byB 8 (tnB w)) (byB_lt 8 _)
  rw [byB_v 8 _ hw] at this
  exact this
theorem mp_lt {l : List Nat} {f : Nat → Nat} {P : Nat → Prop} (h : ∀ x ∈ l, P (f x)) : ∀ y ∈ l.map f, P y := by
  intro y hy
  obtain ⟨x, hx, rfl⟩ := List.mem_map.mp hy
  exact h x hx
theorem mkB8_m {c : Nat} {l : List Nat} {f : Nat → Nat} : mkB8 c (l.map f) = mkB8 c l := by unfold mkB8; rw [List.map_map]; rfl
theorem st2B {w : Int64} : tnB (b2L w) = vlB (((byB 8 (tnB w)).map f1B).map g2B) := by
  have e1 : tnB (b1L w &&& 3689348814741910323) = (tnB (b1L w) &&& mkB8 51 ((byB 8 (tnB w)).map f1B)) := by rw [tn_and, mkB8_m, K51]
  have e2 : tnB ((((b1L w).toUInt64 >>> ((nI 2).toInt64.toUInt64 &&& Int64.toUInt64 63)).toInt64) &&& 3689348814741910323) = (tnB (b1L w) / 4 &&& mkB8 51 ((byB 8 (tnB w)).map f1B)) := by
    rw [tn_and]
    have h1 := sh_n (w := b1L w) (c := (nI 2).toInt64.toUInt64 &&& Int64.toUInt64 63) (k := 2) (by decide)
    unfold tnB
    rw [h1, mkB8_m, K51]
    rfl
  have b1 : (tnB (b1L w) &&& mkB8 51 ((byB 8 (tnB w)).map f1B)) ≤ tnB 3689348814741910323 := by rw [mkB8_m, K51]; exact Nat.and_le_right
  have b2 : (tnB (b1L w) / 4 &&& mkB8 51 ((byB 8 (tnB w)).map f1B)) ≤ tnB 3689348814741910323 := by rw [mkB8_m, K51]; exact Nat.and_le_right
  unfold b2L
  rw [tn_add (by rw [e1, e2]; exact Nat.lt_of_le_of_lt (Nat.add_le_add b1 b2) (Nat.lt_trans U51 (by decide))), e1, e2, st1B]
  exact s2B _ (mp_lt (P := fun y => y < 256) (fun x hx => (p8_all x (byB_lt 8 _ x hx)).1))
theorem st3B {w : Int64} : tnB (b3L w) = vlB ((byB 8 (tnB w)).map p8B) := by
  have e1 : tnB (((b2L w).toUInt64 >>> ((nI 4).toInt64.toUInt64 &&& Int64.toUInt64 63)).toInt64) = tnB (b2L w) / 16 := sh_n (w := b2L w) (c := (nI 4).toInt64.toUInt64 &&& Int64.toUInt64 63) (k := 4) (by decide)
  have hl : ∀ y ∈ ((byB 8 (tnB w)).map f1B).map g2B, y < 69 ∧ y % 16 < 5 := by
    rw [List.map_map]
    exact mp_lt (P := fun y => y < 69 ∧ y % 16 < 5) (fun x hx => ⟨(p8_all x (byB_lt 8 _ x hx)).2.1, (p8_all x (byB_lt 8 _ x hx)).2.2.1⟩)
  have b2 : tnB (b2L w) < 2 ^ 63 := by
    have e1 : tnB (b1L w &&& 3689348814741910323) ≤ tnB 3689348814741910323 := by rw [tn_and]; exact Nat.and_le_right
    have e2 : tnB ((((b1L w).toUInt64 >>> ((nI 2).toInt64.toUInt64 &&& Int64.toUInt64 63)).toInt64) &&& 3689348814741910323) ≤ tnB 3689348814741910323 := by rw [tn_and]; exact Nat.and_le_right
    unfold b2L
    rw [tn_add (Nat.lt_of_le_of_lt (Nat.add_le_add e1 e2) (Nat.lt_trans U51 (by decide)))]
    exact Nat.lt_of_le_of_lt (Nat.add_le_add e1 e2) U51
  unfold b3L
  rw [tn_and, tn_add (by rw [e1]; omega), e1, st2B]
  have := s3B _ hl
  rw [mkB8_m, mkB8_m, K15] at this
  rw [show (byB 8 (tnB w)).map p8B = (((byB 8 (tnB w)).map f1B).map g2B).map h3B by rw [List.map_map, List.map_map]; rfl, ← this]
