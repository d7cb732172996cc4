/-! the count of the bits, as the class library counts them -/
theorem and_lane {a b c d : Nat} (hb : b < 256) (hd : d < 256) : (256 * a + b) &&& (256 * c + d) = 256 * (a &&& c) + (b &&& d) := by
  have hbd : (b &&& d) < 2 ^ 8 := Nat.lt_of_le_of_lt Nat.and_le_left hb
  apply Nat.eq_of_testBit_eq
  intro i
  have e : (256 : Nat) = 2 ^ 8 := rfl
  rw [Nat.testBit_and, e, Nat.testBit_two_pow_mul_add _ hb, Nat.testBit_two_pow_mul_add _ hd, Nat.testBit_two_pow_mul_add _ hbd]
  split
  · rw [Nat.testBit_and]
  · rw [Nat.testBit_and]
def vlB : List Nat → Nat
  | [] => 0
  | x :: l => 256 * vlB l + x
def f1B (x : Nat) : Nat := x - (x / 2 &&& 85)
def g2B (x : Nat) : Nat := (x &&& 51) + (x / 4 &&& 51)
def h3B (x : Nat) : Nat := (x + x / 16) &&& 15
def p8B (x : Nat) : Nat := h3B (g2B (f1B x))
def mkB8 (c : Nat) (l : List Nat) : Nat := vlB (l.map fun _ => c)
set_option maxRecDepth 100000 in
theorem l1_all : ∀ x, x < 256 → ∀ t, t < 2 → (128 * t + x / 2) &&& 85 = x / 2 &&& 85 := by decide +kernel
set_option maxRecDepth 100000 in
theorem l2_all : ∀ x, x < 256 → ∀ t, t < 4 → (64 * t + x / 4) &&& 51 = x / 4 &&& 51 := by decide +kernel
set_option maxRecDepth 100000 in
theorem l3_all : ∀ x, x < 69 → ∀ t, t < 5 → (16 * t + (x + x / 16)) &&& 15 = (x + x / 16) &&& 15 := by decide +kernel
set_option maxRecDepth 100000 in
theorem p8_all : ∀ x, x < 256 → f1B x < 256 ∧ g2B (f1B x) < 69 ∧ g2B (f1B x) % 16 < 5 ∧ g2B (f1B x) / 16 < 5 ∧ p8B x ≤ 8 ∧ p8B x = fb_ct (fun d => x.testBit d) 8 := by decide +kernel
