/-! specs: draws, rides, money, ranks -/
theorem RM_x {g : GP} {m : Nat → Nat} {M0 M : MM} {σ : ST} {k i v : Nat} (h : RM g m M0 σ M) (hk : 32 ≤ k) : RM g m M0 (uN σ k i v) M := by
  obtain ⟨h1, h2, h3⟩ := h
  refine ⟨?_, fun k' hk' => ?_, h3⟩
  · rw [h1]
    congr 3
    unfold mF uN
    simp [show ¬ (0 = k) by omega, show ¬ (6 = k) by omega, show ¬ (7 = k) by omega, show ¬ (18 = k) by omega, show ¬ (30 = k) by omega]
  · have := mK_lt hk'
    rw [h2 k' hk', mA_uN (by omega)]
def bitL (w : Int64) (d : Nat) : Bool := w.toBitVec.getLsbD d
def rest1 (w : Int64) (day i : Nat) : Bool := decide (day + i = 0) || decide (64 < day + i) || !bitL w (day + i - 1)
def restS (w : Int64) (day : Nat) : Bool := allB (rest1 w day) 3
def canS (σ : ST) (r day b : Nat) : Bool := decide (σ.1 1 b = σ.1 8 r) && restS (σ.2.2 b) day
/-- the t-th of those for which f holds, among the first n -/
def fndS (f : Nat → Bool) (t : Nat) : Nat → Int32
  | 0 => -1
  | n + 1 => if f n && decide (fb_ct f n = t) then nI n else fndS f t n
theorem fndS_some {f : Nat → Bool} {t : Nat} : ∀ {n : Nat}, t < fb_ct f n → ∃ b, b < n ∧ f b = true ∧ fb_ct f b = t ∧ fndS f t n = nI b
  | 0, h => absurd h (Nat.not_lt_zero _)
  | n + 1, h => by
    by_cases c : f n = true ∧ fb_ct f n = t
    · exact ⟨n, Nat.lt_succ_self n, c.1, c.2, by simp [fndS, c.1, c.2]⟩
    · have h2 : t < fb_ct f n := by
        rw [fb_ct_succ] at h
        cases hf : f n with
        | false => rw [hf] at h; simpa using h
        | true =>
          rw [hf] at h
          have : ¬ fb_ct f n = t := fun z => c ⟨hf, z⟩
          simp at h
          omega
      obtain ⟨b, h3, h4, h5, h6⟩ := fndS_some h2
      refine ⟨b, by omega, h4, h5, ?_⟩
      rw [← h6]
      have : (f n && decide (fb_ct f n = t)) = false := by
        cases hf : f n with
        | false => rfl
        | true => simp; exact fun z => c ⟨hf, z⟩
      simp [fndS, this]
def bitD (day : Nat) : Int64 := (1 : Int64) <<< ((nI day).toInt64 &&& 63)
def hidS (σ : ST) : Nat := (75 * σ.1 30 0 + 74) % 65537
def dayS (σ : ST) (r j : Nat) : Nat := σ.1 10 r + cl (σ.2.1 22 (12 * r + j))
def manS (σ : ST) (r day : Nat) : Nat := fb_ct (canS σ r day) (σ.1 6 0)
def drwF (σ : ST) (r day : Nat) : Int32 := if manS σ r day = 0 then -1 else fndS (canS σ r day) (hidS σ % manS σ r day) (σ.1 6 0)
def drwU (σ : ST) (r j : Nat) : ST :=
  if manS σ r (dayS σ r j) = 0 then uN (uR σ 23 (12 * r + j) (-1)) 24 (12 * r + j) 0
  else uN (uN (uR (uD (uN σ 30 0 (hidS σ)) (cl (drwF σ r (dayS σ r j))) (σ.2.2 (cl (drwF σ r (dayS σ r j))) ||| bitD (dayS σ r j))) 23 (12 * r + j) (drwF σ r (dayS σ r j))) 24 (12 * r + j) 1) 42 (cl (drwF σ r (dayS σ r j))) (σ.1 42 (cl (drwF σ r (dayS σ r j))) + 1)
def drE (σ : ST) (r p : Nat) : Nat → ST
  | 0 => σ
  | e + 1 => if (drE σ r p e).2.1 22 (12 * r + (drE σ r p e).1 19 (12 * r + e)) = nI p then drwU (drE σ r p e) r ((drE σ r p e).1 19 (12 * r + e)) else drE σ r p e
def drP (σ : ST) (r : Nat) : Nat → ST
  | 0 => σ
  | p + 1 => drE (drP σ r p) r p (σ.1 17 r)
def drnU (σ : ST) (r : Nat) : ST := uN (drP σ r (σ.1 11 r)) 15 r 2
def beaN (σ : ST) (r : Nat) : Nat := fb_ct (fun j => decide (¬ σ.2.1 23 (12 * r + j) = -1)) 12
-- rides: marks a number to the base 26, watches to the base 1000
def mkA (x0 : Nat) : Nat := x0 % 26 + x0 / 26 % 26 + x0 / 676 % 26 + x0 / 17576
def mkB (x0 : Nat) : Nat := x0 / 26 % 26 + x0 / 17576
def rcS (w : Nat) (f : Bool) : Bool := !f && decide (1600 ≤ w / 1000 + w % 1000)
def ridU (σ : ST) (k b mk w : Nat) (f : Bool) : ST :=
  uN (uR (uN (uN (uN (uN (uN σ 2 b (σ.1 2 b + 1)) 3 b (σ.1 3 b + (if rcS w f then 0 else 1))) 4 b (σ.1 4 b + mkB mk)) 24 k 0) 27 k (bz (rcS w f))) 28 k (if rcS w f then nI (mkA mk) else nI 0)) 26 k (bz (rcS w f && decide (mkB mk < 20) && decide (σ.1 25 k = 0)))
def ansU (σ : ST) (r j : Nat) (t : Bool) : ST :=
  if t then drwU (uN (uN (uR (uN σ 26 (12 * r + j) 0) 28 (12 * r + j) (-1)) 27 (12 * r + j) 0) 25 (12 * r + j) 1) r j else uN σ 26 (12 * r + j) 0
-- beasts' ranks
def ahdS (σ : ST) (b o : Nat) : Bool := if ¬ σ.1 3 b * σ.1 2 o = σ.1 3 o * σ.1 2 b then decide (σ.1 3 o * σ.1 2 b < σ.1 3 b * σ.1 2 o) else if ¬ σ.1 4 b * σ.1 2 o = σ.1 4 o * σ.1 2 b then decide (σ.1 4 o * σ.1 2 b < σ.1 4 b * σ.1 2 o) else decide (b < o)
def rkbS (σ : ST) (b : Nat) : Int32 := if σ.1 2 b = 0 then -1 else nI (fb_ct (fun o => decide (¬ o = b) && decide (0 < σ.1 2 o) && ahdS σ o b) (σ.1 6 0))
def toldS (σ : ST) (b : Nat) (y : Int32) : Int32 := if y = 0 then nI (σ.1 1 b) else if y = 1 then nI (σ.1 2 b) else if y = 2 then nI (σ.1 3 b) else if y = 3 then nI (σ.1 4 b) else rkbS σ b
-- money
def payB (σ : ST) (r : Nat) : Bool := decide (σ.1 15 r = 2) && allB (fun j => decide (σ.1 24 (12 * r + j) = 0) && decide (σ.1 26 (12 * r + j) = 0)) 12
def shS (pot a0 b0 : Nat) : Nat := fb_sm (fun i => pot * (50 - 10 * (a0 + i)) / 100) (min b0 4 + 1 - a0)
def couN (σ : ST) (r : Nat) : Nat := fb_ct (fun j => decide (¬ σ.1 27 (12 * r + j) = 0)) 12
def betS (σ : ST) (r : Nat) (v : Int32) : Nat := fb_ct (fun e => decide (¬ σ.1 27 (12 * r + e) = 0) && decide (v < σ.2.1 28 (12 * r + e))) 12
def likS (σ : ST) (r : Nat) (v : Int32) : Nat := fb_ct (fun e => decide (¬ σ.1 27 (12 * r + e) = 0) && decide (σ.2.1 28 (12 * r + e) = v)) 12
def gotS (σ : ST) (r j : Nat) : Nat := if σ.1 27 (12 * r + j) = 0 then 0 else
  shS (potS σ r) (betS σ r (σ.2.1 28 (12 * r + j)) + 1) (betS σ r (σ.2.1 28 (12 * r + j)) + likS σ r (σ.2.1 28 (12 * r + j))) / likS σ r (σ.2.1 28 (12 * r + j)) + shS (potS σ r) (couN σ r + 1) 4 / couN σ r
def gotU (σ : ST) (r : Nat) : Nat → ST
  | 0 => σ
  | j + 1 => uN (gotU σ r j) 29 (12 * r + j) (gotS σ r j)
def lefS (σ : ST) (r : Nat) : Nat → Int32
  | 0 => nI (potS σ r)
  | j + 1 => lefS σ r j - nI (gotS σ r j)
def payU (σ : ST) (r : Nat) : ST := uN (uR (gotU σ r 12) 16 r (lefS σ r 12)) 15 r 3
def allS (σ : ST) (j : Nat) : Nat := fb_sm (fun r => σ.1 29 (12 * r + j)) (σ.1 18 0)
def ahrS (σ : ST) (j r : Nat) : Nat := fb_ct (fun o => decide (σ.1 29 (12 * r + j) < σ.1 29 (12 * o + j)) || (decide (σ.1 29 (12 * o + j) = σ.1 29 (12 * r + j)) && decide (o < r))) (σ.1 18 0)
def cntS (σ : ST) (j : Nat) : Nat := fb_sm (fun r => if ahrS σ j r < 3 then σ.1 29 (12 * r + j) else 0) (σ.1 18 0)
def btrS (σ : ST) (a0 b0 : Nat) : Bool := if ¬ cntS σ a0 = cntS σ b0 then decide (cntS σ b0 < cntS σ a0) else if ¬ allS σ a0 = allS σ b0 then decide (allS σ b0 < allS σ a0) else decide (a0 < b0)
def rkrS (σ : ST) (k : Nat) : Nat := fb_ct (fun e => decide (¬ e = k) && btrS σ e k) (σ.1 7 0)
def rdrS (σ : ST) (x0 : Int32) : Nat → Int32
  | 0 => -1
  | k + 1 => if nI (rkrS σ k) = x0 then nI k else rdrS σ x0 k
def sumS (σ : ST) (r : Nat) : Nat → Int32
  | 0 => σ.2.1 16 r
  | j + 1 => sumS σ r j + nI (σ.1 29 (12 * r + j))
def balR (σ : ST) (r : Nat) : Bool := decide (¬ σ.1 15 r = 3) || decide (sumS σ r 12 = nI (potS σ r))
def dayB (σ : ST) (b : Nat) : Bool := decide (((σ.2.2 b &&& (σ.2.2 b >>> ((1 : Int32).toInt64 &&& 63))) &&& 9223372036854775807) = 0)
def balS (σ : ST) : Bool := allB (balR σ) (σ.1 18 0) && allB (dayB σ) (σ.1 6 0)
-- the codes of the exceptions
def cdRR (σ : ST) (x0 y0 : Int32) : Nat := if inN x0 (σ.1 18 0) && inN y0 (σ.1 7 0) then 0 else 1
def cdBe (σ : ST) (x0 : Int32) : Nat := if inR x0 (nI 0) (nI 1) = false then 1 else if σ.1 6 0 = 16 then 2 else 0
def cdRd (σ : ST) : Nat := if σ.1 7 0 = 12 then 1 else 0
def okRo (a0 a1 a2 a3 a4 a5 a6 : Int32) : Bool := (inR a0 (nI 0) (nI 1) && inR a1 (nI 0) (nI 2000) && inR a2 (nI 0) (nI 60) && inR a3 (nI 1) (nI 4)) && (inR a4 (nI 1) (nI 4) && inR a5 (nI 0) (nI 99999) && inR a6 (nI 0) (nI 999))
def cdRo (σ : ST) (a0 a1 a2 a3 a4 a5 a6 : Int32) : Nat := if okRo a0 a1 a2 a3 a4 a5 a6 = false then 1 else if σ.1 18 0 = 8 then 2 else 0
def cdRI (σ : ST) (x0 y0 : Int32) : Nat := if inN x0 (σ.1 18 0) = false then 1 else if inR y0 (nI 0) (nI 4) = false then 2 else 0
def mayE (σ : ST) (x0 s0 w0 : Int32) : Bool := decide (0 < s0) && decide (s0 < nI 1 <<< (nI (σ.1 11 (cl x0)) &&& 31)) && inR w0 (nI 0) (nI 3) && decide ((s0 >>> (w0 &&& 31)) &&& nI 1 = nI 1)
def cdEn (σ : ST) (x0 y0 s0 w0 : Int32) : Nat := if (inN x0 (σ.1 18 0) && inN y0 (σ.1 7 0)) = false then 1 else if mayE σ x0 s0 w0 = false then 2 else if ¬ σ.1 15 (cl x0) = 0 ∨ hasE σ (cl x0) (cl y0) = true then 3 else 0
def cdSt (σ : ST) (x0 : Int32) (v : Nat) : Nat := if inN x0 (σ.1 18 0) = false then 1 else if ¬ σ.1 15 (cl x0) = v then 2 else 0
def cdMo (σ : ST) (x0 : Int32) : Nat := if inN x0 (σ.1 18 0) then 0 else 1
def cdHi (x0 : Int32) : Nat := if inR x0 (nI 0) (nI 65536) then 0 else 1
def cdRi (σ : ST) (x0 y0 mk w : Int32) : Nat := if (inN x0 (σ.1 18 0) && inN y0 (σ.1 7 0)) = false then 1 else if (inR mk (nI 0) (nI 456975) && inR w (nI 0) (nI 999999)) = false then 2 else if ¬ σ.1 15 (cl x0) = 2 ∨ σ.1 24 (12 * cl x0 + cl y0) = 0 then 3 else 0
def cdAn (σ : ST) (x0 y0 : Int32) : Nat := if (inN x0 (σ.1 18 0) && inN y0 (σ.1 7 0)) = false then 1 else if σ.1 26 (12 * cl x0 + cl y0) = 0 then 2 else 0
def cdBI (σ : ST) (x0 y0 : Int32) : Nat := if inN x0 (σ.1 6 0) = false then 1 else if inR y0 (nI 0) (nI 4) = false then 2 else 0
def cdPa (σ : ST) (x0 : Int32) : Nat := if inN x0 (σ.1 18 0) = false then 1 else if payB σ (cl x0) = false then 2 else 0
def cdCo (σ : ST) (x0 : Int32) : Nat := if inN x0 (σ.1 7 0) then 0 else 1
def cdRk (x0 : Int32) : Nat := if inR x0 (nI 0) (nI 11) then 0 else 1
-- new states of the calls that write
def beU (σ : ST) (x0 : Int32) : ST := uN (uN σ 1 (σ.1 6 0) (cl x0)) 6 0 (σ.1 6 0 + 1)
def rdU (σ : ST) : ST := uN σ 7 0 (σ.1 7 0 + 1)
def roA (σ : ST) (q : Nat) (a0 a1 a2 a3 a4 a5 a6 : Int32) : ST := uN (uN (uN (uN (uN (uN (uN σ 8 q (cl a0)) 9 q (cl a1)) 10 q (cl a2)) 11 q (cl a3)) 12 q (cl a4)) 13 q (cl a5)) 14 q (cl a6)
def roB (σ : ST) (q : Nat) : Nat → ST
  | 0 => σ
  | j + 1 => uR (uR (uR (roB σ q j) 22 (12 * q + j) (-1)) 23 (12 * q + j) (-1)) 28 (12 * q + j) (-1)
def roU (σ : ST) (a0 a1 a2 a3 a4 a5 a6 : Int32) : ST := uN (roB (roA σ (σ.1 18 0) a0 a1 a2 a3 a4 a5 a6) (σ.1 18 0) 12) 18 0 (σ.1 18 0 + 1)
def enU (σ : ST) (r j s0 w0 : Nat) : ST := uN (uN (uN (uN (uN σ 19 (12 * r + σ.1 17 r) j) 20 (12 * r + j) s0) 21 (12 * r + j) w0) 17 r (σ.1 17 r + 1)) 41 (12 * r + j) 1
def clE (σ : ST) (r : Nat) : Nat → ST
  | 0 => σ
  | e + 1 => plU (clE σ r e) r ((clE σ r e).1 19 (12 * r + e))
def clU (σ : ST) (r : Nat) : ST := uN (clE σ r (σ.1 17 r)) 15 r 1
