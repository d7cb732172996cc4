/-! stores into the component's objects -/
section CC
variable {g : GP} {A : Nat → Nat} {σ σ' : ST}
theorem cV_congr {c : Nat} (h6 : σ'.1 6 0 = σ.1 6 0) (h18 : σ'.1 18 0 = σ.1 18 0) (h17 : ∀ r, σ'.1 17 r = σ.1 17 r) (h19 : ∀ q, σ'.1 19 q = σ.1 19 q) (h41 : ∀ q, σ'.1 41 q = σ.1 41 q)
    (h0 : c = 0 → σ'.1 7 0 = σ.1 7 0 ∧ σ'.1 30 0 = σ.1 30 0) (hb : ∀ b, c = 10 + b → beF σ' b = beF σ b) (hr : ∀ r, c = 30 + r → roF A σ' r = roF A σ r) (he : ∀ k, c = 100 + k → enF A σ' k = enF A σ k) : cV g A σ' c = cV g A σ c := by
  have hw : ∀ r, whA A σ' r = whA A σ r := fun r => by funext e; unfold whA; rw [h19]
  have hy : ∀ r, byV g A σ' r = byV g A σ r := fun r => by unfold byV; simp only [h41]
  unfold cV
  rw [h6, h18]
  by_cases c0 : c = 0
  · rw [if_pos c0, if_pos c0, (h0 c0).1, (h0 c0).2]
  rw [if_neg c0, if_neg c0]
  by_cases c1 : c = 1
  · rw [if_pos c1, if_pos c1]
  rw [if_neg c1, if_neg c1]
  by_cases c2 : c = 2
  · rw [if_pos c2, if_pos c2]
  rw [if_neg c2, if_neg c2]
  by_cases c3 : c = 3
  · rw [if_pos c3, if_pos c3]
  rw [if_neg c3, if_neg c3]
  by_cases c4 : c = 4
  · rw [if_pos c4, if_pos c4]
  rw [if_neg c4, if_neg c4]
  by_cases c5 : c < 30
  · rw [if_pos c5, if_pos c5]
    by_cases c6 : 10 ≤ c
    · rw [if_pos c6, if_pos c6, hb (c - 10) (by omega)]
    · rw [if_neg c6, if_neg c6]
  rw [if_neg c5, if_neg c5]
  by_cases c6 : c < 40
  · rw [if_pos c6, if_pos c6, hr (c - 30) (by omega)]
  rw [if_neg c6, if_neg c6]
  by_cases c7 : c < 50
  · rw [if_pos c7, if_pos c7, h17]
  rw [if_neg c7, if_neg c7]
  by_cases c8 : c < 60
  · rw [if_pos c8, if_pos c8, h17, hw]
  rw [if_neg c8, if_neg c8]
  by_cases c9 : c < 100
  · rw [if_pos c9, if_pos c9, hy]
  rw [if_neg c9, if_neg c9, he (c - 100) (by omega)]
end CC
section CX
variable {K : KX} {g : GP} {cc : ByteArray} {own : String} {nL : Nat} {ret : Option FieldType} {hh : List (Nat × Nat × Nat × Nat)} {fr lo mc ms : Nat} {Q : State → Prop} {M M0 : MM} {a b pc : Nat} {L : List (Nat × Value)} {st : List Value} {A : Nat → Nat} {σ : ST}
theorem x_pX1_3 (F : Fx K g cc own nL ret hh fr lo mc ms) (hR : CM g A M0 σ M) {idx : Nat} {k : Nat} (he : σ.1 41 k = 1) (hk : k < 96) {v : Int32} (s : FP own idx 2 3 RX1 TX1 11 .int) (d : decode cc pc = .ok (.putfield idx, 3)) (kk : ∀ M', CM g A M0 (uR σ 22 k v) M' → XW K g nL Q M' a b (pc + 3) L st) : XW K g nL Q M a b pc L (.int v :: .ref (A (100 + k)) :: st) := by
  refine x_fput F s (hR.e he hk) rfl d rfl rfl (Nat.le_of_ble_eq_true rfl) (kk _ ?_)
  refine CM.put (c := 100 + k) hR (lv_e he hk) ?_ lv_uR (fun c' hc => cV_congr rfl rfl (fun _ => rfl) (fun _ => rfl) (fun _ => rfl) (fun z => ⟨rfl, rfl⟩) (fun b9 z => rfl) (fun r9 z => rfl) (fun k9 z => ?_))
  · rw [cV_e]; simp [enF, uR]
  · have e : ¬ k9 = k := fun y => hc (by rw [z, y])
    simp [enF, uR, e]
theorem x_pX1_4 (F : Fx K g cc own nL ret hh fr lo mc ms) (hR : CM g A M0 σ M) {idx : Nat} {k : Nat} (he : σ.1 41 k = 1) (hk : k < 96) {v : Nat} (hv : v < 2 ^ 31) (s : FP own idx 2 4 RX1 TX1 11 (.object "RankStock$Beast")) (d : decode cc pc = .ok (.putfield idx, 3)) (kk : ∀ M', CM g A M0 (uR σ 23 k (nI v)) M' → XW K g nL Q M' a b (pc + 3) L st) : XW K g nL Q M a b pc L (.ref (A (10 + v)) :: .ref (A (100 + k)) :: st) := by
  refine x_fput F s (hR.e he hk) rfl d rfl rfl (Nat.le_of_ble_eq_true rfl) (kk _ ?_)
  refine CM.put (c := 100 + k) hR (lv_e he hk) ?_ lv_uR (fun c' hc => cV_congr rfl rfl (fun _ => rfl) (fun _ => rfl) (fun _ => rfl) (fun z => ⟨rfl, rfl⟩) (fun b9 z => rfl) (fun r9 z => rfl) (fun k9 z => ?_))
  · rw [cV_e]; simp [enF, uR, enB, cl_nI hv, nI_m1 hv, va_rf]
  · have e : ¬ k9 = k := fun y => hc (by rw [z, y])
    simp [enF, uR, e]
theorem x_pX1_4N (F : Fx K g cc own nL ret hh fr lo mc ms) (hR : CM g A M0 σ M) {idx : Nat} {k : Nat} (he : σ.1 41 k = 1) (hk : k < 96)  (s : FP own idx 2 4 RX1 TX1 11 (.object "RankStock$Beast")) (d : decode cc pc = .ok (.putfield idx, 3)) (kk : ∀ M', CM g A M0 (uR σ 23 k (-1)) M' → XW K g nL Q M' a b (pc + 3) L st) : XW K g nL Q M a b pc L (.null :: .ref (A (100 + k)) :: st) := by
  refine x_fput F s (hR.e he hk) rfl d rfl rfl (Nat.le_of_ble_eq_true rfl) (kk _ ?_)
  refine CM.put (c := 100 + k) hR (lv_e he hk) ?_ lv_uR (fun c' hc => cV_congr rfl rfl (fun _ => rfl) (fun _ => rfl) (fun _ => rfl) (fun z => ⟨rfl, rfl⟩) (fun b9 z => rfl) (fun r9 z => rfl) (fun k9 z => ?_))
  · rw [cV_e]; simp [enF, uR, enB, va_rf]
  · have e : ¬ k9 = k := fun y => hc (by rw [z, y])
    simp [enF, uR, e]
theorem x_pX1_5 (F : Fx K g cc own nL ret hh fr lo mc ms) (hR : CM g A M0 σ M) {idx : Nat} {k : Nat} (he : σ.1 41 k = 1) (hk : k < 96) {v : Nat} (hv : v ≤ 1) (s : FP own idx 2 5 RX1 TX1 11 .boolean) (d : decode cc pc = .ok (.putfield idx, 3)) (kk : ∀ M', CM g A M0 (uN σ 24 k v) M' → XW K g nL Q M' a b (pc + 3) L st) : XW K g nL Q M a b pc L (.int (nI v) :: .ref (A (100 + k)) :: st) := by
  refine x_fput F s (hR.e he hk) rfl d (by rcases (show v = 0 ∨ v = 1 by omega) with rfl | rfl <;> rfl) (by rcases (show v = 0 ∨ v = 1 by omega) with rfl | rfl <;> rfl) (Nat.le_of_ble_eq_true rfl) (kk _ ?_)
  refine CM.put (c := 100 + k) hR (lv_e he hk) ?_ (lv_uN (by decide)) (fun c' hc => cV_congr rfl rfl (fun _ => rfl) (fun _ => rfl) (fun _ => rfl) (fun z => ⟨rfl, rfl⟩) (fun b9 z => rfl) (fun r9 z => rfl) (fun k9 z => ?_))
  · rw [cV_e]; simp [enF, uN]
  · have e : ¬ k9 = k := fun y => hc (by rw [z, y])
    simp [enF, uN, e]
theorem x_pX1_6 (F : Fx K g cc own nL ret hh fr lo mc ms) (hR : CM g A M0 σ M) {idx : Nat} {k : Nat} (he : σ.1 41 k = 1) (hk : k < 96) {v : Nat} (hv : v ≤ 1) (s : FP own idx 2 6 RX1 TX1 11 .boolean) (d : decode cc pc = .ok (.putfield idx, 3)) (kk : ∀ M', CM g A M0 (uN σ 25 k v) M' → XW K g nL Q M' a b (pc + 3) L st) : XW K g nL Q M a b pc L (.int (nI v) :: .ref (A (100 + k)) :: st) := by
  refine x_fput F s (hR.e he hk) rfl d (by rcases (show v = 0 ∨ v = 1 by omega) with rfl | rfl <;> rfl) (by rcases (show v = 0 ∨ v = 1 by omega) with rfl | rfl <;> rfl) (Nat.le_of_ble_eq_true rfl) (kk _ ?_)
  refine CM.put (c := 100 + k) hR (lv_e he hk) ?_ (lv_uN (by decide)) (fun c' hc => cV_congr rfl rfl (fun _ => rfl) (fun _ => rfl) (fun _ => rfl) (fun z => ⟨rfl, rfl⟩) (fun b9 z => rfl) (fun r9 z => rfl) (fun k9 z => ?_))
  · rw [cV_e]; simp [enF, uN]
  · have e : ¬ k9 = k := fun y => hc (by rw [z, y])
    simp [enF, uN, e]
theorem x_pX1_7 (F : Fx K g cc own nL ret hh fr lo mc ms) (hR : CM g A M0 σ M) {idx : Nat} {k : Nat} (he : σ.1 41 k = 1) (hk : k < 96) {v : Nat} (hv : v ≤ 1) (s : FP own idx 2 7 RX1 TX1 11 .boolean) (d : decode cc pc = .ok (.putfield idx, 3)) (kk : ∀ M', CM g A M0 (uN σ 26 k v) M' → XW K g nL Q M' a b (pc + 3) L st) : XW K g nL Q M a b pc L (.int (nI v) :: .ref (A (100 + k)) :: st) := by
  refine x_fput F s (hR.e he hk) rfl d (by rcases (show v = 0 ∨ v = 1 by omega) with rfl | rfl <;> rfl) (by rcases (show v = 0 ∨ v = 1 by omega) with rfl | rfl <;> rfl) (Nat.le_of_ble_eq_true rfl) (kk _ ?_)
  refine CM.put (c := 100 + k) hR (lv_e he hk) ?_ (lv_uN (by decide)) (fun c' hc => cV_congr rfl rfl (fun _ => rfl) (fun _ => rfl) (fun _ => rfl) (fun z => ⟨rfl, rfl⟩) (fun b9 z => rfl) (fun r9 z => rfl) (fun k9 z => ?_))
  · rw [cV_e]; simp [enF, uN]
  · have e : ¬ k9 = k := fun y => hc (by rw [z, y])
    simp [enF, uN, e]
theorem x_pX1_8 (F : Fx K g cc own nL ret hh fr lo mc ms) (hR : CM g A M0 σ M) {idx : Nat} {k : Nat} (he : σ.1 41 k = 1) (hk : k < 96) {v : Nat} (hv : v ≤ 1) (s : FP own idx 2 8 RX1 TX1 11 .boolean) (d : decode cc pc = .ok (.putfield idx, 3)) (kk : ∀ M', CM g A M0 (uN σ 27 k v) M' → XW K g nL Q M' a b (pc + 3) L st) : XW K g nL Q M a b pc L (.int (nI v) :: .ref (A (100 + k)) :: st) := by
  refine x_fput F s (hR.e he hk) rfl d (by rcases (show v = 0 ∨ v = 1 by omega) with rfl | rfl <;> rfl) (by rcases (show v = 0 ∨ v = 1 by omega) with rfl | rfl <;> rfl) (Nat.le_of_ble_eq_true rfl) (kk _ ?_)
  refine CM.put (c := 100 + k) hR (lv_e he hk) ?_ (lv_uN (by decide)) (fun c' hc => cV_congr rfl rfl (fun _ => rfl) (fun _ => rfl) (fun _ => rfl) (fun z => ⟨rfl, rfl⟩) (fun b9 z => rfl) (fun r9 z => rfl) (fun k9 z => ?_))
  · rw [cV_e]; simp [enF, uN]
  · have e : ¬ k9 = k := fun y => hc (by rw [z, y])
    simp [enF, uN, e]
theorem x_pX1_9 (F : Fx K g cc own nL ret hh fr lo mc ms) (hR : CM g A M0 σ M) {idx : Nat} {k : Nat} (he : σ.1 41 k = 1) (hk : k < 96) {v : Int32} (s : FP own idx 2 9 RX1 TX1 11 .int) (d : decode cc pc = .ok (.putfield idx, 3)) (kk : ∀ M', CM g A M0 (uR σ 28 k v) M' → XW K g nL Q M' a b (pc + 3) L st) : XW K g nL Q M a b pc L (.int v :: .ref (A (100 + k)) :: st) := by
  refine x_fput F s (hR.e he hk) rfl d rfl rfl (Nat.le_of_ble_eq_true rfl) (kk _ ?_)
  refine CM.put (c := 100 + k) hR (lv_e he hk) ?_ lv_uR (fun c' hc => cV_congr rfl rfl (fun _ => rfl) (fun _ => rfl) (fun _ => rfl) (fun z => ⟨rfl, rfl⟩) (fun b9 z => rfl) (fun r9 z => rfl) (fun k9 z => ?_))
  · rw [cV_e]; simp [enF, uR]
  · have e : ¬ k9 = k := fun y => hc (by rw [z, y])
    simp [enF, uR, e]
theorem x_pX1_10 (F : Fx K g cc own nL ret hh fr lo mc ms) (hR : CM g A M0 σ M) {idx : Nat} {k : Nat} (he : σ.1 41 k = 1) (hk : k < 96) {v : Nat} (s : FP own idx 2 10 RX1 TX1 11 .int) (d : decode cc pc = .ok (.putfield idx, 3)) (kk : ∀ M', CM g A M0 (uN σ 29 k v) M' → XW K g nL Q M' a b (pc + 3) L st) : XW K g nL Q M a b pc L (.int (nI v) :: .ref (A (100 + k)) :: st) := by
  refine x_fput F s (hR.e he hk) rfl d rfl rfl (Nat.le_of_ble_eq_true rfl) (kk _ ?_)
  refine CM.put (c := 100 + k) hR (lv_e he hk) ?_ (lv_uN (by decide)) (fun c' hc => cV_congr rfl rfl (fun _ => rfl) (fun _ => rfl) (fun _ => rfl) (fun z => ⟨rfl, rfl⟩) (fun b9 z => rfl) (fun r9 z => rfl) (fun k9 z => ?_))
  · rw [cV_e]; simp [enF, uN]
  · have e : ¬ k9 = k := fun y => hc (by rw [z, y])
    simp [enF, uN, e]
theorem x_pX0_2 (F : Fx K g cc own nL ret hh fr lo mc ms) (hR : CM g A M0 σ M) {idx : Nat} {i : Nat} (hi : i < σ.1 6 0) (h6 : i < 16) {v : Nat} (s : FP own idx 1 2 RX0 TX0 7 .int) (d : decode cc pc = .ok (.putfield idx, 3)) (kk : ∀ M', CM g A M0 (uN σ 2 i v) M' → XW K g nL Q M' a b (pc + 3) L st) : XW K g nL Q M a b pc L (.int (nI v) :: .ref (A (10 + i)) :: st) := by
  refine x_fput F s (hR.b hi h6) rfl d rfl rfl (Nat.le_of_ble_eq_true rfl) (kk _ ?_)
  refine CM.put (c := 10 + i) hR (lv_b hi h6) ?_ (lv_uN (by decide)) (fun c' hc => cV_congr rfl rfl (fun _ => rfl) (fun _ => rfl) (fun _ => rfl) (fun z => ⟨rfl, rfl⟩) (fun b9 z => ?_) (fun r9 z => rfl) (fun k9 z => rfl))
  · rw [cV_b h6]; simp [beF, uN]
  · have e : ¬ b9 = i := fun y => hc (by rw [z, y])
    simp [beF, uN, e]
theorem x_pX0_3 (F : Fx K g cc own nL ret hh fr lo mc ms) (hR : CM g A M0 σ M) {idx : Nat} {i : Nat} (hi : i < σ.1 6 0) (h6 : i < 16) {v : Nat} (s : FP own idx 1 3 RX0 TX0 7 .int) (d : decode cc pc = .ok (.putfield idx, 3)) (kk : ∀ M', CM g A M0 (uN σ 3 i v) M' → XW K g nL Q M' a b (pc + 3) L st) : XW K g nL Q M a b pc L (.int (nI v) :: .ref (A (10 + i)) :: st) := by
  refine x_fput F s (hR.b hi h6) rfl d rfl rfl (Nat.le_of_ble_eq_true rfl) (kk _ ?_)
  refine CM.put (c := 10 + i) hR (lv_b hi h6) ?_ (lv_uN (by decide)) (fun c' hc => cV_congr rfl rfl (fun _ => rfl) (fun _ => rfl) (fun _ => rfl) (fun z => ⟨rfl, rfl⟩) (fun b9 z => ?_) (fun r9 z => rfl) (fun k9 z => rfl))
  · rw [cV_b h6]; simp [beF, uN]
  · have e : ¬ b9 = i := fun y => hc (by rw [z, y])
    simp [beF, uN, e]
theorem x_pX0_4 (F : Fx K g cc own nL ret hh fr lo mc ms) (hR : CM g A M0 σ M) {idx : Nat} {i : Nat} (hi : i < σ.1 6 0) (h6 : i < 16) {v : Nat} (s : FP own idx 1 4 RX0 TX0 7 .int) (d : decode cc pc = .ok (.putfield idx, 3)) (kk : ∀ M', CM g A M0 (uN σ 4 i v) M' → XW K g nL Q M' a b (pc + 3) L st) : XW K g nL Q M a b pc L (.int (nI v) :: .ref (A (10 + i)) :: st) := by
  refine x_fput F s (hR.b hi h6) rfl d rfl rfl (Nat.le_of_ble_eq_true rfl) (kk _ ?_)
  refine CM.put (c := 10 + i) hR (lv_b hi h6) ?_ (lv_uN (by decide)) (fun c' hc => cV_congr rfl rfl (fun _ => rfl) (fun _ => rfl) (fun _ => rfl) (fun z => ⟨rfl, rfl⟩) (fun b9 z => ?_) (fun r9 z => rfl) (fun k9 z => rfl))
  · rw [cV_b h6]; simp [beF, uN]
  · have e : ¬ b9 = i := fun y => hc (by rw [z, y])
    simp [beF, uN, e]
theorem x_pX0_5 (F : Fx K g cc own nL ret hh fr lo mc ms) (hR : CM g A M0 σ M) {idx : Nat} {i : Nat} (hi : i < σ.1 6 0) (h6 : i < 16) {v : Nat} (s : FP own idx 1 5 RX0 TX0 7 .int) (d : decode cc pc = .ok (.putfield idx, 3)) (kk : ∀ M', CM g A M0 (uN σ 42 i v) M' → XW K g nL Q M' a b (pc + 3) L st) : XW K g nL Q M a b pc L (.int (nI v) :: .ref (A (10 + i)) :: st) := by
  refine x_fput F s (hR.b hi h6) rfl d rfl rfl (Nat.le_of_ble_eq_true rfl) (kk _ ?_)
  refine CM.put (c := 10 + i) hR (lv_b hi h6) ?_ (lv_uN (by decide)) (fun c' hc => cV_congr rfl rfl (fun _ => rfl) (fun _ => rfl) (fun _ => rfl) (fun z => ⟨rfl, rfl⟩) (fun b9 z => ?_) (fun r9 z => rfl) (fun k9 z => rfl))
  · rw [cV_b h6]; simp [beF, uN]
  · have e : ¬ b9 = i := fun y => hc (by rw [z, y])
    simp [beF, uN, e]
theorem x_pX0_6 (F : Fx K g cc own nL ret hh fr lo mc ms) (hR : CM g A M0 σ M) {idx : Nat} {i : Nat} (hi : i < σ.1 6 0) (h6 : i < 16) {v : Int64} (s : FP own idx 1 6 RX0 TX0 7 .long) (d : decode cc pc = .ok (.putfield idx, 3)) (kk : ∀ M', CM g A M0 (uD σ i v) M' → XW K g nL Q M' a b (pc + 3) L st) : XW K g nL Q M a b pc L (.long v :: .ref (A (10 + i)) :: st) := by
  refine x_fput F s (hR.b hi h6) rfl d rfl rfl (Nat.le_of_ble_eq_true rfl) (kk _ ?_)
  refine CM.put (c := 10 + i) hR (lv_b hi h6) ?_ lv_uD (fun c' hc => cV_congr rfl rfl (fun _ => rfl) (fun _ => rfl) (fun _ => rfl) (fun z => ⟨rfl, rfl⟩) (fun b9 z => ?_) (fun r9 z => rfl) (fun k9 z => rfl))
  · rw [cV_b h6]; simp [beF, uD]
  · have e : ¬ b9 = i := fun y => hc (by rw [z, y])
    simp [beF, uD, e]
theorem x_pX2_9 (F : Fx K g cc own nL ret hh fr lo mc ms) (hR : CM g A M0 σ M) {idx : Nat} {r : Nat} (hr : r < σ.1 18 0) (h8 : r < 8) {v : Nat} (s : FP own idx 3 9 RX2 TX2 11 .int) (d : decode cc pc = .ok (.putfield idx, 3)) (kk : ∀ M', CM g A M0 (uN σ 15 r v) M' → XW K g nL Q M' a b (pc + 3) L st) : XW K g nL Q M a b pc L (.int (nI v) :: .ref (A (30 + r)) :: st) := by
  refine x_fput F s (hR.r hr h8) rfl d rfl rfl (Nat.le_of_ble_eq_true rfl) (kk _ ?_)
  refine CM.put (c := 30 + r) hR (lv_r hr h8) ?_ (lv_uN (by decide)) (fun c' hc => cV_congr rfl rfl (fun _ => rfl) (fun _ => rfl) (fun _ => rfl) (fun z => ⟨rfl, rfl⟩) (fun b9 z => rfl) (fun r9 z => ?_) (fun k9 z => rfl))
  · rw [cV_r h8]; simp [roF, uN]
  · have e : ¬ r9 = r := fun y => hc (by rw [z, y])
    simp [roF, uN, e]
theorem x_pX2_10 (F : Fx K g cc own nL ret hh fr lo mc ms) (hR : CM g A M0 σ M) {idx : Nat} {r : Nat} (hr : r < σ.1 18 0) (h8 : r < 8) {v : Int32} (s : FP own idx 3 10 RX2 TX2 11 .int) (d : decode cc pc = .ok (.putfield idx, 3)) (kk : ∀ M', CM g A M0 (uR σ 16 r v) M' → XW K g nL Q M' a b (pc + 3) L st) : XW K g nL Q M a b pc L (.int v :: .ref (A (30 + r)) :: st) := by
  refine x_fput F s (hR.r hr h8) rfl d rfl rfl (Nat.le_of_ble_eq_true rfl) (kk _ ?_)
  refine CM.put (c := 30 + r) hR (lv_r hr h8) ?_ lv_uR (fun c' hc => cV_congr rfl rfl (fun _ => rfl) (fun _ => rfl) (fun _ => rfl) (fun z => ⟨rfl, rfl⟩) (fun b9 z => rfl) (fun r9 z => ?_) (fun k9 z => rfl))
  · rw [cV_r h8]; simp [roF, uR]
  · have e : ¬ r9 = r := fun y => hc (by rw [z, y])
    simp [roF, uR, e]
theorem x_pX3_2 (F : Fx K g cc own nL ret hh fr lo mc ms) (hR : CM g A M0 σ M) {idx : Nat}  {v : Nat} (s : FP own idx 4 2 RX3 TX3 4 .int) (d : decode cc pc = .ok (.putfield idx, 3)) (kk : ∀ M', CM g A M0 (uN σ 7 0 v) M' → XW K g nL Q M' a b (pc + 3) L st) : XW K g nL Q M a b pc L (.int (nI v) :: .ref (A (0)) :: st) := by
  refine x_fput F s (hR.c) rfl d rfl rfl (Nat.le_of_ble_eq_true rfl) (kk _ ?_)
  refine CM.put (c := 0) hR (rfl) ?_ (lv_uN (by decide)) (fun c' hc => cV_congr rfl rfl (fun _ => rfl) (fun _ => rfl) (fun _ => rfl) (fun z => absurd z hc) (fun b9 z => rfl) (fun r9 z => rfl) (fun k9 z => rfl))
  · show _ = cV g A _ 0
    simp [cV, uN]
theorem x_pX3_3 (F : Fx K g cc own nL ret hh fr lo mc ms) (hR : CM g A M0 σ M) {idx : Nat}  {v : Nat} (s : FP own idx 4 3 RX3 TX3 4 .int) (d : decode cc pc = .ok (.putfield idx, 3)) (kk : ∀ M', CM g A M0 (uN σ 30 0 v) M' → XW K g nL Q M' a b (pc + 3) L st) : XW K g nL Q M a b pc L (.int (nI v) :: .ref (A (0)) :: st) := by
  refine x_fput F s (hR.c) rfl d rfl rfl (Nat.le_of_ble_eq_true rfl) (kk _ ?_)
  refine CM.put (c := 0) hR (rfl) ?_ (lv_uN (by decide)) (fun c' hc => cV_congr rfl rfl (fun _ => rfl) (fun _ => rfl) (fun _ => rfl) (fun z => absurd z hc) (fun b9 z => rfl) (fun r9 z => rfl) (fun k9 z => rfl))
  · show _ = cV g A _ 0
    simp [cV, uN]
end CX
