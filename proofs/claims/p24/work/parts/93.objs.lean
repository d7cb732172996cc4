/-! the same, at the object's own address -/
theorem CM.co {g : GP} {A : Nat → Nat} {M0 M : MM} {σ : ST} {o : Nat} (h : CM g A M0 σ M) (ho : A 0 = o) : M o = some (.inr (4, [.ref (A 1), .ref (A 3), .int (nI (σ.1 7 0)), .int (nI (σ.1 30 0))])) := by
  subst ho
  exact h.c
set_option maxRecDepth 20000 in
theorem w_h_ask : CSH RL 97 yL_ask cL_ask 7 (some .int) [(0, 11, 12, 80), (0, 11, 17, 82), (0, 11, 22, 84)] 6 := ⟨⟨tb_2 65 rfl rfl, tb_2 66 rfl rfl, it_L, tb_2 67 rfl rfl⟩, by decide +kernel, by decide +kernel, by decide +kernel⟩
set_option maxRecDepth 20000 in
theorem w_h_rodeo : CSH RL 105 yL_rodeo cL_rodeo 8 (some .int) [(0, 23, 24, 82), (0, 23, 29, 84)] 7 := ⟨⟨tb_3 152 rfl rfl, tb_3 153 rfl rfl, it_L, tb_3 154 rfl rfl⟩, by decide +kernel, by decide +kernel, by decide +kernel⟩
set_option maxRecDepth 20000 in
theorem w_h_ride : CSH RL 110 yL_ride cL_ride 7 (some .int) [(0, 11, 12, 80), (0, 11, 17, 82), (0, 11, 22, 84)] 6 := ⟨⟨tb_3 213 rfl rfl, tb_3 214 rfl rfl, it_L, tb_3 215 rfl rfl⟩, by decide +kernel, by decide +kernel, by decide +kernel⟩
theorem q_ro0 {o : Nat} {l : Launch} (hl : l.stackTraces = false) {g : GP} {M : MM} {A : Nat → Nat} {M0 : MM} {σ : ST} {c : Nat} {r : Nat} (ho : A 0 = o) (hR : CM g A M0 σ M) (hI : Inv c σ) (hr : r < σ.1 18 0) : CT l g yX3_rodeoIs cX3_rodeoIs 4 (some .int) 7 177 2 12 [.ref o, .int (nI (r)), .int (nI (0))] M (pI (fun r9 M9 => nI (σ.1 15 r) = r9 ∧ M = M9)) nX := by
  subst ho
  exact k_ro0 hl hR hI hr
theorem q_ro1 {o : Nat} {l : Launch} (hl : l.stackTraces = false) {g : GP} {M : MM} {A : Nat → Nat} {M0 : MM} {σ : ST} {c : Nat} {r : Nat} (ho : A 0 = o) (hR : CM g A M0 σ M) (hI : Inv c σ) (hr : r < σ.1 18 0) : CT l g yX3_rodeoIs cX3_rodeoIs 4 (some .int) 7 177 2 12 [.ref o, .int (nI (r)), .int (nI (1))] M (pI (fun r9 M9 => nI (σ.1 17 r) = r9 ∧ M = M9)) nX := by
  subst ho
  exact k_ro1 hl hR hI hr
theorem q_ro2 {o : Nat} {l : Launch} (hl : l.stackTraces = false) {g : GP} {M : MM} {A : Nat → Nat} {M0 : MM} {σ : ST} {c : Nat} {r : Nat} (ho : A 0 = o) (hR : CM g A M0 σ M) (hI : Inv c σ) (hr : r < σ.1 18 0) : CT l g yX3_rodeoIs cX3_rodeoIs 4 (some .int) 7 177 2 12 [.ref o, .int (nI (r)), .int (nI (2))] M (pI (fun r9 M9 => nI (plIn σ r) = r9 ∧ M = M9)) nX := by
  subst ho
  exact k_ro2 hl hR hI hr
theorem q_ro3 {o : Nat} {l : Launch} (hl : l.stackTraces = false) {g : GP} {M : MM} {A : Nat → Nat} {M0 : MM} {σ : ST} {c : Nat} {r : Nat} (ho : A 0 = o) (hR : CM g A M0 σ M) (hI : Inv c σ) (hr : r < σ.1 18 0) : CT l g yX3_rodeoIs cX3_rodeoIs 4 (some .int) 7 177 2 12 [.ref o, .int (nI (r)), .int (nI (3))] M (pI (fun r9 M9 => nI (potS σ r) = r9 ∧ M = M9)) nX := by
  subst ho
  exact k_ro3 hl hR hI hr
theorem q_ro4 {o : Nat} {l : Launch} (hl : l.stackTraces = false) {g : GP} {M : MM} {A : Nat → Nat} {M0 : MM} {σ : ST} {c : Nat} {r : Nat} (ho : A 0 = o) (hR : CM g A M0 σ M) (hI : Inv c σ) (hr : r < σ.1 18 0) : CT l g yX3_rodeoIs cX3_rodeoIs 4 (some .int) 7 177 2 12 [.ref o, .int (nI (r)), .int (nI (4))] M (pI (fun r9 M9 => σ.2.1 16 r = r9 ∧ M = M9)) nX := by
  subst ho
  exact k_ro4 hl hR hI hr
theorem q_placed {o : Nat} {l : Launch} (hl : l.stackTraces = false) {g : GP} {M : MM} {A : Nat → Nat} {M0 : MM} {σ : ST} {c : Nat} {r j : Nat} (ho : A 0 = o) (hR : CM g A M0 σ M) (hI : Inv c σ) (hr : r < σ.1 18 0) (hj : j < σ.1 7 0) : CT l g yX3_placed cX3_placed 4 (some .int) 8 158 2 12 [.ref o, .int (nI (r)), .int (nI (j))] M (pI (fun r9 M9 => σ.2.1 22 (12 * r + j) = r9 ∧ M = M9)) nX := by
  subst ho
  exact k_placed hl hR hI hr hj
theorem q_drawn {o : Nat} {l : Launch} (hl : l.stackTraces = false) {g : GP} {M : MM} {A : Nat → Nat} {M0 : MM} {σ : ST} {c : Nat} {r j : Nat} (ho : A 0 = o) (hR : CM g A M0 σ M) (hI : Inv c σ) (hr : r < σ.1 18 0) (hj : j < σ.1 7 0) : CT l g yX3_drawn cX3_drawn 4 (some .int) 8 158 2 12 [.ref o, .int (nI (r)), .int (nI (j))] M (pI (fun r9 M9 => σ.2.1 23 (12 * r + j) = r9 ∧ M = M9)) nX := by
  subst ho
  exact k_drawn hl hR hI hr hj
theorem q_score {o : Nat} {l : Launch} (hl : l.stackTraces = false) {g : GP} {M : MM} {A : Nat → Nat} {M0 : MM} {σ : ST} {c : Nat} {r j : Nat} (ho : A 0 = o) (hR : CM g A M0 σ M) (hI : Inv c σ) (hr : r < σ.1 18 0) (hj : j < σ.1 7 0) : CT l g yX3_score cX3_score 4 (some .int) 8 158 2 12 [.ref o, .int (nI (r)), .int (nI (j))] M (pI (fun r9 M9 => σ.2.1 28 (12 * r + j) = r9 ∧ M = M9)) nX := by
  subst ho
  exact k_score hl hR hI hr hj
theorem q_got {o : Nat} {l : Launch} (hl : l.stackTraces = false) {g : GP} {M : MM} {A : Nat → Nat} {M0 : MM} {σ : ST} {c : Nat} {r j : Nat} (ho : A 0 = o) (hR : CM g A M0 σ M) (hI : Inv c σ) (hr : r < σ.1 18 0) (hj : j < σ.1 7 0) : CT l g yX3_got cX3_got 4 (some .int) 8 158 2 12 [.ref o, .int (nI (r)), .int (nI (j))] M (pI (fun r9 M9 => nI (σ.1 29 (12 * r + j)) = r9 ∧ M = M9)) nX := by
  subst ho
  exact k_got hl hR hI hr hj
theorem q_isOffered {o : Nat} {l : Launch} (hl : l.stackTraces = false) {g : GP} {M : MM} {A : Nat → Nat} {M0 : MM} {σ : ST} {c : Nat} {r j : Nat} (ho : A 0 = o) (hR : CM g A M0 σ M) (hI : Inv c σ) (hr : r < σ.1 18 0) (hj : j < σ.1 7 0) : CT l g yX3_isOffered cX3_isOffered 4 (some .boolean) 8 158 2 12 [.ref o, .int (nI (r)), .int (nI (j))] M (pI (fun r9 M9 => nI (bz (decide (¬ σ.1 26 (12 * r + j) = 0))) = r9 ∧ M = M9)) nX := by
  subst ho
  exact k_isOffered hl hR hI hr hj
theorem q_be1 {o : Nat} {l : Launch} (hl : l.stackTraces = false) {g : GP} {M : MM} {A : Nat → Nat} {M0 : MM} {σ : ST} {c : Nat} {b : Nat} (ho : A 0 = o) (hR : CM g A M0 σ M) (hI : Inv c σ) (hb : b < σ.1 6 0) : CT l g yX3_beastIs cX3_beastIs 4 (some .int) 6 138 1 6 [.ref o, .int (nI (b)), .int (nI (1))] M (pI (fun r9 M9 => nI (σ.1 2 b) = r9 ∧ M = M9)) nX := by
  subst ho
  exact k_be1 hl hR hI hb
theorem q_be2 {o : Nat} {l : Launch} (hl : l.stackTraces = false) {g : GP} {M : MM} {A : Nat → Nat} {M0 : MM} {σ : ST} {c : Nat} {b : Nat} (ho : A 0 = o) (hR : CM g A M0 σ M) (hI : Inv c σ) (hb : b < σ.1 6 0) : CT l g yX3_beastIs cX3_beastIs 4 (some .int) 6 138 1 6 [.ref o, .int (nI (b)), .int (nI (2))] M (pI (fun r9 M9 => nI (σ.1 3 b) = r9 ∧ M = M9)) nX := by
  subst ho
  exact k_be2 hl hR hI hb
theorem q_be3 {o : Nat} {l : Launch} (hl : l.stackTraces = false) {g : GP} {M : MM} {A : Nat → Nat} {M0 : MM} {σ : ST} {c : Nat} {b : Nat} (ho : A 0 = o) (hR : CM g A M0 σ M) (hI : Inv c σ) (hb : b < σ.1 6 0) : CT l g yX3_beastIs cX3_beastIs 4 (some .int) 6 138 1 6 [.ref o, .int (nI (b)), .int (nI (3))] M (pI (fun r9 M9 => nI (σ.1 4 b) = r9 ∧ M = M9)) nX := by
  subst ho
  exact k_be3 hl hR hI hb
theorem q_be4 {o : Nat} {l : Launch} (hl : l.stackTraces = false) {g : GP} {M : MM} {A : Nat → Nat} {M0 : MM} {σ : ST} {c : Nat} {b : Nat} (ho : A 0 = o) (hR : CM g A M0 σ M) (hI : Inv c σ) (hb : b < σ.1 6 0) : CT l g yX3_beastIs cX3_beastIs 4 (some .int) 6 138 1 6 [.ref o, .int (nI (b)), .int (nI (4))] M (pI (fun r9 M9 => rkbS σ b = r9 ∧ M = M9)) nX := by
  subst ho
  exact k_be4 hl hR hI hb
theorem q_most {o : Nat} {l : Launch} (hl : l.stackTraces = false) {g : GP} {M : MM} {A : Nat → Nat} {M0 : MM} {σ : ST} {c : Nat} {r : Nat} (ho : A 0 = o) (hR : CM g A M0 σ M) (hI : Inv c σ) (hr : r < σ.1 18 0) : CT l g yX3_most cX3_most 6 (some .int) 7 192 1 6 [.ref o, .int (nI (r))] M (pI (fun r9 M9 => nI (lstS σ r (2 ^ σ.1 11 r)) = r9 ∧ M = M9)) nX := by
  subst ho
  exact k_most hl hR hI hr
theorem q_counts {o : Nat} {l : Launch} (hl : l.stackTraces = false) {g : GP} {M : MM} {A : Nat → Nat} {M0 : MM} {σ : ST} {c : Nat} {j : Nat} (ho : A 0 = o) (hR : CM g A M0 σ M) (hI : Inv c σ) (hj : j < σ.1 7 0) : CT l g yX3_counts cX3_counts 2 (some .int) 7 140 1 6 [.ref o, .int (nI (j))] M (pI (fun r9 M9 => nI (b3T σ j) = r9 ∧ M = M9)) nX := by
  subst ho
  exact k_counts hl hR hI hj
theorem q_balances {o : Nat} {l : Launch} (hl : l.stackTraces = false) {g : GP} {M : MM} {A : Nat → Nat} {M0 : MM} {σ : ST} {c : Nat} (ho : A 0 = o) (hR : CM g A M0 σ M) (hI : Inv c σ) (hT : (allB (ieS σ) (σ.1 18 0) && allB (harS σ) (σ.1 6 0)) = true) : CT l g yX3_balances cX3_balances 2 (some .boolean) 8 199 0 0 [.ref o] M (pI (fun r9 M9 => nI 1 = r9 ∧ M = M9)) nX := by
  subst ho
  exact k_balances hl hR hI hT
theorem qa_beast {o : Nat} {l : Launch} (hl : l.stackTraces = false) {g : GP} {M : MM} {A : Nat → Nat} {M0 : MM} {σ : ST} {c : Nat} {x0 : Int32} {u1 u2 u3 : Int32} (ho : A 0 = o) (hR : CM g A M0 σ M) (hI : Inv c σ) : CTH l g yL_ask cL_ask 7 (some .int) [(0, 11, 12, 80), (0, 11, 17, 82), (0, 11, 22, 84)] 9 237 2 29 [.ref o, .int (nI 0), .int x0, .int u1, .int u2, .int u3] M (pI (fun r9 M9 => (cdBe σ x0 = 0 ∧ r9 = nI (σ.1 6 0) ∧ AFT g A (beU σ x0) M9) ∨ (cdBe σ x0 = 1 ∧ r9 = (-12) ∧ M = M9) ∨ (cdBe σ x0 = 2 ∧ r9 = (-13) ∧ M = M9))) := by
  subst ho
  exact a_beast hl hR hI
theorem qa_rider {o : Nat} {l : Launch} (hl : l.stackTraces = false) {g : GP} {M : MM} {A : Nat → Nat} {M0 : MM} {σ : ST} {c : Nat}  {u0 u1 u2 u3 : Int32} (ho : A 0 = o) (hR : CM g A M0 σ M) (hI : Inv c σ) : CTH l g yL_ask cL_ask 7 (some .int) [(0, 11, 12, 80), (0, 11, 17, 82), (0, 11, 22, 84)] 8 137 1 6 [.ref o, .int (nI 1), .int u0, .int u1, .int u2, .int u3] M (pI (fun r9 M9 => (cdRd σ = 0 ∧ r9 = nI (σ.1 7 0) ∧ AFT g A (rdU σ) M9) ∨ (cdRd σ = 1 ∧ r9 = (-13) ∧ M = M9))) := by
  subst ho
  exact a_rider hl hR hI
theorem qa_enter {o : Nat} {l : Launch} (hl : l.stackTraces = false) {g : GP} {M : MM} {A : Nat → Nat} {M0 : MM} {σ : ST} {c : Nat} {x0 y0 s0 w0 : Int32} (ho : A 0 = o) (hR : CM g A M0 σ M) (hI : Inv c σ) : CTH l g yL_ask cL_ask 7 (some .int) [(0, 11, 12, 80), (0, 11, 17, 82), (0, 11, 22, 84)] 11 266 5 51 [.ref o, .int (nI 3), .int x0, .int y0, .int s0, .int w0] M (pI (fun r9 M9 => (cdEn σ x0 y0 s0 w0 = 0 ∧ r9 = nI (σ.1 17 (cl x0) + 1) ∧ AFT g A (enU σ (cl x0) (cl y0) (cl s0) (cl w0)) M9) ∨ (cdEn σ x0 y0 s0 w0 = 1 ∧ r9 = (-11) ∧ M = M9) ∨ (cdEn σ x0 y0 s0 w0 = 2 ∧ r9 = (-12) ∧ M = M9) ∨ (cdEn σ x0 y0 s0 w0 = 3 ∧ r9 = (-13) ∧ M = M9))) := by
  subst ho
  exact a_enter hl hR hI
theorem qa_close {o : Nat} {l : Launch} (hl : l.stackTraces = false) {g : GP} {M : MM} {A : Nat → Nat} {M0 : MM} {σ : ST} {c : Nat} {x0 : Int32} {u1 u2 u3 : Int32} (ho : A 0 = o) (hR : CM g A M0 σ M) (hI : Inv c σ) : CTH l g yL_ask cL_ask 7 (some .int) [(0, 11, 12, 80), (0, 11, 17, 82), (0, 11, 22, 84)] 9 238 2 12 [.ref o, .int (nI 4), .int x0, .int u1, .int u2, .int u3] M (pI (fun r9 M9 => (cdSt σ x0 0 = 0 ∧ r9 = nI (plIn (clU σ (cl x0)) (cl x0)) ∧ AFT g A (clU σ (cl x0)) M9) ∨ (cdSt σ x0 0 = 1 ∧ r9 = (-11) ∧ M = M9) ∨ (cdSt σ x0 0 = 2 ∧ r9 = (-13) ∧ M = M9))) := by
  subst ho
  exact a_close hl hR hI
theorem qa_draw {o : Nat} {l : Launch} (hl : l.stackTraces = false) {g : GP} {M : MM} {A : Nat → Nat} {M0 : MM} {σ : ST} {c : Nat} {x0 : Int32} {u1 u2 u3 : Int32} (ho : A 0 = o) (hR : CM g A M0 σ M) (hI : Inv c σ) : CTH l g yL_ask cL_ask 7 (some .int) [(0, 11, 12, 80), (0, 11, 17, 82), (0, 11, 22, 84)] 10 260 2 12 [.ref o, .int (nI 7), .int x0, .int u1, .int u2, .int u3] M (pI (fun r9 M9 => (cdSt σ x0 1 = 0 ∧ r9 = nI (drN σ (cl x0) (σ.1 11 (cl x0))) ∧ AFT g A (drnU σ (cl x0)) M9) ∨ (cdSt σ x0 1 = 1 ∧ r9 = (-11) ∧ M = M9) ∨ (cdSt σ x0 1 = 2 ∧ r9 = (-13) ∧ M = M9))) := by
  subst ho
  exact a_draw hl hR hI
theorem qa_answer {o : Nat} {l : Launch} (hl : l.stackTraces = false) {g : GP} {M : MM} {A : Nat → Nat} {M0 : MM} {σ : ST} {c : Nat} {x0 y0 : Int32} {f : Bool} {u3 : Int32} (ho : A 0 = o) (hR : CM g A M0 σ M) (hI : Inv c σ) : CTH l g yL_ask cL_ask 7 (some .int) [(0, 11, 12, 80), (0, 11, 17, 82), (0, 11, 22, 84)] 10 235 3 18 [.ref o, .int (nI 10), .int x0, .int y0, .int (nI (bz f)), .int u3] M (pI (fun r9 M9 => (cdAn σ x0 y0 = 0 ∧ r9 = (if f = true then (ansU σ (cl x0) (cl y0) f).2.1 23 (12 * cl x0 + cl y0) else -1) ∧ AFT g A (ansU σ (cl x0) (cl y0) f) M9) ∨ (cdAn σ x0 y0 = 1 ∧ r9 = (-11) ∧ M = M9) ∨ (cdAn σ x0 y0 = 2 ∧ r9 = (-13) ∧ M = M9))) := by
  subst ho
  exact a_answer hl hR hI
theorem qa_pay {o : Nat} {l : Launch} (hl : l.stackTraces = false) {g : GP} {M : MM} {A : Nat → Nat} {M0 : MM} {σ : ST} {c : Nat} {x0 : Int32} {u1 u2 u3 : Int32} (ho : A 0 = o) (hR : CM g A M0 σ M) (hI : Inv c σ) : CTH l g yL_ask cL_ask 7 (some .int) [(0, 11, 12, 80), (0, 11, 17, 82), (0, 11, 22, 84)] 10 250 2 12 [.ref o, .int (nI 13), .int x0, .int u1, .int u2, .int u3] M (pI (fun r9 M9 => (cdPa σ x0 = 0 ∧ r9 = nI (ccN σ (cl x0)) ∧ AFT g A (pyU σ (cl x0)) M9) ∨ (cdPa σ x0 = 1 ∧ r9 = (-11) ∧ M = M9) ∨ (cdPa σ x0 = 2 ∧ r9 = (-13) ∧ M = M9))) := by
  subst ho
  exact a_pay hl hR hI
theorem qa_ranked {o : Nat} {l : Launch} (hl : l.stackTraces = false) {g : GP} {M : MM} {A : Nat → Nat} {M0 : MM} {σ : ST} {c : Nat} {x0 : Int32} {u1 u2 u3 : Int32} (ho : A 0 = o) (hR : CM g A M0 σ M) (hI : Inv c σ) : CTH l g yL_ask cL_ask 7 (some .int) [(0, 11, 12, 80), (0, 11, 17, 82), (0, 11, 22, 84)] 9 234 1 6 [.ref o, .int (nI 16), .int x0, .int u1, .int u2, .int u3] M (pI (fun r9 M9 => (cdRk x0 = 0 ∧ r9 = fF (fun k => decide (nI (rkcS σ k) = x0)) 0 (σ.1 7 0) ∧ M = M9) ∨ (cdRk x0 = 1 ∧ r9 = (-12) ∧ M = M9))) := by
  subst ho
  exact a_ranked hl hR hI
theorem qa_hide {o : Nat} {l : Launch} (hl : l.stackTraces = false) {g : GP} {M : MM} {A : Nat → Nat} {M0 : MM} {σ : ST} {c : Nat} {x0 : Int32} {u1 u2 u3 : Int32} (ho : A 0 = o) (hR : CM g A M0 σ M) (hI : Inv c σ) : CTH l g yL_ask cL_ask 7 (some .int) [(0, 11, 12, 80), (0, 11, 17, 82), (0, 11, 22, 84)] 9 159 1 6 [.ref o, .int (nI 17), .int x0, .int u1, .int u2, .int u3] M (pI (fun r9 M9 => (cdHi x0 = 0 ∧ r9 = nI 0 ∧ AFT g A (uN σ 30 0 (cl x0)) M9) ∨ (cdHi x0 = 1 ∧ r9 = (-12) ∧ M = M9))) := by
  subst ho
  exact a_hide hl hR hI
theorem qa_rodeo {o : Nat} {l : Launch} (hl : l.stackTraces = false) {g : GP} {M : MM} {A : Nat → Nat} {M0 : MM} {σ : ST} {c : Nat} {a0 a1 a2 a3 a4 : Int32} {mo : Nat} (ho : A 0 = o) (hR : CM g A M0 σ M) (hI : Inv c σ) (hmo : mo < 2 ^ 31) : CTH l g yL_rodeo cL_rodeo 8 (some .int) [(0, 23, 24, 82), (0, 23, 29, 84)] 8 217 4 55 [.ref o, .int a0, .int a1, .int a2, .int a3, .int a4, .int (nI mo)] M (pI (fun r9 M9 => (cdRo σ a0 a1 a2 a3 a4 (nI (mo / 1000)) (nI (mo % 1000)) = 0 ∧ r9 = nI (σ.1 18 0) ∧ AFT g A (roU σ a0 a1 a2 a3 a4 (nI (mo / 1000)) (nI (mo % 1000))) M9) ∨ (cdRo σ a0 a1 a2 a3 a4 (nI (mo / 1000)) (nI (mo % 1000)) = 1 ∧ r9 = (-12) ∧ M = M9) ∨ (cdRo σ a0 a1 a2 a3 a4 (nI (mo / 1000)) (nI (mo % 1000)) = 2 ∧ r9 = (-13) ∧ M = M9))) := by
  subst ho
  exact a_rodeo hl hR hI hmo
theorem qa_ride {o : Nat} {l : Launch} (hl : l.stackTraces = false) {g : GP} {M : MM} {A : Nat → Nat} {M0 : MM} {σ : ST} {c : Nat} {x0 y0 mk w : Int32} {f : Bool} (ho : A 0 = o) (hR : CM g A M0 σ M) (hI : Inv c σ) : CTH l g yL_ride cL_ride 7 (some .int) [(0, 11, 12, 80), (0, 11, 17, 82), (0, 11, 22, 84)] 9 187 4 24 [.ref o, .int x0, .int y0, .int mk, .int w, .int (nI (bz f))] M (pI (fun r9 M9 => (cdRi σ x0 y0 mk w = 0 ∧ r9 = (ridU σ (12 * cl x0 + cl y0) (cl (σ.2.1 23 (12 * cl x0 + cl y0))) (cl mk) (cl w) f).2.1 28 (12 * cl x0 + cl y0) ∧ AFT g A (ridU σ (12 * cl x0 + cl y0) (cl (σ.2.1 23 (12 * cl x0 + cl y0))) (cl mk) (cl w) f) M9) ∨ (cdRi σ x0 y0 mk w = 1 ∧ r9 = (-11) ∧ M = M9) ∨ (cdRi σ x0 y0 mk w = 2 ∧ r9 = (-12) ∧ M = M9) ∨ (cdRi σ x0 y0 mk w = 3 ∧ r9 = (-13) ∧ M = M9))) := by
  subst ho
  exact a_ride hl hR hI
