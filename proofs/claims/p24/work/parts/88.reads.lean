/-! the component's reads, where they don't throw -/
theorem ct_mono {l : Launch} {g : GP} {y : MethodName} {cc : ByteArray} {nL : Nat} {ret : Option FieldType} {fr lo mc ms : Nat} {av : List Value} {M : MM} {post post' : Option Value → MM → Prop} {px px' : String → MM → Prop} (h : CT l g y cc nL ret fr lo mc ms av M post px) (h1 : ∀ v M9, post v M9 → post' v M9) (h2 : ∀ E M9, px E M9 → px' E M9) : CT l g y cc nL ret fr lo mc ms av M post' px' := by
  intro p e ha hc hk s m args below hf happ hP hK
  obtain ⟨n, o, k1, k2, k3, hq⟩ := h p e ha hc hk s m args below hf happ hP hK
  refine ⟨n, o, k1, k2, k3, ?_⟩
  rcases hq with ⟨⟨⟨v, M', ho, hp, hb⟩, hF⟩, hr⟩ | ⟨q, ho, E, ce, LL, ⟨⟨M', hx, hb⟩, hF⟩, hr⟩
  · exact Or.inl ⟨⟨⟨v, M', ho, h1 v M' hp, hb⟩, hF⟩, hr⟩
  · exact Or.inr ⟨q, ho, E, ce, LL, ⟨⟨M', h2 E M' hx, hb⟩, hF⟩, hr⟩
theorem pI_imp {P P' : Int32 → MM → Prop} (h : ∀ r M9, P r M9 → P' r M9) : ∀ v M9, pI P v M9 → pI P' v M9 := by
  rintro v M9 ⟨r, rfl, hp⟩
  exact ⟨r, rfl, h r M9 hp⟩
theorem no_xp1 {E s1 : String} {c : Nat} (h : c = 0) : ¬ xp1 E c s1 := fun z => by have := z.2; omega
theorem no_xp2 {E s1 s2 : String} {c : Nat} (h : c = 0) : ¬ xp2 E c s1 s2 := fun z => by rcases z with z | z <;> (have := z.2; omega)
theorem no_xp3 {E s1 s2 s3 : String} {c : Nat} (h : c = 0) : ¬ xp3 E c s1 s2 s3 := fun z => by rcases z with z | z | z <;> (have := z.2; omega)
theorem z_RR {σ : ST} {r j : Nat} (hB : Bd σ) (hr : r < σ.1 18 0) (hj : j < σ.1 7 0) : cdRR σ (nI r) (nI j) = 0 := by
  have h18 := hB.2.2.1
  have h7 := hB.2.1
  unfold cdRR
  rw [inN_nI (by omega), inN_nI (by omega), decide_eq_true hr, decide_eq_true hj]; rfl
theorem z_RI {σ : ST} {r w : Nat} (hB : Bd σ) (hr : r < σ.1 18 0) (hw : w ≤ 4) : cdRI σ (nI r) (nI w) = 0 := by
  have h18 := hB.2.2.1
  unfold cdRI
  rw [inN_nI (by omega), decide_eq_true hr, inR_nI (by omega) (by decide) (by decide), decide_eq_true (Nat.zero_le w), decide_eq_true hw]; rfl
theorem z_BI {σ : ST} {b w : Nat} (hB : Bd σ) (hr : b < σ.1 6 0) (hw : w ≤ 4) : cdBI σ (nI b) (nI w) = 0 := by
  have h6 := hB.1
  unfold cdBI
  rw [inN_nI (by omega), decide_eq_true hr, inR_nI (by omega) (by decide) (by decide), decide_eq_true (Nat.zero_le w), decide_eq_true hw]; rfl
theorem z_Mo {σ : ST} {r : Nat} (hB : Bd σ) (hr : r < σ.1 18 0) : cdMo σ (nI r) = 0 := by
  have h18 := hB.2.2.1
  unfold cdMo
  rw [inN_nI (by omega), decide_eq_true hr]; rfl
theorem z_Co {σ : ST} {j : Nat} (hB : Bd σ) (hj : j < σ.1 7 0) : cdCo σ (nI j) = 0 := by
  have h7 := hB.2.1
  unfold cdCo
  rw [inN_nI (by omega), decide_eq_true hj]; rfl
theorem k_ro0 {l : Launch} (hl : l.stackTraces = false) {g : GP} {M : MM} {A : Nat → Nat} {M0 : MM} {σ : ST} {c : Nat} {r : Nat} (hR : CM g A M0 σ M) (hI : Inv c σ) (hr : r < σ.1 18 0) : CT l g yX3_rodeoIs cX3_rodeoIs 4 (some .int) 7 177 2 12 [.ref (A 0), .int (nI (r)), .int (nI (0))] M (pI (fun r9 M9 => nI (σ.1 15 r) = r9 ∧ M = M9)) nX := by
  have h6 := hI.B.1
  have h7 := hI.B.2.1
  have h18 := hI.B.2.2.1
  refine ct_mono (c_X3_rodeoIs hl hR hI.B hI.W hI.D) (pI_imp (fun v9 M9 h9 => ⟨?_, h9.2.2⟩)) (fun E M9 h9 => (no_xp2 (z_RI hI.B hr (by decide)) h9.2).elim)
  rw [← h9.2.1]
  rw [cl_nI (n := r) (by omega)]
  rfl
theorem k_ro1 {l : Launch} (hl : l.stackTraces = false) {g : GP} {M : MM} {A : Nat → Nat} {M0 : MM} {σ : ST} {c : Nat} {r : Nat} (hR : CM g A M0 σ M) (hI : Inv c σ) (hr : r < σ.1 18 0) : CT l g yX3_rodeoIs cX3_rodeoIs 4 (some .int) 7 177 2 12 [.ref (A 0), .int (nI (r)), .int (nI (1))] M (pI (fun r9 M9 => nI (σ.1 17 r) = r9 ∧ M = M9)) nX := by
  have h6 := hI.B.1
  have h7 := hI.B.2.1
  have h18 := hI.B.2.2.1
  refine ct_mono (c_X3_rodeoIs hl hR hI.B hI.W hI.D) (pI_imp (fun v9 M9 h9 => ⟨?_, h9.2.2⟩)) (fun E M9 h9 => (no_xp2 (z_RI hI.B hr (by decide)) h9.2).elim)
  rw [← h9.2.1]
  rw [cl_nI (n := r) (by omega)]
  rfl
theorem k_ro2 {l : Launch} (hl : l.stackTraces = false) {g : GP} {M : MM} {A : Nat → Nat} {M0 : MM} {σ : ST} {c : Nat} {r : Nat} (hR : CM g A M0 σ M) (hI : Inv c σ) (hr : r < σ.1 18 0) : CT l g yX3_rodeoIs cX3_rodeoIs 4 (some .int) 7 177 2 12 [.ref (A 0), .int (nI (r)), .int (nI (2))] M (pI (fun r9 M9 => nI (plIn σ r) = r9 ∧ M = M9)) nX := by
  have h6 := hI.B.1
  have h7 := hI.B.2.1
  have h18 := hI.B.2.2.1
  refine ct_mono (c_X3_rodeoIs hl hR hI.B hI.W hI.D) (pI_imp (fun v9 M9 h9 => ⟨?_, h9.2.2⟩)) (fun E M9 h9 => (no_xp2 (z_RI hI.B hr (by decide)) h9.2).elim)
  rw [← h9.2.1]
  rw [cl_nI (n := r) (by omega)]
  rfl
theorem k_ro3 {l : Launch} (hl : l.stackTraces = false) {g : GP} {M : MM} {A : Nat → Nat} {M0 : MM} {σ : ST} {c : Nat} {r : Nat} (hR : CM g A M0 σ M) (hI : Inv c σ) (hr : r < σ.1 18 0) : CT l g yX3_rodeoIs cX3_rodeoIs 4 (some .int) 7 177 2 12 [.ref (A 0), .int (nI (r)), .int (nI (3))] M (pI (fun r9 M9 => nI (potS σ r) = r9 ∧ M = M9)) nX := by
  have h6 := hI.B.1
  have h7 := hI.B.2.1
  have h18 := hI.B.2.2.1
  refine ct_mono (c_X3_rodeoIs hl hR hI.B hI.W hI.D) (pI_imp (fun v9 M9 h9 => ⟨?_, h9.2.2⟩)) (fun E M9 h9 => (no_xp2 (z_RI hI.B hr (by decide)) h9.2).elim)
  rw [← h9.2.1]
  rw [cl_nI (n := r) (by omega)]
  rfl
theorem k_ro4 {l : Launch} (hl : l.stackTraces = false) {g : GP} {M : MM} {A : Nat → Nat} {M0 : MM} {σ : ST} {c : Nat} {r : Nat} (hR : CM g A M0 σ M) (hI : Inv c σ) (hr : r < σ.1 18 0) : CT l g yX3_rodeoIs cX3_rodeoIs 4 (some .int) 7 177 2 12 [.ref (A 0), .int (nI (r)), .int (nI (4))] M (pI (fun r9 M9 => σ.2.1 16 r = r9 ∧ M = M9)) nX := by
  have h6 := hI.B.1
  have h7 := hI.B.2.1
  have h18 := hI.B.2.2.1
  refine ct_mono (c_X3_rodeoIs hl hR hI.B hI.W hI.D) (pI_imp (fun v9 M9 h9 => ⟨?_, h9.2.2⟩)) (fun E M9 h9 => (no_xp2 (z_RI hI.B hr (by decide)) h9.2).elim)
  rw [← h9.2.1]
  rw [cl_nI (n := r) (by omega)]
  rfl
theorem k_placed {l : Launch} (hl : l.stackTraces = false) {g : GP} {M : MM} {A : Nat → Nat} {M0 : MM} {σ : ST} {c : Nat} {r j : Nat} (hR : CM g A M0 σ M) (hI : Inv c σ) (hr : r < σ.1 18 0) (hj : j < σ.1 7 0) : CT l g yX3_placed cX3_placed 4 (some .int) 8 158 2 12 [.ref (A 0), .int (nI (r)), .int (nI (j))] M (pI (fun r9 M9 => σ.2.1 22 (12 * r + j) = r9 ∧ M = M9)) nX := by
  have h6 := hI.B.1
  have h7 := hI.B.2.1
  have h18 := hI.B.2.2.1
  refine ct_mono (c_X3_placed hl hR hI.B hI.D) (pI_imp (fun v9 M9 h9 => ⟨?_, h9.2.2⟩)) (fun E M9 h9 => (no_xp1 (z_RR hI.B hr hj) h9.2).elim)
  rw [← h9.2.1]
  rw [cl_nI (n := r) (by omega), cl_nI (n := j) (by omega)]
theorem k_drawn {l : Launch} (hl : l.stackTraces = false) {g : GP} {M : MM} {A : Nat → Nat} {M0 : MM} {σ : ST} {c : Nat} {r j : Nat} (hR : CM g A M0 σ M) (hI : Inv c σ) (hr : r < σ.1 18 0) (hj : j < σ.1 7 0) : CT l g yX3_drawn cX3_drawn 4 (some .int) 8 158 2 12 [.ref (A 0), .int (nI (r)), .int (nI (j))] M (pI (fun r9 M9 => σ.2.1 23 (12 * r + j) = r9 ∧ M = M9)) nX := by
  have h6 := hI.B.1
  have h7 := hI.B.2.1
  have h18 := hI.B.2.2.1
  refine ct_mono (c_X3_drawn hl hR hI.B hI.D hI.be) (pI_imp (fun v9 M9 h9 => ⟨?_, h9.2.2⟩)) (fun E M9 h9 => (no_xp1 (z_RR hI.B hr hj) h9.2).elim)
  rw [← h9.2.1]
  rw [cl_nI (n := r) (by omega), cl_nI (n := j) (by omega)]
theorem k_score {l : Launch} (hl : l.stackTraces = false) {g : GP} {M : MM} {A : Nat → Nat} {M0 : MM} {σ : ST} {c : Nat} {r j : Nat} (hR : CM g A M0 σ M) (hI : Inv c σ) (hr : r < σ.1 18 0) (hj : j < σ.1 7 0) : CT l g yX3_score cX3_score 4 (some .int) 8 158 2 12 [.ref (A 0), .int (nI (r)), .int (nI (j))] M (pI (fun r9 M9 => σ.2.1 28 (12 * r + j) = r9 ∧ M = M9)) nX := by
  have h6 := hI.B.1
  have h7 := hI.B.2.1
  have h18 := hI.B.2.2.1
  refine ct_mono (c_X3_score hl hR hI.B hI.D) (pI_imp (fun v9 M9 h9 => ⟨?_, h9.2.2⟩)) (fun E M9 h9 => (no_xp1 (z_RR hI.B hr hj) h9.2).elim)
  rw [← h9.2.1]
  rw [cl_nI (n := r) (by omega), cl_nI (n := j) (by omega)]
theorem k_got {l : Launch} (hl : l.stackTraces = false) {g : GP} {M : MM} {A : Nat → Nat} {M0 : MM} {σ : ST} {c : Nat} {r j : Nat} (hR : CM g A M0 σ M) (hI : Inv c σ) (hr : r < σ.1 18 0) (hj : j < σ.1 7 0) : CT l g yX3_got cX3_got 4 (some .int) 8 158 2 12 [.ref (A 0), .int (nI (r)), .int (nI (j))] M (pI (fun r9 M9 => nI (σ.1 29 (12 * r + j)) = r9 ∧ M = M9)) nX := by
  have h6 := hI.B.1
  have h7 := hI.B.2.1
  have h18 := hI.B.2.2.1
  refine ct_mono (c_X3_got hl hR hI.B hI.D) (pI_imp (fun v9 M9 h9 => ⟨?_, h9.2.2⟩)) (fun E M9 h9 => (no_xp1 (z_RR hI.B hr hj) h9.2).elim)
  rw [← h9.2.1]
  rw [cl_nI (n := r) (by omega), cl_nI (n := j) (by omega)]
theorem k_isOffered {l : Launch} (hl : l.stackTraces = false) {g : GP} {M : MM} {A : Nat → Nat} {M0 : MM} {σ : ST} {c : Nat} {r j : Nat} (hR : CM g A M0 σ M) (hI : Inv c σ) (hr : r < σ.1 18 0) (hj : j < σ.1 7 0) : CT l g yX3_isOffered cX3_isOffered 4 (some .boolean) 8 158 2 12 [.ref (A 0), .int (nI (r)), .int (nI (j))] M (pI (fun r9 M9 => nI (bz (decide (¬ σ.1 26 (12 * r + j) = 0))) = r9 ∧ M = M9)) nX := by
  have h6 := hI.B.1
  have h7 := hI.B.2.1
  have h18 := hI.B.2.2.1
  refine ct_mono (c_X3_isOffered hl hR hI.B hI.D) (pI_imp (fun v9 M9 h9 => ⟨?_, h9.2.2⟩)) (fun E M9 h9 => (no_xp1 (z_RR hI.B hr hj) h9.2).elim)
  rw [← h9.2.1]
  rw [cl_nI (n := r) (by omega), cl_nI (n := j) (by omega)]
theorem k_be1 {l : Launch} (hl : l.stackTraces = false) {g : GP} {M : MM} {A : Nat → Nat} {M0 : MM} {σ : ST} {c : Nat} {b : Nat} (hR : CM g A M0 σ M) (hI : Inv c σ) (hb : b < σ.1 6 0) : CT l g yX3_beastIs cX3_beastIs 4 (some .int) 6 138 1 6 [.ref (A 0), .int (nI (b)), .int (nI (1))] M (pI (fun r9 M9 => nI (σ.1 2 b) = r9 ∧ M = M9)) nX := by
  have h6 := hI.B.1
  have h7 := hI.B.2.1
  have h18 := hI.B.2.2.1
  refine ct_mono (c_X3_beastIs hl hR hI.B) (pI_imp (fun v9 M9 h9 => ⟨?_, h9.2.2⟩)) (fun E M9 h9 => (no_xp2 (z_BI hI.B hb (by decide)) h9.2).elim)
  rw [← h9.2.1]
  rw [cl_nI (n := b) (by omega)]
  rfl
theorem k_be2 {l : Launch} (hl : l.stackTraces = false) {g : GP} {M : MM} {A : Nat → Nat} {M0 : MM} {σ : ST} {c : Nat} {b : Nat} (hR : CM g A M0 σ M) (hI : Inv c σ) (hb : b < σ.1 6 0) : CT l g yX3_beastIs cX3_beastIs 4 (some .int) 6 138 1 6 [.ref (A 0), .int (nI (b)), .int (nI (2))] M (pI (fun r9 M9 => nI (σ.1 3 b) = r9 ∧ M = M9)) nX := by
  have h6 := hI.B.1
  have h7 := hI.B.2.1
  have h18 := hI.B.2.2.1
  refine ct_mono (c_X3_beastIs hl hR hI.B) (pI_imp (fun v9 M9 h9 => ⟨?_, h9.2.2⟩)) (fun E M9 h9 => (no_xp2 (z_BI hI.B hb (by decide)) h9.2).elim)
  rw [← h9.2.1]
  rw [cl_nI (n := b) (by omega)]
  rfl
theorem k_be3 {l : Launch} (hl : l.stackTraces = false) {g : GP} {M : MM} {A : Nat → Nat} {M0 : MM} {σ : ST} {c : Nat} {b : Nat} (hR : CM g A M0 σ M) (hI : Inv c σ) (hb : b < σ.1 6 0) : CT l g yX3_beastIs cX3_beastIs 4 (some .int) 6 138 1 6 [.ref (A 0), .int (nI (b)), .int (nI (3))] M (pI (fun r9 M9 => nI (σ.1 4 b) = r9 ∧ M = M9)) nX := by
  have h6 := hI.B.1
  have h7 := hI.B.2.1
  have h18 := hI.B.2.2.1
  refine ct_mono (c_X3_beastIs hl hR hI.B) (pI_imp (fun v9 M9 h9 => ⟨?_, h9.2.2⟩)) (fun E M9 h9 => (no_xp2 (z_BI hI.B hb (by decide)) h9.2).elim)
  rw [← h9.2.1]
  rw [cl_nI (n := b) (by omega)]
  rfl
theorem k_be4 {l : Launch} (hl : l.stackTraces = false) {g : GP} {M : MM} {A : Nat → Nat} {M0 : MM} {σ : ST} {c : Nat} {b : Nat} (hR : CM g A M0 σ M) (hI : Inv c σ) (hb : b < σ.1 6 0) : CT l g yX3_beastIs cX3_beastIs 4 (some .int) 6 138 1 6 [.ref (A 0), .int (nI (b)), .int (nI (4))] M (pI (fun r9 M9 => rkbS σ b = r9 ∧ M = M9)) nX := by
  have h6 := hI.B.1
  have h7 := hI.B.2.1
  have h18 := hI.B.2.2.1
  refine ct_mono (c_X3_beastIs hl hR hI.B) (pI_imp (fun v9 M9 h9 => ⟨?_, h9.2.2⟩)) (fun E M9 h9 => (no_xp2 (z_BI hI.B hb (by decide)) h9.2).elim)
  rw [← h9.2.1]
  rw [cl_nI (n := b) (by omega)]
  rfl
theorem k_most {l : Launch} (hl : l.stackTraces = false) {g : GP} {M : MM} {A : Nat → Nat} {M0 : MM} {σ : ST} {c : Nat} {r : Nat} (hR : CM g A M0 σ M) (hI : Inv c σ) (hr : r < σ.1 18 0) : CT l g yX3_most cX3_most 6 (some .int) 7 192 1 6 [.ref (A 0), .int (nI (r))] M (pI (fun r9 M9 => nI (lstS σ r (2 ^ σ.1 11 r)) = r9 ∧ M = M9)) nX := by
  have h6 := hI.B.1
  have h7 := hI.B.2.1
  have h18 := hI.B.2.2.1
  refine ct_mono (c_X3_most hl hR hI.B hI.W hI.D) (pI_imp (fun v9 M9 h9 => ⟨?_, h9.2.2⟩)) (fun E M9 h9 => (no_xp1 (z_Mo hI.B hr) h9.2).elim)
  rw [← h9.2.1]
  rw [cl_nI (n := r) (by omega)]
theorem k_counts {l : Launch} (hl : l.stackTraces = false) {g : GP} {M : MM} {A : Nat → Nat} {M0 : MM} {σ : ST} {c : Nat} {j : Nat} (hR : CM g A M0 σ M) (hI : Inv c σ) (hj : j < σ.1 7 0) : CT l g yX3_counts cX3_counts 2 (some .int) 7 140 1 6 [.ref (A 0), .int (nI (j))] M (pI (fun r9 M9 => nI (b3T σ j) = r9 ∧ M = M9)) nX := by
  have h6 := hI.B.1
  have h7 := hI.B.2.1
  have h18 := hI.B.2.2.1
  refine ct_mono (c_X3_counts hl hR hI.B hI.D) (pI_imp (fun v9 M9 h9 => ⟨?_, h9.2.2⟩)) (fun E M9 h9 => (no_xp1 (z_Co hI.B hj) h9.2).elim)
  rw [← h9.2.1]
  rw [cl_nI (n := j) (by omega)]
theorem k_balances {l : Launch} (hl : l.stackTraces = false) {g : GP} {M : MM} {A : Nat → Nat} {M0 : MM} {σ : ST} {c : Nat} (hR : CM g A M0 σ M) (hI : Inv c σ) (hT : (allB (ieS σ) (σ.1 18 0) && allB (harS σ) (σ.1 6 0)) = true) : CT l g yX3_balances cX3_balances 2 (some .boolean) 8 199 0 0 [.ref (A 0)] M (pI (fun r9 M9 => nI 1 = r9 ∧ M = M9)) nX := by
  have h := c_X3_balances hl hR hI.B hI.W hI.D
  rw [hT] at h
  exact h
