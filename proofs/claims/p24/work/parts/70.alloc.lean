/-! constructors of the component; a new beast, a new rodeo -/
def PJ (M0 : MM) (ci c0 : Nat) (fs : List Value) (as : List (Nat × va_E)) (M : MM) : Prop := M c0 = some (.inr (ci, fs)) ∧ (∀ x ∈ as, M x.1 = some x.2) ∧ (∀ y, y ≠ c0 → (∀ x ∈ as, y ≠ x.1) → M y = M0 y) ∧ (∀ x ∈ as, x.1 ≠ c0 ∧ M0 x.1 = none) ∧ as.Pairwise (fun x y => x.1 ≠ y.1)
theorem PJ_0 {M : MM} {ci c0 : Nat} {fs : List Value} (h : M c0 = some (.inr (ci, fs))) : PJ M ci c0 fs [] M := ⟨h, (fun x hx => by cases hx), (fun _ _ _ => rfl), (fun x hx => by cases hx), List.Pairwise.nil⟩
theorem PJ_put {M0 M : MM} {ci c0 : Nat} {fs fs' : List Value} {as : List (Nat × va_E)} (h : PJ M0 ci c0 fs as M) : PJ M0 ci c0 fs' as (mup M c0 (.inr (ci, fs'))) := by
  obtain ⟨h1, h2, h3, h4, h5⟩ := h
  exact ⟨mup_s, fun x hx => (mup_n (h4 x hx).1).trans (h2 x hx), fun y hy hn => (mup_n hy).trans (h3 y hy hn), h4, h5⟩
theorem PJ_new {M0 M : MM} {ci c0 q : Nat} {fs : List Value} {e : va_E} {as : List (Nat × va_E)} (h : PJ M0 ci c0 fs as M) (hq : M q = none) : PJ M0 ci c0 fs ((q, e) :: as) (mup M q e) := by
  obtain ⟨h1, h2, h3, h4, h5⟩ := h
  have hc : c0 ≠ q := ne_fr hq h1
  have hx : ∀ x ∈ as, x.1 ≠ q := fun x hx => ne_fr hq (h2 x hx)
  refine ⟨(mup_n hc).trans h1, fun x hx' => ?_, fun y hy hn => ?_, fun x hx' => ?_, List.Pairwise.cons (fun y hy => (hx y hy).symm) h5⟩
  · rcases List.mem_cons.mp hx' with rfl | hx'
    · exact mup_s
    · exact (mup_n (hx x hx')).trans (h2 x hx')
  · rw [mup_n (hn (q, e) List.mem_cons_self)]
    exact h3 y hy (fun x hx' => hn x (List.mem_cons_of_mem _ hx'))
  · rcases List.mem_cons.mp hx' with rfl | hx'
    · refine ⟨hc.symm, ?_⟩
      rw [← h3 q hc.symm (fun x hx' => (hx x hx').symm)]
      exact hq
    · exact h4 x hx'
theorem PJ_hd {M0 M : MM} {ci c0 q : Nat} {fs : List Value} {e : va_E} {as : List (Nat × va_E)} (h : PJ M0 ci c0 fs ((q, e) :: as) M) : M q = some e := h.2.1 _ List.mem_cons_self
theorem PJ_set {M0 M : MM} {ci c0 q : Nat} {fs : List Value} {e e' : va_E} {as : List (Nat × va_E)} (h : PJ M0 ci c0 fs ((q, e) :: as) M) : PJ M0 ci c0 fs ((q, e') :: as) (mup M q e') := by
  obtain ⟨h1, h2, h3, h4, h5⟩ := h
  have hq := h4 _ List.mem_cons_self
  have h6 := List.pairwise_cons.mp h5
  refine ⟨(mup_n hq.1.symm).trans h1, fun x hx => ?_, fun y hy hn => ?_, fun x hx => ?_, List.Pairwise.cons (fun y hy => h6.1 y hy) h6.2⟩
  · rcases List.mem_cons.mp hx with rfl | hx
    · exact mup_s
    · exact (mup_n (h6.1 x hx).symm).trans (h2 x (List.mem_cons_of_mem _ hx))
  · rw [mup_n (hn (q, e') List.mem_cons_self)]
    refine h3 y hy (fun x hx => ?_)
    rcases List.mem_cons.mp hx with rfl | hx
    · exact hn (q, e') List.mem_cons_self
    · exact hn x (List.mem_cons_of_mem _ hx)
  · rcases List.mem_cons.mp hx with rfl | hx
    · exact hq
    · exact h4 x (List.mem_cons_of_mem _ hx)
theorem df_L : ∀ j, j < 3 → defaultValue (tyJx4a65c j) = vp_V [.int 0, .null, .int 0] j := by
  intro j hj
  have : j = 0 ∨ j = 1 ∨ j = 2 := by omega
  rcases this with rfl | rfl | rfl <;> rfl
theorem df_X0 : ∀ j, j < 7 → defaultValue (tyX0 j) = vp_V [.int 0, .int 0, .int 0, .int 0, .int 0, .int 0, .long 0] j := by
  intro j hj
  have : j = 0 ∨ j = 1 ∨ j = 2 ∨ j = 3 ∨ j = 4 ∨ j = 5 ∨ j = 6 := by omega
  rcases this with rfl | rfl | rfl | rfl | rfl | rfl | rfl <;> rfl
theorem df_X1 : ∀ j, j < 11 → defaultValue (tyX1 j) = vp_V [.int 0, .int 0, .int 0, .int 0, .null, .int 0, .int 0, .int 0, .int 0, .int 0, .int 0] j := by
  intro j hj
  have : j = 0 ∨ j = 1 ∨ j = 2 ∨ j = 3 ∨ j = 4 ∨ j = 5 ∨ j = 6 ∨ j = 7 ∨ j = 8 ∨ j = 9 ∨ j = 10 := by omega
  rcases this with rfl | rfl | rfl | rfl | rfl | rfl | rfl | rfl | rfl | rfl | rfl <;> rfl
theorem df_X2 : ∀ j, j < 11 → defaultValue (tyX2 j) = vp_V [.int 0, .int 0, .int 0, .int 0, .int 0, .int 0, .int 0, .null, .null, .int 0, .int 0] j := by
  intro j hj
  have : j = 0 ∨ j = 1 ∨ j = 2 ∨ j = 3 ∨ j = 4 ∨ j = 5 ∨ j = 6 ∨ j = 7 ∨ j = 8 ∨ j = 9 ∨ j = 10 := by omega
  rcases this with rfl | rfl | rfl | rfl | rfl | rfl | rfl | rfl | rfl | rfl | rfl <;> rfl
set_option maxRecDepth 20000 in
theorem w_nX3_9 : Cond.classLink RX3 9 RJx4a65c ∈ TB ∧ Cond.instantiable RJx4a65c 3 ∈ TB ∧ Cond.initialized RJx4a65c ∈ TB := ⟨tb_1 30 rfl rfl, tb_1 31 rfl rfl, it_Jx4a65c⟩
set_option maxRecDepth 20000 in
theorem w_nX2_33 : Cond.classLink RX2 33 RJx4a65c ∈ TB ∧ Cond.instantiable RJx4a65c 3 ∈ TB ∧ Cond.initialized RJx4a65c ∈ TB := ⟨tb_3 169 rfl rfl, tb_1 31 rfl rfl, it_Jx4a65c⟩
set_option maxRecDepth 20000 in
theorem w_nX3_46 : Cond.classLink RX3 46 RX0 ∈ TB ∧ Cond.instantiable RX0 7 ∈ TB ∧ Cond.initialized RX0 ∈ TB := ⟨tb_2 34 rfl rfl, tb_2 98 rfl rfl, it_X0⟩
set_option maxRecDepth 20000 in
theorem w_nX3_70 : Cond.classLink RX3 70 RX2 ∈ TB ∧ Cond.instantiable RX2 11 ∈ TB ∧ Cond.initialized RX2 ∈ TB := ⟨tb_1 163 rfl rfl, tb_3 164 rfl rfl, it_X2⟩
set_option maxRecDepth 20000 in
theorem w_nX3_113 : Cond.classLink RX3 113 RX1 ∈ TB ∧ Cond.instantiable RX1 11 ∈ TB ∧ Cond.initialized RX1 ∈ TB := ⟨tb_1 227 rfl rfl, tb_2 201 rfl rfl, it_X1⟩
set_option maxRecDepth 20000 in
theorem w_nX2_40 : Cond.classLink RX2 40 RX1 ∈ TB := tb_1 174 rfl rfl
theorem ok_1 {a0 a1 a2 a3 a4 a5 a6 : Int32} (h : inR a0 (nI 0) (nI 1) = false) : okRo a0 a1 a2 a3 a4 a5 a6 = false := by unfold okRo; rw [h]; rfl
theorem ok_2 {a0 a1 a2 a3 a4 a5 a6 : Int32} (h : inR a1 (nI 0) (nI 2000) = false) : okRo a0 a1 a2 a3 a4 a5 a6 = false := by unfold okRo; rw [h]; simp
theorem ok_3 {a0 a1 a2 a3 a4 a5 a6 : Int32} (h : inR a2 (nI 0) (nI 60) = false) : okRo a0 a1 a2 a3 a4 a5 a6 = false := by unfold okRo; rw [h]; simp
theorem ok_4 {a0 a1 a2 a3 a4 a5 a6 : Int32} (h : inR a3 (nI 1) (nI 4) = false) : okRo a0 a1 a2 a3 a4 a5 a6 = false := by unfold okRo; rw [h]; simp
theorem ok_5 {a0 a1 a2 a3 a4 a5 a6 : Int32} (h : inR a4 (nI 1) (nI 4) = false) : okRo a0 a1 a2 a3 a4 a5 a6 = false := by unfold okRo; rw [h]; simp
theorem ok_6 {a0 a1 a2 a3 a4 a5 a6 : Int32} (h : inR a5 (nI 0) (nI 99999) = false) : okRo a0 a1 a2 a3 a4 a5 a6 = false := by unfold okRo; rw [h]; simp
theorem ok_7 {a0 a1 a2 a3 a4 a5 a6 : Int32} (h : inR a6 (nI 0) (nI 999) = false) : okRo a0 a1 a2 a3 a4 a5 a6 = false := by unfold okRo; rw [h]; simp
theorem ok_all {a0 a1 a2 a3 a4 a5 a6 : Int32} (h0 : inR a0 (nI 0) (nI 1) = true) (h1 : inR a1 (nI 0) (nI 2000) = true) (h2 : inR a2 (nI 0) (nI 60) = true) (h3 : inR a3 (nI 1) (nI 4) = true) (h4 : inR a4 (nI 1) (nI 4) = true) (h5 : inR a5 (nI 0) (nI 99999) = true) (h6 : inR a6 (nI 0) (nI 999) = true) : okRo a0 a1 a2 a3 a4 a5 a6 = true := by unfold okRo; rw [h0, h1, h2, h3, h4, h5, h6]; rfl
theorem cdRo_n {σ : ST} {a0 a1 a2 a3 a4 a5 a6 : Int32} (h : okRo a0 a1 a2 a3 a4 a5 a6 = false) : cdRo σ a0 a1 a2 a3 a4 a5 a6 = 1 := if_pos h
theorem cdRo_y {σ : ST} {a0 a1 a2 a3 a4 a5 a6 : Int32} (h : okRo a0 a1 a2 a3 a4 a5 a6 = true) (h2 : σ.1 18 0 = 8) : cdRo σ a0 a1 a2 a3 a4 a5 a6 = 2 := (if_neg (by rw [h]; exact Bool.noConfusion)).trans (if_pos h2)
theorem cdRo_z {σ : ST} {a0 a1 a2 a3 a4 a5 a6 : Int32} (h : okRo a0 a1 a2 a3 a4 a5 a6 = true) (h2 : ¬ σ.1 18 0 = 8) : cdRo σ a0 a1 a2 a3 a4 a5 a6 = 0 := (if_neg (by rw [h]; exact Bool.noConfusion)).trans (if_neg h2)
theorem roU_1 {σ : ST} {a0 a1 a2 a3 a4 a5 a6 : Int32} : (roU σ a0 a1 a2 a3 a4 a5 a6).1 = (uN (roA σ (σ.1 18 0) a0 a1 a2 a3 a4 a5 a6) 18 0 (σ.1 18 0 + 1)).1 := by
  unfold roU
  show (fun k' j => if k' = 18 ∧ j = 0 then _ else (roB (roA σ (σ.1 18 0) a0 a1 a2 a3 a4 a5 a6) (σ.1 18 0) 12).1 k' j) = _
  rw [roB_1]
  rfl
theorem roU_18 {σ : ST} {a0 a1 a2 a3 a4 a5 a6 : Int32} : (roU σ a0 a1 a2 a3 a4 a5 a6).1 18 0 = σ.1 18 0 + 1 := by rw [roU_1]; rfl
theorem roU_N {σ : ST} {a0 a1 a2 a3 a4 a5 a6 : Int32} : ∀ s i, ¬ s = 18 → ¬ (8 ≤ s ∧ s ≤ 14) → (roU σ a0 a1 a2 a3 a4 a5 a6).1 s i = σ.1 s i := by
  intro s i h h2
  rw [roU_1]
  simp [uN, roA, h, show ¬ s = 8 by omega, show ¬ s = 9 by omega, show ¬ s = 10 by omega, show ¬ s = 11 by omega, show ¬ s = 12 by omega, show ¬ s = 13 by omega, show ¬ s = 14 by omega]
theorem roU_M {σ : ST} {a0 a1 a2 a3 a4 a5 a6 : Int32} : ∀ s i, ¬ s = 18 → ¬ i = σ.1 18 0 → (roU σ a0 a1 a2 a3 a4 a5 a6).1 s i = σ.1 s i := by
  intro s i h h2
  rw [roU_1]
  simp [uN, roA, h, h2]
theorem roU_B {σ : ST} {b8 b9 b10 b11 b12 b13 b14 : Nat} (h8 : b8 < 2 ^ 31) (h9 : b9 < 2 ^ 31) (h10 : b10 < 2 ^ 31) (h11 : b11 < 2 ^ 31) (h12 : b12 < 2 ^ 31) (h13 : b13 < 2 ^ 31) (h14 : b14 < 2 ^ 31) : ∀ s, 8 ≤ s → s ≤ 14 → (roU σ (nI b8) (nI b9) (nI b10) (nI b11) (nI b12) (nI b13) (nI b14)).1 s (σ.1 18 0) = (fun s9 => if s9 = 8 then b8 else if s9 = 9 then b9 else if s9 = 10 then b10 else if s9 = 11 then b11 else if s9 = 12 then b12 else if s9 = 13 then b13 else b14) s := by
  intro s h1 h2
  rw [roU_1]
  have : s = 8 ∨ s = 9 ∨ s = 10 ∨ s = 11 ∨ s = 12 ∨ s = 13 ∨ s = 14 := by omega
  rcases this with rfl | rfl | rfl | rfl | rfl | rfl | rfl <;> simp [uN, roA, cl_nI, *]
theorem roB_R {σ : ST} {q : Nat} : ∀ j, (roB σ q j).2.1 16 = σ.2.1 16 ∧ (roB σ q j).2.2 = σ.2.2 ∧ ∀ s k, k < 12 * q → (roB σ q j).2.1 s k = σ.2.1 s k
  | 0 => ⟨rfl, rfl, fun _ _ _ => rfl⟩
  | j + 1 => by
    have ih := roB_R (σ := σ) (q := q) j
    refine ⟨?_, ih.2.1, fun s k hk => ?_⟩
    · rw [← ih.1]; rfl
    · rw [← ih.2.2 s k hk]
      simp only [roB, uR]
      rw [if_neg (by omega), if_neg (by omega), if_neg (by omega)]
theorem roU_16 {σ : ST} {a0 a1 a2 a3 a4 a5 a6 : Int32} : (roU σ a0 a1 a2 a3 a4 a5 a6).2.1 16 = σ.2.1 16 := (roB_R (σ := roA σ (σ.1 18 0) a0 a1 a2 a3 a4 a5 a6) 12).1
theorem roU_K {σ : ST} {a0 a1 a2 a3 a4 a5 a6 : Int32} : ∀ s k, k < 12 * σ.1 18 0 → (roU σ a0 a1 a2 a3 a4 a5 a6).2.1 s k = σ.2.1 s k := fun s k hk => (roB_R (σ := roA σ (σ.1 18 0) a0 a1 a2 a3 a4 a5 a6) 12).2.2 s k hk
theorem roU_D {σ : ST} {a0 a1 a2 a3 a4 a5 a6 : Int32} : (roU σ a0 a1 a2 a3 a4 a5 a6).2.2 = σ.2.2 := (roB_R (σ := roA σ (σ.1 18 0) a0 a1 a2 a3 a4 a5 a6) 12).2.1
set_option maxHeartbeats 4000000 in
set_option maxRecDepth 100000 in
theorem c_X0_init {l : Launch} (hl : l.stackTraces = false) {g : GP} {M : MM} {q : Nat} {x0 y0 : Int32} (hM : M q = some (.inr (1, [.int 0, .int 0, .int 0, .int 0, .int 0, .int 0, .long 0]))) : CT l g yX0_init cX0_init 3 (none : Option Jvm.ClassFile.FieldType) 1 50 0 0 [.ref (q), .int (x0), .int (y0)] M (pV (fun M9 => PJ M 1 q [.int x0, .int y0, .int 0, .int 0, .int 0, .int 0, .long 0] [] M9)) nX := by
  refine ct_ofN [(0, .ref (q)), (1, .int (x0)), (2, .int (y0))] (by decide) hl (Nat.le_of_ble_eq_true rfl) rfl ?_
  intro K hK hNm F
  subst hK
  have F : Fx K g cX0_init RX0 3 (none : Option Jvm.ClassFile.FieldType) [] 1 50 0 0 := F
  have hNm : (kme K).name = "<init>" := hNm
  obtain ⟨Q, hQ⟩ : ∃ Q, Q = MQx K g (pV (fun M9 => PJ M 1 q [.int x0, .int y0, .int 0, .int 0, .int 0, .int 0, .long 0] [] M9)) nX 0 0 := ⟨_, rfl⟩
  rw [← hQ]
  have h0 := PJ_0 hM
  refine x_aload_n F 0 dX0_init_0 rfl ?_
  refine x_objInit F o_X0_1.1 o_X0_1.2.1 o_X0_1.2.2 dX0_init_1 ⟨by decide, Nat.le_of_ble_eq_true rfl⟩ ?_
  refine x_aload_n F 0 dX0_init_4 rfl ?_
  refine x_iload_n F 1 dX0_init_5 rfl ?_
  refine x_fputF F p_X0_7 hNm h0.1 rfl rfl dX0_init_6 rfl rfl (Nat.le_of_ble_eq_true rfl) ?_
  have h1 := PJ_put (fs' := [.int (x0), .int 0, .int 0, .int 0, .int 0, .int 0, .long 0]) h0
  refine x_aload_n F 0 dX0_init_9 rfl ?_
  refine x_iload_n F 2 dX0_init_10 rfl ?_
  refine x_fputF F p_X0_13 hNm h1.1 rfl rfl dX0_init_11 rfl rfl (Nat.le_of_ble_eq_true rfl) ?_
  have h2 := PJ_put (fs' := [.int (x0), .int (y0), .int 0, .int 0, .int 0, .int 0, .long 0]) h1
  rw [hQ]
  exact x_vret F dX0_init_14 (by decide) ⟨rfl, h2⟩
set_option maxHeartbeats 4000000 in
set_option maxRecDepth 100000 in
theorem c_X1_init {l : Launch} (hl : l.stackTraces = false) {g : GP} {M : MM} {q : Nat} {x0 y0 z0 : Int32} (hM : M q = some (.inr (2, [.int 0, .int 0, .int 0, .int 0, .null, .int 0, .int 0, .int 0, .int 0, .int 0, .int 0]))) : CT l g yX1_init cX1_init 4 (none : Option Jvm.ClassFile.FieldType) 1 50 0 0 [.ref (q), .int (x0), .int (y0), .int (z0)] M (pV (fun M9 => PJ M 2 q [.int x0, .int y0, .int z0, .int (-1), .null, .int 0, .int 0, .int 0, .int 0, .int (-1), .int 0] [] M9)) nX := by
  refine ct_ofN [(0, .ref (q)), (1, .int (x0)), (2, .int (y0)), (3, .int (z0))] (by decide) hl (Nat.le_of_ble_eq_true rfl) rfl ?_
  intro K hK hNm F
  subst hK
  have F : Fx K g cX1_init RX1 4 (none : Option Jvm.ClassFile.FieldType) [] 1 50 0 0 := F
  have hNm : (kme K).name = "<init>" := hNm
  obtain ⟨Q, hQ⟩ : ∃ Q, Q = MQx K g (pV (fun M9 => PJ M 2 q [.int x0, .int y0, .int z0, .int (-1), .null, .int 0, .int 0, .int 0, .int 0, .int (-1), .int 0] [] M9)) nX 0 0 := ⟨_, rfl⟩
  rw [← hQ]
  have h0 := PJ_0 hM
  refine x_aload_n F 0 dX1_init_0 rfl ?_
  refine x_objInit F o_X1_3.1 o_X1_3.2.1 o_X1_3.2.2 dX1_init_1 ⟨by decide, Nat.le_of_ble_eq_true rfl⟩ ?_
  refine x_aload_n F 0 dX1_init_4 rfl ?_
  refine x_iload_n F 1 dX1_init_5 rfl ?_
  refine x_fputF F p_X1_9 hNm h0.1 rfl rfl dX1_init_6 rfl rfl (Nat.le_of_ble_eq_true rfl) ?_
  have h1 := PJ_put (fs' := [.int (x0), .int 0, .int 0, .int 0, .null, .int 0, .int 0, .int 0, .int 0, .int 0, .int 0]) h0
  refine x_aload_n F 0 dX1_init_9 rfl ?_
  refine x_iload_n F 2 dX1_init_10 rfl ?_
  refine x_fputF F p_X1_15 hNm h1.1 rfl rfl dX1_init_11 rfl rfl (Nat.le_of_ble_eq_true rfl) ?_
  have h2 := PJ_put (fs' := [.int (x0), .int (y0), .int 0, .int 0, .null, .int 0, .int 0, .int 0, .int 0, .int 0, .int 0]) h1
  refine x_aload_n F 0 dX1_init_14 rfl ?_
  refine x_iload_n F 3 dX1_init_15 rfl ?_
  refine x_fputF F p_X1_18 hNm h2.1 rfl rfl dX1_init_16 rfl rfl (Nat.le_of_ble_eq_true rfl) ?_
  have h3 := PJ_put (fs' := [.int (x0), .int (y0), .int (z0), .int 0, .null, .int 0, .int 0, .int 0, .int 0, .int 0, .int 0]) h2
  refine x_aload_n F 0 dX1_init_19 rfl ?_
  refine x_iconst F ((-1)) dX1_init_20 (by decide) ?_
  refine x_fput F p_X1_21 h3.1 rfl dX1_init_21 rfl rfl (Nat.le_of_ble_eq_true rfl) ?_
  have h4 := PJ_put (fs' := [.int (x0), .int (y0), .int (z0), .int ((-1)), .null, .int 0, .int 0, .int 0, .int 0, .int 0, .int 0]) h3
  refine x_aload_n F 0 dX1_init_24 rfl ?_
  refine x_iconst F ((-1)) dX1_init_25 (by decide) ?_
  refine x_fput F p_X1_24 h4.1 rfl dX1_init_26 rfl rfl (Nat.le_of_ble_eq_true rfl) ?_
  have h5 := PJ_put (fs' := [.int (x0), .int (y0), .int (z0), .int ((-1)), .null, .int 0, .int 0, .int 0, .int 0, .int ((-1)), .int 0]) h4
  rw [hQ]
  exact x_vret F dX1_init_29 (by decide) ⟨rfl, h5⟩
set_option maxHeartbeats 4000000 in
set_option maxRecDepth 100000 in
theorem c_X2_init {l : Launch} (hl : l.stackTraces = false) {g : GP} {M : MM} {q : Nat} {a0 a1 a2 a3 a4 a5 a6 : Int32} (hM : M q = some (.inr (3, [.int 0, .int 0, .int 0, .int 0, .int 0, .int 0, .int 0, .null, .null, .int 0, .int 0]))) : CT l g yX2_init cX2_init 8 (none : Option Jvm.ClassFile.FieldType) 4 110 2 15 [.ref (q), .int (a0), .int (a1), .int (a2), .int (a3), .int (a4), .int (a5), .int (a6)] M (pV (fun M9 => ∃ q1 q2, PJ M 3 q [.int a0, .int a1, .int a2, .int a3, .int a4, .int a5, .int a6, .ref q1, .ref q2, .int 0, .int 0] [(q2, .inl (gC g 4, 12, .inr (.inr (.inr (.inr (fun _ => none)))))), (q1, lE (nI 0) (nI 0) (gA g 0))] M9)) nX := by
  refine ct_ofN [(0, .ref (q)), (1, .int (a0)), (2, .int (a1)), (3, .int (a2)), (4, .int (a3)), (5, .int (a4)), (6, .int (a5)), (7, .int (a6))] (by decide) hl (Nat.le_of_ble_eq_true rfl) rfl ?_
  intro K hK hNm F
  subst hK
  have F : Fx K g cX2_init RX2 8 (none : Option Jvm.ClassFile.FieldType) [] 4 110 2 15 := F
  have hNm : (kme K).name = "<init>" := hNm
  obtain ⟨Q, hQ⟩ : ∃ Q, Q = MQx K g (pV (fun M9 => ∃ q1 q2, PJ M 3 q [.int a0, .int a1, .int a2, .int a3, .int a4, .int a5, .int a6, .ref q1, .ref q2, .int 0, .int 0] [(q2, .inl (gC g 4, 12, .inr (.inr (.inr (.inr (fun _ => none)))))), (q1, lE (nI 0) (nI 0) (gA g 0))] M9)) nX 2 15 := ⟨_, rfl⟩
  rw [← hQ]
  have h0 := PJ_0 hM
  refine x_aload_n F 0 dX2_init_0 rfl ?_
  refine x_objInit F o_X2_3.1 o_X2_3.2.1 o_X2_3.2.2 dX2_init_1 ⟨by decide, Nat.le_of_ble_eq_true rfl⟩ ?_
  refine x_aload_n F 0 dX2_init_4 rfl ?_
  refine x_iload_n F 1 dX2_init_5 rfl ?_
  refine x_fputF F p_X2_9 hNm h0.1 rfl rfl dX2_init_6 rfl rfl (Nat.le_of_ble_eq_true rfl) ?_
  have h1 := PJ_put (fs' := [.int (a0), .int 0, .int 0, .int 0, .int 0, .int 0, .int 0, .null, .null, .int 0, .int 0]) h0
  refine x_aload_n F 0 dX2_init_9 rfl ?_
  refine x_iload_n F 2 dX2_init_10 rfl ?_
  refine x_fputF F p_X2_15 hNm h1.1 rfl rfl dX2_init_11 rfl rfl (Nat.le_of_ble_eq_true rfl) ?_
  have h2 := PJ_put (fs' := [.int (a0), .int (a1), .int 0, .int 0, .int 0, .int 0, .int 0, .null, .null, .int 0, .int 0]) h1
  refine x_aload_n F 0 dX2_init_14 rfl ?_
  refine x_iload_n F 3 dX2_init_15 rfl ?_
  refine x_fputF F p_X2_18 hNm h2.1 rfl rfl dX2_init_16 rfl rfl (Nat.le_of_ble_eq_true rfl) ?_
  have h3 := PJ_put (fs' := [.int (a0), .int (a1), .int (a2), .int 0, .int 0, .int 0, .int 0, .null, .null, .int 0, .int 0]) h2
  refine x_aload_n F 0 dX2_init_19 rfl ?_
  refine x_iload F 4 dX2_init_20 rfl ?_
  refine x_fputF F p_X2_21 hNm h3.1 rfl rfl dX2_init_22 rfl rfl (Nat.le_of_ble_eq_true rfl) ?_
  have h4 := PJ_put (fs' := [.int (a0), .int (a1), .int (a2), .int (a3), .int 0, .int 0, .int 0, .null, .null, .int 0, .int 0]) h3
  refine x_aload_n F 0 dX2_init_25 rfl ?_
  refine x_iload F 5 dX2_init_26 rfl ?_
  refine x_fputF F p_X2_24 hNm h4.1 rfl rfl dX2_init_28 rfl rfl (Nat.le_of_ble_eq_true rfl) ?_
  have h5 := PJ_put (fs' := [.int (a0), .int (a1), .int (a2), .int (a3), .int (a4), .int 0, .int 0, .null, .null, .int 0, .int 0]) h4
  refine x_aload_n F 0 dX2_init_31 rfl ?_
  refine x_iload F 6 dX2_init_32 rfl ?_
  refine x_fputF F p_X2_27 hNm h5.1 rfl rfl dX2_init_34 rfl rfl (Nat.le_of_ble_eq_true rfl) ?_
  have h6 := PJ_put (fs' := [.int (a0), .int (a1), .int (a2), .int (a3), .int (a4), .int (a5), .int 0, .null, .null, .int 0, .int 0]) h5
  refine x_aload_n F 0 dX2_init_37 rfl ?_
  refine x_iload F 7 dX2_init_38 rfl ?_
  refine x_fputF F p_X2_30 hNm h6.1 rfl rfl dX2_init_40 rfl rfl (Nat.le_of_ble_eq_true rfl) ?_
  have h7 := PJ_put (fs' := [.int (a0), .int (a1), .int (a2), .int (a3), .int (a4), .int (a5), .int (a6), .null, .null, .int 0, .int 0]) h6
  refine x_aload_n F 0 dX2_init_43 rfl ?_
  refine x_new F (ci := 0) (fs := [.int 0, .null, .int 0]) tyJx4a65c rfl inT_Jx4a65c tyJx4a65c_ok w_nX2_33.1 w_nX2_33.2.1 w_nX2_33.2.2 df_L ⟨by decide, by decide⟩ dX2_init_44 (fun q0 zq0 _ => ?_)
  have h8 := PJ_new (e := .inr (0, [.int 0, .null, .int 0])) h7 zq0
  refine x_dup F dX2_init_47 rfl ?_
  refine x_callI F s_X2_35 rfl (c_Jx4a65c_init_da8c8 F.nt (mv := 0) (d := .null) (PJ_hd h8)) rfl dX2_init_48 (by decide) (by decide) (Nat.le_of_ble_eq_true rfl) (kv fun M9 hp9 => ?_)
  subst hp9
  have h9 := PJ_set (e' := lE (nI 0) (nI 0) (gA g 0)) h8
  refine x_fputF F p_X2_36 hNm h9.1 rfl rfl dX2_init_51 rfl rfl (Nat.le_of_ble_eq_true rfl) ?_
  have h10 := PJ_put (fs' := [.int (a0), .int (a1), .int (a2), .int (a3), .int (a4), .int (a5), .int (a6), .ref (q0), .null, .int 0, .int 0]) h9
  refine x_aload_n F 0 dX2_init_54 rfl ?_
  refine x_bipush F (nI 12) dX2_init_55 (by decide) ?_
  refine x_newE F 12 w_nX2_40 (nI_nn (by decide)) (nI_clamp (by decide)) (by decide) ⟨by decide, by decide⟩ dX2_init_57 (fun q1 zq1 _ => ?_)
  have h11 := PJ_new (e := .inl (gC g 4, 12, .inr (.inr (.inr (.inr (fun _ => none)))))) h10 zq1
  refine x_fputF F p_X2_42 hNm h11.1 rfl rfl dX2_init_60 rfl rfl (Nat.le_of_ble_eq_true rfl) ?_
  have h12 := PJ_put (fs' := [.int (a0), .int (a1), .int (a2), .int (a3), .int (a4), .int (a5), .int (a6), .ref (q0), .ref (q1), .int 0, .int 0]) h11
  refine x_aload_n F 0 dX2_init_63 rfl ?_
  refine x_iconst F (nI 0) dX2_init_64 (by decide) ?_
  refine x_fput F p_X2_46 h12.1 rfl dX2_init_65 rfl rfl (Nat.le_of_ble_eq_true rfl) ?_
  have h13 := PJ_put (fs' := [.int (a0), .int (a1), .int (a2), .int (a3), .int (a4), .int (a5), .int (a6), .ref (q0), .ref (q1), .int (nI (0)), .int 0]) h12
  rw [hQ]
  exact x_vret F dX2_init_68 (by decide) ⟨rfl, ⟨_, _, h13⟩⟩
set_option maxHeartbeats 4000000 in
set_option maxRecDepth 100000 in
theorem c_X3_init {l : Launch} (hl : l.stackTraces = false) {g : GP} {M : MM} {q : Nat}  (hM : M q = some (.inr (4, [.null, .null, .int 0, .int 0]))) : CT l g yX3_init cX3_init 1 (none : Option Jvm.ClassFile.FieldType) 4 110 2 6 [.ref (q)] M (pV (fun M9 => ∃ q1 q2, PJ M 4 q [.ref q1, .ref q2, .int (nI 0), .int (nI 1)] [(q2, lE (nI 0) (nI 0) (gA g 0)), (q1, lE (nI 0) (nI 0) (gA g 0))] M9)) nX := by
  refine ct_ofN [(0, .ref (q))] (by decide) hl (Nat.le_of_ble_eq_true rfl) rfl ?_
  intro K hK hNm F
  subst hK
  have F : Fx K g cX3_init RX3 1 (none : Option Jvm.ClassFile.FieldType) [] 4 110 2 6 := F
  have hNm : (kme K).name = "<init>" := hNm
  obtain ⟨Q, hQ⟩ : ∃ Q, Q = MQx K g (pV (fun M9 => ∃ q1 q2, PJ M 4 q [.ref q1, .ref q2, .int (nI 0), .int (nI 1)] [(q2, lE (nI 0) (nI 0) (gA g 0)), (q1, lE (nI 0) (nI 0) (gA g 0))] M9)) nX 2 6 := ⟨_, rfl⟩
  rw [← hQ]
  have h0 := PJ_0 hM
  refine x_aload_n F 0 dX3_init_0 rfl ?_
  refine x_objInit F o_X3_3.1 o_X3_3.2.1 o_X3_3.2.2 dX3_init_1 ⟨by decide, Nat.le_of_ble_eq_true rfl⟩ ?_
  refine x_aload_n F 0 dX3_init_4 rfl ?_
  refine x_new F (ci := 0) (fs := [.int 0, .null, .int 0]) tyJx4a65c rfl inT_Jx4a65c tyJx4a65c_ok w_nX3_9.1 w_nX3_9.2.1 w_nX3_9.2.2 df_L ⟨by decide, by decide⟩ dX3_init_5 (fun q0 zq0 _ => ?_)
  have h1 := PJ_new (e := .inr (0, [.int 0, .null, .int 0])) h0 zq0
  refine x_dup F dX3_init_8 rfl ?_
  refine x_callI F s_X3_11 rfl (c_Jx4a65c_init_da8c8 F.nt (mv := 0) (d := .null) (PJ_hd h1)) rfl dX3_init_9 (by decide) (by decide) (Nat.le_of_ble_eq_true rfl) (kv fun M9 hp9 => ?_)
  subst hp9
  have h2 := PJ_set (e' := lE (nI 0) (nI 0) (gA g 0)) h1
  refine x_fputF F p_X3_12 hNm h2.1 rfl rfl dX3_init_12 rfl rfl (Nat.le_of_ble_eq_true rfl) ?_
  have h3 := PJ_put (fs' := [.ref (q0), .null, .int 0, .int 0]) h2
  refine x_aload_n F 0 dX3_init_15 rfl ?_
  refine x_new F (ci := 0) (fs := [.int 0, .null, .int 0]) tyJx4a65c rfl inT_Jx4a65c tyJx4a65c_ok w_nX3_9.1 w_nX3_9.2.1 w_nX3_9.2.2 df_L ⟨by decide, by decide⟩ dX3_init_16 (fun q1 zq1 _ => ?_)
  have h4 := PJ_new (e := .inr (0, [.int 0, .null, .int 0])) h3 zq1
  refine x_dup F dX3_init_19 rfl ?_
  refine x_callI F s_X3_11 rfl (c_Jx4a65c_init_da8c8 F.nt (mv := 0) (d := .null) (PJ_hd h4)) rfl dX3_init_20 (by decide) (by decide) (Nat.le_of_ble_eq_true rfl) (kv fun M9 hp9 => ?_)
  subst hp9
  have h5 := PJ_set (e' := lE (nI 0) (nI 0) (gA g 0)) h4
  refine x_fputF F p_X3_16 hNm h5.1 rfl rfl dX3_init_23 rfl rfl (Nat.le_of_ble_eq_true rfl) ?_
  have h6 := PJ_put (fs' := [.ref (q0), .ref (q1), .int 0, .int 0]) h5
  refine x_aload_n F 0 dX3_init_26 rfl ?_
  refine x_iconst F (nI 0) dX3_init_27 (by decide) ?_
  refine x_fput F p_X3_19 h6.1 rfl dX3_init_28 rfl rfl (Nat.le_of_ble_eq_true rfl) ?_
  have h7 := PJ_put (fs' := [.ref (q0), .ref (q1), .int (nI (0)), .int 0]) h6
  refine x_aload_n F 0 dX3_init_31 rfl ?_
  refine x_iconst F (nI 1) dX3_init_32 (by decide) ?_
  refine x_fput F p_X3_23 h7.1 rfl dX3_init_33 rfl rfl (Nat.le_of_ble_eq_true rfl) ?_
  have h8 := PJ_put (fs' := [.ref (q0), .ref (q1), .int (nI (0)), .int (nI (1))]) h7
  rw [hQ]
  exact x_vret F dX3_init_36 (by decide) ⟨rfl, ⟨_, _, h8⟩⟩
set_option maxHeartbeats 4000000 in
set_option maxRecDepth 100000 in
theorem c_X3_beast {l : Launch} (hl : l.stackTraces = false) {g : GP} {M : MM} {A : Nat → Nat} {M0 : MM} {σ : ST} {x0 : Int32} (hR : CM g A M0 σ M) (hB : Bd σ) (hbs : IBe σ) (hz : ∀ b, σ.1 6 0 ≤ b → σ.1 2 b = 0 ∧ σ.1 3 b = 0 ∧ σ.1 4 b = 0 ∧ σ.1 42 b = 0 ∧ σ.2.2 b = 0) : CT l g yX3_beast cX3_beast 3 (some .int) 7 190 2 29 [.ref (A 0), .int (x0)] M (pI (fun r9 M9 => cdBe σ x0 = 0 ∧ nI (σ.1 6 0) = r9 ∧ ∃ A2, A2 0 = A 0 ∧ CM g A2 M (beU σ x0) M9 ∧ ∀ c, lvB (beU σ x0) c = true → (lvB σ c = true ∧ A2 c = A c) ∨ M (A2 c) = none)) (fun E M9 => M = M9 ∧ xp2 E (cdBe σ x0) sIA sIS) := by
  refine ct_of [(0, .ref (A 0)), (1, .int (x0))] (by decide) hl (Nat.le_of_ble_eq_true rfl) rfl ?_
  intro K hK F
  subst hK
  have F : Fx K g cX3_beast RX3 3 (some .int) [] 7 190 2 29 := F
  obtain ⟨Q, hQ⟩ : ∃ Q, Q = MQx K g (pI (fun r9 M9 => cdBe σ x0 = 0 ∧ nI (σ.1 6 0) = r9 ∧ ∃ A2, A2 0 = A 0 ∧ CM g A2 M (beU σ x0) M9 ∧ ∀ c, lvB (beU σ x0) c = true → (lvB σ c = true ∧ A2 c = A c) ∨ M (A2 c) = none)) ((fun E M9 => M = M9 ∧ xp2 E (cdBe σ x0) sIA sIS)) 2 29 := ⟨_, rfl⟩
  rw [← hQ]
  have hB9 := hB
  obtain ⟨h6, h7, h18, hr8, hk96, hp96, hb16, hh⟩ := hB9
  refine x_iload_n F 1 dX3_beast_0 rfl ?_
  refine x_callS F s_X3_26 rfl (c_X3_isKind F.nt ) rfl dX3_beast_1 (by decide) (by decide) (Nat.le_of_ble_eq_true rfl) x_noX (ki fun r M2 hp => ?_)
  obtain ⟨rfl, rfl⟩ := hp
  refine x_if_ne F 17 dX3_beast_4 (by decide) (fun c4 => ?_) (fun c4 => ?_)
  · have c4 := nI_bz1.mp c4
    refine x_aload_n F 0 dX3_beast_17 rfl ?_
    refine x_fget F f_X3_12 hR.c (v := .ref (A 1)) dX3_beast_18 rfl ?_
    refine x_callV F s_X3_37 hR.lb rfl rfl (c_lsize F.nt hR.lb) rfl dX3_beast_21 (by decide) (by decide) (Nat.le_of_ble_eq_true rfl) x_noX (ki fun r_2 M2_2 hp_2 => ?_)
    obtain ⟨rfl, rfl⟩ := hp_2
    refine x_bipush F (nI 16) dX3_beast_24 (by decide) ?_
    refine x_icmp_lt F 39 dX3_beast_26 (by decide) (fun c26 => ?_) (fun c26 => ?_)
    · have c26 := (nI_ltI (by omega) (by omega)).mp c26
      have c26b := Nat.not_le.mpr c26
      have hcd : cdBe σ x0 = 0 := by (unfold cdBe; rw [if_neg (by rw [c4]; exact Bool.noConfusion)]; exact if_neg (by omega))
      obtain ⟨kd, -, hkd, rfl⟩ := inR_t (by decide) (by decide) c4
      refine x_aload_n F 0 dX3_beast_39 rfl ?_
      refine x_fget F f_X3_12 hR.c (v := .ref (A 1)) dX3_beast_40 rfl ?_
      refine x_callV F s_X3_37 hR.lb rfl rfl (c_lsize F.nt hR.lb) rfl dX3_beast_43 (by decide) (by decide) (Nat.le_of_ble_eq_true rfl) x_noX (ki fun r_3 M2_3 hp_3 => ?_)
      obtain ⟨rfl, rfl⟩ := hp_3
      refine x_istore_n F [(2, .int (nI (σ.1 6 0))), (0, .ref (A 0)), (1, .int (nI (kd)))] dX3_beast_46 (by decide) rfl ?_
      refine x_aload_n F 1 dX3_beast_47 rfl ?_
      refine x_fget F f_X3_12 hR.c (v := .ref (A 1)) dX3_beast_48 rfl ?_
      refine x_new F (ci := 1) (fs := [.int 0, .int 0, .int 0, .int 0, .int 0, .int 0, .long 0]) tyX0 rfl inT_X0 tyX0_ok w_nX3_46.1 w_nX3_46.2.1 w_nX3_46.2.2 df_X0 ⟨by decide, by decide⟩ dX3_beast_51 (fun q zq _ => ?_)
      refine x_dup F dX3_beast_54 rfl ?_
      refine x_iload_n F 0 dX3_beast_55 rfl ?_
      refine x_iload_n F 2 dX3_beast_56 rfl ?_
      refine x_callI F s_X3_48 rfl (c_X0_init F.nt mup_s) rfl dX3_beast_57 (by decide) (by decide) (Nat.le_of_ble_eq_true rfl) (kv fun M2 hp2 => ?_)
      have n1 : A 1 ≠ q := ne_fr zq hR.lb
      have fr2 : ∀ x9, x9 ≠ q → M2 x9 = M x9 := fun x9 h9 => (hp2.2.2.1 x9 h9 (fun y9 h8 => by cases h8)).trans (mup_n h9)
      have hql : ∀ c, lvB σ c = true → A c ≠ q := fun c hc => ne_fr zq (hR.1 c hc)
      refine x_callV F s_X3_51 ((fr2 _ n1).trans hR.lb) rfl rfl (c_lapp F.nt (ad := fun i => A (10 + i)) ((fr2 _ n1).trans hR.lb) (fun h0 => (fr2 _ (hql 2 (lvB_iff.mpr (Or.inr (Or.inr (Or.inl ⟨rfl, h0⟩)))))).trans (hR.db h0)) (by omega) (rfl : vwCl[1]? = some (RX0, TX0, 7)) (by decide) (fun i9 h9 => ⟨_, (fr2 _ (hql _ (lv_b h9 (by omega)))).trans (hR.b h9 (by omega))⟩) hp2.1 (by decide)) rfl dX3_beast_60 (by decide) (by decide) (Nat.le_of_ble_eq_true rfl) x_noX (ki fun r9 M9 hp9 => ?_)
      obtain ⟨rfl, hL⟩ := hp9
      refine x_pop F dX3_beast_63 rfl ?_
      refine x_iload_n F 0 dX3_beast_64 rfl ?_
      rw [hQ]
      exact x_iret F dX3_beast_65 (by decide) ⟨_, rfl, hcd, rfl, by (have hG := CM_be hR (by omega) hbs (hz _ (Nat.le_refl _)) zq hp2.1 fr2 hL); unfold beU; rw [cl_nI (n := kd) (by omega)]; exact hG⟩
    · have c26 := mt (nI_ltI (by omega) (by omega)).mpr c26
      have c26b := Nat.not_lt.mp c26
      rw [hQ]
      exact x_throw F th_IS (text := "no more beasts") (by decide +kernel) dX3_beast_29 dX3_beast_32 dX3_beast_33 dX3_beast_35 dX3_beast_38 ⟨by decide, Nat.le_of_ble_eq_true rfl, by decide, by decide⟩ (⟨rfl, Or.inr ⟨rfl, (by unfold cdBe; rw [if_neg (by rw [c4]; exact Bool.noConfusion)]; exact if_pos (by omega))⟩⟩)
  · have c4 := nI_bz0.mp c4
    rw [hQ]
    exact x_throw F th_IA (text := "no such kind") (by decide +kernel) dX3_beast_7 dX3_beast_10 dX3_beast_11 dX3_beast_13 dX3_beast_16 ⟨by decide, Nat.le_of_ble_eq_true rfl, by decide, by decide⟩ (⟨rfl, Or.inl ⟨rfl, if_pos c4⟩⟩)
set_option maxHeartbeats 4000000 in
set_option maxRecDepth 100000 in
theorem c_X3_rodeo {l : Launch} (hl : l.stackTraces = false) {g : GP} {M : MM} {A : Nat → Nat} {M0 : MM} {σ : ST} {a0 a1 a2 a3 a4 a5 a6 : Int32} (hR : CM g A M0 σ M) (hB : Bd σ) (hW : IW σ) (hbs : IBe σ) (hz : (∀ k, k < 96 → σ.1 41 k = 1 → k < 12 * σ.1 18 0) ∧ (∀ r, σ.1 18 0 ≤ r → σ.1 15 r = 0 ∧ σ.1 17 r = 0 ∧ σ.2.1 16 r = 0)) : CT l g yX3_rodeo cX3_rodeo 8 (some .int) 7 190 4 55 [.ref (A 0), .int (a0), .int (a1), .int (a2), .int (a3), .int (a4), .int (a5), .int (a6)] M (pI (fun r9 M9 => cdRo σ a0 a1 a2 a3 a4 a5 a6 = 0 ∧ nI (σ.1 18 0) = r9 ∧ ∃ A2, A2 0 = A 0 ∧ CM g A2 M (roU σ a0 a1 a2 a3 a4 a5 a6) M9 ∧ ∀ c, lvB (roU σ a0 a1 a2 a3 a4 a5 a6) c = true → (lvB σ c = true ∧ A2 c = A c) ∨ M (A2 c) = none)) (fun E M9 => M = M9 ∧ xp2 E (cdRo σ a0 a1 a2 a3 a4 a5 a6) sIA sIS) := by
  refine ct_of [(0, .ref (A 0)), (1, .int (a0)), (2, .int (a1)), (3, .int (a2)), (4, .int (a3)), (5, .int (a4)), (6, .int (a5)), (7, .int (a6))] (by decide) hl (Nat.le_of_ble_eq_true rfl) rfl ?_
  intro K hK F
  subst hK
  have F : Fx K g cX3_rodeo RX3 8 (some .int) [] 7 190 4 55 := F
  obtain ⟨Q, hQ⟩ : ∃ Q, Q = MQx K g (pI (fun r9 M9 => cdRo σ a0 a1 a2 a3 a4 a5 a6 = 0 ∧ nI (σ.1 18 0) = r9 ∧ ∃ A2, A2 0 = A 0 ∧ CM g A2 M (roU σ a0 a1 a2 a3 a4 a5 a6) M9 ∧ ∀ c, lvB (roU σ a0 a1 a2 a3 a4 a5 a6) c = true → (lvB σ c = true ∧ A2 c = A c) ∨ M (A2 c) = none)) ((fun E M9 => M = M9 ∧ xp2 E (cdRo σ a0 a1 a2 a3 a4 a5 a6) sIA sIS)) 4 55 := ⟨_, rfl⟩
  rw [← hQ]
  have hB9 := hB
  obtain ⟨h6, h7, h18, hr8, hk96, hp96, hb16, hh⟩ := hB9
  refine x_iload_n F 1 dX3_rodeo_0 rfl ?_
  refine x_callS F s_X3_26 rfl (c_X3_isKind F.nt ) rfl dX3_rodeo_1 (by decide) (by decide) (Nat.le_of_ble_eq_true rfl) x_noX (ki fun r M2 hp => ?_)
  obtain ⟨rfl, rfl⟩ := hp
  refine x_if_eq F 28 dX3_rodeo_4 (by decide) (fun c4 => ?_) (fun c4 => ?_)
  · have c4 := nI_bz0.mp c4
    rw [hQ]
    exact x_throw F th_IA (text := "kind, mile or first day") (by decide +kernel) dX3_rodeo_28 dX3_rodeo_31 dX3_rodeo_32 dX3_rodeo_34 dX3_rodeo_37 ⟨by decide, Nat.le_of_ble_eq_true rfl, by decide, by decide⟩ (⟨rfl, Or.inl ⟨rfl, by first | exact cdRo_n (ok_1 c4) | exact cdRo_n (ok_2 c15) | exact cdRo_n (ok_3 c25)⟩⟩)
  · have c4 := nI_bz1.mp c4
    refine x_iload_n F 2 dX3_rodeo_7 rfl ?_
    refine x_iconst F (nI 0) dX3_rodeo_8 (by decide) ?_
    refine x_sipush F (nI 2000) dX3_rodeo_9 (by decide) ?_
    refine x_callS F s_X3_57 rfl (c_X3_isWithin F.nt ) rfl dX3_rodeo_12 (by decide) (by decide) (Nat.le_of_ble_eq_true rfl) x_noX (ki fun r_2 M2_2 hp_2 => ?_)
    obtain ⟨rfl, rfl⟩ := hp_2
    refine x_if_eq F 28 dX3_rodeo_15 (by decide) (fun c15 => ?_) (fun c15 => ?_)
    · have c15 := nI_bz0.mp c15
      rw [hQ]
      exact x_throw F th_IA (text := "kind, mile or first day") (by decide +kernel) dX3_rodeo_28 dX3_rodeo_31 dX3_rodeo_32 dX3_rodeo_34 dX3_rodeo_37 ⟨by decide, Nat.le_of_ble_eq_true rfl, by decide, by decide⟩ (⟨rfl, Or.inl ⟨rfl, by first | exact cdRo_n (ok_1 c4) | exact cdRo_n (ok_2 c15) | exact cdRo_n (ok_3 c25)⟩⟩)
    · have c15 := nI_bz1.mp c15
      refine x_iload_n F 3 dX3_rodeo_18 rfl ?_
      refine x_iconst F (nI 0) dX3_rodeo_19 (by decide) ?_
      refine x_bipush F (nI 60) dX3_rodeo_20 (by decide) ?_
      refine x_callS F s_X3_57 rfl (c_X3_isWithin F.nt ) rfl dX3_rodeo_22 (by decide) (by decide) (Nat.le_of_ble_eq_true rfl) x_noX (ki fun r_3 M2_3 hp_3 => ?_)
      obtain ⟨rfl, rfl⟩ := hp_3
      refine x_if_ne F 38 dX3_rodeo_25 (by decide) (fun c25 => ?_) (fun c25 => ?_)
      · have c25 := nI_bz1.mp c25
        refine x_iload F 4 dX3_rodeo_38 rfl ?_
        refine x_iconst F (nI 1) dX3_rodeo_40 (by decide) ?_
        refine x_iconst F (nI 4) dX3_rodeo_41 (by decide) ?_
        refine x_callS F s_X3_57 rfl (c_X3_isWithin F.nt ) rfl dX3_rodeo_42 (by decide) (by decide) (Nat.le_of_ble_eq_true rfl) x_noX (ki fun r_4 M2_4 hp_4 => ?_)
        obtain ⟨rfl, rfl⟩ := hp_4
        refine x_if_eq F 58 dX3_rodeo_45 (by decide) (fun c45 => ?_) (fun c45 => ?_)
        · have c45 := nI_bz0.mp c45
          rw [hQ]
          exact x_throw F th_IA (text := "performances or places") (by decide +kernel) dX3_rodeo_58 dX3_rodeo_61 dX3_rodeo_62 dX3_rodeo_64 dX3_rodeo_67 ⟨by decide, Nat.le_of_ble_eq_true rfl, by decide, by decide⟩ (⟨rfl, Or.inl ⟨rfl, by first | exact cdRo_n (ok_4 c45) | exact cdRo_n (ok_5 c55)⟩⟩)
        · have c45 := nI_bz1.mp c45
          refine x_iload F 5 dX3_rodeo_48 rfl ?_
          refine x_iconst F (nI 1) dX3_rodeo_50 (by decide) ?_
          refine x_iconst F (nI 4) dX3_rodeo_51 (by decide) ?_
          refine x_callS F s_X3_57 rfl (c_X3_isWithin F.nt ) rfl dX3_rodeo_52 (by decide) (by decide) (Nat.le_of_ble_eq_true rfl) x_noX (ki fun r_5 M2_5 hp_5 => ?_)
          obtain ⟨rfl, rfl⟩ := hp_5
          refine x_if_ne F 68 dX3_rodeo_55 (by decide) (fun c55 => ?_) (fun c55 => ?_)
          · have c55 := nI_bz1.mp c55
            refine x_iload F 6 dX3_rodeo_68 rfl ?_
            refine x_iconst F (nI 0) dX3_rodeo_70 (by decide) ?_
            refine x_ldc F (nI 99999) k_X3_65 dX3_rodeo_71 ?_
            refine x_callS F s_X3_57 rfl (c_X3_isWithin F.nt ) rfl dX3_rodeo_73 (by decide) (by decide) (Nat.le_of_ble_eq_true rfl) x_noX (ki fun r_6 M2_6 hp_6 => ?_)
            obtain ⟨rfl, rfl⟩ := hp_6
            refine x_if_eq F 91 dX3_rodeo_76 (by decide) (fun c76 => ?_) (fun c76 => ?_)
            · have c76 := nI_bz0.mp c76
              rw [hQ]
              exact x_throw F th_IA (text := "money added or fee") (by decide +kernel) dX3_rodeo_91 dX3_rodeo_94 dX3_rodeo_95 dX3_rodeo_97 dX3_rodeo_100 ⟨by decide, Nat.le_of_ble_eq_true rfl, by decide, by decide⟩ (⟨rfl, Or.inl ⟨rfl, by first | exact cdRo_n (ok_6 c76) | exact cdRo_n (ok_7 c88)⟩⟩)
            · have c76 := nI_bz1.mp c76
              refine x_iload F 7 dX3_rodeo_79 rfl ?_
              refine x_iconst F (nI 0) dX3_rodeo_81 (by decide) ?_
              refine x_sipush F (nI 999) dX3_rodeo_82 (by decide) ?_
              refine x_callS F s_X3_57 rfl (c_X3_isWithin F.nt ) rfl dX3_rodeo_85 (by decide) (by decide) (Nat.le_of_ble_eq_true rfl) x_noX (ki fun r_7 M2_7 hp_7 => ?_)
              obtain ⟨rfl, rfl⟩ := hp_7
              refine x_if_ne F 101 dX3_rodeo_88 (by decide) (fun c88 => ?_) (fun c88 => ?_)
              · have c88 := nI_bz1.mp c88
                refine x_aload_n F 0 dX3_rodeo_101 rfl ?_
                refine x_fget F f_X3_16 hR.c (v := .ref (A 3)) dX3_rodeo_102 rfl ?_
                refine x_callV F s_X3_37 hR.lr rfl rfl (c_lsize F.nt hR.lr) rfl dX3_rodeo_105 (by decide) (by decide) (Nat.le_of_ble_eq_true rfl) x_noX (ki fun r_8 M2_8 hp_8 => ?_)
                obtain ⟨rfl, rfl⟩ := hp_8
                refine x_bipush F (nI 8) dX3_rodeo_108 (by decide) ?_
                refine x_icmp_lt F 123 dX3_rodeo_110 (by decide) (fun c110 => ?_) (fun c110 => ?_)
                · have c110 := (nI_ltI (by omega) (by omega)).mp c110
                  have c110b := Nat.not_le.mpr c110
                  have hcd : cdRo σ a0 a1 a2 a3 a4 a5 a6 = 0 := cdRo_z (ok_all c4 c15 c25 c45 c55 c76 c88) (by omega)
                  obtain ⟨b8, -, hb8, rfl⟩ := inR_t (by decide) (by decide) c4
                  obtain ⟨b9, -, hb9, rfl⟩ := inR_t (by decide) (by decide) c15
                  obtain ⟨b10, -, hb10, rfl⟩ := inR_t (by decide) (by decide) c25
                  obtain ⟨b11, -, hb11, rfl⟩ := inR_t (by decide) (by decide) c45
                  obtain ⟨b12, -, hb12, rfl⟩ := inR_t (by decide) (by decide) c55
                  obtain ⟨b13, -, hb13, rfl⟩ := inR_t (by decide) (by decide) c76
                  obtain ⟨b14, -, hb14, rfl⟩ := inR_t (by decide) (by decide) c88
                  refine x_aload_n F 0 dX3_rodeo_123 rfl ?_
                  refine x_fget F f_X3_16 hR.c (v := .ref (A 3)) dX3_rodeo_124 rfl ?_
                  refine x_new F (ci := 3) (fs := [.int 0, .int 0, .int 0, .int 0, .int 0, .int 0, .int 0, .null, .null, .int 0, .int 0]) tyX2 rfl inT_X2 tyX2_ok w_nX3_70.1 w_nX3_70.2.1 w_nX3_70.2.2 df_X2 ⟨by decide, by decide⟩ dX3_rodeo_127 (fun q zq _ => ?_)
                  refine x_dup F dX3_rodeo_130 rfl ?_
                  refine x_iload_n F 1 dX3_rodeo_131 rfl ?_
                  refine x_iload_n F 2 dX3_rodeo_132 rfl ?_
                  refine x_iload_n F 3 dX3_rodeo_133 rfl ?_
                  refine x_iload F 4 dX3_rodeo_134 rfl ?_
                  refine x_iload F 5 dX3_rodeo_136 rfl ?_
                  refine x_iload F 6 dX3_rodeo_138 rfl ?_
                  refine x_iload F 7 dX3_rodeo_140 rfl ?_
                  refine x_callI F s_X3_72 rfl (c_X2_init F.nt mup_s) rfl dX3_rodeo_142 (by decide) (by decide) (Nat.le_of_ble_eq_true rfl) (kv fun M2 hp2 => ?_)
                  obtain ⟨q1, q2, hp2⟩ := hp2
                  have g1 := hp2.2.2.2.1 _ (List.mem_cons_of_mem _ List.mem_cons_self)
                  have g2 := hp2.2.2.2.1 _ List.mem_cons_self
                  have g1n : q1 ≠ q := g1.1
                  have g2n : q2 ≠ q := g2.1
                  have zq1 : M q1 = none := (mup_n g1n).symm.trans g1.2
                  have zq2 : M q2 = none := (mup_n g2n).symm.trans g2.2
                  have d12 : q2 ≠ q1 := (List.pairwise_cons.mp hp2.2.2.2.2).1 _ List.mem_cons_self
                  have hq1 := hp2.2.1 _ (List.mem_cons_of_mem _ List.mem_cons_self)
                  have hq2 := hp2.2.1 _ List.mem_cons_self
                  have fr2 : ∀ x9, x9 ≠ q → x9 ≠ q1 → x9 ≠ q2 → M2 x9 = M x9 := fun x9 h9 h8 h7 => (hp2.2.2.1 x9 h9 (fun y9 h6 => by rcases List.mem_cons.mp h6 with rfl | h6; exact h7; rcases List.mem_cons.mp h6 with rfl | h6; exact h8; cases h6)).trans (mup_n h9)
                  have hql : ∀ p, M p = none → ∀ c, lvB σ c = true → A c ≠ p := fun p hp c hc => ne_fr hp (hR.1 c hc)
                  have fr3 : ∀ c, lvB σ c = true → M2 (A c) = M (A c) := fun c hc => fr2 _ (hql q zq c hc) (hql q1 zq1 c hc) (hql q2 zq2 c hc)
                  refine x_callV F s_X3_51 ((fr3 3 rfl).trans hR.lr) rfl rfl (c_lapp F.nt (ad := fun i => A (30 + i)) ((fr3 3 rfl).trans hR.lr) (fun h0 => (fr3 4 (lvB_iff.mpr (Or.inr (Or.inr (Or.inr (Or.inr (Or.inl ⟨rfl, h0⟩))))))).trans (hR.dr h0)) (by omega) (rfl : vwCl[3]? = some (RX2, TX2, 11)) (by decide) (fun i9 h9 => ⟨_, (fr3 _ (lv_r h9 (by omega))).trans (hR.r h9 (by omega))⟩) hp2.1 (by decide)) rfl dX3_rodeo_145 (by decide) (by decide) (Nat.le_of_ble_eq_true rfl) x_noX (ki fun r9 M9 hp9 => ?_)
                  obtain ⟨rfl, hL⟩ := hp9
                  refine x_pop F dX3_rodeo_148 rfl ?_
                  have hG := CM_ro (σ' := roU σ (nI b8) (nI b9) (nI b10) (nI b11) (nI b12) (nI b13) (nI b14)) (bs := fun s9 => if s9 = 8 then b8 else if s9 = 9 then b9 else if s9 = 10 then b10 else if s9 = 11 then b11 else if s9 = 12 then b12 else if s9 = 13 then b13 else b14) hR (by omega) rfl hbs h6 hW hz.1 (hz.2 _ (Nat.le_refl _)) (roU_18) roU_N roU_M (roU_B (by omega) (by omega) (by omega) (by omega) (by omega) (by omega) (by omega)) roU_16 roU_K roU_D zq zq1 zq2 g1n.symm g2n.symm d12.symm hp2.1 hq1 hq2 fr2 hL
                  obtain ⟨A2, hA0, hR2, hA2⟩ := hG
                  have hC := hR2.c
                  rw [hA0] at hC
                  refine x_aload_n F 0 dX3_rodeo_149 rfl ?_
                  refine x_fget F f_X3_16 hC (v := .ref (A2 3)) dX3_rodeo_150 rfl ?_
                  refine x_callV F s_X3_37 hR2.lr rfl rfl (c_lsize F.nt hR2.lr) rfl dX3_rodeo_153 (by decide) (by decide) (Nat.le_of_ble_eq_true rfl) x_noX (ki fun r8 M8 hp8 => ?_)
                  obtain ⟨rfl, rfl⟩ := hp8
                  refine x_iconst F (nI 1) dX3_rodeo_156 (by decide) ?_
                  refine x_ri1 (y := nI (σ.1 18 0 + 1)) (congrArg nI roU_18) ?_
                  refine x_isubN F dX3_rodeo_157 (by omega) ?_
                  rw [hQ]
                  exact x_iret F dX3_rodeo_158 (by decide) ⟨_, rfl, hcd, congrArg nI (Nat.add_sub_cancel _ 1).symm, A2, hA0, hR2, hA2⟩
                · have c110 := mt (nI_ltI (by omega) (by omega)).mpr c110
                  have c110b := Nat.not_lt.mp c110
                  rw [hQ]
                  exact x_throw F th_IS (text := "no more rodeos") (by decide +kernel) dX3_rodeo_113 dX3_rodeo_116 dX3_rodeo_117 dX3_rodeo_119 dX3_rodeo_122 ⟨by decide, Nat.le_of_ble_eq_true rfl, by decide, by decide⟩ (⟨rfl, Or.inr ⟨rfl, cdRo_y (ok_all c4 c15 c25 c45 c55 c76 c88) (by omega)⟩⟩)
              · have c88 := nI_bz0.mp c88
                rw [hQ]
                exact x_throw F th_IA (text := "money added or fee") (by decide +kernel) dX3_rodeo_91 dX3_rodeo_94 dX3_rodeo_95 dX3_rodeo_97 dX3_rodeo_100 ⟨by decide, Nat.le_of_ble_eq_true rfl, by decide, by decide⟩ (⟨rfl, Or.inl ⟨rfl, by first | exact cdRo_n (ok_6 c76) | exact cdRo_n (ok_7 c88)⟩⟩)
          · have c55 := nI_bz0.mp c55
            rw [hQ]
            exact x_throw F th_IA (text := "performances or places") (by decide +kernel) dX3_rodeo_58 dX3_rodeo_61 dX3_rodeo_62 dX3_rodeo_64 dX3_rodeo_67 ⟨by decide, Nat.le_of_ble_eq_true rfl, by decide, by decide⟩ (⟨rfl, Or.inl ⟨rfl, by first | exact cdRo_n (ok_4 c45) | exact cdRo_n (ok_5 c55)⟩⟩)
      · have c25 := nI_bz0.mp c25
        rw [hQ]
        exact x_throw F th_IA (text := "kind, mile or first day") (by decide +kernel) dX3_rodeo_28 dX3_rodeo_31 dX3_rodeo_32 dX3_rodeo_34 dX3_rodeo_37 ⟨by decide, Nat.le_of_ble_eq_true rfl, by decide, by decide⟩ (⟨rfl, Or.inl ⟨rfl, by first | exact cdRo_n (ok_1 c4) | exact cdRo_n (ok_2 c15) | exact cdRo_n (ok_3 c25)⟩⟩)
