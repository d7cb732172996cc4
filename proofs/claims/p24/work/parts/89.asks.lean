/-! the law's calls: which, with what is thrown told as a number -/
def AFT (g : GP) (A : Nat → Nat) (σ : ST) (M : MM) : Prop := ∃ A2, A2 0 = A 0 ∧ CM g A2 M σ M
theorem CM.self {g : GP} {A : Nat → Nat} {M0 M : MM} {σ : ST} (h : CM g A M0 σ M) : CM g A M σ M := ⟨h.1, h.2.1, fun _ _ => rfl⟩
theorem w_cl80 : Cond.classLink RL 80 sIO ∈ TB := l_L_80
theorem w_cl82 : Cond.classLink RL 82 sIA ∈ TB := l_L_82
theorem w_cl84 : Cond.classLink RL 84 sIS ∈ TB := l_L_84
theorem x_xld {K : KX} {g : GP} {cc : ByteArray} {own : String} {nL : Nat} {ret : Option FieldType} {hh : List (Nat × Nat × Nat × Nat)} {fr lo mc ms : Nat} {Q : State → Prop} {M : MM} {a b pc : Nat} {L : List (Nat × Value)} {st : List Value} (F : Fx K g cc own nL ret hh fr lo mc ms) {i : Int32} (hin : vp_in i (gXn g)) (d : decode cc pc = .ok (.iaload, 1)) (kk : XW K g nL Q M a b (pc + 1) L (.int (gXf g i.toNatClampNeg) :: st)) : XW K g nL Q M a b pc L (.int i :: .ref (gXb g) :: st) :=
  fun H lc ls hM hS hl => va_sld F.ex F.by_ F.gg.2.1.2.2.2.2.2.2.1 (va_X_lt F.gg.2.1.2.2.2.2.2.2.1) F.gg.2.1.2.2.2.2.2.2.2 hS hin d (kk H lc ls hM hS hl)
theorem x_xlen {K : KX} {g : GP} {cc : ByteArray} {own : String} {nL : Nat} {ret : Option FieldType} {hh : List (Nat × Nat × Nat × Nat)} {fr lo mc ms : Nat} {Q : State → Prop} {M : MM} {a b pc : Nat} {L : List (Nat × Value)} {st : List Value} (F : Fx K g cc own nL ret hh fr lo mc ms) (d : decode cc pc = .ok (.arraylength, 1)) (kk : XW K g nL Q M a b (pc + 1) L (.int (nI (gXn g)) :: st)) : XW K g nL Q M a b pc L (.ref (gXb g) :: st) :=
  fun H lc ls hM hS hl => va_slen F.ex F.by_ F.gg.2.1.2.2.2.2.2.2.1 (va_X_lt F.gg.2.1.2.2.2.2.2.2.1) F.gg.2.1.2.2.2.2.2.2.2 hS d (kk H lc ls hM hS hl)
set_option maxHeartbeats 4000000 in
set_option maxRecDepth 100000 in
theorem c_L_draw {l : Launch} (hl : l.stackTraces = false) {g : GP} {M : MM} {k : Nat} (hn : gXn g ≤ 260) (hk : k < 1000) : CT l g yL_draw cL_draw 2 (some .int) 0 0 0 0 [.ref (gXb g), .int (nI k)] M (pI (fun _ M9 => M = M9)) nX := by
  refine ct_of [(0, .ref (gXb g)), (1, .int (nI k))] (by decide) hl (Nat.le_of_ble_eq_true rfl) rfl ?_
  intro K hK F
  subst hK
  have F : Fx K g cL_draw RL 2 (some .int) [] 0 0 0 0 := F
  obtain ⟨Q, hQ⟩ : ∃ Q, Q = MQx K g (pI (fun _ M9 => M = M9)) (nX) 0 0 := ⟨_, rfl⟩
  rw [← hQ]
  refine x_iload_n F 1 dL_draw_0 rfl ?_
  refine x_aload_n F 0 dL_draw_1 rfl ?_
  refine x_xlen F dL_draw_2 ?_
  refine x_icmp_ge F 12 dL_draw_3 (by decide) (fun c3 => ?_) (fun c3 => ?_)
  · refine x_ldc F (3850017) k_L_94 dL_draw_12 ?_
    refine x_iload_n F 1 dL_draw_14 rfl ?_
    refine x_imul F dL_draw_15 ?_
    refine x_iload_n F 1 dL_draw_16 rfl ?_
    refine x_imul F dL_draw_17 ?_
    refine x_ldc F (172081) k_L_95 dL_draw_18 ?_
    refine x_iload_n F 1 dL_draw_20 rfl ?_
    refine x_imul F dL_draw_21 ?_
    refine x_iadd F dL_draw_22 ?_
    refine x_sipush F (nI 365) dL_draw_23 (by decide) ?_
    refine x_iadd F dL_draw_26 ?_
    rw [hQ]
    exact x_iret F dL_draw_27 (by decide) ⟨_, rfl, rfl⟩
  · have c3 := Nat.not_le.mp (mt (nI_leI (by omega) (by omega)).mpr c3)
    refine x_aload_n F 0 dL_draw_6 rfl ?_
    refine x_iload_n F 1 dL_draw_7 rfl ?_
    refine x_xld F (vp_in_nI (n := k) c3 (by omega)) dL_draw_8 ?_
    refine x_goto F 27 dL_draw_9 (by decide) ?_
    rw [hQ]
    exact x_iret F dL_draw_27 (by decide) ⟨_, rfl, rfl⟩
set_option maxHeartbeats 4000000 in
set_option maxRecDepth 100000 in
theorem c_L_hides {l : Launch} (hl : l.stackTraces = false) {g : GP} {M : MM} {A : Nat → Nat} {M0 : MM} {σ : ST} {c : Nat} {x0 : Int32} (hR : CM g A M0 σ M) (hI : Inv c σ) : CT l g yL_hides cL_hides 2 (some .int) 7 113 1 6 [.ref (A 0), .int x0] M (pI (fun r9 M9 => cdHi x0 = 0 ∧ nI 0 = r9 ∧ CM g A M0 (uN σ 30 0 (cl x0)) M9)) (fun E M9 => M = M9 ∧ xp1 E (cdHi x0) sIA) := by
  refine ct_of [(0, .ref (A 0)), (1, .int x0)] (by decide) hl (Nat.le_of_ble_eq_true rfl) rfl ?_
  intro K hK F
  subst hK
  have F : Fx K g cL_hides RL 2 (some .int) [] 7 113 1 6 := F
  obtain ⟨Q, hQ⟩ : ∃ Q, Q = MQx K g (pI (fun r9 M9 => cdHi x0 = 0 ∧ nI 0 = r9 ∧ CM g A M0 (uN σ 30 0 (cl x0)) M9)) (fun E M9 => M = M9 ∧ xp1 E (cdHi x0) sIA) 1 6 := ⟨_, rfl⟩
  rw [← hQ]
  refine x_aload_n F 0 dL_hides_0 rfl ?_
  refine x_iload_n F 1 dL_hides_1 rfl ?_
  rw [hQ]
  refine x_callV F s_L_72 hR.c rfl rfl (c_X3_hide F.nt hR hI.B) rfl dL_hides_2 (by decide) (by decide) (Nat.le_of_ble_eq_true rfl) (x_outX F (by decide) (fun E M9 h9 => h9)) (kv fun M9 hp9 => ?_)
  refine x_iconst F (nI 0) dL_hides_5 (by decide) ?_
  exact x_iret F dL_hides_6 (by decide) ⟨_, rfl, hp9.1, rfl, hp9.2⟩
set_option maxHeartbeats 4000000 in
set_option maxRecDepth 100000 in
theorem c_L_call_beast {l : Launch} (hl : l.stackTraces = false) {g : GP} {M : MM} {A : Nat → Nat} {M0 : MM} {σ : ST} {c : Nat} {x0 : Int32} {u1 u2 u3 : Int32} (hR : CM g A M0 σ M) (hI : Inv c σ) : CT l g yL_call cL_call 6 (some .int) 8 212 2 29 [.ref (A 0), .int (nI 0), .int x0, .int u1, .int u2, .int u3] M (pI (fun r9 M9 => cdBe σ x0 = 0 ∧ nI (σ.1 6 0) = r9 ∧ ∃ A2, A2 0 = A 0 ∧ CM g A2 M (beU σ x0) M9 ∧ ∀ c, lvB (beU σ x0) c = true → (lvB σ c = true ∧ A2 c = A c) ∨ M (A2 c) = none)) (fun E M9 => M = M9 ∧ xp2 E (cdBe σ x0) sIA sIS) := by
  refine ct_of [(0, .ref (A 0)), (1, .int (nI 0)), (2, .int x0), (3, .int u1), (4, .int u2), (5, .int u3)] (by decide) hl (Nat.le_of_ble_eq_true rfl) rfl ?_
  intro K hK F
  subst hK
  have F : Fx K g cL_call RL 6 (some .int) [] 8 212 2 29 := F
  obtain ⟨Q, hQ⟩ : ∃ Q, Q = MQx K g (pI (fun r9 M9 => cdBe σ x0 = 0 ∧ nI (σ.1 6 0) = r9 ∧ ∃ A2, A2 0 = A 0 ∧ CM g A2 M (beU σ x0) M9 ∧ ∀ c, lvB (beU σ x0) c = true → (lvB σ c = true ∧ A2 c = A c) ∨ M (A2 c) = none)) (fun E M9 => M = M9 ∧ xp2 E (cdBe σ x0) sIA sIS) 2 29 := ⟨_, rfl⟩
  rw [← hQ]
  refine x_iload_n F 1 dL_call_0 rfl ?_
  refine x_tableIn F 84 dL_call_1 (by decide) (by decide) rfl (by decide) ?_
  refine x_aload_n F 0 dL_call_84 rfl ?_
  refine x_iload_n F 2 dL_call_85 rfl ?_
  rw [hQ]
  refine x_callV F s_L_7 hR.c rfl rfl (c_X3_beast F.nt hR hI.B hI.be hI.zb) rfl dL_call_86 (by decide) (by decide) (Nat.le_of_ble_eq_true rfl) (x_outX F (by decide) (fun E M9 h9 => h9)) (ki fun r9 M9 hp9 => ?_)
  exact x_iret F dL_call_89 (by decide) ⟨_, rfl, hp9⟩
set_option maxHeartbeats 4000000 in
set_option maxRecDepth 100000 in
theorem c_L_call_rider {l : Launch} (hl : l.stackTraces = false) {g : GP} {M : MM} {A : Nat → Nat} {M0 : MM} {σ : ST} {c : Nat}  {u0 u1 u2 u3 : Int32} (hR : CM g A M0 σ M) (hI : Inv c σ) : CT l g yL_call cL_call 6 (some .int) 7 112 1 6 [.ref (A 0), .int (nI 1), .int u0, .int u1, .int u2, .int u3] M (pI (fun r9 M9 => cdRd σ = 0 ∧ nI (σ.1 7 0) = r9 ∧ CM g A M0 (rdU σ) M9)) (fun E M9 => M = M9 ∧ xp1 E (cdRd σ) sIS) := by
  refine ct_of [(0, .ref (A 0)), (1, .int (nI 1)), (2, .int u0), (3, .int u1), (4, .int u2), (5, .int u3)] (by decide) hl (Nat.le_of_ble_eq_true rfl) rfl ?_
  intro K hK F
  subst hK
  have F : Fx K g cL_call RL 6 (some .int) [] 7 112 1 6 := F
  obtain ⟨Q, hQ⟩ : ∃ Q, Q = MQx K g (pI (fun r9 M9 => cdRd σ = 0 ∧ nI (σ.1 7 0) = r9 ∧ CM g A M0 (rdU σ) M9)) (fun E M9 => M = M9 ∧ xp1 E (cdRd σ) sIS) 1 6 := ⟨_, rfl⟩
  rw [← hQ]
  refine x_iload_n F 1 dL_call_0 rfl ?_
  refine x_tableIn F 90 dL_call_1 (by decide) (by decide) rfl (by decide) ?_
  refine x_aload_n F 0 dL_call_90 rfl ?_
  rw [hQ]
  refine x_callV F s_L_13 hR.c rfl rfl (c_X3_rider F.nt hR hI.B) rfl dL_call_91 (by decide) (by decide) (Nat.le_of_ble_eq_true rfl) (x_outX F (by decide) (fun E M9 h9 => h9)) (ki fun r9 M9 hp9 => ?_)
  exact x_iret F dL_call_94 (by decide) ⟨_, rfl, hp9⟩
set_option maxHeartbeats 4000000 in
set_option maxRecDepth 100000 in
theorem c_L_call_enter {l : Launch} (hl : l.stackTraces = false) {g : GP} {M : MM} {A : Nat → Nat} {M0 : MM} {σ : ST} {c : Nat} {x0 y0 s0 w0 : Int32} (hR : CM g A M0 σ M) (hI : Inv c σ) : CT l g yL_call cL_call 6 (some .int) 10 241 5 51 [.ref (A 0), .int (nI 3), .int x0, .int y0, .int s0, .int w0] M (pI (fun r9 M9 => cdEn σ x0 y0 s0 w0 = 0 ∧ nI (σ.1 17 (cl x0) + 1) = r9 ∧ ∃ A2, A2 0 = A 0 ∧ CM g A2 M (enU σ (cl x0) (cl y0) (cl s0) (cl w0)) M9 ∧ ∀ c, lvB (enU σ (cl x0) (cl y0) (cl s0) (cl w0)) c = true → (lvB σ c = true ∧ A2 c = A c) ∨ M (A2 c) = none)) (fun E M9 => M = M9 ∧ xp3 E (cdEn σ x0 y0 s0 w0) sIO sIA sIS) := by
  refine ct_of [(0, .ref (A 0)), (1, .int (nI 3)), (2, .int x0), (3, .int y0), (4, .int s0), (5, .int w0)] (by decide) hl (Nat.le_of_ble_eq_true rfl) rfl ?_
  intro K hK F
  subst hK
  have F : Fx K g cL_call RL 6 (some .int) [] 10 241 5 51 := F
  obtain ⟨Q, hQ⟩ : ∃ Q, Q = MQx K g (pI (fun r9 M9 => cdEn σ x0 y0 s0 w0 = 0 ∧ nI (σ.1 17 (cl x0) + 1) = r9 ∧ ∃ A2, A2 0 = A 0 ∧ CM g A2 M (enU σ (cl x0) (cl y0) (cl s0) (cl w0)) M9 ∧ ∀ c, lvB (enU σ (cl x0) (cl y0) (cl s0) (cl w0)) c = true → (lvB σ c = true ∧ A2 c = A c) ∨ M (A2 c) = none)) (fun E M9 => M = M9 ∧ xp3 E (cdEn σ x0 y0 s0 w0) sIO sIA sIS) 5 51 := ⟨_, rfl⟩
  rw [← hQ]
  refine x_iload_n F 1 dL_call_0 rfl ?_
  refine x_tableIn F 102 dL_call_1 (by decide) (by decide) rfl (by decide) ?_
  refine x_aload_n F 0 dL_call_102 rfl ?_
  refine x_iload_n F 2 dL_call_103 rfl ?_
  refine x_iload_n F 3 dL_call_104 rfl ?_
  refine x_iload F 4 dL_call_105 rfl ?_
  refine x_iload F 5 dL_call_107 rfl ?_
  rw [hQ]
  refine x_callV F s_L_21 hR.c rfl rfl (c_X3_enter F.nt hR hI.B hI.W hI.D hI.be hI.p1 hI.hlt) rfl dL_call_109 (by decide) (by decide) (Nat.le_of_ble_eq_true rfl) (x_outX F (by decide) (fun E M9 h9 => h9)) (ki fun r9 M9 hp9 => ?_)
  exact x_iret F dL_call_112 (by decide) ⟨_, rfl, hp9⟩
set_option maxHeartbeats 4000000 in
set_option maxRecDepth 100000 in
theorem c_L_call_close {l : Launch} (hl : l.stackTraces = false) {g : GP} {M : MM} {A : Nat → Nat} {M0 : MM} {σ : ST} {c : Nat} {x0 : Int32} {u1 u2 u3 : Int32} (hR : CM g A M0 σ M) (hI : Inv c σ) : CT l g yL_call cL_call 6 (some .int) 8 213 2 12 [.ref (A 0), .int (nI 4), .int x0, .int u1, .int u2, .int u3] M (pI (fun r9 M9 => cdSt σ x0 0 = 0 ∧ nI (plIn (clU σ (cl x0)) (cl x0)) = r9 ∧ CM g A M0 (clU σ (cl x0)) M9)) (fun E M9 => M = M9 ∧ xp2 E (cdSt σ x0 0) sIO sIS) := by
  refine ct_of [(0, .ref (A 0)), (1, .int (nI 4)), (2, .int x0), (3, .int u1), (4, .int u2), (5, .int u3)] (by decide) hl (Nat.le_of_ble_eq_true rfl) rfl ?_
  intro K hK F
  subst hK
  have F : Fx K g cL_call RL 6 (some .int) [] 8 213 2 12 := F
  obtain ⟨Q, hQ⟩ : ∃ Q, Q = MQx K g (pI (fun r9 M9 => cdSt σ x0 0 = 0 ∧ nI (plIn (clU σ (cl x0)) (cl x0)) = r9 ∧ CM g A M0 (clU σ (cl x0)) M9)) (fun E M9 => M = M9 ∧ xp2 E (cdSt σ x0 0) sIO sIS) 2 12 := ⟨_, rfl⟩
  rw [← hQ]
  refine x_iload_n F 1 dL_call_0 rfl ?_
  refine x_tableIn F 113 dL_call_1 (by decide) (by decide) rfl (by decide) ?_
  refine x_aload_n F 0 dL_call_113 rfl ?_
  refine x_iload_n F 2 dL_call_114 rfl ?_
  rw [hQ]
  refine x_callV F s_L_25 hR.c rfl rfl (c_X3_close F.nt hR hI.B hI.W hI.D hI.wi) rfl dL_call_115 (by decide) (by decide) (Nat.le_of_ble_eq_true rfl) (x_outX F (by decide) (fun E M9 h9 => h9)) (ki fun r9 M9 hp9 => ?_)
  exact x_iret F dL_call_118 (by decide) ⟨_, rfl, hp9⟩
set_option maxHeartbeats 4000000 in
set_option maxRecDepth 100000 in
theorem c_L_call_draw {l : Launch} (hl : l.stackTraces = false) {g : GP} {M : MM} {A : Nat → Nat} {M0 : MM} {σ : ST} {c : Nat} {x0 : Int32} {u1 u2 u3 : Int32} (hR : CM g A M0 σ M) (hI : Inv c σ) : CT l g yL_call cL_call 6 (some .int) 9 235 2 12 [.ref (A 0), .int (nI 7), .int x0, .int u1, .int u2, .int u3] M (pI (fun r9 M9 => cdSt σ x0 1 = 0 ∧ nI (drN σ (cl x0) (σ.1 11 (cl x0))) = r9 ∧ CM g A M0 (drnU σ (cl x0)) M9)) (fun E M9 => M = M9 ∧ xp2 E (cdSt σ x0 1) sIO sIS) := by
  refine ct_of [(0, .ref (A 0)), (1, .int (nI 7)), (2, .int x0), (3, .int u1), (4, .int u2), (5, .int u3)] (by decide) hl (Nat.le_of_ble_eq_true rfl) rfl ?_
  intro K hK F
  subst hK
  have F : Fx K g cL_call RL 6 (some .int) [] 9 235 2 12 := F
  obtain ⟨Q, hQ⟩ : ∃ Q, Q = MQx K g (pI (fun r9 M9 => cdSt σ x0 1 = 0 ∧ nI (drN σ (cl x0) (σ.1 11 (cl x0))) = r9 ∧ CM g A M0 (drnU σ (cl x0)) M9)) (fun E M9 => M = M9 ∧ xp2 E (cdSt σ x0 1) sIO sIS) 2 12 := ⟨_, rfl⟩
  rw [← hQ]
  refine x_iload_n F 1 dL_call_0 rfl ?_
  refine x_tableIn F 132 dL_call_1 (by decide) (by decide) rfl (by decide) ?_
  refine x_aload_n F 0 dL_call_132 rfl ?_
  refine x_iload_n F 2 dL_call_133 rfl ?_
  rw [hQ]
  refine x_callV F s_L_34 hR.c rfl rfl (c_X3_draw F.nt hR hI.B hI.W) rfl dL_call_134 (by decide) (by decide) (Nat.le_of_ble_eq_true rfl) (x_outX F (by decide) (fun E M9 h9 => h9)) (ki fun r9 M9 hp9 => ?_)
  exact x_iret F dL_call_137 (by decide) ⟨_, rfl, hp9⟩
set_option maxHeartbeats 4000000 in
set_option maxRecDepth 100000 in
theorem c_L_call_answer {l : Launch} (hl : l.stackTraces = false) {g : GP} {M : MM} {A : Nat → Nat} {M0 : MM} {σ : ST} {c : Nat} {x0 y0 : Int32} {f : Bool} {u3 : Int32} (hR : CM g A M0 σ M) (hI : Inv c σ) : CT l g yL_call cL_call 6 (some .int) 9 210 3 18 [.ref (A 0), .int (nI 10), .int x0, .int y0, .int (nI (bz f)), .int u3] M (pI (fun r9 M9 => cdAn σ x0 y0 = 0 ∧ (if f = true then (ansU σ (cl x0) (cl y0) f).2.1 23 (12 * cl x0 + cl y0) else -1) = r9 ∧ CM g A M0 (ansU σ (cl x0) (cl y0) f) M9)) (fun E M9 => M = M9 ∧ xp2 E (cdAn σ x0 y0) sIO sIS) := by
  refine ct_of [(0, .ref (A 0)), (1, .int (nI 10)), (2, .int x0), (3, .int y0), (4, .int (nI (bz f))), (5, .int u3)] (by decide) hl (Nat.le_of_ble_eq_true rfl) rfl ?_
  intro K hK F
  subst hK
  have F : Fx K g cL_call RL 6 (some .int) [] 9 210 3 18 := F
  obtain ⟨Q, hQ⟩ : ∃ Q, Q = MQx K g (pI (fun r9 M9 => cdAn σ x0 y0 = 0 ∧ (if f = true then (ansU σ (cl x0) (cl y0) f).2.1 23 (12 * cl x0 + cl y0) else -1) = r9 ∧ CM g A M0 (ansU σ (cl x0) (cl y0) f) M9)) (fun E M9 => M = M9 ∧ xp2 E (cdAn σ x0 y0) sIO sIS) 3 18 := ⟨_, rfl⟩
  rw [← hQ]
  refine x_iload_n F 1 dL_call_0 rfl ?_
  refine x_tableIn F 160 dL_call_1 (by decide) (by decide) rfl (by decide) ?_
  refine x_aload_n F 0 dL_call_160 rfl ?_
  refine x_iload_n F 2 dL_call_161 rfl ?_
  refine x_iload_n F 3 dL_call_162 rfl ?_
  refine x_iload F 4 dL_call_163 rfl ?_
  refine x_iconst F (nI 1) dL_call_165 (by decide) ?_
  cases f with
  | true =>
    refine x_icmp_ne F 173 dL_call_166 (by decide) (fun c9 => absurd rfl c9) (fun _ => ?_)
    refine x_iconst F (nI 1) dL_call_169 (by decide) ?_
    refine x_goto F 174 dL_call_170 (by decide) ?_
    rw [hQ]
    refine x_callV F s_L_44 hR.c rfl rfl (c_X3_answer F.nt hR hI.B hI.D hI.be hI.hpl (t := true)) rfl dL_call_174 (by decide) (by decide) (Nat.le_of_ble_eq_true rfl) (x_outX F (by decide) (fun E M9 h9 => h9)) (ki fun r9 M9 hp9 => ?_)
    exact x_iret F dL_call_177 (by decide) ⟨_, rfl, hp9⟩
  | false =>
    refine x_icmp_ne F 173 dL_call_166 (by decide) (fun _ => ?_) (fun c9 => absurd c9 (by decide))
    refine x_iconst F (nI 0) dL_call_173 (by decide) ?_
    rw [hQ]
    refine x_callV F s_L_44 hR.c rfl rfl (c_X3_answer F.nt hR hI.B hI.D hI.be hI.hpl (t := false)) rfl dL_call_174 (by decide) (by decide) (Nat.le_of_ble_eq_true rfl) (x_outX F (by decide) (fun E M9 h9 => h9)) (ki fun r9 M9 hp9 => ?_)
    exact x_iret F dL_call_177 (by decide) ⟨_, rfl, hp9⟩
set_option maxHeartbeats 4000000 in
set_option maxRecDepth 100000 in
theorem c_L_call_pay {l : Launch} (hl : l.stackTraces = false) {g : GP} {M : MM} {A : Nat → Nat} {M0 : MM} {σ : ST} {c : Nat} {x0 : Int32} {u1 u2 u3 : Int32} (hR : CM g A M0 σ M) (hI : Inv c σ) : CT l g yL_call cL_call 6 (some .int) 9 225 2 12 [.ref (A 0), .int (nI 13), .int x0, .int u1, .int u2, .int u3] M (pI (fun r9 M9 => cdPa σ x0 = 0 ∧ nI (ccN σ (cl x0)) = r9 ∧ CM g A M0 (pyU σ (cl x0)) M9)) (fun E M9 => M = M9 ∧ xp2 E (cdPa σ x0) sIO sIS) := by
  refine ct_of [(0, .ref (A 0)), (1, .int (nI 13)), (2, .int x0), (3, .int u1), (4, .int u2), (5, .int u3)] (by decide) hl (Nat.le_of_ble_eq_true rfl) rfl ?_
  intro K hK F
  subst hK
  have F : Fx K g cL_call RL 6 (some .int) [] 9 225 2 12 := F
  obtain ⟨Q, hQ⟩ : ∃ Q, Q = MQx K g (pI (fun r9 M9 => cdPa σ x0 = 0 ∧ nI (ccN σ (cl x0)) = r9 ∧ CM g A M0 (pyU σ (cl x0)) M9)) (fun E M9 => M = M9 ∧ xp2 E (cdPa σ x0) sIO sIS) 2 12 := ⟨_, rfl⟩
  rw [← hQ]
  refine x_iload_n F 1 dL_call_0 rfl ?_
  refine x_tableIn F 192 dL_call_1 (by decide) (by decide) rfl (by decide) ?_
  refine x_aload_n F 0 dL_call_192 rfl ?_
  refine x_iload_n F 2 dL_call_193 rfl ?_
  rw [hQ]
  refine x_callV F s_L_54 hR.c rfl rfl (c_X3_pay F.nt hR hI.B hI.W hI.D) rfl dL_call_194 (by decide) (by decide) (Nat.le_of_ble_eq_true rfl) (x_outX F (by decide) (fun E M9 h9 => h9)) (ki fun r9 M9 hp9 => ?_)
  exact x_iret F dL_call_197 (by decide) ⟨_, rfl, hp9⟩
set_option maxHeartbeats 4000000 in
set_option maxRecDepth 100000 in
theorem c_L_call_ranked {l : Launch} (hl : l.stackTraces = false) {g : GP} {M : MM} {A : Nat → Nat} {M0 : MM} {σ : ST} {c : Nat} {x0 : Int32} {u1 u2 u3 : Int32} (hR : CM g A M0 σ M) (hI : Inv c σ) : CT l g yL_call cL_call 6 (some .int) 8 209 1 6 [.ref (A 0), .int (nI 16), .int x0, .int u1, .int u2, .int u3] M (pI (fun r9 M9 => cdRk x0 = 0 ∧ fF (fun k => decide (nI (rkcS σ k) = x0)) 0 (σ.1 7 0) = r9 ∧ M = M9)) (fun E M9 => M = M9 ∧ xp1 E (cdRk x0) sIA) := by
  refine ct_of [(0, .ref (A 0)), (1, .int (nI 16)), (2, .int x0), (3, .int u1), (4, .int u2), (5, .int u3)] (by decide) hl (Nat.le_of_ble_eq_true rfl) rfl ?_
  intro K hK F
  subst hK
  have F : Fx K g cL_call RL 6 (some .int) [] 8 209 1 6 := F
  obtain ⟨Q, hQ⟩ : ∃ Q, Q = MQx K g (pI (fun r9 M9 => cdRk x0 = 0 ∧ fF (fun k => decide (nI (rkcS σ k) = x0)) 0 (σ.1 7 0) = r9 ∧ M = M9)) (fun E M9 => M = M9 ∧ xp1 E (cdRk x0) sIA) 1 6 := ⟨_, rfl⟩
  rw [← hQ]
  refine x_iload_n F 1 dL_call_0 rfl ?_
  refine x_tableIn F 211 dL_call_1 (by decide) (by decide) rfl (by decide) ?_
  refine x_aload_n F 0 dL_call_211 rfl ?_
  refine x_iload_n F 2 dL_call_212 rfl ?_
  rw [hQ]
  refine x_callV F s_L_63 hR.c rfl rfl (c_X3_ranked F.nt hR hI.B hI.D) rfl dL_call_213 (by decide) (by decide) (Nat.le_of_ble_eq_true rfl) (x_outX F (by decide) (fun E M9 h9 => h9)) (ki fun r9 M9 hp9 => ?_)
  exact x_iret F dL_call_216 (by decide) ⟨_, rfl, hp9⟩
set_option maxHeartbeats 4000000 in
set_option maxRecDepth 100000 in
theorem c_L_call_hide {l : Launch} (hl : l.stackTraces = false) {g : GP} {M : MM} {A : Nat → Nat} {M0 : MM} {σ : ST} {c : Nat} {x0 : Int32} {u1 u2 u3 : Int32} (hR : CM g A M0 σ M) (hI : Inv c σ) : CT l g yL_call cL_call 6 (some .int) 8 134 1 6 [.ref (A 0), .int (nI 17), .int x0, .int u1, .int u2, .int u3] M (pI (fun r9 M9 => cdHi x0 = 0 ∧ nI 0 = r9 ∧ CM g A M0 (uN σ 30 0 (cl x0)) M9)) (fun E M9 => M = M9 ∧ xp1 E (cdHi x0) sIA) := by
  refine ct_of [(0, .ref (A 0)), (1, .int (nI 17)), (2, .int x0), (3, .int u1), (4, .int u2), (5, .int u3)] (by decide) hl (Nat.le_of_ble_eq_true rfl) rfl ?_
  intro K hK F
  subst hK
  have F : Fx K g cL_call RL 6 (some .int) [] 8 134 1 6 := F
  obtain ⟨Q, hQ⟩ : ∃ Q, Q = MQx K g (pI (fun r9 M9 => cdHi x0 = 0 ∧ nI 0 = r9 ∧ CM g A M0 (uN σ 30 0 (cl x0)) M9)) (fun E M9 => M = M9 ∧ xp1 E (cdHi x0) sIA) 1 6 := ⟨_, rfl⟩
  rw [← hQ]
  refine x_iload_n F 1 dL_call_0 rfl ?_
  refine x_tableOut F 217 dL_call_1 (Or.inr (by decide)) (by decide) ?_
  refine x_aload_n F 0 dL_call_217 rfl ?_
  refine x_iload_n F 2 dL_call_218 rfl ?_
  rw [hQ]
  refine x_callS F s_L_66 rfl (c_L_hides F.nt hR hI) rfl dL_call_219 (by decide) (by decide) (Nat.le_of_ble_eq_true rfl) (x_outX F (by decide) (fun E M9 h9 => h9)) (ki fun r9 M9 hp9 => ?_)
  exact x_iret F dL_call_222 (by decide) ⟨_, rfl, hp9⟩
set_option maxHeartbeats 4000000 in
set_option maxRecDepth 100000 in
theorem a_beast {l : Launch} (hl : l.stackTraces = false) {g : GP} {M : MM} {A : Nat → Nat} {M0 : MM} {σ : ST} {c : Nat} {x0 : Int32} {u1 u2 u3 : Int32} (hR : CM g A M0 σ M) (hI : Inv c σ) : CTH l g yL_ask cL_ask 7 (some .int) [(0, 11, 12, 80), (0, 11, 17, 82), (0, 11, 22, 84)] 9 237 2 29 [.ref (A 0), .int (nI 0), .int x0, .int u1, .int u2, .int u3] M (pI (fun r9 M9 => (cdBe σ x0 = 0 ∧ r9 = nI (σ.1 6 0) ∧ AFT g A (beU σ x0) M9) ∨ (cdBe σ x0 = 1 ∧ r9 = (-12) ∧ M = M9) ∨ (cdBe σ x0 = 2 ∧ r9 = (-13) ∧ M = M9))) := by
  refine cth_of [(0, .ref (A 0)), (1, .int (nI 0)), (2, .int x0), (3, .int u1), (4, .int u2), (5, .int u3)] (by decide) hl (Nat.le_of_ble_eq_true rfl) rfl ?_
  intro K hK F
  subst hK
  have F : Fx K g cL_ask RL 7 (some .int) [(0, 11, 12, 80), (0, 11, 17, 82), (0, 11, 22, 84)] 9 237 2 29 := F
  obtain ⟨Q, hQ⟩ : ∃ Q, Q = MQx K g (pI (fun r9 M9 => (cdBe σ x0 = 0 ∧ r9 = nI (σ.1 6 0) ∧ AFT g A (beU σ x0) M9) ∨ (cdBe σ x0 = 1 ∧ r9 = (-12) ∧ M = M9) ∨ (cdBe σ x0 = 2 ∧ r9 = (-13) ∧ M = M9))) (nX) 2 29 := ⟨_, rfl⟩
  rw [← hQ]
  refine x_aload_n F 0 dL_ask_0 rfl ?_
  refine x_iload_n F 1 dL_ask_1 rfl ?_
  refine x_iload_n F 2 dL_ask_2 rfl ?_
  refine x_iload_n F 3 dL_ask_3 rfl ?_
  refine x_iload F 4 dL_ask_4 rfl ?_
  refine x_iload F 5 dL_ask_6 rfl ?_
  refine x_callS F s_L_76 rfl (c_L_call_beast F.nt hR hI) rfl dL_ask_8 (by decide) (by decide) (Nat.le_of_ble_eq_true rfl) (fun E M9 hx => ?_) (ki fun r9 M9 hp9 => ?_)
  · obtain ⟨rfl, hx⟩ := hx
    rcases hx with ⟨rfl, hc⟩ | ⟨rfl, hc⟩
    · refine x_catchX F [⟨0, 11, 12, 80⟩] ⟨0, 11, 17, 82⟩ [⟨0, 11, 22, 84⟩] rfl (fun z hz => by rcases List.mem_cons.mp hz with rfl | hz; exact Or.inr ⟨by decide, sIO, w_cl80, by decide⟩; cases hz) (by decide) (by decide) w_cl82 (by decide) (fun q => ?_)
      refine x_astore F [(6, .ref q), (0, .ref (A 0)), (1, .int (nI 0)), (2, .int x0), (3, .int u1), (4, .int u2), (5, .int u3)] dL_ask_17 (by decide) rfl ?_
      refine x_bipush F (-12) dL_ask_19 (by decide) ?_
      rw [hQ]
      exact x_iret F dL_ask_21 (by decide) ⟨_, rfl, Or.inr (Or.inl ⟨hc, rfl, rfl⟩)⟩
    · refine x_catchX F [⟨0, 11, 12, 80⟩, ⟨0, 11, 17, 82⟩] ⟨0, 11, 22, 84⟩ [] rfl (fun z hz => by rcases List.mem_cons.mp hz with rfl | hz; exact Or.inr ⟨by decide, sIO, w_cl80, by decide⟩; rcases List.mem_cons.mp hz with rfl | hz; exact Or.inr ⟨by decide, sIA, w_cl82, by decide⟩; cases hz) (by decide) (by decide) w_cl84 (by decide) (fun q => ?_)
      refine x_astore F [(6, .ref q), (0, .ref (A 0)), (1, .int (nI 0)), (2, .int x0), (3, .int u1), (4, .int u2), (5, .int u3)] dL_ask_22 (by decide) rfl ?_
      refine x_bipush F (-13) dL_ask_24 (by decide) ?_
      rw [hQ]
      exact x_iret F dL_ask_26 (by decide) ⟨_, rfl, Or.inr (Or.inr (⟨hc, rfl, rfl⟩))⟩
  · obtain ⟨hcd, rfl, A2, hA0, hR9, -⟩ := hp9
    rw [hQ]
    exact x_iret F dL_ask_11 (by decide) ⟨_, rfl, Or.inl ⟨hcd, rfl, A2, hA0, hR9.self⟩⟩
set_option maxHeartbeats 4000000 in
set_option maxRecDepth 100000 in
theorem a_rider {l : Launch} (hl : l.stackTraces = false) {g : GP} {M : MM} {A : Nat → Nat} {M0 : MM} {σ : ST} {c : Nat}  {u0 u1 u2 u3 : Int32} (hR : CM g A M0 σ M) (hI : Inv c σ) : CTH l g yL_ask cL_ask 7 (some .int) [(0, 11, 12, 80), (0, 11, 17, 82), (0, 11, 22, 84)] 8 137 1 6 [.ref (A 0), .int (nI 1), .int u0, .int u1, .int u2, .int u3] M (pI (fun r9 M9 => (cdRd σ = 0 ∧ r9 = nI (σ.1 7 0) ∧ AFT g A (rdU σ) M9) ∨ (cdRd σ = 1 ∧ r9 = (-13) ∧ M = M9))) := by
  refine cth_of [(0, .ref (A 0)), (1, .int (nI 1)), (2, .int u0), (3, .int u1), (4, .int u2), (5, .int u3)] (by decide) hl (Nat.le_of_ble_eq_true rfl) rfl ?_
  intro K hK F
  subst hK
  have F : Fx K g cL_ask RL 7 (some .int) [(0, 11, 12, 80), (0, 11, 17, 82), (0, 11, 22, 84)] 8 137 1 6 := F
  obtain ⟨Q, hQ⟩ : ∃ Q, Q = MQx K g (pI (fun r9 M9 => (cdRd σ = 0 ∧ r9 = nI (σ.1 7 0) ∧ AFT g A (rdU σ) M9) ∨ (cdRd σ = 1 ∧ r9 = (-13) ∧ M = M9))) (nX) 1 6 := ⟨_, rfl⟩
  rw [← hQ]
  refine x_aload_n F 0 dL_ask_0 rfl ?_
  refine x_iload_n F 1 dL_ask_1 rfl ?_
  refine x_iload_n F 2 dL_ask_2 rfl ?_
  refine x_iload_n F 3 dL_ask_3 rfl ?_
  refine x_iload F 4 dL_ask_4 rfl ?_
  refine x_iload F 5 dL_ask_6 rfl ?_
  refine x_callS F s_L_76 rfl (c_L_call_rider F.nt hR hI) rfl dL_ask_8 (by decide) (by decide) (Nat.le_of_ble_eq_true rfl) (fun E M9 hx => ?_) (ki fun r9 M9 hp9 => ?_)
  · obtain ⟨rfl, hx⟩ := hx
    obtain ⟨rfl, hc⟩ := hx
    refine x_catchX F [⟨0, 11, 12, 80⟩, ⟨0, 11, 17, 82⟩] ⟨0, 11, 22, 84⟩ [] rfl (fun z hz => by rcases List.mem_cons.mp hz with rfl | hz; exact Or.inr ⟨by decide, sIO, w_cl80, by decide⟩; rcases List.mem_cons.mp hz with rfl | hz; exact Or.inr ⟨by decide, sIA, w_cl82, by decide⟩; cases hz) (by decide) (by decide) w_cl84 (by decide) (fun q => ?_)
    refine x_astore F [(6, .ref q), (0, .ref (A 0)), (1, .int (nI 1)), (2, .int u0), (3, .int u1), (4, .int u2), (5, .int u3)] dL_ask_22 (by decide) rfl ?_
    refine x_bipush F (-13) dL_ask_24 (by decide) ?_
    rw [hQ]
    exact x_iret F dL_ask_26 (by decide) ⟨_, rfl, Or.inr (⟨hc, rfl, rfl⟩)⟩
  · obtain ⟨hcd, rfl, hR9⟩ := hp9
    rw [hQ]
    exact x_iret F dL_ask_11 (by decide) ⟨_, rfl, Or.inl ⟨hcd, rfl, A, rfl, hR9.self⟩⟩
set_option maxHeartbeats 4000000 in
set_option maxRecDepth 100000 in
theorem a_enter {l : Launch} (hl : l.stackTraces = false) {g : GP} {M : MM} {A : Nat → Nat} {M0 : MM} {σ : ST} {c : Nat} {x0 y0 s0 w0 : Int32} (hR : CM g A M0 σ M) (hI : Inv c σ) : CTH l g yL_ask cL_ask 7 (some .int) [(0, 11, 12, 80), (0, 11, 17, 82), (0, 11, 22, 84)] 11 266 5 51 [.ref (A 0), .int (nI 3), .int x0, .int y0, .int s0, .int w0] M (pI (fun r9 M9 => (cdEn σ x0 y0 s0 w0 = 0 ∧ r9 = nI (σ.1 17 (cl x0) + 1) ∧ AFT g A (enU σ (cl x0) (cl y0) (cl s0) (cl w0)) M9) ∨ (cdEn σ x0 y0 s0 w0 = 1 ∧ r9 = (-11) ∧ M = M9) ∨ (cdEn σ x0 y0 s0 w0 = 2 ∧ r9 = (-12) ∧ M = M9) ∨ (cdEn σ x0 y0 s0 w0 = 3 ∧ r9 = (-13) ∧ M = M9))) := by
  refine cth_of [(0, .ref (A 0)), (1, .int (nI 3)), (2, .int x0), (3, .int y0), (4, .int s0), (5, .int w0)] (by decide) hl (Nat.le_of_ble_eq_true rfl) rfl ?_
  intro K hK F
  subst hK
  have F : Fx K g cL_ask RL 7 (some .int) [(0, 11, 12, 80), (0, 11, 17, 82), (0, 11, 22, 84)] 11 266 5 51 := F
  obtain ⟨Q, hQ⟩ : ∃ Q, Q = MQx K g (pI (fun r9 M9 => (cdEn σ x0 y0 s0 w0 = 0 ∧ r9 = nI (σ.1 17 (cl x0) + 1) ∧ AFT g A (enU σ (cl x0) (cl y0) (cl s0) (cl w0)) M9) ∨ (cdEn σ x0 y0 s0 w0 = 1 ∧ r9 = (-11) ∧ M = M9) ∨ (cdEn σ x0 y0 s0 w0 = 2 ∧ r9 = (-12) ∧ M = M9) ∨ (cdEn σ x0 y0 s0 w0 = 3 ∧ r9 = (-13) ∧ M = M9))) (nX) 5 51 := ⟨_, rfl⟩
  rw [← hQ]
  refine x_aload_n F 0 dL_ask_0 rfl ?_
  refine x_iload_n F 1 dL_ask_1 rfl ?_
  refine x_iload_n F 2 dL_ask_2 rfl ?_
  refine x_iload_n F 3 dL_ask_3 rfl ?_
  refine x_iload F 4 dL_ask_4 rfl ?_
  refine x_iload F 5 dL_ask_6 rfl ?_
  refine x_callS F s_L_76 rfl (c_L_call_enter F.nt hR hI) rfl dL_ask_8 (by decide) (by decide) (Nat.le_of_ble_eq_true rfl) (fun E M9 hx => ?_) (ki fun r9 M9 hp9 => ?_)
  · obtain ⟨rfl, hx⟩ := hx
    rcases hx with ⟨rfl, hc⟩ | ⟨rfl, hc⟩ | ⟨rfl, hc⟩
    · refine x_catchX F [] ⟨0, 11, 12, 80⟩ [⟨0, 11, 17, 82⟩, ⟨0, 11, 22, 84⟩] rfl (fun z hz => by cases hz) (by decide) (by decide) w_cl80 (by decide) (fun q => ?_)
      refine x_astore F [(6, .ref q), (0, .ref (A 0)), (1, .int (nI 3)), (2, .int x0), (3, .int y0), (4, .int s0), (5, .int w0)] dL_ask_12 (by decide) rfl ?_
      refine x_bipush F (-11) dL_ask_14 (by decide) ?_
      rw [hQ]
      exact x_iret F dL_ask_16 (by decide) ⟨_, rfl, Or.inr (Or.inl ⟨hc, rfl, rfl⟩)⟩
    · refine x_catchX F [⟨0, 11, 12, 80⟩] ⟨0, 11, 17, 82⟩ [⟨0, 11, 22, 84⟩] rfl (fun z hz => by rcases List.mem_cons.mp hz with rfl | hz; exact Or.inr ⟨by decide, sIO, w_cl80, by decide⟩; cases hz) (by decide) (by decide) w_cl82 (by decide) (fun q => ?_)
      refine x_astore F [(6, .ref q), (0, .ref (A 0)), (1, .int (nI 3)), (2, .int x0), (3, .int y0), (4, .int s0), (5, .int w0)] dL_ask_17 (by decide) rfl ?_
      refine x_bipush F (-12) dL_ask_19 (by decide) ?_
      rw [hQ]
      exact x_iret F dL_ask_21 (by decide) ⟨_, rfl, Or.inr (Or.inr (Or.inl ⟨hc, rfl, rfl⟩))⟩
    · refine x_catchX F [⟨0, 11, 12, 80⟩, ⟨0, 11, 17, 82⟩] ⟨0, 11, 22, 84⟩ [] rfl (fun z hz => by rcases List.mem_cons.mp hz with rfl | hz; exact Or.inr ⟨by decide, sIO, w_cl80, by decide⟩; rcases List.mem_cons.mp hz with rfl | hz; exact Or.inr ⟨by decide, sIA, w_cl82, by decide⟩; cases hz) (by decide) (by decide) w_cl84 (by decide) (fun q => ?_)
      refine x_astore F [(6, .ref q), (0, .ref (A 0)), (1, .int (nI 3)), (2, .int x0), (3, .int y0), (4, .int s0), (5, .int w0)] dL_ask_22 (by decide) rfl ?_
      refine x_bipush F (-13) dL_ask_24 (by decide) ?_
      rw [hQ]
      exact x_iret F dL_ask_26 (by decide) ⟨_, rfl, Or.inr (Or.inr (Or.inr (⟨hc, rfl, rfl⟩)))⟩
  · obtain ⟨hcd, rfl, A2, hA0, hR9, -⟩ := hp9
    rw [hQ]
    exact x_iret F dL_ask_11 (by decide) ⟨_, rfl, Or.inl ⟨hcd, rfl, A2, hA0, hR9.self⟩⟩
set_option maxHeartbeats 4000000 in
set_option maxRecDepth 100000 in
theorem a_close {l : Launch} (hl : l.stackTraces = false) {g : GP} {M : MM} {A : Nat → Nat} {M0 : MM} {σ : ST} {c : Nat} {x0 : Int32} {u1 u2 u3 : Int32} (hR : CM g A M0 σ M) (hI : Inv c σ) : CTH l g yL_ask cL_ask 7 (some .int) [(0, 11, 12, 80), (0, 11, 17, 82), (0, 11, 22, 84)] 9 238 2 12 [.ref (A 0), .int (nI 4), .int x0, .int u1, .int u2, .int u3] M (pI (fun r9 M9 => (cdSt σ x0 0 = 0 ∧ r9 = nI (plIn (clU σ (cl x0)) (cl x0)) ∧ AFT g A (clU σ (cl x0)) M9) ∨ (cdSt σ x0 0 = 1 ∧ r9 = (-11) ∧ M = M9) ∨ (cdSt σ x0 0 = 2 ∧ r9 = (-13) ∧ M = M9))) := by
  refine cth_of [(0, .ref (A 0)), (1, .int (nI 4)), (2, .int x0), (3, .int u1), (4, .int u2), (5, .int u3)] (by decide) hl (Nat.le_of_ble_eq_true rfl) rfl ?_
  intro K hK F
  subst hK
  have F : Fx K g cL_ask RL 7 (some .int) [(0, 11, 12, 80), (0, 11, 17, 82), (0, 11, 22, 84)] 9 238 2 12 := F
  obtain ⟨Q, hQ⟩ : ∃ Q, Q = MQx K g (pI (fun r9 M9 => (cdSt σ x0 0 = 0 ∧ r9 = nI (plIn (clU σ (cl x0)) (cl x0)) ∧ AFT g A (clU σ (cl x0)) M9) ∨ (cdSt σ x0 0 = 1 ∧ r9 = (-11) ∧ M = M9) ∨ (cdSt σ x0 0 = 2 ∧ r9 = (-13) ∧ M = M9))) (nX) 2 12 := ⟨_, rfl⟩
  rw [← hQ]
  refine x_aload_n F 0 dL_ask_0 rfl ?_
  refine x_iload_n F 1 dL_ask_1 rfl ?_
  refine x_iload_n F 2 dL_ask_2 rfl ?_
  refine x_iload_n F 3 dL_ask_3 rfl ?_
  refine x_iload F 4 dL_ask_4 rfl ?_
  refine x_iload F 5 dL_ask_6 rfl ?_
  refine x_callS F s_L_76 rfl (c_L_call_close F.nt hR hI) rfl dL_ask_8 (by decide) (by decide) (Nat.le_of_ble_eq_true rfl) (fun E M9 hx => ?_) (ki fun r9 M9 hp9 => ?_)
  · obtain ⟨rfl, hx⟩ := hx
    rcases hx with ⟨rfl, hc⟩ | ⟨rfl, hc⟩
    · refine x_catchX F [] ⟨0, 11, 12, 80⟩ [⟨0, 11, 17, 82⟩, ⟨0, 11, 22, 84⟩] rfl (fun z hz => by cases hz) (by decide) (by decide) w_cl80 (by decide) (fun q => ?_)
      refine x_astore F [(6, .ref q), (0, .ref (A 0)), (1, .int (nI 4)), (2, .int x0), (3, .int u1), (4, .int u2), (5, .int u3)] dL_ask_12 (by decide) rfl ?_
      refine x_bipush F (-11) dL_ask_14 (by decide) ?_
      rw [hQ]
      exact x_iret F dL_ask_16 (by decide) ⟨_, rfl, Or.inr (Or.inl ⟨hc, rfl, rfl⟩)⟩
    · refine x_catchX F [⟨0, 11, 12, 80⟩, ⟨0, 11, 17, 82⟩] ⟨0, 11, 22, 84⟩ [] rfl (fun z hz => by rcases List.mem_cons.mp hz with rfl | hz; exact Or.inr ⟨by decide, sIO, w_cl80, by decide⟩; rcases List.mem_cons.mp hz with rfl | hz; exact Or.inr ⟨by decide, sIA, w_cl82, by decide⟩; cases hz) (by decide) (by decide) w_cl84 (by decide) (fun q => ?_)
      refine x_astore F [(6, .ref q), (0, .ref (A 0)), (1, .int (nI 4)), (2, .int x0), (3, .int u1), (4, .int u2), (5, .int u3)] dL_ask_22 (by decide) rfl ?_
      refine x_bipush F (-13) dL_ask_24 (by decide) ?_
      rw [hQ]
      exact x_iret F dL_ask_26 (by decide) ⟨_, rfl, Or.inr (Or.inr (⟨hc, rfl, rfl⟩))⟩
  · obtain ⟨hcd, rfl, hR9⟩ := hp9
    rw [hQ]
    exact x_iret F dL_ask_11 (by decide) ⟨_, rfl, Or.inl ⟨hcd, rfl, A, rfl, hR9.self⟩⟩
set_option maxHeartbeats 4000000 in
set_option maxRecDepth 100000 in
theorem a_draw {l : Launch} (hl : l.stackTraces = false) {g : GP} {M : MM} {A : Nat → Nat} {M0 : MM} {σ : ST} {c : Nat} {x0 : Int32} {u1 u2 u3 : Int32} (hR : CM g A M0 σ M) (hI : Inv c σ) : CTH l g yL_ask cL_ask 7 (some .int) [(0, 11, 12, 80), (0, 11, 17, 82), (0, 11, 22, 84)] 10 260 2 12 [.ref (A 0), .int (nI 7), .int x0, .int u1, .int u2, .int u3] M (pI (fun r9 M9 => (cdSt σ x0 1 = 0 ∧ r9 = nI (drN σ (cl x0) (σ.1 11 (cl x0))) ∧ AFT g A (drnU σ (cl x0)) M9) ∨ (cdSt σ x0 1 = 1 ∧ r9 = (-11) ∧ M = M9) ∨ (cdSt σ x0 1 = 2 ∧ r9 = (-13) ∧ M = M9))) := by
  refine cth_of [(0, .ref (A 0)), (1, .int (nI 7)), (2, .int x0), (3, .int u1), (4, .int u2), (5, .int u3)] (by decide) hl (Nat.le_of_ble_eq_true rfl) rfl ?_
  intro K hK F
  subst hK
  have F : Fx K g cL_ask RL 7 (some .int) [(0, 11, 12, 80), (0, 11, 17, 82), (0, 11, 22, 84)] 10 260 2 12 := F
  obtain ⟨Q, hQ⟩ : ∃ Q, Q = MQx K g (pI (fun r9 M9 => (cdSt σ x0 1 = 0 ∧ r9 = nI (drN σ (cl x0) (σ.1 11 (cl x0))) ∧ AFT g A (drnU σ (cl x0)) M9) ∨ (cdSt σ x0 1 = 1 ∧ r9 = (-11) ∧ M = M9) ∨ (cdSt σ x0 1 = 2 ∧ r9 = (-13) ∧ M = M9))) (nX) 2 12 := ⟨_, rfl⟩
  rw [← hQ]
  refine x_aload_n F 0 dL_ask_0 rfl ?_
  refine x_iload_n F 1 dL_ask_1 rfl ?_
  refine x_iload_n F 2 dL_ask_2 rfl ?_
  refine x_iload_n F 3 dL_ask_3 rfl ?_
  refine x_iload F 4 dL_ask_4 rfl ?_
  refine x_iload F 5 dL_ask_6 rfl ?_
  refine x_callS F s_L_76 rfl (c_L_call_draw F.nt hR hI) rfl dL_ask_8 (by decide) (by decide) (Nat.le_of_ble_eq_true rfl) (fun E M9 hx => ?_) (ki fun r9 M9 hp9 => ?_)
  · obtain ⟨rfl, hx⟩ := hx
    rcases hx with ⟨rfl, hc⟩ | ⟨rfl, hc⟩
    · refine x_catchX F [] ⟨0, 11, 12, 80⟩ [⟨0, 11, 17, 82⟩, ⟨0, 11, 22, 84⟩] rfl (fun z hz => by cases hz) (by decide) (by decide) w_cl80 (by decide) (fun q => ?_)
      refine x_astore F [(6, .ref q), (0, .ref (A 0)), (1, .int (nI 7)), (2, .int x0), (3, .int u1), (4, .int u2), (5, .int u3)] dL_ask_12 (by decide) rfl ?_
      refine x_bipush F (-11) dL_ask_14 (by decide) ?_
      rw [hQ]
      exact x_iret F dL_ask_16 (by decide) ⟨_, rfl, Or.inr (Or.inl ⟨hc, rfl, rfl⟩)⟩
    · refine x_catchX F [⟨0, 11, 12, 80⟩, ⟨0, 11, 17, 82⟩] ⟨0, 11, 22, 84⟩ [] rfl (fun z hz => by rcases List.mem_cons.mp hz with rfl | hz; exact Or.inr ⟨by decide, sIO, w_cl80, by decide⟩; rcases List.mem_cons.mp hz with rfl | hz; exact Or.inr ⟨by decide, sIA, w_cl82, by decide⟩; cases hz) (by decide) (by decide) w_cl84 (by decide) (fun q => ?_)
      refine x_astore F [(6, .ref q), (0, .ref (A 0)), (1, .int (nI 7)), (2, .int x0), (3, .int u1), (4, .int u2), (5, .int u3)] dL_ask_22 (by decide) rfl ?_
      refine x_bipush F (-13) dL_ask_24 (by decide) ?_
      rw [hQ]
      exact x_iret F dL_ask_26 (by decide) ⟨_, rfl, Or.inr (Or.inr (⟨hc, rfl, rfl⟩))⟩
  · obtain ⟨hcd, rfl, hR9⟩ := hp9
    rw [hQ]
    exact x_iret F dL_ask_11 (by decide) ⟨_, rfl, Or.inl ⟨hcd, rfl, A, rfl, hR9.self⟩⟩
set_option maxHeartbeats 4000000 in
set_option maxRecDepth 100000 in
theorem a_answer {l : Launch} (hl : l.stackTraces = false) {g : GP} {M : MM} {A : Nat → Nat} {M0 : MM} {σ : ST} {c : Nat} {x0 y0 : Int32} {f : Bool} {u3 : Int32} (hR : CM g A M0 σ M) (hI : Inv c σ) : CTH l g yL_ask cL_ask 7 (some .int) [(0, 11, 12, 80), (0, 11, 17, 82), (0, 11, 22, 84)] 10 235 3 18 [.ref (A 0), .int (nI 10), .int x0, .int y0, .int (nI (bz f)), .int u3] M (pI (fun r9 M9 => (cdAn σ x0 y0 = 0 ∧ r9 = (if f = true then (ansU σ (cl x0) (cl y0) f).2.1 23 (12 * cl x0 + cl y0) else -1) ∧ AFT g A (ansU σ (cl x0) (cl y0) f) M9) ∨ (cdAn σ x0 y0 = 1 ∧ r9 = (-11) ∧ M = M9) ∨ (cdAn σ x0 y0 = 2 ∧ r9 = (-13) ∧ M = M9))) := by
  refine cth_of [(0, .ref (A 0)), (1, .int (nI 10)), (2, .int x0), (3, .int y0), (4, .int (nI (bz f))), (5, .int u3)] (by decide) hl (Nat.le_of_ble_eq_true rfl) rfl ?_
  intro K hK F
  subst hK
  have F : Fx K g cL_ask RL 7 (some .int) [(0, 11, 12, 80), (0, 11, 17, 82), (0, 11, 22, 84)] 10 235 3 18 := F
  obtain ⟨Q, hQ⟩ : ∃ Q, Q = MQx K g (pI (fun r9 M9 => (cdAn σ x0 y0 = 0 ∧ r9 = (if f = true then (ansU σ (cl x0) (cl y0) f).2.1 23 (12 * cl x0 + cl y0) else -1) ∧ AFT g A (ansU σ (cl x0) (cl y0) f) M9) ∨ (cdAn σ x0 y0 = 1 ∧ r9 = (-11) ∧ M = M9) ∨ (cdAn σ x0 y0 = 2 ∧ r9 = (-13) ∧ M = M9))) (nX) 3 18 := ⟨_, rfl⟩
  rw [← hQ]
  refine x_aload_n F 0 dL_ask_0 rfl ?_
  refine x_iload_n F 1 dL_ask_1 rfl ?_
  refine x_iload_n F 2 dL_ask_2 rfl ?_
  refine x_iload_n F 3 dL_ask_3 rfl ?_
  refine x_iload F 4 dL_ask_4 rfl ?_
  refine x_iload F 5 dL_ask_6 rfl ?_
  refine x_callS F s_L_76 rfl (c_L_call_answer F.nt hR hI) rfl dL_ask_8 (by decide) (by decide) (Nat.le_of_ble_eq_true rfl) (fun E M9 hx => ?_) (ki fun r9 M9 hp9 => ?_)
  · obtain ⟨rfl, hx⟩ := hx
    rcases hx with ⟨rfl, hc⟩ | ⟨rfl, hc⟩
    · refine x_catchX F [] ⟨0, 11, 12, 80⟩ [⟨0, 11, 17, 82⟩, ⟨0, 11, 22, 84⟩] rfl (fun z hz => by cases hz) (by decide) (by decide) w_cl80 (by decide) (fun q => ?_)
      refine x_astore F [(6, .ref q), (0, .ref (A 0)), (1, .int (nI 10)), (2, .int x0), (3, .int y0), (4, .int (nI (bz f))), (5, .int u3)] dL_ask_12 (by decide) rfl ?_
      refine x_bipush F (-11) dL_ask_14 (by decide) ?_
      rw [hQ]
      exact x_iret F dL_ask_16 (by decide) ⟨_, rfl, Or.inr (Or.inl ⟨hc, rfl, rfl⟩)⟩
    · refine x_catchX F [⟨0, 11, 12, 80⟩, ⟨0, 11, 17, 82⟩] ⟨0, 11, 22, 84⟩ [] rfl (fun z hz => by rcases List.mem_cons.mp hz with rfl | hz; exact Or.inr ⟨by decide, sIO, w_cl80, by decide⟩; rcases List.mem_cons.mp hz with rfl | hz; exact Or.inr ⟨by decide, sIA, w_cl82, by decide⟩; cases hz) (by decide) (by decide) w_cl84 (by decide) (fun q => ?_)
      refine x_astore F [(6, .ref q), (0, .ref (A 0)), (1, .int (nI 10)), (2, .int x0), (3, .int y0), (4, .int (nI (bz f))), (5, .int u3)] dL_ask_22 (by decide) rfl ?_
      refine x_bipush F (-13) dL_ask_24 (by decide) ?_
      rw [hQ]
      exact x_iret F dL_ask_26 (by decide) ⟨_, rfl, Or.inr (Or.inr (⟨hc, rfl, rfl⟩))⟩
  · obtain ⟨hcd, rfl, hR9⟩ := hp9
    rw [hQ]
    exact x_iret F dL_ask_11 (by decide) ⟨_, rfl, Or.inl ⟨hcd, rfl, A, rfl, hR9.self⟩⟩
set_option maxHeartbeats 4000000 in
set_option maxRecDepth 100000 in
theorem a_pay {l : Launch} (hl : l.stackTraces = false) {g : GP} {M : MM} {A : Nat → Nat} {M0 : MM} {σ : ST} {c : Nat} {x0 : Int32} {u1 u2 u3 : Int32} (hR : CM g A M0 σ M) (hI : Inv c σ) : CTH l g yL_ask cL_ask 7 (some .int) [(0, 11, 12, 80), (0, 11, 17, 82), (0, 11, 22, 84)] 10 250 2 12 [.ref (A 0), .int (nI 13), .int x0, .int u1, .int u2, .int u3] M (pI (fun r9 M9 => (cdPa σ x0 = 0 ∧ r9 = nI (ccN σ (cl x0)) ∧ AFT g A (pyU σ (cl x0)) M9) ∨ (cdPa σ x0 = 1 ∧ r9 = (-11) ∧ M = M9) ∨ (cdPa σ x0 = 2 ∧ r9 = (-13) ∧ M = M9))) := by
  refine cth_of [(0, .ref (A 0)), (1, .int (nI 13)), (2, .int x0), (3, .int u1), (4, .int u2), (5, .int u3)] (by decide) hl (Nat.le_of_ble_eq_true rfl) rfl ?_
  intro K hK F
  subst hK
  have F : Fx K g cL_ask RL 7 (some .int) [(0, 11, 12, 80), (0, 11, 17, 82), (0, 11, 22, 84)] 10 250 2 12 := F
  obtain ⟨Q, hQ⟩ : ∃ Q, Q = MQx K g (pI (fun r9 M9 => (cdPa σ x0 = 0 ∧ r9 = nI (ccN σ (cl x0)) ∧ AFT g A (pyU σ (cl x0)) M9) ∨ (cdPa σ x0 = 1 ∧ r9 = (-11) ∧ M = M9) ∨ (cdPa σ x0 = 2 ∧ r9 = (-13) ∧ M = M9))) (nX) 2 12 := ⟨_, rfl⟩
  rw [← hQ]
  refine x_aload_n F 0 dL_ask_0 rfl ?_
  refine x_iload_n F 1 dL_ask_1 rfl ?_
  refine x_iload_n F 2 dL_ask_2 rfl ?_
  refine x_iload_n F 3 dL_ask_3 rfl ?_
  refine x_iload F 4 dL_ask_4 rfl ?_
  refine x_iload F 5 dL_ask_6 rfl ?_
  refine x_callS F s_L_76 rfl (c_L_call_pay F.nt hR hI) rfl dL_ask_8 (by decide) (by decide) (Nat.le_of_ble_eq_true rfl) (fun E M9 hx => ?_) (ki fun r9 M9 hp9 => ?_)
  · obtain ⟨rfl, hx⟩ := hx
    rcases hx with ⟨rfl, hc⟩ | ⟨rfl, hc⟩
    · refine x_catchX F [] ⟨0, 11, 12, 80⟩ [⟨0, 11, 17, 82⟩, ⟨0, 11, 22, 84⟩] rfl (fun z hz => by cases hz) (by decide) (by decide) w_cl80 (by decide) (fun q => ?_)
      refine x_astore F [(6, .ref q), (0, .ref (A 0)), (1, .int (nI 13)), (2, .int x0), (3, .int u1), (4, .int u2), (5, .int u3)] dL_ask_12 (by decide) rfl ?_
      refine x_bipush F (-11) dL_ask_14 (by decide) ?_
      rw [hQ]
      exact x_iret F dL_ask_16 (by decide) ⟨_, rfl, Or.inr (Or.inl ⟨hc, rfl, rfl⟩)⟩
    · refine x_catchX F [⟨0, 11, 12, 80⟩, ⟨0, 11, 17, 82⟩] ⟨0, 11, 22, 84⟩ [] rfl (fun z hz => by rcases List.mem_cons.mp hz with rfl | hz; exact Or.inr ⟨by decide, sIO, w_cl80, by decide⟩; rcases List.mem_cons.mp hz with rfl | hz; exact Or.inr ⟨by decide, sIA, w_cl82, by decide⟩; cases hz) (by decide) (by decide) w_cl84 (by decide) (fun q => ?_)
      refine x_astore F [(6, .ref q), (0, .ref (A 0)), (1, .int (nI 13)), (2, .int x0), (3, .int u1), (4, .int u2), (5, .int u3)] dL_ask_22 (by decide) rfl ?_
      refine x_bipush F (-13) dL_ask_24 (by decide) ?_
      rw [hQ]
      exact x_iret F dL_ask_26 (by decide) ⟨_, rfl, Or.inr (Or.inr (⟨hc, rfl, rfl⟩))⟩
  · obtain ⟨hcd, rfl, hR9⟩ := hp9
    rw [hQ]
    exact x_iret F dL_ask_11 (by decide) ⟨_, rfl, Or.inl ⟨hcd, rfl, A, rfl, hR9.self⟩⟩
set_option maxHeartbeats 4000000 in
set_option maxRecDepth 100000 in
theorem a_ranked {l : Launch} (hl : l.stackTraces = false) {g : GP} {M : MM} {A : Nat → Nat} {M0 : MM} {σ : ST} {c : Nat} {x0 : Int32} {u1 u2 u3 : Int32} (hR : CM g A M0 σ M) (hI : Inv c σ) : CTH l g yL_ask cL_ask 7 (some .int) [(0, 11, 12, 80), (0, 11, 17, 82), (0, 11, 22, 84)] 9 234 1 6 [.ref (A 0), .int (nI 16), .int x0, .int u1, .int u2, .int u3] M (pI (fun r9 M9 => (cdRk x0 = 0 ∧ r9 = fF (fun k => decide (nI (rkcS σ k) = x0)) 0 (σ.1 7 0) ∧ M = M9) ∨ (cdRk x0 = 1 ∧ r9 = (-12) ∧ M = M9))) := by
  refine cth_of [(0, .ref (A 0)), (1, .int (nI 16)), (2, .int x0), (3, .int u1), (4, .int u2), (5, .int u3)] (by decide) hl (Nat.le_of_ble_eq_true rfl) rfl ?_
  intro K hK F
  subst hK
  have F : Fx K g cL_ask RL 7 (some .int) [(0, 11, 12, 80), (0, 11, 17, 82), (0, 11, 22, 84)] 9 234 1 6 := F
  obtain ⟨Q, hQ⟩ : ∃ Q, Q = MQx K g (pI (fun r9 M9 => (cdRk x0 = 0 ∧ r9 = fF (fun k => decide (nI (rkcS σ k) = x0)) 0 (σ.1 7 0) ∧ M = M9) ∨ (cdRk x0 = 1 ∧ r9 = (-12) ∧ M = M9))) (nX) 1 6 := ⟨_, rfl⟩
  rw [← hQ]
  refine x_aload_n F 0 dL_ask_0 rfl ?_
  refine x_iload_n F 1 dL_ask_1 rfl ?_
  refine x_iload_n F 2 dL_ask_2 rfl ?_
  refine x_iload_n F 3 dL_ask_3 rfl ?_
  refine x_iload F 4 dL_ask_4 rfl ?_
  refine x_iload F 5 dL_ask_6 rfl ?_
  refine x_callS F s_L_76 rfl (c_L_call_ranked F.nt hR hI) rfl dL_ask_8 (by decide) (by decide) (Nat.le_of_ble_eq_true rfl) (fun E M9 hx => ?_) (ki fun r9 M9 hp9 => ?_)
  · obtain ⟨rfl, hx⟩ := hx
    obtain ⟨rfl, hc⟩ := hx
    refine x_catchX F [⟨0, 11, 12, 80⟩] ⟨0, 11, 17, 82⟩ [⟨0, 11, 22, 84⟩] rfl (fun z hz => by rcases List.mem_cons.mp hz with rfl | hz; exact Or.inr ⟨by decide, sIO, w_cl80, by decide⟩; cases hz) (by decide) (by decide) w_cl82 (by decide) (fun q => ?_)
    refine x_astore F [(6, .ref q), (0, .ref (A 0)), (1, .int (nI 16)), (2, .int x0), (3, .int u1), (4, .int u2), (5, .int u3)] dL_ask_17 (by decide) rfl ?_
    refine x_bipush F (-12) dL_ask_19 (by decide) ?_
    rw [hQ]
    exact x_iret F dL_ask_21 (by decide) ⟨_, rfl, Or.inr (⟨hc, rfl, rfl⟩)⟩
  · obtain ⟨hcd, rfl, rfl⟩ := hp9
    rw [hQ]
    exact x_iret F dL_ask_11 (by decide) ⟨_, rfl, Or.inl ⟨hcd, rfl, rfl⟩⟩
set_option maxHeartbeats 4000000 in
set_option maxRecDepth 100000 in
theorem a_hide {l : Launch} (hl : l.stackTraces = false) {g : GP} {M : MM} {A : Nat → Nat} {M0 : MM} {σ : ST} {c : Nat} {x0 : Int32} {u1 u2 u3 : Int32} (hR : CM g A M0 σ M) (hI : Inv c σ) : CTH l g yL_ask cL_ask 7 (some .int) [(0, 11, 12, 80), (0, 11, 17, 82), (0, 11, 22, 84)] 9 159 1 6 [.ref (A 0), .int (nI 17), .int x0, .int u1, .int u2, .int u3] M (pI (fun r9 M9 => (cdHi x0 = 0 ∧ r9 = nI 0 ∧ AFT g A (uN σ 30 0 (cl x0)) M9) ∨ (cdHi x0 = 1 ∧ r9 = (-12) ∧ M = M9))) := by
  refine cth_of [(0, .ref (A 0)), (1, .int (nI 17)), (2, .int x0), (3, .int u1), (4, .int u2), (5, .int u3)] (by decide) hl (Nat.le_of_ble_eq_true rfl) rfl ?_
  intro K hK F
  subst hK
  have F : Fx K g cL_ask RL 7 (some .int) [(0, 11, 12, 80), (0, 11, 17, 82), (0, 11, 22, 84)] 9 159 1 6 := F
  obtain ⟨Q, hQ⟩ : ∃ Q, Q = MQx K g (pI (fun r9 M9 => (cdHi x0 = 0 ∧ r9 = nI 0 ∧ AFT g A (uN σ 30 0 (cl x0)) M9) ∨ (cdHi x0 = 1 ∧ r9 = (-12) ∧ M = M9))) (nX) 1 6 := ⟨_, rfl⟩
  rw [← hQ]
  refine x_aload_n F 0 dL_ask_0 rfl ?_
  refine x_iload_n F 1 dL_ask_1 rfl ?_
  refine x_iload_n F 2 dL_ask_2 rfl ?_
  refine x_iload_n F 3 dL_ask_3 rfl ?_
  refine x_iload F 4 dL_ask_4 rfl ?_
  refine x_iload F 5 dL_ask_6 rfl ?_
  refine x_callS F s_L_76 rfl (c_L_call_hide F.nt hR hI) rfl dL_ask_8 (by decide) (by decide) (Nat.le_of_ble_eq_true rfl) (fun E M9 hx => ?_) (ki fun r9 M9 hp9 => ?_)
  · obtain ⟨rfl, hx⟩ := hx
    obtain ⟨rfl, hc⟩ := hx
    refine x_catchX F [⟨0, 11, 12, 80⟩] ⟨0, 11, 17, 82⟩ [⟨0, 11, 22, 84⟩] rfl (fun z hz => by rcases List.mem_cons.mp hz with rfl | hz; exact Or.inr ⟨by decide, sIO, w_cl80, by decide⟩; cases hz) (by decide) (by decide) w_cl82 (by decide) (fun q => ?_)
    refine x_astore F [(6, .ref q), (0, .ref (A 0)), (1, .int (nI 17)), (2, .int x0), (3, .int u1), (4, .int u2), (5, .int u3)] dL_ask_17 (by decide) rfl ?_
    refine x_bipush F (-12) dL_ask_19 (by decide) ?_
    rw [hQ]
    exact x_iret F dL_ask_21 (by decide) ⟨_, rfl, Or.inr (⟨hc, rfl, rfl⟩)⟩
  · obtain ⟨hcd, rfl, hR9⟩ := hp9
    rw [hQ]
    exact x_iret F dL_ask_11 (by decide) ⟨_, rfl, Or.inl ⟨hcd, rfl, A, rfl, hR9.self⟩⟩
set_option maxHeartbeats 4000000 in
set_option maxRecDepth 100000 in
theorem a_rodeo {l : Launch} (hl : l.stackTraces = false) {g : GP} {M : MM} {A : Nat → Nat} {M0 : MM} {σ : ST} {c : Nat} {a0 a1 a2 a3 a4 : Int32} {mo : Nat} (hR : CM g A M0 σ M) (hI : Inv c σ) (hmo : mo < 2 ^ 31) : CTH l g yL_rodeo cL_rodeo 8 (some .int) [(0, 23, 24, 82), (0, 23, 29, 84)] 8 217 4 55 [.ref (A 0), .int a0, .int a1, .int a2, .int a3, .int a4, .int (nI mo)] M (pI (fun r9 M9 => (cdRo σ a0 a1 a2 a3 a4 (nI (mo / 1000)) (nI (mo % 1000)) = 0 ∧ r9 = nI (σ.1 18 0) ∧ AFT g A (roU σ a0 a1 a2 a3 a4 (nI (mo / 1000)) (nI (mo % 1000))) M9) ∨ (cdRo σ a0 a1 a2 a3 a4 (nI (mo / 1000)) (nI (mo % 1000)) = 1 ∧ r9 = (-12) ∧ M = M9) ∨ (cdRo σ a0 a1 a2 a3 a4 (nI (mo / 1000)) (nI (mo % 1000)) = 2 ∧ r9 = (-13) ∧ M = M9))) := by
  refine cth_of [(0, .ref (A 0)), (1, .int a0), (2, .int a1), (3, .int a2), (4, .int a3), (5, .int a4), (6, .int (nI mo))] (by decide) hl (Nat.le_of_ble_eq_true rfl) rfl ?_
  intro K hK F
  subst hK
  have F : Fx K g cL_rodeo RL 8 (some .int) [(0, 23, 24, 82), (0, 23, 29, 84)] 8 217 4 55 := F
  obtain ⟨Q, hQ⟩ : ∃ Q, Q = MQx K g (pI (fun r9 M9 => (cdRo σ a0 a1 a2 a3 a4 (nI (mo / 1000)) (nI (mo % 1000)) = 0 ∧ r9 = nI (σ.1 18 0) ∧ AFT g A (roU σ a0 a1 a2 a3 a4 (nI (mo / 1000)) (nI (mo % 1000))) M9) ∨ (cdRo σ a0 a1 a2 a3 a4 (nI (mo / 1000)) (nI (mo % 1000)) = 1 ∧ r9 = (-12) ∧ M = M9) ∨ (cdRo σ a0 a1 a2 a3 a4 (nI (mo / 1000)) (nI (mo % 1000)) = 2 ∧ r9 = (-13) ∧ M = M9))) (nX) 4 55 := ⟨_, rfl⟩
  rw [← hQ]
  refine x_aload_n F 0 dL_rodeo_0 rfl ?_
  refine x_iload_n F 1 dL_rodeo_1 rfl ?_
  refine x_iload_n F 2 dL_rodeo_2 rfl ?_
  refine x_iload_n F 3 dL_rodeo_3 rfl ?_
  refine x_iload F 4 dL_rodeo_4 rfl ?_
  refine x_iload F 5 dL_rodeo_6 rfl ?_
  refine x_iload F 6 dL_rodeo_8 rfl ?_
  refine x_sipush F (nI 1000) dL_rodeo_10 (by decide) ?_
  refine x_idivN F dL_rodeo_13 hmo (by decide) (by decide) ?_
  refine x_iload F 6 dL_rodeo_14 rfl ?_
  refine x_sipush F (nI 1000) dL_rodeo_16 (by decide) ?_
  refine x_iremN F dL_rodeo_19 hmo (by decide) (by decide) ?_
  refine x_callV F s_L_86 hR.c rfl rfl (c_X3_rodeo F.nt hR hI.B hI.W hI.be hI.zr) rfl dL_rodeo_20 (by decide) (by decide) (Nat.le_of_ble_eq_true rfl) (fun E M9 hx => ?_) (ki fun r9 M9 hp9 => ?_)
  · obtain ⟨rfl, hx⟩ := hx
    rcases hx with ⟨rfl, hc⟩ | ⟨rfl, hc⟩
    · refine x_catchX F [] ⟨0, 23, 24, 82⟩ [⟨0, 23, 29, 84⟩] rfl (fun z hz => by cases hz) (by decide) (by decide) w_cl82 (by decide) (fun q => ?_)
      refine x_astore F [(7, .ref q), (0, .ref (A 0)), (1, .int a0), (2, .int a1), (3, .int a2), (4, .int a3), (5, .int a4), (6, .int (nI mo))] dL_rodeo_24 (by decide) rfl ?_
      refine x_bipush F (-12) dL_rodeo_26 (by decide) ?_
      rw [hQ]
      exact x_iret F dL_rodeo_28 (by decide) ⟨_, rfl, Or.inr (Or.inl ⟨hc, rfl, rfl⟩)⟩
    · refine x_catchX F [⟨0, 23, 24, 82⟩] ⟨0, 23, 29, 84⟩ [] rfl (fun z hz => by rcases List.mem_cons.mp hz with rfl | hz; exact Or.inr ⟨by decide, sIA, w_cl82, by decide⟩; cases hz) (by decide) (by decide) w_cl84 (by decide) (fun q => ?_)
      refine x_astore F [(7, .ref q), (0, .ref (A 0)), (1, .int a0), (2, .int a1), (3, .int a2), (4, .int a3), (5, .int a4), (6, .int (nI mo))] dL_rodeo_29 (by decide) rfl ?_
      refine x_bipush F (-13) dL_rodeo_31 (by decide) ?_
      rw [hQ]
      exact x_iret F dL_rodeo_33 (by decide) ⟨_, rfl, Or.inr (Or.inr (⟨hc, rfl, rfl⟩))⟩
  · obtain ⟨hcd, rfl, A2, hA0, hR9, -⟩ := hp9
    rw [hQ]
    exact x_iret F dL_rodeo_23 (by decide) ⟨_, rfl, Or.inl ⟨hcd, rfl, A2, hA0, hR9.self⟩⟩
set_option maxHeartbeats 4000000 in
set_option maxRecDepth 100000 in
theorem a_ride {l : Launch} (hl : l.stackTraces = false) {g : GP} {M : MM} {A : Nat → Nat} {M0 : MM} {σ : ST} {c : Nat} {x0 y0 mk w : Int32} {f : Bool} (hR : CM g A M0 σ M) (hI : Inv c σ) : CTH l g yL_ride cL_ride 7 (some .int) [(0, 11, 12, 80), (0, 11, 17, 82), (0, 11, 22, 84)] 9 187 4 24 [.ref (A 0), .int x0, .int y0, .int mk, .int w, .int (nI (bz f))] M (pI (fun r9 M9 => (cdRi σ x0 y0 mk w = 0 ∧ r9 = (ridU σ (12 * cl x0 + cl y0) (cl (σ.2.1 23 (12 * cl x0 + cl y0))) (cl mk) (cl w) f).2.1 28 (12 * cl x0 + cl y0) ∧ AFT g A (ridU σ (12 * cl x0 + cl y0) (cl (σ.2.1 23 (12 * cl x0 + cl y0))) (cl mk) (cl w) f) M9) ∨ (cdRi σ x0 y0 mk w = 1 ∧ r9 = (-11) ∧ M = M9) ∨ (cdRi σ x0 y0 mk w = 2 ∧ r9 = (-12) ∧ M = M9) ∨ (cdRi σ x0 y0 mk w = 3 ∧ r9 = (-13) ∧ M = M9))) := by
  refine cth_of [(0, .ref (A 0)), (1, .int x0), (2, .int y0), (3, .int mk), (4, .int w), (5, .int (nI (bz f)))] (by decide) hl (Nat.le_of_ble_eq_true rfl) rfl ?_
  intro K hK F
  subst hK
  have F : Fx K g cL_ride RL 7 (some .int) [(0, 11, 12, 80), (0, 11, 17, 82), (0, 11, 22, 84)] 9 187 4 24 := F
  obtain ⟨Q, hQ⟩ : ∃ Q, Q = MQx K g (pI (fun r9 M9 => (cdRi σ x0 y0 mk w = 0 ∧ r9 = (ridU σ (12 * cl x0 + cl y0) (cl (σ.2.1 23 (12 * cl x0 + cl y0))) (cl mk) (cl w) f).2.1 28 (12 * cl x0 + cl y0) ∧ AFT g A (ridU σ (12 * cl x0 + cl y0) (cl (σ.2.1 23 (12 * cl x0 + cl y0))) (cl mk) (cl w) f) M9) ∨ (cdRi σ x0 y0 mk w = 1 ∧ r9 = (-11) ∧ M = M9) ∨ (cdRi σ x0 y0 mk w = 2 ∧ r9 = (-12) ∧ M = M9) ∨ (cdRi σ x0 y0 mk w = 3 ∧ r9 = (-13) ∧ M = M9))) (nX) 4 24 := ⟨_, rfl⟩
  rw [← hQ]
  refine x_aload_n F 0 dL_ride_0 rfl ?_
  refine x_iload_n F 1 dL_ride_1 rfl ?_
  refine x_iload_n F 2 dL_ride_2 rfl ?_
  refine x_iload_n F 3 dL_ride_3 rfl ?_
  refine x_iload F 4 dL_ride_4 rfl ?_
  refine x_iload F 5 dL_ride_6 rfl ?_
  refine x_callV F s_L_90 hR.c rfl rfl (c_X3_ride F.nt hR hI.B hI.D hI.hbr) rfl dL_ride_8 (by decide) (by decide) (Nat.le_of_ble_eq_true rfl) (fun E M9 hx => ?_) (ki fun r9 M9 hp9 => ?_)
  · obtain ⟨rfl, hx⟩ := hx
    rcases hx with ⟨rfl, hc⟩ | ⟨rfl, hc⟩ | ⟨rfl, hc⟩
    · refine x_catchX F [] ⟨0, 11, 12, 80⟩ [⟨0, 11, 17, 82⟩, ⟨0, 11, 22, 84⟩] rfl (fun z hz => by cases hz) (by decide) (by decide) w_cl80 (by decide) (fun q => ?_)
      refine x_astore F [(6, .ref q), (0, .ref (A 0)), (1, .int x0), (2, .int y0), (3, .int mk), (4, .int w), (5, .int (nI (bz f)))] dL_ride_12 (by decide) rfl ?_
      refine x_bipush F (-11) dL_ride_14 (by decide) ?_
      rw [hQ]
      exact x_iret F dL_ride_16 (by decide) ⟨_, rfl, Or.inr (Or.inl ⟨hc, rfl, rfl⟩)⟩
    · refine x_catchX F [⟨0, 11, 12, 80⟩] ⟨0, 11, 17, 82⟩ [⟨0, 11, 22, 84⟩] rfl (fun z hz => by rcases List.mem_cons.mp hz with rfl | hz; exact Or.inr ⟨by decide, sIO, w_cl80, by decide⟩; cases hz) (by decide) (by decide) w_cl82 (by decide) (fun q => ?_)
      refine x_astore F [(6, .ref q), (0, .ref (A 0)), (1, .int x0), (2, .int y0), (3, .int mk), (4, .int w), (5, .int (nI (bz f)))] dL_ride_17 (by decide) rfl ?_
      refine x_bipush F (-12) dL_ride_19 (by decide) ?_
      rw [hQ]
      exact x_iret F dL_ride_21 (by decide) ⟨_, rfl, Or.inr (Or.inr (Or.inl ⟨hc, rfl, rfl⟩))⟩
    · refine x_catchX F [⟨0, 11, 12, 80⟩, ⟨0, 11, 17, 82⟩] ⟨0, 11, 22, 84⟩ [] rfl (fun z hz => by rcases List.mem_cons.mp hz with rfl | hz; exact Or.inr ⟨by decide, sIO, w_cl80, by decide⟩; rcases List.mem_cons.mp hz with rfl | hz; exact Or.inr ⟨by decide, sIA, w_cl82, by decide⟩; cases hz) (by decide) (by decide) w_cl84 (by decide) (fun q => ?_)
      refine x_astore F [(6, .ref q), (0, .ref (A 0)), (1, .int x0), (2, .int y0), (3, .int mk), (4, .int w), (5, .int (nI (bz f)))] dL_ride_22 (by decide) rfl ?_
      refine x_bipush F (-13) dL_ride_24 (by decide) ?_
      rw [hQ]
      exact x_iret F dL_ride_26 (by decide) ⟨_, rfl, Or.inr (Or.inr (Or.inr (⟨hc, rfl, rfl⟩)))⟩
  · obtain ⟨hcd, rfl, hR9⟩ := hp9
    rw [hQ]
    exact x_iret F dL_ride_11 (by decide) ⟨_, rfl, Or.inl ⟨hcd, rfl, A, rfl, hR9.self⟩⟩
