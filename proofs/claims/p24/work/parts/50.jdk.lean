/-! the class library's lists and arrays, over maps -/
theorem mup_mup {M : MM} {q : Nat} {e e' : va_E} : mup (mup M q e) q e' = mup M q e' := by
  funext a
  by_cases h : a = q
  · subst h; rw [mup_s, mup_s]
  · rw [mup_n h, mup_n h, mup_n h]
theorem ne_fr {M : MM} {q a : Nat} {e : va_E} (hq : M q = none) (ha : M a = some e) : a ≠ q := fun z => by rw [z, hq] at ha; cases ha
theorem ne_fr' {M : MM} {q a : Nat} {e : va_E} (hq : M q = none) (ha : M a = some e) : q ≠ a := fun z => ne_fr hq ha z.symm
/-- an array of objects -/
abbrev oE (g : GP) (n : Nat) (f : Nat → Option Nat) : va_E := .inl (gC g 3, n, .inr (.inr (.inr (.inr f))))
abbrev lE (mc s : Int32) (d : Nat) : va_E := .inr (0, [.int mc, .ref d, .int s])
set_option maxRecDepth 20000 in
theorem w_mc1 : Cond.fieldLink RJx4a65c 63 RJx4a65c "modCount" "I" ∈ TB := tb_1 47 rfl rfl
set_option maxRecDepth 20000 in
theorem w_mc2 : Cond.sameField RJx4a65c "java/util/AbstractList" "modCount" "I" ∈ TB := tb_1 48 rfl rfl
set_option maxRecDepth 20000 in
theorem w_mc3 : Cond.fieldLink RJxc12de 7 "java/util/AbstractList" "modCount" "I" ∈ TB := tb_1 46 rfl rfl
set_option maxRecDepth 20000 in
theorem w_def : Cond.fieldLink RJx4a65c 39 "java/util/ArrayList" "DEFAULTCAPACITY_EMPTY_ELEMENTDATA" "[Ljava/lang/Object;" ∈ TB := tb_1 42 rfl rfl
set_option maxRecDepth 20000 in
theorem w_gc1 : Cond.methodLink RJ7 86 oGetClass ∈ TB ∧ Cond.selects "[Ljava/lang/Object;" oGetClass oGetClass ∈ TB ∧ Cond.instanceMethod oGetClass ∈ TB ∧ Cond.native oGetClass ∈ TB := ⟨tb_2 162 rfl rfl, tb_4 22 rfl rfl, tb_2 163 rfl rfl, tb_2 173 rfl rfl⟩
set_option maxRecDepth 20000 in
theorem w_cpy : Cond.methodLink RJ7 150 arraycopyName ∈ TB ∧ Cond.native arraycopyName ∈ TB ∧ Cond.static arraycopyName ∈ TB ∧ Cond.initialized "java/lang/System" ∈ TB := ⟨tb_2 181 rfl rfl, tb_2 183 rfl rfl, tb_2 182 rfl rfl, tb_1 14 rfl rfl⟩
theorem mx_le {y z : Nat} (h : y ≤ z) (hz : z < 2 ^ 31) : (if nI y < nI z then nI z else nI y) = nI z := by
  by_cases c : y < z
  · rw [if_pos ((nI_ltI (by omega) hz).mpr c)]
  · have : y = z := by omega
    subst this
    split <;> rfl
theorem mn_le {n c0 : Nat} (h : n ≤ c0) (hc : c0 < 2 ^ 31) : (if nI c0 < nI n then nI c0 else nI n) = nI n := by
  rw [if_neg (fun z => by have := (nI_ltI hc (by omega)).mp z; omega)]
theorem cpy_eq {n : Nat} (f : Nat → Option Nat) (hn : n < 2 ^ 31) : va_cpy f (fun _ => none) (nI 0).toNatClampNeg (nI 0).toNatClampNeg (nI n).toNatClampNeg = fun i9 => if i9 < n then f i9 else none := by
  rw [nI_clamp (n := 0) (by decide), nI_clamp hn]
  funext i
  unfold va_cpy
  simp
def lF (ad : Nat → Nat) (n : Nat) : Nat → Option Nat := fun i => if i < n then some (ad i) else none
def cpL (n : Nat) : Nat := if n ≤ 10 then 10 else if n ≤ 15 then 15 else 22
theorem lF_0 {ad : Nat → Nat} : (fun _ => none) = lF ad 0 := by funext i; simp [lF]
theorem lF_c {ad : Nat → Nat} {n : Nat} : (fun i9 => if i9 < n then lF ad n i9 else none) = lF ad n := by
  funext i
  by_cases h : i < n <;> simp [lF, h]
theorem lF_u {ad : Nat → Nat} {n : Nat} : va_up (lF ad n) n (some (ad n)) = lF ad (n + 1) := by
  funext i
  unfold va_up lF
  by_cases h : i = n
  · subst h; simp
  · by_cases h2 : i < n
    · simp [h, h2, Nat.lt_succ_of_lt h2]
    · simp [h, h2, show ¬ i < n + 1 by omega]
theorem lF_s {ad : Nat → Nat} {n : Nat} : ∀ i9, i9 < n → ∀ y9, lF ad n i9 = some y9 → y9 = ad i9 := by
  intro i h y hy
  simp [lF, h] at hy
  exact hy.symm
theorem oE_f {g : GP} {n : Nat} {f f' : Nat → Option Nat} (h : f = f') : oE g n f = oE g n f' := by rw [h]
def LAP (g : GP) (M : MM) (q d n cap : Nat) (mv : Int32) (ad : Nat → Nat) (M9 : MM) : Prop := ∃ d', ((0 < n ∧ d' = d) ∨ M d' = none) ∧ M9 q = some (lE mv (nI (n + 1)) d') ∧ M9 d' = some (oE g cap (lF ad (n + 1))) ∧ ∀ x9, x9 ≠ q → x9 ≠ d' → M9 x9 = M x9
theorem LAP_mc {g : GP} {M M9 : MM} {q d n cap : Nat} {mv : Int32} {ad : Nat → Nat} {e : va_E} (h : LAP g (mup M q e) q d n cap mv ad M9) : LAP g M q d n cap mv ad M9 := by
  obtain ⟨d', h1, h2, h3, h4⟩ := h
  refine ⟨d', ?_, h2, h3, fun x hx hy => (h4 x hx hy).trans (mup_n hx)⟩
  rcases h1 with h1 | h1
  · exact Or.inl h1
  · refine Or.inr ?_
    by_cases c : d' = q
    · rw [c, mup_s] at h1; cases h1
    · rw [mup_n c] at h1; exact h1
def cmpS (x0 y0 : Nat) : Int32 := if x0 < y0 then -1 else if x0 = y0 then nI 0 else nI 1
section XJ
variable {K : KX} {g : GP} {cc : ByteArray} {own : String} {nL : Nat} {ret : Option FieldType} {hh : List (Nat × Nat × Nat × Nat)} {fr lo mc ms : Nat} {Q : State → Prop} {M : MM} {a b pc : Nat} {L : List (Nat × Value)} {st : List Value}
theorem x_mcget (F : Fx K g cc RJx4a65c nL ret hh fr lo mc ms) {q : Nat} {fs : List Value} {v : Value} (hM0 : M q = some (.inr (0, fs))) (d : decode cc pc = .ok (.getfield 63, 3)) (hv : fs[0]? = some v) (kk : XW K g nL Q M a b (pc + 3) L (v :: st)) : XW K g nL Q M a b pc L (.ref q :: st) :=
  x_get F (T := TJx4a65c) (ref := RJx4a65c) 0 hM0 rfl inT_Jx4a65c (by decide) w_mc1 (fun x9 h9 => u_same (F.tb _ w_mc2) x9 h9) d hv kk
theorem x_mcput (F : Fx K g cc RJx4a65c nL ret hh fr lo mc ms) {q : Nat} {fs : List Value} {v : Int32} (hM0 : M q = some (.inr (0, fs))) (d : decode cc pc = .ok (.putfield 63, 3)) (hlen : 0 < fs.length) (kk : XW K g nL Q (mup M q (.inr (0, fs.set 0 (.int v)))) a b (pc + 3) L st) : XW K g nL Q M a b pc L (.int v :: .ref q :: st) :=
  x_put F (T := TJx4a65c) (ref := RJx4a65c) (ty := .int) 0 hM0 rfl inT_Jx4a65c tyJx4a65c tyJx4a65c_ok nmJx4a65c (by decide) w_mc1 (fun x9 h9 => u_same (F.tb _ w_mc2) x9 h9) rfl (by decide +kernel) d rfl rfl hlen kk
theorem x_mcputA (F : Fx K g cc RJxc12de nL ret hh fr lo mc ms) {q : Nat} {fs : List Value} {v : Int32} (hM0 : M q = some (.inr (0, fs))) (d : decode cc pc = .ok (.putfield 7, 3)) (hlen : 0 < fs.length) (kk : XW K g nL Q (mup M q (.inr (0, fs.set 0 (.int v)))) a b (pc + 3) L st) : XW K g nL Q M a b pc L (.int v :: .ref q :: st) :=
  x_put F (T := TJx4a65c) (ref := "java/util/AbstractList") (ty := .int) 0 hM0 rfl inT_Jx4a65c tyJx4a65c tyJx4a65c_ok nmJx4a65c (by decide) w_mc3 (fun _ h9 => h9) rfl (by decide +kernel) d rfl rfl hlen kk
end XJ
theorem nI_nn {n : Nat} (h : n < 2 ^ 31) : ¬ nI n < 0 := fun z => by
  have h2 := Int32.lt_iff_toInt_lt.mp z
  have h5 : (0 : Int32).toInt = 0 := by decide
  rw [nI_toInt h] at h2
  omega
set_option maxHeartbeats 4000000 in
set_option maxRecDepth 100000 in
theorem c_Jx4a65c_size_8abf5 {l : Launch} (hl : l.stackTraces = false) {g : GP} {M : MM} {q d n : Nat} {mv : Int32} (hL : M q = some (lE mv (nI n) d)) : CT l g yJx4a65c_size_8abf5 cJx4a65c_size_8abf5 1 (some .int) 0 0 0 0 [.ref (q)] M (pI (fun r9 M9 => nI (n) = r9 ∧ M = M9)) nX := by
  refine ct_of [(0, .ref (q))] (by decide) hl (Nat.le_of_ble_eq_true rfl) rfl ?_
  intro K hK F
  subst hK
  have F : Fx K g cJx4a65c_size_8abf5 RJx4a65c 1 (some .int) [] 0 0 0 0 := F
  obtain ⟨Q, hQ⟩ : ∃ Q, Q = MQx K g (pI (fun r9 M9 => nI (n) = r9 ∧ M = M9)) nX 0 0 := ⟨_, rfl⟩
  rw [← hQ]
  refine x_aload_n F 0 dJx4a65c_size_8abf5_0 rfl ?_
  refine x_fget F f_Jx4a65c_48 hL (v := .int (nI (n))) dJx4a65c_size_8abf5_1 rfl ?_
  rw [hQ]
  exact x_iret F dJx4a65c_size_8abf5_4 (by decide) ⟨_, rfl, rfl, rfl⟩
set_option maxHeartbeats 4000000 in
set_option maxRecDepth 100000 in
theorem c_J3_checkIndex_8e157 {l : Launch} (hl : l.stackTraces = false) {g : GP} {M : MM} {i n : Nat} (hi : i < n) (hn : n < 2 ^ 31) : CT l g yJ3_checkIndex_8e157 cJ3_checkIndex_8e157 3 (some .int) 1 50 0 0 [.int (nI (i)), .int (nI (n)), .null] M (pI (fun r9 M9 => nI (i) = r9 ∧ M = M9)) nX := by
  refine ct_of [(0, .int (nI (i))), (1, .int (nI (n))), (2, .null)] (by decide) hl (Nat.le_of_ble_eq_true rfl) rfl ?_
  intro K hK F
  subst hK
  have F : Fx K g cJ3_checkIndex_8e157 RJ3 3 (some .int) [] 1 50 0 0 := F
  obtain ⟨Q, hQ⟩ : ∃ Q, Q = MQx K g (pI (fun r9 M9 => nI (i) = r9 ∧ M = M9)) nX 0 0 := ⟨_, rfl⟩
  rw [← hQ]
  refine x_iload_n F 0 dJ3_checkIndex_8e157_0 rfl ?_
  refine x_if_lt F 9 dJ3_checkIndex_8e157_1 (by decide) (fun c1 => ?_) (fun c1 => ?_)
  · exact absurd c1 (nI_nn (by omega))
  · refine x_iload_n F 0 dJ3_checkIndex_8e157_4 rfl ?_
    refine x_iload_n F 1 dJ3_checkIndex_8e157_5 rfl ?_
    refine x_icmp_lt F 16 dJ3_checkIndex_8e157_6 (by decide) (fun c6 => ?_) (fun c6 => ?_)
    · have c6 := (nI_ltI (by omega) (by omega)).mp c6
      have c6b := Nat.not_le.mpr c6
      refine x_iload_n F 0 dJ3_checkIndex_8e157_16 rfl ?_
      rw [hQ]
      exact x_iret F dJ3_checkIndex_8e157_17 (by decide) ⟨_, rfl, rfl, rfl⟩
    · have c6 := mt (nI_ltI (by omega) (by omega)).mpr c6
      have c6b := Nat.not_lt.mp c6
      omega
set_option maxHeartbeats 4000000 in
set_option maxRecDepth 100000 in
theorem c_J15_checkIndex_7cf53 {l : Launch} (hl : l.stackTraces = false) {g : GP} {M : MM} {i n : Nat} (hi : i < n) (hn : n < 2 ^ 31) : CT l g yJ15_checkIndex_7cf53 cJ15_checkIndex_7cf53 2 (some .int) 2 72 0 0 [.int (nI (i)), .int (nI (n))] M (pI (fun r9 M9 => nI (i) = r9 ∧ M = M9)) nX := by
  refine ct_of [(0, .int (nI (i))), (1, .int (nI (n)))] (by decide) hl (Nat.le_of_ble_eq_true rfl) rfl ?_
  intro K hK F
  subst hK
  have F : Fx K g cJ15_checkIndex_7cf53 RJ15 2 (some .int) [] 2 72 0 0 := F
  obtain ⟨Q, hQ⟩ : ∃ Q, Q = MQx K g (pI (fun r9 M9 => nI (i) = r9 ∧ M = M9)) nX 0 0 := ⟨_, rfl⟩
  rw [← hQ]
  refine x_iload_n F 0 dJ15_checkIndex_7cf53_0 rfl ?_
  refine x_iload_n F 1 dJ15_checkIndex_7cf53_1 rfl ?_
  refine x_null F dJ15_checkIndex_7cf53_2 ?_
  refine x_callS F s_J15_105 rfl (c_J3_checkIndex_8e157 F.nt (by omega) (by omega)) rfl dJ15_checkIndex_7cf53_3 (by decide) (by decide) (Nat.le_of_ble_eq_true rfl) x_noX (ki fun r M2 hp => ?_)
  obtain ⟨rfl, rfl⟩ := hp
  rw [hQ]
  exact x_iret F dJ15_checkIndex_7cf53_6 (by decide) ⟨_, rfl, rfl, rfl⟩
set_option maxHeartbeats 4000000 in
set_option maxRecDepth 100000 in
theorem c_Jx4a65c_elementData_915e3 {l : Launch} (hl : l.stackTraces = false) {g : GP} {M : MM} {q d n i cp ee : Nat} {mv : Int32} {f : Nat → Option Nat} (hL : M q = some (lE mv (nI n) d)) (hD : M d = some (oE g cp f)) (hi : i < n) (hc : n ≤ cp) (hp : cp < 1000) (he : f i = some ee) : CT l g yJx4a65c_elementData_915e3 cJx4a65c_elementData_915e3 2 (some (.object "java/lang/Object")) 0 0 0 0 [.ref (q), .int (nI (i))] M (pR (fun r9 M9 => ee = r9 ∧ M = M9)) nX := by
  refine ct_of [(0, .ref (q)), (1, .int (nI (i)))] (by decide) hl (Nat.le_of_ble_eq_true rfl) rfl ?_
  intro K hK F
  subst hK
  have F : Fx K g cJx4a65c_elementData_915e3 RJx4a65c 2 (some (.object "java/lang/Object")) [] 0 0 0 0 := F
  obtain ⟨Q, hQ⟩ : ∃ Q, Q = MQx K g (pR (fun r9 M9 => ee = r9 ∧ M = M9)) nX 0 0 := ⟨_, rfl⟩
  rw [← hQ]
  refine x_aload_n F 0 dJx4a65c_elementData_915e3_0 rfl ?_
  refine x_fget F f_Jx4a65c_9 hL (v := .ref (d)) dJx4a65c_elementData_915e3_1 rfl ?_
  refine x_iload_n F 1 dJx4a65c_elementData_915e3_4 rfl ?_
  refine x_qald F (f := f) 3 hD rfl (vp_in_nI (by omega) (by omega)) dJx4a65c_elementData_915e3_5 ?_
  refine x_rv0 (y := .ref (ee)) (by rw [nI_clamp (by omega), he]; rfl) ?_
  rw [hQ]
  exact x_aret F rfl (Or.inl ⟨_, rfl⟩) dJx4a65c_elementData_915e3_6 (by decide) ⟨_, rfl, rfl, rfl⟩
set_option maxHeartbeats 4000000 in
set_option maxRecDepth 100000 in
theorem c_Jx4a65c_get_915e3 {l : Launch} (hl : l.stackTraces = false) {g : GP} {M : MM} {q d n i cp ee : Nat} {mv : Int32} {f : Nat → Option Nat} (hL : M q = some (lE mv (nI n) d)) (hD : M d = some (oE g cp f)) (hi : i < n) (hc : n ≤ cp) (hp : cp < 1000) (he : f i = some ee) : CT l g yJx4a65c_get_915e3 cJx4a65c_get_915e3 2 (some (.object "java/lang/Object")) 3 93 0 0 [.ref (q), .int (nI (i))] M (pR (fun r9 M9 => ee = r9 ∧ M = M9)) nX := by
  refine ct_of [(0, .ref (q)), (1, .int (nI (i)))] (by decide) hl (Nat.le_of_ble_eq_true rfl) rfl ?_
  intro K hK F
  subst hK
  have F : Fx K g cJx4a65c_get_915e3 RJx4a65c 2 (some (.object "java/lang/Object")) [] 3 93 0 0 := F
  obtain ⟨Q, hQ⟩ : ∃ Q, Q = MQx K g (pR (fun r9 M9 => ee = r9 ∧ M = M9)) nX 0 0 := ⟨_, rfl⟩
  rw [← hQ]
  refine x_iload_n F 1 dJx4a65c_get_915e3_0 rfl ?_
  refine x_aload_n F 0 dJx4a65c_get_915e3_1 rfl ?_
  refine x_fget F f_Jx4a65c_48 hL (v := .int (nI (n))) dJx4a65c_get_915e3_2 rfl ?_
  refine x_callS F s_Jx4a65c_118 rfl (c_J15_checkIndex_7cf53 F.nt hi (by omega)) rfl dJx4a65c_get_915e3_5 (by decide) (by decide) (Nat.le_of_ble_eq_true rfl) x_noX (ki fun r M2 hp => ?_)
  obtain ⟨rfl, rfl⟩ := hp
  refine x_pop F dJx4a65c_get_915e3_8 rfl ?_
  refine x_aload_n F 0 dJx4a65c_get_915e3_9 rfl ?_
  refine x_iload_n F 1 dJx4a65c_get_915e3_10 rfl ?_
  refine x_callV F s_Jx4a65c_123 hL rfl rfl (c_Jx4a65c_elementData_915e3 F.nt hL hD hi hc hp he) rfl dJx4a65c_get_915e3_11 (by decide) (by decide) (Nat.le_of_ble_eq_true rfl) x_noX (kr fun r_2 M2_2 hp_2 => ?_)
  obtain ⟨rfl, rfl⟩ := hp_2
  rw [hQ]
  exact x_aret F rfl (Or.inl ⟨_, rfl⟩) dJx4a65c_get_915e3_14 (by decide) ⟨_, rfl, rfl, rfl⟩
set_option maxHeartbeats 4000000 in
set_option maxRecDepth 100000 in
theorem c_J8_newLength_cabcc {l : Launch} (hl : l.stackTraces = false) {g : GP} {M : MM} {x0 y0 z0 : Nat} (hy : y0 ≤ z0) (hz : x0 + z0 < 1000) (hp : 0 < x0 + z0) : CT l g yJ8_newLength_cabcc cJ8_newLength_cabcc 4 (some .int) 1 50 0 0 [.int (nI (x0)), .int (nI (y0)), .int (nI (z0))] M (pI (fun r9 M9 => nI (x0 + z0) = r9 ∧ M = M9)) nX := by
  refine ct_of [(0, .int (nI (x0))), (1, .int (nI (y0))), (2, .int (nI (z0)))] (by decide) hl (Nat.le_of_ble_eq_true rfl) rfl ?_
  intro K hK F
  subst hK
  have F : Fx K g cJ8_newLength_cabcc RJ8 4 (some .int) [] 1 50 0 0 := F
  obtain ⟨Q, hQ⟩ : ∃ Q, Q = MQx K g (pI (fun r9 M9 => nI (x0 + z0) = r9 ∧ M = M9)) nX 0 0 := ⟨_, rfl⟩
  rw [← hQ]
  refine x_iload_n F 0 dJ8_newLength_cabcc_0 rfl ?_
  refine x_iload_n F 1 dJ8_newLength_cabcc_1 rfl ?_
  refine x_iload_n F 2 dJ8_newLength_cabcc_2 rfl ?_
  refine x_mmax F u_J8_194 dJ8_newLength_cabcc_3 ⟨by decide, Nat.le_of_ble_eq_true rfl, by decide, by decide⟩ ?_
  refine x_ri0 (y := nI (z0)) (mx_le hy (by omega)) ?_
  refine x_iaddN F dJ8_newLength_cabcc_6 ?_
  refine x_istore_n F [(3, .int (nI (x0 + z0))), (0, .int (nI (x0))), (1, .int (nI (y0))), (2, .int (nI (z0)))] dJ8_newLength_cabcc_7 (by decide) rfl ?_
  refine x_iconst F (nI 0) dJ8_newLength_cabcc_8 (by decide) ?_
  refine x_iload_n F 0 dJ8_newLength_cabcc_9 rfl ?_
  refine x_icmp_ge F 21 dJ8_newLength_cabcc_10 (by decide) (fun c10 => ?_) (fun c10 => ?_)
  · have c10 := (nI_leI (by omega) (by omega)).mp c10
    have c10b := Nat.not_lt.mpr c10
    omega
  · have c10 := mt (nI_leI (by omega) (by omega)).mpr c10
    have c10b := Nat.not_le.mp c10
    refine x_iload_n F 0 dJ8_newLength_cabcc_13 rfl ?_
    refine x_ldc F (nI 2147483639) k_J8_200 dJ8_newLength_cabcc_14 ?_
    refine x_icmp_gt F 21 dJ8_newLength_cabcc_16 (by decide) (fun c16 => ?_) (fun c16 => ?_)
    · have c16 := (nI_ltI (by omega) (by omega)).mp c16
      have c16b := Nat.not_le.mpr c16
      omega
    · have c16 := mt (nI_ltI (by omega) (by omega)).mpr c16
      have c16b := Nat.not_lt.mp c16
      refine x_iload_n F 0 dJ8_newLength_cabcc_19 rfl ?_
      rw [hQ]
      exact x_iret F dJ8_newLength_cabcc_20 (by decide) ⟨_, rfl, rfl, rfl⟩
set_option maxHeartbeats 4000000 in
set_option maxRecDepth 100000 in
theorem c_J7_copyOf_6403c {l : Launch} (hl : l.stackTraces = false) {g : GP} {M : MM} {p n c2 : Nat} {f : Nat → Option Nat} {ci N : Nat} {C : String} {T : u_T}  (hP : M p = some (oE g n f)) (hnc : n ≤ c2) (h22 : c2 ≤ 22) (hv : vwCl[ci]? = some (C, T, N)) (hca : (C, "java/lang/Object") ∈ CCl) (hel : ∀ i9, i9 < n → ∀ y9, f i9 = some y9 → ∃ fs9, M y9 = some (.inr (ci, fs9))) : CT l g yJ7_copyOf_6403c cJ7_copyOf_6403c 4 (some (.array (.object "java/lang/Object"))) 1 50 1 22 [.ref (p), .int (nI (c2)), .ref (gA g 2)] M (pR (fun r9 M9 => M r9 = none ∧ M9 = mup M r9 (oE g c2 (fun i9 => if i9 < n then f i9 else none)))) nX := by
  refine ct_of [(0, .ref (p)), (1, .int (nI (c2))), (2, .ref (gA g 2))] (by decide) hl (Nat.le_of_ble_eq_true rfl) rfl ?_
  intro K hK F
  subst hK
  have F : Fx K g cJ7_copyOf_6403c RJ7 4 (some (.array (.object "java/lang/Object"))) [] 1 50 1 22 := F
  obtain ⟨Q, hQ⟩ : ∃ Q, Q = MQx K g (pR (fun r9 M9 => M r9 = none ∧ M9 = mup M r9 (oE g c2 (fun i9 => if i9 < n then f i9 else none)))) nX 1 22 := ⟨_, rfl⟩
  rw [← hQ]
  refine x_aload_n F 2 dJ7_copyOf_6403c_0 rfl ?_
  refine x_ldcM F l_J7_110 dJ7_copyOf_6403c_1 ?_
  refine x_acmp_ne (rx := some (gA g 2)) (ry := some (gA g 2)) F 13 dJ7_copyOf_6403c_3 (by decide) (fun c3_2 => ?_) (fun c3_2 => ?_)
  · exact absurd rfl c3_2
  · refine x_iload_n F 1 dJ7_copyOf_6403c_6 rfl ?_
    refine x_newO F (c2) l_J7_2 (nI_nn (by omega)) (nI_clamp (by omega)) (by omega) ⟨by omega, by omega⟩ dJ7_copyOf_6403c_7 (fun q hq gq => ?_)
    refine x_widen (a' := 1) (b' := 22) (by omega) (by omega) ?_
    refine x_goto F 24 dJ7_copyOf_6403c_10 (by decide) ?_
    refine x_astore_n F [(3, .ref (q)), (0, .ref (p)), (1, .int (nI (c2))), (2, .ref (gA g 2))] dJ7_copyOf_6403c_24 (by decide) rfl ?_
    refine x_aload_n F 1 dJ7_copyOf_6403c_25 rfl ?_
    refine x_iconst F (nI 0) dJ7_copyOf_6403c_26 (by decide) ?_
    refine x_aload_n F 0 dJ7_copyOf_6403c_27 rfl ?_
    refine x_iconst F (nI 0) dJ7_copyOf_6403c_28 (by decide) ?_
    refine x_aload_n F 1 dJ7_copyOf_6403c_29 rfl ?_
    refine x_alen F 3 ((mup_n (ne_fr hq hP)).trans hP) rfl (v := nI (n)) rfl dJ7_copyOf_6403c_30 ?_
    refine x_iload_n F 2 dJ7_copyOf_6403c_31 rfl ?_
    refine x_mmin F u_J7_304 dJ7_copyOf_6403c_32 ⟨by decide, Nat.le_of_ble_eq_true rfl, by decide, by decide⟩ ?_
    refine x_ri0 (y := nI n) (mn_le hnc (by omega)) ?_
    refine x_copyO F w_cpy ((mup_n (ne_fr hq hP)).trans hP) mup_s hv hca (by decide) (by decide) (nI_nn (by omega)) (by rw [nI_clamp (n := 0) (by omega), nI_clamp (n := n) (by omega)]; omega) (by rw [nI_clamp (n := 0) (by omega), nI_clamp (n := n) (by omega)]; omega) (fun i9 h9 y9 h8 => ?_) dJ7_copyOf_6403c_35 ⟨by decide, Nat.le_of_ble_eq_true rfl⟩ ?_
    · rw [nI_clamp (n := n) (by omega)] at h9
      rw [nI_clamp (n := 0) (by omega), Nat.zero_add] at h8
      obtain ⟨fs9, h7⟩ := hel i9 h9 y9 h8
      exact ⟨fs9, (mup_n (ne_fr hq h7)).trans h7⟩
    refine x_aload_n F 0 dJ7_copyOf_6403c_38 rfl ?_
    rw [hQ]
    exact x_aret F rfl (Or.inr ⟨_, rfl⟩) dJ7_copyOf_6403c_39 (by decide) ⟨_, rfl, hq, by rw [mup_mup, cpy_eq f (by omega)]⟩
set_option maxHeartbeats 4000000 in
set_option maxRecDepth 100000 in
theorem c_J7_copyOf_1904c {l : Launch} (hl : l.stackTraces = false) {g : GP} {M : MM} {p n c2 : Nat} {f : Nat → Option Nat} {ci N : Nat} {C : String} {T : u_T}  (hP : M p = some (oE g n f)) (hnc : n ≤ c2) (h22 : c2 ≤ 22) (hv : vwCl[ci]? = some (C, T, N)) (hca : (C, "java/lang/Object") ∈ CCl) (hel : ∀ i9, i9 < n → ∀ y9, f i9 = some y9 → ∃ fs9, M y9 = some (.inr (ci, fs9))) : CT l g yJ7_copyOf_1904c cJ7_copyOf_1904c 2 (some (.array (.object "java/lang/Object"))) 2 73 1 22 [.ref (p), .int (nI (c2))] M (pR (fun r9 M9 => M r9 = none ∧ M9 = mup M r9 (oE g c2 (fun i9 => if i9 < n then f i9 else none)))) nX := by
  refine ct_of [(0, .ref (p)), (1, .int (nI (c2)))] (by decide) hl (Nat.le_of_ble_eq_true rfl) rfl ?_
  intro K hK F
  subst hK
  have F : Fx K g cJ7_copyOf_1904c RJ7 2 (some (.array (.object "java/lang/Object"))) [] 2 73 1 22 := F
  obtain ⟨Q, hQ⟩ : ∃ Q, Q = MQx K g (pR (fun r9 M9 => M r9 = none ∧ M9 = mup M r9 (oE g c2 (fun i9 => if i9 < n then f i9 else none)))) nX 1 22 := ⟨_, rfl⟩
  rw [← hQ]
  refine x_aload_n F 0 dJ7_copyOf_1904c_0 rfl ?_
  refine x_iload_n F 1 dJ7_copyOf_1904c_1 rfl ?_
  refine x_aload_n F 0 dJ7_copyOf_1904c_2 rfl ?_
  refine x_getC F w_gc1 hP dJ7_copyOf_1904c_3 ⟨by decide, Nat.le_of_ble_eq_true rfl⟩ ?_
  refine x_callS F s_J7_300 rfl (c_J7_copyOf_6403c F.nt hP hnc h22 hv hca hel) rfl dJ7_copyOf_1904c_6 (by decide) (by decide) (Nat.le_of_ble_eq_true rfl) x_noX (kr fun r9 M9 hp9 => ?_)
  obtain ⟨hq9, rfl⟩ := hp9
  rw [hQ]
  exact x_aret F rfl (Or.inr ⟨_, rfl⟩) dJ7_copyOf_1904c_9 (by decide) ⟨_, rfl, hq9, rfl⟩
set_option maxHeartbeats 4000000 in
set_option maxRecDepth 100000 in
theorem c_growA {l : Launch} (hl : l.stackTraces = false) {g : GP} {M : MM} {q : Nat} {mv : Int32} (hL : M q = some (lE mv (nI 0) (gA g 0))) : CT l g yJx4a65c_grow_92f84 cJx4a65c_grow_92f84 4 (some (.array (.object "java/lang/Object"))) 3 94 1 10 [.ref (q), .int (nI (1))] M (pR (fun r9 M9 => M r9 = none ∧ M9 = mup (mup M r9 (oE g 10 (fun _ => none))) q (lE mv (nI 0) r9))) nX := by
  refine ct_of [(0, .ref (q)), (1, .int (nI (1)))] (by decide) hl (Nat.le_of_ble_eq_true rfl) rfl ?_
  intro K hK F
  subst hK
  have F : Fx K g cJx4a65c_grow_92f84 RJx4a65c 4 (some (.array (.object "java/lang/Object"))) [] 3 94 1 10 := F
  obtain ⟨Q, hQ⟩ : ∃ Q, Q = MQx K g (pR (fun r9 M9 => M r9 = none ∧ M9 = mup (mup M r9 (oE g 10 (fun _ => none))) q (lE mv (nI 0) r9))) nX 1 10 := ⟨_, rfl⟩
  rw [← hQ]
  refine x_aload_n F 0 dJx4a65c_grow_92f84_0 rfl ?_
  refine x_fget F f_Jx4a65c_9 hL (v := .ref (gA g 0)) dJx4a65c_grow_92f84_1 rfl ?_
  refine x_alenDef F dJx4a65c_grow_92f84_4 ?_
  refine x_istore_n F [(2, .int (nI (0))), (0, .ref (q)), (1, .int (nI (1)))] dJx4a65c_grow_92f84_5 (by decide) rfl ?_
  refine x_iload_n F 0 dJx4a65c_grow_92f84_6 rfl ?_
  refine x_if_gt F 20 dJx4a65c_grow_92f84_7 (by decide) (fun c7 => ?_) (fun c7 => ?_)
  · have c7 := mt (nI_le0 (by omega)).mpr (Int32.not_le.mpr c7)
    have c7b := Nat.pos_of_ne_zero c7
    exact absurd rfl c7
  · have c7 := (nI_le0 (by omega)).mp (Int32.not_lt.mp c7)
    have c7b := Nat.not_lt.mpr (Nat.le_zero.mpr c7)
    refine x_aload_n F 1 dJx4a65c_grow_92f84_10 rfl ?_
    refine x_fget F f_Jx4a65c_9 hL (v := .ref (gA g 0)) dJx4a65c_grow_92f84_11 rfl ?_
    refine x_gsDef F w_def dJx4a65c_grow_92f84_14 ?_
    refine x_acmp_eq (rx := some (gA g 0)) (ry := some (gA g 0)) F 45 dJx4a65c_grow_92f84_17 (by decide) (fun c17_2 => ?_) (fun c17_2 => ?_)
    · refine x_aload_n F 1 dJx4a65c_grow_92f84_45 rfl ?_
      refine x_bipush F (nI 10) dJx4a65c_grow_92f84_46 (by decide) ?_
      refine x_iload_n F 2 dJx4a65c_grow_92f84_48 rfl ?_
      refine x_mmax F u_Jx4a65c_79 dJx4a65c_grow_92f84_49 ⟨by decide, Nat.le_of_ble_eq_true rfl, by decide, by decide⟩ ?_
      refine x_ri0 (y := nI (10)) (by decide) ?_
      refine x_newO F (10) l_Jx4a65c_7 (nI_nn (by omega)) (nI_clamp (by omega)) (by omega) ⟨by omega, by omega⟩ dJx4a65c_grow_92f84_52 (fun r hr gr => ?_)
      refine x_widen (a' := 1) (b' := 10) (by omega) (by omega) ?_
      refine x_dup_x1 F dJx4a65c_grow_92f84_55 rfl rfl ?_
      refine x_fput F p_Jx4a65c_9 ((mup_n (ne_fr hr hL)).trans hL) rfl dJx4a65c_grow_92f84_56 rfl rfl (Nat.le_of_ble_eq_true rfl) ?_
      rw [hQ]
      exact x_aret F rfl (Or.inr ⟨_, rfl⟩) dJx4a65c_grow_92f84_59 (by decide) ⟨_, rfl, hr, rfl⟩
    · exact absurd rfl c17_2
set_option maxHeartbeats 4000000 in
set_option maxRecDepth 100000 in
theorem c_growC {l : Launch} (hl : l.stackTraces = false) {g : GP} {M : MM} {q d n : Nat} {mv : Int32} {ad : Nat → Nat} {ci N : Nat} {C : String} {T : u_T}  (hL : M q = some (lE mv (nI n) d)) (hD : M d = some (oE g n (lF ad n))) (hn : n = 10 ∨ n = 15) (hv : vwCl[ci]? = some (C, T, N)) (hca : (C, "java/lang/Object") ∈ CCl) (hel : ∀ i9, i9 < n → ∃ fs9, M (ad i9) = some (.inr (ci, fs9))) : CT l g yJx4a65c_grow_92f84 cJx4a65c_grow_92f84 4 (some (.array (.object "java/lang/Object"))) 3 94 1 22 [.ref (q), .int (nI (n + 1))] M (pR (fun r9 M9 => M r9 = none ∧ M9 = mup (mup M r9 (oE g (n + n / 2) (fun i9 => if i9 < n then lF ad n i9 else none))) q (lE mv (nI n) r9))) nX := by
  refine ct_of [(0, .ref (q)), (1, .int (nI (n + 1)))] (by decide) hl (Nat.le_of_ble_eq_true rfl) rfl ?_
  intro K hK F
  subst hK
  have F : Fx K g cJx4a65c_grow_92f84 RJx4a65c 4 (some (.array (.object "java/lang/Object"))) [] 3 94 1 22 := F
  obtain ⟨Q, hQ⟩ : ∃ Q, Q = MQx K g (pR (fun r9 M9 => M r9 = none ∧ M9 = mup (mup M r9 (oE g (n + n / 2) (fun i9 => if i9 < n then lF ad n i9 else none))) q (lE mv (nI n) r9))) nX 1 22 := ⟨_, rfl⟩
  rw [← hQ]
  refine x_aload_n F 0 dJx4a65c_grow_92f84_0 rfl ?_
  refine x_fget F f_Jx4a65c_9 hL (v := .ref (d)) dJx4a65c_grow_92f84_1 rfl ?_
  refine x_alen F 3 hD rfl (v := nI (n)) rfl dJx4a65c_grow_92f84_4 ?_
  refine x_istore_n F [(2, .int (nI (n))), (0, .ref (q)), (1, .int (nI (n + 1)))] dJx4a65c_grow_92f84_5 (by decide) rfl ?_
  refine x_iload_n F 0 dJx4a65c_grow_92f84_6 rfl ?_
  refine x_if_gt F 20 dJx4a65c_grow_92f84_7 (by decide) (fun c7 => ?_) (fun c7 => ?_)
  · have c7 := mt (nI_le0 (by omega)).mpr (Int32.not_le.mpr c7)
    have c7b := Nat.pos_of_ne_zero c7
    refine x_iload_n F 0 dJx4a65c_grow_92f84_20 rfl ?_
    refine x_iload_n F 2 dJx4a65c_grow_92f84_21 rfl ?_
    refine x_iload_n F 0 dJx4a65c_grow_92f84_22 rfl ?_
    refine x_isubN F dJx4a65c_grow_92f84_23 (by omega) ?_
    refine x_iload_n F 0 dJx4a65c_grow_92f84_24 rfl ?_
    refine x_iconst F (nI 1) dJx4a65c_grow_92f84_25 (by decide) ?_
    refine x_ishr F dJx4a65c_grow_92f84_26 ?_
    refine x_ri0 (y := nI (n / 2)) (by rcases hn with rfl | rfl <;> decide) ?_
    refine x_ri1 (y := nI (1)) (congrArg nI (by omega)) ?_
    refine x_callS F s_Jx4a65c_73 rfl (c_J8_newLength_cabcc F.nt (by omega) (by omega) (by omega)) rfl dJx4a65c_grow_92f84_27 (by decide) (by decide) (Nat.le_of_ble_eq_true rfl) x_noX (ki fun r M2 hp => ?_)
    obtain ⟨rfl, rfl⟩ := hp
    refine x_istore_n F [(3, .int (nI (n + (n / 2)))), (2, .int (nI (n))), (0, .ref (q)), (1, .int (nI (n + 1)))] dJx4a65c_grow_92f84_30 (by decide) rfl ?_
    refine x_aload_n F 2 dJx4a65c_grow_92f84_31 rfl ?_
    refine x_aload_n F 2 dJx4a65c_grow_92f84_32 rfl ?_
    refine x_fget F f_Jx4a65c_9 hL (v := .ref (d)) dJx4a65c_grow_92f84_33 rfl ?_
    refine x_iload_n F 0 dJx4a65c_grow_92f84_36 rfl ?_
    refine x_callS F s_Jx4a65c_66 rfl (c_J7_copyOf_1904c F.nt (hD) (by omega) (by omega) (hv) (hca) (fun i9 h9 y9 h8 => lF_s i9 h9 y9 h8 ▸ hel i9 h9)) rfl dJx4a65c_grow_92f84_37 (by decide) (by decide) (Nat.le_of_ble_eq_true rfl) x_noX (kr fun r9 M9 hp9 => ?_)
    obtain ⟨hq9, rfl⟩ := hp9
    refine x_dup_x1 F dJx4a65c_grow_92f84_40 rfl rfl ?_
    refine x_fput F p_Jx4a65c_9 ((mup_n (ne_fr hq9 hL)).trans hL) rfl dJx4a65c_grow_92f84_41 rfl rfl (Nat.le_of_ble_eq_true rfl) ?_
    rw [hQ]
    exact x_aret F rfl (Or.inr ⟨_, rfl⟩) dJx4a65c_grow_92f84_44 (by decide) ⟨_, rfl, hq9, rfl⟩
  · have c7 := (nI_le0 (by omega)).mp (Int32.not_lt.mp c7)
    have c7b := Nat.not_lt.mpr (Nat.le_zero.mpr c7)
    omega
set_option maxHeartbeats 4000000 in
set_option maxRecDepth 100000 in
theorem c_grow0A {l : Launch} (hl : l.stackTraces = false) {g : GP} {M : MM} {q : Nat} {mv : Int32} (hL : M q = some (lE mv (nI 0) (gA g 0))) : CT l g yJx4a65c_grow_d5877 cJx4a65c_grow_d5877 1 (some (.array (.object "java/lang/Object"))) 4 117 1 10 [.ref (q)] M (pR (fun r9 M9 => M r9 = none ∧ M9 = mup (mup M r9 (oE g 10 (fun _ => none))) q (lE mv (nI 0) r9))) nX := by
  refine ct_of [(0, .ref (q))] (by decide) hl (Nat.le_of_ble_eq_true rfl) rfl ?_
  intro K hK F
  subst hK
  have F : Fx K g cJx4a65c_grow_d5877 RJx4a65c 1 (some (.array (.object "java/lang/Object"))) [] 4 117 1 10 := F
  obtain ⟨Q, hQ⟩ : ∃ Q, Q = MQx K g (pR (fun r9 M9 => M r9 = none ∧ M9 = mup (mup M r9 (oE g 10 (fun _ => none))) q (lE mv (nI 0) r9))) nX 1 10 := ⟨_, rfl⟩
  rw [← hQ]
  refine x_aload_n F 0 dJx4a65c_grow_d5877_0 rfl ?_
  refine x_aload_n F 0 dJx4a65c_grow_d5877_1 rfl ?_
  refine x_fget F f_Jx4a65c_48 hL (v := .int (nI (0))) dJx4a65c_grow_d5877_2 rfl ?_
  refine x_iconst F (nI 1) dJx4a65c_grow_d5877_5 (by decide) ?_
  refine x_iaddN F dJx4a65c_grow_d5877_6 ?_
  refine x_ri0 (y := nI (1)) (by decide) ?_
  refine x_callV F s_Jx4a65c_69 hL rfl rfl (c_growA F.nt hL) rfl dJx4a65c_grow_d5877_7 (by decide) (by decide) (Nat.le_of_ble_eq_true rfl) x_noX (kr fun r9 M9 hp9 => ?_)
  obtain ⟨hq9, rfl⟩ := hp9
  rw [hQ]
  exact x_aret F rfl (Or.inr ⟨_, rfl⟩) dJx4a65c_grow_d5877_10 (by decide) ⟨_, rfl, hq9, rfl⟩
set_option maxHeartbeats 4000000 in
set_option maxRecDepth 100000 in
theorem c_grow0C {l : Launch} (hl : l.stackTraces = false) {g : GP} {M : MM} {q d n : Nat} {mv : Int32} {ad : Nat → Nat} {ci N : Nat} {C : String} {T : u_T}  (hL : M q = some (lE mv (nI n) d)) (hD : M d = some (oE g n (lF ad n))) (hn : n = 10 ∨ n = 15) (hv : vwCl[ci]? = some (C, T, N)) (hca : (C, "java/lang/Object") ∈ CCl) (hel : ∀ i9, i9 < n → ∃ fs9, M (ad i9) = some (.inr (ci, fs9))) : CT l g yJx4a65c_grow_d5877 cJx4a65c_grow_d5877 1 (some (.array (.object "java/lang/Object"))) 4 117 1 22 [.ref (q)] M (pR (fun r9 M9 => M r9 = none ∧ M9 = mup (mup M r9 (oE g (n + n / 2) (fun i9 => if i9 < n then lF ad n i9 else none))) q (lE mv (nI n) r9))) nX := by
  refine ct_of [(0, .ref (q))] (by decide) hl (Nat.le_of_ble_eq_true rfl) rfl ?_
  intro K hK F
  subst hK
  have F : Fx K g cJx4a65c_grow_d5877 RJx4a65c 1 (some (.array (.object "java/lang/Object"))) [] 4 117 1 22 := F
  obtain ⟨Q, hQ⟩ : ∃ Q, Q = MQx K g (pR (fun r9 M9 => M r9 = none ∧ M9 = mup (mup M r9 (oE g (n + n / 2) (fun i9 => if i9 < n then lF ad n i9 else none))) q (lE mv (nI n) r9))) nX 1 22 := ⟨_, rfl⟩
  rw [← hQ]
  refine x_aload_n F 0 dJx4a65c_grow_d5877_0 rfl ?_
  refine x_aload_n F 0 dJx4a65c_grow_d5877_1 rfl ?_
  refine x_fget F f_Jx4a65c_48 hL (v := .int (nI (n))) dJx4a65c_grow_d5877_2 rfl ?_
  refine x_iconst F (nI 1) dJx4a65c_grow_d5877_5 (by decide) ?_
  refine x_iaddN F dJx4a65c_grow_d5877_6 ?_
  refine x_callV F s_Jx4a65c_69 hL rfl rfl (c_growC F.nt hL hD hn hv hca hel) rfl dJx4a65c_grow_d5877_7 (by decide) (by decide) (Nat.le_of_ble_eq_true rfl) x_noX (kr fun r9 M9 hp9 => ?_)
  obtain ⟨hq9, rfl⟩ := hp9
  rw [hQ]
  exact x_aret F rfl (Or.inr ⟨_, rfl⟩) dJx4a65c_grow_d5877_10 (by decide) ⟨_, rfl, hq9, rfl⟩
set_option maxHeartbeats 4000000 in
set_option maxRecDepth 100000 in
theorem c_add3B {l : Launch} (hl : l.stackTraces = false) {g : GP} {M : MM} {q d n cp : Nat} {mv : Int32} {ad : Nat → Nat} {vs : List Value} {ci N : Nat} {C : String} {T : u_T}  (hL : M q = some (lE mv (nI n) d)) (hD : M d = some (oE g cp (lF ad n))) (h0n : 0 < n) (hn : n < cp) (h22 : cp ≤ 22) (hv : vwCl[ci]? = some (C, T, N)) (hca : (C, "java/lang/Object") ∈ CCl) (hV : M (ad n) = some (.inr (ci, vs))) (hc0 : ¬ ci = 0) : CT l g yJx4a65c_add_72be8 cJx4a65c_add_72be8 4 (none : Option Jvm.ClassFile.FieldType) 4 140 1 22 [.ref (q), .ref (ad n), .ref (d), .int (nI (n))] M (pV (LAP g M q d n cp mv ad)) nX := by
  refine ct_of [(0, .ref (q)), (1, .ref (ad n)), (2, .ref (d)), (3, .int (nI (n)))] (by decide) hl (Nat.le_of_ble_eq_true rfl) rfl ?_
  intro K hK F
  subst hK
  have F : Fx K g cJx4a65c_add_72be8 RJx4a65c 4 (none : Option Jvm.ClassFile.FieldType) [] 4 140 1 22 := F
  obtain ⟨Q, hQ⟩ : ∃ Q, Q = MQx K g (pV (LAP g M q d n cp mv ad)) nX 1 22 := ⟨_, rfl⟩
  rw [← hQ]
  have hqa : ad n ≠ q := fun z => by (rw [z, hL] at hV; exact hc0 (congrArg Prod.fst (Sum.inr.inj (Option.some.inj hV))).symm)
  have hqd : q ≠ d := fun z => by (rw [z, hD] at hL; cases hL)
  refine x_iload_n F 3 dJx4a65c_add_72be8_0 rfl ?_
  refine x_aload_n F 2 dJx4a65c_add_72be8_1 rfl ?_
  refine x_alen F 3 hD rfl (v := nI (cp)) rfl dJx4a65c_add_72be8_2 ?_
  refine x_icmp_ne F 11 dJx4a65c_add_72be8_3 (by decide) (fun c3 => ?_) (fun c3 => ?_)
  · have c3 := mt (nI_eq (by omega) (by omega)).mpr c3
    refine x_aload_n F 2 dJx4a65c_add_72be8_11 rfl ?_
    refine x_iload_n F 3 dJx4a65c_add_72be8_12 rfl ?_
    refine x_aload_n F 1 dJx4a65c_add_72be8_13 rfl ?_
    refine x_qastO F hD hV hv hca (vp_in_nI (by omega) (by omega)) dJx4a65c_add_72be8_14 ?_
    rw [nI_clamp (n := n) (by omega)]
    refine x_aload_n F 0 dJx4a65c_add_72be8_15 rfl ?_
    refine x_iload_n F 3 dJx4a65c_add_72be8_16 rfl ?_
    refine x_iconst F (nI 1) dJx4a65c_add_72be8_17 (by decide) ?_
    refine x_iaddN F dJx4a65c_add_72be8_18 ?_
    refine x_fput F p_Jx4a65c_48 ((mup_n (hqd)).trans hL) rfl dJx4a65c_add_72be8_19 rfl rfl (Nat.le_of_ble_eq_true rfl) ?_
    rw [hQ]
    exact x_vret F dJx4a65c_add_72be8_22 (by decide) ⟨rfl, d, Or.inl ⟨h0n, rfl⟩, mup_s, (mup_n hqd.symm).trans (mup_s.trans (congrArg some (oE_f lF_u))), fun x9 h9 h8 => (mup_n h9).trans (mup_n h8)⟩
  · have c3 := (nI_eq (by omega) (by omega)).mp c3
    omega
set_option maxHeartbeats 4000000 in
set_option maxRecDepth 100000 in
theorem c_add3A {l : Launch} (hl : l.stackTraces = false) {g : GP} {M : MM} {q : Nat} {mv : Int32} {ad : Nat → Nat} {vs : List Value} {ci N : Nat} {C : String} {T : u_T}  (hL : M q = some (lE mv (nI 0) (gA g 0))) (hv : vwCl[ci]? = some (C, T, N)) (hca : (C, "java/lang/Object") ∈ CCl) (hV : M (ad 0) = some (.inr (ci, vs))) (hc0 : ¬ ci = 0) : CT l g yJx4a65c_add_72be8 cJx4a65c_add_72be8 4 (none : Option Jvm.ClassFile.FieldType) 5 140 1 22 [.ref (q), .ref (ad 0), .ref (gA g 0), .int (nI (0))] M (pV (LAP g M q (gA g 0) (0) (10) mv ad)) nX := by
  refine ct_of [(0, .ref (q)), (1, .ref (ad 0)), (2, .ref (gA g 0)), (3, .int (nI (0)))] (by decide) hl (Nat.le_of_ble_eq_true rfl) rfl ?_
  intro K hK F
  subst hK
  have F : Fx K g cJx4a65c_add_72be8 RJx4a65c 4 (none : Option Jvm.ClassFile.FieldType) [] 5 140 1 22 := F
  obtain ⟨Q, hQ⟩ : ∃ Q, Q = MQx K g (pV (LAP g M q (gA g 0) (0) (10) mv ad)) nX 1 22 := ⟨_, rfl⟩
  rw [← hQ]
  have hqa : ad 0 ≠ q := fun z => by (rw [z, hL] at hV; exact hc0 (congrArg Prod.fst (Sum.inr.inj (Option.some.inj hV))).symm)
  refine x_iload_n F 3 dJx4a65c_add_72be8_0 rfl ?_
  refine x_aload_n F 2 dJx4a65c_add_72be8_1 rfl ?_
  refine x_alenDef F dJx4a65c_add_72be8_2 ?_
  refine x_icmp_ne F 11 dJx4a65c_add_72be8_3 (by decide) (fun c3 => ?_) (fun c3 => ?_)
  · exact absurd (by decide) c3
  · refine x_aload_n F 0 dJx4a65c_add_72be8_6 rfl ?_
    refine x_callV F s_Jx4a65c_129 hL rfl rfl (c_grow0A F.nt (hL)) rfl dJx4a65c_add_72be8_7 (by decide) (by decide) (Nat.le_of_ble_eq_true rfl) x_noX (kr fun r9 M9 hp9 => ?_)
    obtain ⟨hq9, rfl⟩ := hp9
    refine x_astore_n F [(2, .ref (r9)), (0, .ref (q)), (1, .ref (ad 0)), (3, .int (nI (0)))] dJx4a65c_add_72be8_10 (by decide) rfl ?_
    refine x_aload_n F 0 dJx4a65c_add_72be8_11 rfl ?_
    refine x_iload_n F 3 dJx4a65c_add_72be8_12 rfl ?_
    refine x_aload_n F 2 dJx4a65c_add_72be8_13 rfl ?_
    refine x_qastO F ((mup_n (ne_fr' hq9 hL)).trans mup_s) ((mup_n (hqa)).trans ((mup_n (ne_fr hq9 hV)).trans hV)) hv hca (vp_in_nI (by omega) (by omega)) dJx4a65c_add_72be8_14 ?_
    rw [nI_clamp (n := 0) (by omega)]
    refine x_aload_n F 1 dJx4a65c_add_72be8_15 rfl ?_
    refine x_iload_n F 3 dJx4a65c_add_72be8_16 rfl ?_
    refine x_iconst F (nI 1) dJx4a65c_add_72be8_17 (by decide) ?_
    refine x_iaddN F dJx4a65c_add_72be8_18 ?_
    refine x_fput F p_Jx4a65c_48 ((mup_n (ne_fr hq9 hL)).trans mup_s) rfl dJx4a65c_add_72be8_19 rfl rfl (Nat.le_of_ble_eq_true rfl) ?_
    rw [hQ]
    exact x_vret F dJx4a65c_add_72be8_22 (by decide) ⟨rfl, r9, Or.inr hq9, mup_s, (mup_n (ne_fr' hq9 hL)).trans (mup_s.trans (congrArg some (oE_f (by rw [lF_0 (ad := ad)]; exact lF_u)))), fun x9 h9 h8 => (mup_n h9).trans ((mup_n h8).trans ((mup_n h9).trans (mup_n h8)))⟩
set_option maxHeartbeats 4000000 in
set_option maxRecDepth 100000 in
theorem c_add3C {l : Launch} (hl : l.stackTraces = false) {g : GP} {M : MM} {q d n : Nat} {mv : Int32} {ad : Nat → Nat} {vs : List Value} {ci N : Nat} {C : String} {T : u_T}  (hL : M q = some (lE mv (nI n) d)) (hD : M d = some (oE g n (lF ad n))) (hn : n = 10 ∨ n = 15) (hv : vwCl[ci]? = some (C, T, N)) (hca : (C, "java/lang/Object") ∈ CCl) (hel : ∀ i9, i9 < n → ∃ fs9, M (ad i9) = some (.inr (ci, fs9))) (hV : M (ad n) = some (.inr (ci, vs))) (hc0 : ¬ ci = 0) : CT l g yJx4a65c_add_72be8 cJx4a65c_add_72be8 4 (none : Option Jvm.ClassFile.FieldType) 5 140 1 22 [.ref (q), .ref (ad n), .ref (d), .int (nI (n))] M (pV (LAP g M q (d) (n) (n + n / 2) mv ad)) nX := by
  refine ct_of [(0, .ref (q)), (1, .ref (ad n)), (2, .ref (d)), (3, .int (nI (n)))] (by decide) hl (Nat.le_of_ble_eq_true rfl) rfl ?_
  intro K hK F
  subst hK
  have F : Fx K g cJx4a65c_add_72be8 RJx4a65c 4 (none : Option Jvm.ClassFile.FieldType) [] 5 140 1 22 := F
  obtain ⟨Q, hQ⟩ : ∃ Q, Q = MQx K g (pV (LAP g M q (d) (n) (n + n / 2) mv ad)) nX 1 22 := ⟨_, rfl⟩
  rw [← hQ]
  have hqa : ad n ≠ q := fun z => by (rw [z, hL] at hV; exact hc0 (congrArg Prod.fst (Sum.inr.inj (Option.some.inj hV))).symm)
  refine x_iload_n F 3 dJx4a65c_add_72be8_0 rfl ?_
  refine x_aload_n F 2 dJx4a65c_add_72be8_1 rfl ?_
  refine x_alen F 3 hD rfl (v := nI (n)) rfl dJx4a65c_add_72be8_2 ?_
  refine x_icmp_ne F 11 dJx4a65c_add_72be8_3 (by decide) (fun c3 => ?_) (fun c3 => ?_)
  · have c3 := mt (nI_eq (by omega) (by omega)).mpr c3
    exact absurd rfl c3
  · have c3 := (nI_eq (by omega) (by omega)).mp c3
    refine x_aload_n F 0 dJx4a65c_add_72be8_6 rfl ?_
    refine x_callV F s_Jx4a65c_129 hL rfl rfl (c_grow0C F.nt (hL) (hD) (hn) (hv) (hca) (hel)) rfl dJx4a65c_add_72be8_7 (by decide) (by decide) (Nat.le_of_ble_eq_true rfl) x_noX (kr fun r9 M9 hp9 => ?_)
    obtain ⟨hq9, rfl⟩ := hp9
    refine x_astore_n F [(2, .ref (r9)), (0, .ref (q)), (1, .ref (ad n)), (3, .int (nI (n)))] dJx4a65c_add_72be8_10 (by decide) rfl ?_
    refine x_aload_n F 0 dJx4a65c_add_72be8_11 rfl ?_
    refine x_iload_n F 3 dJx4a65c_add_72be8_12 rfl ?_
    refine x_aload_n F 2 dJx4a65c_add_72be8_13 rfl ?_
    refine x_qastO F ((mup_n (ne_fr' hq9 hL)).trans mup_s) ((mup_n (hqa)).trans ((mup_n (ne_fr hq9 hV)).trans hV)) hv hca (vp_in_nI (by omega) (by omega)) dJx4a65c_add_72be8_14 ?_
    rw [nI_clamp (n := n) (by omega)]
    refine x_aload_n F 1 dJx4a65c_add_72be8_15 rfl ?_
    refine x_iload_n F 3 dJx4a65c_add_72be8_16 rfl ?_
    refine x_iconst F (nI 1) dJx4a65c_add_72be8_17 (by decide) ?_
    refine x_iaddN F dJx4a65c_add_72be8_18 ?_
    refine x_fput F p_Jx4a65c_48 ((mup_n (ne_fr hq9 hL)).trans mup_s) rfl dJx4a65c_add_72be8_19 rfl rfl (Nat.le_of_ble_eq_true rfl) ?_
    rw [hQ]
    exact x_vret F dJx4a65c_add_72be8_22 (by decide) ⟨rfl, r9, Or.inr hq9, mup_s, (mup_n (ne_fr' hq9 hL)).trans (mup_s.trans (congrArg some (oE_f (by rw [lF_c]; exact lF_u)))), fun x9 h9 h8 => (mup_n h9).trans ((mup_n h8).trans ((mup_n h9).trans (mup_n h8)))⟩
set_option maxHeartbeats 4000000 in
set_option maxRecDepth 100000 in
theorem c_addA {l : Launch} (hl : l.stackTraces = false) {g : GP} {M : MM} {q : Nat} {ad : Nat → Nat} {vs : List Value} {ci N : Nat} {C : String} {T : u_T}  (hL : M q = some (lE (nI 0) (nI 0) (gA g 0))) (hv : vwCl[ci]? = some (C, T, N)) (hca : (C, "java/lang/Object") ∈ CCl) (hV : M (ad 0) = some (.inr (ci, vs))) (hc0 : ¬ ci = 0) : CT l g yJx4a65c_add_9ea2d cJx4a65c_add_9ea2d 2 (some .boolean) 6 165 1 22 [.ref (q), .ref (ad 0)] M (pI (fun r9 M9 => r9 = nI 1 ∧ LAP g M q (gA g 0) (0) (10) (nI (0 + 1)) ad M9)) nX := by
  refine ct_of [(0, .ref (q)), (1, .ref (ad 0))] (by decide) hl (Nat.le_of_ble_eq_true rfl) rfl ?_
  intro K hK F
  subst hK
  have F : Fx K g cJx4a65c_add_9ea2d RJx4a65c 2 (some .boolean) [] 6 165 1 22 := F
  obtain ⟨Q, hQ⟩ : ∃ Q, Q = MQx K g (pI (fun r9 M9 => r9 = nI 1 ∧ LAP g M q (gA g 0) (0) (10) (nI (0 + 1)) ad M9)) nX 1 22 := ⟨_, rfl⟩
  rw [← hQ]
  have hqa : ad 0 ≠ q := fun z => by (rw [z, hL] at hV; exact hc0 (congrArg Prod.fst (Sum.inr.inj (Option.some.inj hV))).symm)
  refine x_aload_n F 0 dJx4a65c_add_9ea2d_0 rfl ?_
  refine x_dup F dJx4a65c_add_9ea2d_1 rfl ?_
  refine x_mcget F hL (v := .int (nI (0))) dJx4a65c_add_9ea2d_2 rfl ?_
  refine x_iconst F (nI 1) dJx4a65c_add_9ea2d_5 (by decide) ?_
  refine x_iaddN F dJx4a65c_add_9ea2d_6 ?_
  refine x_mcput F hL dJx4a65c_add_9ea2d_7 (Nat.le_of_ble_eq_true rfl) ?_
  obtain ⟨M1, e1⟩ : ∃ M1, M1 = mup M q (lE (nI (0 + 1)) (nI 0) (gA g 0)) := ⟨_, rfl⟩
  refine (?_ : XW K g 2 Q (mup M q (lE (nI (0 + 1)) (nI 0) (gA g 0))) 0 0 10 _ _)
  rw [← e1]
  have k1 : M1 q = some (lE (nI (0 + 1)) (nI 0) (gA g 0)) := by rw [e1]; exact mup_s
  have k2 : ∀ x9, x9 ≠ q → M1 x9 = M x9 := fun x9 h9 => by rw [e1]; exact mup_n h9
  refine x_aload_n F 0 dJx4a65c_add_9ea2d_10 rfl ?_
  refine x_aload_n F 1 dJx4a65c_add_9ea2d_11 rfl ?_
  refine x_aload_n F 0 dJx4a65c_add_9ea2d_12 rfl ?_
  refine x_fget F f_Jx4a65c_9 k1 (v := .ref (gA g 0)) dJx4a65c_add_9ea2d_13 rfl ?_
  refine x_aload_n F 0 dJx4a65c_add_9ea2d_16 rfl ?_
  refine x_fget F f_Jx4a65c_48 k1 (v := .int (nI (0))) dJx4a65c_add_9ea2d_17 rfl ?_
  refine x_callV F s_Jx4a65c_131 k1 rfl rfl (c_add3A F.nt (k1) (hv) (hca) ((k2 _ hqa).trans hV) (hc0)) rfl dJx4a65c_add_9ea2d_20 (by decide) (by decide) (Nat.le_of_ble_eq_true rfl) x_noX (kv fun M9 hp9 => ?_)
  refine x_iconst F (nI 1) dJx4a65c_add_9ea2d_23 (by decide) ?_
  rw [hQ]
  exact x_zret F dJx4a65c_add_9ea2d_24 (by decide) (Or.inr rfl) ⟨_, rfl, rfl, LAP_mc (mv := nI (0 + 1)) (by rw [e1] at hp9; exact hp9)⟩
set_option maxHeartbeats 4000000 in
set_option maxRecDepth 100000 in
theorem c_addB {l : Launch} (hl : l.stackTraces = false) {g : GP} {M : MM} {q d n cp : Nat} {ad : Nat → Nat} {vs : List Value} {ci N : Nat} {C : String} {T : u_T}  (hL : M q = some (lE (nI n) (nI n) d)) (hD : M d = some (oE g cp (lF ad n))) (h0n : 0 < n) (hn : n < cp) (h22 : cp ≤ 22) (hv : vwCl[ci]? = some (C, T, N)) (hca : (C, "java/lang/Object") ∈ CCl) (hV : M (ad n) = some (.inr (ci, vs))) (hc0 : ¬ ci = 0) : CT l g yJx4a65c_add_9ea2d cJx4a65c_add_9ea2d 2 (some .boolean) 6 165 1 22 [.ref (q), .ref (ad n)] M (pI (fun r9 M9 => r9 = nI 1 ∧ LAP g M q (d) (n) (cp) (nI (n + 1)) ad M9)) nX := by
  refine ct_of [(0, .ref (q)), (1, .ref (ad n))] (by decide) hl (Nat.le_of_ble_eq_true rfl) rfl ?_
  intro K hK F
  subst hK
  have F : Fx K g cJx4a65c_add_9ea2d RJx4a65c 2 (some .boolean) [] 6 165 1 22 := F
  obtain ⟨Q, hQ⟩ : ∃ Q, Q = MQx K g (pI (fun r9 M9 => r9 = nI 1 ∧ LAP g M q (d) (n) (cp) (nI (n + 1)) ad M9)) nX 1 22 := ⟨_, rfl⟩
  rw [← hQ]
  have hqa : ad n ≠ q := fun z => by (rw [z, hL] at hV; exact hc0 (congrArg Prod.fst (Sum.inr.inj (Option.some.inj hV))).symm)
  refine x_aload_n F 0 dJx4a65c_add_9ea2d_0 rfl ?_
  refine x_dup F dJx4a65c_add_9ea2d_1 rfl ?_
  refine x_mcget F hL (v := .int (nI (n))) dJx4a65c_add_9ea2d_2 rfl ?_
  refine x_iconst F (nI 1) dJx4a65c_add_9ea2d_5 (by decide) ?_
  refine x_iaddN F dJx4a65c_add_9ea2d_6 ?_
  refine x_mcput F hL dJx4a65c_add_9ea2d_7 (Nat.le_of_ble_eq_true rfl) ?_
  obtain ⟨M1, e1⟩ : ∃ M1, M1 = mup M q (lE (nI (n + 1)) (nI n) d) := ⟨_, rfl⟩
  refine (?_ : XW K g 2 Q (mup M q (lE (nI (n + 1)) (nI n) d)) 0 0 10 _ _)
  rw [← e1]
  have k1 : M1 q = some (lE (nI (n + 1)) (nI n) d) := by rw [e1]; exact mup_s
  have k2 : ∀ x9, x9 ≠ q → M1 x9 = M x9 := fun x9 h9 => by rw [e1]; exact mup_n h9
  refine x_aload_n F 0 dJx4a65c_add_9ea2d_10 rfl ?_
  refine x_aload_n F 1 dJx4a65c_add_9ea2d_11 rfl ?_
  refine x_aload_n F 0 dJx4a65c_add_9ea2d_12 rfl ?_
  refine x_fget F f_Jx4a65c_9 k1 (v := .ref (d)) dJx4a65c_add_9ea2d_13 rfl ?_
  refine x_aload_n F 0 dJx4a65c_add_9ea2d_16 rfl ?_
  refine x_fget F f_Jx4a65c_48 k1 (v := .int (nI (n))) dJx4a65c_add_9ea2d_17 rfl ?_
  refine x_callV F s_Jx4a65c_131 k1 rfl rfl (c_add3B F.nt (k1) ((k2 _ (fun z => by (rw [z, hL] at hD; cases hD))).trans hD) (h0n) (hn) (h22) (hv) (hca) ((k2 _ hqa).trans hV) (hc0)) rfl dJx4a65c_add_9ea2d_20 (by decide) (by decide) (Nat.le_of_ble_eq_true rfl) x_noX (kv fun M9 hp9 => ?_)
  refine x_iconst F (nI 1) dJx4a65c_add_9ea2d_23 (by decide) ?_
  rw [hQ]
  exact x_zret F dJx4a65c_add_9ea2d_24 (by decide) (Or.inr rfl) ⟨_, rfl, rfl, LAP_mc (mv := nI (n + 1)) (by rw [e1] at hp9; exact hp9)⟩
set_option maxHeartbeats 4000000 in
set_option maxRecDepth 100000 in
theorem c_addC {l : Launch} (hl : l.stackTraces = false) {g : GP} {M : MM} {q d n : Nat} {ad : Nat → Nat} {vs : List Value} {ci N : Nat} {C : String} {T : u_T}  (hL : M q = some (lE (nI n) (nI n) d)) (hD : M d = some (oE g n (lF ad n))) (hn : n = 10 ∨ n = 15) (hv : vwCl[ci]? = some (C, T, N)) (hca : (C, "java/lang/Object") ∈ CCl) (hel : ∀ i9, i9 < n → ∃ fs9, M (ad i9) = some (.inr (ci, fs9))) (hV : M (ad n) = some (.inr (ci, vs))) (hc0 : ¬ ci = 0) : CT l g yJx4a65c_add_9ea2d cJx4a65c_add_9ea2d 2 (some .boolean) 6 165 1 22 [.ref (q), .ref (ad n)] M (pI (fun r9 M9 => r9 = nI 1 ∧ LAP g M q (d) (n) (n + n / 2) (nI (n + 1)) ad M9)) nX := by
  refine ct_of [(0, .ref (q)), (1, .ref (ad n))] (by decide) hl (Nat.le_of_ble_eq_true rfl) rfl ?_
  intro K hK F
  subst hK
  have F : Fx K g cJx4a65c_add_9ea2d RJx4a65c 2 (some .boolean) [] 6 165 1 22 := F
  obtain ⟨Q, hQ⟩ : ∃ Q, Q = MQx K g (pI (fun r9 M9 => r9 = nI 1 ∧ LAP g M q (d) (n) (n + n / 2) (nI (n + 1)) ad M9)) nX 1 22 := ⟨_, rfl⟩
  rw [← hQ]
  have hqa : ad n ≠ q := fun z => by (rw [z, hL] at hV; exact hc0 (congrArg Prod.fst (Sum.inr.inj (Option.some.inj hV))).symm)
  refine x_aload_n F 0 dJx4a65c_add_9ea2d_0 rfl ?_
  refine x_dup F dJx4a65c_add_9ea2d_1 rfl ?_
  refine x_mcget F hL (v := .int (nI (n))) dJx4a65c_add_9ea2d_2 rfl ?_
  refine x_iconst F (nI 1) dJx4a65c_add_9ea2d_5 (by decide) ?_
  refine x_iaddN F dJx4a65c_add_9ea2d_6 ?_
  refine x_mcput F hL dJx4a65c_add_9ea2d_7 (Nat.le_of_ble_eq_true rfl) ?_
  obtain ⟨M1, e1⟩ : ∃ M1, M1 = mup M q (lE (nI (n + 1)) (nI n) d) := ⟨_, rfl⟩
  refine (?_ : XW K g 2 Q (mup M q (lE (nI (n + 1)) (nI n) d)) 0 0 10 _ _)
  rw [← e1]
  have k1 : M1 q = some (lE (nI (n + 1)) (nI n) d) := by rw [e1]; exact mup_s
  have k2 : ∀ x9, x9 ≠ q → M1 x9 = M x9 := fun x9 h9 => by rw [e1]; exact mup_n h9
  refine x_aload_n F 0 dJx4a65c_add_9ea2d_10 rfl ?_
  refine x_aload_n F 1 dJx4a65c_add_9ea2d_11 rfl ?_
  refine x_aload_n F 0 dJx4a65c_add_9ea2d_12 rfl ?_
  refine x_fget F f_Jx4a65c_9 k1 (v := .ref (d)) dJx4a65c_add_9ea2d_13 rfl ?_
  refine x_aload_n F 0 dJx4a65c_add_9ea2d_16 rfl ?_
  refine x_fget F f_Jx4a65c_48 k1 (v := .int (nI (n))) dJx4a65c_add_9ea2d_17 rfl ?_
  refine x_callV F s_Jx4a65c_131 k1 rfl rfl (c_add3C F.nt (k1) ((k2 _ (fun z => by (rw [z, hL] at hD; cases hD))).trans hD) (hn) (hv) (hca) ((fun i9 h9 => (hel i9 h9).imp fun fs9 h8 => (k2 _ (fun z => by (rw [z, hL] at h8; exact hc0 (congrArg Prod.fst (Sum.inr.inj (Option.some.inj h8))).symm))).trans h8)) ((k2 _ hqa).trans hV) (hc0)) rfl dJx4a65c_add_9ea2d_20 (by decide) (by decide) (Nat.le_of_ble_eq_true rfl) x_noX (kv fun M9 hp9 => ?_)
  refine x_iconst F (nI 1) dJx4a65c_add_9ea2d_23 (by decide) ?_
  rw [hQ]
  exact x_zret F dJx4a65c_add_9ea2d_24 (by decide) (Or.inr rfl) ⟨_, rfl, rfl, LAP_mc (mv := nI (n + 1)) (by rw [e1] at hp9; exact hp9)⟩
set_option maxHeartbeats 4000000 in
set_option maxRecDepth 100000 in
theorem c_Jxa1e45_init_da8c8 {l : Launch} (hl : l.stackTraces = false) {g : GP} {M : MM} {q : Nat}  : CT l g yJxa1e45_init_da8c8 cJxa1e45_init_da8c8 1 (none : Option Jvm.ClassFile.FieldType) 1 50 0 0 [.ref (q)] M (pV (fun M9 => M = M9)) nX := by
  refine ct_of [(0, .ref (q))] (by decide) hl (Nat.le_of_ble_eq_true rfl) rfl ?_
  intro K hK F
  subst hK
  have F : Fx K g cJxa1e45_init_da8c8 RJxa1e45 1 (none : Option Jvm.ClassFile.FieldType) [] 1 50 0 0 := F
  obtain ⟨Q, hQ⟩ : ∃ Q, Q = MQx K g (pV (fun M9 => M = M9)) nX 0 0 := ⟨_, rfl⟩
  rw [← hQ]
  refine x_aload_n F 0 dJxa1e45_init_da8c8_0 rfl ?_
  refine x_objInit F o_Jxa1e45_1.1 o_Jxa1e45_1.2.1 o_Jxa1e45_1.2.2 dJxa1e45_init_da8c8_1 ⟨by decide, Nat.le_of_ble_eq_true rfl⟩ ?_
  rw [hQ]
  exact x_vret F dJxa1e45_init_da8c8_4 (by decide) ⟨rfl, rfl⟩
set_option maxHeartbeats 4000000 in
set_option maxRecDepth 100000 in
theorem c_Jxc12de_init_da8c8 {l : Launch} (hl : l.stackTraces = false) {g : GP} {M : MM} {q : Nat} {mv s0 : Int32} {d : Value} (hL : M q = some (.inr (0, [.int mv, d, .int s0]))) : CT l g yJxc12de_init_da8c8 cJxc12de_init_da8c8 1 (none : Option Jvm.ClassFile.FieldType) 2 70 0 0 [.ref (q)] M (pV (fun M9 => M9 = mup M q (.inr (0, [.int (nI 0), d, .int s0])))) nX := by
  refine ct_of [(0, .ref (q))] (by decide) hl (Nat.le_of_ble_eq_true rfl) rfl ?_
  intro K hK F
  subst hK
  have F : Fx K g cJxc12de_init_da8c8 RJxc12de 1 (none : Option Jvm.ClassFile.FieldType) [] 2 70 0 0 := F
  obtain ⟨Q, hQ⟩ : ∃ Q, Q = MQx K g (pV (fun M9 => M9 = mup M q (.inr (0, [.int (nI 0), d, .int s0])))) nX 0 0 := ⟨_, rfl⟩
  rw [← hQ]
  refine x_aload_n F 0 dJxc12de_init_da8c8_0 rfl ?_
  refine x_callI F s_Jxc12de_1 rfl (c_Jxa1e45_init_da8c8 F.nt ) rfl dJxc12de_init_da8c8_1 (by decide) (by decide) (Nat.le_of_ble_eq_true rfl) (kv fun M9 hp9 => ?_)
  obtain rfl := hp9
  refine x_aload_n F 0 dJxc12de_init_da8c8_4 rfl ?_
  refine x_iconst F (nI 0) dJxc12de_init_da8c8_5 (by decide) ?_
  refine x_mcputA F hL dJxc12de_init_da8c8_6 (Nat.le_of_ble_eq_true rfl) ?_
  rw [hQ]
  exact x_vret F dJxc12de_init_da8c8_9 (by decide) ⟨rfl, rfl⟩
set_option maxHeartbeats 4000000 in
set_option maxRecDepth 100000 in
theorem c_Jx4a65c_init_da8c8 {l : Launch} (hl : l.stackTraces = false) {g : GP} {M : MM} {q : Nat} {mv : Int32} {d : Value} (hL : M q = some (.inr (0, [.int mv, d, .int (nI 0)]))) : CT l g yJx4a65c_init_da8c8 cJx4a65c_init_da8c8 1 (none : Option Jvm.ClassFile.FieldType) 3 90 0 0 [.ref (q)] M (pV (fun M9 => M9 = mup M q (lE (nI 0) (nI 0) (gA g 0)))) nX := by
  refine ct_of [(0, .ref (q))] (by decide) hl (Nat.le_of_ble_eq_true rfl) rfl ?_
  intro K hK F
  subst hK
  have F : Fx K g cJx4a65c_init_da8c8 RJx4a65c 1 (none : Option Jvm.ClassFile.FieldType) [] 3 90 0 0 := F
  obtain ⟨Q, hQ⟩ : ∃ Q, Q = MQx K g (pV (fun M9 => M9 = mup M q (lE (nI 0) (nI 0) (gA g 0)))) nX 0 0 := ⟨_, rfl⟩
  rw [← hQ]
  refine x_aload_n F 0 dJx4a65c_init_da8c8_0 rfl ?_
  refine x_callI F s_Jx4a65c_1 rfl (c_Jxc12de_init_da8c8 F.nt (by omega)) rfl dJx4a65c_init_da8c8_1 (by decide) (by decide) (Nat.le_of_ble_eq_true rfl) (kv fun M9 hp9 => ?_)
  subst hp9
  refine x_aload_n F 0 dJx4a65c_init_da8c8_4 rfl ?_
  refine x_gsDef F w_def dJx4a65c_init_da8c8_5 ?_
  refine x_fput F p_Jx4a65c_9 mup_s rfl dJx4a65c_init_da8c8_8 rfl rfl (Nat.le_of_ble_eq_true rfl) ?_
  rw [hQ]
  exact x_vret F dJx4a65c_init_da8c8_11 (by decide) ⟨rfl, mup_mup⟩
set_option maxHeartbeats 4000000 in
set_option maxRecDepth 100000 in
theorem c_J6_compare_7cf53 {l : Launch} (hl : l.stackTraces = false) {g : GP} {M : MM} {x0 y0 : Nat} (hx : x0 < 2 ^ 31) (hy : y0 < 2 ^ 31) : CT l g yJ6_compare_7cf53 cJ6_compare_7cf53 2 (some .int) 0 0 0 0 [.int (nI (x0)), .int (nI (y0))] M (pI (fun r9 M9 => cmpS x0 y0 = r9 ∧ M = M9)) nX := by
  refine ct_of [(0, .int (nI (x0))), (1, .int (nI (y0)))] (by decide) hl (Nat.le_of_ble_eq_true rfl) rfl ?_
  intro K hK F
  subst hK
  have F : Fx K g cJ6_compare_7cf53 RJ6 2 (some .int) [] 0 0 0 0 := F
  obtain ⟨Q, hQ⟩ : ∃ Q, Q = MQx K g (pI (fun r9 M9 => cmpS x0 y0 = r9 ∧ M = M9)) nX 0 0 := ⟨_, rfl⟩
  rw [← hQ]
  refine x_iload_n F 0 dJ6_compare_7cf53_0 rfl ?_
  refine x_iload_n F 1 dJ6_compare_7cf53_1 rfl ?_
  refine x_icmp_ge F 9 dJ6_compare_7cf53_2 (by decide) (fun c2 => ?_) (fun c2 => ?_)
  · have c2 := (nI_leI (by omega) (by omega)).mp c2
    have c2b := Nat.not_lt.mpr c2
    refine x_iload_n F 0 dJ6_compare_7cf53_9 rfl ?_
    refine x_iload_n F 1 dJ6_compare_7cf53_10 rfl ?_
    refine x_icmp_ne F 18 dJ6_compare_7cf53_11 (by decide) (fun c11 => ?_) (fun c11 => ?_)
    · have c11 := mt (nI_eq (by omega) (by omega)).mpr c11
      refine x_iconst F (nI 1) dJ6_compare_7cf53_18 (by decide) ?_
      rw [hQ]
      exact x_iret F dJ6_compare_7cf53_19 (by decide) ⟨_, rfl, by unfold cmpS; (first | rw [if_pos (by omega)] | rw [if_neg (by omega), if_pos (by omega)] | rw [if_neg (by omega), if_neg (by omega)]), rfl⟩
    · have c11 := (nI_eq (by omega) (by omega)).mp c11
      refine x_iconst F (nI 0) dJ6_compare_7cf53_14 (by decide) ?_
      refine x_goto F 19 dJ6_compare_7cf53_15 (by decide) ?_
      rw [hQ]
      exact x_iret F dJ6_compare_7cf53_19 (by decide) ⟨_, rfl, by unfold cmpS; (first | rw [if_pos (by omega)] | rw [if_neg (by omega), if_pos (by omega)] | rw [if_neg (by omega), if_neg (by omega)]), rfl⟩
  · have c2 := mt (nI_leI (by omega) (by omega)).mpr c2
    have c2b := Nat.not_le.mp c2
    refine x_iconst F ((-1)) dJ6_compare_7cf53_5 (by decide) ?_
    refine x_goto F 19 dJ6_compare_7cf53_6 (by decide) ?_
    rw [hQ]
    exact x_iret F dJ6_compare_7cf53_19 (by decide) ⟨_, rfl, by unfold cmpS; (first | rw [if_pos (by omega)] | rw [if_neg (by omega), if_pos (by omega)] | rw [if_neg (by omega), if_neg (by omega)]), rfl⟩
