/-! the class library's lists and arrays, over maps -/
theorem mup_mup {M : MM} {q : Nat} {e e' : va_E} : mup (mup M q e) q e' = mup M q e' := by
  funext a
  by_cases h : a = q
  · subst h; rw [mup_s, mup_s]
  · rw [mup_n h, mup_n h, mup_n h]
theorem ne_fr {M : MM} {q a : Nat} {e : va_E} (hq : M q = none) (ha : M a = some e) : a ≠ q := fun z => by rw [z, hq] at ha; cases ha
theorem ne_fr' {M : MM} {q a : Nat} {e : va_E} (hq : M q = none) (ha : M a = some e) : q ≠ a := fun z => ne_fr hq ha z.symm
/-- an array of objects -/
abbrev oE (g : GP) (n : Nat) (f : Nat → Option Nat) : va_E := .inl (gC g 3, n, .inr (.inr (.inr (.inr f))))
abbrev lE (mc s : Int32) (d : Nat) : va_E := .inr (0, [.int mc, .ref d, .int s])
set_option maxRecDepth 20000 in
theorem w_mc1 : Cond.fieldLink RJx4a65c 63 RJx4a65c "modCount" "I" ∈ TB := tb_1 48 rfl rfl
set_option maxRecDepth 20000 in
theorem w_mc2 : Cond.sameField RJx4a65c "java/util/AbstractList" "modCount" "I" ∈ TB := tb_1 49 rfl rfl
set_option maxRecDepth 20000 in
theorem w_mc3 : Cond.fieldLink RJxc12de 7 "java/util/AbstractList" "modCount" "I" ∈ TB := tb_1 47 rfl rfl
set_option maxRecDepth 20000 in
theorem w_def : Cond.fieldLink RJx4a65c 39 "java/util/ArrayList" "DEFAULTCAPACITY_EMPTY_ELEMENTDATA" "[Ljava/lang/Object;" ∈ TB := tb_1 43 rfl rfl
set_option maxRecDepth 20000 in
theorem w_gc1 : Cond.methodLink RJ7 86 oGetClass ∈ TB ∧ Cond.selects "[Ljava/lang/Object;" oGetClass oGetClass ∈ TB ∧ Cond.instanceMethod oGetClass ∈ TB ∧ Cond.native oGetClass ∈ TB := ⟨tb_2 43 rfl rfl, tb_5 138 rfl rfl, tb_2 44 rfl rfl, tb_2 55 rfl rfl⟩
set_option maxRecDepth 20000 in
theorem w_cpy : Cond.methodLink RJ7 150 arraycopyName ∈ TB ∧ Cond.native arraycopyName ∈ TB ∧ Cond.static arraycopyName ∈ TB ∧ Cond.initialized "java/lang/System" ∈ TB := ⟨tb_2 65 rfl rfl, tb_2 67 rfl rfl, tb_2 66 rfl rfl, tb_1 15 rfl rfl⟩
section XJ
variable {K : KX} {g : GP} {cc : ByteArray} {own : String} {nL : Nat} {ret : Option FieldType} {hh : List (Nat × Nat × Nat × Nat)} {fr lo mc ms : Nat} {Q : State → Prop} {M : MM} {a b pc : Nat} {L : List (Nat × Value)} {st : List Value}
theorem x_mcget (F : Fx K g cc RJx4a65c nL ret hh fr lo mc ms) {q : Nat} {fs : List Value} {v : Value} (hM0 : M q = some (.inr (0, fs))) (d : decode cc pc = .ok (.getfield 63, 3)) (hv : fs[0]? = some v) (kk : XW K g nL Q M a b (pc + 3) L (v :: st)) : XW K g nL Q M a b pc L (.ref q :: st) :=
  x_get F (T := TJx4a65c) (ref := RJx4a65c) 0 hM0 rfl inT_Jx4a65c (by decide) w_mc1 (fun x9 h9 => u_same (F.tb _ w_mc2) x9 h9) d hv kk
theorem x_mcput (F : Fx K g cc RJx4a65c nL ret hh fr lo mc ms) {q : Nat} {fs : List Value} {v : Int32} (hM0 : M q = some (.inr (0, fs))) (d : decode cc pc = .ok (.putfield 63, 3)) (hlen : 0 < fs.length) (kk : XW K g nL Q (mup M q (.inr (0, fs.set 0 (.int v)))) a b (pc + 3) L st) : XW K g nL Q M a b pc L (.int v :: .ref q :: st) :=
  x_put F (T := TJx4a65c) (ref := RJx4a65c) (ty := .int) 0 hM0 rfl inT_Jx4a65c tyJx4a65c tyJx4a65c_ok nmJx4a65c (by decide) w_mc1 (fun x9 h9 => u_same (F.tb _ w_mc2) x9 h9) rfl (by decide +kernel) d rfl rfl hlen kk
theorem x_mcputA (F : Fx K g cc RJxc12de nL ret hh fr lo mc ms) {q : Nat} {fs : List Value} {v : Int32} (hM0 : M q = some (.inr (0, fs))) (d : decode cc pc = .ok (.putfield 7, 3)) (hlen : 0 < fs.length) (kk : XW K g nL Q (mup M q (.inr (0, fs.set 0 (.int v)))) a b (pc + 3) L st) : XW K g nL Q M a b pc L (.int v :: .ref q :: st) :=
  x_put F (T := TJx4a65c) (ref := "java/util/AbstractList") (ty := .int) 0 hM0 rfl inT_Jx4a65c tyJx4a65c tyJx4a65c_ok nmJx4a65c (by decide) w_mc3 (fun _ h9 => h9) rfl (by decide +kernel) d rfl rfl hlen kk
end XJ
theorem nI_nn {n : Nat} (h : n < 2 ^ 31) : ¬ nI n < 0 := fun z => by
  have h2 := Int32.lt_iff_toInt_lt.mp z
  have h5 : (0 : Int32).toInt = 0 := by decide
  rw [nI_toInt h] at h2
  omega
set_option maxHeartbeats 4000000 in
set_option maxRecDepth 100000 in
theorem c_Jx4a65c_size_8abf5 {l : Launch} (hl : l.stackTraces = false) {g : GP} {M : MM} {q d n : Nat} {mv : Int32} (hL : M q = some (lE mv (nI n) d)) : CT l g yJx4a65c_size_8abf5 cJx4a65c_size_8abf5 1 (some .int) 0 0 0 0 [.ref (q)] M (pI (fun r9 M9 => nI (n) = r9 ∧ M = M9)) nX := by
  refine ct_of [(0, .ref (q))] (by decide) hl (Nat.le_of_ble_eq_true rfl) rfl ?_
  intro K hK F
  subst hK
  have F : Fx K g cJx4a65c_size_8abf5 RJx4a65c 1 (some .int) [] 0 0 0 0 := F
  obtain ⟨Q, hQ⟩ : ∃ Q, Q = MQx K g (pI (fun r9 M9 => nI (n) = r9 ∧ M = M9)) nX 0 0 := ⟨_, rfl⟩
  rw [← hQ]
  refine x_aload_n F 0 dJx4a65c_size_8abf5_0 rfl ?_
  refine x_fget F f_Jx4a65c_48 hL (v := .int (nI (n))) dJx4a65c_size_8abf5_1 rfl ?_
  rw [hQ]
  exact x_iret F dJx4a65c_size_8abf5_4 (by decide) ⟨_, rfl, rfl, rfl⟩
set_option maxHeartbeats 4000000 in
set_option maxRecDepth 100000 in
theorem c_J3_checkIndex_8e157 {l : Launch} (hl : l.stackTraces = false) {g : GP} {M : MM} {i n : Nat} (hi : i < n) (hn : n < 2 ^ 31) : CT l g yJ3_checkIndex_8e157 cJ3_checkIndex_8e157 3 (some .int) 1 50 0 0 [.int (nI (i)), .int (nI (n)), .null] M (pI (fun r9 M9 => nI (i) = r9 ∧ M = M9)) nX := by
  refine ct_of [(0, .int (nI (i))), (1, .int (nI (n))), (2, .null)] (by decide) hl (Nat.le_of_ble_eq_true rfl) rfl ?_
  intro K hK F
  subst hK
  have F : Fx K g cJ3_checkIndex_8e157 RJ3 3 (some .int) [] 1 50 0 0 := F
  obtain ⟨Q, hQ⟩ : ∃ Q, Q = MQx K g (pI (fun r9 M9 => nI (i) = r9 ∧ M = M9)) nX 0 0 := ⟨_, rfl⟩
  rw [← hQ]
  refine x_iload_n F 0 dJ3_checkIndex_8e157_0 rfl ?_
  refine x_if_lt F 9 dJ3_checkIndex_8e157_1 (by decide) (fun c1 => ?_) (fun c1 => ?_)
  · exact absurd c1 (nI_nn (by omega))
  · refine x_iload_n F 0 dJ3_checkIndex_8e157_4 rfl ?_
    refine x_iload_n F 1 dJ3_checkIndex_8e157_5 rfl ?_
    refine x_icmp_lt F 16 dJ3_checkIndex_8e157_6 (by decide) (fun c6 => ?_) (fun c6 => ?_)
    · have c6 := (nI_ltI (by omega) (by omega)).mp c6
      have c6b := Nat.not_le.mpr c6
      refine x_iload_n F 0 dJ3_checkIndex_8e157_16 rfl ?_
      rw [hQ]
      exact x_iret F dJ3_checkIndex_8e157_17 (by decide) ⟨_, rfl, rfl, rfl⟩
    · have c6 := mt (nI_ltI (by omega) (by omega)).mpr c6
      have c6b := Nat.not_lt.mp c6
      omega
set_option maxHeartbeats 4000000 in
set_option maxRecDepth 100000 in
theorem c_J15_checkIndex_7cf53 {l : Launch} (hl : l.stackTraces = false) {g : GP} {M : MM} {i n : Nat} (hi : i < n) (hn : n < 2 ^ 31) : CT l g yJ15_checkIndex_7cf53 cJ15_checkIndex_7cf53 2 (some .int) 2 72 0 0 [.int (nI (i)), .int (nI (n))] M (pI (fun r9 M9 => nI (i) = r9 ∧ M = M9)) nX := by
  refine ct_of [(0, .int (nI (i))), (1, .int (nI (n)))] (by decide) hl (Nat.le_of_ble_eq_true rfl) rfl ?_
  intro K hK F
  subst hK
  have F : Fx K g cJ15_checkIndex_7cf53 RJ15 2 (some .int) [] 2 72 0 0 := F
  obtain ⟨Q, hQ⟩ : ∃ Q, Q = MQx K g (pI (fun r9 M9 => nI (i) = r9 ∧ M = M9)) nX 0 0 := ⟨_, rfl⟩
  rw [← hQ]
  refine x_iload_n F 0 dJ15_checkIndex_7cf53_0 rfl ?_
  refine x_iload_n F 1 dJ15_checkIndex_7cf53_1 rfl ?_
  refine x_null F dJ15_checkIndex_7cf53_2 ?_
  refine x_callS F s_J15_105 rfl (c_J3_checkIndex_8e157 F.nt (by omega) (by omega)) rfl dJ15_checkIndex_7cf53_3 (by decide) (by decide) (Nat.le_of_ble_eq_true rfl) x_noX (ki fun r M2 hp => ?_)
  obtain ⟨rfl, rfl⟩ := hp
  rw [hQ]
  exact x_iret F dJ15_checkIndex_7cf53_6 (by decide) ⟨_, rfl, rfl, rfl⟩
set_option maxHeartbeats 4000000 in
set_option maxRecDepth 100000 in
theorem c_Jx4a65c_elementData_915e3 {l : Launch} (hl : l.stackTraces = false) {g : GP} {M : MM} {q d n i cp ee : Nat} {mv : Int32} {f : Nat → Option Nat} (hL : M q = some (lE mv (nI n) d)) (hD : M d = some (oE g cp f)) (hi : i < n) (hc : n ≤ cp) (hp : cp < 1000) (he : f i = some ee) : CT l g yJx4a65c_elementData_915e3 cJx4a65c_elementData_915e3 2 (some (.object "java/lang/Object")) 0 0 0 0 [.ref (q), .int (nI (i))] M (pR (fun r9 M9 => ee = r9 ∧ M = M9)) nX := by
  refine ct_of [(0, .ref (q)), (1, .int (nI (i)))] (by decide) hl (Nat.le_of_ble_eq_true rfl) rfl ?_
  intro K hK F
  subst hK
  have F : Fx K g cJx4a65c_elementData_915e3 RJx4a65c 2 (some (.object "java/lang/Object")) [] 0 0 0 0 := F
  obtain ⟨Q, hQ⟩ : ∃ Q, Q = MQx K g (pR (fun r9 M9 => ee = r9 ∧ M = M9)) nX 0 0 := ⟨_, rfl⟩
  rw [← hQ]
  refine x_aload_n F 0 dJx4a65c_elementData_915e3_0 rfl ?_
  refine x_fget F f_Jx4a65c_9 hL (v := .ref (d)) dJx4a65c_elementData_915e3_1 rfl ?_
  refine x_iload_n F 1 dJx4a65c_elementData_915e3_4 rfl ?_
  refine x_qald F (f := f) 3 hD rfl (vp_in_nI (by omega) (by omega)) dJx4a65c_elementData_915e3_5 ?_
  refine x_rv0 (y := .ref (ee)) (by rw [nI_clamp (by omega), he]; rfl) ?_
  rw [hQ]
  exact x_aret F rfl (Or.inl ⟨_, rfl⟩) dJx4a65c_elementData_915e3_6 (by decide) ⟨_, rfl, rfl, rfl⟩
set_option maxHeartbeats 4000000 in
set_option maxRecDepth 100000 in
theorem c_Jx4a65c_get_915e3 {l : Launch} (hl : l.stackTraces = false) {g : GP} {M : MM} {q d n i cp ee : Nat} {mv : Int32} {f : Nat → Option Nat} (hL : M q = some (lE mv (nI n) d)) (hD : M d = some (oE g cp f)) (hi : i < n) (hc : n ≤ cp) (hp : cp < 1000) (he : f i = some ee) : CT l g yJx4a65c_get_915e3 cJx4a65c_get_915e3 2 (some (.object "java/lang/Object")) 3 93 0 0 [.ref (q), .int (nI (i))] M (pR (fun r9 M9 => ee = r9 ∧ M = M9)) nX := by
  refine ct_of [(0, .ref (q)), (1, .int (nI (i)))] (by decide) hl (Nat.le_of_ble_eq_true rfl) rfl ?_
  intro K hK F
  subst hK
  have F : Fx K g cJx4a65c_get_915e3 RJx4a65c 2 (some (.object "java/lang/Object")) [] 3 93 0 0 := F
  obtain ⟨Q, hQ⟩ : ∃ Q, Q = MQx K g (pR (fun r9 M9 => ee = r9 ∧ M = M9)) nX 0 0 := ⟨_, rfl⟩
  rw [← hQ]
  refine x_iload_n F 1 dJx4a65c_get_915e3_0 rfl ?_
  refine x_aload_n F 0 dJx4a65c_get_915e3_1 rfl ?_
  refine x_fget F f_Jx4a65c_48 hL (v := .int (nI (n))) dJx4a65c_get_915e3_2 rfl ?_
  refine x_callS F s_Jx4a65c_118 rfl (c_J15_checkIndex_7cf53 F.nt hi (by omega)) rfl dJx4a65c_get_915e3_5 (by decide) (by decide) (Nat.le_of_ble_eq_true rfl) x_noX (ki fun r M2 hp => ?_)
  obtain ⟨rfl, rfl⟩ := hp
  refine x_pop F dJx4a65c_get_915e3_8 rfl ?_
  refine x_aload_n F 0 dJx4a65c_get_915e3_9 rfl ?_
  refine x_iload_n F 1 dJx4a65c_get_915e3_10 rfl ?_
  refine x_callV F s_Jx4a65c_123 hL rfl rfl (c_Jx4a65c_elementData_915e3 F.nt hL hD hi hc hp he) rfl dJx4a65c_get_915e3_11 (by decide) (by decide) (Nat.le_of_ble_eq_true rfl) x_noX (kr fun r_2 M2_2 hp_2 => ?_)
  obtain ⟨rfl, rfl⟩ := hp_2
  rw [hQ]
  exact x_aret F rfl (Or.inl ⟨_, rfl⟩) dJx4a65c_get_915e3_14 (by decide) ⟨_, rfl, rfl, rfl⟩
