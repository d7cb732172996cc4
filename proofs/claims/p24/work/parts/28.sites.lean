/-! sites: what the tables say of each field access, call and constant of the methods (by program) -/
set_option maxRecDepth 20000 in
theorem tb_1 (i : Nat) {w : Cond} (h : tables_1_1[i]? = some w) (g : goodWord w = true) : w ∈ TB := tb_of (List.mem_append_right _ (List.mem_append_left _ (List.mem_of_getElem? h))) g
theorem tb_2 (i : Nat) {w : Cond} (h : tables_1_2[i]? = some w) (g : goodWord w = true) : w ∈ TB := tb_of (List.mem_append_right _ (List.mem_append_right _ (List.mem_append_left _ (List.mem_of_getElem? h)))) g
theorem tb_3 (i : Nat) {w : Cond} (h : tables_1_3[i]? = some w) (g : goodWord w = true) : w ∈ TB := tb_of (List.mem_append_right _ (List.mem_append_right _ (List.mem_append_right _ (List.mem_append_left _ (List.mem_of_getElem? h))))) g
theorem tb_4 (i : Nat) {w : Cond} (h : tables_1_4[i]? = some w) (g : goodWord w = true) : w ∈ TB := tb_of (List.mem_append_right _ (List.mem_append_right _ (List.mem_append_right _ (List.mem_append_right _ (List.mem_of_getElem? h))))) g
def FG (own : String) (idx ci k : Nat) (C : String) (T : u_T) (N : Nat) : Prop := vwCl[ci]? = some (C, T, N) ∧ (∀ w ∈ u_ws C T N, w ∈ TB) ∧ k < N ∧ Cond.fieldLink own idx (T k).1 (T k).2.1 (T k).2.2.1 ∈ TB
def FP (own : String) (idx ci k : Nat) (C : String) (T : u_T) (N : Nat) (ty : FieldType) : Prop := FG own idx ci k C T N ∧ (∃ ty0 : Nat → FieldType, ∀ k, k < N → parseFieldDescriptor (T k).2.2.1 = some (ty0 k)) ∧ (∀ a, a < N → ∀ b, b < N → a ≠ b → (T a).2.1 ≠ (T b).2.1) ∧ parseFieldDescriptor (T k).2.2.1 = some ty
section XS
variable {K : KX} {g : GP} {cc : ByteArray} {own : String} {nL : Nat} {ret : Option FieldType} {hh : List (Nat × Nat × Nat × Nat)} {fr lo mc ms : Nat} {Q : State → Prop} {M : MM} {a b pc : Nat} {L : List (Nat × Value)} {st : List Value}
theorem x_fget (F : Fx K g cc own nL ret hh fr lo mc ms) {idx ci k q N : Nat} {C : String} {T : u_T} {fs : List Value} {v : Value} (s : FG own idx ci k C T N) (hM0 : M q = some (.inr (ci, fs))) (d : decode cc pc = .ok (.getfield idx, 3)) (hv : fs[k]? = some v) (kk : XW K g nL Q M a b (pc + 3) L (v :: st)) : XW K g nL Q M a b pc L (.ref q :: st) :=
  x_get F k hM0 s.1 s.2.1 s.2.2.1 s.2.2.2 (fun _ h => h) d hv kk
theorem x_fput (F : Fx K g cc own nL ret hh fr lo mc ms) {idx ci k q N : Nat} {C : String} {T : u_T} {fs : List Value} {v : Value} {ty : FieldType} (s : FP own idx ci k C T N ty) (hM0 : M q = some (.inr (ci, fs))) (hfin : (T k).2.2.2 = false) (d : decode cc pc = .ok (.putfield idx, 3)) (hn : narrow ty v = v) (hfit : fits ty v = true) (hlen : k < fs.length) (kk : XW K g nL Q (mup M q (.inr (ci, fs.set k v))) a b (pc + 3) L st) : XW K g nL Q M a b pc L (v :: .ref q :: st) := by
  obtain ⟨⟨s1, s2, s3, s4⟩, ⟨ty0, h0⟩, h1, h2⟩ := s
  exact x_put F k hM0 s1 s2 ty0 h0 h1 s3 s4 (fun _ h => h) hfin h2 d hn hfit hlen kk
theorem x_fputF (F : Fx K g cc own nL ret hh fr lo mc ms) {idx ci k q N : Nat} {C : String} {T : u_T} {fs : List Value} {v : Value} {ty : FieldType} (s : FP own idx ci k C T N ty) (hin2 : (kme K).name = "<init>") (hM0 : M q = some (.inr (ci, fs))) (hfin : (T k).2.2.2 = true) (hdecl : (T k).1 = own) (d : decode cc pc = .ok (.putfield idx, 3)) (hn : narrow ty v = v) (hfit : fits ty v = true) (hlen : k < fs.length) (kk : XW K g nL Q (mup M q (.inr (ci, fs.set k v))) a b (pc + 3) L st) : XW K g nL Q M a b pc L (v :: .ref q :: st) := by
  obtain ⟨⟨s1, s2, s3, s4⟩, ⟨ty0, h0⟩, h1, h2⟩ := s
  exact x_putF F k hin2 hM0 s1 s2 ty0 h0 h1 s3 s4 (fun _ h => h) hfin hdecl h2 d hn hfit hlen kk
end XS
theorem inT_Jx4a65c : ∀ w ∈ u_ws RJx4a65c TJx4a65c 3, w ∈ TB := by
  have h : ∀ w ∈ u_ws RJx4a65c TJx4a65c 3, w ∈ lw_tbl ∧ goodWord w = true := by decide +kernel
  exact fun w hw => tb_of (h w hw).1 (h w hw).2
theorem inT_X0 : ∀ w ∈ u_ws RX0 TX0 7, w ∈ TB := by
  have h : ∀ w ∈ u_ws RX0 TX0 7, w ∈ lw_tbl ∧ goodWord w = true := by decide +kernel
  exact fun w hw => tb_of (h w hw).1 (h w hw).2
theorem inT_X1 : ∀ w ∈ u_ws RX1 TX1 11, w ∈ TB := by
  have h : ∀ w ∈ u_ws RX1 TX1 11, w ∈ lw_tbl ∧ goodWord w = true := by decide +kernel
  exact fun w hw => tb_of (h w hw).1 (h w hw).2
theorem inT_X2 : ∀ w ∈ u_ws RX2 TX2 11, w ∈ TB := by
  have h : ∀ w ∈ u_ws RX2 TX2 11, w ∈ lw_tbl ∧ goodWord w = true := by decide +kernel
  exact fun w hw => tb_of (h w hw).1 (h w hw).2
theorem inT_X3 : ∀ w ∈ u_ws RX3 TX3 4, w ∈ TB := by
  have h : ∀ w ∈ u_ws RX3 TX3 4, w ∈ lw_tbl ∧ goodWord w = true := by decide +kernel
  exact fun w hw => tb_of (h w hw).1 (h w hw).2
set_option maxRecDepth 20000 in
theorem s_L_100 : CSI RL 100 yX3_init cX3_init 1 0 := ⟨⟨tb_1 24 rfl rfl, tb_1 25 rfl rfl, tb_1 1 rfl rfl, tb_1 26 rfl rfl⟩, rfl, by decide +kernel, by decide +kernel, by decide +kernel⟩
set_option maxRecDepth 20000 in
theorem o_X3_3 : Cond.methodLink RX3 3 objectInit ∈ TB ∧ Cond.instanceMethod objectInit ∈ TB ∧ Cond.code objectInit ⟨#[0xb1]⟩ 1 none ∈ TB := ⟨tb_1 27 rfl rfl, tb_1 28 rfl rfl, tb_1 29 rfl rfl⟩
set_option maxRecDepth 20000 in
theorem s_X3_11 : CSI RX3 11 yJx4a65c_init_da8c8 cJx4a65c_init_da8c8 1 0 := ⟨⟨tb_1 32 rfl rfl, tb_1 33 rfl rfl, tb_1 4 rfl rfl, tb_1 34 rfl rfl⟩, rfl, by decide +kernel, by decide +kernel, by decide +kernel⟩
set_option maxRecDepth 20000 in
theorem s_Jx4a65c_1 : CSI RJx4a65c 1 yJxc12de_init_da8c8 cJxc12de_init_da8c8 1 0 := ⟨⟨tb_1 35 rfl rfl, tb_1 36 rfl rfl, tb_1 3 rfl rfl, tb_1 37 rfl rfl⟩, rfl, by decide +kernel, by decide +kernel, by decide +kernel⟩
set_option maxRecDepth 20000 in
theorem s_Jxc12de_1 : CSI RJxc12de 1 yJxa1e45_init_da8c8 cJxa1e45_init_da8c8 1 0 := ⟨⟨tb_1 38 rfl rfl, tb_1 39 rfl rfl, tb_1 2 rfl rfl, tb_1 40 rfl rfl⟩, rfl, by decide +kernel, by decide +kernel, by decide +kernel⟩
set_option maxRecDepth 20000 in
theorem o_Jxa1e45_1 : Cond.methodLink RJxa1e45 1 objectInit ∈ TB ∧ Cond.instanceMethod objectInit ∈ TB ∧ Cond.code objectInit ⟨#[0xb1]⟩ 1 none ∈ TB := ⟨tb_1 41 rfl rfl, tb_1 28 rfl rfl, tb_1 29 rfl rfl⟩
set_option maxRecDepth 20000 in
theorem f_Jx4a65c_9 : FG RJx4a65c 9 0 1 RJx4a65c TJx4a65c 3 := ⟨rfl, inT_Jx4a65c, by decide, tb_1 44 rfl rfl⟩
theorem p_Jx4a65c_9 : FP RJx4a65c 9 0 1 RJx4a65c TJx4a65c 3 (.array (.object "java/lang/Object")) := ⟨f_Jx4a65c_9, ⟨tyJx4a65c, tyJx4a65c_ok⟩, nmJx4a65c, by decide +kernel⟩
set_option maxRecDepth 20000 in
theorem f_Jx4a65c_48 : FG RJx4a65c 48 0 2 RJx4a65c TJx4a65c 3 := ⟨rfl, inT_Jx4a65c, by decide, tb_1 45 rfl rfl⟩
theorem p_Jx4a65c_48 : FP RJx4a65c 48 0 2 RJx4a65c TJx4a65c 3 .int := ⟨f_Jx4a65c_48, ⟨tyJx4a65c, tyJx4a65c_ok⟩, nmJx4a65c, by decide +kernel⟩
set_option maxRecDepth 20000 in
theorem f_X3_12 : FG RX3 12 4 0 RX3 TX3 4 := ⟨rfl, inT_X3, by decide, tb_1 56 rfl rfl⟩
theorem p_X3_12 : FP RX3 12 4 0 RX3 TX3 4 (.object "java/util/ArrayList") := ⟨f_X3_12, ⟨tyX3, tyX3_ok⟩, nmX3, by decide +kernel⟩
set_option maxRecDepth 20000 in
theorem f_X3_16 : FG RX3 16 4 1 RX3 TX3 4 := ⟨rfl, inT_X3, by decide, tb_1 57 rfl rfl⟩
theorem p_X3_16 : FP RX3 16 4 1 RX3 TX3 4 (.object "java/util/ArrayList") := ⟨f_X3_16, ⟨tyX3, tyX3_ok⟩, nmX3, by decide +kernel⟩
set_option maxRecDepth 20000 in
theorem f_X3_19 : FG RX3 19 4 2 RX3 TX3 4 := ⟨rfl, inT_X3, by decide, tb_1 58 rfl rfl⟩
theorem p_X3_19 : FP RX3 19 4 2 RX3 TX3 4 .int := ⟨f_X3_19, ⟨tyX3, tyX3_ok⟩, nmX3, by decide +kernel⟩
set_option maxRecDepth 20000 in
theorem f_X3_23 : FG RX3 23 4 3 RX3 TX3 4 := ⟨rfl, inT_X3, by decide, tb_1 59 rfl rfl⟩
theorem p_X3_23 : FP RX3 23 4 3 RX3 TX3 4 .int := ⟨f_X3_23, ⟨tyX3, tyX3_ok⟩, nmX3, by decide +kernel⟩
set_option maxRecDepth 20000 in
theorem s_L_17 : CSV RL 17 yX3_rodeoIs RX3 cX3_rodeoIs 4 (some .int) 2 := ⟨⟨tb_1 69 rfl rfl, tb_1 70 rfl rfl, tb_1 71 rfl rfl, tb_1 1 rfl rfl, tb_1 72 rfl rfl⟩, rfl, by decide +kernel, by decide +kernel, by decide +kernel⟩
set_option maxRecDepth 20000 in
theorem s_X3_75 : CSV RX3 75 yX3_rodeoAt RX3 cX3_rodeoAt 2 (some (.object "RankStock$Rodeo")) 1 := ⟨⟨tb_1 73 rfl rfl, tb_1 75 rfl rfl, tb_s 0 rfl rfl, tb_1 1 rfl rfl, tb_1 76 rfl rfl⟩, rfl, by decide +kernel, by decide +kernel, by decide +kernel⟩
set_option maxRecDepth 20000 in
theorem s_X3_37 : CSV RX3 37 yJx4a65c_size_8abf5 RJx4a65c cJx4a65c_size_8abf5 1 (some .int) 0 := ⟨⟨tb_1 77 rfl rfl, tb_1 78 rfl rfl, tb_1 79 rfl rfl, tb_1 4 rfl rfl, tb_1 80 rfl rfl⟩, rfl, by decide +kernel, by decide +kernel, by decide +kernel⟩
set_option maxRecDepth 20000 in
theorem s_X3_124 : CSV RX3 124 yJx4a65c_get_915e3 RJx4a65c cJx4a65c_get_915e3 2 (some (.object "java/lang/Object")) 1 := ⟨⟨tb_1 149 rfl rfl, tb_1 150 rfl rfl, tb_1 151 rfl rfl, tb_1 4 rfl rfl, tb_1 152 rfl rfl⟩, rfl, by decide +kernel, by decide +kernel, by decide +kernel⟩
set_option maxRecDepth 20000 in
theorem s_Jx4a65c_118 : CSS RJx4a65c 118 yJ15_checkIndex_7cf53 cJ15_checkIndex_7cf53 2 (some .int) 2 := ⟨⟨tb_1 153 rfl rfl, tb_1 154 rfl rfl, tb_1 16 rfl rfl, tb_1 155 rfl rfl⟩, by decide +kernel, by decide +kernel, by decide +kernel⟩
set_option maxRecDepth 20000 in
theorem s_J15_105 : CSS RJ15 105 yJ3_checkIndex_8e157 cJ3_checkIndex_8e157 3 (some .int) 3 := ⟨⟨tb_1 156 rfl rfl, tb_1 157 rfl rfl, tb_1 17 rfl rfl, tb_1 158 rfl rfl⟩, by decide +kernel, by decide +kernel, by decide +kernel⟩
set_option maxRecDepth 20000 in
theorem s_Jx4a65c_123 : CSV RJx4a65c 123 yJx4a65c_elementData_915e3 RJx4a65c cJx4a65c_elementData_915e3 2 (some (.object "java/lang/Object")) 1 := ⟨⟨tb_1 159 rfl rfl, tb_1 160 rfl rfl, tb_1 161 rfl rfl, tb_1 4 rfl rfl, tb_1 162 rfl rfl⟩, rfl, by decide +kernel, by decide +kernel, by decide +kernel⟩
set_option maxRecDepth 20000 in
theorem s_X3_85 : CSV RX3 85 yX2_countPlaced RX2 cX2_countPlaced 1 (some .int) 0 := ⟨⟨tb_1 164 rfl rfl, tb_1 165 rfl rfl, tb_1 166 rfl rfl, tb_1 20 rfl rfl, tb_1 167 rfl rfl⟩, rfl, by decide +kernel, by decide +kernel, by decide +kernel⟩
set_option maxRecDepth 20000 in
theorem s_X2_56 : CSV RX2 56 yJx4a65c_size_8abf5 RJx4a65c cJx4a65c_size_8abf5 1 (some .int) 0 := ⟨⟨tb_1 168 rfl rfl, tb_1 78 rfl rfl, tb_1 79 rfl rfl, tb_1 4 rfl rfl, tb_1 80 rfl rfl⟩, rfl, by decide +kernel, by decide +kernel, by decide +kernel⟩
set_option maxRecDepth 20000 in
theorem s_X2_67 : CSV RX2 67 yX2_countIn RX2 cX2_countIn 4 (some .int) 1 := ⟨⟨tb_1 169 rfl rfl, tb_1 170 rfl rfl, tb_1 171 rfl rfl, tb_1 20 rfl rfl, tb_1 172 rfl rfl⟩, rfl, by decide +kernel, by decide +kernel, by decide +kernel⟩
set_option maxRecDepth 20000 in
theorem s_X2_60 : CSV RX2 60 yJx4a65c_get_915e3 RJx4a65c cJx4a65c_get_915e3 2 (some (.object "java/lang/Object")) 1 := ⟨⟨tb_1 173 rfl rfl, tb_1 150 rfl rfl, tb_1 151 rfl rfl, tb_1 4 rfl rfl, tb_1 152 rfl rfl⟩, rfl, by decide +kernel, by decide +kernel, by decide +kernel⟩
set_option maxRecDepth 20000 in
theorem s_X3_88 : CSV RX3 88 yX2_pot RX2 cX2_pot 1 (some .int) 0 := ⟨⟨tb_1 175 rfl rfl, tb_1 176 rfl rfl, tb_1 177 rfl rfl, tb_1 20 rfl rfl, tb_1 178 rfl rfl⟩, rfl, by decide +kernel, by decide +kernel, by decide +kernel⟩
set_option maxRecDepth 20000 in
theorem s_X2_71 : CSV RX2 71 yX2_countPlaced RX2 cX2_countPlaced 1 (some .int) 0 := ⟨⟨tb_1 179 rfl rfl, tb_1 165 rfl rfl, tb_1 166 rfl rfl, tb_1 20 rfl rfl, tb_1 167 rfl rfl⟩, rfl, by decide +kernel, by decide +kernel, by decide +kernel⟩
set_option maxRecDepth 20000 in
theorem s_L_28 : CSV RL 28 yX3_placed RX3 cX3_placed 4 (some .int) 2 := ⟨⟨tb_1 196 rfl rfl, tb_1 197 rfl rfl, tb_1 198 rfl rfl, tb_1 1 rfl rfl, tb_1 199 rfl rfl⟩, rfl, by decide +kernel, by decide +kernel, by decide +kernel⟩
set_option maxRecDepth 20000 in
theorem s_X3_96 : CSV RX3 96 yX3_entryAt RX3 cX3_entryAt 4 (some (.object "RankStock$Entry")) 2 := ⟨⟨tb_1 200 rfl rfl, tb_1 202 rfl rfl, tb_s 2 rfl rfl, tb_1 1 rfl rfl, tb_1 203 rfl rfl⟩, rfl, by decide +kernel, by decide +kernel, by decide +kernel⟩
set_option maxRecDepth 20000 in
theorem s_X3_236 : CSV RX3 236 yX3_checkRider RX3 cX3_checkRider 2 (none : Option Jvm.ClassFile.FieldType) 1 := ⟨⟨tb_1 204 rfl rfl, tb_1 206 rfl rfl, tb_s 3 rfl rfl, tb_1 1 rfl rfl, tb_1 207 rfl rfl⟩, rfl, by decide +kernel, by decide +kernel, by decide +kernel⟩
set_option maxRecDepth 20000 in
theorem s_X3_258 : CSV RX3 258 yX2_entryOf RX2 cX2_entryOf 2 (some (.object "RankStock$Entry")) 1 := ⟨⟨tb_1 209 rfl rfl, tb_1 210 rfl rfl, tb_1 211 rfl rfl, tb_1 20 rfl rfl, tb_1 212 rfl rfl⟩, rfl, by decide +kernel, by decide +kernel, by decide +kernel⟩
set_option maxRecDepth 20000 in
theorem s_L_31 : CSV RL 31 yX3_most RX3 cX3_most 6 (some .int) 1 := ⟨⟨tb_1 213 rfl rfl, tb_1 214 rfl rfl, tb_1 215 rfl rfl, tb_1 1 rfl rfl, tb_1 216 rfl rfl⟩, rfl, by decide +kernel, by decide +kernel, by decide +kernel⟩
set_option maxRecDepth 20000 in
theorem s_X3_138 : CSS RX3 138 yJ6_bitCount_0f7a4 cJ6_bitCount_0f7a4 1 (some .int) 1 := ⟨⟨tb_1 217 rfl rfl, tb_1 218 rfl rfl, tb_1 19 rfl rfl, tb_1 219 rfl rfl⟩, by decide +kernel, by decide +kernel, by decide +kernel⟩
set_option maxRecDepth 20000 in
theorem k_J6_265 : Cond.constant RJ6 265 (1431655765) ∈ TB := tb_1 220 rfl rfl
set_option maxRecDepth 20000 in
theorem k_J6_266 : Cond.constant RJ6 266 (858993459) ∈ TB := tb_1 221 rfl rfl
set_option maxRecDepth 20000 in
theorem k_J6_267 : Cond.constant RJ6 267 (252645135) ∈ TB := tb_1 222 rfl rfl
set_option maxRecDepth 20000 in
theorem s_X3_144 : CSV RX3 144 yX3_countWithWaysOutside RX3 cX3_countWithWaysOutside 5 (some .int) 2 := ⟨⟨tb_1 223 rfl rfl, tb_1 225 rfl rfl, tb_s 4 rfl rfl, tb_1 1 rfl rfl, tb_1 226 rfl rfl⟩, rfl, by decide +kernel, by decide +kernel, by decide +kernel⟩
set_option maxRecDepth 20000 in
theorem s_X3_293 : CSV RX3 293 yX3_hasWayOutside RX3 cX3_hasWayOutside 6 (some .boolean) 3 := ⟨⟨tb_1 228 rfl rfl, tb_1 230 rfl rfl, tb_s 5 rfl rfl, tb_1 1 rfl rfl, tb_1 231 rfl rfl⟩, rfl, by decide +kernel, by decide +kernel, by decide +kernel⟩
set_option maxRecDepth 20000 in
theorem s_X3_105 : CSS RX3 105 yX3_isInSet cX3_isInSet 2 (some .boolean) 2 := ⟨⟨tb_1 232 rfl rfl, tb_1 233 rfl rfl, tb_1 1 rfl rfl, tb_1 234 rfl rfl⟩, by decide +kernel, by decide +kernel, by decide +kernel⟩
set_option maxRecDepth 20000 in
theorem s_X3_278 : CSV RX3 278 yX3_canGet RX3 cX3_canGet 10 (some .boolean) 3 := ⟨⟨tb_1 235 rfl rfl, tb_1 237 rfl rfl, tb_s 6 rfl rfl, tb_1 1 rfl rfl, tb_1 238 rfl rfl⟩, rfl, by decide +kernel, by decide +kernel, by decide +kernel⟩
set_option maxRecDepth 20000 in
theorem s_X3_281 : CSV RX3 281 yX2_dayOf RX2 cX2_dayOf 2 (some .int) 1 := ⟨⟨tb_1 239 rfl rfl, tb_2 0 rfl rfl, tb_2 1 rfl rfl, tb_1 20 rfl rfl, tb_2 2 rfl rfl⟩, rfl, by decide +kernel, by decide +kernel, by decide +kernel⟩
set_option maxRecDepth 20000 in
theorem s_X3_284 : CSV RX3 284 yX1_isPlaced RX1 cX1_isPlaced 1 (some .boolean) 0 := ⟨⟨tb_2 3 rfl rfl, tb_2 4 rfl rfl, tb_2 5 rfl rfl, tb_1 18 rfl rfl, tb_2 6 rfl rfl⟩, rfl, by decide +kernel, by decide +kernel, by decide +kernel⟩
set_option maxRecDepth 20000 in
theorem u_X3_287 : Cond.methodLink RX3 287 Lib.Math.abs.name ∈ TB ∧ Cond.static Lib.Math.abs.name ∈ TB ∧ Cond.initialized "java/lang/Math" ∈ TB ∧ Cond.code Lib.Math.abs.name Lib.Math.abs.code 1 (some .int) ∈ TB := ⟨tb_2 7 rfl rfl, tb_2 8 rfl rfl, tb_1 12 rfl rfl, tb_2 9 rfl rfl⟩
set_option maxRecDepth 20000 in
theorem s_X3_287 : CSS RX3 287 yJ9_abs_0f7a4 cJ9_abs_0f7a4 1 (some .int) 1 := ⟨⟨tb_2 7 rfl rfl, tb_2 8 rfl rfl, tb_1 12 rfl rfl, tb_2 9 rfl rfl⟩, by decide +kernel, by decide +kernel, by decide +kernel⟩
set_option maxRecDepth 20000 in
theorem u_X3_148 : Cond.methodLink RX3 148 Lib.Math.min.name ∈ TB ∧ Cond.static Lib.Math.min.name ∈ TB ∧ Cond.initialized "java/lang/Math" ∈ TB ∧ Cond.code Lib.Math.min.name Lib.Math.min.code 2 (some .int) ∈ TB := ⟨tb_2 10 rfl rfl, tb_2 11 rfl rfl, tb_1 12 rfl rfl, tb_2 12 rfl rfl⟩
set_option maxRecDepth 20000 in
theorem s_X3_148 : CSS RX3 148 yJ9_min_7cf53 cJ9_min_7cf53 2 (some .int) 2 := ⟨⟨tb_2 10 rfl rfl, tb_2 11 rfl rfl, tb_1 12 rfl rfl, tb_2 12 rfl rfl⟩, by decide +kernel, by decide +kernel, by decide +kernel⟩
set_option maxRecDepth 20000 in
theorem s_L_37 : CSV RL 37 yX3_drawn RX3 cX3_drawn 4 (some .int) 2 := ⟨⟨tb_2 13 rfl rfl, tb_2 14 rfl rfl, tb_2 15 rfl rfl, tb_1 1 rfl rfl, tb_2 16 rfl rfl⟩, rfl, by decide +kernel, by decide +kernel, by decide +kernel⟩
set_option maxRecDepth 20000 in
theorem s_X3_162 : CSV RX3 162 yX1_beastNumber RX1 cX1_beastNumber 1 (some .int) 0 := ⟨⟨tb_2 17 rfl rfl, tb_2 18 rfl rfl, tb_2 19 rfl rfl, tb_1 18 rfl rfl, tb_2 20 rfl rfl⟩, rfl, by decide +kernel, by decide +kernel, by decide +kernel⟩
set_option maxRecDepth 20000 in
theorem s_L_40 : CSV RL 40 yX3_isOffered RX3 cX3_isOffered 4 (some .boolean) 2 := ⟨⟨tb_2 21 rfl rfl, tb_2 22 rfl rfl, tb_2 23 rfl rfl, tb_1 1 rfl rfl, tb_2 24 rfl rfl⟩, rfl, by decide +kernel, by decide +kernel, by decide +kernel⟩
set_option maxRecDepth 20000 in
theorem s_L_48 : CSV RL 48 yX3_score RX3 cX3_score 4 (some .int) 2 := ⟨⟨tb_2 25 rfl rfl, tb_2 26 rfl rfl, tb_2 27 rfl rfl, tb_1 1 rfl rfl, tb_2 28 rfl rfl⟩, rfl, by decide +kernel, by decide +kernel, by decide +kernel⟩
set_option maxRecDepth 20000 in
theorem s_L_51 : CSV RL 51 yX3_beastIs RX3 cX3_beastIs 4 (some .int) 2 := ⟨⟨tb_2 29 rfl rfl, tb_2 30 rfl rfl, tb_2 31 rfl rfl, tb_1 1 rfl rfl, tb_2 32 rfl rfl⟩, rfl, by decide +kernel, by decide +kernel, by decide +kernel⟩
set_option maxRecDepth 20000 in
theorem s_X3_217 : CSV RX3 217 yX3_rankOfBeast RX3 cX3_rankOfBeast 5 (some .int) 1 := ⟨⟨tb_2 35 rfl rfl, tb_2 37 rfl rfl, tb_s 7 rfl rfl, tb_1 1 rfl rfl, tb_2 38 rfl rfl⟩, rfl, by decide +kernel, by decide +kernel, by decide +kernel⟩
set_option maxRecDepth 20000 in
theorem s_X3_320 : CSV RX3 320 yX0_isAheadOf RX0 cX0_isAheadOf 4 (some .boolean) 1 := ⟨⟨tb_2 39 rfl rfl, tb_2 40 rfl rfl, tb_2 41 rfl rfl, tb_1 10 rfl rfl, tb_2 42 rfl rfl⟩, rfl, by decide +kernel, by decide +kernel, by decide +kernel⟩
set_option maxRecDepth 20000 in
theorem s_X0_35 : CSS RX0 35 yJ6_compare_7cf53 cJ6_compare_7cf53 2 (some .int) 2 := ⟨⟨tb_2 43 rfl rfl, tb_2 44 rfl rfl, tb_1 19 rfl rfl, tb_2 45 rfl rfl⟩, by decide +kernel, by decide +kernel, by decide +kernel⟩
set_option maxRecDepth 20000 in
theorem s_L_118 : CSV RL 118 yX3_balances RX3 cX3_balances 2 (some .boolean) 0 := ⟨⟨tb_2 46 rfl rfl, tb_2 47 rfl rfl, tb_2 48 rfl rfl, tb_1 1 rfl rfl, tb_2 49 rfl rfl⟩, rfl, by decide +kernel, by decide +kernel, by decide +kernel⟩
set_option maxRecDepth 20000 in
theorem s_X3_248 : CSV RX3 248 yX2_isEven RX2 cX2_isEven 3 (some .boolean) 0 := ⟨⟨tb_2 50 rfl rfl, tb_2 51 rfl rfl, tb_2 52 rfl rfl, tb_1 20 rfl rfl, tb_2 53 rfl rfl⟩, rfl, by decide +kernel, by decide +kernel, by decide +kernel⟩
set_option maxRecDepth 20000 in
theorem s_X2_84 : CSV RX2 84 yX2_pot RX2 cX2_pot 1 (some .int) 0 := ⟨⟨tb_2 54 rfl rfl, tb_1 176 rfl rfl, tb_1 177 rfl rfl, tb_1 20 rfl rfl, tb_1 178 rfl rfl⟩, rfl, by decide +kernel, by decide +kernel, by decide +kernel⟩
set_option maxRecDepth 20000 in
theorem s_X3_251 : CSV RX3 251 yX0_hasAlwaysRested RX0 cX0_hasAlwaysRested 1 (some .boolean) 0 := ⟨⟨tb_2 55 rfl rfl, tb_2 56 rfl rfl, tb_2 57 rfl rfl, tb_1 10 rfl rfl, tb_2 58 rfl rfl⟩, rfl, by decide +kernel, by decide +kernel, by decide +kernel⟩
set_option maxRecDepth 20000 in
theorem s_X0_23 : CSS RX0 23 yJ13_bitCount_95d88 cJ13_bitCount_95d88 2 (some .int) 1 := ⟨⟨tb_2 59 rfl rfl, tb_2 60 rfl rfl, tb_1 21 rfl rfl, tb_2 61 rfl rfl⟩, by decide +kernel, by decide +kernel, by decide +kernel⟩
set_option maxRecDepth 20000 in
theorem k_J13_314 : Cond.constantLong RJ13 314 (6148914691236517205) ∈ TB := tb_2 62 rfl rfl
set_option maxRecDepth 20000 in
theorem k_J13_316 : Cond.constantLong RJ13 316 (3689348814741910323) ∈ TB := tb_2 63 rfl rfl
set_option maxRecDepth 20000 in
theorem k_J13_318 : Cond.constantLong RJ13 318 (1085102592571150095) ∈ TB := tb_2 64 rfl rfl
set_option maxRecDepth 20000 in
theorem s_L_76 : CSS RL 76 yL_call cL_call 6 (some .int) 6 := ⟨⟨tb_2 71 rfl rfl, tb_2 72 rfl rfl, tb_1 0 rfl rfl, tb_2 73 rfl rfl⟩, by decide +kernel, by decide +kernel, by decide +kernel⟩
set_option maxRecDepth 20000 in
theorem s_L_7 : CSV RL 7 yX3_beast RX3 cX3_beast 3 (some .int) 1 := ⟨⟨tb_2 74 rfl rfl, tb_2 75 rfl rfl, tb_2 76 rfl rfl, tb_1 1 rfl rfl, tb_2 77 rfl rfl⟩, rfl, by decide +kernel, by decide +kernel, by decide +kernel⟩
set_option maxRecDepth 20000 in
theorem s_X3_26 : CSS RX3 26 yX3_isKind cX3_isKind 1 (some .boolean) 1 := ⟨⟨tb_2 78 rfl rfl, tb_2 79 rfl rfl, tb_1 1 rfl rfl, tb_2 80 rfl rfl⟩, by decide +kernel, by decide +kernel, by decide +kernel⟩
set_option maxRecDepth 20000 in
theorem s_X3_48 : CSI RX3 48 yX0_init cX0_init 3 2 := ⟨⟨tb_2 99 rfl rfl, tb_2 100 rfl rfl, tb_1 10 rfl rfl, tb_2 101 rfl rfl⟩, rfl, by decide +kernel, by decide +kernel, by decide +kernel⟩
set_option maxRecDepth 20000 in
theorem o_X0_1 : Cond.methodLink RX0 1 objectInit ∈ TB ∧ Cond.instanceMethod objectInit ∈ TB ∧ Cond.code objectInit ⟨#[0xb1]⟩ 1 none ∈ TB := ⟨tb_2 102 rfl rfl, tb_1 28 rfl rfl, tb_1 29 rfl rfl⟩
set_option maxRecDepth 20000 in
theorem f_X0_7 : FG RX0 7 1 0 RX0 TX0 7 := ⟨rfl, inT_X0, by decide, tb_2 103 rfl rfl⟩
theorem p_X0_7 : FP RX0 7 1 0 RX0 TX0 7 .int := ⟨f_X0_7, ⟨tyX0, tyX0_ok⟩, nmX0, by decide +kernel⟩
set_option maxRecDepth 20000 in
theorem f_X1_31 : FG RX1 31 1 0 RX0 TX0 7 := ⟨rfl, inT_X0, by decide, tb_2 104 rfl rfl⟩
set_option maxRecDepth 20000 in
theorem f_X0_13 : FG RX0 13 1 1 RX0 TX0 7 := ⟨rfl, inT_X0, by decide, tb_2 105 rfl rfl⟩
theorem p_X0_13 : FP RX0 13 1 1 RX0 TX0 7 .int := ⟨f_X0_13, ⟨tyX0, tyX0_ok⟩, nmX0, by decide +kernel⟩
set_option maxRecDepth 20000 in
theorem f_X3_205 : FG RX3 205 1 1 RX0 TX0 7 := ⟨rfl, inT_X0, by decide, tb_2 106 rfl rfl⟩
set_option maxRecDepth 20000 in
theorem f_X1_49 : FG RX1 49 1 2 RX0 TX0 7 := ⟨rfl, inT_X0, by decide, tb_2 107 rfl rfl⟩
theorem p_X1_49 : FP RX1 49 1 2 RX0 TX0 7 .int := ⟨f_X1_49, ⟨tyX0, tyX0_ok⟩, nmX0, by decide +kernel⟩
set_option maxRecDepth 20000 in
theorem f_X0_32 : FG RX0 32 1 2 RX0 TX0 7 := ⟨rfl, inT_X0, by decide, tb_2 108 rfl rfl⟩
set_option maxRecDepth 20000 in
theorem f_X3_208 : FG RX3 208 1 2 RX0 TX0 7 := ⟨rfl, inT_X0, by decide, tb_2 109 rfl rfl⟩
set_option maxRecDepth 20000 in
theorem f_X1_52 : FG RX1 52 1 3 RX0 TX0 7 := ⟨rfl, inT_X0, by decide, tb_2 110 rfl rfl⟩
theorem p_X1_52 : FP RX1 52 1 3 RX0 TX0 7 .int := ⟨f_X1_52, ⟨tyX0, tyX0_ok⟩, nmX0, by decide +kernel⟩
set_option maxRecDepth 20000 in
theorem f_X0_29 : FG RX0 29 1 3 RX0 TX0 7 := ⟨rfl, inT_X0, by decide, tb_2 111 rfl rfl⟩
set_option maxRecDepth 20000 in
theorem f_X3_211 : FG RX3 211 1 3 RX0 TX0 7 := ⟨rfl, inT_X0, by decide, tb_2 112 rfl rfl⟩
set_option maxRecDepth 20000 in
theorem f_X1_55 : FG RX1 55 1 4 RX0 TX0 7 := ⟨rfl, inT_X0, by decide, tb_2 113 rfl rfl⟩
theorem p_X1_55 : FP RX1 55 1 4 RX0 TX0 7 .int := ⟨f_X1_55, ⟨tyX0, tyX0_ok⟩, nmX0, by decide +kernel⟩
set_option maxRecDepth 20000 in
theorem f_X0_41 : FG RX0 41 1 4 RX0 TX0 7 := ⟨rfl, inT_X0, by decide, tb_2 114 rfl rfl⟩
set_option maxRecDepth 20000 in
theorem f_X3_214 : FG RX3 214 1 4 RX0 TX0 7 := ⟨rfl, inT_X0, by decide, tb_2 115 rfl rfl⟩
set_option maxRecDepth 20000 in
theorem f_X0_20 : FG RX0 20 1 5 RX0 TX0 7 := ⟨rfl, inT_X0, by decide, tb_2 116 rfl rfl⟩
theorem p_X0_20 : FP RX0 20 1 5 RX0 TX0 7 .int := ⟨f_X0_20, ⟨tyX0, tyX0_ok⟩, nmX0, by decide +kernel⟩
set_option maxRecDepth 20000 in
theorem f_X0_16 : FG RX0 16 1 6 RX0 TX0 7 := ⟨rfl, inT_X0, by decide, tb_2 117 rfl rfl⟩
theorem p_X0_16 : FP RX0 16 1 6 RX0 TX0 7 .long := ⟨f_X0_16, ⟨tyX0, tyX0_ok⟩, nmX0, by decide +kernel⟩
set_option maxRecDepth 20000 in
theorem s_X3_51 : CSV RX3 51 yJx4a65c_add_9ea2d RJx4a65c cJx4a65c_add_9ea2d 2 (some .boolean) 1 := ⟨⟨tb_2 133 rfl rfl, tb_2 134 rfl rfl, tb_2 135 rfl rfl, tb_1 4 rfl rfl, tb_2 136 rfl rfl⟩, rfl, by decide +kernel, by decide +kernel, by decide +kernel⟩
set_option maxRecDepth 20000 in
theorem s_Jx4a65c_131 : CSV RJx4a65c 131 yJx4a65c_add_72be8 RJx4a65c cJx4a65c_add_72be8 4 (none : Option Jvm.ClassFile.FieldType) 3 := ⟨⟨tb_2 137 rfl rfl, tb_2 139 rfl rfl, tb_s 8 rfl rfl, tb_1 4 rfl rfl, tb_2 140 rfl rfl⟩, rfl, by decide +kernel, by decide +kernel, by decide +kernel⟩
set_option maxRecDepth 20000 in
theorem s_Jx4a65c_129 : CSV RJx4a65c 129 yJx4a65c_grow_d5877 RJx4a65c cJx4a65c_grow_d5877 1 (some (.array (.object "java/lang/Object"))) 0 := ⟨⟨tb_2 141 rfl rfl, tb_2 143 rfl rfl, tb_s 9 rfl rfl, tb_1 4 rfl rfl, tb_2 144 rfl rfl⟩, rfl, by decide +kernel, by decide +kernel, by decide +kernel⟩
set_option maxRecDepth 20000 in
theorem s_Jx4a65c_69 : CSV RJx4a65c 69 yJx4a65c_grow_92f84 RJx4a65c cJx4a65c_grow_92f84 4 (some (.array (.object "java/lang/Object"))) 1 := ⟨⟨tb_2 145 rfl rfl, tb_2 147 rfl rfl, tb_s 10 rfl rfl, tb_1 4 rfl rfl, tb_2 148 rfl rfl⟩, rfl, by decide +kernel, by decide +kernel, by decide +kernel⟩
set_option maxRecDepth 20000 in
theorem s_Jx4a65c_73 : CSS RJx4a65c 73 yJ8_newLength_cabcc cJ8_newLength_cabcc 4 (some .int) 3 := ⟨⟨tb_2 149 rfl rfl, tb_2 150 rfl rfl, tb_1 11 rfl rfl, tb_2 151 rfl rfl⟩, by decide +kernel, by decide +kernel, by decide +kernel⟩
set_option maxRecDepth 20000 in
theorem u_J8_194 : Cond.methodLink RJ8 194 Lib.Math.max.name ∈ TB ∧ Cond.static Lib.Math.max.name ∈ TB ∧ Cond.initialized "java/lang/Math" ∈ TB ∧ Cond.code Lib.Math.max.name Lib.Math.max.code 2 (some .int) ∈ TB := ⟨tb_2 152 rfl rfl, tb_2 153 rfl rfl, tb_1 12 rfl rfl, tb_2 154 rfl rfl⟩
set_option maxRecDepth 20000 in
theorem s_J8_194 : CSS RJ8 194 yJ9_max_7cf53 cJ9_max_7cf53 2 (some .int) 2 := ⟨⟨tb_2 152 rfl rfl, tb_2 153 rfl rfl, tb_1 12 rfl rfl, tb_2 154 rfl rfl⟩, by decide +kernel, by decide +kernel, by decide +kernel⟩
set_option maxRecDepth 20000 in
theorem k_J8_200 : Cond.constant RJ8 200 (2147483639) ∈ TB := tb_2 155 rfl rfl
set_option maxRecDepth 20000 in
theorem s_J8_201 : CSS RJ8 201 yJ8_hugeLength_7cf53 cJ8_hugeLength_7cf53 3 (some .int) 2 := ⟨⟨tb_2 156 rfl rfl, tb_2 157 rfl rfl, tb_1 11 rfl rfl, tb_2 158 rfl rfl⟩, by decide +kernel, by decide +kernel, by decide +kernel⟩
set_option maxRecDepth 20000 in
theorem s_Jx4a65c_66 : CSS RJx4a65c 66 yJ7_copyOf_1904c cJ7_copyOf_1904c 2 (some (.array (.object "java/lang/Object"))) 2 := ⟨⟨tb_2 159 rfl rfl, tb_2 160 rfl rfl, tb_1 13 rfl rfl, tb_2 161 rfl rfl⟩, by decide +kernel, by decide +kernel, by decide +kernel⟩
set_option maxRecDepth 20000 in
theorem s_J7_300 : CSS RJ7 300 yJ7_copyOf_6403c cJ7_copyOf_6403c 4 (some (.array (.object "java/lang/Object"))) 3 := ⟨⟨tb_2 174 rfl rfl, tb_2 175 rfl rfl, tb_1 13 rfl rfl, tb_2 176 rfl rfl⟩, by decide +kernel, by decide +kernel, by decide +kernel⟩
set_option maxRecDepth 20000 in
theorem u_J7_304 : Cond.methodLink RJ7 304 Lib.Math.min.name ∈ TB ∧ Cond.static Lib.Math.min.name ∈ TB ∧ Cond.initialized "java/lang/Math" ∈ TB ∧ Cond.code Lib.Math.min.name Lib.Math.min.code 2 (some .int) ∈ TB := ⟨tb_2 180 rfl rfl, tb_2 11 rfl rfl, tb_1 12 rfl rfl, tb_2 12 rfl rfl⟩
set_option maxRecDepth 20000 in
theorem s_J7_304 : CSS RJ7 304 yJ9_min_7cf53 cJ9_min_7cf53 2 (some .int) 2 := ⟨⟨tb_2 180 rfl rfl, tb_2 11 rfl rfl, tb_1 12 rfl rfl, tb_2 12 rfl rfl⟩, by decide +kernel, by decide +kernel, by decide +kernel⟩
set_option maxRecDepth 20000 in
theorem u_Jx4a65c_79 : Cond.methodLink RJx4a65c 79 Lib.Math.max.name ∈ TB ∧ Cond.static Lib.Math.max.name ∈ TB ∧ Cond.initialized "java/lang/Math" ∈ TB ∧ Cond.code Lib.Math.max.name Lib.Math.max.code 2 (some .int) ∈ TB := ⟨tb_2 184 rfl rfl, tb_2 153 rfl rfl, tb_1 12 rfl rfl, tb_2 154 rfl rfl⟩
set_option maxRecDepth 20000 in
theorem s_Jx4a65c_79 : CSS RJx4a65c 79 yJ9_max_7cf53 cJ9_max_7cf53 2 (some .int) 2 := ⟨⟨tb_2 184 rfl rfl, tb_2 153 rfl rfl, tb_1 12 rfl rfl, tb_2 154 rfl rfl⟩, by decide +kernel, by decide +kernel, by decide +kernel⟩
set_option maxRecDepth 20000 in
theorem s_L_13 : CSV RL 13 yX3_rider RX3 cX3_rider 1 (some .int) 0 := ⟨⟨tb_2 186 rfl rfl, tb_2 187 rfl rfl, tb_2 188 rfl rfl, tb_1 1 rfl rfl, tb_2 189 rfl rfl⟩, rfl, by decide +kernel, by decide +kernel, by decide +kernel⟩
set_option maxRecDepth 20000 in
theorem s_L_21 : CSV RL 21 yX3_enter RX3 cX3_enter 7 (some .int) 4 := ⟨⟨tb_2 191 rfl rfl, tb_2 192 rfl rfl, tb_2 193 rfl rfl, tb_1 1 rfl rfl, tb_2 194 rfl rfl⟩, rfl, by decide +kernel, by decide +kernel, by decide +kernel⟩
set_option maxRecDepth 20000 in
theorem s_X3_57 : CSS RX3 57 yX3_isWithin cX3_isWithin 3 (some .boolean) 3 := ⟨⟨tb_2 195 rfl rfl, tb_2 196 rfl rfl, tb_1 1 rfl rfl, tb_2 197 rfl rfl⟩, by decide +kernel, by decide +kernel, by decide +kernel⟩
set_option maxRecDepth 20000 in
theorem s_X3_115 : CSI RX3 115 yX1_init cX1_init 4 3 := ⟨⟨tb_2 202 rfl rfl, tb_2 203 rfl rfl, tb_1 18 rfl rfl, tb_2 204 rfl rfl⟩, rfl, by decide +kernel, by decide +kernel, by decide +kernel⟩
set_option maxRecDepth 20000 in
theorem o_X1_3 : Cond.methodLink RX1 3 objectInit ∈ TB ∧ Cond.instanceMethod objectInit ∈ TB ∧ Cond.code objectInit ⟨#[0xb1]⟩ 1 none ∈ TB := ⟨tb_2 205 rfl rfl, tb_1 28 rfl rfl, tb_1 29 rfl rfl⟩
set_option maxRecDepth 20000 in
theorem f_X1_9 : FG RX1 9 2 0 RX1 TX1 11 := ⟨rfl, inT_X1, by decide, tb_2 206 rfl rfl⟩
theorem p_X1_9 : FP RX1 9 2 0 RX1 TX1 11 .int := ⟨f_X1_9, ⟨tyX1, tyX1_ok⟩, nmX1, by decide +kernel⟩
set_option maxRecDepth 20000 in
theorem f_X2_49 : FG RX2 49 2 0 RX1 TX1 11 := ⟨rfl, inT_X1, by decide, tb_2 207 rfl rfl⟩
set_option maxRecDepth 20000 in
theorem f_X3_262 : FG RX3 262 2 0 RX1 TX1 11 := ⟨rfl, inT_X1, by decide, tb_2 208 rfl rfl⟩
set_option maxRecDepth 20000 in
theorem f_X1_15 : FG RX1 15 2 1 RX1 TX1 11 := ⟨rfl, inT_X1, by decide, tb_2 209 rfl rfl⟩
theorem p_X1_15 : FP RX1 15 2 1 RX1 TX1 11 .int := ⟨f_X1_15, ⟨tyX1, tyX1_ok⟩, nmX1, by decide +kernel⟩
set_option maxRecDepth 20000 in
theorem f_X3_272 : FG RX3 272 2 1 RX1 TX1 11 := ⟨rfl, inT_X1, by decide, tb_2 210 rfl rfl⟩
set_option maxRecDepth 20000 in
theorem f_X1_18 : FG RX1 18 2 2 RX1 TX1 11 := ⟨rfl, inT_X1, by decide, tb_2 211 rfl rfl⟩
theorem p_X1_18 : FP RX1 18 2 2 RX1 TX1 11 .int := ⟨f_X1_18, ⟨tyX1, tyX1_ok⟩, nmX1, by decide +kernel⟩
set_option maxRecDepth 20000 in
theorem f_X3_265 : FG RX3 265 2 2 RX1 TX1 11 := ⟨rfl, inT_X1, by decide, tb_2 212 rfl rfl⟩
set_option maxRecDepth 20000 in
theorem f_X1_21 : FG RX1 21 2 3 RX1 TX1 11 := ⟨rfl, inT_X1, by decide, tb_2 213 rfl rfl⟩
theorem p_X1_21 : FP RX1 21 2 3 RX1 TX1 11 .int := ⟨f_X1_21, ⟨tyX1, tyX1_ok⟩, nmX1, by decide +kernel⟩
set_option maxRecDepth 20000 in
theorem f_X2_64 : FG RX2 64 2 3 RX1 TX1 11 := ⟨rfl, inT_X1, by decide, tb_2 214 rfl rfl⟩
set_option maxRecDepth 20000 in
theorem f_X3_132 : FG RX3 132 2 3 RX1 TX1 11 := ⟨rfl, inT_X1, by decide, tb_2 215 rfl rfl⟩
theorem p_X3_132 : FP RX3 132 2 3 RX1 TX1 11 .int := ⟨f_X3_132, ⟨tyX1, tyX1_ok⟩, nmX1, by decide +kernel⟩
set_option maxRecDepth 20000 in
theorem f_X1_27 : FG RX1 27 2 4 RX1 TX1 11 := ⟨rfl, inT_X1, by decide, tb_2 216 rfl rfl⟩
set_option maxRecDepth 20000 in
theorem f_X3_302 : FG RX3 302 2 4 RX1 TX1 11 := ⟨rfl, inT_X1, by decide, tb_2 217 rfl rfl⟩
theorem p_X3_302 : FP RX3 302 2 4 RX1 TX1 11 (.object "RankStock$Beast") := ⟨f_X3_302, ⟨tyX1, tyX1_ok⟩, nmX1, by decide +kernel⟩
set_option maxRecDepth 20000 in
theorem f_X1_36 : FG RX1 36 2 5 RX1 TX1 11 := ⟨rfl, inT_X1, by decide, tb_2 218 rfl rfl⟩
theorem p_X1_36 : FP RX1 36 2 5 RX1 TX1 11 .boolean := ⟨f_X1_36, ⟨tyX1, tyX1_ok⟩, nmX1, by decide +kernel⟩
set_option maxRecDepth 20000 in
theorem f_X2_74 : FG RX2 74 2 5 RX1 TX1 11 := ⟨rfl, inT_X1, by decide, tb_2 219 rfl rfl⟩
set_option maxRecDepth 20000 in
theorem f_X3_169 : FG RX3 169 2 5 RX1 TX1 11 := ⟨rfl, inT_X1, by decide, tb_2 220 rfl rfl⟩
theorem p_X3_169 : FP RX3 169 2 5 RX1 TX1 11 .boolean := ⟨f_X3_169, ⟨tyX1, tyX1_ok⟩, nmX1, by decide +kernel⟩
set_option maxRecDepth 20000 in
theorem f_X1_43 : FG RX1 43 2 6 RX1 TX1 11 := ⟨rfl, inT_X1, by decide, tb_2 221 rfl rfl⟩
set_option maxRecDepth 20000 in
theorem f_X3_193 : FG RX3 193 2 6 RX1 TX1 11 := ⟨rfl, inT_X1, by decide, tb_2 222 rfl rfl⟩
theorem p_X3_193 : FP RX3 193 2 6 RX1 TX1 11 .boolean := ⟨f_X3_193, ⟨tyX1, tyX1_ok⟩, nmX1, by decide +kernel⟩
set_option maxRecDepth 20000 in
theorem f_X1_46 : FG RX1 46 2 7 RX1 TX1 11 := ⟨rfl, inT_X1, by decide, tb_2 223 rfl rfl⟩
theorem p_X1_46 : FP RX1 46 2 7 RX1 TX1 11 .boolean := ⟨f_X1_46, ⟨tyX1, tyX1_ok⟩, nmX1, by decide +kernel⟩
set_option maxRecDepth 20000 in
theorem f_X2_78 : FG RX2 78 2 7 RX1 TX1 11 := ⟨rfl, inT_X1, by decide, tb_2 224 rfl rfl⟩
set_option maxRecDepth 20000 in
theorem f_X3_185 : FG RX3 185 2 7 RX1 TX1 11 := ⟨rfl, inT_X1, by decide, tb_2 225 rfl rfl⟩
theorem p_X3_185 : FP RX3 185 2 7 RX1 TX1 11 .boolean := ⟨f_X3_185, ⟨tyX1, tyX1_ok⟩, nmX1, by decide +kernel⟩
set_option maxRecDepth 20000 in
theorem f_X1_40 : FG RX1 40 2 8 RX1 TX1 11 := ⟨rfl, inT_X1, by decide, tb_2 226 rfl rfl⟩
theorem p_X1_40 : FP RX1 40 2 8 RX1 TX1 11 .boolean := ⟨f_X1_40, ⟨tyX1, tyX1_ok⟩, nmX1, by decide +kernel⟩
set_option maxRecDepth 20000 in
theorem f_X2_81 : FG RX2 81 2 8 RX1 TX1 11 := ⟨rfl, inT_X1, by decide, tb_2 227 rfl rfl⟩
set_option maxRecDepth 20000 in
theorem f_X1_24 : FG RX1 24 2 9 RX1 TX1 11 := ⟨rfl, inT_X1, by decide, tb_2 228 rfl rfl⟩
theorem p_X1_24 : FP RX1 24 2 9 RX1 TX1 11 .int := ⟨f_X1_24, ⟨tyX1, tyX1_ok⟩, nmX1, by decide +kernel⟩
set_option maxRecDepth 20000 in
theorem f_X2_102 : FG RX2 102 2 9 RX1 TX1 11 := ⟨rfl, inT_X1, by decide, tb_2 229 rfl rfl⟩
set_option maxRecDepth 20000 in
theorem f_X3_182 : FG RX3 182 2 9 RX1 TX1 11 := ⟨rfl, inT_X1, by decide, tb_2 230 rfl rfl⟩
set_option maxRecDepth 20000 in
theorem f_X2_108 : FG RX2 108 2 10 RX1 TX1 11 := ⟨rfl, inT_X1, by decide, tb_2 231 rfl rfl⟩
theorem p_X2_108 : FP RX2 108 2 10 RX1 TX1 11 .int := ⟨f_X2_108, ⟨tyX1, tyX1_ok⟩, nmX1, by decide +kernel⟩
set_option maxRecDepth 20000 in
theorem f_X3_233 : FG RX3 233 2 10 RX1 TX1 11 := ⟨rfl, inT_X1, by decide, tb_2 232 rfl rfl⟩
set_option maxRecDepth 20000 in
theorem s_X3_118 : CSV RX3 118 yX2_addEntry RX2 cX2_addEntry 2 (none : Option Jvm.ClassFile.FieldType) 1 := ⟨⟨tb_3 16 rfl rfl, tb_3 17 rfl rfl, tb_3 18 rfl rfl, tb_1 20 rfl rfl, tb_3 19 rfl rfl⟩, rfl, by decide +kernel, by decide +kernel, by decide +kernel⟩
set_option maxRecDepth 20000 in
theorem s_X2_52 : CSV RX2 52 yJx4a65c_add_9ea2d RJx4a65c cJx4a65c_add_9ea2d 2 (some .boolean) 1 := ⟨⟨tb_3 20 rfl rfl, tb_2 134 rfl rfl, tb_2 135 rfl rfl, tb_1 4 rfl rfl, tb_2 136 rfl rfl⟩, rfl, by decide +kernel, by decide +kernel, by decide +kernel⟩
set_option maxRecDepth 20000 in
theorem s_L_25 : CSV RL 25 yX3_close RX3 cX3_close 5 (some .int) 1 := ⟨⟨tb_3 21 rfl rfl, tb_3 22 rfl rfl, tb_3 23 rfl rfl, tb_1 1 rfl rfl, tb_3 24 rfl rfl⟩, rfl, by decide +kernel, by decide +kernel, by decide +kernel⟩
set_option maxRecDepth 20000 in
theorem s_X3_128 : CSV RX3 128 yX3_performanceFor RX3 cX3_performanceFor 4 (some .int) 2 := ⟨⟨tb_3 26 rfl rfl, tb_3 28 rfl rfl, tb_s 11 rfl rfl, tb_1 1 rfl rfl, tb_3 29 rfl rfl⟩, rfl, by decide +kernel, by decide +kernel, by decide +kernel⟩
set_option maxRecDepth 20000 in
theorem s_X3_268 : CSV RX3 268 yX3_canBePlaced RX3 cX3_canBePlaced 4 (some .boolean) 3 := ⟨⟨tb_3 30 rfl rfl, tb_3 32 rfl rfl, tb_s 12 rfl rfl, tb_1 1 rfl rfl, tb_3 33 rfl rfl⟩, rfl, by decide +kernel, by decide +kernel, by decide +kernel⟩
set_option maxRecDepth 20000 in
theorem s_X3_275 : CSV RX3 275 yX2_countIn RX2 cX2_countIn 4 (some .int) 1 := ⟨⟨tb_3 34 rfl rfl, tb_1 170 rfl rfl, tb_1 171 rfl rfl, tb_1 20 rfl rfl, tb_1 172 rfl rfl⟩, rfl, by decide +kernel, by decide +kernel, by decide +kernel⟩
set_option maxRecDepth 20000 in
theorem s_L_34 : CSV RL 34 yX3_draw RX3 cX3_draw 5 (some .int) 1 := ⟨⟨tb_3 35 rfl rfl, tb_3 36 rfl rfl, tb_3 37 rfl rfl, tb_1 1 rfl rfl, tb_3 38 rfl rfl⟩, rfl, by decide +kernel, by decide +kernel, by decide +kernel⟩
set_option maxRecDepth 20000 in
theorem s_X3_159 : CSV RX3 159 yX3_mountAll RX3 cX3_mountAll 6 (some .int) 2 := ⟨⟨tb_3 40 rfl rfl, tb_3 42 rfl rfl, tb_s 13 rfl rfl, tb_1 1 rfl rfl, tb_3 43 rfl rfl⟩, rfl, by decide +kernel, by decide +kernel, by decide +kernel⟩
set_option maxRecDepth 20000 in
theorem s_X3_196 : CSV RX3 196 yX3_mount RX3 cX3_mount 3 (none : Option Jvm.ClassFile.FieldType) 2 := ⟨⟨tb_3 44 rfl rfl, tb_3 46 rfl rfl, tb_s 14 rfl rfl, tb_1 1 rfl rfl, tb_3 47 rfl rfl⟩, rfl, by decide +kernel, by decide +kernel, by decide +kernel⟩
set_option maxRecDepth 20000 in
theorem s_X3_298 : CSV RX3 298 yX3_drawBeast RX3 cX3_drawBeast 5 (some (.object "RankStock$Beast")) 2 := ⟨⟨tb_3 48 rfl rfl, tb_3 50 rfl rfl, tb_s 15 rfl rfl, tb_1 1 rfl rfl, tb_3 51 rfl rfl⟩, rfl, by decide +kernel, by decide +kernel, by decide +kernel⟩
set_option maxRecDepth 20000 in
theorem s_X3_306 : CSV RX3 306 yX3_countDrawable RX3 cX3_countDrawable 5 (some .int) 2 := ⟨⟨tb_3 52 rfl rfl, tb_3 54 rfl rfl, tb_s 16 rfl rfl, tb_1 1 rfl rfl, tb_3 55 rfl rfl⟩, rfl, by decide +kernel, by decide +kernel, by decide +kernel⟩
set_option maxRecDepth 20000 in
theorem s_X3_317 : CSV RX3 317 yX0_canBeDrawn RX0 cX0_canBeDrawn 7 (some .boolean) 2 := ⟨⟨tb_3 56 rfl rfl, tb_3 57 rfl rfl, tb_3 58 rfl rfl, tb_1 10 rfl rfl, tb_3 59 rfl rfl⟩, rfl, by decide +kernel, by decide +kernel, by decide +kernel⟩
set_option maxRecDepth 20000 in
theorem k_X3_309 : Cond.constant RX3 309 (65537) ∈ TB := tb_3 60 rfl rfl
set_option maxRecDepth 20000 in
theorem s_X3_310 : CSV RX3 310 yX3_drawableAt RX3 cX3_drawableAt 7 (some (.object "RankStock$Beast")) 3 := ⟨⟨tb_3 61 rfl rfl, tb_3 63 rfl rfl, tb_s 17 rfl rfl, tb_1 1 rfl rfl, tb_3 64 rfl rfl⟩, rfl, by decide +kernel, by decide +kernel, by decide +kernel⟩
set_option maxRecDepth 20000 in
theorem s_X3_314 : CSV RX3 314 yX0_noteDraw RX0 cX0_noteDraw 2 (none : Option Jvm.ClassFile.FieldType) 1 := ⟨⟨tb_3 65 rfl rfl, tb_3 66 rfl rfl, tb_3 67 rfl rfl, tb_1 10 rfl rfl, tb_3 68 rfl rfl⟩, rfl, by decide +kernel, by decide +kernel, by decide +kernel⟩
set_option maxRecDepth 20000 in
theorem s_L_44 : CSV RL 44 yX3_answer RX3 cX3_answer 5 (some .int) 3 := ⟨⟨tb_3 69 rfl rfl, tb_3 70 rfl rfl, tb_3 71 rfl rfl, tb_1 1 rfl rfl, tb_3 72 rfl rfl⟩, rfl, by decide +kernel, by decide +kernel, by decide +kernel⟩
set_option maxRecDepth 20000 in
theorem s_X3_190 : CSV RX3 190 yX1_loseScore RX1 cX1_loseScore 1 (none : Option Jvm.ClassFile.FieldType) 0 := ⟨⟨tb_3 74 rfl rfl, tb_3 75 rfl rfl, tb_3 76 rfl rfl, tb_1 18 rfl rfl, tb_3 77 rfl rfl⟩, rfl, by decide +kernel, by decide +kernel, by decide +kernel⟩
set_option maxRecDepth 20000 in
theorem s_L_54 : CSV RL 54 yX3_pay RX3 cX3_pay 3 (some .int) 1 := ⟨⟨tb_3 78 rfl rfl, tb_3 79 rfl rfl, tb_3 80 rfl rfl, tb_1 1 rfl rfl, tb_3 81 rfl rfl⟩, rfl, by decide +kernel, by decide +kernel, by decide +kernel⟩
set_option maxRecDepth 20000 in
theorem s_X3_221 : CSV RX3 221 yX2_canBePaid RX2 cX2_canBePaid 3 (some .boolean) 0 := ⟨⟨tb_3 82 rfl rfl, tb_3 83 rfl rfl, tb_3 84 rfl rfl, tb_1 20 rfl rfl, tb_3 85 rfl rfl⟩, rfl, by decide +kernel, by decide +kernel, by decide +kernel⟩
set_option maxRecDepth 20000 in
theorem s_X3_227 : CSV RX3 227 yX2_payOut RX2 cX2_payOut 7 (none : Option Jvm.ClassFile.FieldType) 0 := ⟨⟨tb_3 87 rfl rfl, tb_3 88 rfl rfl, tb_3 89 rfl rfl, tb_1 20 rfl rfl, tb_3 90 rfl rfl⟩, rfl, by decide +kernel, by decide +kernel, by decide +kernel⟩
set_option maxRecDepth 20000 in
theorem s_X2_87 : CSV RX2 87 yX2_countCounting RX2 cX2_countCounting 3 (some .int) 0 := ⟨⟨tb_3 91 rfl rfl, tb_3 92 rfl rfl, tb_3 93 rfl rfl, tb_1 20 rfl rfl, tb_3 94 rfl rfl⟩, rfl, by decide +kernel, by decide +kernel, by decide +kernel⟩
set_option maxRecDepth 20000 in
theorem s_X2_94 : CSV RX2 94 yX2_sharesOf RX2 cX2_sharesOf 6 (some .int) 3 := ⟨⟨tb_3 97 rfl rfl, tb_3 98 rfl rfl, tb_3 99 rfl rfl, tb_1 20 rfl rfl, tb_3 100 rfl rfl⟩, rfl, by decide +kernel, by decide +kernel, by decide +kernel⟩
set_option maxRecDepth 20000 in
theorem s_X2_105 : CSV RX2 105 yX2_placeMoney RX2 cX2_placeMoney 7 (some .int) 2 := ⟨⟨tb_3 104 rfl rfl, tb_3 105 rfl rfl, tb_3 106 rfl rfl, tb_1 20 rfl rfl, tb_3 107 rfl rfl⟩, rfl, by decide +kernel, by decide +kernel, by decide +kernel⟩
set_option maxRecDepth 20000 in
theorem s_X3_230 : CSV RX3 230 yX2_countCounting RX2 cX2_countCounting 3 (some .int) 0 := ⟨⟨tb_3 108 rfl rfl, tb_3 92 rfl rfl, tb_3 93 rfl rfl, tb_1 20 rfl rfl, tb_3 94 rfl rfl⟩, rfl, by decide +kernel, by decide +kernel, by decide +kernel⟩
set_option maxRecDepth 20000 in
theorem s_L_57 : CSV RL 57 yX3_got RX3 cX3_got 4 (some .int) 2 := ⟨⟨tb_3 109 rfl rfl, tb_3 110 rfl rfl, tb_3 111 rfl rfl, tb_1 1 rfl rfl, tb_3 112 rfl rfl⟩, rfl, by decide +kernel, by decide +kernel, by decide +kernel⟩
set_option maxRecDepth 20000 in
theorem s_L_60 : CSV RL 60 yX3_counts RX3 cX3_counts 2 (some .int) 1 := ⟨⟨tb_3 113 rfl rfl, tb_3 114 rfl rfl, tb_3 115 rfl rfl, tb_1 1 rfl rfl, tb_3 116 rfl rfl⟩, rfl, by decide +kernel, by decide +kernel, by decide +kernel⟩
set_option maxRecDepth 20000 in
theorem s_X3_240 : CSV RX3 240 yX3_bestThreePays RX3 cX3_bestThreePays 7 (some .int) 1 := ⟨⟨tb_3 117 rfl rfl, tb_3 119 rfl rfl, tb_s 18 rfl rfl, tb_1 1 rfl rfl, tb_3 120 rfl rfl⟩, rfl, by decide +kernel, by decide +kernel, by decide +kernel⟩
set_option maxRecDepth 20000 in
theorem s_X3_324 : CSV RX3 324 yX3_moneyOf RX3 cX3_moneyOf 4 (some .int) 2 := ⟨⟨tb_3 121 rfl rfl, tb_3 123 rfl rfl, tb_s 19 rfl rfl, tb_1 1 rfl rfl, tb_3 124 rfl rfl⟩, rfl, by decide +kernel, by decide +kernel, by decide +kernel⟩
set_option maxRecDepth 20000 in
theorem s_L_63 : CSV RL 63 yX3_ranked RX3 cX3_ranked 3 (some .int) 1 := ⟨⟨tb_3 125 rfl rfl, tb_3 126 rfl rfl, tb_3 127 rfl rfl, tb_1 1 rfl rfl, tb_3 128 rfl rfl⟩, rfl, by decide +kernel, by decide +kernel, by decide +kernel⟩
set_option maxRecDepth 20000 in
theorem s_X3_245 : CSV RX3 245 yX3_rankOfRider RX3 cX3_rankOfRider 4 (some .int) 1 := ⟨⟨tb_3 130 rfl rfl, tb_3 132 rfl rfl, tb_s 20 rfl rfl, tb_1 1 rfl rfl, tb_3 133 rfl rfl⟩, rfl, by decide +kernel, by decide +kernel, by decide +kernel⟩
set_option maxRecDepth 20000 in
theorem s_X3_327 : CSV RX3 327 yX3_isRiderAhead RX3 cX3_isRiderAhead 5 (some .boolean) 2 := ⟨⟨tb_3 134 rfl rfl, tb_3 136 rfl rfl, tb_s 21 rfl rfl, tb_1 1 rfl rfl, tb_3 137 rfl rfl⟩, rfl, by decide +kernel, by decide +kernel, by decide +kernel⟩
set_option maxRecDepth 20000 in
theorem s_X3_330 : CSS RX3 330 yJ6_compare_7cf53 cJ6_compare_7cf53 2 (some .int) 2 := ⟨⟨tb_3 138 rfl rfl, tb_2 44 rfl rfl, tb_1 19 rfl rfl, tb_2 45 rfl rfl⟩, by decide +kernel, by decide +kernel, by decide +kernel⟩
set_option maxRecDepth 20000 in
theorem s_X3_333 : CSV RX3 333 yX3_allPays RX3 cX3_allPays 4 (some .int) 1 := ⟨⟨tb_3 139 rfl rfl, tb_3 141 rfl rfl, tb_s 22 rfl rfl, tb_1 1 rfl rfl, tb_3 142 rfl rfl⟩, rfl, by decide +kernel, by decide +kernel, by decide +kernel⟩
set_option maxRecDepth 20000 in
theorem s_L_66 : CSS RL 66 yL_hides cL_hides 2 (some .int) 2 := ⟨⟨tb_3 143 rfl rfl, tb_3 144 rfl rfl, tb_1 0 rfl rfl, tb_3 145 rfl rfl⟩, by decide +kernel, by decide +kernel, by decide +kernel⟩
set_option maxRecDepth 20000 in
theorem s_L_72 : CSV RL 72 yX3_hide RX3 cX3_hide 2 (none : Option Jvm.ClassFile.FieldType) 1 := ⟨⟨tb_3 146 rfl rfl, tb_3 147 rfl rfl, tb_3 148 rfl rfl, tb_1 1 rfl rfl, tb_3 149 rfl rfl⟩, rfl, by decide +kernel, by decide +kernel, by decide +kernel⟩
set_option maxRecDepth 20000 in
theorem k_X3_154 : Cond.constant RX3 154 (65536) ∈ TB := tb_3 150 rfl rfl
set_option maxRecDepth 20000 in
theorem s_L_86 : CSV RL 86 yX3_rodeo RX3 cX3_rodeo 8 (some .int) 7 := ⟨⟨tb_3 155 rfl rfl, tb_3 156 rfl rfl, tb_3 157 rfl rfl, tb_1 1 rfl rfl, tb_3 158 rfl rfl⟩, rfl, by decide +kernel, by decide +kernel, by decide +kernel⟩
set_option maxRecDepth 20000 in
theorem k_X3_65 : Cond.constant RX3 65 (99999) ∈ TB := tb_3 161 rfl rfl
set_option maxRecDepth 20000 in
theorem s_X3_72 : CSI RX3 72 yX2_init cX2_init 8 7 := ⟨⟨tb_3 165 rfl rfl, tb_3 166 rfl rfl, tb_1 20 rfl rfl, tb_3 167 rfl rfl⟩, rfl, by decide +kernel, by decide +kernel, by decide +kernel⟩
set_option maxRecDepth 20000 in
theorem o_X2_3 : Cond.methodLink RX2 3 objectInit ∈ TB ∧ Cond.instanceMethod objectInit ∈ TB ∧ Cond.code objectInit ⟨#[0xb1]⟩ 1 none ∈ TB := ⟨tb_3 168 rfl rfl, tb_1 28 rfl rfl, tb_1 29 rfl rfl⟩
set_option maxRecDepth 20000 in
theorem s_X2_35 : CSI RX2 35 yJx4a65c_init_da8c8 cJx4a65c_init_da8c8 1 0 := ⟨⟨tb_3 170 rfl rfl, tb_1 33 rfl rfl, tb_1 4 rfl rfl, tb_1 34 rfl rfl⟩, rfl, by decide +kernel, by decide +kernel, by decide +kernel⟩
set_option maxRecDepth 20000 in
theorem f_X2_9 : FG RX2 9 3 0 RX2 TX2 11 := ⟨rfl, inT_X2, by decide, tb_3 172 rfl rfl⟩
theorem p_X2_9 : FP RX2 9 3 0 RX2 TX2 11 .int := ⟨f_X2_9, ⟨tyX2, tyX2_ok⟩, nmX2, by decide +kernel⟩
set_option maxRecDepth 20000 in
theorem f_X3_297 : FG RX3 297 3 0 RX2 TX2 11 := ⟨rfl, inT_X2, by decide, tb_3 173 rfl rfl⟩
set_option maxRecDepth 20000 in
theorem f_X2_15 : FG RX2 15 3 1 RX2 TX2 11 := ⟨rfl, inT_X2, by decide, tb_3 174 rfl rfl⟩
theorem p_X2_15 : FP RX2 15 3 1 RX2 TX2 11 .int := ⟨f_X2_15, ⟨tyX2, tyX2_ok⟩, nmX2, by decide +kernel⟩
set_option maxRecDepth 20000 in
theorem f_X3_290 : FG RX3 290 3 1 RX2 TX2 11 := ⟨rfl, inT_X2, by decide, tb_3 175 rfl rfl⟩
set_option maxRecDepth 20000 in
theorem f_X2_18 : FG RX2 18 3 2 RX2 TX2 11 := ⟨rfl, inT_X2, by decide, tb_3 176 rfl rfl⟩
theorem p_X2_18 : FP RX2 18 3 2 RX2 TX2 11 .int := ⟨f_X2_18, ⟨tyX2, tyX2_ok⟩, nmX2, by decide +kernel⟩
set_option maxRecDepth 20000 in
theorem f_X2_21 : FG RX2 21 3 3 RX2 TX2 11 := ⟨rfl, inT_X2, by decide, tb_3 177 rfl rfl⟩
theorem p_X2_21 : FP RX2 21 3 3 RX2 TX2 11 .int := ⟨f_X2_21, ⟨tyX2, tyX2_ok⟩, nmX2, by decide +kernel⟩
set_option maxRecDepth 20000 in
theorem f_X3_100 : FG RX3 100 3 3 RX2 TX2 11 := ⟨rfl, inT_X2, by decide, tb_3 178 rfl rfl⟩
set_option maxRecDepth 20000 in
theorem f_X2_24 : FG RX2 24 3 4 RX2 TX2 11 := ⟨rfl, inT_X2, by decide, tb_3 179 rfl rfl⟩
theorem p_X2_24 : FP RX2 24 3 4 RX2 TX2 11 .int := ⟨f_X2_24, ⟨tyX2, tyX2_ok⟩, nmX2, by decide +kernel⟩
set_option maxRecDepth 20000 in
theorem f_X3_135 : FG RX3 135 3 4 RX2 TX2 11 := ⟨rfl, inT_X2, by decide, tb_3 180 rfl rfl⟩
set_option maxRecDepth 20000 in
theorem f_X2_27 : FG RX2 27 3 5 RX2 TX2 11 := ⟨rfl, inT_X2, by decide, tb_3 181 rfl rfl⟩
theorem p_X2_27 : FP RX2 27 3 5 RX2 TX2 11 .int := ⟨f_X2_27, ⟨tyX2, tyX2_ok⟩, nmX2, by decide +kernel⟩
set_option maxRecDepth 20000 in
theorem f_X2_30 : FG RX2 30 3 6 RX2 TX2 11 := ⟨rfl, inT_X2, by decide, tb_3 182 rfl rfl⟩
theorem p_X2_30 : FP RX2 30 3 6 RX2 TX2 11 .int := ⟨f_X2_30, ⟨tyX2, tyX2_ok⟩, nmX2, by decide +kernel⟩
set_option maxRecDepth 20000 in
theorem f_X2_36 : FG RX2 36 3 7 RX2 TX2 11 := ⟨rfl, inT_X2, by decide, tb_3 183 rfl rfl⟩
theorem p_X2_36 : FP RX2 36 3 7 RX2 TX2 11 (.object "java/util/ArrayList") := ⟨f_X2_36, ⟨tyX2, tyX2_ok⟩, nmX2, by decide +kernel⟩
set_option maxRecDepth 20000 in
theorem f_X3_82 : FG RX3 82 3 7 RX2 TX2 11 := ⟨rfl, inT_X2, by decide, tb_3 184 rfl rfl⟩
set_option maxRecDepth 20000 in
theorem f_X2_42 : FG RX2 42 3 8 RX2 TX2 11 := ⟨rfl, inT_X2, by decide, tb_3 185 rfl rfl⟩
theorem p_X2_42 : FP RX2 42 3 8 RX2 TX2 11 (.array (.object "RankStock$Entry")) := ⟨f_X2_42, ⟨tyX2, tyX2_ok⟩, nmX2, by decide +kernel⟩
set_option maxRecDepth 20000 in
theorem f_X2_46 : FG RX2 46 3 9 RX2 TX2 11 := ⟨rfl, inT_X2, by decide, tb_3 186 rfl rfl⟩
theorem p_X2_46 : FP RX2 46 3 9 RX2 TX2 11 .int := ⟨f_X2_46, ⟨tyX2, tyX2_ok⟩, nmX2, by decide +kernel⟩
set_option maxRecDepth 20000 in
theorem f_X3_79 : FG RX3 79 3 9 RX2 TX2 11 := ⟨rfl, inT_X2, by decide, tb_3 187 rfl rfl⟩
theorem p_X3_79 : FP RX3 79 3 9 RX2 TX2 11 .int := ⟨f_X3_79, ⟨tyX2, tyX2_ok⟩, nmX2, by decide +kernel⟩
set_option maxRecDepth 20000 in
theorem f_X3_91 : FG RX3 91 3 10 RX2 TX2 11 := ⟨rfl, inT_X2, by decide, tb_3 188 rfl rfl⟩
set_option maxRecDepth 20000 in
theorem f_X2_111 : FG RX2 111 3 10 RX2 TX2 11 := ⟨rfl, inT_X2, by decide, tb_3 189 rfl rfl⟩
theorem p_X2_111 : FP RX2 111 3 10 RX2 TX2 11 .int := ⟨f_X2_111, ⟨tyX2, tyX2_ok⟩, nmX2, by decide +kernel⟩
set_option maxRecDepth 20000 in
theorem s_L_90 : CSV RL 90 yX3_ride RX3 cX3_ride 10 (some .int) 5 := ⟨⟨tb_3 216 rfl rfl, tb_3 217 rfl rfl, tb_3 218 rfl rfl, tb_1 1 rfl rfl, tb_3 219 rfl rfl⟩, rfl, by decide +kernel, by decide +kernel, by decide +kernel⟩
set_option maxRecDepth 20000 in
theorem k_X3_165 : Cond.constant RX3 165 (456975) ∈ TB := tb_3 220 rfl rfl
set_option maxRecDepth 20000 in
theorem k_X3_166 : Cond.constant RX3 166 (999999) ∈ TB := tb_3 221 rfl rfl
set_option maxRecDepth 20000 in
theorem s_X3_175 : CSS RX3 175 yX3_markAt cX3_markAt 4 (some .int) 2 := ⟨⟨tb_3 224 rfl rfl, tb_3 225 rfl rfl, tb_1 1 rfl rfl, tb_3 226 rfl rfl⟩, by decide +kernel, by decide +kernel, by decide +kernel⟩
set_option maxRecDepth 20000 in
theorem s_X3_178 : CSV RX3 178 yX1_takeRide RX1 cX1_takeRide 4 (none : Option Jvm.ClassFile.FieldType) 3 := ⟨⟨tb_3 227 rfl rfl, tb_3 228 rfl rfl, tb_3 229 rfl rfl, tb_1 18 rfl rfl, tb_3 230 rfl rfl⟩, rfl, by decide +kernel, by decide +kernel, by decide +kernel⟩
set_option maxRecDepth 20000 in
theorem s_L_101 : CSS RL 101 yL_draw cL_draw 2 (some .int) 2 := ⟨⟨tb_3 231 rfl rfl, tb_3 232 rfl rfl, tb_1 0 rfl rfl, tb_3 233 rfl rfl⟩, by decide +kernel, by decide +kernel, by decide +kernel⟩
set_option maxRecDepth 20000 in
theorem k_L_94 : Cond.constant RL 94 (3850017) ∈ TB := tb_3 234 rfl rfl
set_option maxRecDepth 20000 in
theorem k_L_95 : Cond.constant RL 95 (172081) ∈ TB := tb_3 235 rfl rfl
set_option maxRecDepth 20000 in
theorem s_L_122 : CSS RL 122 yL_isPlace cL_isPlace 9 (some .boolean) 3 := ⟨⟨tb_3 236 rfl rfl, tb_3 237 rfl rfl, tb_1 0 rfl rfl, tb_3 238 rfl rfl⟩, by decide +kernel, by decide +kernel, by decide +kernel⟩
set_option maxRecDepth 20000 in
theorem s_L_125 : CSS RL 125 yL_isRodeo cL_isRodeo 7 (some .boolean) 3 := ⟨⟨tb_3 239 rfl rfl, tb_4 0 rfl rfl, tb_1 0 rfl rfl, tb_4 1 rfl rfl⟩, by decide +kernel, by decide +kernel, by decide +kernel⟩
set_option maxRecDepth 20000 in
theorem s_L_114 : CSS RL 114 yL_areRanks cL_areRanks 10 (some .boolean) 3 := ⟨⟨tb_4 2 rfl rfl, tb_4 3 rfl rfl, tb_1 0 rfl rfl, tb_4 4 rfl rfl⟩, by decide +kernel, by decide +kernel, by decide +kernel⟩
set_option maxRecDepth 20000 in
theorem k_L_96 : Cond.constant RL 96 (1000000000) ∈ TB := tb_4 5 rfl rfl
set_option maxRecDepth 20000 in
theorem k_L_104 : Cond.constant RL 104 (134217727) ∈ TB := tb_4 6 rfl rfl
set_option maxRecDepth 20000 in
theorem k_L_108 : Cond.constant RL 108 (456976) ∈ TB := tb_4 7 rfl rfl
set_option maxRecDepth 20000 in
theorem k_L_109 : Cond.constant RL 109 (900900) ∈ TB := tb_4 8 rfl rfl
set_option maxRecDepth 20000 in
theorem k_L_113 : Cond.constant RL 113 (65537) ∈ TB := tb_4 9 rfl rfl
set_option maxRecDepth 20000 in
theorem l_L_8 : Cond.classLink RL 8 RX3 ∈ TB := tb_1 22 rfl rfl
set_option maxRecDepth 20000 in
theorem l_X3_9 : Cond.classLink RX3 9 RJx4a65c ∈ TB := tb_1 30 rfl rfl
set_option maxRecDepth 20000 in
theorem l_X3_200 : Cond.classLink RX3 200 "java/lang/IndexOutOfBoundsException" ∈ TB := tb_1 81 rfl rfl
set_option maxRecDepth 20000 in
theorem l_X3_70 : Cond.classLink RX3 70 RX2 ∈ TB := tb_1 163 rfl rfl
set_option maxRecDepth 20000 in
theorem l_X2_40 : Cond.classLink RX2 40 RX1 ∈ TB := tb_1 174 rfl rfl
set_option maxRecDepth 20000 in
theorem l_X3_30 : Cond.classLink RX3 30 "java/lang/IllegalArgumentException" ∈ TB := tb_1 180 rfl rfl
set_option maxRecDepth 20000 in
theorem l_X3_113 : Cond.classLink RX3 113 RX1 ∈ TB := tb_1 227 rfl rfl
set_option maxRecDepth 20000 in
theorem l_X3_46 : Cond.classLink RX3 46 RX0 ∈ TB := tb_2 34 rfl rfl
set_option maxRecDepth 20000 in
theorem l_L_80 : Cond.classLink RL 80 "java/lang/IndexOutOfBoundsException" ∈ TB := tb_2 68 rfl rfl
set_option maxRecDepth 20000 in
theorem l_L_82 : Cond.classLink RL 82 "java/lang/IllegalArgumentException" ∈ TB := tb_2 69 rfl rfl
set_option maxRecDepth 20000 in
theorem l_L_84 : Cond.classLink RL 84 "java/lang/IllegalStateException" ∈ TB := tb_2 70 rfl rfl
set_option maxRecDepth 20000 in
theorem l_X3_41 : Cond.classLink RX3 41 "java/lang/IllegalStateException" ∈ TB := tb_2 82 rfl rfl
set_option maxRecDepth 20000 in
theorem l_J7_110 : Cond.classLink RJ7 110 "[Ljava/lang/Object;" ∈ TB := tb_2 177 rfl rfl
set_option maxRecDepth 20000 in
theorem l_J7_2 : Cond.classLink RJ7 2 "java/lang/Object" ∈ TB := tb_2 179 rfl rfl
set_option maxRecDepth 20000 in
theorem l_Jx4a65c_7 : Cond.classLink RJx4a65c 7 "java/lang/Object" ∈ TB := tb_2 185 rfl rfl
set_option maxRecDepth 20000 in
theorem l_X2_33 : Cond.classLink RX2 33 RJx4a65c ∈ TB := tb_3 169 rfl rfl
set_option maxRecDepth 20000 in
theorem it_L : Cond.initialized RL ∈ TB := tb_1 0 rfl rfl
set_option maxRecDepth 20000 in
theorem it_X3 : Cond.initialized RX3 ∈ TB := tb_1 1 rfl rfl
set_option maxRecDepth 20000 in
theorem it_Jxa1e45 : Cond.initialized RJxa1e45 ∈ TB := tb_1 2 rfl rfl
set_option maxRecDepth 20000 in
theorem it_Jxc12de : Cond.initialized RJxc12de ∈ TB := tb_1 3 rfl rfl
set_option maxRecDepth 20000 in
theorem it_Jx4a65c : Cond.initialized RJx4a65c ∈ TB := tb_1 4 rfl rfl
set_option maxRecDepth 20000 in
theorem it_X0 : Cond.initialized RX0 ∈ TB := tb_1 10 rfl rfl
set_option maxRecDepth 20000 in
theorem it_J8 : Cond.initialized RJ8 ∈ TB := tb_1 11 rfl rfl
set_option maxRecDepth 20000 in
theorem it_J9 : Cond.initialized RJ9 ∈ TB := tb_1 12 rfl rfl
set_option maxRecDepth 20000 in
theorem it_J7 : Cond.initialized RJ7 ∈ TB := tb_1 13 rfl rfl
set_option maxRecDepth 20000 in
theorem it_J10 : Cond.initialized RJ10 ∈ TB := tb_1 14 rfl rfl
set_option maxRecDepth 20000 in
theorem it_J15 : Cond.initialized RJ15 ∈ TB := tb_1 16 rfl rfl
set_option maxRecDepth 20000 in
theorem it_J3 : Cond.initialized RJ3 ∈ TB := tb_1 17 rfl rfl
set_option maxRecDepth 20000 in
theorem it_X1 : Cond.initialized RX1 ∈ TB := tb_1 18 rfl rfl
set_option maxRecDepth 20000 in
theorem it_J6 : Cond.initialized RJ6 ∈ TB := tb_1 19 rfl rfl
set_option maxRecDepth 20000 in
theorem it_X2 : Cond.initialized RX2 ∈ TB := tb_1 20 rfl rfl
set_option maxRecDepth 20000 in
theorem it_J13 : Cond.initialized RJ13 ∈ TB := tb_1 21 rfl rfl
set_option maxRecDepth 20000 in
theorem in_X3 : Cond.instantiable RX3 4 ∈ TB := tb_1 23 rfl rfl
set_option maxRecDepth 20000 in
theorem in_Jx4a65c : Cond.instantiable RJx4a65c 3 ∈ TB := tb_1 31 rfl rfl
set_option maxRecDepth 20000 in
theorem in_X0 : Cond.instantiable RX0 7 ∈ TB := tb_2 98 rfl rfl
set_option maxRecDepth 20000 in
theorem in_X1 : Cond.instantiable RX1 11 ∈ TB := tb_2 201 rfl rfl
set_option maxRecDepth 20000 in
theorem in_X2 : Cond.instantiable RX2 11 ∈ TB := tb_3 164 rfl rfl
set_option maxRecDepth 20000 in
theorem ac_int : Cond.arrayClass .int ∈ TB := tb_4 28 rfl rfl
