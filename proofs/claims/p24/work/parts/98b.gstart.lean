/-! the start of the law: what the statement gives -/
set_option maxRecDepth 20000 in
theorem lt_1 (i : Nat) {w : Cond} (h : tables_1_1[i]? = some w) : w ∈ lw_tbl := List.mem_append_right _ (List.mem_append_left _ (List.mem_of_getElem? h))
theorem lt_2 (i : Nat) {w : Cond} (h : tables_1_2[i]? = some w) : w ∈ lw_tbl := List.mem_append_right _ (List.mem_append_right _ (List.mem_append_left _ (List.mem_of_getElem? h)))
theorem lt_3 (i : Nat) {w : Cond} (h : tables_1_3[i]? = some w) : w ∈ lw_tbl := List.mem_append_right _ (List.mem_append_right _ (List.mem_append_right _ (List.mem_append_left _ (List.mem_of_getElem? h))))
theorem lt_4 (i : Nat) {w : Cond} (h : tables_1_4[i]? = some w) : w ∈ lw_tbl := List.mem_append_right _ (List.mem_append_right _ (List.mem_append_right _ (List.mem_append_right _ (List.mem_of_getElem? h))))
theorem eqi_g {args : Array Value} {s : State} {tm : Term} {z : Int32} (h : (Cond.eq tm (.int z)).before args s = true) : tm.eval args s none [] s = some (.int z) := by
  cases hv : tm.eval args s none [] s with
  | none => simp [Cond.before, Cond.holds, Cond.value, hv] at h
  | some w =>
    have hz : (Term.int z).eval args s none [] s = some (.int z) := rfl
    simp only [Cond.before, Cond.holds, Cond.value, hv, hz] at h
    cases w <;> simp_all
theorem str_of {args : Array Value} {s : State} {own tx : String} {k : Nat} (h1 : (Cond.stringRef own k tx).before args s = true) (h2 : (Cond.exactly (.string own k) "java/lang/String").before args s = true) : ∃ a, vk_R own k tx a s := by
  obtain ⟨a, c, cell, kk, h3, -⟩ := Cond.exactly_spec h2
  exact ⟨a, vk_R.of h1 h3⟩
theorem arr_p {args : Array Value} {s : State} {ty : FieldType} (h : (Cond.arrayClass ty).before args s = true) (hR : ∀ cA, s.vm.findClass ("[" ++ ty.toString) = some cA → va_RA s cA ty) (hne : ∀ C, ty ≠ .object C) : ∃ cA, ArrOfT s cA ty ∧ va_RA s cA ty := by
  obtain ⟨c, k, comp, h1, h2, h3⟩ := Cond.arrayClass_spec h
  exact ⟨c, fun N z => ⟨(fun k9 h9 => by cases h9), k, h2, comp, h3⟩, hR c h1⟩
theorem arr_o {args : Array Value} {s : State} {C : String} (h : (Cond.arrayOver (.object C)).before args s = true) : ∃ cA, ArrOfT s cA (.object C) ∧ va_RA s cA (.object C) := by
  obtain ⟨comp, c, k, h1, h2, h3, h4, h5⟩ := Cond.arrayOver_spec h
  exact ⟨c, fun N z => ⟨(fun k9 h9 => by cases h9), k, h3, comp, h4⟩, k, comp, h3, h4, h1, h5⟩
set_option maxRecDepth 100000 in
set_option maxHeartbeats 4000000 in
theorem GG_start {p : Program} {s : State} {m : MethodId} {meth : Method} {c : Code} {b L : Nat} {xs : Nat → Int32} (C0 : lw_At p s m meth c b L xs) : ∃ g : GP, gB g = s.heap.size ∧ gXb g = b ∧ gXn g = L ∧ GG g s := by
  obtain ⟨-, -, -, -, -, hts, hXs, hbl, -, hgv⟩ := C0
  have hg := flat_of_before _ hgv
  have hA : ∀ a : Nat, a < s.heap.size → ¬ s.heap.size ≤ a := fun a h => Nat.not_le.mpr h
  have hTB : ∀ w ∈ TB, w.before #[Value.ref b] s = true := fun w hw => hts w (List.mem_filter.mp hw).1
  obtain ⟨c0, i0, k0⟩ := u_known (C := RJx4a65c) (T := TJx4a65c) (N := 3) (n := 3) hTB inT_Jx4a65c (hts (.instantiable RJx4a65c 3) (lt_1 31 rfl))
  obtain ⟨c1, i1, k1⟩ := u_known (C := RX0) (T := TX0) (N := 7) (n := 7) hTB inT_X0 (hts (.instantiable RX0 7) (lt_2 98 rfl))
  obtain ⟨c2, i2, k2⟩ := u_known (C := RX1) (T := TX1) (N := 11) (n := 11) hTB inT_X1 (hts (.instantiable RX1 11) (lt_2 201 rfl))
  obtain ⟨c3, i3, k3⟩ := u_known (C := RX2) (T := TX2) (N := 11) (n := 11) hTB inT_X2 (hts (.instantiable RX2 11) (lt_3 164 rfl))
  obtain ⟨c4, i4, k4⟩ := u_known (C := RX3) (T := TX3) (N := 4) (n := 4) hTB inT_X3 (hts (.instantiable RX3 4) (lt_1 23 rfl))
  obtain ⟨d0, e0, f0⟩ := arr_p (hTB _ ac_int) (fun _ h => h) (fun C z => by cases z)
  have o3 : (Cond.arrayOver (.object "java/lang/Object")).before #[Value.ref b] s = true := hts _ (lt_2 178 rfl)
  obtain ⟨d3, e3, f3⟩ := arr_o o3
  have o4 : (Cond.arrayOver (.object "RankStock$Entry")).before #[Value.ref b] s = true := hts _ (lt_3 171 rfl)
  obtain ⟨d4, e4, f4⟩ := arr_o o4
  obtain ⟨t0, v0, z0⟩ := va_Tof (tm := .static "java/util/ArrayList" "DEFAULTCAPACITY_EMPTY_ELEMENTDATA" "[Ljava/lang/Object;") (ty := .object "java/lang/Object") (N := 0) (f := fun _ => .null) (by decide) (hg _ (by decide +kernel)) (eqi_g (hg (.eq (.length (.static "java/util/ArrayList" "DEFAULTCAPACITY_EMPTY_ELEMENTDATA" "[Ljava/lang/Object;")) (.int 0)) (by decide +kernel))) (fun j hj => absurd hj (Nat.not_lt_zero _)) hA
  obtain ⟨t1, v1, z1⟩ := va_Tof (tm := .static "RankStock" "HUNDREDTHS" "[I") (ty := .int) (N := 4) (f := hundV) (by decide) (hg _ (by decide +kernel)) (eqi_g (hg (.eq (.length (.static "RankStock" "HUNDREDTHS" "[I")) (.int 4)) (by decide +kernel))) (fun j hj => by
    have : j = 0 ∨ j = 1 ∨ j = 2 ∨ j = 3 := by omega
    rcases this with rfl | rfl | rfl | rfl
    · exact eqi_g (hg (.eq (.elem (.static "RankStock" "HUNDREDTHS" "[I") (.int 0)) (.int 40)) (by decide +kernel))
    · exact eqi_g (hg (.eq (.elem (.static "RankStock" "HUNDREDTHS" "[I") (.int 1)) (.int 30)) (by decide +kernel))
    · exact eqi_g (hg (.eq (.elem (.static "RankStock" "HUNDREDTHS" "[I") (.int 2)) (.int 20)) (by decide +kernel))
    · exact eqi_g (hg (.eq (.elem (.static "RankStock" "HUNDREDTHS" "[I") (.int 3)) (.int 10)) (by decide +kernel))) hA
  have y0 := va_Zof (hts (.laysStatic "java/util/ArrayList" "DEFAULTCAPACITY_EMPTY_ELEMENTDATA" "[Ljava/lang/Object;") (lt_1 43 rfl)) (hTB _ it_Jx4a65c) v0 hA
  have y1 := va_Zof (hts (.laysStatic "RankStock" "HUNDREDTHS" "[I") (lt_3 96 rfl)) (hTB _ it_X3) v1 hA
  have y2 : vx_Zq Bundle.tN "UNASSIGNED_STACK" Bundle.steD (fun q => s.heap.size ≤ q) s s.heap := vx_Zqof (hts (.laysStatic "java/lang/Throwable" "UNASSIGNED_STACK" "[Ljava/lang/StackTraceElement;") (lt_1 108 rfl)) (hts (.initialized "java/lang/Throwable") (lt_1 5 rfl)) (hg _ (by decide +kernel)) hA
  have y3 : vx_Zq Bundle.tN "SUPPRESSED_SENTINEL" Bundle.listD (fun q => s.heap.size ≤ q) s s.heap := vx_Zqof (hts (.laysStatic "java/lang/Throwable" "SUPPRESSED_SENTINEL" "Ljava/util/List;") (lt_1 110 rfl)) (hts (.initialized "java/lang/Throwable") (lt_1 5 rfl)) (hg _ (by decide +kernel)) hA
  obtain ⟨mi, hmi⟩ := va_Mi.of (C := "[Ljava/lang/Object;") (hg _ (by decide +kernel))
  refine ⟨((fun k => if k = 0 then c0 else if k = 1 then c1 else if k = 2 then c2 else if k = 3 then c3 else c4, fun k => if k = 0 then i0 else if k = 1 then i1 else if k = 2 then i2 else if k = 3 then i3 else i4), fun k => if k = 0 then d0 else if k = 3 then d3 else d4, s.heap.size, fun k => if k = 0 then t0 else if k = 1 then t1 else mi, b, L, xs), rfl, rfl, rfl, Nat.le_refl _, ⟨y0, z0, y1, z1, y2, y3, hXs, hA b hbl⟩, ⟨fun k q hq => ?_, fun k q hq => ?_⟩, fun q hq => ?_, fun q hq => ?_, fun x9 hx9 => ?_, fun q hq => ?_, ?_, ?_, ?_, ?_, hmi⟩
  · match k, hq with
    | 0, hq => cases hq; exact k0
    | 1, hq => cases hq; exact k1
    | 2, hq => cases hq; exact k2
    | 3, hq => cases hq; exact k3
    | 4, hq => cases hq; exact k4
    | k + 5, hq => simp [vwCl] at hq
  · match k, hq with
    | 0, hq => cases hq; exact ⟨e0, f0⟩
    | 1, hq => cases hq; exact ⟨e3, f3⟩
    | 2, hq => cases hq; exact ⟨e3, f3⟩
    | 3, hq => cases hq; exact ⟨e3, f3⟩
    | 4, hq => cases hq; exact ⟨e4, f4⟩
    | k + 5, hq => simp [tysL] at hq
  · unfold SRl at hq
    rcases List.mem_cons.mp hq with rfl | hq
    · exact str_of (hts (.stringRef "RankStock" 32 "no such kind") (lt_2 81 rfl)) (hg _ (by decide +kernel))
    rcases List.mem_cons.mp hq with rfl | hq
    · exact str_of (hts (.stringRef "RankStock" 43 "no more beasts") (lt_2 91 rfl)) (hg _ (by decide +kernel))
    rcases List.mem_cons.mp hq with rfl | hq
    · exact str_of (hts (.stringRef "RankStock" 55 "no more riders") (lt_2 190 rfl)) (hg _ (by decide +kernel))
    rcases List.mem_cons.mp hq with rfl | hq
    · exact str_of (hts (.stringRef "RankStock" 61 "kind, mile or first day") (lt_3 159 rfl)) (hg _ (by decide +kernel))
    rcases List.mem_cons.mp hq with rfl | hq
    · exact str_of (hts (.stringRef "RankStock" 63 "performances or places") (lt_3 160 rfl)) (hg _ (by decide +kernel))
    rcases List.mem_cons.mp hq with rfl | hq
    · exact str_of (hts (.stringRef "RankStock" 66 "money added or fee") (lt_3 162 rfl)) (hg _ (by decide +kernel))
    rcases List.mem_cons.mp hq with rfl | hq
    · exact str_of (hts (.stringRef "RankStock" 68 "no more rodeos") (lt_3 163 rfl)) (hg _ (by decide +kernel))
    rcases List.mem_cons.mp hq with rfl | hq
    · exact str_of (hts (.stringRef "RankStock" 254 "no such rodeo") (lt_1 122 rfl)) (hg _ (by decide +kernel))
    rcases List.mem_cons.mp hq with rfl | hq
    · exact str_of (hts (.stringRef "RankStock" 94 "no such question") (lt_1 189 rfl)) (hg _ (by decide +kernel))
    rcases List.mem_cons.mp hq with rfl | hq
    · exact str_of (hts (.stringRef "RankStock" 256 "no such rider") (lt_1 208 rfl)) (hg _ (by decide +kernel))
    rcases List.mem_cons.mp hq with rfl | hq
    · exact str_of (hts (.stringRef "RankStock" 103 "no such set of performances") (lt_2 198 rfl)) (hg _ (by decide +kernel))
    rcases List.mem_cons.mp hq with rfl | hq
    · exact str_of (hts (.stringRef "RankStock" 109 "the wish is not in the set") (lt_2 199 rfl)) (hg _ (by decide +kernel))
    rcases List.mem_cons.mp hq with rfl | hq
    · exact str_of (hts (.stringRef "RankStock" 111 "not open, or entered by that rider") (lt_2 200 rfl)) (hg _ (by decide +kernel))
    rcases List.mem_cons.mp hq with rfl | hq
    · exact str_of (hts (.stringRef "RankStock" 122 "not open") (lt_3 25 rfl)) (hg _ (by decide +kernel))
    rcases List.mem_cons.mp hq with rfl | hq
    · exact str_of (hts (.stringRef "RankStock" 155 "no such hidden number") (lt_3 151 rfl)) (hg _ (by decide +kernel))
    rcases List.mem_cons.mp hq with rfl | hq
    · exact str_of (hts (.stringRef "RankStock" 157 "not closed") (lt_3 39 rfl)) (hg _ (by decide +kernel))
    rcases List.mem_cons.mp hq with rfl | hq
    · exact str_of (hts (.stringRef "RankStock" 167 "marks or watches") (lt_3 222 rfl)) (hg _ (by decide +kernel))
    rcases List.mem_cons.mp hq with rfl | hq
    · exact str_of (hts (.stringRef "RankStock" 173 "no beast to be ridden") (lt_3 223 rfl)) (hg _ (by decide +kernel))
    rcases List.mem_cons.mp hq with rfl | hq
    · exact str_of (hts (.stringRef "RankStock" 188 "no re-ride is offered") (lt_3 73 rfl)) (hg _ (by decide +kernel))
    rcases List.mem_cons.mp hq with rfl | hq
    · exact str_of (hts (.stringRef "RankStock" 202 "no such beast") (lt_2 33 rfl)) (hg _ (by decide +kernel))
    rcases List.mem_cons.mp hq with rfl | hq
    · exact str_of (hts (.stringRef "RankStock" 225 "cannot be paid") (lt_3 86 rfl)) (hg _ (by decide +kernel))
    rcases List.mem_cons.mp hq with rfl | hq
    · exact str_of (hts (.stringRef "RankStock" 243 "no such rank") (lt_3 129 rfl)) (hg _ (by decide +kernel))
    cases hq
  · unfold CCl at hq
    rcases List.mem_cons.mp hq with rfl | hq
    · exact va_Nw.of rfl (hts _ (lt_1 182 rfl))
    rcases List.mem_cons.mp hq with rfl | hq
    · exact va_Nw.of rfl (hts _ (lt_2 84 rfl))
    rcases List.mem_cons.mp hq with rfl | hq
    · exact va_Nw.of rfl (hts _ (lt_1 83 rfl))
    rcases List.mem_cons.mp hq with rfl | hq
    · exact va_Nw.of rfl (hts _ (lt_4 16 rfl))
    rcases List.mem_cons.mp hq with rfl | hq
    · exact va_Nw.of rfl (hts _ (lt_4 11 rfl))
    rcases List.mem_cons.mp hq with rfl | hq
    · exact va_Nw.of rfl (hts _ (lt_4 18 rfl))
    cases hq
  · unfold DCl at hx9
    rcases List.mem_cons.mp hx9 with rfl | hx9
    · exact va_Nw.of rfl (hts _ (lt_1 84 rfl))
    rcases List.mem_cons.mp hx9 with rfl | hx9
    · exact va_Nw.of rfl (hts _ (lt_1 85 rfl))
    rcases List.mem_cons.mp hx9 with rfl | hx9
    · exact va_Nw.of rfl (hts _ (lt_1 86 rfl))
    rcases List.mem_cons.mp hx9 with rfl | hx9
    · exact va_Nw.of rfl (hts _ (lt_1 87 rfl))
    rcases List.mem_cons.mp hx9 with rfl | hx9
    · exact va_Nw.of rfl (hts _ (lt_1 88 rfl))
    rcases List.mem_cons.mp hx9 with rfl | hx9
    · exact va_Nw.of rfl (hts _ (lt_1 89 rfl))
    rcases List.mem_cons.mp hx9 with rfl | hx9
    · exact va_Nw.of rfl (hts _ (lt_4 23 rfl))
    cases hx9
  · unfold NCl at hq
    rcases List.mem_cons.mp hq with rfl | hq
    · exact va_Nc.of (hg _ (by decide +kernel))
    rcases List.mem_cons.mp hq with rfl | hq
    · exact va_Nc.of (hg _ (by decide +kernel))
    rcases List.mem_cons.mp hq with rfl | hq
    · exact va_Nc.of (hg _ (by decide +kernel))
    rcases List.mem_cons.mp hq with rfl | hq
    · exact va_Nc.of (hg _ (by decide +kernel))
    rcases List.mem_cons.mp hq with rfl | hq
    · exact va_Nc.of (hg _ (by decide +kernel))
    rcases List.mem_cons.mp hq with rfl | hq
    · exact va_Nc.of (hg _ (by decide +kernel))
    cases hq
  · exact va_Nw.of rfl (hts _ (lt_3 95 rfl))
  · exact va_Nw.of rfl (hts _ (lt_3 101 rfl))
  · exact va_AO.of o3
  · exact va_AO.of o4
