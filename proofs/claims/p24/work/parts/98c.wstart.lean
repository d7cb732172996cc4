/-! the law from its entry -/
def stI : ST := (fun k _ => if k = 30 then 1 else 0, fun _ _ => 0, fun _ => 0)
theorem df_X3 : ∀ j, j < 4 → defaultValue (tyX3 j) = vp_V [.null, .null, .int 0, .int 0] j := by
  intro j hj
  have : j = 0 ∨ j = 1 ∨ j = 2 ∨ j = 3 := by omega
  rcases this with rfl | rfl | rfl | rfl <;> rfl
theorem popN_0 : popN 0 = 0 := by decide
theorem Inv_st : Inv 0 stI := by
  have n1 : ¬ (0 : Int32) = -1 := by decide
  have z : ∀ k j, ¬ k = 30 → stI.1 k j = 0 := fun k j h => if_neg h
  have b0 : ∀ k j, ¬ k = 30 → ∀ q, stI.1 k j ≤ q := fun k j h q => by rw [z k j h]; exact Nat.zero_le _
  refine ⟨⟨Nat.zero_le _, Nat.zero_le _, Nat.zero_le _, fun r _ => ⟨Nat.zero_le _, Nat.zero_le _, Nat.zero_le _, Nat.zero_le _, Nat.zero_le _, Nat.zero_le _, Nat.zero_le _, Nat.zero_le _, Nat.zero_le _⟩, fun k _ => ⟨(show (0 : Nat) < 12 by decide), (show (0 : Nat) < 16 by decide), (show (0 : Nat) < 4 by decide), Nat.zero_le _, Nat.zero_le _, Nat.zero_le _, Nat.zero_le _, Nat.zero_le _⟩, fun k _ => ⟨Or.inr ⟨0, by decide, rfl⟩, Or.inr ⟨0, by decide, rfl⟩, Or.inr ⟨0, by decide, rfl⟩⟩, fun b _ => ⟨Nat.zero_le _, Nat.zero_le _, Nat.zero_le _, Nat.zero_le _⟩, by decide⟩,
    fun b => ⟨Nat.zero_le _, Nat.zero_le _, Nat.zero_le _⟩, fun r hr => absurd hr (Nat.not_lt_zero _), fun r j hr => absurd hr (Nat.not_lt_zero _), fun k _ h41 => absurd (show (0 : Nat) = 1 from h41) (by decide), fun b _ => ⟨rfl, rfl, rfl, rfl, rfl⟩, ⟨fun k _ h41 => absurd (show (0 : Nat) = 1 from h41) (by decide), fun r _ => ⟨rfl, rfl, rfl⟩⟩,
    fun k _ => ⟨rfl, rfl, rfl, rfl, rfl, fun h41 => absurd (show (0 : Nat) = 1 from h41) (by decide)⟩, fun r hr => absurd hr (Nat.not_lt_zero _), fun k _ h41 => absurd (show (0 : Nat) = 1 from h41) (by decide), fun r j hr => absurd hr (Nat.not_lt_zero _), fun r j hr => absurd hr (Nat.not_lt_zero _), fun q => Nat.zero_le _, fun b => popN_0, fun r j hr => absurd hr (Nat.not_lt_zero _), fun r j hr => absurd hr (Nat.not_lt_zero _), fun r j hr => absurd hr (Nat.not_lt_zero _), fun r j hr => absurd hr (Nat.not_lt_zero _)⟩
theorem CM_init {g : GP} {Mq M1 : MM} {q q1 q2 : Nat} (hC : PJ Mq 4 q [.ref q1, .ref q2, .int (nI 0), .int (nI 1)] [(q2, lE (nI 0) (nI 0) (gA g 0)), (q1, lE (nI 0) (nI 0) (gA g 0))] M1) : ∃ A : Nat → Nat, A 0 = q ∧ CM g A M1 stI M1 := by
  obtain ⟨c1, c2, -, c4, c5⟩ := hC
  have hq1 : M1 q1 = some (lE (nI 0) (nI 0) (gA g 0)) := c2 _ (List.mem_cons_of_mem _ List.mem_cons_self)
  have hq2 : M1 q2 = some (lE (nI 0) (nI 0) (gA g 0)) := c2 _ List.mem_cons_self
  have n1 : q1 ≠ q := (c4 _ (List.mem_cons_of_mem _ List.mem_cons_self)).1
  have n2 : q2 ≠ q := (c4 _ List.mem_cons_self).1
  have n12 : q2 ≠ q1 := (List.pairwise_cons.mp c5).1 _ List.mem_cons_self
  have hlv : ∀ c, lvB stI c = true → c = 0 ∨ c = 1 ∨ c = 3 := by
    intro c hc
    rcases lvB_iff.mp hc with h | h | ⟨-, h⟩ | h | ⟨-, h⟩ | ⟨b, -, h, -⟩ | ⟨r, -, h, -⟩ | ⟨r, -, h, -⟩ | ⟨r, -, h, -⟩ | ⟨r, -, h, -⟩ | ⟨k, -, -, h⟩
    · exact Or.inl h
    · exact Or.inr (Or.inl h)
    · exact absurd h (Nat.not_lt_zero _)
    · exact Or.inr (Or.inr h)
    · exact absurd h (Nat.not_lt_zero _)
    · exact absurd h (Nat.not_lt_zero _)
    · exact absurd h (Nat.not_lt_zero _)
    · exact absurd h (Nat.not_lt_zero _)
    · exact absurd h (Nat.not_lt_zero _)
    · exact absurd h (Nat.not_lt_zero _)
    · exact absurd (show (0 : Nat) = 1 from h) (by decide)
  refine ⟨fun c => if c = 0 then q else if c = 1 then q1 else q2, rfl, fun c hc => ?_, fun c c' hc hc' e => ?_, fun _ _ => rfl⟩
  · rcases hlv c hc with rfl | rfl | rfl
    · exact c1
    · exact hq1
    · exact hq2
  · rcases hlv c hc with rfl | rfl | rfl <;> rcases hlv c' hc' with rfl | rfl | rfl
    · rfl
    · exact absurd e n1.symm
    · exact absurd e n2.symm
    · exact absurd e n1
    · rfl
    · exact absurd e n12.symm
    · exact absurd e n2
    · exact absurd e n12
    · rfl
theorem JV_st : JV (stI.1 15) stI := ⟨fun r j hr => absurd hr (Nat.not_lt_zero _), fun r hr => absurd hr (Nat.not_lt_zero _), fun b => ⟨⟨Nat.zero_le _, Nat.zero_le _⟩, fun d h => by
  have h : bitL (0 : Int64) d = true := h
  rw [popN_z] at h
  cases h⟩⟩
set_option maxHeartbeats 4000000 in
set_option maxRecDepth 100000 in
theorem law_init {K : KX} {g : GP} {Q : State → Prop} {M M0 : MM} {A : Nat → Nat} {a b o : Nat} {hh9 : List (Nat × Nat × Nat × Nat)} (F : Fx K g cL_law RL 19 (some .boolean) hh9 14 566 600064 7301640) (hXn : gXn g ≤ 260) (ha : a ≤ 100) (hb : b ≤ 1000) (ho : A 0 = o) (hR : CM g A M0 stI M) (hJ : IJ 0 stI)  (hEnd : ∀ M a b L, a ≤ 600064 → b ≤ 7301640 → XW K g 19 Q M a b 1522 L []) : XW K g 19 Q M a b 8 [(1, .ref (o)), (0, .ref (gXb g))] [] := by
  have h6 := hJ.1.B.1
  have h7 := hJ.1.B.2.1
  have h18 := hJ.1.B.2.2.1
  refine x_iconst F (nI 0) dL_law_8 (by decide) ?_
  refine x_istore_n F [(2, .int (nI (0))), (1, .ref (o)), (0, .ref (gXb g))] dL_law_9 (by decide) rfl ?_
  refine x_iconst F (nI 0) dL_law_10 (by decide) ?_
  refine x_istore_n F [(3, .int (nI (0))), (2, .int (nI (0))), (1, .ref (o)), (0, .ref (gXb g))] dL_law_11 (by decide) rfl ?_
  refine x_iconst F (nI 0) dL_law_12 (by decide) ?_
  refine x_istore F [(4, .int (nI (0))), (3, .int (nI (0))), (2, .int (nI (0))), (1, .ref (o)), (0, .ref (gXb g))] dL_law_13 (by decide) rfl ?_
  refine x_iconst F (nI 0) dL_law_15 (by decide) ?_
  refine x_istore F [(5, .int (nI (0))), (4, .int (nI (0))), (3, .int (nI (0))), (2, .int (nI (0))), (1, .ref (o)), (0, .ref (gXb g))] dL_law_16 (by decide) rfl ?_
  refine x_iconst F (nI 1) dL_law_18 (by decide) ?_
  refine x_istore F [(6, .int (nI (1))), (5, .int (nI (0))), (4, .int (nI (0))), (3, .int (nI (0))), (2, .int (nI (0))), (1, .ref (o)), (0, .ref (gXb g))] dL_law_19 (by decide) rfl ?_
  refine x_aload_n F 6 dL_law_21 rfl ?_
  refine x_xlen F dL_law_22 ?_
  refine x_bipush F (nI 60) dL_law_23 (by decide) ?_
  refine x_icmp_ge F 34 dL_law_25 (by decide) (fun c25 => ?_) (fun c25 => ?_)
  · have c25 := (nI_leI (by omega) (by omega)).mp c25
    have c25b := Nat.not_lt.mpr c25
    refine x_aload_n F 6 dL_law_34 rfl ?_
    refine x_xlen F dL_law_35 ?_
    refine x_bipush F (nI 110) dL_law_36 (by decide) ?_
    refine x_icmp_ge F 48 dL_law_38 (by decide) (fun c38 => ?_) (fun c38 => ?_)
    · have c38 := (nI_leI (by omega) (by omega)).mp c38
      have c38b := Nat.not_lt.mpr c38
      refine x_sipush F (nI 330) dL_law_48 (by decide) ?_
      refine x_istore F [(7, .int (nI (330))), (6, .int (nI (1))), (5, .int (nI (0))), (4, .int (nI (0))), (3, .int (nI (0))), (2, .int (nI (0))), (1, .ref (o)), (0, .ref (gXb g))] dL_law_51 (by decide) rfl ?_
      refine x_iconst F (nI 0) dL_law_53 (by decide) ?_
      refine x_istore F [(8, .int (nI (0))), (7, .int (nI (330))), (6, .int (nI (1))), (5, .int (nI (0))), (4, .int (nI (0))), (3, .int (nI (0))), (2, .int (nI (0))), (1, .ref (o)), (0, .ref (gXb g))] dL_law_54 (by decide) rfl ?_
      refine x_widen (a' := 100 + 500 * 0) (b' := 1000 + 5000 * 0) (by omega) (by omega) ?_
      exact law_loop F hXn (by omega) hEnd 0 (Nat.zero_le _) A stI M M0 (nI 0) ho hR hJ
    · have c38 := mt (nI_leI (by omega) (by omega)).mpr c38
      have c38b := Nat.not_le.mp c38
      refine x_iconst F (nI 3) dL_law_41 (by decide) ?_
      refine x_aload_n F 6 dL_law_42 rfl ?_
      refine x_xlen F dL_law_43 ?_
      refine x_imulN F dL_law_44 ?_
      refine x_goto F 51 dL_law_45 (by decide) ?_
      refine x_istore F [(7, .int (nI (3 * (gXn g)))), (6, .int (nI (1))), (5, .int (nI (0))), (4, .int (nI (0))), (3, .int (nI (0))), (2, .int (nI (0))), (1, .ref (o)), (0, .ref (gXb g))] dL_law_51 (by decide) rfl ?_
      refine x_iconst F (nI 0) dL_law_53 (by decide) ?_
      refine x_istore F [(8, .int (nI (0))), (7, .int (nI (3 * (gXn g)))), (6, .int (nI (1))), (5, .int (nI (0))), (4, .int (nI (0))), (3, .int (nI (0))), (2, .int (nI (0))), (1, .ref (o)), (0, .ref (gXb g))] dL_law_54 (by decide) rfl ?_
      refine x_widen (a' := 100 + 500 * 0) (b' := 1000 + 5000 * 0) (by omega) (by omega) ?_
      exact law_loop F hXn (by omega) hEnd 0 (Nat.zero_le _) A stI M M0 (nI 0) ho hR hJ
  · have c25 := mt (nI_leI (by omega) (by omega)).mpr c25
    have c25b := Nat.not_le.mp c25
    refine x_sipush F (nI 260) dL_law_28 (by decide) ?_
    refine x_goto F 51 dL_law_31 (by decide) ?_
    refine x_istore F [(7, .int (nI (260))), (6, .int (nI (1))), (5, .int (nI (0))), (4, .int (nI (0))), (3, .int (nI (0))), (2, .int (nI (0))), (1, .ref (o)), (0, .ref (gXb g))] dL_law_51 (by decide) rfl ?_
    refine x_iconst F (nI 0) dL_law_53 (by decide) ?_
    refine x_istore F [(8, .int (nI (0))), (7, .int (nI (260))), (6, .int (nI (1))), (5, .int (nI (0))), (4, .int (nI (0))), (3, .int (nI (0))), (2, .int (nI (0))), (1, .ref (o)), (0, .ref (gXb g))] dL_law_54 (by decide) rfl ?_
    refine x_widen (a' := 100 + 500 * 0) (b' := 1000 + 5000 * 0) (by omega) (by omega) ?_
    exact law_loop F hXn (by omega) hEnd 0 (Nat.zero_le _) A stI M M0 (nI 0) ho hR hJ
set_option maxRecDepth 20000 in
theorem w_nL_8 : Cond.classLink RL 8 RX3 ∈ TB ∧ Cond.instantiable RX3 4 ∈ TB ∧ Cond.initialized RX3 ∈ TB := ⟨tb_1 22 rfl rfl, tb_1 23 rfl rfl, it_X3⟩
set_option maxHeartbeats 4000000 in
set_option maxRecDepth 100000 in
theorem whole_start {p : Program} {e : Env} {s : State} {m : MethodId} {below : List Frame} {meth : Method} {c : Code} (l : Launch) (hflags : l.flags = flags0) {b L : Nat} {xs : Nat → Int32} (hL : L ≤ 260) (C0 : lw_At p s m meth c b L xs) : W p l e room_1 s m #[Value.ref b] below meth c s.heap [] 0 0 (lw_Z below #[Value.ref b] s) (entryFrame m ([Value.ref b] : List Value).toArray 19) := by
  obtain ⟨g, hgB, hgX, hgn, hGG⟩ := GG_start C0
  obtain ⟨hx, hb, hr, hml, hown, hts, hX, hbl, hlocks, hgv⟩ := C0
  have hTB : ∀ w ∈ TB, w.before #[Value.ref b] s = true := fun w hw => hts w (List.mem_filter.mp hw).1
  have hst : l.stackTraces = false := by unfold Launch.stackTraces; rw [hflags]; decide
  obtain ⟨K, hK⟩ : ∃ K : KX, K = (p, l, e, room_1, s, m, #[Value.ref b], below, meth, c) := ⟨_, rfl⟩
  have F : Fx K g cL_law RL 19 (some .boolean) (c.exceptionTable.toList.map fun h => (h.startPc, h.endPc, h.handlerPc, h.catchType)) 14 566 600064 7301640 := by
    rw [hK]
    exact ⟨hx, hb, hml, hown, hTB, hGG, hr, hlocks, (table_eq _).symm, hst, rfl, rfl, rfl, rfl⟩
  obtain ⟨Q, hQ⟩ : ∃ Q, Q = lw_Z below #[Value.ref b] s := ⟨_, rfl⟩
  have hEnd : ∀ M a9 b9 L9, a9 ≤ 600064 → b9 ≤ 7301640 → XW K g 19 Q M a9 b9 1522 L9 [] := by
    intro M a9 b9 L9 ha9 hb9 H lc ls hM hS hl
    subst hK
    refine lv_iconst (v := 1) F.ex F.by_ dL_law_1522 (by decide) ?_
    refine lv_goto (tgt := 1527) F.ex F.by_ dL_law_1523 (by decide) ?_
    refine va_forget (fun q hq => ?_) ?_
    · have := hS.2.2 q hq
      show s.heap.size ≤ q.base
      rw [← hgB]
      exact this
    · refine W.widen (k := 600064) (n := 7301640) ha9 hb9 ?_
      rw [hQ]
      exact lw_ret hx hb hr hlocks dL_law_1527
  have hW : XW K g 19 Q (fun _ => none) 0 0 0 [(0, .ref (gXb g))] [] := by
    refine x_new F (ci := 4) (fs := [.null, .null, .int 0, .int 0]) tyX3 rfl inT_X3 tyX3_ok w_nL_8.1 w_nL_8.2.1 w_nL_8.2.2 df_X3 ⟨by decide, by decide⟩ dL_law_0 (fun q zq _ => ?_)
    refine x_dup F dL_law_3 rfl ?_
    refine x_callI F s_L_100 rfl (c_X3_init F.nt mup_s) rfl dL_law_4 (by decide) (by decide) (Nat.le_of_ble_eq_true rfl) (kv fun M1 hp1 => ?_)
    obtain ⟨q1, q2, hp1⟩ := hp1
    refine x_astore_n F [(1, .ref q), (0, .ref (gXb g))] dL_law_7 (by decide) rfl ?_
    obtain ⟨A, hA0, hC⟩ := CM_init hp1
    exact law_init F (by rw [hgn]; exact hL) (by decide) (by decide) hA0 hC ⟨Inv_st, JV_st⟩ hEnd
  rw [hgX] at hW
  have hl := lv_entry ([.ref b]) (n := 19) (Nat.le_of_ble_eq_true rfl)
  rw [lg_entry_eq]
  rw [← hQ]
  subst hK
  exact hW s.heap [] _ (fun q e9 h9 => by cases h9) va_S.rf hl
