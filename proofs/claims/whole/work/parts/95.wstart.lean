/-! the law from its entry -/
theorem df_X3 : ∀ j, j < 4 → defaultValue (tyX3 j) = vp_V [.null, .null, .int 0, .int 0] j := by
  intro j hj
  have : j = 0 ∨ j = 1 ∨ j = 2 ∨ j = 3 := by omega
  rcases this with rfl | rfl | rfl | rfl <;> rfl
theorem df_X4 : ∀ j, j < 32 → defaultValue (tyX4 j) = vp_V [.int 0, .null, .null, .null, .null, .null, .int 0, .int 0, .null, .null, .null, .null, .null, .null, .null, .null, .null, .null, .int 0, .null, .null, .null, .null, .null, .null, .null, .null, .null, .null, .null, .int 0, .null] j := by
  intro j hj
  have : j = 0 ∨ j = 1 ∨ j = 2 ∨ j = 3 ∨ j = 4 ∨ j = 5 ∨ j = 6 ∨ j = 7 ∨ j = 8 ∨ j = 9 ∨ j = 10 ∨ j = 11 ∨ j = 12 ∨ j = 13 ∨ j = 14 ∨ j = 15 ∨ j = 16 ∨ j = 17 ∨ j = 18 ∨ j = 19 ∨ j = 20 ∨ j = 21 ∨ j = 22 ∨ j = 23 ∨ j = 24 ∨ j = 25 ∨ j = 26 ∨ j = 27 ∨ j = 28 ∨ j = 29 ∨ j = 30 ∨ j = 31 := by omega
  rcases this with rfl | rfl | rfl | rfl | rfl | rfl | rfl | rfl | rfl | rfl | rfl | rfl | rfl | rfl | rfl | rfl | rfl | rfl | rfl | rfl | rfl | rfl | rfl | rfl | rfl | rfl | rfl | rfl | rfl | rfl | rfl | rfl <;> rfl
theorem popN_0 : popN 0 = 0 := by decide
theorem Inv_st : Inv 0 stI := by
  have n1 : ¬ (0 : Int32) = -1 := by decide
  have z : ∀ k j, ¬ k = 30 → stI.1 k j = 0 := fun k j h => if_neg h
  have b0 : ∀ k j, ¬ k = 30 → ∀ q, stI.1 k j ≤ q := fun k j h q => by rw [z k j h]; exact Nat.zero_le _
  refine ⟨⟨Nat.zero_le _, Nat.zero_le _, Nat.zero_le _, fun r _ => ⟨Nat.zero_le _, Nat.zero_le _, Nat.zero_le _, Nat.zero_le _, Nat.zero_le _, Nat.zero_le _, Nat.zero_le _, Nat.zero_le _, Nat.zero_le _⟩, fun k _ => ⟨(show (0 : Nat) < 12 by decide), (show (0 : Nat) < 16 by decide), (show (0 : Nat) < 4 by decide), Nat.zero_le _, Nat.zero_le _, Nat.zero_le _, Nat.zero_le _, Nat.zero_le _⟩, fun k _ => ⟨Or.inr ⟨0, by decide, rfl⟩, Or.inr ⟨0, by decide, rfl⟩, Or.inr ⟨0, by decide, rfl⟩⟩, fun b _ => ⟨Nat.zero_le _, Nat.zero_le _, Nat.zero_le _, Nat.zero_le _⟩, by decide⟩,
    fun b => ⟨Nat.zero_le _, Nat.zero_le _, Nat.zero_le _⟩, fun r hr => absurd hr (Nat.not_lt_zero _), fun r j hr => absurd hr (Nat.not_lt_zero _), fun k _ h41 => absurd (show (0 : Nat) = 1 from h41) (by decide), fun b _ => ⟨rfl, rfl, rfl, rfl, rfl⟩, ⟨fun k _ h41 => absurd (show (0 : Nat) = 1 from h41) (by decide), fun r _ => ⟨rfl, rfl, rfl⟩⟩,
    fun k _ => ⟨rfl, rfl, rfl, rfl, rfl, fun h41 => absurd (show (0 : Nat) = 1 from h41) (by decide)⟩, fun r hr => absurd hr (Nat.not_lt_zero _), fun k _ h41 => absurd (show (0 : Nat) = 1 from h41) (by decide), fun r j hr => absurd hr (Nat.not_lt_zero _), fun r j hr => absurd hr (Nat.not_lt_zero _), fun q => Nat.zero_le _, fun b => popN_0, fun r j hr => absurd hr (Nat.not_lt_zero _), fun r j hr => absurd hr (Nat.not_lt_zero _), fun r j hr => absurd hr (Nat.not_lt_zero _), fun r j hr => absurd hr (Nat.not_lt_zero _)⟩
theorem LJ_init {g : GP} {Mq M1 M2 M3 M4 : MM} {q q1 q2 cm o : Nat} {m : Nat → Nat} {e2 : va_E} {f : Nat → Int64} (hC : PJ Mq 4 q [.ref q1, .ref q2, .int (nI 0), .int (nI 1)] [(q2, lE (nI 0) (nI 0) (gA g 0)), (q1, lE (nI 0) (nI 0) (gA g 0))] M1) (hcm : M1 cm = none) (hM2 : M2 = mup M1 cm e2) (hm0 : m 0 = cm) (hR : RM g m M2 stI M3) (hmk : ∀ k, mK k = true → M2 (m k) = none) (ho : M3 o = none) (hM4 : M4 = mup M3 o (.inl (gC g 1, 1, .inr (.inl f)))) : ∃ A : Nat → Nat, A 0 = q ∧ LJ g A m stI M4 o := by
  obtain ⟨c1, c2, -, c4, c5⟩ := hC
  have hq1 : M1 q1 = some (lE (nI 0) (nI 0) (gA g 0)) := c2 _ (List.mem_cons_of_mem _ List.mem_cons_self)
  have hq2 : M1 q2 = some (lE (nI 0) (nI 0) (gA g 0)) := c2 _ List.mem_cons_self
  have n1 : q1 ≠ q := (c4 _ (List.mem_cons_of_mem _ List.mem_cons_self)).1
  have n2 : q2 ≠ q := (c4 _ List.mem_cons_self).1
  have n12 : q2 ≠ q1 := (List.pairwise_cons.mp c5).1 _ List.mem_cons_self
  have key : ∀ x e, M1 x = some e → (∀ k, mQ k = true → x ≠ m k) ∧ M4 x = some e := by
    intro x e hx
    have a1 : x ≠ cm := ne_fr hcm hx
    have a2 : M2 x = some e := by rw [hM2, mup_n a1]; exact hx
    have a3 : ∀ k, mQ k = true → x ≠ m k := by
      intro k hk
      unfold mQ at hk
      simp only [Bool.or_eq_true, decide_eq_true_eq] at hk
      rcases hk with rfl | hk
      · rw [hm0]; exact a1
      · exact ne_fr (hmk k hk) a2
    have a4 : M3 x = some e := (hR.2.2.1 x a3).trans a2
    exact ⟨a3, by rw [hM4, mup_n (ne_fr ho a4)]; exact a4⟩
  have omk : ∀ k, mQ k = true → o ≠ m k := fun k hk => by
    obtain ⟨e, he⟩ := RM_at hR k hk
    exact (ne_fr ho he).symm
  have kq := key q _ c1
  have kq1 := key q1 _ hq1
  have kq2 := key q2 _ hq2
  have nof : ∀ x e, M4 x = some e → x ≠ o → True := fun _ _ _ _ => trivial
  have oA : ∀ x e, M1 x = some e → o ≠ x := by
    intro x e hx z
    have a1 : x ≠ cm := ne_fr hcm hx
    have a2 : M2 x = some e := by rw [hM2, mup_n a1]; exact hx
    have a4 : M3 x = some e := (hR.2.2.1 x (key x e hx).1).trans a2
    rw [← z, ho] at a4; cases a4
  have hlv : ∀ c, lvB stI c = true → c = 0 ∨ c = 1 ∨ c = 3 := by
    intro c hc
    rcases lvB_iff.mp hc with h | h | ⟨-, h⟩ | h | ⟨-, h⟩ | ⟨b, -, h, -⟩ | ⟨r, -, h, -⟩ | ⟨r, -, h, -⟩ | ⟨r, -, h, -⟩ | ⟨r, -, h, -⟩ | ⟨k, -, -, h⟩
    · exact Or.inl h
    · exact Or.inr (Or.inl h)
    · exact absurd h (Nat.not_lt_zero _)
    · exact Or.inr (Or.inr h)
    · exact absurd h (Nat.not_lt_zero _)
    · exact absurd h (Nat.not_lt_zero _)
    · exact absurd h (Nat.not_lt_zero _)
    · exact absurd h (Nat.not_lt_zero _)
    · exact absurd h (Nat.not_lt_zero _)
    · exact absurd h (Nat.not_lt_zero _)
    · exact absurd (show (0 : Nat) = 1 from h) (by decide)
  refine ⟨fun c => if c = 0 then q else if c = 1 then q1 else q2, rfl, ⟨fun c hc => ?_, fun c c' hc hc' e => ?_, fun _ _ => rfl⟩, RM_to hR (fun k hk => by rw [hM4]; exact mup_n (omk k hk).symm), fun c k hc hk => ?_, ⟨f, by rw [hM4]; exact mup_s⟩, fun c hc => ?_, omk⟩
  · rcases hlv c hc with rfl | rfl | rfl
    · exact kq.2
    · exact kq1.2
    · exact kq2.2
  · rcases hlv c hc with rfl | rfl | rfl <;> rcases hlv c' hc' with rfl | rfl | rfl
    · rfl
    · exact absurd e n1.symm
    · exact absurd e n2.symm
    · exact absurd e n1
    · rfl
    · exact absurd e n12.symm
    · exact absurd e n2
    · exact absurd e n12
    · rfl
  · rcases hlv c hc with rfl | rfl | rfl
    · exact kq.1 k hk
    · exact kq1.1 k hk
    · exact kq2.1 k hk
  · rcases hlv c hc with rfl | rfl | rfl
    · exact oA q _ c1
    · exact oA q1 _ hq1
    · exact oA q2 _ hq2
set_option maxRecDepth 20000 in
theorem w_nL_8 : Cond.classLink RL 8 RX3 ∈ TB ∧ Cond.instantiable RX3 4 ∈ TB ∧ Cond.initialized RX3 ∈ TB := ⟨tb_1 23 rfl rfl, tb_1 24 rfl rfl, it_X3⟩
set_option maxRecDepth 20000 in
theorem w_nL_85 : Cond.classLink RL 85 RX4 ∈ TB ∧ Cond.instantiable RX4 32 ∈ TB ∧ Cond.initialized RX4 ∈ TB := ⟨tb_4 38 rfl rfl, tb_4 39 rfl rfl, it_X4⟩
set_option maxHeartbeats 4000000 in
set_option maxRecDepth 100000 in
theorem whole_start {p : Program} {e : Env} {s : State} {m : MethodId} {below : List Frame} {meth : Method} {c : Code} (l : Launch) (hflags : l.flags = flags0) {b L : Nat} {xs : Nat → Int32} (hL : L ≤ 4096) (C0 : lw_At p s m meth c b L xs) : W p l e room_1 s m #[Value.ref b] below meth c s.heap [] 0 0 (lw_Z below #[Value.ref b] s) (entryFrame m ([Value.ref b] : List Value).toArray 7) := by
  obtain ⟨g, hgB, hGG⟩ := GG_start C0
  obtain ⟨hx, hb, hr, hml, hown, hts, hX, hbl, hlocks, hgv⟩ := C0
  have hTB : ∀ w ∈ TB, w.before #[Value.ref b] s = true := fun w hw => hts w (List.mem_filter.mp hw).1
  have hst : l.stackTraces = false := by unfold Launch.stackTraces; rw [hflags]; decide
  obtain ⟨K, hK⟩ : ∃ K : KX, K = (p, l, e, room_1, s, m, #[Value.ref b], below, meth, c) := ⟨_, rfl⟩
  have F : Fx K g cL_law RL 7 (some .boolean) (c.exceptionTable.toList.map fun h => (h.startPc, h.endPc, h.handlerPc, h.catchType)) 12 460 601024 7293034 := by
    rw [hK]
    exact ⟨hx, hb, hml, hown, hTB, hGG, hr, hlocks, (table_eq _).symm, hst, rfl, rfl, rfl, rfl⟩
  obtain ⟨Q, hQ⟩ : ∃ Q, Q = lw_Z below #[Value.ref b] s := ⟨_, rfl⟩
  have hbA : ¬ gO g b := by
    unfold gO
    omega
  have hEnd : ∀ M a9 b9 L9, a9 ≤ 601024 → b9 ≤ 7293034 → XW K g 7 Q M a9 b9 1554 L9 [] := by
    intro M a9 b9 L9 ha9 hb9 H lc ls hM hS hl
    subst hK
    refine lv_iconst (v := 1) F.ex F.by_ dL_law_1554 (by decide) ?_
    refine va_forget (fun q hq => ?_) ?_
    · have := hS.2.2 q hq
      show s.heap.size ≤ q.base
      rw [← hgB]
      exact this
    · refine W.widen (k := 601024) (n := 7293034) ha9 hb9 ?_
      rw [hQ]
      exact lw_ret hx hb hr hlocks dL_law_1555
  have hW : XW K g 7 Q (fun _ => none) 0 0 0 [(0, .ref b)] [] := by
    have hX' : va_X b L xs (ks K) (ks K).heap := by rw [hK]; exact hX
    have hbl' : b < (ks K).heap.size := by rw [hK]; exact hbl
    refine x_new F (ci := 4) (fs := [.null, .null, .int 0, .int 0]) tyX3 rfl inT_X3 tyX3_ok w_nL_8.1 w_nL_8.2.1 w_nL_8.2.2 df_X3 ⟨by decide, by decide⟩ dL_law_0 (fun q zq _ => ?_)
    refine x_dup F dL_law_3 rfl ?_
    refine x_callI F s_L_84 rfl (c_X3_init F.nt mup_s) rfl dL_law_4 (by decide) (by decide) (Nat.le_of_ble_eq_true rfl) (kv fun M1 hp1 => ?_)
    obtain ⟨q1, q2, hp1⟩ := hp1
    refine x_astore_n F [(1, .ref q), (0, .ref b)] dL_law_7 (by decide) rfl ?_
    refine x_new F (ci := 5) (fs := [.int 0, .null, .null, .null, .null, .null, .int 0, .int 0, .null, .null, .null, .null, .null, .null, .null, .null, .null, .null, .int 0, .null, .null, .null, .null, .null, .null, .null, .null, .null, .null, .null, .int 0, .null]) tyX4 rfl inT_X4 tyX4_ok w_nL_85.1 w_nL_85.2.1 w_nL_85.2.2 df_X4 ⟨by decide, by decide⟩ dL_law_8 (fun cm zcm _ => ?_)
    refine x_dup F dL_law_11 rfl ?_
    refine x_callI F s_L_87 rfl (c_X4_init F.nt (fs := []) mup_s) rfl dL_law_12 (by decide) (by decide) (Nat.le_of_ble_eq_true rfl) (kv fun M3 hp3 => ?_)
    obtain ⟨m9, hm0, hR3, hmk⟩ := hp3
    refine x_astore_n F [(2, .ref cm), (1, .ref q), (0, .ref b)] dL_law_15 (by decide) rfl ?_
    refine x_iconst F (nI 1) dL_law_16 (by decide) ?_
    refine x_newJ F 1 ac_long (nI_nn (by decide)) (nI_clamp (by decide)) (by decide) ⟨by decide, by decide⟩ dL_law_17 (fun o zo _ => ?_)
    refine x_astore_n F [(3, .ref o), (2, .ref cm), (1, .ref q), (0, .ref b)] dL_law_19 (by decide) rfl ?_
    refine x_iconst F (nI 0) dL_law_20 (by decide) ?_
    refine x_istore F [(4, .int (nI (8 * 0))), (3, .ref o), (2, .ref cm), (1, .ref q), (0, .ref b)] dL_law_21 (by decide) rfl ?_
    obtain ⟨A, hA0, hJ⟩ := LJ_init hp1 zcm rfl hm0 hR3 hmk zo rfl
    refine x_widen (a' := 100 + 100 * 0) (b' := 3000 + 1000 * 0) (by omega) (by omega) ?_
    have h9 := law_loop F hX' hbl' hbA hL hEnd 0 (Nat.zero_le _) A stI _ hA0 hJ Inv_st
    rw [hm0] at h9
    exact h9
  have hl := lv_entry ([.ref b]) (n := 7) (Nat.le_of_ble_eq_true rfl)
  rw [lg_entry_eq]
  rw [← hQ]
  subst hK
  exact hW s.heap [] _ (fun q e9 h9 => by cases h9) va_S.rf hl
