/-! a list's add in one word; constructors; the reference's constructor -/
theorem c_ladd {l : Launch} (hl : l.stackTraces = false) {g : GP} {M : MM} {q d n : Nat} {ad : Nat → Nat} {vs : List Value} {ci N : Nat} {C : String} {T : u_T} (hL : M q = some (lE (nI n) (nI n) d)) (hA : n = 0 → d = gA g 0) (hD : 0 < n → M d = some (oE g (cpL n) (lF ad n))) (h22 : n < 22) (hv : vwCl[ci]? = some (C, T, N)) (hca : (C, "java/lang/Object") ∈ CCl) (hel : ∀ i9, i9 < n → ∃ fs9, M (ad i9) = some (.inr (ci, fs9))) (hV : M (ad n) = some (.inr (ci, vs))) (hc0 : ¬ ci = 0) : CT l g yJx4a65c_add_9ea2d cJx4a65c_add_9ea2d 2 (some .boolean) 6 165 1 22 [.ref q, .ref (ad n)] M (pI (fun r9 M9 => r9 = nI 1 ∧ LAP g M q d n (cpL (n + 1)) (nI (n + 1)) ad M9)) nX := by
  rcases Nat.eq_zero_or_pos n with rfl | h0
  · obtain rfl := hA rfl
    exact c_addA hl hL hv hca hV hc0
  · by_cases h1 : n = 10 ∨ n = 15
    · have h2 : cpL n = n ∧ cpL (n + 1) = n + n / 2 := by rcases h1 with rfl | rfl <;> decide
      have h3 := hD h0
      rw [h2.1] at h3
      rw [h2.2]
      exact c_addC hl hL h3 h1 hv hca hel hV hc0
    · have h2 : cpL (n + 1) = cpL n ∧ n < cpL n ∧ cpL n ≤ 22 := by unfold cpL; (repeat' split) <;> omega
      rw [h2.1]
      exact c_addB hl hL (hD h0) h0 h2.2.1 h2.2.2 hv hca hV hc0
theorem ct_ofN {l : Launch} {g : GP} {y : MethodName} {cc : ByteArray} {nL : Nat} {ret : Option FieldType} {fr lo mc ms : Nat} {av : List Value} {M : MM} {post : Option Value → MM → Prop} {px : String → MM → Prop} (L : List (Nat × Value)) (hy : plainName y.cls = true) (hl : l.stackTraces = false) (hn : (lg_sl av).length ≤ nL) (hL : lv_args 0 av = L)
    (h : ∀ K : KX, kl K = l → (kme K).name = y.name → Fx K g cc y.cls nL ret [] fr lo mc ms → XW K g nL (MQx K g post px mc ms) M 0 0 0 L []) : CT l g y cc nL ret fr lo mc ms av M post px := by
  refine vx_ofW (cc := cc) (maxL := nL) (ret := ret) hy rfl ?_
  intro p e s m args below meth c s₁ B hml ht hv
  obtain ⟨rfl, hG, hM⟩ := hv
  have hts := atoms_spec (ws := Cond.code y cc nL ret :: TB) B.pre
  have hl0 := lv_entry av (n := nL) hn
  rw [hL] at hl0
  rw [lg_entry_eq]
  have ht2 : c.exceptionTable.toList = tableOf [] := by
    cases hc : c.exceptionTable.toList with
    | nil => rfl
    | cons x xs => exact (ht x (by rw [hc]; exact List.mem_cons_self)).elim
  exact h (p, l, e, (headSpec (Cond.code y cc nL ret :: TB) { frames := fr, cells := mc, slots := ms, locals := lo }).room, s, m, _, below, meth, c) rfl (name_of_methodNamed B.named B.method).1 ⟨B.exec, B.bytes, hml, findClass_of_methodNamed B.named, fun w hw => hts w (List.mem_cons_of_mem _ hw), hG, B.returns, B.notSynchronized, ht2, hl, rfl, rfl, rfl, rfl⟩ s.heap [] _ hM va_S.rf hl0
def eI (g : GP) (k : Nat) : va_E := if k = 5 then .inl (gC g 1, 16, .inr (.inl (fun _ => 0))) else if kZ k then .inl (gC g 2, mL k, .inl (fun _ => 0)) else .inl (gC g 0, mL k, .inl (fun _ => 0))
/-- under construction: the object's fields so far, the arrays so far (newest first) -/
def PI (g : GP) (M0 : MM) (c0 : Nat) (fs : List Value) (as : List (Nat × Nat)) (M : MM) : Prop :=
  M c0 = some (.inr (5, fs)) ∧ (∀ x ∈ as, M x.2 = some (eI g x.1)) ∧ (∀ y, y ≠ c0 → (∀ x ∈ as, y ≠ x.2) → M y = M0 y) ∧ (∀ x ∈ as, x.2 ≠ c0 ∧ M0 x.2 = none) ∧ as.Pairwise (fun x y => x.2 ≠ y.2)
theorem PI_step {g : GP} {M0 M : MM} {c0 k q : Nat} {fs : List Value} {as : List (Nat × Nat)} {e : va_E} (h : PI g M0 c0 fs as M) (hq : M q = none) (he : e = eI g k) {fs' : List Value} : PI g M0 c0 fs' ((k, q) :: as) (mup (mup M q e) c0 (.inr (5, fs'))) := by
  obtain ⟨h1, h2, h3, h4, h5⟩ := h
  have hc : c0 ≠ q := ne_fr hq h1
  have hx : ∀ x ∈ as, x.2 ≠ q := fun x hx => ne_fr hq (h2 x hx)
  refine ⟨mup_s, fun x hx' => ?_, fun y hy hn => ?_, fun x hx' => ?_, List.Pairwise.cons (fun y hy => (hx y hy).symm) h5⟩
  · rcases List.mem_cons.mp hx' with rfl | hx'
    · rw [mup_n hc.symm, mup_s, he]
    · rw [mup_n (h4 x hx').1, mup_n (hx x hx')]
      exact h2 x hx'
  · rw [mup_n hy, mup_n (hn (k, q) List.mem_cons_self)]
    exact h3 y hy (fun x hx' => hn x (List.mem_cons_of_mem _ hx'))
  · rcases List.mem_cons.mp hx' with rfl | hx'
    · refine ⟨hc.symm, ?_⟩
      rw [← h3 q hc.symm (fun x hx' => (hx x hx').symm)]
      exact hq
    · exact h4 x hx'
theorem pw_inj {as : List (Nat × Nat)} (h : as.Pairwise (fun x y => x.2 ≠ y.2)) {x y : Nat × Nat} (hx : x ∈ as) (hy : y ∈ as) (e : x.2 = y.2) : x = y := by
  induction h with
  | nil => cases hx
  | cons h1 _ ih =>
    rcases List.mem_cons.mp hx with hx2 | hx2
    · rcases List.mem_cons.mp hy with hy2 | hy2
      · exact hx2.trans hy2.symm
      · exact absurd (by rw [← hx2]; exact e) (h1 y hy2)
    · rcases List.mem_cons.mp hy with hy2 | hy2
      · exact absurd (by rw [← hy2]; exact e.symm) (h1 x hx2)
      · exact ih hx2 hy2
theorem pk_inj {as : List (Nat × Nat)} (h : as.Pairwise (fun x y => x.1 ≠ y.1)) {x y : Nat × Nat} (hx : x ∈ as) (hy : y ∈ as) (e : x.1 = y.1) : x = y := by
  induction h with
  | nil => cases hx
  | cons h1 _ ih =>
    rcases List.mem_cons.mp hx with hx2 | hx2
    · rcases List.mem_cons.mp hy with hy2 | hy2
      · exact hx2.trans hy2.symm
      · exact absurd (by rw [← hx2]; exact e) (h1 y hy2)
    · rcases List.mem_cons.mp hy with hy2 | hy2
      · exact absurd (by rw [← hy2]; exact e.symm) (h1 x hx2)
      · exact ih hx2 hy2
def stI : ST := (fun k _ => if k = 30 then 1 else 0, fun _ _ => 0, fun _ => 0)
theorem eI_st {g : GP} : ∀ k, mK k = true → eI g k = mA g k stI := by
  intro k hk
  unfold eI mA
  by_cases h5 : k = 5
  · rw [if_pos h5, if_pos h5]; rfl
  · rw [if_neg h5, if_neg h5]
    have h30 : ¬ k = 30 := by intro z; subst z; cases hk
    by_cases hz : kZ k = true
    · rw [if_pos hz, if_pos hz]
      have : (fun i => nI (stI.1 k i)) = fun _ => (0 : Int32) := by funext i; simp only [stI]; rw [if_neg h30]; decide
      rw [this]
    · rw [if_neg hz, if_neg hz]
      have : (fun i => nI (stI.1 k i)) = fun _ => (0 : Int32) := by funext i; simp only [stI]; rw [if_neg h30]; decide
      rw [this]
      split <;> rfl
def kLs : List Nat := [31, 29, 28, 27, 26, 25, 24, 23, 22, 21, 20, 19, 17, 16, 15, 14, 13, 12, 11, 10, 9, 8, 5, 4, 3, 2, 1]
theorem kLs_K : ∀ k, k < 32 → mK k = true → k ∈ kLs := by decide
theorem kLs_0 : ∀ k ∈ kLs, mK k = true := by decide
def mI (c0 : Nat) (as : List (Nat × Nat)) (k : Nat) : Nat := if k = 0 then c0 else (as.lookup k).getD 0
theorem lk_mem {as : List (Nat × Nat)} {k : Nat} (h : k ∈ as.map Prod.fst) : (k, (as.lookup k).getD 0) ∈ as := by
  induction as with
  | nil => cases h
  | cons x as ih =>
    obtain ⟨k1, q⟩ := x
    by_cases c : k = k1
    · subst c; simp [List.lookup]
    · have c2 : (k == k1) = false := by simpa using c
      rcases List.mem_cons.mp h with h | h
      · exact absurd h c
      · exact List.mem_cons_of_mem _ (by simp only [List.lookup, c2]; exact ih h)
theorem PI_end {g : GP} {M0 M : MM} {c0 : Nat} {fs : List Value} {as : List (Nat × Nat)} (h : PI g M0 c0 fs as M) (hk : as.map Prod.fst = kLs) (hf : fs = mF (mI c0 as) stI) : ∃ m : Nat → Nat, m 0 = c0 ∧ RM g m M0 stI M ∧ ∀ k, mK k = true → M0 (m k) = none := by
  obtain ⟨h1, h2, h3, h4, h5⟩ := h
  have hm : ∀ k, mK k = true → (k, mI c0 as k) ∈ as := by
    intro k hk1
    have h6 : ¬ k = 0 := mK_0 hk1
    have := lk_mem (as := as) (k := k) (by rw [hk]; exact kLs_K k (mK_lt hk1) hk1)
    unfold mI
    rw [if_neg h6]
    exact this
  refine ⟨mI c0 as, rfl, ⟨?_, fun k hk1 => ?_, fun q hq => ?_, fun k k' hk1 hk2 e => ?_⟩, fun k hk1 => (h4 _ (hm k hk1)).2⟩
  · rw [← hf]; exact h1
  · rw [← eI_st k hk1]; exact h2 _ (hm k hk1)
  · refine h3 q (hq 0 rfl) (fun x hx z => ?_)
    have hx1 : x.1 ∈ kLs := by rw [← hk]; exact List.mem_map_of_mem hx
    have hn : (as.map Prod.fst).Pairwise (· ≠ ·) := by rw [hk]; decide
    have hx2 := pk_inj (List.pairwise_map.mp hn) hx (hm x.1 (kLs_0 _ hx1)) rfl
    have hx3 : x.2 = mI c0 as x.1 := congrArg Prod.snd hx2
    exact hq x.1 (mK_Q (kLs_0 _ hx1)) (z.trans hx3)
  · unfold mQ at hk1 hk2
    simp only [Bool.or_eq_true, decide_eq_true_eq] at hk1 hk2
    rcases hk1 with rfl | hk1
    · rcases hk2 with rfl | hk2
      · rfl
      · exact absurd e.symm (h4 _ (hm k' hk2)).1
    · rcases hk2 with rfl | hk2
      · exact absurd e (h4 _ (hm k hk1)).1
      · exact congrArg Prod.fst (pw_inj h5 (hm k hk1) (hm k' hk2) e)
theorem PI_put {g : GP} {M0 M : MM} {c0 : Nat} {fs fs' : List Value} {as : List (Nat × Nat)} (h : PI g M0 c0 fs as M) : PI g M0 c0 fs' as (mup M c0 (.inr (5, fs'))) := by
  obtain ⟨h1, h2, h3, h4, h5⟩ := h
  exact ⟨mup_s, fun x hx => (mup_n (h4 x hx).1).trans (h2 x hx), fun y hy hn => (mup_n hy).trans (h3 y hy hn), h4, h5⟩
set_option maxHeartbeats 4000000 in
set_option maxRecDepth 100000 in
theorem c_X4_init {l : Launch} (hl : l.stackTraces = false) {g : GP} {M : MM} {c0 : Nat} {fs : List Value} (hM : M c0 = some (.inr (5, [.int 0, .null, .null, .null, .null, .null, .int 0, .int 0, .null, .null, .null, .null, .null, .null, .null, .null, .null, .null, .int 0, .null, .null, .null, .null, .null, .null, .null, .null, .null, .null, .null, .int 0, .null]))) : CT l g yX4_init cX4_init 1 (none : Option Jvm.ClassFile.FieldType) 1 50 27 1841 [.ref (c0)] M (pV (fun M9 => ∃ m : Nat → Nat, m 0 = c0 ∧ RM g m M stI M9 ∧ ∀ k, mK k = true → M (m k) = none)) nX := by
  refine ct_ofN [(0, .ref c0)] (by decide) hl (Nat.le_of_ble_eq_true rfl) rfl ?_
  intro K hK hNm F
  subst hK
  have F : Fx K g cX4_init RX4 1 (none : Option Jvm.ClassFile.FieldType) [] 1 50 27 1841 := F
  have hNm : (kme K).name = "<init>" := hNm
  obtain ⟨Q, hQ⟩ : ∃ Q, Q = MQx K g (pV (fun M9 => ∃ m : Nat → Nat, m 0 = c0 ∧ RM g m M stI M9 ∧ ∀ k, mK k = true → M (m k) = none)) nX 27 1841 := ⟨_, rfl⟩
  rw [← hQ]
  have h0 : PI g M c0 [.int 0, .null, .null, .null, .null, .null, .int 0, .int 0, .null, .null, .null, .null, .null, .null, .null, .null, .null, .null, .int 0, .null, .null, .null, .null, .null, .null, .null, .null, .null, .null, .null, .int 0, .null] [] M := ⟨hM, (fun x hx => by cases hx), (fun _ _ _ => rfl), (fun x hx => by cases hx), List.Pairwise.nil⟩
  refine x_aload_n F 0 dX4_init_0 rfl ?_
  refine x_objInit F o_X4_1.1 o_X4_1.2.1 o_X4_1.2.2 dX4_init_1 ⟨by decide, Nat.le_of_ble_eq_true rfl⟩ ?_
  refine x_aload_n F 0 dX4_init_4 rfl ?_
  refine x_bipush F (nI 16) dX4_init_5 (by decide) ?_
  refine x_newI F 16 ac_int (nI_nn (by decide)) (nI_clamp (by decide)) (by decide) ⟨by decide, by decide⟩ dX4_init_7 (fun q0 zq0 _ => ?_)
  refine x_fputF F p_X4_7 hNm ((mup_n (ne_fr zq0 h0.1)).trans h0.1) rfl rfl dX4_init_9 rfl rfl (Nat.le_of_ble_eq_true rfl) ?_
  have h1 := PI_step (k := 1) (fs' := [.int 0, .ref q0, .null, .null, .null, .null, .int 0, .int 0, .null, .null, .null, .null, .null, .null, .null, .null, .null, .null, .int 0, .null, .null, .null, .null, .null, .null, .null, .null, .null, .null, .null, .int 0, .null]) h0 zq0 rfl
  refine x_aload_n F 0 dX4_init_12 rfl ?_
  refine x_bipush F (nI 16) dX4_init_13 (by decide) ?_
  refine x_newI F 16 ac_int (nI_nn (by decide)) (nI_clamp (by decide)) (by decide) ⟨by decide, by decide⟩ dX4_init_15 (fun q1 zq1 _ => ?_)
  refine x_fputF F p_X4_13 hNm ((mup_n (ne_fr zq1 h1.1)).trans h1.1) rfl rfl dX4_init_17 rfl rfl (Nat.le_of_ble_eq_true rfl) ?_
  have h2 := PI_step (k := 2) (fs' := [.int 0, .ref q0, .ref q1, .null, .null, .null, .int 0, .int 0, .null, .null, .null, .null, .null, .null, .null, .null, .null, .null, .int 0, .null, .null, .null, .null, .null, .null, .null, .null, .null, .null, .null, .int 0, .null]) h1 zq1 rfl
  refine x_aload_n F 0 dX4_init_20 rfl ?_
  refine x_bipush F (nI 16) dX4_init_21 (by decide) ?_
  refine x_newI F 16 ac_int (nI_nn (by decide)) (nI_clamp (by decide)) (by decide) ⟨by decide, by decide⟩ dX4_init_23 (fun q2 zq2 _ => ?_)
  refine x_fputF F p_X4_16 hNm ((mup_n (ne_fr zq2 h2.1)).trans h2.1) rfl rfl dX4_init_25 rfl rfl (Nat.le_of_ble_eq_true rfl) ?_
  have h3 := PI_step (k := 3) (fs' := [.int 0, .ref q0, .ref q1, .ref q2, .null, .null, .int 0, .int 0, .null, .null, .null, .null, .null, .null, .null, .null, .null, .null, .int 0, .null, .null, .null, .null, .null, .null, .null, .null, .null, .null, .null, .int 0, .null]) h2 zq2 rfl
  refine x_aload_n F 0 dX4_init_28 rfl ?_
  refine x_bipush F (nI 16) dX4_init_29 (by decide) ?_
  refine x_newI F 16 ac_int (nI_nn (by decide)) (nI_clamp (by decide)) (by decide) ⟨by decide, by decide⟩ dX4_init_31 (fun q3 zq3 _ => ?_)
  refine x_fputF F p_X4_19 hNm ((mup_n (ne_fr zq3 h3.1)).trans h3.1) rfl rfl dX4_init_33 rfl rfl (Nat.le_of_ble_eq_true rfl) ?_
  have h4 := PI_step (k := 4) (fs' := [.int 0, .ref q0, .ref q1, .ref q2, .ref q3, .null, .int 0, .int 0, .null, .null, .null, .null, .null, .null, .null, .null, .null, .null, .int 0, .null, .null, .null, .null, .null, .null, .null, .null, .null, .null, .null, .int 0, .null]) h3 zq3 rfl
  refine x_aload_n F 0 dX4_init_36 rfl ?_
  refine x_bipush F (nI 16) dX4_init_37 (by decide) ?_
  refine x_newJ F 16 ac_long (nI_nn (by decide)) (nI_clamp (by decide)) (by decide) ⟨by decide, by decide⟩ dX4_init_39 (fun q4 zq4 _ => ?_)
  refine x_fputF F p_X4_22 hNm ((mup_n (ne_fr zq4 h4.1)).trans h4.1) rfl rfl dX4_init_41 rfl rfl (Nat.le_of_ble_eq_true rfl) ?_
  have h5 := PI_step (k := 5) (fs' := [.int 0, .ref q0, .ref q1, .ref q2, .ref q3, .ref q4, .int 0, .int 0, .null, .null, .null, .null, .null, .null, .null, .null, .null, .null, .int 0, .null, .null, .null, .null, .null, .null, .null, .null, .null, .null, .null, .int 0, .null]) h4 zq4 rfl
  refine x_aload_n F 0 dX4_init_44 rfl ?_
  refine x_bipush F (nI 8) dX4_init_45 (by decide) ?_
  refine x_newI F 8 ac_int (nI_nn (by decide)) (nI_clamp (by decide)) (by decide) ⟨by decide, by decide⟩ dX4_init_47 (fun q5 zq5 _ => ?_)
  refine x_fputF F p_X4_26 hNm ((mup_n (ne_fr zq5 h5.1)).trans h5.1) rfl rfl dX4_init_49 rfl rfl (Nat.le_of_ble_eq_true rfl) ?_
  have h6 := PI_step (k := 8) (fs' := [.int 0, .ref q0, .ref q1, .ref q2, .ref q3, .ref q4, .int 0, .int 0, .ref q5, .null, .null, .null, .null, .null, .null, .null, .null, .null, .int 0, .null, .null, .null, .null, .null, .null, .null, .null, .null, .null, .null, .int 0, .null]) h5 zq5 rfl
  refine x_aload_n F 0 dX4_init_52 rfl ?_
  refine x_bipush F (nI 8) dX4_init_53 (by decide) ?_
  refine x_newI F 8 ac_int (nI_nn (by decide)) (nI_clamp (by decide)) (by decide) ⟨by decide, by decide⟩ dX4_init_55 (fun q6 zq6 _ => ?_)
  refine x_fputF F p_X4_29 hNm ((mup_n (ne_fr zq6 h6.1)).trans h6.1) rfl rfl dX4_init_57 rfl rfl (Nat.le_of_ble_eq_true rfl) ?_
  have h7 := PI_step (k := 9) (fs' := [.int 0, .ref q0, .ref q1, .ref q2, .ref q3, .ref q4, .int 0, .int 0, .ref q5, .ref q6, .null, .null, .null, .null, .null, .null, .null, .null, .int 0, .null, .null, .null, .null, .null, .null, .null, .null, .null, .null, .null, .int 0, .null]) h6 zq6 rfl
  refine x_aload_n F 0 dX4_init_60 rfl ?_
  refine x_bipush F (nI 8) dX4_init_61 (by decide) ?_
  refine x_newI F 8 ac_int (nI_nn (by decide)) (nI_clamp (by decide)) (by decide) ⟨by decide, by decide⟩ dX4_init_63 (fun q7 zq7 _ => ?_)
  refine x_fputF F p_X4_32 hNm ((mup_n (ne_fr zq7 h7.1)).trans h7.1) rfl rfl dX4_init_65 rfl rfl (Nat.le_of_ble_eq_true rfl) ?_
  have h8 := PI_step (k := 10) (fs' := [.int 0, .ref q0, .ref q1, .ref q2, .ref q3, .ref q4, .int 0, .int 0, .ref q5, .ref q6, .ref q7, .null, .null, .null, .null, .null, .null, .null, .int 0, .null, .null, .null, .null, .null, .null, .null, .null, .null, .null, .null, .int 0, .null]) h7 zq7 rfl
  refine x_aload_n F 0 dX4_init_68 rfl ?_
  refine x_bipush F (nI 8) dX4_init_69 (by decide) ?_
  refine x_newI F 8 ac_int (nI_nn (by decide)) (nI_clamp (by decide)) (by decide) ⟨by decide, by decide⟩ dX4_init_71 (fun q8 zq8 _ => ?_)
  refine x_fputF F p_X4_35 hNm ((mup_n (ne_fr zq8 h8.1)).trans h8.1) rfl rfl dX4_init_73 rfl rfl (Nat.le_of_ble_eq_true rfl) ?_
  have h9 := PI_step (k := 11) (fs' := [.int 0, .ref q0, .ref q1, .ref q2, .ref q3, .ref q4, .int 0, .int 0, .ref q5, .ref q6, .ref q7, .ref q8, .null, .null, .null, .null, .null, .null, .int 0, .null, .null, .null, .null, .null, .null, .null, .null, .null, .null, .null, .int 0, .null]) h8 zq8 rfl
  refine x_aload_n F 0 dX4_init_76 rfl ?_
  refine x_bipush F (nI 8) dX4_init_77 (by decide) ?_
  refine x_newI F 8 ac_int (nI_nn (by decide)) (nI_clamp (by decide)) (by decide) ⟨by decide, by decide⟩ dX4_init_79 (fun q9 zq9 _ => ?_)
  refine x_fputF F p_X4_38 hNm ((mup_n (ne_fr zq9 h9.1)).trans h9.1) rfl rfl dX4_init_81 rfl rfl (Nat.le_of_ble_eq_true rfl) ?_
  have h10 := PI_step (k := 12) (fs' := [.int 0, .ref q0, .ref q1, .ref q2, .ref q3, .ref q4, .int 0, .int 0, .ref q5, .ref q6, .ref q7, .ref q8, .ref q9, .null, .null, .null, .null, .null, .int 0, .null, .null, .null, .null, .null, .null, .null, .null, .null, .null, .null, .int 0, .null]) h9 zq9 rfl
  refine x_aload_n F 0 dX4_init_84 rfl ?_
  refine x_bipush F (nI 8) dX4_init_85 (by decide) ?_
  refine x_newI F 8 ac_int (nI_nn (by decide)) (nI_clamp (by decide)) (by decide) ⟨by decide, by decide⟩ dX4_init_87 (fun q10 zq10 _ => ?_)
  refine x_fputF F p_X4_41 hNm ((mup_n (ne_fr zq10 h10.1)).trans h10.1) rfl rfl dX4_init_89 rfl rfl (Nat.le_of_ble_eq_true rfl) ?_
  have h11 := PI_step (k := 13) (fs' := [.int 0, .ref q0, .ref q1, .ref q2, .ref q3, .ref q4, .int 0, .int 0, .ref q5, .ref q6, .ref q7, .ref q8, .ref q9, .ref q10, .null, .null, .null, .null, .int 0, .null, .null, .null, .null, .null, .null, .null, .null, .null, .null, .null, .int 0, .null]) h10 zq10 rfl
  refine x_aload_n F 0 dX4_init_92 rfl ?_
  refine x_bipush F (nI 8) dX4_init_93 (by decide) ?_
  refine x_newI F 8 ac_int (nI_nn (by decide)) (nI_clamp (by decide)) (by decide) ⟨by decide, by decide⟩ dX4_init_95 (fun q11 zq11 _ => ?_)
  refine x_fputF F p_X4_44 hNm ((mup_n (ne_fr zq11 h11.1)).trans h11.1) rfl rfl dX4_init_97 rfl rfl (Nat.le_of_ble_eq_true rfl) ?_
  have h12 := PI_step (k := 14) (fs' := [.int 0, .ref q0, .ref q1, .ref q2, .ref q3, .ref q4, .int 0, .int 0, .ref q5, .ref q6, .ref q7, .ref q8, .ref q9, .ref q10, .ref q11, .null, .null, .null, .int 0, .null, .null, .null, .null, .null, .null, .null, .null, .null, .null, .null, .int 0, .null]) h11 zq11 rfl
  refine x_aload_n F 0 dX4_init_100 rfl ?_
  refine x_bipush F (nI 8) dX4_init_101 (by decide) ?_
  refine x_newI F 8 ac_int (nI_nn (by decide)) (nI_clamp (by decide)) (by decide) ⟨by decide, by decide⟩ dX4_init_103 (fun q12 zq12 _ => ?_)
  refine x_fputF F p_X4_47 hNm ((mup_n (ne_fr zq12 h12.1)).trans h12.1) rfl rfl dX4_init_105 rfl rfl (Nat.le_of_ble_eq_true rfl) ?_
  have h13 := PI_step (k := 15) (fs' := [.int 0, .ref q0, .ref q1, .ref q2, .ref q3, .ref q4, .int 0, .int 0, .ref q5, .ref q6, .ref q7, .ref q8, .ref q9, .ref q10, .ref q11, .ref q12, .null, .null, .int 0, .null, .null, .null, .null, .null, .null, .null, .null, .null, .null, .null, .int 0, .null]) h12 zq12 rfl
  refine x_aload_n F 0 dX4_init_108 rfl ?_
  refine x_bipush F (nI 8) dX4_init_109 (by decide) ?_
  refine x_newI F 8 ac_int (nI_nn (by decide)) (nI_clamp (by decide)) (by decide) ⟨by decide, by decide⟩ dX4_init_111 (fun q13 zq13 _ => ?_)
  refine x_fputF F p_X4_50 hNm ((mup_n (ne_fr zq13 h13.1)).trans h13.1) rfl rfl dX4_init_113 rfl rfl (Nat.le_of_ble_eq_true rfl) ?_
  have h14 := PI_step (k := 16) (fs' := [.int 0, .ref q0, .ref q1, .ref q2, .ref q3, .ref q4, .int 0, .int 0, .ref q5, .ref q6, .ref q7, .ref q8, .ref q9, .ref q10, .ref q11, .ref q12, .ref q13, .null, .int 0, .null, .null, .null, .null, .null, .null, .null, .null, .null, .null, .null, .int 0, .null]) h13 zq13 rfl
  refine x_aload_n F 0 dX4_init_116 rfl ?_
  refine x_bipush F (nI 8) dX4_init_117 (by decide) ?_
  refine x_newI F 8 ac_int (nI_nn (by decide)) (nI_clamp (by decide)) (by decide) ⟨by decide, by decide⟩ dX4_init_119 (fun q14 zq14 _ => ?_)
  refine x_fputF F p_X4_53 hNm ((mup_n (ne_fr zq14 h14.1)).trans h14.1) rfl rfl dX4_init_121 rfl rfl (Nat.le_of_ble_eq_true rfl) ?_
  have h15 := PI_step (k := 17) (fs' := [.int 0, .ref q0, .ref q1, .ref q2, .ref q3, .ref q4, .int 0, .int 0, .ref q5, .ref q6, .ref q7, .ref q8, .ref q9, .ref q10, .ref q11, .ref q12, .ref q13, .ref q14, .int 0, .null, .null, .null, .null, .null, .null, .null, .null, .null, .null, .null, .int 0, .null]) h14 zq14 rfl
  refine x_aload_n F 0 dX4_init_124 rfl ?_
  refine x_bipush F (nI 96) dX4_init_125 (by decide) ?_
  refine x_newI F 96 ac_int (nI_nn (by decide)) (nI_clamp (by decide)) (by decide) ⟨by decide, by decide⟩ dX4_init_127 (fun q15 zq15 _ => ?_)
  refine x_fputF F p_X4_56 hNm ((mup_n (ne_fr zq15 h15.1)).trans h15.1) rfl rfl dX4_init_129 rfl rfl (Nat.le_of_ble_eq_true rfl) ?_
  have h16 := PI_step (k := 19) (fs' := [.int 0, .ref q0, .ref q1, .ref q2, .ref q3, .ref q4, .int 0, .int 0, .ref q5, .ref q6, .ref q7, .ref q8, .ref q9, .ref q10, .ref q11, .ref q12, .ref q13, .ref q14, .int 0, .ref q15, .null, .null, .null, .null, .null, .null, .null, .null, .null, .null, .int 0, .null]) h15 zq15 rfl
  refine x_aload_n F 0 dX4_init_132 rfl ?_
  refine x_bipush F (nI 96) dX4_init_133 (by decide) ?_
  refine x_newI F 96 ac_int (nI_nn (by decide)) (nI_clamp (by decide)) (by decide) ⟨by decide, by decide⟩ dX4_init_135 (fun q16 zq16 _ => ?_)
  refine x_fputF F p_X4_59 hNm ((mup_n (ne_fr zq16 h16.1)).trans h16.1) rfl rfl dX4_init_137 rfl rfl (Nat.le_of_ble_eq_true rfl) ?_
  have h17 := PI_step (k := 20) (fs' := [.int 0, .ref q0, .ref q1, .ref q2, .ref q3, .ref q4, .int 0, .int 0, .ref q5, .ref q6, .ref q7, .ref q8, .ref q9, .ref q10, .ref q11, .ref q12, .ref q13, .ref q14, .int 0, .ref q15, .ref q16, .null, .null, .null, .null, .null, .null, .null, .null, .null, .int 0, .null]) h16 zq16 rfl
  refine x_aload_n F 0 dX4_init_140 rfl ?_
  refine x_bipush F (nI 96) dX4_init_141 (by decide) ?_
  refine x_newI F 96 ac_int (nI_nn (by decide)) (nI_clamp (by decide)) (by decide) ⟨by decide, by decide⟩ dX4_init_143 (fun q17 zq17 _ => ?_)
  refine x_fputF F p_X4_62 hNm ((mup_n (ne_fr zq17 h17.1)).trans h17.1) rfl rfl dX4_init_145 rfl rfl (Nat.le_of_ble_eq_true rfl) ?_
  have h18 := PI_step (k := 21) (fs' := [.int 0, .ref q0, .ref q1, .ref q2, .ref q3, .ref q4, .int 0, .int 0, .ref q5, .ref q6, .ref q7, .ref q8, .ref q9, .ref q10, .ref q11, .ref q12, .ref q13, .ref q14, .int 0, .ref q15, .ref q16, .ref q17, .null, .null, .null, .null, .null, .null, .null, .null, .int 0, .null]) h17 zq17 rfl
  refine x_aload_n F 0 dX4_init_148 rfl ?_
  refine x_bipush F (nI 96) dX4_init_149 (by decide) ?_
  refine x_newI F 96 ac_int (nI_nn (by decide)) (nI_clamp (by decide)) (by decide) ⟨by decide, by decide⟩ dX4_init_151 (fun q18 zq18 _ => ?_)
  refine x_fputF F p_X4_65 hNm ((mup_n (ne_fr zq18 h18.1)).trans h18.1) rfl rfl dX4_init_153 rfl rfl (Nat.le_of_ble_eq_true rfl) ?_
  have h19 := PI_step (k := 22) (fs' := [.int 0, .ref q0, .ref q1, .ref q2, .ref q3, .ref q4, .int 0, .int 0, .ref q5, .ref q6, .ref q7, .ref q8, .ref q9, .ref q10, .ref q11, .ref q12, .ref q13, .ref q14, .int 0, .ref q15, .ref q16, .ref q17, .ref q18, .null, .null, .null, .null, .null, .null, .null, .int 0, .null]) h18 zq18 rfl
  refine x_aload_n F 0 dX4_init_156 rfl ?_
  refine x_bipush F (nI 96) dX4_init_157 (by decide) ?_
  refine x_newI F 96 ac_int (nI_nn (by decide)) (nI_clamp (by decide)) (by decide) ⟨by decide, by decide⟩ dX4_init_159 (fun q19 zq19 _ => ?_)
  refine x_fputF F p_X4_68 hNm ((mup_n (ne_fr zq19 h19.1)).trans h19.1) rfl rfl dX4_init_161 rfl rfl (Nat.le_of_ble_eq_true rfl) ?_
  have h20 := PI_step (k := 23) (fs' := [.int 0, .ref q0, .ref q1, .ref q2, .ref q3, .ref q4, .int 0, .int 0, .ref q5, .ref q6, .ref q7, .ref q8, .ref q9, .ref q10, .ref q11, .ref q12, .ref q13, .ref q14, .int 0, .ref q15, .ref q16, .ref q17, .ref q18, .ref q19, .null, .null, .null, .null, .null, .null, .int 0, .null]) h19 zq19 rfl
  refine x_aload_n F 0 dX4_init_164 rfl ?_
  refine x_bipush F (nI 96) dX4_init_165 (by decide) ?_
  refine x_newZ F 96 ac_boolean (nI_nn (by decide)) (nI_clamp (by decide)) (by decide) ⟨by decide, by decide⟩ dX4_init_167 (fun q20 zq20 _ => ?_)
  refine x_fputF F p_X4_71 hNm ((mup_n (ne_fr zq20 h20.1)).trans h20.1) rfl rfl dX4_init_169 rfl rfl (Nat.le_of_ble_eq_true rfl) ?_
  have h21 := PI_step (k := 24) (fs' := [.int 0, .ref q0, .ref q1, .ref q2, .ref q3, .ref q4, .int 0, .int 0, .ref q5, .ref q6, .ref q7, .ref q8, .ref q9, .ref q10, .ref q11, .ref q12, .ref q13, .ref q14, .int 0, .ref q15, .ref q16, .ref q17, .ref q18, .ref q19, .ref q20, .null, .null, .null, .null, .null, .int 0, .null]) h20 zq20 rfl
  refine x_aload_n F 0 dX4_init_172 rfl ?_
  refine x_bipush F (nI 96) dX4_init_173 (by decide) ?_
  refine x_newZ F 96 ac_boolean (nI_nn (by decide)) (nI_clamp (by decide)) (by decide) ⟨by decide, by decide⟩ dX4_init_175 (fun q21 zq21 _ => ?_)
  refine x_fputF F p_X4_75 hNm ((mup_n (ne_fr zq21 h21.1)).trans h21.1) rfl rfl dX4_init_177 rfl rfl (Nat.le_of_ble_eq_true rfl) ?_
  have h22 := PI_step (k := 25) (fs' := [.int 0, .ref q0, .ref q1, .ref q2, .ref q3, .ref q4, .int 0, .int 0, .ref q5, .ref q6, .ref q7, .ref q8, .ref q9, .ref q10, .ref q11, .ref q12, .ref q13, .ref q14, .int 0, .ref q15, .ref q16, .ref q17, .ref q18, .ref q19, .ref q20, .ref q21, .null, .null, .null, .null, .int 0, .null]) h21 zq21 rfl
  refine x_aload_n F 0 dX4_init_180 rfl ?_
  refine x_bipush F (nI 96) dX4_init_181 (by decide) ?_
  refine x_newZ F 96 ac_boolean (nI_nn (by decide)) (nI_clamp (by decide)) (by decide) ⟨by decide, by decide⟩ dX4_init_183 (fun q22 zq22 _ => ?_)
  refine x_fputF F p_X4_78 hNm ((mup_n (ne_fr zq22 h22.1)).trans h22.1) rfl rfl dX4_init_185 rfl rfl (Nat.le_of_ble_eq_true rfl) ?_
  have h23 := PI_step (k := 26) (fs' := [.int 0, .ref q0, .ref q1, .ref q2, .ref q3, .ref q4, .int 0, .int 0, .ref q5, .ref q6, .ref q7, .ref q8, .ref q9, .ref q10, .ref q11, .ref q12, .ref q13, .ref q14, .int 0, .ref q15, .ref q16, .ref q17, .ref q18, .ref q19, .ref q20, .ref q21, .ref q22, .null, .null, .null, .int 0, .null]) h22 zq22 rfl
  refine x_aload_n F 0 dX4_init_188 rfl ?_
  refine x_bipush F (nI 96) dX4_init_189 (by decide) ?_
  refine x_newZ F 96 ac_boolean (nI_nn (by decide)) (nI_clamp (by decide)) (by decide) ⟨by decide, by decide⟩ dX4_init_191 (fun q23 zq23 _ => ?_)
  refine x_fputF F p_X4_81 hNm ((mup_n (ne_fr zq23 h23.1)).trans h23.1) rfl rfl dX4_init_193 rfl rfl (Nat.le_of_ble_eq_true rfl) ?_
  have h24 := PI_step (k := 27) (fs' := [.int 0, .ref q0, .ref q1, .ref q2, .ref q3, .ref q4, .int 0, .int 0, .ref q5, .ref q6, .ref q7, .ref q8, .ref q9, .ref q10, .ref q11, .ref q12, .ref q13, .ref q14, .int 0, .ref q15, .ref q16, .ref q17, .ref q18, .ref q19, .ref q20, .ref q21, .ref q22, .ref q23, .null, .null, .int 0, .null]) h23 zq23 rfl
  refine x_aload_n F 0 dX4_init_196 rfl ?_
  refine x_bipush F (nI 96) dX4_init_197 (by decide) ?_
  refine x_newI F 96 ac_int (nI_nn (by decide)) (nI_clamp (by decide)) (by decide) ⟨by decide, by decide⟩ dX4_init_199 (fun q24 zq24 _ => ?_)
  refine x_fputF F p_X4_84 hNm ((mup_n (ne_fr zq24 h24.1)).trans h24.1) rfl rfl dX4_init_201 rfl rfl (Nat.le_of_ble_eq_true rfl) ?_
  have h25 := PI_step (k := 28) (fs' := [.int 0, .ref q0, .ref q1, .ref q2, .ref q3, .ref q4, .int 0, .int 0, .ref q5, .ref q6, .ref q7, .ref q8, .ref q9, .ref q10, .ref q11, .ref q12, .ref q13, .ref q14, .int 0, .ref q15, .ref q16, .ref q17, .ref q18, .ref q19, .ref q20, .ref q21, .ref q22, .ref q23, .ref q24, .null, .int 0, .null]) h24 zq24 rfl
  refine x_aload_n F 0 dX4_init_204 rfl ?_
  refine x_bipush F (nI 96) dX4_init_205 (by decide) ?_
  refine x_newI F 96 ac_int (nI_nn (by decide)) (nI_clamp (by decide)) (by decide) ⟨by decide, by decide⟩ dX4_init_207 (fun q25 zq25 _ => ?_)
  refine x_fputF F p_X4_87 hNm ((mup_n (ne_fr zq25 h25.1)).trans h25.1) rfl rfl dX4_init_209 rfl rfl (Nat.le_of_ble_eq_true rfl) ?_
  have h26 := PI_step (k := 29) (fs' := [.int 0, .ref q0, .ref q1, .ref q2, .ref q3, .ref q4, .int 0, .int 0, .ref q5, .ref q6, .ref q7, .ref q8, .ref q9, .ref q10, .ref q11, .ref q12, .ref q13, .ref q14, .int 0, .ref q15, .ref q16, .ref q17, .ref q18, .ref q19, .ref q20, .ref q21, .ref q22, .ref q23, .ref q24, .ref q25, .int 0, .null]) h25 zq25 rfl
  refine x_aload_n F 0 dX4_init_212 rfl ?_
  refine x_iconst F (nI 1) dX4_init_213 (by decide) ?_
  refine x_fput F p_X4_90 h26.1 rfl dX4_init_214 rfl rfl (Nat.le_of_ble_eq_true rfl) ?_
  have h27 := PI_put (fs' := [.int 0, .ref q0, .ref q1, .ref q2, .ref q3, .ref q4, .int 0, .int 0, .ref q5, .ref q6, .ref q7, .ref q8, .ref q9, .ref q10, .ref q11, .ref q12, .ref q13, .ref q14, .int 0, .ref q15, .ref q16, .ref q17, .ref q18, .ref q19, .ref q20, .ref q21, .ref q22, .ref q23, .ref q24, .ref q25, .int (nI 1), .null]) h26
  refine x_aload_n F 0 dX4_init_217 rfl ?_
  refine x_sipush F (nI 625) dX4_init_218 (by decide) ?_
  refine x_newZ F 625 ac_boolean (nI_nn (by decide)) (nI_clamp (by decide)) (by decide) ⟨by decide, by decide⟩ dX4_init_221 (fun q26 zq26 _ => ?_)
  refine x_fputF F p_X4_94 hNm ((mup_n (ne_fr zq26 h27.1)).trans h27.1) rfl rfl dX4_init_223 rfl rfl (Nat.le_of_ble_eq_true rfl) ?_
  have h28 := PI_step (k := 31) (fs' := [.int 0, .ref q0, .ref q1, .ref q2, .ref q3, .ref q4, .int 0, .int 0, .ref q5, .ref q6, .ref q7, .ref q8, .ref q9, .ref q10, .ref q11, .ref q12, .ref q13, .ref q14, .int 0, .ref q15, .ref q16, .ref q17, .ref q18, .ref q19, .ref q20, .ref q21, .ref q22, .ref q23, .ref q24, .ref q25, .int (nI 1), .ref q26]) h27 zq26 rfl
  refine x_aload_n F 0 dX4_init_226 rfl ?_
  refine x_iconst F (nI 1) dX4_init_227 (by decide) ?_
  refine x_fput F p_X4_90 h28.1 rfl dX4_init_228 rfl rfl (Nat.le_of_ble_eq_true rfl) ?_
  have h29 := PI_put (fs' := [.int 0, .ref q0, .ref q1, .ref q2, .ref q3, .ref q4, .int 0, .int 0, .ref q5, .ref q6, .ref q7, .ref q8, .ref q9, .ref q10, .ref q11, .ref q12, .ref q13, .ref q14, .int 0, .ref q15, .ref q16, .ref q17, .ref q18, .ref q19, .ref q20, .ref q21, .ref q22, .ref q23, .ref q24, .ref q25, .int (nI 1), .ref q26]) h28
  rw [hQ]
  exact x_vret F dX4_init_231 (by decide) ⟨rfl, PI_end h29 rfl rfl⟩
