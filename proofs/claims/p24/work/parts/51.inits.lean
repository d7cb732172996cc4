/-! a list's add in one word; constructors; the reference's constructor -/
theorem c_ladd {l : Launch} (hl : l.stackTraces = false) {g : GP} {M : MM} {q d n : Nat} {ad : Nat → Nat} {vs : List Value} {ci N : Nat} {C : String} {T : u_T} (hL : M q = some (lE (nI n) (nI n) d)) (hA : n = 0 → d = gA g 0) (hD : 0 < n → M d = some (oE g (cpL n) (lF ad n))) (h22 : n < 22) (hv : vwCl[ci]? = some (C, T, N)) (hca : (C, "java/lang/Object") ∈ CCl) (hel : ∀ i9, i9 < n → ∃ fs9, M (ad i9) = some (.inr (ci, fs9))) (hV : M (ad n) = some (.inr (ci, vs))) (hc0 : ¬ ci = 0) : CT l g yJx4a65c_add_9ea2d cJx4a65c_add_9ea2d 2 (some .boolean) 6 165 1 22 [.ref q, .ref (ad n)] M (pI (fun r9 M9 => r9 = nI 1 ∧ LAP g M q d n (cpL (n + 1)) (nI (n + 1)) ad M9)) nX := by
  rcases Nat.eq_zero_or_pos n with rfl | h0
  · obtain rfl := hA rfl
    exact c_addA hl hL hv hca hV hc0
  · by_cases h1 : n = 10 ∨ n = 15
    · have h2 : cpL n = n ∧ cpL (n + 1) = n + n / 2 := by rcases h1 with rfl | rfl <;> decide
      have h3 := hD h0
      rw [h2.1] at h3
      rw [h2.2]
      exact c_addC hl hL h3 h1 hv hca hel hV hc0
    · have h2 : cpL (n + 1) = cpL n ∧ n < cpL n ∧ cpL n ≤ 22 := by unfold cpL; (repeat' split) <;> omega
      rw [h2.1]
      exact c_addB hl hL (hD h0) h0 h2.2.1 h2.2.2 hv hca hV hc0
theorem ct_ofN {l : Launch} {g : GP} {y : MethodName} {cc : ByteArray} {nL : Nat} {ret : Option FieldType} {fr lo mc ms : Nat} {av : List Value} {M : MM} {post : Option Value → MM → Prop} {px : String → MM → Prop} (L : List (Nat × Value)) (hy : plainName y.cls = true) (hl : l.stackTraces = false) (hn : (lg_sl av).length ≤ nL) (hL : lv_args 0 av = L)
    (h : ∀ K : KX, kl K = l → (kme K).name = y.name → Fx K g cc y.cls nL ret [] fr lo mc ms → XW K g nL (MQx K g post px mc ms) M 0 0 0 L []) : CT l g y cc nL ret fr lo mc ms av M post px := by
  refine vx_ofW (cc := cc) (maxL := nL) (ret := ret) hy rfl ?_
  intro p e s m args below meth c s₁ B hml ht hv
  obtain ⟨rfl, hG, hM⟩ := hv
  have hts := atoms_spec (ws := Cond.code y cc nL ret :: TB) B.pre
  have hl0 := lv_entry av (n := nL) hn
  rw [hL] at hl0
  rw [lg_entry_eq]
  have ht2 : c.exceptionTable.toList = tableOf [] := by
    cases hc : c.exceptionTable.toList with
    | nil => rfl
    | cons x xs => exact (ht x (by rw [hc]; exact List.mem_cons_self)).elim
  exact h (p, l, e, (headSpec (Cond.code y cc nL ret :: TB) { frames := fr, cells := mc, slots := ms, locals := lo }).room, s, m, _, below, meth, c) rfl (name_of_methodNamed B.named B.method).1 ⟨B.exec, B.bytes, hml, findClass_of_methodNamed B.named, fun w hw => hts w (List.mem_cons_of_mem _ hw), hG, B.returns, B.notSynchronized, ht2, hl, rfl, rfl, rfl, rfl⟩ s.heap [] _ hM va_S.rf hl0
