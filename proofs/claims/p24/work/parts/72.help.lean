/-! calls that may throw, caught by the law -/
def CTH (l : Launch) (g : GP) (y : MethodName) (cc : ByteArray) (nL : Nat) (ret : Option FieldType) (hh : List (Nat × Nat × Nat × Nat)) (fr lo mc ms : Nat) (av : List Value) (M : MM) (post : Option Value → MM → Prop) : Prop :=
  vx_Met l y (Cond.codeWith y cc nL ret hh :: TB) { frames := fr, cells := mc, slots := ms, locals := lo } (xPc g av M) (xQc g post) (xXC g nX) mc ms (gO g)
theorem cth_of {l : Launch} {g : GP} {y : MethodName} {cc : ByteArray} {nL : Nat} {ret : Option FieldType} {hh : List (Nat × Nat × Nat × Nat)} {fr lo mc ms : Nat} {av : List Value} {M : MM} {post : Option Value → MM → Prop} (L : List (Nat × Value)) (hy : plainName y.cls = true) (hl : l.stackTraces = false) (hn : (lg_sl av).length ≤ nL) (hL : lv_args 0 av = L)
    (h : ∀ K : KX, kl K = l → Fx K g cc y.cls nL ret hh fr lo mc ms → XW K g nL (MQx K g post nX mc ms) M 0 0 0 L []) : CTH l g y cc nL ret hh fr lo mc ms av M post := by
  refine vx_ofWH (cc := cc) (maxL := nL) (ret := ret) (hh := hh) hy rfl ?_
  intro p e s m args below meth c s₁ B hml hv
  obtain ⟨rfl, hG, hM⟩ := hv
  have hts := atoms_spec (ws := Cond.codeWith y cc nL ret hh :: TB) B.pre
  have hl0 := lv_entry av (n := nL) hn
  rw [hL] at hl0
  rw [lg_entry_eq]
  have ht2 : c.exceptionTable.toList = tableOf hh := vx_table (x := y) B (hts _ List.mem_cons_self)
  exact h (p, l, e, (headSpec (Cond.codeWith y cc nL ret hh :: TB) { frames := fr, cells := mc, slots := ms, locals := lo }).room, s, m, _, below, meth, c) rfl ⟨B.exec, B.bytes, hml, findClass_of_methodNamed B.named, fun w hw => hts w (List.mem_cons_of_mem _ hw), hG, B.returns, B.notSynchronized, ht2, hl, rfl, rfl, rfl, rfl⟩ s.heap [] _ hM va_S.rf hl0
/-- what the tables say of a helper's site -/
def CSH (own : String) (idx : Nat) (y : MethodName) (bytes : ByteArray) (maxL : Nat) (yr : Option FieldType) (hh : List (Nat × Nat × Nat × Nat)) (n : Nat) : Prop :=
  (Cond.methodLink own idx y ∈ TB ∧ Cond.static y ∈ TB ∧ Cond.initialized y.cls ∈ TB ∧ Cond.codeWith y bytes maxL yr hh ∈ TB) ∧ y.cls ≠ "java/lang/invoke/MethodHandle" ∧ y.cls ≠ "java/lang/invoke/VarHandle" ∧ (parseMethodDescriptor y.desc).map (fun d => d.parameters.length) = some n
theorem x_callH {K : KX} {g : GP} {cc : ByteArray} {own : String} {nL : Nat} {ret : Option FieldType} {hh : List (Nat × Nat × Nat × Nat)} {fr lo mc ms : Nat} {Q : State → Prop} {M : MM} {a b pc : Nat} {L : List (Nat × Value)} {st : List Value} (F : Fx K g cc own nL ret hh fr lo mc ms) {idx n maxL fr' lo' mc' ms' : Nat} {y : MethodName} {bytes : ByteArray} {yr : Option FieldType} {h2 : List (Nat × Nat × Nat × Nat)} {post : Option Value → MM → Prop} {As rest : List Value} (cs : CSH own idx y bytes maxL yr h2 n) (hn : As.length = n) (hct : CTH (kl K) g y bytes maxL yr h2 fr' lo' mc' ms' As M post) (hst : st = As.reverse ++ rest) (d : decode cc pc = .ok (.invokestatic idx, 3)) (hR : fr' + 1 ≤ fr ∧ 8 + (maxL + 11) + lo' ≤ lo) (hr : a + mc' ≤ mc ∧ b + ms' ≤ ms) (h8 : (rest.map fun v => v.category).sum ≤ 8)
    (kk : ∀ v M', post v M' → XW K g nL Q M' (a + mc') (b + ms') (pc + 3) L (v.toList ++ rest)) : XW K g nL Q M a b pc L st := by
  intro H lc ls hM hS hl
  obtain ⟨⟨w1, w2, w4, w5⟩, d1, d2, d3⟩ := cs
  refine x_after (l1 := kl K) (y := y) (bytes := bytes) (maxL := maxL) (fr' := fr') (lo' := lo') (yr := yr) (av := As) (px := nX) x_noX kk hS hl ?_
  refine vx_runSX (hh := h2) (bytes := bytes) (maxL := maxL) (ret := yr) (n := n) (x_fix F) hct (vx_cwSW (hh := h2) n F.tb (fun w hw => ?_) rfl rfl rfl ⟨d1, d2, d3⟩ (by rw [F.rf, F.rl]; exact hR)) ⟨xPc_blind, x_pre F hM hS⟩ rfl hn hl.1 hst (lv_room h8) d ⟨by rw [F.rc]; exact hr.1, by rw [F.rs]; exact hr.2⟩
  have hm : w ∈ TB := by
    unfold va_wsS at hw
    rcases List.mem_append.mp hw with hw | hw
    · rcases List.mem_cons.mp hw with rfl | hw
      · exact w1
      · rcases List.mem_cons.mp hw with rfl | hw
        · exact w2
        · rcases List.mem_cons.mp hw with rfl | hw
          · exact w4
          · cases hw
    · rcases List.mem_cons.mp hw with rfl | hw
      · exact w5
      · exact hw
  exact ⟨hm, good_of_word (tb_gw hm)⟩
theorem x_catchX {K : KX} {g : GP} {cc : ByteArray} {own : String} {nL : Nat} {ret : Option FieldType} {hh : List (Nat × Nat × Nat × Nat)} {fr lo mc ms : Nat} {Q : State → Prop} {M : MM} {a b pc : Nat} {L : List (Nat × Value)} (F : Fx K g cc own nL ret hh fr lo mc ms) {E : String} (pre : List ExceptionTableEntry) (x9 : ExceptionTableEntry) (suf : List ExceptionTableEntry) (hsplit : tableOf hh = pre ++ x9 :: suf) (hpass : ∀ z ∈ pre, covers z pc = false ∨ (z.catchType ≠ 0 ∧ ∃ nm, Cond.classLink own z.catchType nm ∈ TB ∧ (E, nm) ∈ NCl)) (hx : covers x9 pc = true) (h0 : x9.catchType ≠ 0) (hlink : Cond.classLink own x9.catchType E ∈ TB) (hE : (E, E) ∈ CCl) (kk : ∀ q, XW K g nL Q M a b x9.handlerPc L [.ref q]) : XT K g nL Q M a b pc L E := by
  intro H lc ls rest q ce hM hS hl hce hcv hcl
  refine vx_catch F.ow pre x9 suf (F.ta.trans hsplit) (fun z hz => ?_) hx h0 (F.tb _ hlink) (va_Nw.use rfl (F.gg.2.2.2.2.1 _ hE)) hce hcv hcl (kk q H lc ls hM hS hl)
  rcases hpass z hz with h | ⟨h, nm, h1, h2⟩
  · exact Or.inl h
  · exact Or.inr ⟨h, nm, F.tb _ h1, F.gg.2.2.2.2.2.2.1 _ h2⟩
theorem lv_cg {σ σ' : ST} (h : ∀ s i, s = 6 ∨ s = 17 ∨ s = 18 ∨ s = 41 → σ'.1 s i = σ.1 s i) (c : Nat) : lvB σ' c = lvB σ c := by
  unfold lvB
  simp only [h 6 _ (Or.inl rfl), h 17 _ (Or.inr (Or.inl rfl)), h 18 _ (Or.inr (Or.inr (Or.inl rfl))), h 41 _ (Or.inr (Or.inr (Or.inr rfl)))]
theorem sN_rider {σ : ST} {s i : Nat} (h : s = 6 ∨ s = 17 ∨ s = 18 ∨ s = 41) : (rdU σ).1 s i = σ.1 s i := if_neg (fun z => by omega)
theorem sN_close {σ : ST} {r s i : Nat} (h : s = 6 ∨ s = 17 ∨ s = 18 ∨ s = 41) : (clU σ r).1 s i = σ.1 s i := (if_neg (fun z => by omega)).trans (congrFun (congrFun (clE_1 _) s) i)
theorem sN_hide {σ : ST} {v s i : Nat} (h : s = 6 ∨ s = 17 ∨ s = 18 ∨ s = 41) : (uN σ 30 0 v).1 s i = σ.1 s i := if_neg (fun z => by omega)
theorem sN_draw {σ : ST} {r s i : Nat} (h : s = 6 ∨ s = 17 ∨ s = 18 ∨ s = 41) : (drnU σ r).1 s i = σ.1 s i := (if_neg (fun z => by omega)).trans (congrFun (drP_N (by omega) _) i)
theorem sN_ride {σ : ST} {k b mk w s i : Nat} {f : Bool} (h : s = 6 ∨ s = 17 ∨ s = 18 ∨ s = 41) : (ridU σ k b mk w f).1 s i = σ.1 s i := by
  rcases h with rfl | rfl | rfl | rfl <;> rfl
theorem sN_answer {σ : ST} {r j s i : Nat} {f : Bool} (h : s = 6 ∨ s = 17 ∨ s = 18 ∨ s = 41) : (ansU σ r j f).1 s i = σ.1 s i := by
  unfold ansU
  split
  · rw [drwU_N (by omega)]
    rcases h with rfl | rfl | rfl | rfl <;> rfl
  · rcases h with rfl | rfl | rfl | rfl <;> rfl
theorem sN_pay {σ : ST} {r s i : Nat} (h : s = 6 ∨ s = 17 ∨ s = 18 ∨ s = 41) : (pyU σ r).1 s i = σ.1 s i := pyU_N (by omega) (by omega)
