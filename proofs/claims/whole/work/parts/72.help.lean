/-! the law's helpers: calls that may throw, caught by the law -/
theorem x_sld {K : KX} {g : GP} {cc : ByteArray} {own : String} {nL : Nat} {ret : Option FieldType} {hh : List (Nat × Nat × Nat × Nat)} {fr lo mc ms : Nat} {Q : State → Prop} {M : MM} {a b pc : Nat} {L : List (Nat × Value)} {st : List Value} (F : Fx K g cc own nL ret hh fr lo mc ms) {b0 L0 : Nat} {xs : Nat → Int32} (hX : va_X b0 L0 xs (ks K) (ks K).heap) (hbl : b0 < (ks K).heap.size) (hbA : ¬ gO g b0) {i : Int32} (hin : vp_in i L0) (d : decode cc pc = .ok (.iaload, 1)) (kk : XW K g nL Q M a b (pc + 1) L (.int (xs i.toNatClampNeg) :: st)) : XW K g nL Q M a b pc L (.int i :: .ref b0 :: st) :=
  fun H lc ls hM hS hl => va_sld F.ex F.by_ hX hbl hbA hS hin d (kk H lc ls hM hS hl)
theorem x_slen {K : KX} {g : GP} {cc : ByteArray} {own : String} {nL : Nat} {ret : Option FieldType} {hh : List (Nat × Nat × Nat × Nat)} {fr lo mc ms : Nat} {Q : State → Prop} {M : MM} {a b pc : Nat} {L : List (Nat × Value)} {st : List Value} (F : Fx K g cc own nL ret hh fr lo mc ms) {b0 L0 : Nat} {xs : Nat → Int32} (hX : va_X b0 L0 xs (ks K) (ks K).heap) (hbl : b0 < (ks K).heap.size) (hbA : ¬ gO g b0) (d : decode cc pc = .ok (.arraylength, 1)) (kk : XW K g nL Q M a b (pc + 1) L (.int (Int32.ofNat L0) :: st)) : XW K g nL Q M a b pc L (.ref b0 :: st) :=
  fun H lc ls hM hS hl => va_slen F.ex F.by_ hX hbl hbA hS d (kk H lc ls hM hS hl)
def CTH (l : Launch) (g : GP) (y : MethodName) (cc : ByteArray) (nL : Nat) (ret : Option FieldType) (hh : List (Nat × Nat × Nat × Nat)) (fr lo mc ms : Nat) (av : List Value) (M : MM) (post : Option Value → MM → Prop) : Prop :=
  vx_Met l y (Cond.codeWith y cc nL ret hh :: TB) { frames := fr, cells := mc, slots := ms, locals := lo } (xPc g av M) (xQc g post) (xXC g nX) mc ms (gO g)
theorem cth_of {l : Launch} {g : GP} {y : MethodName} {cc : ByteArray} {nL : Nat} {ret : Option FieldType} {hh : List (Nat × Nat × Nat × Nat)} {fr lo mc ms : Nat} {av : List Value} {M : MM} {post : Option Value → MM → Prop} (L : List (Nat × Value)) (hy : plainName y.cls = true) (hl : l.stackTraces = false) (hn : (lg_sl av).length ≤ nL) (hL : lv_args 0 av = L)
    (h : ∀ K : KX, kl K = l → Fx K g cc y.cls nL ret hh fr lo mc ms → XW K g nL (MQx K g post nX mc ms) M 0 0 0 L []) : CTH l g y cc nL ret hh fr lo mc ms av M post := by
  refine vx_ofWH (cc := cc) (maxL := nL) (ret := ret) (hh := hh) hy rfl ?_
  intro p e s m args below meth c s₁ B hml hv
  obtain ⟨rfl, hG, hM⟩ := hv
  have hts := atoms_spec (ws := Cond.codeWith y cc nL ret hh :: TB) B.pre
  have hl0 := lv_entry av (n := nL) hn
  rw [hL] at hl0
  rw [lg_entry_eq]
  have ht2 : c.exceptionTable.toList = tableOf hh := vx_table (x := y) B (hts _ List.mem_cons_self)
  exact h (p, l, e, (headSpec (Cond.codeWith y cc nL ret hh :: TB) { frames := fr, cells := mc, slots := ms, locals := lo }).room, s, m, _, below, meth, c) rfl ⟨B.exec, B.bytes, hml, findClass_of_methodNamed B.named, fun w hw => hts w (List.mem_cons_of_mem _ hw), hG, B.returns, B.notSynchronized, ht2, hl, rfl, rfl, rfl, rfl⟩ s.heap [] _ hM va_S.rf hl0
/-- what the tables say of a helper's site -/
def CSH (own : String) (idx : Nat) (y : MethodName) (bytes : ByteArray) (maxL : Nat) (yr : Option FieldType) (hh : List (Nat × Nat × Nat × Nat)) (n : Nat) : Prop :=
  (Cond.methodLink own idx y ∈ TB ∧ Cond.static y ∈ TB ∧ Cond.initialized y.cls ∈ TB ∧ Cond.codeWith y bytes maxL yr hh ∈ TB) ∧ y.cls ≠ "java/lang/invoke/MethodHandle" ∧ y.cls ≠ "java/lang/invoke/VarHandle" ∧ (parseMethodDescriptor y.desc).map (fun d => d.parameters.length) = some n
theorem x_callH {K : KX} {g : GP} {cc : ByteArray} {own : String} {nL : Nat} {ret : Option FieldType} {hh : List (Nat × Nat × Nat × Nat)} {fr lo mc ms : Nat} {Q : State → Prop} {M : MM} {a b pc : Nat} {L : List (Nat × Value)} {st : List Value} (F : Fx K g cc own nL ret hh fr lo mc ms) {idx n maxL fr' lo' mc' ms' : Nat} {y : MethodName} {bytes : ByteArray} {yr : Option FieldType} {h2 : List (Nat × Nat × Nat × Nat)} {post : Option Value → MM → Prop} {As rest : List Value} (cs : CSH own idx y bytes maxL yr h2 n) (hn : As.length = n) (hct : CTH (kl K) g y bytes maxL yr h2 fr' lo' mc' ms' As M post) (hst : st = As.reverse ++ rest) (d : decode cc pc = .ok (.invokestatic idx, 3)) (hR : fr' + 1 ≤ fr ∧ 8 + (maxL + 11) + lo' ≤ lo) (hr : a + mc' ≤ mc ∧ b + ms' ≤ ms) (h8 : (rest.map fun v => v.category).sum ≤ 8)
    (kk : ∀ v M', post v M' → XW K g nL Q M' (a + mc') (b + ms') (pc + 3) L (v.toList ++ rest)) : XW K g nL Q M a b pc L st := by
  intro H lc ls hM hS hl
  obtain ⟨⟨w1, w2, w4, w5⟩, d1, d2, d3⟩ := cs
  refine x_after (l1 := kl K) (y := y) (bytes := bytes) (maxL := maxL) (fr' := fr') (lo' := lo') (yr := yr) (av := As) (px := nX) x_noX kk hS hl ?_
  refine vx_runSX (hh := h2) (bytes := bytes) (maxL := maxL) (ret := yr) (n := n) (x_fix F) hct (vx_cwSW (hh := h2) n F.tb (fun w hw => ?_) rfl rfl rfl ⟨d1, d2, d3⟩ (by rw [F.rf, F.rl]; exact hR)) ⟨xPc_blind, x_pre F hM hS⟩ rfl hn hl.1 hst (lv_room h8) d ⟨by rw [F.rc]; exact hr.1, by rw [F.rs]; exact hr.2⟩
  have hm : w ∈ TB := by
    unfold va_wsS at hw
    rcases List.mem_append.mp hw with hw | hw
    · rcases List.mem_cons.mp hw with rfl | hw
      · exact w1
      · rcases List.mem_cons.mp hw with rfl | hw
        · exact w2
        · rcases List.mem_cons.mp hw with rfl | hw
          · exact w4
          · cases hw
    · rcases List.mem_cons.mp hw with rfl | hw
      · exact w5
      · exact hw
  exact ⟨hm, good_of_word (tb_gw hm)⟩
theorem x_catchX {K : KX} {g : GP} {cc : ByteArray} {own : String} {nL : Nat} {ret : Option FieldType} {hh : List (Nat × Nat × Nat × Nat)} {fr lo mc ms : Nat} {Q : State → Prop} {M : MM} {a b pc : Nat} {L : List (Nat × Value)} (F : Fx K g cc own nL ret hh fr lo mc ms) {E : String} (pre : List ExceptionTableEntry) (x9 : ExceptionTableEntry) (suf : List ExceptionTableEntry) (hsplit : tableOf hh = pre ++ x9 :: suf) (hpass : ∀ z ∈ pre, covers z pc = false ∨ (z.catchType ≠ 0 ∧ ∃ nm, Cond.classLink own z.catchType nm ∈ TB ∧ (E, nm) ∈ NCl)) (hx : covers x9 pc = true) (h0 : x9.catchType ≠ 0) (hlink : Cond.classLink own x9.catchType E ∈ TB) (hE : (E, E) ∈ CCl) (kk : ∀ q, XW K g nL Q M a b x9.handlerPc L [.ref q]) : XT K g nL Q M a b pc L E := by
  intro H lc ls rest q ce hM hS hl hce hcv hcl
  refine vx_catch F.ow pre x9 suf (F.ta.trans hsplit) (fun z hz => ?_) hx h0 (F.tb _ hlink) (va_Nw.use rfl (F.gg.2.2.2.2.1 _ hE)) hce hcv hcl (kk q H lc ls hM hS hl)
  rcases hpass z hz with h | ⟨h, nm, h1, h2⟩
  · exact Or.inl h
  · exact Or.inr ⟨h, nm, F.tb _ h1, F.gg.2.2.2.2.2.2.1 _ h2⟩
def HV (g : GP) (A : Nat → Nat) (M : MM) (σ σ1 : ST) (M9 : MM) : Prop := ∃ A2, A2 0 = A 0 ∧ CM g A2 M σ1 M9 ∧ ∀ c, lvB σ1 c = true → (lvB σ c = true ∧ A2 c = A c) ∨ M (A2 c) = none
def HP (g : GP) (A : Nat → Nat) (M : MM) (σ : ST) (o : Nat) (σ1 : ST) (cd : Nat) (RS : Int64) (M9 : MM) : Prop := ∃ A2 M1, A2 0 = A 0 ∧ CM g A2 M σ1 M1 ∧ (∀ c, lvB σ1 c = true → (lvB σ c = true ∧ A2 c = A c) ∨ M (A2 c) = none) ∧ ((cd = 0 ∧ ∃ f, M9 = mup M1 o (.inl (gC g 1, 1, .inr (.inl f))) ∧ f 0 = RS) ∨ (¬ cd = 0 ∧ M9 = M1))
theorem hp_o {g : GP} {A A2 : Nat → Nat} {M M1 : MM} {σ σ1 : ST} {o : Nat} {e : va_E} (hR : CM g A2 M σ1 M1) (hA : ∀ c, lvB σ1 c = true → (lvB σ c = true ∧ A2 c = A c) ∨ M (A2 c) = none) (ho : ∀ c, lvB σ c = true → o ≠ A c) (hO : M o = some e) : M1 o = some e := by
  rw [hR.2.2 o (fun c hc z => ?_)]
  · exact hO
  · rcases hA c hc with ⟨h1, h2⟩ | h
    · exact ho c h1 (z.trans h2)
    · rw [← z, hO] at h; cases h
theorem lv_cg {σ σ' : ST} (h : ∀ s i, s = 6 ∨ s = 17 ∨ s = 18 ∨ s = 41 → σ'.1 s i = σ.1 s i) (c : Nat) : lvB σ' c = lvB σ c := by
  unfold lvB
  simp only [h 6 _ (Or.inl rfl), h 17 _ (Or.inr (Or.inl rfl)), h 18 _ (Or.inr (Or.inr (Or.inl rfl))), h 41 _ (Or.inr (Or.inr (Or.inr rfl)))]
theorem upd_0 {f : Nat → Int64} {x9 : Int64} : vp_updL f (nI 0).toNatClampNeg x9 0 = x9 := by rw [nI_clamp (n := 0) (by decide)]; exact if_pos rfl
theorem sN_rider {σ : ST} {s i : Nat} (h : s = 6 ∨ s = 17 ∨ s = 18 ∨ s = 41) : (rdU σ).1 s i = σ.1 s i := if_neg (fun z => by omega)
theorem sN_close {σ : ST} {r s i : Nat} (h : s = 6 ∨ s = 17 ∨ s = 18 ∨ s = 41) : (clU σ r).1 s i = σ.1 s i := (if_neg (fun z => by omega)).trans (congrFun (congrFun (clE_1 _) s) i)
theorem sN_hide {σ : ST} {v s i : Nat} (h : s = 6 ∨ s = 17 ∨ s = 18 ∨ s = 41) : (uN σ 30 0 v).1 s i = σ.1 s i := if_neg (fun z => by omega)
theorem sN_draw {σ : ST} {r s i : Nat} (h : s = 6 ∨ s = 17 ∨ s = 18 ∨ s = 41) : (drnU σ r).1 s i = σ.1 s i := (if_neg (fun z => by omega)).trans (congrFun (drP_N (by omega) _) i)
theorem sN_ride {σ : ST} {k b mk w s i : Nat} {f : Bool} (h : s = 6 ∨ s = 17 ∨ s = 18 ∨ s = 41) : (ridU σ k b mk w f).1 s i = σ.1 s i := by
  rcases h with rfl | rfl | rfl | rfl <;> rfl
theorem sN_answer {σ : ST} {r j s i : Nat} {f : Bool} (h : s = 6 ∨ s = 17 ∨ s = 18 ∨ s = 41) : (ansU σ r j f).1 s i = σ.1 s i := by
  unfold ansU
  split
  · rw [drwU_N (by omega)]
    rcases h with rfl | rfl | rfl | rfl <;> rfl
  · rcases h with rfl | rfl | rfl | rfl <;> rfl
theorem sN_pay {σ : ST} {r s i : Nat} (h : s = 6 ∨ s = 17 ∨ s = 18 ∨ s = 41) : (pyU σ r).1 s i = σ.1 s i := pyU_N (by omega) (by omega)
set_option maxRecDepth 20000 in
theorem w_cl13 : Cond.classLink RL 13 sIA ∈ TB := tb_1 126 rfl rfl
set_option maxRecDepth 20000 in
theorem w_cl15 : Cond.classLink RL 15 sIS ∈ TB := tb_1 127 rfl rfl
set_option maxRecDepth 20000 in
theorem w_cl29 : Cond.classLink RL 29 sIO ∈ TB := tb_2 145 rfl rfl
set_option maxHeartbeats 4000000 in
set_option maxRecDepth 100000 in
theorem c_L_beast {l : Launch} (hl : l.stackTraces = false) {g : GP} {M : MM} {A : Nat → Nat} {σ : ST} {x0 : Int32} {o : Nat} {fo : Nat → Int64} (hR : CM g A M σ M) (hB : Bd σ) (hbs : IBe σ) (hz : ∀ b, σ.1 6 0 ≤ b → σ.1 2 b = 0 ∧ σ.1 3 b = 0 ∧ σ.1 4 b = 0 ∧ σ.1 42 b = 0 ∧ σ.2.2 b = 0) (hO : M o = some (.inl (gC g 1, 1, .inr (.inl fo)))) (ho : ∀ c, lvB σ c = true → o ≠ A c) : CTH l g yL_beast cL_beast 4 (some .int) [(0, 9, 12, 13), (0, 9, 15, 15)] 8 212 2 29 [.ref (A 0), .int (x0), .ref (o)] M (pI (fun r9 M9 => r9 = nI (cdBe σ x0) ∧ HP g A M σ o (if cdBe σ x0 = 0 then beU σ x0 else σ) (cdBe σ x0) (nI (σ.1 6 0)).toInt64 M9)) := by
  refine cth_of [(0, .ref (A 0)), (1, .int (x0)), (2, .ref (o))] (by decide) hl (Nat.le_of_ble_eq_true rfl) rfl ?_
  intro K hK F
  subst hK
  have F : Fx K g cL_beast RL 4 (some .int) [(0, 9, 12, 13), (0, 9, 15, 15)] 8 212 2 29 := F
  obtain ⟨Q, hQ⟩ : ∃ Q, Q = MQx K g (pI (fun r9 M9 => r9 = nI (cdBe σ x0) ∧ HP g A M σ o (if cdBe σ x0 = 0 then beU σ x0 else σ) (cdBe σ x0) (nI (σ.1 6 0)).toInt64 M9)) nX 2 29 := ⟨_, rfl⟩
  rw [← hQ]
  refine x_aload_n F 2 dL_beast_0 rfl ?_
  refine x_iconst F (nI 0) dL_beast_1 (by decide) ?_
  refine x_aload_n F 0 dL_beast_2 rfl ?_
  refine x_iload_n F 1 dL_beast_3 rfl ?_
  refine x_callV F s_L_7 hR.c rfl rfl (c_X3_beast F.nt hR hB hbs hz) rfl dL_beast_4 (by decide) (by decide) (Nat.le_of_ble_eq_true rfl) (fun E M9 hx => ?_) (ki fun r9 M9 hp9 => ?_)
  · obtain ⟨rfl, hx⟩ := hx
    rcases hx with ⟨rfl, hc⟩ | ⟨rfl, hc⟩
    · refine x_catchX F [] ⟨0, 9, 12, 13⟩ [⟨0, 9, 15, 15⟩] rfl (fun z hz => by cases hz) (by decide) (by decide) w_cl13 (by decide) (fun q => ?_)
      refine x_astore_n F [(3, .ref (q)), (0, .ref (A 0)), (1, .int (x0)), (2, .ref (o))] dL_beast_12 (by decide) rfl ?_
      refine x_iconst F (nI 1) dL_beast_13 (by decide) ?_
      rw [hQ]
      exact x_iret F dL_beast_14 (by decide) ⟨_, rfl, by rw [hc], A, M, rfl, (by rw [if_neg (show ¬ cdBe σ x0 = 0 by rw [hc]; decide)]; exact hR), (fun c hc9 => by rw [if_neg (show ¬ cdBe σ x0 = 0 by rw [hc]; decide)] at hc9; exact Or.inl ⟨hc9, rfl⟩), Or.inr ⟨(show ¬ cdBe σ x0 = 0 by rw [hc]; decide), rfl⟩⟩
    · refine x_catchX F [⟨0, 9, 12, 13⟩] ⟨0, 9, 15, 15⟩ [] rfl (fun z hz => by rcases List.mem_cons.mp hz with rfl | hz; exact Or.inr ⟨by decide, sIA, w_cl13, by decide⟩; cases hz) (by decide) (by decide) w_cl15 (by decide) (fun q => ?_)
      refine x_astore_n F [(3, .ref (q)), (0, .ref (A 0)), (1, .int (x0)), (2, .ref (o))] dL_beast_15 (by decide) rfl ?_
      refine x_iconst F (nI 2) dL_beast_16 (by decide) ?_
      rw [hQ]
      exact x_iret F dL_beast_17 (by decide) ⟨_, rfl, by rw [hc], A, M, rfl, (by rw [if_neg (show ¬ cdBe σ x0 = 0 by rw [hc]; decide)]; exact hR), (fun c hc9 => by rw [if_neg (show ¬ cdBe σ x0 = 0 by rw [hc]; decide)] at hc9; exact Or.inl ⟨hc9, rfl⟩), Or.inr ⟨(show ¬ cdBe σ x0 = 0 by rw [hc]; decide), rfl⟩⟩
  · obtain ⟨hcd, rfl, A2, hA0, hR9, hA2⟩ := hp9
    have hO9 := hp_o hR9 hA2 ho hO
    refine x_i2l F dL_beast_7 ?_
    refine x_last F hO9 (vp_in_nI (n := 0) (by decide) (by decide)) dL_beast_8 ?_
    refine x_goto F 18 dL_beast_9 (by decide) ?_
    refine x_iconst F (nI 0) dL_beast_18 (by decide) ?_
    rw [hQ]
    exact x_iret F dL_beast_19 (by decide) ⟨_, rfl, by rw [hcd], A2, _, hA0, (by rw [if_pos hcd]; exact hR9), (by rw [if_pos hcd]; exact hA2), Or.inl ⟨hcd, _, rfl, upd_0⟩⟩
set_option maxHeartbeats 4000000 in
set_option maxRecDepth 100000 in
theorem c_L_rider {l : Launch} (hl : l.stackTraces = false) {g : GP} {M : MM} {A : Nat → Nat} {σ : ST} {o : Nat} {fo : Nat → Int64} (hR : CM g A M σ M) (hB : Bd σ) (hO : M o = some (.inl (gC g 1, 1, .inr (.inl fo)))) (ho : ∀ c, lvB σ c = true → o ≠ A c) : CTH l g yL_rider cL_rider 3 (some .int) [(0, 8, 11, 15)] 7 112 1 6 [.ref (A 0), .ref (o)] M (pI (fun r9 M9 => r9 = nI (cdRd σ) ∧ HP g A M σ o (if cdRd σ = 0 then rdU σ else σ) (cdRd σ) (nI (σ.1 7 0)).toInt64 M9)) := by
  refine cth_of [(0, .ref (A 0)), (1, .ref (o))] (by decide) hl (Nat.le_of_ble_eq_true rfl) rfl ?_
  intro K hK F
  subst hK
  have F : Fx K g cL_rider RL 3 (some .int) [(0, 8, 11, 15)] 7 112 1 6 := F
  obtain ⟨Q, hQ⟩ : ∃ Q, Q = MQx K g (pI (fun r9 M9 => r9 = nI (cdRd σ) ∧ HP g A M σ o (if cdRd σ = 0 then rdU σ else σ) (cdRd σ) (nI (σ.1 7 0)).toInt64 M9)) nX 1 6 := ⟨_, rfl⟩
  rw [← hQ]
  refine x_aload_n F 1 dL_rider_0 rfl ?_
  refine x_iconst F (nI 0) dL_rider_1 (by decide) ?_
  refine x_aload_n F 0 dL_rider_2 rfl ?_
  refine x_callV F s_L_17 hR.c rfl rfl (c_X3_rider F.nt hR hB) rfl dL_rider_3 (by decide) (by decide) (Nat.le_of_ble_eq_true rfl) (fun E M9 hx => ?_) (ki fun r9 M9 hp9 => ?_)
  · obtain ⟨rfl, hx⟩ := hx
    obtain ⟨rfl, hc⟩ := hx
    refine x_catchX F [] ⟨0, 8, 11, 15⟩ [] rfl (fun z hz => by cases hz) (by decide) (by decide) w_cl15 (by decide) (fun q => ?_)
    refine x_astore_n F [(2, .ref (q)), (0, .ref (A 0)), (1, .ref (o))] dL_rider_11 (by decide) rfl ?_
    refine x_iconst F (nI 1) dL_rider_12 (by decide) ?_
    rw [hQ]
    exact x_iret F dL_rider_13 (by decide) ⟨_, rfl, by rw [hc], A, M, rfl, (by rw [if_neg (show ¬ cdRd σ = 0 by rw [hc]; decide)]; exact hR), (fun c hc9 => by rw [if_neg (show ¬ cdRd σ = 0 by rw [hc]; decide)] at hc9; exact Or.inl ⟨hc9, rfl⟩), Or.inr ⟨(show ¬ cdRd σ = 0 by rw [hc]; decide), rfl⟩⟩
  · obtain ⟨hcd, rfl, hR9⟩ := hp9
    have hlv : ∀ c, lvB (rdU σ) c = lvB σ c := lv_cg (fun s9 i9 h9 => sN_rider h9)
    have hO9 := hp_o hR9 (fun c hc => Or.inl ⟨(hlv c).symm.trans hc, rfl⟩) ho hO
    refine x_i2l F dL_rider_6 ?_
    refine x_last F hO9 (vp_in_nI (n := 0) (by decide) (by decide)) dL_rider_7 ?_
    refine x_goto F 14 dL_rider_8 (by decide) ?_
    refine x_iconst F (nI 0) dL_rider_14 (by decide) ?_
    rw [hQ]
    exact x_iret F dL_rider_15 (by decide) ⟨_, rfl, by rw [hcd], A, _, rfl, (by rw [if_pos hcd]; exact hR9), (fun c hc9 => by rw [if_pos hcd] at hc9; exact Or.inl ⟨(hlv c).symm.trans hc9, rfl⟩), Or.inl ⟨hcd, _, rfl, upd_0⟩⟩
set_option maxHeartbeats 4000000 in
set_option maxRecDepth 100000 in
theorem c_L_rodeo {l : Launch} (hl : l.stackTraces = false) {g : GP} {M : MM} {A : Nat → Nat} {σ : ST} {a0 a1 a2 a3 a4 a5 a6 : Int32} {o : Nat} {fo : Nat → Int64} (hR : CM g A M σ M) (hB : Bd σ) (hW : IW σ) (hbs : IBe σ) (hz : (∀ k, k < 96 → σ.1 41 k = 1 → k < 12 * σ.1 18 0) ∧ (∀ r, σ.1 18 0 ≤ r → σ.1 15 r = 0 ∧ σ.1 17 r = 0 ∧ σ.2.1 16 r = 0)) (hO : M o = some (.inl (gC g 1, 1, .inr (.inl fo)))) (ho : ∀ c, lvB σ c = true → o ≠ A c) : CTH l g yL_rodeo cL_rodeo 10 (some .int) [(0, 20, 23, 13), (0, 20, 27, 15)] 8 217 4 55 [.ref (A 0), .int (a0), .int (a1), .int (a2), .int (a3), .int (a4), .int (a5), .int (a6), .ref (o)] M (pI (fun r9 M9 => r9 = nI (cdRo σ a0 a1 a2 a3 a4 a5 a6) ∧ HP g A M σ o (if cdRo σ a0 a1 a2 a3 a4 a5 a6 = 0 then roU σ a0 a1 a2 a3 a4 a5 a6 else σ) (cdRo σ a0 a1 a2 a3 a4 a5 a6) (nI (σ.1 18 0)).toInt64 M9)) := by
  refine cth_of [(0, .ref (A 0)), (1, .int (a0)), (2, .int (a1)), (3, .int (a2)), (4, .int (a3)), (5, .int (a4)), (6, .int (a5)), (7, .int (a6)), (8, .ref (o))] (by decide) hl (Nat.le_of_ble_eq_true rfl) rfl ?_
  intro K hK F
  subst hK
  have F : Fx K g cL_rodeo RL 10 (some .int) [(0, 20, 23, 13), (0, 20, 27, 15)] 8 217 4 55 := F
  obtain ⟨Q, hQ⟩ : ∃ Q, Q = MQx K g (pI (fun r9 M9 => r9 = nI (cdRo σ a0 a1 a2 a3 a4 a5 a6) ∧ HP g A M σ o (if cdRo σ a0 a1 a2 a3 a4 a5 a6 = 0 then roU σ a0 a1 a2 a3 a4 a5 a6 else σ) (cdRo σ a0 a1 a2 a3 a4 a5 a6) (nI (σ.1 18 0)).toInt64 M9)) nX 4 55 := ⟨_, rfl⟩
  rw [← hQ]
  refine x_aload F 8 dL_rodeo_0 rfl ?_
  refine x_iconst F (nI 0) dL_rodeo_2 (by decide) ?_
  refine x_aload_n F 0 dL_rodeo_3 rfl ?_
  refine x_iload_n F 1 dL_rodeo_4 rfl ?_
  refine x_iload_n F 2 dL_rodeo_5 rfl ?_
  refine x_iload_n F 3 dL_rodeo_6 rfl ?_
  refine x_iload F 4 dL_rodeo_7 rfl ?_
  refine x_iload F 5 dL_rodeo_9 rfl ?_
  refine x_iload F 6 dL_rodeo_11 rfl ?_
  refine x_iload F 7 dL_rodeo_13 rfl ?_
  refine x_callV F s_L_21 hR.c rfl rfl (c_X3_rodeo F.nt hR hB hW hbs hz) rfl dL_rodeo_15 (by decide) (by decide) (Nat.le_of_ble_eq_true rfl) (fun E M9 hx => ?_) (ki fun r9 M9 hp9 => ?_)
  · obtain ⟨rfl, hx⟩ := hx
    rcases hx with ⟨rfl, hc⟩ | ⟨rfl, hc⟩
    · refine x_catchX F [] ⟨0, 20, 23, 13⟩ [⟨0, 20, 27, 15⟩] rfl (fun z hz => by cases hz) (by decide) (by decide) w_cl13 (by decide) (fun q => ?_)
      refine x_astore F [(9, .ref (q)), (0, .ref (A 0)), (1, .int (a0)), (2, .int (a1)), (3, .int (a2)), (4, .int (a3)), (5, .int (a4)), (6, .int (a5)), (7, .int (a6)), (8, .ref (o))] dL_rodeo_23 (by decide) rfl ?_
      refine x_iconst F (nI 1) dL_rodeo_25 (by decide) ?_
      rw [hQ]
      exact x_iret F dL_rodeo_26 (by decide) ⟨_, rfl, by rw [hc], A, M, rfl, (by rw [if_neg (show ¬ cdRo σ a0 a1 a2 a3 a4 a5 a6 = 0 by rw [hc]; decide)]; exact hR), (fun c hc9 => by rw [if_neg (show ¬ cdRo σ a0 a1 a2 a3 a4 a5 a6 = 0 by rw [hc]; decide)] at hc9; exact Or.inl ⟨hc9, rfl⟩), Or.inr ⟨(show ¬ cdRo σ a0 a1 a2 a3 a4 a5 a6 = 0 by rw [hc]; decide), rfl⟩⟩
    · refine x_catchX F [⟨0, 20, 23, 13⟩] ⟨0, 20, 27, 15⟩ [] rfl (fun z hz => by rcases List.mem_cons.mp hz with rfl | hz; exact Or.inr ⟨by decide, sIA, w_cl13, by decide⟩; cases hz) (by decide) (by decide) w_cl15 (by decide) (fun q => ?_)
      refine x_astore F [(9, .ref (q)), (0, .ref (A 0)), (1, .int (a0)), (2, .int (a1)), (3, .int (a2)), (4, .int (a3)), (5, .int (a4)), (6, .int (a5)), (7, .int (a6)), (8, .ref (o))] dL_rodeo_27 (by decide) rfl ?_
      refine x_iconst F (nI 2) dL_rodeo_29 (by decide) ?_
      rw [hQ]
      exact x_iret F dL_rodeo_30 (by decide) ⟨_, rfl, by rw [hc], A, M, rfl, (by rw [if_neg (show ¬ cdRo σ a0 a1 a2 a3 a4 a5 a6 = 0 by rw [hc]; decide)]; exact hR), (fun c hc9 => by rw [if_neg (show ¬ cdRo σ a0 a1 a2 a3 a4 a5 a6 = 0 by rw [hc]; decide)] at hc9; exact Or.inl ⟨hc9, rfl⟩), Or.inr ⟨(show ¬ cdRo σ a0 a1 a2 a3 a4 a5 a6 = 0 by rw [hc]; decide), rfl⟩⟩
  · obtain ⟨hcd, rfl, A2, hA0, hR9, hA2⟩ := hp9
    have hO9 := hp_o hR9 hA2 ho hO
    refine x_i2l F dL_rodeo_18 ?_
    refine x_last F hO9 (vp_in_nI (n := 0) (by decide) (by decide)) dL_rodeo_19 ?_
    refine x_goto F 31 dL_rodeo_20 (by decide) ?_
    refine x_iconst F (nI 0) dL_rodeo_31 (by decide) ?_
    rw [hQ]
    exact x_iret F dL_rodeo_32 (by decide) ⟨_, rfl, by rw [hcd], A2, _, hA0, (by rw [if_pos hcd]; exact hR9), (by rw [if_pos hcd]; exact hA2), Or.inl ⟨hcd, _, rfl, upd_0⟩⟩
set_option maxHeartbeats 4000000 in
set_option maxRecDepth 100000 in
theorem c_L_rodeoIs {l : Launch} (hl : l.stackTraces = false) {g : GP} {M : MM} {A : Nat → Nat} {σ : ST} {x0 y0 : Int32} {o : Nat} {fo : Nat → Int64} (hR : CM g A M σ M) (hB : Bd σ) (hW : IW σ) (hD : ID σ) (hO : M o = some (.inl (gC g 1, 1, .inr (.inl fo)))) (ho : ∀ c, lvB σ c = true → o ≠ A c) : CTH l g yL_rodeoIs cL_rodeoIs 5 (some .int) [(0, 10, 13, 29), (0, 10, 17, 13)] 8 200 2 12 [.ref (A 0), .int (x0), .int (y0), .ref (o)] M (pI (fun r9 M9 => r9 = nI (cdRI σ x0 y0) ∧ HP g A M σ o σ (cdRI σ x0 y0) (tellsS σ (cl x0) y0).toInt64 M9)) := by
  refine cth_of [(0, .ref (A 0)), (1, .int (x0)), (2, .int (y0)), (3, .ref (o))] (by decide) hl (Nat.le_of_ble_eq_true rfl) rfl ?_
  intro K hK F
  subst hK
  have F : Fx K g cL_rodeoIs RL 5 (some .int) [(0, 10, 13, 29), (0, 10, 17, 13)] 8 200 2 12 := F
  obtain ⟨Q, hQ⟩ : ∃ Q, Q = MQx K g (pI (fun r9 M9 => r9 = nI (cdRI σ x0 y0) ∧ HP g A M σ o σ (cdRI σ x0 y0) (tellsS σ (cl x0) y0).toInt64 M9)) nX 2 12 := ⟨_, rfl⟩
  rw [← hQ]
  refine x_aload_n F 3 dL_rodeoIs_0 rfl ?_
  refine x_iconst F (nI 0) dL_rodeoIs_1 (by decide) ?_
  refine x_aload_n F 0 dL_rodeoIs_2 rfl ?_
  refine x_iload_n F 1 dL_rodeoIs_3 rfl ?_
  refine x_iload_n F 2 dL_rodeoIs_4 rfl ?_
  refine x_callV F s_L_25 hR.c rfl rfl (c_X3_rodeoIs F.nt hR hB hW hD) rfl dL_rodeoIs_5 (by decide) (by decide) (Nat.le_of_ble_eq_true rfl) (fun E M9 hx => ?_) (ki fun r9 M9 hp9 => ?_)
  · obtain ⟨rfl, hx⟩ := hx
    rcases hx with ⟨rfl, hc⟩ | ⟨rfl, hc⟩
    · refine x_catchX F [] ⟨0, 10, 13, 29⟩ [⟨0, 10, 17, 13⟩] rfl (fun z hz => by cases hz) (by decide) (by decide) w_cl29 (by decide) (fun q => ?_)
      refine x_astore F [(4, .ref (q)), (0, .ref (A 0)), (1, .int (x0)), (2, .int (y0)), (3, .ref (o))] dL_rodeoIs_13 (by decide) rfl ?_
      refine x_iconst F (nI 1) dL_rodeoIs_15 (by decide) ?_
      rw [hQ]
      exact x_iret F dL_rodeoIs_16 (by decide) ⟨_, rfl, by rw [hc], A, M, rfl, hR, (fun c hc9 => Or.inl ⟨hc9, rfl⟩), Or.inr ⟨(show ¬ cdRI σ x0 y0 = 0 by rw [hc]; decide), rfl⟩⟩
    · refine x_catchX F [⟨0, 10, 13, 29⟩] ⟨0, 10, 17, 13⟩ [] rfl (fun z hz => by rcases List.mem_cons.mp hz with rfl | hz; exact Or.inr ⟨by decide, sIO, w_cl29, by decide⟩; cases hz) (by decide) (by decide) w_cl13 (by decide) (fun q => ?_)
      refine x_astore F [(4, .ref (q)), (0, .ref (A 0)), (1, .int (x0)), (2, .int (y0)), (3, .ref (o))] dL_rodeoIs_17 (by decide) rfl ?_
      refine x_iconst F (nI 2) dL_rodeoIs_19 (by decide) ?_
      rw [hQ]
      exact x_iret F dL_rodeoIs_20 (by decide) ⟨_, rfl, by rw [hc], A, M, rfl, hR, (fun c hc9 => Or.inl ⟨hc9, rfl⟩), Or.inr ⟨(show ¬ cdRI σ x0 y0 = 0 by rw [hc]; decide), rfl⟩⟩
  · obtain ⟨hcd, rfl, rfl⟩ := hp9
    refine x_i2l F dL_rodeoIs_8 ?_
    refine x_last F hO (vp_in_nI (n := 0) (by decide) (by decide)) dL_rodeoIs_9 ?_
    refine x_goto F 21 dL_rodeoIs_10 (by decide) ?_
    refine x_iconst F (nI 0) dL_rodeoIs_21 (by decide) ?_
    rw [hQ]
    exact x_iret F dL_rodeoIs_22 (by decide) ⟨_, rfl, by rw [hcd], A, _, rfl, hR, (fun c hc9 => Or.inl ⟨hc9, rfl⟩), Or.inl ⟨hcd, _, rfl, upd_0⟩⟩
set_option maxHeartbeats 4000000 in
set_option maxRecDepth 100000 in
theorem c_L_enter {l : Launch} (hl : l.stackTraces = false) {g : GP} {M : MM} {A : Nat → Nat} {σ : ST} {x0 y0 s0 w0 : Int32} {o : Nat} {fo : Nat → Int64} (hR : CM g A M σ M) (hB : Bd σ) (hW : IW σ) (hD : ID σ) (hbs : IBe σ) (hp1 : ∀ r, r < σ.1 18 0 → 1 ≤ σ.1 11 r) (hlt : ∀ r j, r < σ.1 18 0 → j < σ.1 7 0 → hasE σ r j = false → σ.1 17 r < 12) (hO : M o = some (.inl (gC g 1, 1, .inr (.inl fo)))) (ho : ∀ c, lvB σ c = true → o ≠ A c) : CTH l g yL_enter cL_enter 7 (some .int) [(0, 14, 17, 29), (0, 14, 21, 13), (0, 14, 25, 15)] 10 241 5 51 [.ref (A 0), .int (x0), .int (y0), .int (s0), .int (w0), .ref (o)] M (pI (fun r9 M9 => r9 = nI (cdEn σ x0 y0 s0 w0) ∧ HP g A M σ o (if cdEn σ x0 y0 s0 w0 = 0 then enU σ (cl x0) (cl y0) (cl s0) (cl w0) else σ) (cdEn σ x0 y0 s0 w0) (nI (σ.1 17 (cl x0) + 1)).toInt64 M9)) := by
  refine cth_of [(0, .ref (A 0)), (1, .int (x0)), (2, .int (y0)), (3, .int (s0)), (4, .int (w0)), (5, .ref (o))] (by decide) hl (Nat.le_of_ble_eq_true rfl) rfl ?_
  intro K hK F
  subst hK
  have F : Fx K g cL_enter RL 7 (some .int) [(0, 14, 17, 29), (0, 14, 21, 13), (0, 14, 25, 15)] 10 241 5 51 := F
  obtain ⟨Q, hQ⟩ : ∃ Q, Q = MQx K g (pI (fun r9 M9 => r9 = nI (cdEn σ x0 y0 s0 w0) ∧ HP g A M σ o (if cdEn σ x0 y0 s0 w0 = 0 then enU σ (cl x0) (cl y0) (cl s0) (cl w0) else σ) (cdEn σ x0 y0 s0 w0) (nI (σ.1 17 (cl x0) + 1)).toInt64 M9)) nX 5 51 := ⟨_, rfl⟩
  rw [← hQ]
  refine x_aload F 5 dL_enter_0 rfl ?_
  refine x_iconst F (nI 0) dL_enter_2 (by decide) ?_
  refine x_aload_n F 0 dL_enter_3 rfl ?_
  refine x_iload_n F 1 dL_enter_4 rfl ?_
  refine x_iload_n F 2 dL_enter_5 rfl ?_
  refine x_iload_n F 3 dL_enter_6 rfl ?_
  refine x_iload F 4 dL_enter_7 rfl ?_
  refine x_callV F s_L_31 hR.c rfl rfl (c_X3_enter F.nt hR hB hW hD hbs hp1 hlt) rfl dL_enter_9 (by decide) (by decide) (Nat.le_of_ble_eq_true rfl) (fun E M9 hx => ?_) (ki fun r9 M9 hp9 => ?_)
  · obtain ⟨rfl, hx⟩ := hx
    rcases hx with ⟨rfl, hc⟩ | ⟨rfl, hc⟩ | ⟨rfl, hc⟩
    · refine x_catchX F [] ⟨0, 14, 17, 29⟩ [⟨0, 14, 21, 13⟩, ⟨0, 14, 25, 15⟩] rfl (fun z hz => by cases hz) (by decide) (by decide) w_cl29 (by decide) (fun q => ?_)
      refine x_astore F [(6, .ref (q)), (0, .ref (A 0)), (1, .int (x0)), (2, .int (y0)), (3, .int (s0)), (4, .int (w0)), (5, .ref (o))] dL_enter_17 (by decide) rfl ?_
      refine x_iconst F (nI 1) dL_enter_19 (by decide) ?_
      rw [hQ]
      exact x_iret F dL_enter_20 (by decide) ⟨_, rfl, by rw [hc], A, M, rfl, (by rw [if_neg (show ¬ cdEn σ x0 y0 s0 w0 = 0 by rw [hc]; decide)]; exact hR), (fun c hc9 => by rw [if_neg (show ¬ cdEn σ x0 y0 s0 w0 = 0 by rw [hc]; decide)] at hc9; exact Or.inl ⟨hc9, rfl⟩), Or.inr ⟨(show ¬ cdEn σ x0 y0 s0 w0 = 0 by rw [hc]; decide), rfl⟩⟩
    · refine x_catchX F [⟨0, 14, 17, 29⟩] ⟨0, 14, 21, 13⟩ [⟨0, 14, 25, 15⟩] rfl (fun z hz => by rcases List.mem_cons.mp hz with rfl | hz; exact Or.inr ⟨by decide, sIO, w_cl29, by decide⟩; cases hz) (by decide) (by decide) w_cl13 (by decide) (fun q => ?_)
      refine x_astore F [(6, .ref (q)), (0, .ref (A 0)), (1, .int (x0)), (2, .int (y0)), (3, .int (s0)), (4, .int (w0)), (5, .ref (o))] dL_enter_21 (by decide) rfl ?_
      refine x_iconst F (nI 2) dL_enter_23 (by decide) ?_
      rw [hQ]
      exact x_iret F dL_enter_24 (by decide) ⟨_, rfl, by rw [hc], A, M, rfl, (by rw [if_neg (show ¬ cdEn σ x0 y0 s0 w0 = 0 by rw [hc]; decide)]; exact hR), (fun c hc9 => by rw [if_neg (show ¬ cdEn σ x0 y0 s0 w0 = 0 by rw [hc]; decide)] at hc9; exact Or.inl ⟨hc9, rfl⟩), Or.inr ⟨(show ¬ cdEn σ x0 y0 s0 w0 = 0 by rw [hc]; decide), rfl⟩⟩
    · refine x_catchX F [⟨0, 14, 17, 29⟩, ⟨0, 14, 21, 13⟩] ⟨0, 14, 25, 15⟩ [] rfl (fun z hz => by rcases List.mem_cons.mp hz with rfl | hz; exact Or.inr ⟨by decide, sIO, w_cl29, by decide⟩; rcases List.mem_cons.mp hz with rfl | hz; exact Or.inr ⟨by decide, sIA, w_cl13, by decide⟩; cases hz) (by decide) (by decide) w_cl15 (by decide) (fun q => ?_)
      refine x_astore F [(6, .ref (q)), (0, .ref (A 0)), (1, .int (x0)), (2, .int (y0)), (3, .int (s0)), (4, .int (w0)), (5, .ref (o))] dL_enter_25 (by decide) rfl ?_
      refine x_iconst F (nI 3) dL_enter_27 (by decide) ?_
      rw [hQ]
      exact x_iret F dL_enter_28 (by decide) ⟨_, rfl, by rw [hc], A, M, rfl, (by rw [if_neg (show ¬ cdEn σ x0 y0 s0 w0 = 0 by rw [hc]; decide)]; exact hR), (fun c hc9 => by rw [if_neg (show ¬ cdEn σ x0 y0 s0 w0 = 0 by rw [hc]; decide)] at hc9; exact Or.inl ⟨hc9, rfl⟩), Or.inr ⟨(show ¬ cdEn σ x0 y0 s0 w0 = 0 by rw [hc]; decide), rfl⟩⟩
  · obtain ⟨hcd, rfl, A2, hA0, hR9, hA2⟩ := hp9
    have hO9 := hp_o hR9 hA2 ho hO
    refine x_i2l F dL_enter_12 ?_
    refine x_last F hO9 (vp_in_nI (n := 0) (by decide) (by decide)) dL_enter_13 ?_
    refine x_goto F 29 dL_enter_14 (by decide) ?_
    refine x_iconst F (nI 0) dL_enter_29 (by decide) ?_
    rw [hQ]
    exact x_iret F dL_enter_30 (by decide) ⟨_, rfl, by rw [hcd], A2, _, hA0, (by rw [if_pos hcd]; exact hR9), (by rw [if_pos hcd]; exact hA2), Or.inl ⟨hcd, _, rfl, upd_0⟩⟩
set_option maxHeartbeats 4000000 in
set_option maxRecDepth 100000 in
theorem c_L_close {l : Launch} (hl : l.stackTraces = false) {g : GP} {M : MM} {A : Nat → Nat} {σ : ST} {x0 : Int32} {o : Nat} {fo : Nat → Int64} (hR : CM g A M σ M) (hB : Bd σ) (hW : IW σ) (hD : ID σ) (hwi : ∀ k, k < 96 → σ.1 41 k = 1 → (σ.1 20 k).testBit (σ.1 21 k) = true) (hO : M o = some (.inl (gC g 1, 1, .inr (.inl fo)))) (ho : ∀ c, lvB σ c = true → o ≠ A c) : CTH l g yL_close cL_close 4 (some .int) [(0, 9, 12, 29), (0, 9, 15, 15)] 8 213 2 12 [.ref (A 0), .int (x0), .ref (o)] M (pI (fun r9 M9 => r9 = nI (cdSt σ x0 0) ∧ HP g A M σ o (if cdSt σ x0 0 = 0 then clU σ (cl x0) else σ) (cdSt σ x0 0) (nI (plIn (clU σ (cl x0)) (cl x0))).toInt64 M9)) := by
  refine cth_of [(0, .ref (A 0)), (1, .int (x0)), (2, .ref (o))] (by decide) hl (Nat.le_of_ble_eq_true rfl) rfl ?_
  intro K hK F
  subst hK
  have F : Fx K g cL_close RL 4 (some .int) [(0, 9, 12, 29), (0, 9, 15, 15)] 8 213 2 12 := F
  obtain ⟨Q, hQ⟩ : ∃ Q, Q = MQx K g (pI (fun r9 M9 => r9 = nI (cdSt σ x0 0) ∧ HP g A M σ o (if cdSt σ x0 0 = 0 then clU σ (cl x0) else σ) (cdSt σ x0 0) (nI (plIn (clU σ (cl x0)) (cl x0))).toInt64 M9)) nX 2 12 := ⟨_, rfl⟩
  rw [← hQ]
  refine x_aload_n F 2 dL_close_0 rfl ?_
  refine x_iconst F (nI 0) dL_close_1 (by decide) ?_
  refine x_aload_n F 0 dL_close_2 rfl ?_
  refine x_iload_n F 1 dL_close_3 rfl ?_
  refine x_callV F s_L_35 hR.c rfl rfl (c_X3_close F.nt hR hB hW hD hwi) rfl dL_close_4 (by decide) (by decide) (Nat.le_of_ble_eq_true rfl) (fun E M9 hx => ?_) (ki fun r9 M9 hp9 => ?_)
  · obtain ⟨rfl, hx⟩ := hx
    rcases hx with ⟨rfl, hc⟩ | ⟨rfl, hc⟩
    · refine x_catchX F [] ⟨0, 9, 12, 29⟩ [⟨0, 9, 15, 15⟩] rfl (fun z hz => by cases hz) (by decide) (by decide) w_cl29 (by decide) (fun q => ?_)
      refine x_astore_n F [(3, .ref (q)), (0, .ref (A 0)), (1, .int (x0)), (2, .ref (o))] dL_close_12 (by decide) rfl ?_
      refine x_iconst F (nI 1) dL_close_13 (by decide) ?_
      rw [hQ]
      exact x_iret F dL_close_14 (by decide) ⟨_, rfl, by rw [hc], A, M, rfl, (by rw [if_neg (show ¬ cdSt σ x0 0 = 0 by rw [hc]; decide)]; exact hR), (fun c hc9 => by rw [if_neg (show ¬ cdSt σ x0 0 = 0 by rw [hc]; decide)] at hc9; exact Or.inl ⟨hc9, rfl⟩), Or.inr ⟨(show ¬ cdSt σ x0 0 = 0 by rw [hc]; decide), rfl⟩⟩
    · refine x_catchX F [⟨0, 9, 12, 29⟩] ⟨0, 9, 15, 15⟩ [] rfl (fun z hz => by rcases List.mem_cons.mp hz with rfl | hz; exact Or.inr ⟨by decide, sIO, w_cl29, by decide⟩; cases hz) (by decide) (by decide) w_cl15 (by decide) (fun q => ?_)
      refine x_astore_n F [(3, .ref (q)), (0, .ref (A 0)), (1, .int (x0)), (2, .ref (o))] dL_close_15 (by decide) rfl ?_
      refine x_iconst F (nI 2) dL_close_16 (by decide) ?_
      rw [hQ]
      exact x_iret F dL_close_17 (by decide) ⟨_, rfl, by rw [hc], A, M, rfl, (by rw [if_neg (show ¬ cdSt σ x0 0 = 0 by rw [hc]; decide)]; exact hR), (fun c hc9 => by rw [if_neg (show ¬ cdSt σ x0 0 = 0 by rw [hc]; decide)] at hc9; exact Or.inl ⟨hc9, rfl⟩), Or.inr ⟨(show ¬ cdSt σ x0 0 = 0 by rw [hc]; decide), rfl⟩⟩
  · obtain ⟨hcd, rfl, hR9⟩ := hp9
    have hlv : ∀ c, lvB (clU σ (cl x0)) c = lvB σ c := lv_cg (fun s9 i9 h9 => sN_close h9)
    have hO9 := hp_o hR9 (fun c hc => Or.inl ⟨(hlv c).symm.trans hc, rfl⟩) ho hO
    refine x_i2l F dL_close_7 ?_
    refine x_last F hO9 (vp_in_nI (n := 0) (by decide) (by decide)) dL_close_8 ?_
    refine x_goto F 18 dL_close_9 (by decide) ?_
    refine x_iconst F (nI 0) dL_close_18 (by decide) ?_
    rw [hQ]
    exact x_iret F dL_close_19 (by decide) ⟨_, rfl, by rw [hcd], A, _, rfl, (by rw [if_pos hcd]; exact hR9), (fun c hc9 => by rw [if_pos hcd] at hc9; exact Or.inl ⟨(hlv c).symm.trans hc9, rfl⟩), Or.inl ⟨hcd, _, rfl, upd_0⟩⟩
set_option maxHeartbeats 4000000 in
set_option maxRecDepth 100000 in
theorem c_L_placed {l : Launch} (hl : l.stackTraces = false) {g : GP} {M : MM} {A : Nat → Nat} {σ : ST} {x0 y0 : Int32} {o : Nat} {fo : Nat → Int64} (hR : CM g A M σ M) (hB : Bd σ) (hD : ID σ) (hO : M o = some (.inl (gC g 1, 1, .inr (.inl fo)))) (ho : ∀ c, lvB σ c = true → o ≠ A c) : CTH l g yL_placed cL_placed 5 (some .int) [(0, 10, 13, 29)] 9 181 2 12 [.ref (A 0), .int (x0), .int (y0), .ref (o)] M (pI (fun r9 M9 => r9 = nI (cdRR σ x0 y0) ∧ HP g A M σ o σ (cdRR σ x0 y0) (σ.2.1 22 (12 * cl x0 + cl y0)).toInt64 M9)) := by
  refine cth_of [(0, .ref (A 0)), (1, .int (x0)), (2, .int (y0)), (3, .ref (o))] (by decide) hl (Nat.le_of_ble_eq_true rfl) rfl ?_
  intro K hK F
  subst hK
  have F : Fx K g cL_placed RL 5 (some .int) [(0, 10, 13, 29)] 9 181 2 12 := F
  obtain ⟨Q, hQ⟩ : ∃ Q, Q = MQx K g (pI (fun r9 M9 => r9 = nI (cdRR σ x0 y0) ∧ HP g A M σ o σ (cdRR σ x0 y0) (σ.2.1 22 (12 * cl x0 + cl y0)).toInt64 M9)) nX 2 12 := ⟨_, rfl⟩
  rw [← hQ]
  refine x_aload_n F 3 dL_placed_0 rfl ?_
  refine x_iconst F (nI 0) dL_placed_1 (by decide) ?_
  refine x_aload_n F 0 dL_placed_2 rfl ?_
  refine x_iload_n F 1 dL_placed_3 rfl ?_
  refine x_iload_n F 2 dL_placed_4 rfl ?_
  refine x_callV F s_L_38 hR.c rfl rfl (c_X3_placed F.nt hR hB hD) rfl dL_placed_5 (by decide) (by decide) (Nat.le_of_ble_eq_true rfl) (fun E M9 hx => ?_) (ki fun r9 M9 hp9 => ?_)
  · obtain ⟨rfl, hx⟩ := hx
    obtain ⟨rfl, hc⟩ := hx
    refine x_catchX F [] ⟨0, 10, 13, 29⟩ [] rfl (fun z hz => by cases hz) (by decide) (by decide) w_cl29 (by decide) (fun q => ?_)
    refine x_astore F [(4, .ref (q)), (0, .ref (A 0)), (1, .int (x0)), (2, .int (y0)), (3, .ref (o))] dL_placed_13 (by decide) rfl ?_
    refine x_iconst F (nI 1) dL_placed_15 (by decide) ?_
    rw [hQ]
    exact x_iret F dL_placed_16 (by decide) ⟨_, rfl, by rw [hc], A, M, rfl, hR, (fun c hc9 => Or.inl ⟨hc9, rfl⟩), Or.inr ⟨(show ¬ cdRR σ x0 y0 = 0 by rw [hc]; decide), rfl⟩⟩
  · obtain ⟨hcd, rfl, rfl⟩ := hp9
    refine x_i2l F dL_placed_8 ?_
    refine x_last F hO (vp_in_nI (n := 0) (by decide) (by decide)) dL_placed_9 ?_
    refine x_goto F 17 dL_placed_10 (by decide) ?_
    refine x_iconst F (nI 0) dL_placed_17 (by decide) ?_
    rw [hQ]
    exact x_iret F dL_placed_18 (by decide) ⟨_, rfl, by rw [hcd], A, _, rfl, hR, (fun c hc9 => Or.inl ⟨hc9, rfl⟩), Or.inl ⟨hcd, _, rfl, upd_0⟩⟩
set_option maxHeartbeats 4000000 in
set_option maxRecDepth 100000 in
theorem c_L_most {l : Launch} (hl : l.stackTraces = false) {g : GP} {M : MM} {A : Nat → Nat} {σ : ST} {x0 : Int32} {o : Nat} {fo : Nat → Int64} (hR : CM g A M σ M) (hB : Bd σ) (hW : IW σ) (hD : ID σ) (hO : M o = some (.inl (gC g 1, 1, .inr (.inl fo)))) (ho : ∀ c, lvB σ c = true → o ≠ A c) : CTH l g yL_most cL_most 4 (some .int) [(0, 9, 12, 29)] 8 217 1 6 [.ref (A 0), .int (x0), .ref (o)] M (pI (fun r9 M9 => r9 = nI (cdMo σ x0) ∧ HP g A M σ o σ (cdMo σ x0) (nI (lstS σ (cl x0) (2 ^ σ.1 11 (cl x0)))).toInt64 M9)) := by
  refine cth_of [(0, .ref (A 0)), (1, .int (x0)), (2, .ref (o))] (by decide) hl (Nat.le_of_ble_eq_true rfl) rfl ?_
  intro K hK F
  subst hK
  have F : Fx K g cL_most RL 4 (some .int) [(0, 9, 12, 29)] 8 217 1 6 := F
  obtain ⟨Q, hQ⟩ : ∃ Q, Q = MQx K g (pI (fun r9 M9 => r9 = nI (cdMo σ x0) ∧ HP g A M σ o σ (cdMo σ x0) (nI (lstS σ (cl x0) (2 ^ σ.1 11 (cl x0)))).toInt64 M9)) nX 1 6 := ⟨_, rfl⟩
  rw [← hQ]
  refine x_aload_n F 2 dL_most_0 rfl ?_
  refine x_iconst F (nI 0) dL_most_1 (by decide) ?_
  refine x_aload_n F 0 dL_most_2 rfl ?_
  refine x_iload_n F 1 dL_most_3 rfl ?_
  refine x_callV F s_L_41 hR.c rfl rfl (c_X3_most F.nt hR hB hW hD) rfl dL_most_4 (by decide) (by decide) (Nat.le_of_ble_eq_true rfl) (fun E M9 hx => ?_) (ki fun r9 M9 hp9 => ?_)
  · obtain ⟨rfl, hx⟩ := hx
    obtain ⟨rfl, hc⟩ := hx
    refine x_catchX F [] ⟨0, 9, 12, 29⟩ [] rfl (fun z hz => by cases hz) (by decide) (by decide) w_cl29 (by decide) (fun q => ?_)
    refine x_astore_n F [(3, .ref (q)), (0, .ref (A 0)), (1, .int (x0)), (2, .ref (o))] dL_most_12 (by decide) rfl ?_
    refine x_iconst F (nI 1) dL_most_13 (by decide) ?_
    rw [hQ]
    exact x_iret F dL_most_14 (by decide) ⟨_, rfl, by rw [hc], A, M, rfl, hR, (fun c hc9 => Or.inl ⟨hc9, rfl⟩), Or.inr ⟨(show ¬ cdMo σ x0 = 0 by rw [hc]; decide), rfl⟩⟩
  · obtain ⟨hcd, rfl, rfl⟩ := hp9
    refine x_i2l F dL_most_7 ?_
    refine x_last F hO (vp_in_nI (n := 0) (by decide) (by decide)) dL_most_8 ?_
    refine x_goto F 15 dL_most_9 (by decide) ?_
    refine x_iconst F (nI 0) dL_most_15 (by decide) ?_
    rw [hQ]
    exact x_iret F dL_most_16 (by decide) ⟨_, rfl, by rw [hcd], A, _, rfl, hR, (fun c hc9 => Or.inl ⟨hc9, rfl⟩), Or.inl ⟨hcd, _, rfl, upd_0⟩⟩
set_option maxHeartbeats 4000000 in
set_option maxRecDepth 100000 in
theorem c_L_hide {l : Launch} (hl : l.stackTraces = false) {g : GP} {M : MM} {A : Nat → Nat} {σ : ST} {x0 : Int32} (hR : CM g A M σ M) (hB : Bd σ) : CTH l g yL_hide cL_hide 3 (some .int) [(0, 5, 8, 13)] 7 113 1 6 [.ref (A 0), .int (x0)] M (pI (fun r9 M9 => r9 = nI (cdHi x0) ∧ HV g A M σ (if cdHi x0 = 0 then uN σ 30 0 (cl x0) else σ) M9)) := by
  refine cth_of [(0, .ref (A 0)), (1, .int (x0))] (by decide) hl (Nat.le_of_ble_eq_true rfl) rfl ?_
  intro K hK F
  subst hK
  have F : Fx K g cL_hide RL 3 (some .int) [(0, 5, 8, 13)] 7 113 1 6 := F
  obtain ⟨Q, hQ⟩ : ∃ Q, Q = MQx K g (pI (fun r9 M9 => r9 = nI (cdHi x0) ∧ HV g A M σ (if cdHi x0 = 0 then uN σ 30 0 (cl x0) else σ) M9)) nX 1 6 := ⟨_, rfl⟩
  rw [← hQ]
  refine x_aload_n F 0 dL_hide_0 rfl ?_
  refine x_iload_n F 1 dL_hide_1 rfl ?_
  refine x_callV F s_L_44 hR.c rfl rfl (c_X3_hide F.nt hR hB) rfl dL_hide_2 (by decide) (by decide) (Nat.le_of_ble_eq_true rfl) (fun E M9 hx => ?_) (kv fun M9 hp9 => ?_)
  · obtain ⟨rfl, hx⟩ := hx
    obtain ⟨rfl, hc⟩ := hx
    refine x_catchX F [] ⟨0, 5, 8, 13⟩ [] rfl (fun z hz => by cases hz) (by decide) (by decide) w_cl13 (by decide) (fun q => ?_)
    refine x_astore_n F [(2, .ref (q)), (0, .ref (A 0)), (1, .int (x0))] dL_hide_8 (by decide) rfl ?_
    refine x_iconst F (nI 1) dL_hide_9 (by decide) ?_
    rw [hQ]
    exact x_iret F dL_hide_10 (by decide) ⟨_, rfl, by rw [hc], A, rfl, by rw [if_neg (show ¬ cdHi x0 = 0 by rw [hc]; decide)]; exact hR, fun c hc9 => by rw [if_neg (show ¬ cdHi x0 = 0 by rw [hc]; decide)] at hc9; exact Or.inl ⟨hc9, rfl⟩⟩
  · obtain ⟨hcd, hR9⟩ := hp9
    have hlv : ∀ c, lvB (uN σ 30 0 (cl x0)) c = lvB σ c := lv_cg (fun s9 i9 h9 => sN_hide h9)
    refine x_goto F 11 dL_hide_5 (by decide) ?_
    refine x_iconst F (nI 0) dL_hide_11 (by decide) ?_
    rw [hQ]
    exact x_iret F dL_hide_12 (by decide) ⟨_, rfl, by rw [hcd], A, rfl, by rw [if_pos hcd]; exact hR9, fun c hc9 => by rw [if_pos hcd] at hc9; exact Or.inl ⟨(hlv c).symm.trans hc9, rfl⟩⟩
set_option maxHeartbeats 4000000 in
set_option maxRecDepth 100000 in
theorem c_L_draw {l : Launch} (hl : l.stackTraces = false) {g : GP} {M : MM} {A : Nat → Nat} {σ : ST} {x0 : Int32} {o : Nat} {fo : Nat → Int64} (hR : CM g A M σ M) (hB : Bd σ) (hW : IW σ) (hO : M o = some (.inl (gC g 1, 1, .inr (.inl fo)))) (ho : ∀ c, lvB σ c = true → o ≠ A c) : CTH l g yL_draw cL_draw 4 (some .int) [(0, 9, 12, 29), (0, 9, 15, 15)] 9 235 2 12 [.ref (A 0), .int (x0), .ref (o)] M (pI (fun r9 M9 => r9 = nI (cdSt σ x0 1) ∧ HP g A M σ o (if cdSt σ x0 1 = 0 then drnU σ (cl x0) else σ) (cdSt σ x0 1) (nI (drN σ (cl x0) (σ.1 11 (cl x0)))).toInt64 M9)) := by
  refine cth_of [(0, .ref (A 0)), (1, .int (x0)), (2, .ref (o))] (by decide) hl (Nat.le_of_ble_eq_true rfl) rfl ?_
  intro K hK F
  subst hK
  have F : Fx K g cL_draw RL 4 (some .int) [(0, 9, 12, 29), (0, 9, 15, 15)] 9 235 2 12 := F
  obtain ⟨Q, hQ⟩ : ∃ Q, Q = MQx K g (pI (fun r9 M9 => r9 = nI (cdSt σ x0 1) ∧ HP g A M σ o (if cdSt σ x0 1 = 0 then drnU σ (cl x0) else σ) (cdSt σ x0 1) (nI (drN σ (cl x0) (σ.1 11 (cl x0)))).toInt64 M9)) nX 2 12 := ⟨_, rfl⟩
  rw [← hQ]
  refine x_aload_n F 2 dL_draw_0 rfl ?_
  refine x_iconst F (nI 0) dL_draw_1 (by decide) ?_
  refine x_aload_n F 0 dL_draw_2 rfl ?_
  refine x_iload_n F 1 dL_draw_3 rfl ?_
  refine x_callV F s_L_48 hR.c rfl rfl (c_X3_draw F.nt hR hB hW) rfl dL_draw_4 (by decide) (by decide) (Nat.le_of_ble_eq_true rfl) (fun E M9 hx => ?_) (ki fun r9 M9 hp9 => ?_)
  · obtain ⟨rfl, hx⟩ := hx
    rcases hx with ⟨rfl, hc⟩ | ⟨rfl, hc⟩
    · refine x_catchX F [] ⟨0, 9, 12, 29⟩ [⟨0, 9, 15, 15⟩] rfl (fun z hz => by cases hz) (by decide) (by decide) w_cl29 (by decide) (fun q => ?_)
      refine x_astore_n F [(3, .ref (q)), (0, .ref (A 0)), (1, .int (x0)), (2, .ref (o))] dL_draw_12 (by decide) rfl ?_
      refine x_iconst F (nI 1) dL_draw_13 (by decide) ?_
      rw [hQ]
      exact x_iret F dL_draw_14 (by decide) ⟨_, rfl, by rw [hc], A, M, rfl, (by rw [if_neg (show ¬ cdSt σ x0 1 = 0 by rw [hc]; decide)]; exact hR), (fun c hc9 => by rw [if_neg (show ¬ cdSt σ x0 1 = 0 by rw [hc]; decide)] at hc9; exact Or.inl ⟨hc9, rfl⟩), Or.inr ⟨(show ¬ cdSt σ x0 1 = 0 by rw [hc]; decide), rfl⟩⟩
    · refine x_catchX F [⟨0, 9, 12, 29⟩] ⟨0, 9, 15, 15⟩ [] rfl (fun z hz => by rcases List.mem_cons.mp hz with rfl | hz; exact Or.inr ⟨by decide, sIO, w_cl29, by decide⟩; cases hz) (by decide) (by decide) w_cl15 (by decide) (fun q => ?_)
      refine x_astore_n F [(3, .ref (q)), (0, .ref (A 0)), (1, .int (x0)), (2, .ref (o))] dL_draw_15 (by decide) rfl ?_
      refine x_iconst F (nI 2) dL_draw_16 (by decide) ?_
      rw [hQ]
      exact x_iret F dL_draw_17 (by decide) ⟨_, rfl, by rw [hc], A, M, rfl, (by rw [if_neg (show ¬ cdSt σ x0 1 = 0 by rw [hc]; decide)]; exact hR), (fun c hc9 => by rw [if_neg (show ¬ cdSt σ x0 1 = 0 by rw [hc]; decide)] at hc9; exact Or.inl ⟨hc9, rfl⟩), Or.inr ⟨(show ¬ cdSt σ x0 1 = 0 by rw [hc]; decide), rfl⟩⟩
  · obtain ⟨hcd, rfl, hR9⟩ := hp9
    have hlv : ∀ c, lvB (drnU σ (cl x0)) c = lvB σ c := lv_cg (fun s9 i9 h9 => sN_draw h9)
    have hO9 := hp_o hR9 (fun c hc => Or.inl ⟨(hlv c).symm.trans hc, rfl⟩) ho hO
    refine x_i2l F dL_draw_7 ?_
    refine x_last F hO9 (vp_in_nI (n := 0) (by decide) (by decide)) dL_draw_8 ?_
    refine x_goto F 18 dL_draw_9 (by decide) ?_
    refine x_iconst F (nI 0) dL_draw_18 (by decide) ?_
    rw [hQ]
    exact x_iret F dL_draw_19 (by decide) ⟨_, rfl, by rw [hcd], A, _, rfl, (by rw [if_pos hcd]; exact hR9), (fun c hc9 => by rw [if_pos hcd] at hc9; exact Or.inl ⟨(hlv c).symm.trans hc9, rfl⟩), Or.inl ⟨hcd, _, rfl, upd_0⟩⟩
set_option maxHeartbeats 4000000 in
set_option maxRecDepth 100000 in
theorem c_L_drawn {l : Launch} (hl : l.stackTraces = false) {g : GP} {M : MM} {A : Nat → Nat} {σ : ST} {x0 y0 : Int32} {o : Nat} {fo : Nat → Int64} (hR : CM g A M σ M) (hB : Bd σ) (hD : ID σ) (hbs : IBe σ) (hO : M o = some (.inl (gC g 1, 1, .inr (.inl fo)))) (ho : ∀ c, lvB σ c = true → o ≠ A c) : CTH l g yL_drawn cL_drawn 5 (some .int) [(0, 10, 13, 29)] 9 181 2 12 [.ref (A 0), .int (x0), .int (y0), .ref (o)] M (pI (fun r9 M9 => r9 = nI (cdRR σ x0 y0) ∧ HP g A M σ o σ (cdRR σ x0 y0) (σ.2.1 23 (12 * cl x0 + cl y0)).toInt64 M9)) := by
  refine cth_of [(0, .ref (A 0)), (1, .int (x0)), (2, .int (y0)), (3, .ref (o))] (by decide) hl (Nat.le_of_ble_eq_true rfl) rfl ?_
  intro K hK F
  subst hK
  have F : Fx K g cL_drawn RL 5 (some .int) [(0, 10, 13, 29)] 9 181 2 12 := F
  obtain ⟨Q, hQ⟩ : ∃ Q, Q = MQx K g (pI (fun r9 M9 => r9 = nI (cdRR σ x0 y0) ∧ HP g A M σ o σ (cdRR σ x0 y0) (σ.2.1 23 (12 * cl x0 + cl y0)).toInt64 M9)) nX 2 12 := ⟨_, rfl⟩
  rw [← hQ]
  refine x_aload_n F 3 dL_drawn_0 rfl ?_
  refine x_iconst F (nI 0) dL_drawn_1 (by decide) ?_
  refine x_aload_n F 0 dL_drawn_2 rfl ?_
  refine x_iload_n F 1 dL_drawn_3 rfl ?_
  refine x_iload_n F 2 dL_drawn_4 rfl ?_
  refine x_callV F s_L_51 hR.c rfl rfl (c_X3_drawn F.nt hR hB hD hbs) rfl dL_drawn_5 (by decide) (by decide) (Nat.le_of_ble_eq_true rfl) (fun E M9 hx => ?_) (ki fun r9 M9 hp9 => ?_)
  · obtain ⟨rfl, hx⟩ := hx
    obtain ⟨rfl, hc⟩ := hx
    refine x_catchX F [] ⟨0, 10, 13, 29⟩ [] rfl (fun z hz => by cases hz) (by decide) (by decide) w_cl29 (by decide) (fun q => ?_)
    refine x_astore F [(4, .ref (q)), (0, .ref (A 0)), (1, .int (x0)), (2, .int (y0)), (3, .ref (o))] dL_drawn_13 (by decide) rfl ?_
    refine x_iconst F (nI 1) dL_drawn_15 (by decide) ?_
    rw [hQ]
    exact x_iret F dL_drawn_16 (by decide) ⟨_, rfl, by rw [hc], A, M, rfl, hR, (fun c hc9 => Or.inl ⟨hc9, rfl⟩), Or.inr ⟨(show ¬ cdRR σ x0 y0 = 0 by rw [hc]; decide), rfl⟩⟩
  · obtain ⟨hcd, rfl, rfl⟩ := hp9
    refine x_i2l F dL_drawn_8 ?_
    refine x_last F hO (vp_in_nI (n := 0) (by decide) (by decide)) dL_drawn_9 ?_
    refine x_goto F 17 dL_drawn_10 (by decide) ?_
    refine x_iconst F (nI 0) dL_drawn_17 (by decide) ?_
    rw [hQ]
    exact x_iret F dL_drawn_18 (by decide) ⟨_, rfl, by rw [hcd], A, _, rfl, hR, (fun c hc9 => Or.inl ⟨hc9, rfl⟩), Or.inl ⟨hcd, _, rfl, upd_0⟩⟩
set_option maxHeartbeats 4000000 in
set_option maxRecDepth 100000 in
theorem c_L_ride {l : Launch} (hl : l.stackTraces = false) {g : GP} {M : MM} {A : Nat → Nat} {σ : ST} {x0 y0 mk w : Int32} {f : Bool} {o : Nat} {fo : Nat → Int64} (hR : CM g A M σ M) (hB : Bd σ) (hD : ID σ) (hbr : ∀ r j, r < σ.1 18 0 → j < σ.1 7 0 → ¬ σ.1 24 (12 * r + j) = 0 → ∃ b, b < σ.1 6 0 ∧ σ.2.1 23 (12 * r + j) = nI b) (hO : M o = some (.inl (gC g 1, 1, .inr (.inl fo)))) (ho : ∀ c, lvB σ c = true → o ≠ A c) : CTH l g yL_ride cL_ride 8 (some .int) [(0, 16, 19, 29), (0, 16, 23, 13), (0, 16, 27, 15)] 9 187 4 24 [.ref (A 0), .int (x0), .int (y0), .int (mk), .int (w), .int (nI (bz f)), .ref (o)] M (pI (fun r9 M9 => r9 = nI (cdRi σ x0 y0 mk w) ∧ HP g A M σ o (if cdRi σ x0 y0 mk w = 0 then ridU σ (12 * cl x0 + cl y0) (cl (σ.2.1 23 (12 * cl x0 + cl y0))) (cl mk) (cl w) f else σ) (cdRi σ x0 y0 mk w) ((ridU σ (12 * cl x0 + cl y0) (cl (σ.2.1 23 (12 * cl x0 + cl y0))) (cl mk) (cl w) f).2.1 28 (12 * cl x0 + cl y0)).toInt64 M9)) := by
  refine cth_of [(0, .ref (A 0)), (1, .int (x0)), (2, .int (y0)), (3, .int (mk)), (4, .int (w)), (5, .int (nI (bz f))), (6, .ref (o))] (by decide) hl (Nat.le_of_ble_eq_true rfl) rfl ?_
  intro K hK F
  subst hK
  have F : Fx K g cL_ride RL 8 (some .int) [(0, 16, 19, 29), (0, 16, 23, 13), (0, 16, 27, 15)] 9 187 4 24 := F
  obtain ⟨Q, hQ⟩ : ∃ Q, Q = MQx K g (pI (fun r9 M9 => r9 = nI (cdRi σ x0 y0 mk w) ∧ HP g A M σ o (if cdRi σ x0 y0 mk w = 0 then ridU σ (12 * cl x0 + cl y0) (cl (σ.2.1 23 (12 * cl x0 + cl y0))) (cl mk) (cl w) f else σ) (cdRi σ x0 y0 mk w) ((ridU σ (12 * cl x0 + cl y0) (cl (σ.2.1 23 (12 * cl x0 + cl y0))) (cl mk) (cl w) f).2.1 28 (12 * cl x0 + cl y0)).toInt64 M9)) nX 4 24 := ⟨_, rfl⟩
  rw [← hQ]
  refine x_aload F 6 dL_ride_0 rfl ?_
  refine x_iconst F (nI 0) dL_ride_2 (by decide) ?_
  refine x_aload_n F 0 dL_ride_3 rfl ?_
  refine x_iload_n F 1 dL_ride_4 rfl ?_
  refine x_iload_n F 2 dL_ride_5 rfl ?_
  refine x_iload_n F 3 dL_ride_6 rfl ?_
  refine x_iload F 4 dL_ride_7 rfl ?_
  refine x_iload F 5 dL_ride_9 rfl ?_
  refine x_callV F s_L_54 hR.c rfl rfl (c_X3_ride F.nt hR hB hD hbr) rfl dL_ride_11 (by decide) (by decide) (Nat.le_of_ble_eq_true rfl) (fun E M9 hx => ?_) (ki fun r9 M9 hp9 => ?_)
  · obtain ⟨rfl, hx⟩ := hx
    rcases hx with ⟨rfl, hc⟩ | ⟨rfl, hc⟩ | ⟨rfl, hc⟩
    · refine x_catchX F [] ⟨0, 16, 19, 29⟩ [⟨0, 16, 23, 13⟩, ⟨0, 16, 27, 15⟩] rfl (fun z hz => by cases hz) (by decide) (by decide) w_cl29 (by decide) (fun q => ?_)
      refine x_astore F [(7, .ref (q)), (0, .ref (A 0)), (1, .int (x0)), (2, .int (y0)), (3, .int (mk)), (4, .int (w)), (5, .int (nI (bz f))), (6, .ref (o))] dL_ride_19 (by decide) rfl ?_
      refine x_iconst F (nI 1) dL_ride_21 (by decide) ?_
      rw [hQ]
      exact x_iret F dL_ride_22 (by decide) ⟨_, rfl, by rw [hc], A, M, rfl, (by rw [if_neg (show ¬ cdRi σ x0 y0 mk w = 0 by rw [hc]; decide)]; exact hR), (fun c hc9 => by rw [if_neg (show ¬ cdRi σ x0 y0 mk w = 0 by rw [hc]; decide)] at hc9; exact Or.inl ⟨hc9, rfl⟩), Or.inr ⟨(show ¬ cdRi σ x0 y0 mk w = 0 by rw [hc]; decide), rfl⟩⟩
    · refine x_catchX F [⟨0, 16, 19, 29⟩] ⟨0, 16, 23, 13⟩ [⟨0, 16, 27, 15⟩] rfl (fun z hz => by rcases List.mem_cons.mp hz with rfl | hz; exact Or.inr ⟨by decide, sIO, w_cl29, by decide⟩; cases hz) (by decide) (by decide) w_cl13 (by decide) (fun q => ?_)
      refine x_astore F [(7, .ref (q)), (0, .ref (A 0)), (1, .int (x0)), (2, .int (y0)), (3, .int (mk)), (4, .int (w)), (5, .int (nI (bz f))), (6, .ref (o))] dL_ride_23 (by decide) rfl ?_
      refine x_iconst F (nI 2) dL_ride_25 (by decide) ?_
      rw [hQ]
      exact x_iret F dL_ride_26 (by decide) ⟨_, rfl, by rw [hc], A, M, rfl, (by rw [if_neg (show ¬ cdRi σ x0 y0 mk w = 0 by rw [hc]; decide)]; exact hR), (fun c hc9 => by rw [if_neg (show ¬ cdRi σ x0 y0 mk w = 0 by rw [hc]; decide)] at hc9; exact Or.inl ⟨hc9, rfl⟩), Or.inr ⟨(show ¬ cdRi σ x0 y0 mk w = 0 by rw [hc]; decide), rfl⟩⟩
    · refine x_catchX F [⟨0, 16, 19, 29⟩, ⟨0, 16, 23, 13⟩] ⟨0, 16, 27, 15⟩ [] rfl (fun z hz => by rcases List.mem_cons.mp hz with rfl | hz; exact Or.inr ⟨by decide, sIO, w_cl29, by decide⟩; rcases List.mem_cons.mp hz with rfl | hz; exact Or.inr ⟨by decide, sIA, w_cl13, by decide⟩; cases hz) (by decide) (by decide) w_cl15 (by decide) (fun q => ?_)
      refine x_astore F [(7, .ref (q)), (0, .ref (A 0)), (1, .int (x0)), (2, .int (y0)), (3, .int (mk)), (4, .int (w)), (5, .int (nI (bz f))), (6, .ref (o))] dL_ride_27 (by decide) rfl ?_
      refine x_iconst F (nI 3) dL_ride_29 (by decide) ?_
      rw [hQ]
      exact x_iret F dL_ride_30 (by decide) ⟨_, rfl, by rw [hc], A, M, rfl, (by rw [if_neg (show ¬ cdRi σ x0 y0 mk w = 0 by rw [hc]; decide)]; exact hR), (fun c hc9 => by rw [if_neg (show ¬ cdRi σ x0 y0 mk w = 0 by rw [hc]; decide)] at hc9; exact Or.inl ⟨hc9, rfl⟩), Or.inr ⟨(show ¬ cdRi σ x0 y0 mk w = 0 by rw [hc]; decide), rfl⟩⟩
  · obtain ⟨hcd, rfl, hR9⟩ := hp9
    have hlv : ∀ c, lvB (ridU σ (12 * cl x0 + cl y0) (cl (σ.2.1 23 (12 * cl x0 + cl y0))) (cl mk) (cl w) f) c = lvB σ c := lv_cg (fun s9 i9 h9 => sN_ride h9)
    have hO9 := hp_o hR9 (fun c hc => Or.inl ⟨(hlv c).symm.trans hc, rfl⟩) ho hO
    refine x_i2l F dL_ride_14 ?_
    refine x_last F hO9 (vp_in_nI (n := 0) (by decide) (by decide)) dL_ride_15 ?_
    refine x_goto F 31 dL_ride_16 (by decide) ?_
    refine x_iconst F (nI 0) dL_ride_31 (by decide) ?_
    rw [hQ]
    exact x_iret F dL_ride_32 (by decide) ⟨_, rfl, by rw [hcd], A, _, rfl, (by rw [if_pos hcd]; exact hR9), (fun c hc9 => by rw [if_pos hcd] at hc9; exact Or.inl ⟨(hlv c).symm.trans hc9, rfl⟩), Or.inl ⟨hcd, _, rfl, upd_0⟩⟩
set_option maxHeartbeats 4000000 in
set_option maxRecDepth 100000 in
theorem c_L_isOffered {l : Launch} (hl : l.stackTraces = false) {g : GP} {M : MM} {A : Nat → Nat} {σ : ST} {x0 y0 : Int32} {o : Nat} {fo : Nat → Int64} (hR : CM g A M σ M) (hB : Bd σ) (hD : ID σ) (hO : M o = some (.inl (gC g 1, 1, .inr (.inl fo)))) (ho : ∀ c, lvB σ c = true → o ≠ A c) : CTH l g yL_isOffered cL_isOffered 5 (some .int) [(0, 17, 20, 29)] 9 181 2 12 [.ref (A 0), .int (x0), .int (y0), .ref (o)] M (pI (fun r9 M9 => r9 = nI (cdRR σ x0 y0) ∧ HP g A M σ o σ (cdRR σ x0 y0) (if decide (¬ σ.1 26 (12 * cl x0 + cl y0) = 0) then 1 else 0) M9)) := by
  refine cth_of [(0, .ref (A 0)), (1, .int (x0)), (2, .int (y0)), (3, .ref (o))] (by decide) hl (Nat.le_of_ble_eq_true rfl) rfl ?_
  intro K hK F
  subst hK
  have F : Fx K g cL_isOffered RL 5 (some .int) [(0, 17, 20, 29)] 9 181 2 12 := F
  obtain ⟨Q, hQ⟩ : ∃ Q, Q = MQx K g (pI (fun r9 M9 => r9 = nI (cdRR σ x0 y0) ∧ HP g A M σ o σ (cdRR σ x0 y0) (if decide (¬ σ.1 26 (12 * cl x0 + cl y0) = 0) then 1 else 0) M9)) nX 2 12 := ⟨_, rfl⟩
  rw [← hQ]
  refine x_aload_n F 3 dL_isOffered_0 rfl ?_
  refine x_iconst F (nI 0) dL_isOffered_1 (by decide) ?_
  refine x_aload_n F 0 dL_isOffered_2 rfl ?_
  refine x_iload_n F 1 dL_isOffered_3 rfl ?_
  refine x_iload_n F 2 dL_isOffered_4 rfl ?_
  refine x_callV F s_L_58 hR.c rfl rfl (c_X3_isOffered F.nt hR hB hD) rfl dL_isOffered_5 (by decide) (by decide) (Nat.le_of_ble_eq_true rfl) (fun E M9 hx => ?_) (ki fun r9 M9 hp9 => ?_)
  · obtain ⟨rfl, hx⟩ := hx
    obtain ⟨rfl, hc⟩ := hx
    refine x_catchX F [] ⟨0, 17, 20, 29⟩ [] rfl (fun z hz => by cases hz) (by decide) (by decide) w_cl29 (by decide) (fun q => ?_)
    refine x_astore F [(4, .ref (q)), (0, .ref (A 0)), (1, .int (x0)), (2, .int (y0)), (3, .ref (o))] dL_isOffered_20 (by decide) rfl ?_
    refine x_iconst F (nI 1) dL_isOffered_22 (by decide) ?_
    rw [hQ]
    exact x_iret F dL_isOffered_23 (by decide) ⟨_, rfl, by rw [hc], A, M, rfl, hR, (fun c hc9 => Or.inl ⟨hc9, rfl⟩), Or.inr ⟨(show ¬ cdRR σ x0 y0 = 0 by rw [hc]; decide), rfl⟩⟩
  · obtain ⟨hcd, rfl, rfl⟩ := hp9
    refine x_if_eq F 15 dL_isOffered_8 (by decide) (fun c9 => ?_) (fun c9 => ?_)
    · have c9 := nI_bz0.mp c9
      refine x_lconst F 0 dL_isOffered_15 (by decide) ?_
      refine x_last F hO (vp_in_nI (n := 0) (by decide) (by decide)) dL_isOffered_16 ?_
      refine x_goto F 24 dL_isOffered_17 (by decide) ?_
      refine x_iconst F (nI 0) dL_isOffered_24 (by decide) ?_
      rw [hQ]
      exact x_iret F dL_isOffered_25 (by decide) ⟨_, rfl, by rw [hcd], A, _, rfl, hR, (fun c hc9 => Or.inl ⟨hc9, rfl⟩), Or.inl ⟨hcd, _, rfl, by rw [c9]; exact upd_0⟩⟩
    · have c9 := nI_bz1.mp c9
      refine x_lconst F 1 dL_isOffered_11 (by decide) ?_
      refine x_goto F 16 dL_isOffered_12 (by decide) ?_
      refine x_last F hO (vp_in_nI (n := 0) (by decide) (by decide)) dL_isOffered_16 ?_
      refine x_goto F 24 dL_isOffered_17 (by decide) ?_
      refine x_iconst F (nI 0) dL_isOffered_24 (by decide) ?_
      rw [hQ]
      exact x_iret F dL_isOffered_25 (by decide) ⟨_, rfl, by rw [hcd], A, _, rfl, hR, (fun c hc9 => Or.inl ⟨hc9, rfl⟩), Or.inl ⟨hcd, _, rfl, by rw [c9]; exact upd_0⟩⟩
set_option maxHeartbeats 4000000 in
set_option maxRecDepth 100000 in
theorem c_L_answer {l : Launch} (hl : l.stackTraces = false) {g : GP} {M : MM} {A : Nat → Nat} {σ : ST} {x0 y0 : Int32} {f : Bool} {o : Nat} {fo : Nat → Int64} (hR : CM g A M σ M) (hB : Bd σ) (hD : ID σ) (hbs : IBe σ) (hpl : ∀ r j, r < σ.1 18 0 → j < σ.1 7 0 → ¬ σ.1 26 (12 * r + j) = 0 → ¬ σ.2.1 22 (12 * r + j) = -1) (hO : M o = some (.inl (gC g 1, 1, .inr (.inl fo)))) (ho : ∀ c, lvB σ c = true → o ≠ A c) : CTH l g yL_answer cL_answer 6 (some .int) [(0, 12, 15, 29), (0, 12, 19, 15)] 9 210 3 18 [.ref (A 0), .int (x0), .int (y0), .int (nI (bz f)), .ref (o)] M (pI (fun r9 M9 => r9 = nI (cdAn σ x0 y0) ∧ HP g A M σ o (if cdAn σ x0 y0 = 0 then ansU σ (cl x0) (cl y0) f else σ) (cdAn σ x0 y0) ((if f = true then (ansU σ (cl x0) (cl y0) f).2.1 23 (12 * cl x0 + cl y0) else -1)).toInt64 M9)) := by
  refine cth_of [(0, .ref (A 0)), (1, .int (x0)), (2, .int (y0)), (3, .int (nI (bz f))), (4, .ref (o))] (by decide) hl (Nat.le_of_ble_eq_true rfl) rfl ?_
  intro K hK F
  subst hK
  have F : Fx K g cL_answer RL 6 (some .int) [(0, 12, 15, 29), (0, 12, 19, 15)] 9 210 3 18 := F
  obtain ⟨Q, hQ⟩ : ∃ Q, Q = MQx K g (pI (fun r9 M9 => r9 = nI (cdAn σ x0 y0) ∧ HP g A M σ o (if cdAn σ x0 y0 = 0 then ansU σ (cl x0) (cl y0) f else σ) (cdAn σ x0 y0) ((if f = true then (ansU σ (cl x0) (cl y0) f).2.1 23 (12 * cl x0 + cl y0) else -1)).toInt64 M9)) nX 3 18 := ⟨_, rfl⟩
  rw [← hQ]
  refine x_aload F 4 dL_answer_0 rfl ?_
  refine x_iconst F (nI 0) dL_answer_2 (by decide) ?_
  refine x_aload_n F 0 dL_answer_3 rfl ?_
  refine x_iload_n F 1 dL_answer_4 rfl ?_
  refine x_iload_n F 2 dL_answer_5 rfl ?_
  refine x_iload_n F 3 dL_answer_6 rfl ?_
  refine x_callV F s_L_62 hR.c rfl rfl (c_X3_answer F.nt hR hB hD hbs hpl) rfl dL_answer_7 (by decide) (by decide) (Nat.le_of_ble_eq_true rfl) (fun E M9 hx => ?_) (ki fun r9 M9 hp9 => ?_)
  · obtain ⟨rfl, hx⟩ := hx
    rcases hx with ⟨rfl, hc⟩ | ⟨rfl, hc⟩
    · refine x_catchX F [] ⟨0, 12, 15, 29⟩ [⟨0, 12, 19, 15⟩] rfl (fun z hz => by cases hz) (by decide) (by decide) w_cl29 (by decide) (fun q => ?_)
      refine x_astore F [(5, .ref (q)), (0, .ref (A 0)), (1, .int (x0)), (2, .int (y0)), (3, .int (nI (bz f))), (4, .ref (o))] dL_answer_15 (by decide) rfl ?_
      refine x_iconst F (nI 1) dL_answer_17 (by decide) ?_
      rw [hQ]
      exact x_iret F dL_answer_18 (by decide) ⟨_, rfl, by rw [hc], A, M, rfl, (by rw [if_neg (show ¬ cdAn σ x0 y0 = 0 by rw [hc]; decide)]; exact hR), (fun c hc9 => by rw [if_neg (show ¬ cdAn σ x0 y0 = 0 by rw [hc]; decide)] at hc9; exact Or.inl ⟨hc9, rfl⟩), Or.inr ⟨(show ¬ cdAn σ x0 y0 = 0 by rw [hc]; decide), rfl⟩⟩
    · refine x_catchX F [⟨0, 12, 15, 29⟩] ⟨0, 12, 19, 15⟩ [] rfl (fun z hz => by rcases List.mem_cons.mp hz with rfl | hz; exact Or.inr ⟨by decide, sIO, w_cl29, by decide⟩; cases hz) (by decide) (by decide) w_cl15 (by decide) (fun q => ?_)
      refine x_astore F [(5, .ref (q)), (0, .ref (A 0)), (1, .int (x0)), (2, .int (y0)), (3, .int (nI (bz f))), (4, .ref (o))] dL_answer_19 (by decide) rfl ?_
      refine x_iconst F (nI 2) dL_answer_21 (by decide) ?_
      rw [hQ]
      exact x_iret F dL_answer_22 (by decide) ⟨_, rfl, by rw [hc], A, M, rfl, (by rw [if_neg (show ¬ cdAn σ x0 y0 = 0 by rw [hc]; decide)]; exact hR), (fun c hc9 => by rw [if_neg (show ¬ cdAn σ x0 y0 = 0 by rw [hc]; decide)] at hc9; exact Or.inl ⟨hc9, rfl⟩), Or.inr ⟨(show ¬ cdAn σ x0 y0 = 0 by rw [hc]; decide), rfl⟩⟩
  · obtain ⟨hcd, rfl, hR9⟩ := hp9
    have hlv : ∀ c, lvB (ansU σ (cl x0) (cl y0) f) c = lvB σ c := lv_cg (fun s9 i9 h9 => sN_answer h9)
    have hO9 := hp_o hR9 (fun c hc => Or.inl ⟨(hlv c).symm.trans hc, rfl⟩) ho hO
    refine x_i2l F dL_answer_10 ?_
    refine x_last F hO9 (vp_in_nI (n := 0) (by decide) (by decide)) dL_answer_11 ?_
    refine x_goto F 23 dL_answer_12 (by decide) ?_
    refine x_iconst F (nI 0) dL_answer_23 (by decide) ?_
    rw [hQ]
    exact x_iret F dL_answer_24 (by decide) ⟨_, rfl, by rw [hcd], A, _, rfl, (by rw [if_pos hcd]; exact hR9), (fun c hc9 => by rw [if_pos hcd] at hc9; exact Or.inl ⟨(hlv c).symm.trans hc9, rfl⟩), Or.inl ⟨hcd, _, rfl, upd_0⟩⟩
set_option maxHeartbeats 4000000 in
set_option maxRecDepth 100000 in
theorem c_L_score {l : Launch} (hl : l.stackTraces = false) {g : GP} {M : MM} {A : Nat → Nat} {σ : ST} {x0 y0 : Int32} {o : Nat} {fo : Nat → Int64} (hR : CM g A M σ M) (hB : Bd σ) (hD : ID σ) (hO : M o = some (.inl (gC g 1, 1, .inr (.inl fo)))) (ho : ∀ c, lvB σ c = true → o ≠ A c) : CTH l g yL_score cL_score 5 (some .int) [(0, 10, 13, 29)] 9 181 2 12 [.ref (A 0), .int (x0), .int (y0), .ref (o)] M (pI (fun r9 M9 => r9 = nI (cdRR σ x0 y0) ∧ HP g A M σ o σ (cdRR σ x0 y0) (σ.2.1 28 (12 * cl x0 + cl y0)).toInt64 M9)) := by
  refine cth_of [(0, .ref (A 0)), (1, .int (x0)), (2, .int (y0)), (3, .ref (o))] (by decide) hl (Nat.le_of_ble_eq_true rfl) rfl ?_
  intro K hK F
  subst hK
  have F : Fx K g cL_score RL 5 (some .int) [(0, 10, 13, 29)] 9 181 2 12 := F
  obtain ⟨Q, hQ⟩ : ∃ Q, Q = MQx K g (pI (fun r9 M9 => r9 = nI (cdRR σ x0 y0) ∧ HP g A M σ o σ (cdRR σ x0 y0) (σ.2.1 28 (12 * cl x0 + cl y0)).toInt64 M9)) nX 2 12 := ⟨_, rfl⟩
  rw [← hQ]
  refine x_aload_n F 3 dL_score_0 rfl ?_
  refine x_iconst F (nI 0) dL_score_1 (by decide) ?_
  refine x_aload_n F 0 dL_score_2 rfl ?_
  refine x_iload_n F 1 dL_score_3 rfl ?_
  refine x_iload_n F 2 dL_score_4 rfl ?_
  refine x_callV F s_L_66 hR.c rfl rfl (c_X3_score F.nt hR hB hD) rfl dL_score_5 (by decide) (by decide) (Nat.le_of_ble_eq_true rfl) (fun E M9 hx => ?_) (ki fun r9 M9 hp9 => ?_)
  · obtain ⟨rfl, hx⟩ := hx
    obtain ⟨rfl, hc⟩ := hx
    refine x_catchX F [] ⟨0, 10, 13, 29⟩ [] rfl (fun z hz => by cases hz) (by decide) (by decide) w_cl29 (by decide) (fun q => ?_)
    refine x_astore F [(4, .ref (q)), (0, .ref (A 0)), (1, .int (x0)), (2, .int (y0)), (3, .ref (o))] dL_score_13 (by decide) rfl ?_
    refine x_iconst F (nI 1) dL_score_15 (by decide) ?_
    rw [hQ]
    exact x_iret F dL_score_16 (by decide) ⟨_, rfl, by rw [hc], A, M, rfl, hR, (fun c hc9 => Or.inl ⟨hc9, rfl⟩), Or.inr ⟨(show ¬ cdRR σ x0 y0 = 0 by rw [hc]; decide), rfl⟩⟩
  · obtain ⟨hcd, rfl, rfl⟩ := hp9
    refine x_i2l F dL_score_8 ?_
    refine x_last F hO (vp_in_nI (n := 0) (by decide) (by decide)) dL_score_9 ?_
    refine x_goto F 17 dL_score_10 (by decide) ?_
    refine x_iconst F (nI 0) dL_score_17 (by decide) ?_
    rw [hQ]
    exact x_iret F dL_score_18 (by decide) ⟨_, rfl, by rw [hcd], A, _, rfl, hR, (fun c hc9 => Or.inl ⟨hc9, rfl⟩), Or.inl ⟨hcd, _, rfl, upd_0⟩⟩
set_option maxHeartbeats 4000000 in
set_option maxRecDepth 100000 in
theorem c_L_beastIs {l : Launch} (hl : l.stackTraces = false) {g : GP} {M : MM} {A : Nat → Nat} {σ : ST} {x0 y0 : Int32} {o : Nat} {fo : Nat → Int64} (hR : CM g A M σ M) (hB : Bd σ) (hO : M o = some (.inl (gC g 1, 1, .inr (.inl fo)))) (ho : ∀ c, lvB σ c = true → o ≠ A c) : CTH l g yL_beastIs cL_beastIs 5 (some .int) [(0, 10, 13, 29), (0, 10, 17, 13)] 7 161 1 6 [.ref (A 0), .int (x0), .int (y0), .ref (o)] M (pI (fun r9 M9 => r9 = nI (cdBI σ x0 y0) ∧ HP g A M σ o σ (cdBI σ x0 y0) (toldS σ (cl x0) y0).toInt64 M9)) := by
  refine cth_of [(0, .ref (A 0)), (1, .int (x0)), (2, .int (y0)), (3, .ref (o))] (by decide) hl (Nat.le_of_ble_eq_true rfl) rfl ?_
  intro K hK F
  subst hK
  have F : Fx K g cL_beastIs RL 5 (some .int) [(0, 10, 13, 29), (0, 10, 17, 13)] 7 161 1 6 := F
  obtain ⟨Q, hQ⟩ : ∃ Q, Q = MQx K g (pI (fun r9 M9 => r9 = nI (cdBI σ x0 y0) ∧ HP g A M σ o σ (cdBI σ x0 y0) (toldS σ (cl x0) y0).toInt64 M9)) nX 1 6 := ⟨_, rfl⟩
  rw [← hQ]
  refine x_aload_n F 3 dL_beastIs_0 rfl ?_
  refine x_iconst F (nI 0) dL_beastIs_1 (by decide) ?_
  refine x_aload_n F 0 dL_beastIs_2 rfl ?_
  refine x_iload_n F 1 dL_beastIs_3 rfl ?_
  refine x_iload_n F 2 dL_beastIs_4 rfl ?_
  refine x_callV F s_L_69 hR.c rfl rfl (c_X3_beastIs F.nt hR hB) rfl dL_beastIs_5 (by decide) (by decide) (Nat.le_of_ble_eq_true rfl) (fun E M9 hx => ?_) (ki fun r9 M9 hp9 => ?_)
  · obtain ⟨rfl, hx⟩ := hx
    rcases hx with ⟨rfl, hc⟩ | ⟨rfl, hc⟩
    · refine x_catchX F [] ⟨0, 10, 13, 29⟩ [⟨0, 10, 17, 13⟩] rfl (fun z hz => by cases hz) (by decide) (by decide) w_cl29 (by decide) (fun q => ?_)
      refine x_astore F [(4, .ref (q)), (0, .ref (A 0)), (1, .int (x0)), (2, .int (y0)), (3, .ref (o))] dL_beastIs_13 (by decide) rfl ?_
      refine x_iconst F (nI 1) dL_beastIs_15 (by decide) ?_
      rw [hQ]
      exact x_iret F dL_beastIs_16 (by decide) ⟨_, rfl, by rw [hc], A, M, rfl, hR, (fun c hc9 => Or.inl ⟨hc9, rfl⟩), Or.inr ⟨(show ¬ cdBI σ x0 y0 = 0 by rw [hc]; decide), rfl⟩⟩
    · refine x_catchX F [⟨0, 10, 13, 29⟩] ⟨0, 10, 17, 13⟩ [] rfl (fun z hz => by rcases List.mem_cons.mp hz with rfl | hz; exact Or.inr ⟨by decide, sIO, w_cl29, by decide⟩; cases hz) (by decide) (by decide) w_cl13 (by decide) (fun q => ?_)
      refine x_astore F [(4, .ref (q)), (0, .ref (A 0)), (1, .int (x0)), (2, .int (y0)), (3, .ref (o))] dL_beastIs_17 (by decide) rfl ?_
      refine x_iconst F (nI 2) dL_beastIs_19 (by decide) ?_
      rw [hQ]
      exact x_iret F dL_beastIs_20 (by decide) ⟨_, rfl, by rw [hc], A, M, rfl, hR, (fun c hc9 => Or.inl ⟨hc9, rfl⟩), Or.inr ⟨(show ¬ cdBI σ x0 y0 = 0 by rw [hc]; decide), rfl⟩⟩
  · obtain ⟨hcd, rfl, rfl⟩ := hp9
    refine x_i2l F dL_beastIs_8 ?_
    refine x_last F hO (vp_in_nI (n := 0) (by decide) (by decide)) dL_beastIs_9 ?_
    refine x_goto F 21 dL_beastIs_10 (by decide) ?_
    refine x_iconst F (nI 0) dL_beastIs_21 (by decide) ?_
    rw [hQ]
    exact x_iret F dL_beastIs_22 (by decide) ⟨_, rfl, by rw [hcd], A, _, rfl, hR, (fun c hc9 => Or.inl ⟨hc9, rfl⟩), Or.inl ⟨hcd, _, rfl, upd_0⟩⟩
set_option maxHeartbeats 4000000 in
set_option maxRecDepth 100000 in
theorem c_L_pay {l : Launch} (hl : l.stackTraces = false) {g : GP} {M : MM} {A : Nat → Nat} {σ : ST} {x0 : Int32} {o : Nat} {fo : Nat → Int64} (hR : CM g A M σ M) (hB : Bd σ) (hW : IW σ) (hD : ID σ) (hO : M o = some (.inl (gC g 1, 1, .inr (.inl fo)))) (ho : ∀ c, lvB σ c = true → o ≠ A c) : CTH l g yL_pay cL_pay 4 (some .int) [(0, 9, 12, 29), (0, 9, 15, 15)] 9 225 2 12 [.ref (A 0), .int (x0), .ref (o)] M (pI (fun r9 M9 => r9 = nI (cdPa σ x0) ∧ HP g A M σ o (if cdPa σ x0 = 0 then pyU σ (cl x0) else σ) (cdPa σ x0) (nI (ccN σ (cl x0))).toInt64 M9)) := by
  refine cth_of [(0, .ref (A 0)), (1, .int (x0)), (2, .ref (o))] (by decide) hl (Nat.le_of_ble_eq_true rfl) rfl ?_
  intro K hK F
  subst hK
  have F : Fx K g cL_pay RL 4 (some .int) [(0, 9, 12, 29), (0, 9, 15, 15)] 9 225 2 12 := F
  obtain ⟨Q, hQ⟩ : ∃ Q, Q = MQx K g (pI (fun r9 M9 => r9 = nI (cdPa σ x0) ∧ HP g A M σ o (if cdPa σ x0 = 0 then pyU σ (cl x0) else σ) (cdPa σ x0) (nI (ccN σ (cl x0))).toInt64 M9)) nX 2 12 := ⟨_, rfl⟩
  rw [← hQ]
  refine x_aload_n F 2 dL_pay_0 rfl ?_
  refine x_iconst F (nI 0) dL_pay_1 (by decide) ?_
  refine x_aload_n F 0 dL_pay_2 rfl ?_
  refine x_iload_n F 1 dL_pay_3 rfl ?_
  refine x_callV F s_L_72 hR.c rfl rfl (c_X3_pay F.nt hR hB hW hD) rfl dL_pay_4 (by decide) (by decide) (Nat.le_of_ble_eq_true rfl) (fun E M9 hx => ?_) (ki fun r9 M9 hp9 => ?_)
  · obtain ⟨rfl, hx⟩ := hx
    rcases hx with ⟨rfl, hc⟩ | ⟨rfl, hc⟩
    · refine x_catchX F [] ⟨0, 9, 12, 29⟩ [⟨0, 9, 15, 15⟩] rfl (fun z hz => by cases hz) (by decide) (by decide) w_cl29 (by decide) (fun q => ?_)
      refine x_astore_n F [(3, .ref (q)), (0, .ref (A 0)), (1, .int (x0)), (2, .ref (o))] dL_pay_12 (by decide) rfl ?_
      refine x_iconst F (nI 1) dL_pay_13 (by decide) ?_
      rw [hQ]
      exact x_iret F dL_pay_14 (by decide) ⟨_, rfl, by rw [hc], A, M, rfl, (by rw [if_neg (show ¬ cdPa σ x0 = 0 by rw [hc]; decide)]; exact hR), (fun c hc9 => by rw [if_neg (show ¬ cdPa σ x0 = 0 by rw [hc]; decide)] at hc9; exact Or.inl ⟨hc9, rfl⟩), Or.inr ⟨(show ¬ cdPa σ x0 = 0 by rw [hc]; decide), rfl⟩⟩
    · refine x_catchX F [⟨0, 9, 12, 29⟩] ⟨0, 9, 15, 15⟩ [] rfl (fun z hz => by rcases List.mem_cons.mp hz with rfl | hz; exact Or.inr ⟨by decide, sIO, w_cl29, by decide⟩; cases hz) (by decide) (by decide) w_cl15 (by decide) (fun q => ?_)
      refine x_astore_n F [(3, .ref (q)), (0, .ref (A 0)), (1, .int (x0)), (2, .ref (o))] dL_pay_15 (by decide) rfl ?_
      refine x_iconst F (nI 2) dL_pay_16 (by decide) ?_
      rw [hQ]
      exact x_iret F dL_pay_17 (by decide) ⟨_, rfl, by rw [hc], A, M, rfl, (by rw [if_neg (show ¬ cdPa σ x0 = 0 by rw [hc]; decide)]; exact hR), (fun c hc9 => by rw [if_neg (show ¬ cdPa σ x0 = 0 by rw [hc]; decide)] at hc9; exact Or.inl ⟨hc9, rfl⟩), Or.inr ⟨(show ¬ cdPa σ x0 = 0 by rw [hc]; decide), rfl⟩⟩
  · obtain ⟨hcd, rfl, hR9⟩ := hp9
    have hlv : ∀ c, lvB (pyU σ (cl x0)) c = lvB σ c := lv_cg (fun s9 i9 h9 => sN_pay h9)
    have hO9 := hp_o hR9 (fun c hc => Or.inl ⟨(hlv c).symm.trans hc, rfl⟩) ho hO
    refine x_i2l F dL_pay_7 ?_
    refine x_last F hO9 (vp_in_nI (n := 0) (by decide) (by decide)) dL_pay_8 ?_
    refine x_goto F 18 dL_pay_9 (by decide) ?_
    refine x_iconst F (nI 0) dL_pay_18 (by decide) ?_
    rw [hQ]
    exact x_iret F dL_pay_19 (by decide) ⟨_, rfl, by rw [hcd], A, _, rfl, (by rw [if_pos hcd]; exact hR9), (fun c hc9 => by rw [if_pos hcd] at hc9; exact Or.inl ⟨(hlv c).symm.trans hc9, rfl⟩), Or.inl ⟨hcd, _, rfl, upd_0⟩⟩
set_option maxHeartbeats 4000000 in
set_option maxRecDepth 100000 in
theorem c_L_got {l : Launch} (hl : l.stackTraces = false) {g : GP} {M : MM} {A : Nat → Nat} {σ : ST} {x0 y0 : Int32} {o : Nat} {fo : Nat → Int64} (hR : CM g A M σ M) (hB : Bd σ) (hD : ID σ) (hO : M o = some (.inl (gC g 1, 1, .inr (.inl fo)))) (ho : ∀ c, lvB σ c = true → o ≠ A c) : CTH l g yL_got cL_got 5 (some .int) [(0, 10, 13, 29)] 9 181 2 12 [.ref (A 0), .int (x0), .int (y0), .ref (o)] M (pI (fun r9 M9 => r9 = nI (cdRR σ x0 y0) ∧ HP g A M σ o σ (cdRR σ x0 y0) (nI (σ.1 29 (12 * cl x0 + cl y0))).toInt64 M9)) := by
  refine cth_of [(0, .ref (A 0)), (1, .int (x0)), (2, .int (y0)), (3, .ref (o))] (by decide) hl (Nat.le_of_ble_eq_true rfl) rfl ?_
  intro K hK F
  subst hK
  have F : Fx K g cL_got RL 5 (some .int) [(0, 10, 13, 29)] 9 181 2 12 := F
  obtain ⟨Q, hQ⟩ : ∃ Q, Q = MQx K g (pI (fun r9 M9 => r9 = nI (cdRR σ x0 y0) ∧ HP g A M σ o σ (cdRR σ x0 y0) (nI (σ.1 29 (12 * cl x0 + cl y0))).toInt64 M9)) nX 2 12 := ⟨_, rfl⟩
  rw [← hQ]
  refine x_aload_n F 3 dL_got_0 rfl ?_
  refine x_iconst F (nI 0) dL_got_1 (by decide) ?_
  refine x_aload_n F 0 dL_got_2 rfl ?_
  refine x_iload_n F 1 dL_got_3 rfl ?_
  refine x_iload_n F 2 dL_got_4 rfl ?_
  refine x_callV F s_L_75 hR.c rfl rfl (c_X3_got F.nt hR hB hD) rfl dL_got_5 (by decide) (by decide) (Nat.le_of_ble_eq_true rfl) (fun E M9 hx => ?_) (ki fun r9 M9 hp9 => ?_)
  · obtain ⟨rfl, hx⟩ := hx
    obtain ⟨rfl, hc⟩ := hx
    refine x_catchX F [] ⟨0, 10, 13, 29⟩ [] rfl (fun z hz => by cases hz) (by decide) (by decide) w_cl29 (by decide) (fun q => ?_)
    refine x_astore F [(4, .ref (q)), (0, .ref (A 0)), (1, .int (x0)), (2, .int (y0)), (3, .ref (o))] dL_got_13 (by decide) rfl ?_
    refine x_iconst F (nI 1) dL_got_15 (by decide) ?_
    rw [hQ]
    exact x_iret F dL_got_16 (by decide) ⟨_, rfl, by rw [hc], A, M, rfl, hR, (fun c hc9 => Or.inl ⟨hc9, rfl⟩), Or.inr ⟨(show ¬ cdRR σ x0 y0 = 0 by rw [hc]; decide), rfl⟩⟩
  · obtain ⟨hcd, rfl, rfl⟩ := hp9
    refine x_i2l F dL_got_8 ?_
    refine x_last F hO (vp_in_nI (n := 0) (by decide) (by decide)) dL_got_9 ?_
    refine x_goto F 17 dL_got_10 (by decide) ?_
    refine x_iconst F (nI 0) dL_got_17 (by decide) ?_
    rw [hQ]
    exact x_iret F dL_got_18 (by decide) ⟨_, rfl, by rw [hcd], A, _, rfl, hR, (fun c hc9 => Or.inl ⟨hc9, rfl⟩), Or.inl ⟨hcd, _, rfl, upd_0⟩⟩
set_option maxHeartbeats 4000000 in
set_option maxRecDepth 100000 in
theorem c_L_counts {l : Launch} (hl : l.stackTraces = false) {g : GP} {M : MM} {A : Nat → Nat} {σ : ST} {x0 : Int32} {o : Nat} {fo : Nat → Int64} (hR : CM g A M σ M) (hB : Bd σ) (hD : ID σ) (hO : M o = some (.inl (gC g 1, 1, .inr (.inl fo)))) (ho : ∀ c, lvB σ c = true → o ≠ A c) : CTH l g yL_counts cL_counts 4 (some .int) [(0, 9, 12, 29)] 8 161 1 6 [.ref (A 0), .int (x0), .ref (o)] M (pI (fun r9 M9 => r9 = nI (cdCo σ x0) ∧ HP g A M σ o σ (cdCo σ x0) (nI (b3T σ (cl x0))).toInt64 M9)) := by
  refine cth_of [(0, .ref (A 0)), (1, .int (x0)), (2, .ref (o))] (by decide) hl (Nat.le_of_ble_eq_true rfl) rfl ?_
  intro K hK F
  subst hK
  have F : Fx K g cL_counts RL 4 (some .int) [(0, 9, 12, 29)] 8 161 1 6 := F
  obtain ⟨Q, hQ⟩ : ∃ Q, Q = MQx K g (pI (fun r9 M9 => r9 = nI (cdCo σ x0) ∧ HP g A M σ o σ (cdCo σ x0) (nI (b3T σ (cl x0))).toInt64 M9)) nX 1 6 := ⟨_, rfl⟩
  rw [← hQ]
  refine x_aload_n F 2 dL_counts_0 rfl ?_
  refine x_iconst F (nI 0) dL_counts_1 (by decide) ?_
  refine x_aload_n F 0 dL_counts_2 rfl ?_
  refine x_iload_n F 1 dL_counts_3 rfl ?_
  refine x_callV F s_L_78 hR.c rfl rfl (c_X3_counts F.nt hR hB hD) rfl dL_counts_4 (by decide) (by decide) (Nat.le_of_ble_eq_true rfl) (fun E M9 hx => ?_) (ki fun r9 M9 hp9 => ?_)
  · obtain ⟨rfl, hx⟩ := hx
    obtain ⟨rfl, hc⟩ := hx
    refine x_catchX F [] ⟨0, 9, 12, 29⟩ [] rfl (fun z hz => by cases hz) (by decide) (by decide) w_cl29 (by decide) (fun q => ?_)
    refine x_astore_n F [(3, .ref (q)), (0, .ref (A 0)), (1, .int (x0)), (2, .ref (o))] dL_counts_12 (by decide) rfl ?_
    refine x_iconst F (nI 1) dL_counts_13 (by decide) ?_
    rw [hQ]
    exact x_iret F dL_counts_14 (by decide) ⟨_, rfl, by rw [hc], A, M, rfl, hR, (fun c hc9 => Or.inl ⟨hc9, rfl⟩), Or.inr ⟨(show ¬ cdCo σ x0 = 0 by rw [hc]; decide), rfl⟩⟩
  · obtain ⟨hcd, rfl, rfl⟩ := hp9
    refine x_i2l F dL_counts_7 ?_
    refine x_last F hO (vp_in_nI (n := 0) (by decide) (by decide)) dL_counts_8 ?_
    refine x_goto F 15 dL_counts_9 (by decide) ?_
    refine x_iconst F (nI 0) dL_counts_15 (by decide) ?_
    rw [hQ]
    exact x_iret F dL_counts_16 (by decide) ⟨_, rfl, by rw [hcd], A, _, rfl, hR, (fun c hc9 => Or.inl ⟨hc9, rfl⟩), Or.inl ⟨hcd, _, rfl, upd_0⟩⟩
set_option maxHeartbeats 4000000 in
set_option maxRecDepth 100000 in
theorem c_L_ranked {l : Launch} (hl : l.stackTraces = false) {g : GP} {M : MM} {A : Nat → Nat} {σ : ST} {x0 : Int32} {o : Nat} {fo : Nat → Int64} (hR : CM g A M σ M) (hB : Bd σ) (hD : ID σ) (hO : M o = some (.inl (gC g 1, 1, .inr (.inl fo)))) (ho : ∀ c, lvB σ c = true → o ≠ A c) : CTH l g yL_ranked cL_ranked 4 (some .int) [(0, 9, 12, 13)] 8 209 1 6 [.ref (A 0), .int (x0), .ref (o)] M (pI (fun r9 M9 => r9 = nI (cdRk x0) ∧ HP g A M σ o σ (cdRk x0) (fF (fun k => decide (nI (rkcS σ k) = x0)) 0 (σ.1 7 0)).toInt64 M9)) := by
  refine cth_of [(0, .ref (A 0)), (1, .int (x0)), (2, .ref (o))] (by decide) hl (Nat.le_of_ble_eq_true rfl) rfl ?_
  intro K hK F
  subst hK
  have F : Fx K g cL_ranked RL 4 (some .int) [(0, 9, 12, 13)] 8 209 1 6 := F
  obtain ⟨Q, hQ⟩ : ∃ Q, Q = MQx K g (pI (fun r9 M9 => r9 = nI (cdRk x0) ∧ HP g A M σ o σ (cdRk x0) (fF (fun k => decide (nI (rkcS σ k) = x0)) 0 (σ.1 7 0)).toInt64 M9)) nX 1 6 := ⟨_, rfl⟩
  rw [← hQ]
  refine x_aload_n F 2 dL_ranked_0 rfl ?_
  refine x_iconst F (nI 0) dL_ranked_1 (by decide) ?_
  refine x_aload_n F 0 dL_ranked_2 rfl ?_
  refine x_iload_n F 1 dL_ranked_3 rfl ?_
  refine x_callV F s_L_81 hR.c rfl rfl (c_X3_ranked F.nt hR hB hD) rfl dL_ranked_4 (by decide) (by decide) (Nat.le_of_ble_eq_true rfl) (fun E M9 hx => ?_) (ki fun r9 M9 hp9 => ?_)
  · obtain ⟨rfl, hx⟩ := hx
    obtain ⟨rfl, hc⟩ := hx
    refine x_catchX F [] ⟨0, 9, 12, 13⟩ [] rfl (fun z hz => by cases hz) (by decide) (by decide) w_cl13 (by decide) (fun q => ?_)
    refine x_astore_n F [(3, .ref (q)), (0, .ref (A 0)), (1, .int (x0)), (2, .ref (o))] dL_ranked_12 (by decide) rfl ?_
    refine x_iconst F (nI 1) dL_ranked_13 (by decide) ?_
    rw [hQ]
    exact x_iret F dL_ranked_14 (by decide) ⟨_, rfl, by rw [hc], A, M, rfl, hR, (fun c hc9 => Or.inl ⟨hc9, rfl⟩), Or.inr ⟨(show ¬ cdRk x0 = 0 by rw [hc]; decide), rfl⟩⟩
  · obtain ⟨hcd, rfl, rfl⟩ := hp9
    refine x_i2l F dL_ranked_7 ?_
    refine x_last F hO (vp_in_nI (n := 0) (by decide) (by decide)) dL_ranked_8 ?_
    refine x_goto F 15 dL_ranked_9 (by decide) ?_
    refine x_iconst F (nI 0) dL_ranked_15 (by decide) ?_
    rw [hQ]
    exact x_iret F dL_ranked_16 (by decide) ⟨_, rfl, by rw [hcd], A, _, rfl, hR, (fun c hc9 => Or.inl ⟨hc9, rfl⟩), Or.inl ⟨hcd, _, rfl, upd_0⟩⟩
