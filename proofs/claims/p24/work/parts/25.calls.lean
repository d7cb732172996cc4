/-! calls, throws, ends -/
section XC
variable {K : KX} {g : GP} {cc : ByteArray} {own : String} {nL : Nat} {ret : Option FieldType} {hh : List (Nat × Nat × Nat × Nat)} {fr lo mc ms : Nat} {Q : State → Prop} {M : MM} {a b pc : Nat} {L : List (Nat × Value)} {st : List Value}
/-- what the tables say of a call's site -/
def CSV (own : String) (idx : Nat) (y : MethodName) (C : String) (bytes : ByteArray) (maxL : Nat) (yr : Option FieldType) (n : Nat) : Prop :=
  (Cond.methodLink own idx y ∈ TB ∧ Cond.instanceMethod y ∈ TB ∧ Cond.selects C y y ∈ TB ∧ Cond.initialized C ∈ TB ∧ Cond.code y bytes maxL yr ∈ TB) ∧ y.cls = C ∧ y.cls ≠ "java/lang/invoke/MethodHandle" ∧ y.cls ≠ "java/lang/invoke/VarHandle" ∧ (parseMethodDescriptor y.desc).map (fun d => d.parameters.length) = some n
def CSS (own : String) (idx : Nat) (y : MethodName) (bytes : ByteArray) (maxL : Nat) (yr : Option FieldType) (n : Nat) : Prop :=
  (Cond.methodLink own idx y ∈ TB ∧ Cond.static y ∈ TB ∧ Cond.initialized y.cls ∈ TB ∧ Cond.code y bytes maxL yr ∈ TB) ∧ y.cls ≠ "java/lang/invoke/MethodHandle" ∧ y.cls ≠ "java/lang/invoke/VarHandle" ∧ (parseMethodDescriptor y.desc).map (fun d => d.parameters.length) = some n
def CSI (own : String) (idx : Nat) (y : MethodName) (bytes : ByteArray) (maxL : Nat) (n : Nat) : Prop :=
  (Cond.methodLink own idx y ∈ TB ∧ Cond.instanceMethod y ∈ TB ∧ Cond.initialized y.cls ∈ TB ∧ Cond.code y bytes maxL none ∈ TB) ∧ y.name = "<init>" ∧ y.cls ≠ "java/lang/invoke/MethodHandle" ∧ y.cls ≠ "java/lang/invoke/VarHandle" ∧ (parseMethodDescriptor y.desc).map (fun d => d.parameters.length) = some n
theorem x_fix (F : Fx K g cc own nL ret hh fr lo mc ms) : CallFix (kp K) (km K) (kc K) cc nL (ks K) (ka K) TB own := ⟨F.ex, F.by_, F.lx, F.ow, F.tb⟩
theorem tb_gi0 {cy : Cond} (h : cy ∈ TB) : GoodIn TB (cy :: TB) := fun w hw => by
  rcases List.mem_cons.mp hw with rfl | h2
  · exact ⟨h, good_of_word (tb_gw h)⟩
  · exact ⟨h2, good_of_word (tb_gw h2)⟩
theorem x_callB (F : Fx K g cc own nL ret hh fr lo mc ms) {y : MethodName} {bytes : ByteArray} {maxL idx n fr' lo' mc' ms' : Nat} {yr : Option FieldType} (w1 : (Cond.methodLink own idx y).before (ka K) (ks K) = true) (w4 : Cond.initialized y.cls ∈ TB) (w5 : Cond.code y bytes maxL yr ∈ TB) (hd : y.cls ≠ "java/lang/invoke/MethodHandle" ∧ y.cls ≠ "java/lang/invoke/VarHandle" ∧ (parseMethodDescriptor y.desc).map (fun d => d.parameters.length) = some n) (hR : fr' + 1 ≤ fr ∧ 8 + (maxL + 11) + lo' ≤ lo) : CallB (kR K) (ks K) (ka K) own idx y bytes maxL yr (Cond.code y bytes maxL yr :: TB) { frames := fr', cells := mc', slots := ms', locals := lo' } mc' ms' n :=
  callB_of n F.tb (tb_gi0 w5) rfl rfl rfl (F.tb _ w4) w1 hd (by rw [F.rf, F.rl]; exact hR)
/-- behind a call: where it returned, where it threw -/
theorem x_after {l1 : Launch} {y : MethodName} {bytes : ByteArray} {maxL fr' lo' mc' ms' : Nat} {yr : Option FieldType} {av : List Value} {post : Option Value → MM → Prop} {px : String → MM → Prop} {rest st0 : List Value}
    (kx : ∀ E M', px E M' → XT K g nL Q M' (a + mc') (b + ms') pc L E) (kk : ∀ v M', post v M' → XW K g nL Q M' (a + mc') (b + ms') (pc + 3) L (v.toList ++ rest)) {H : Heap} {lc : List Loc} {ls : Array Slot} (hS : va_S (gO g) (ks K).heap H lc) (hl : lv_has ls nL L)
    (hr : vx_Run (kp K) (kl K) (ke K) (kR K) (ks K) (km K) (ka K) (kb K) (kme K) (kc K) H lc a b mc' ms' (F0 (km K) pc ls st0) rest (xQc g post av.toArray) (xXC g px) (gO g)) : W (kp K) (kl K) (ke K) (kR K) (ks K) (km K) (ka K) (kb K) (kme K) (kc K) H lc a b Q (F0 (km K) pc ls st0) := by
  intro T hT X
  rcases hr T hT X with ⟨v, st₀, t, T', LL, h0, X', hL, e1, e2, ⟨⟨v', M', hv, hp, hb⟩, hF⟩, hst⟩ | ⟨q, st₀, t, T', LL, E, ce, h0, X', hL, e1, e2, ⟨⟨M', hp, hb⟩, hF⟩, hce, hcv, hcl, hst⟩
  · cases hv
    obtain ⟨-, -, k3⟩ := vx_keep h0 e1 hS (fun _ _ h => h) (fun _ h => h) hL hF
    obtain ⟨t2, a1, b1⟩ := kk v M' hp T'.heap (lc ++ LL) ls (by rw [e1]; exact hb) k3 hl T' rfl X'
    exact ⟨t2, hst t2 a1, b1⟩
  · obtain ⟨-, -, k3⟩ := vx_keep h0 e1 hS (fun _ _ h => h) (fun _ h => h) hL hF
    obtain ⟨t2, a1, b1⟩ := kx E M' hp T'.heap (lc ++ LL) ls rest q ce (by rw [e1]; exact hb) k3 hl (by rw [e1]; exact hce) hcv hcl T' rfl X'
    exact ⟨t2, hst.trans a1, b1⟩
theorem x_pre (F : Fx K g cc own nL ret hh fr lo mc ms) {av : List Value} {H : Heap} {lc : List Loc} (hM : hm g M H) (hS : va_S (gO g) (ks K).heap H lc) : ∀ U : State, U.heap = H → (ks K).WarmedH U.vm → xPc g av M av.toArray U := fun U hU hW => ⟨rfl, F.gg.step hS hU hW, by rw [hU]; exact hM⟩
theorem x_callV (F : Fx K g cc own nL ret hh fr lo mc ms) {idx n maxL fr' lo' mc' ms' q ci N : Nat} {y : MethodName} {C : String} {T : u_T} {bytes : ByteArray} {yr : Option FieldType} {post : Option Value → MM → Prop} {px : String → MM → Prop} {fs As rest : List Value} (cs : CSV own idx y C bytes maxL yr n) (hM0 : M q = some (.inr (ci, fs))) (hc : vwCl[ci]? = some (C, T, N)) (hn : As.length = n) (hct : CT (kl K) g y bytes maxL yr fr' lo' mc' ms' (.ref q :: As) M post px) (hst : st = As.reverse ++ .ref q :: rest) (d : decode cc pc = .ok (.invokevirtual idx, 3)) (hR : fr' + 1 ≤ fr ∧ 8 + (maxL + 11) + lo' ≤ lo) (hr : a + mc' ≤ mc ∧ b + ms' ≤ ms) (h8 : (rest.map fun v => v.category).sum ≤ 8)
    (kx : ∀ E M', px E M' → XT K g nL Q M' (a + mc') (b + ms') pc L E) (kk : ∀ v M', post v M' → XW K g nL Q M' (a + mc') (b + ms') (pc + 3) L (v.toList ++ rest)) : XW K g nL Q M a b pc L st := by
  intro H lc ls hM hS hl
  obtain ⟨⟨w1, w2, w3, w4, w5⟩, e1, d1, d2, d3⟩ := cs
  subst e1
  refine x_after (l1 := kl K) (y := y) (bytes := bytes) (maxL := maxL) (fr' := fr') (lo' := lo') (yr := yr) (av := .ref q :: As) kx kk hS hl ?_
  exact vx_runV (C := y.cls) (x_fix F) hct ⟨x_callB F (F.tb _ w1) w4 w5 ⟨d1, d2, d3⟩ hR, F.tb _ w2, F.tb _ w3⟩ ⟨xPc_blind, x_cell F.vk hM hM0 hc, x_pre F hM hS⟩ rfl hn hl.1 hst (lv_room h8) d ⟨by rw [F.rc]; exact hr.1, by rw [F.rs]; exact hr.2⟩
theorem x_callS (F : Fx K g cc own nL ret hh fr lo mc ms) {idx n maxL fr' lo' mc' ms' : Nat} {y : MethodName} {bytes : ByteArray} {yr : Option FieldType} {post : Option Value → MM → Prop} {px : String → MM → Prop} {As rest : List Value} (cs : CSS own idx y bytes maxL yr n) (hn : As.length = n) (hct : CT (kl K) g y bytes maxL yr fr' lo' mc' ms' As M post px) (hst : st = As.reverse ++ rest) (d : decode cc pc = .ok (.invokestatic idx, 3)) (hR : fr' + 1 ≤ fr ∧ 8 + (maxL + 11) + lo' ≤ lo) (hr : a + mc' ≤ mc ∧ b + ms' ≤ ms) (h8 : (rest.map fun v => v.category).sum ≤ 8)
    (kx : ∀ E M', px E M' → XT K g nL Q M' (a + mc') (b + ms') pc L E) (kk : ∀ v M', post v M' → XW K g nL Q M' (a + mc') (b + ms') (pc + 3) L (v.toList ++ rest)) : XW K g nL Q M a b pc L st := by
  intro H lc ls hM hS hl
  obtain ⟨⟨w1, w2, w4, w5⟩, d1, d2, d3⟩ := cs
  refine x_after (l1 := kl K) (y := y) (bytes := bytes) (maxL := maxL) (fr' := fr') (lo' := lo') (yr := yr) (av := As) kx kk hS hl ?_
  exact vx_runS (x_fix F) hct ⟨x_callB F (F.tb _ w1) w4 w5 ⟨d1, d2, d3⟩ hR, F.tb _ w2⟩ ⟨xPc_blind, x_pre F hM hS⟩ rfl hn hl.1 hst (lv_room h8) d ⟨by rw [F.rc]; exact hr.1, by rw [F.rs]; exact hr.2⟩
/-- thrown here, not caught here -/
theorem x_out (F : Fx K g cc own nL ret [] fr lo mc ms) {post : Option Value → MM → Prop} {px : String → MM → Prop} {E : String} (ha : a ≤ mc) (hb : b ≤ ms) (hp : px E M) : XT K g nL (MQx K g post px mc ms) M a b pc L E := by
  intro H lc ls rest q ce hM hS hl hce hcv hcl
  refine vx_out (E := E) (fun x hx => ?_) F.lk hce hcv hcl (fun t ht hv => ⟨⟨M, hp, by rw [ht]; exact hM⟩, hS.F ht⟩) hS.2.2 ha hb
  rw [F.ta] at hx
  cases hx
theorem x_outX (F : Fx K g cc own nL ret [] fr lo mc ms) {post : Option Value → MM → Prop} {px px' : String → MM → Prop} (ha : a ≤ mc ∧ b ≤ ms) (hp : ∀ E M', px' E M' → px E M') : ∀ E M', px' E M' → XT K g nL (MQx K g post px mc ms) M' a b pc L E := fun E M' h => x_out F ha.1 ha.2 (hp E M' h)
theorem x_noX : ∀ E M', nX E M' → XT K g nL Q M' a b pc L E := fun _ _ h => h.elim
theorem ki {P : Int32 → MM → Prop} (h : ∀ r M', P r M' → XW K g nL Q M' a b pc L (.int r :: st)) : ∀ v M', pI P v M' → XW K g nL Q M' a b pc L (v.toList ++ st) := by
  rintro _ M' ⟨r, rfl, hp⟩
  exact h r M' hp
theorem kr {P : Nat → MM → Prop} (h : ∀ r M', P r M' → XW K g nL Q M' a b pc L (.ref r :: st)) : ∀ v M', pR P v M' → XW K g nL Q M' a b pc L (v.toList ++ st) := by
  rintro _ M' ⟨r, rfl, hp⟩
  exact h r M' hp
theorem kq {P : Option Nat → MM → Prop} (h : ∀ r M', P r M' → XW K g nL Q M' a b pc L (va_rf r :: st)) : ∀ v M', pQ P v M' → XW K g nL Q M' a b pc L (v.toList ++ st) := by
  rintro _ M' ⟨r, rfl, hp⟩
  exact h r M' hp
theorem kv {P : MM → Prop} (h : ∀ M', P M' → XW K g nL Q M' a b pc L st) : ∀ v M', pV P v M' → XW K g nL Q M' a b pc L (v.toList ++ st) := by
  rintro _ M' ⟨rfl, hp⟩
  exact h M' hp
-- ends
theorem x_iret (F : Fx K g cc own nL (some .int) hh fr lo mc ms) {post : Option Value → MM → Prop} {px : String → MM → Prop} {v : Int32} (d : decode cc pc = .ok (.ireturn, 1)) (ha : a ≤ mc ∧ b ≤ ms) (hp : post (some (.int v)) M) : XW K g nL (MQx K g post px mc ms) M a b pc L [.int v] :=
  fun H lc ls hM hS hl => W.widen ha.1 ha.2 (vx_ret (W.iret F.ex F.by_ F.re (fun t ht hW => ⟨⟨_, M, rfl, hp, by rw [ht]; exact hM⟩, hS.F ht⟩) hS.2.2 d F.lk))
theorem x_zret (F : Fx K g cc own nL (some .boolean) hh fr lo mc ms) {post : Option Value → MM → Prop} {px : String → MM → Prop} {v : Int32} (d : decode cc pc = .ok (.ireturn, 1)) (ha : a ≤ mc ∧ b ≤ ms) (hv : v = 0 ∨ v = 1) (hp : post (some (.int v)) M) : XW K g nL (MQx K g post px mc ms) M a b pc L [.int v] :=
  fun H lc ls hM hS hl => W.widen ha.1 ha.2 (vx_ret (W.zret F.ex F.by_ F.re (by rcases hv with rfl | rfl <;> rfl) (fun t ht hW => ⟨⟨_, M, rfl, hp, by rw [ht]; exact hM⟩, hS.F ht⟩) hS.2.2 d F.lk))
theorem x_aret (F : Fx K g cc own nL ret hh fr lo mc ms) {rt : FieldType} (hrt : ret = some rt) (hk : (∃ n, rt = .object n) ∨ ∃ t, rt = .array t) {post : Option Value → MM → Prop} {px : String → MM → Prop} {v : Nat} (d : decode cc pc = .ok (.areturn, 1)) (ha : a ≤ mc ∧ b ≤ ms) (hp : post (some (.ref v)) M) : XW K g nL (MQx K g post px mc ms) M a b pc L [.ref v] :=
  fun H lc ls hM hS hl => W.widen ha.1 ha.2 (vx_ret (W.aret F.ex F.by_ (F.re.trans hrt) hk (Or.inr ⟨v, rfl⟩) (fun t ht hW => ⟨⟨_, M, rfl, hp, by rw [ht]; exact hM⟩, hS.F ht⟩) hS.2.2 d F.lk))
theorem x_aretN (F : Fx K g cc own nL ret hh fr lo mc ms) {rt : FieldType} (hrt : ret = some rt) (hk : (∃ n, rt = .object n) ∨ ∃ t, rt = .array t) {post : Option Value → MM → Prop} {px : String → MM → Prop} (d : decode cc pc = .ok (.areturn, 1)) (ha : a ≤ mc ∧ b ≤ ms) (hp : post (some .null) M) : XW K g nL (MQx K g post px mc ms) M a b pc L [.null] :=
  fun H lc ls hM hS hl => W.widen ha.1 ha.2 (vx_ret (W.aret F.ex F.by_ (F.re.trans hrt) hk (Or.inl rfl) (fun t ht hW => ⟨⟨_, M, rfl, hp, by rw [ht]; exact hM⟩, hS.F ht⟩) hS.2.2 d F.lk))
theorem x_vret (F : Fx K g cc own nL none hh fr lo mc ms) {post : Option Value → MM → Prop} {px : String → MM → Prop} (d : decode cc pc = .ok (.return_, 1)) (ha : a ≤ mc ∧ b ≤ ms) (hp : post none M) : XW K g nL (MQx K g post px mc ms) M a b pc L [] :=
  fun H lc ls hM hS hl => W.widen ha.1 ha.2 (vx_ret (W.vret F.ex F.by_ F.re (fun t ht hW => ⟨⟨_, M, rfl, hp, by rw [ht]; exact hM⟩, hS.F ht⟩) hS.2.2 d F.lk))
theorem x_widen {a' b' : Nat} (h1 : a ≤ a') (h2 : b ≤ b') (kk : XW K g nL Q M a' b' pc L st) : XW K g nL Q M a b pc L st := fun H lc ls hM hS hl => W.widen h1 h2 (kk H lc ls hM hS hl)
theorem x_sub {L' : List (Nat × Value)} (ks : List Nat) (h : lv_pick L ks = L') (kk : XW K g nL Q M a b pc L' st) : XW K g nL Q M a b pc L st := fun H lc ls hM hS hl => kk H lc ls hM hS (lv_sub hl ks h)
end XC
/-- loops that count: downward induction -/
theorem x_loop (n : Nat) (P : Nat → Prop) (h : ∀ i, i ≤ n → (i < n → P (i + 1)) → P i) : ∀ i, i ≤ n → P i := by
  intro i hi
  obtain ⟨k, hk⟩ : ∃ k, k = n - i := ⟨_, rfl⟩
  induction k generalizing i with
  | zero => exact h i hi (fun z => by omega)
  | succ k ih => exact h i hi (fun z => ih (i + 1) z (by omega))
