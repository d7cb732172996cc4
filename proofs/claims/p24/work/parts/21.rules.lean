/-! the judgement XW and its rows -/
abbrev KX : Type := Program × Launch × Env × Room × State × MethodId × Array Value × List Frame × Method × Code
abbrev kp (K : KX) : Program := K.1
abbrev kl (K : KX) : Launch := K.2.1
abbrev ke (K : KX) : Env := K.2.2.1
abbrev kR (K : KX) : Room := K.2.2.2.1
abbrev ks (K : KX) : State := K.2.2.2.2.1
abbrev km (K : KX) : MethodId := K.2.2.2.2.2.1
abbrev ka (K : KX) : Array Value := K.2.2.2.2.2.2.1
abbrev kb (K : KX) : List Frame := K.2.2.2.2.2.2.2.1
abbrev kme (K : KX) : Method := K.2.2.2.2.2.2.2.2.1
abbrev kc (K : KX) : Code := K.2.2.2.2.2.2.2.2.2
def XW (K : KX) (g : GP) (nL : Nat) (Q : State → Prop) (M : MM) (a b pc : Nat) (L : List (Nat × Value)) (st : List Value) : Prop :=
  ∀ H locs ls, hm g M H → va_S (gO g) (ks K).heap H locs → lv_has ls nL L → W (kp K) (kl K) (ke K) (kR K) (ks K) (km K) (ka K) (kb K) (kme K) (kc K) H locs a b Q (F0 (km K) pc ls st)
/-- q thrown, of the class E, over the instruction at pc -/
def XT (K : KX) (g : GP) (nL : Nat) (Q : State → Prop) (M : MM) (a b pc : Nat) (L : List (Nat × Value)) (E : String) : Prop :=
  ∀ H locs ls rest q ce, hm g M H → va_S (gO g) (ks K).heap H locs → lv_has ls nL L → H[q]? = some ce → ce.vm = .none → (ks K).vm.findClass E = some ce.cls → vx_W (kp K) (kl K) (ke K) (kR K) (ks K) (km K) (ka K) (kb K) (kme K) (kc K) H locs a b Q (F0 (km K) pc ls rest) q
def Fx (K : KX) (g : GP) (cc : ByteArray) (own : String) (nL : Nat) (ret : Option FieldType) (hh : List (Nat × Nat × Nat × Nat)) (fr lo mc ms : Nat) : Prop :=
  (kp K).tables.exec = Jvm.exec ∧ (kc K).code = cc ∧ (kc K).maxLocals = nL ∧ (ks K).vm.findClass own = some (km K).cls ∧ (∀ w ∈ TB, w.before (ka K) (ks K) = true) ∧ GG g (ks K) ∧ (kme K).sig.returnType = ret ∧ (kme K).locks = false ∧ (kc K).exceptionTable.toList = tableOf hh ∧ (kl K).stackTraces = false ∧ (kR K).frames = fr ∧ (kR K).locals = lo ∧ (kR K).cells = mc ∧ (kR K).slots = ms
def xPc (g : GP) (av : List Value) (M : MM) : Array Value → State → Prop := va_Pc av (fun U => GG g U ∧ hm g M U.heap)
def xQc (g : GP) (post : Option Value → MM → Prop) : Array Value → State → Outcome → State → Prop := fun _ st oc t => (∃ v M', oc = .returned v ∧ post v M' ∧ hm g M' t.heap) ∧ va_F (gO g) st t
def xXC (g : GP) (px : String → MM → Prop) : String → State → State → Prop := fun E st t => (∃ M', px E M' ∧ hm g M' t.heap) ∧ va_F (gO g) st t
abbrev MQx (K : KX) (g : GP) (post : Option Value → MM → Prop) (px : String → MM → Prop) (mc ms : Nat) : State → Prop := vx_MQ (kb K) (xQc g post) (xXC g px) (ka K) (ks K) mc ms (gO g)
def CT (l : Launch) (g : GP) (y : MethodName) (cc : ByteArray) (nL : Nat) (ret : Option FieldType) (fr lo mc ms : Nat) (av : List Value) (M : MM) (post : Option Value → MM → Prop) (px : String → MM → Prop) : Prop :=
  vx_Met l y (Cond.code y cc nL ret :: TB) { frames := fr, cells := mc, slots := ms, locals := lo } (xPc g av M) (xQc g post) (xXC g px) mc ms (gO g)
def pI (P : Int32 → MM → Prop) : Option Value → MM → Prop := fun v M => ∃ r, v = some (.int r) ∧ P r M
def pR (P : Nat → MM → Prop) : Option Value → MM → Prop := fun v M => ∃ r, v = some (.ref r) ∧ P r M
def pQ (P : Option Nat → MM → Prop) : Option Value → MM → Prop := fun v M => ∃ r, v = some (va_rf r) ∧ P r M
def pV (P : MM → Prop) : Option Value → MM → Prop := fun v M => v = none ∧ P M
def nX : String → MM → Prop := fun _ _ => False
theorem xPc_blind {g : GP} {av : List Value} {M : MM} : FrameBlind (xPc g av M) := fun _ _ _ _ h => ⟨h.1, h.2.1.calling, h.2.2⟩
theorem ct_of {l : Launch} {g : GP} {y : MethodName} {cc : ByteArray} {nL : Nat} {ret : Option FieldType} {fr lo mc ms : Nat} {av : List Value} {M : MM} {post : Option Value → MM → Prop} {px : String → MM → Prop} (L : List (Nat × Value)) (hy : plainName y.cls = true) (hl : l.stackTraces = false) (hn : (lg_sl av).length ≤ nL) (hL : lv_args 0 av = L)
    (h : ∀ K : KX, kl K = l → Fx K g cc y.cls nL ret [] fr lo mc ms → XW K g nL (MQx K g post px mc ms) M 0 0 0 L []) : CT l g y cc nL ret fr lo mc ms av M post px := by
  refine vx_ofW (cc := cc) (maxL := nL) (ret := ret) hy rfl ?_
  intro p e s m args below meth c s₁ B hml ht hv
  obtain ⟨rfl, hG, hM⟩ := hv
  have hts := atoms_spec (ws := Cond.code y cc nL ret :: TB) B.pre
  have hl0 := lv_entry av (n := nL) hn
  rw [hL] at hl0
  rw [lg_entry_eq]
  have ht2 : c.exceptionTable.toList = tableOf [] := by
    cases hc : c.exceptionTable.toList with
    | nil => rfl
    | cons x xs => exact (ht x (by rw [hc]; exact List.mem_cons_self)).elim
  exact h (p, l, e, (headSpec (Cond.code y cc nL ret :: TB) { frames := fr, cells := mc, slots := ms, locals := lo }).room, s, m, _, below, meth, c) rfl ⟨B.exec, B.bytes, hml, findClass_of_methodNamed B.named, fun w hw => hts w (List.mem_cons_of_mem _ hw), hG, B.returns, B.notSynchronized, ht2, hl, rfl, rfl, rfl, rfl⟩ s.heap [] _ hM va_S.rf hl0
section XR
variable {K : KX} {g : GP} {cc : ByteArray} {own : String} {nL : Nat} {ret : Option FieldType} {hh : List (Nat × Nat × Nat × Nat)} {fr lo mc ms : Nat} {Q : State → Prop} {M : MM} {a b pc : Nat} {L : List (Nat × Value)} {st : List Value}
theorem Fx.ex (F : Fx K g cc own nL ret hh fr lo mc ms) : (kp K).tables.exec = Jvm.exec := F.1
theorem Fx.by_ (F : Fx K g cc own nL ret hh fr lo mc ms) : (kc K).code = cc := F.2.1
theorem Fx.lx (F : Fx K g cc own nL ret hh fr lo mc ms) : (kc K).maxLocals = nL := F.2.2.1
theorem Fx.ow (F : Fx K g cc own nL ret hh fr lo mc ms) : (ks K).vm.findClass own = some (km K).cls := F.2.2.2.1
theorem Fx.tb (F : Fx K g cc own nL ret hh fr lo mc ms) : ∀ w ∈ TB, w.before (ka K) (ks K) = true := F.2.2.2.2.1
theorem Fx.gg (F : Fx K g cc own nL ret hh fr lo mc ms) : GG g (ks K) := F.2.2.2.2.2.1
theorem Fx.re (F : Fx K g cc own nL ret hh fr lo mc ms) : (kme K).sig.returnType = ret := F.2.2.2.2.2.2.1
theorem Fx.lk (F : Fx K g cc own nL ret hh fr lo mc ms) : (kme K).locks = false := F.2.2.2.2.2.2.2.1
theorem Fx.ta (F : Fx K g cc own nL ret hh fr lo mc ms) : (kc K).exceptionTable.toList = tableOf hh := F.2.2.2.2.2.2.2.2.1
theorem Fx.nt (F : Fx K g cc own nL ret hh fr lo mc ms) : (kl K).stackTraces = false := F.2.2.2.2.2.2.2.2.2.1
theorem Fx.rf (F : Fx K g cc own nL ret hh fr lo mc ms) : (kR K).frames = fr := F.2.2.2.2.2.2.2.2.2.2.1
theorem Fx.rl (F : Fx K g cc own nL ret hh fr lo mc ms) : (kR K).locals = lo := F.2.2.2.2.2.2.2.2.2.2.2.1
theorem Fx.rc (F : Fx K g cc own nL ret hh fr lo mc ms) : (kR K).cells = mc := F.2.2.2.2.2.2.2.2.2.2.2.2.1
theorem Fx.rs (F : Fx K g cc own nL ret hh fr lo mc ms) : (kR K).slots = ms := F.2.2.2.2.2.2.2.2.2.2.2.2.2
theorem Fx.vk (F : Fx K g cc own nL ret hh fr lo mc ms) : va_K (gD g) vwCl (tysL (gC g)) (ks K) := F.gg.2.2.1
-- pure rows
theorem x_iload_n (F : Fx K g cc own nL ret hh fr lo mc ms) (j : Nat) {k : Fin 4} {x : Int32} (d : decode cc pc = .ok (.iload_n k, 1)) (h : L[j]? = some (k.val, .int x)) (kk : XW K g nL Q M a b (pc + 1) L (.int x :: st)) : XW K g nL Q M a b pc L st :=
  fun H lc ls hM hS hl => lv_iload_n F.ex F.by_ d rfl (lv_at hl j h) (kk H lc ls hM hS hl)
theorem x_iload (F : Fx K g cc own nL ret hh fr lo mc ms) (j : Nat) {k : Nat} {x : Int32} (d : decode cc pc = .ok (.iload k, 2)) (h : L[j]? = some (k, .int x)) (kk : XW K g nL Q M a b (pc + 2) L (.int x :: st)) : XW K g nL Q M a b pc L st :=
  fun H lc ls hM hS hl => lv_iload F.ex F.by_ d (lv_at hl j h) (kk H lc ls hM hS hl)
theorem x_lload_n (F : Fx K g cc own nL ret hh fr lo mc ms) (j : Nat) {k : Fin 4} {x : Int64} (d : decode cc pc = .ok (.lload_n k, 1)) (h : L[j]? = some (k.val, .long x)) (kk : XW K g nL Q M a b (pc + 1) L (.long x :: st)) : XW K g nL Q M a b pc L st :=
  fun H lc ls hM hS hl => lv_lload_n F.ex F.by_ d rfl (lv_at hl j h) (kk H lc ls hM hS hl)
theorem x_lload (F : Fx K g cc own nL ret hh fr lo mc ms) (j : Nat) {k : Nat} {x : Int64} (d : decode cc pc = .ok (.lload k, 2)) (h : L[j]? = some (k, .long x)) (kk : XW K g nL Q M a b (pc + 2) L (.long x :: st)) : XW K g nL Q M a b pc L st :=
  fun H lc ls hM hS hl => lv_lload F.ex F.by_ d (lv_at hl j h) (kk H lc ls hM hS hl)
theorem x_aload_n (F : Fx K g cc own nL ret hh fr lo mc ms) (j : Nat) {k : Fin 4} {x : Nat} (d : decode cc pc = .ok (.aload_n k, 1)) (h : L[j]? = some (k.val, .ref x)) (kk : XW K g nL Q M a b (pc + 1) L (.ref x :: st)) : XW K g nL Q M a b pc L st :=
  fun H lc ls hM hS hl => lv_aload_n F.ex F.by_ d rfl (lv_at hl j h) (kk H lc ls hM hS hl)
theorem x_aload (F : Fx K g cc own nL ret hh fr lo mc ms) (j : Nat) {k : Nat} {x : Nat} (d : decode cc pc = .ok (.aload k, 2)) (h : L[j]? = some (k, .ref x)) (kk : XW K g nL Q M a b (pc + 2) L (.ref x :: st)) : XW K g nL Q M a b pc L st :=
  fun H lc ls hM hS hl => lv_aload F.ex F.by_ d (lv_at hl j h) (kk H lc ls hM hS hl)
theorem x_istore_n (F : Fx K g cc own nL ret hh fr lo mc ms) (L' : List (Nat × Value)) {k : Fin 4} {x : Int32} (d : decode cc pc = .ok (.istore_n k, 1)) (hn : k.val < nL) (h : (k.val, Value.int x) :: L.filter (fun q => !(q.1 == k.val) && !(q.1 + 1 == k.val && q.2.category == 2)) = L') (kk : XW K g nL Q M a b (pc + 1) L' st) : XW K g nL Q M a b pc L (.int x :: st) :=
  fun H lc ls hM hS hl => lv_istore_n F.ex F.by_ d rfl hl hn h (fun ls' hl' => kk H lc ls' hM hS hl')
theorem x_istore (F : Fx K g cc own nL ret hh fr lo mc ms) (L' : List (Nat × Value)) {k : Nat} {x : Int32} (d : decode cc pc = .ok (.istore k, 2)) (hn : k < nL) (h : (k, Value.int x) :: L.filter (fun q => !(q.1 == k) && !(q.1 + 1 == k && q.2.category == 2)) = L') (kk : XW K g nL Q M a b (pc + 2) L' st) : XW K g nL Q M a b pc L (.int x :: st) :=
  fun H lc ls hM hS hl => lv_istore F.ex F.by_ d hl hn h (fun ls' hl' => kk H lc ls' hM hS hl')
theorem x_lstore_n (F : Fx K g cc own nL ret hh fr lo mc ms) (L' : List (Nat × Value)) {k : Fin 4} {x : Int64} (d : decode cc pc = .ok (.lstore_n k, 1)) (hn : k.val + 1 < nL) (h : (k.val, Value.long x) :: L.filter (fun q => !(q.1 == k.val) && (!(q.1 == k.val + 1) && !(q.1 + 1 == k.val && q.2.category == 2))) = L') (kk : XW K g nL Q M a b (pc + 1) L' st) : XW K g nL Q M a b pc L (.long x :: st) :=
  fun H lc ls hM hS hl => lv_lstore_n F.ex F.by_ d rfl hl hn h (fun ls' hl' => kk H lc ls' hM hS hl')
theorem x_lstore (F : Fx K g cc own nL ret hh fr lo mc ms) (L' : List (Nat × Value)) {k : Nat} {x : Int64} (d : decode cc pc = .ok (.lstore k, 2)) (hn : k + 1 < nL) (h : (k, Value.long x) :: L.filter (fun q => !(q.1 == k) && (!(q.1 == k + 1) && !(q.1 + 1 == k && q.2.category == 2))) = L') (kk : XW K g nL Q M a b (pc + 2) L' st) : XW K g nL Q M a b pc L (.long x :: st) :=
  fun H lc ls hM hS hl => lv_lstore F.ex F.by_ d hl hn h (fun ls' hl' => kk H lc ls' hM hS hl')
theorem x_astore_n (F : Fx K g cc own nL ret hh fr lo mc ms) (L' : List (Nat × Value)) {k : Fin 4} {x : Nat} (d : decode cc pc = .ok (.astore_n k, 1)) (hn : k.val < nL) (h : (k.val, Value.ref x) :: L.filter (fun q => !(q.1 == k.val) && !(q.1 + 1 == k.val && q.2.category == 2)) = L') (kk : XW K g nL Q M a b (pc + 1) L' st) : XW K g nL Q M a b pc L (.ref x :: st) :=
  fun H lc ls hM hS hl => lv_astore_n F.ex F.by_ d rfl hl hn h (fun ls' hl' => kk H lc ls' hM hS hl')
theorem x_astore (F : Fx K g cc own nL ret hh fr lo mc ms) (L' : List (Nat × Value)) {k : Nat} {x : Nat} (d : decode cc pc = .ok (.astore k, 2)) (hn : k < nL) (h : (k, Value.ref x) :: L.filter (fun q => !(q.1 == k) && !(q.1 + 1 == k && q.2.category == 2)) = L') (kk : XW K g nL Q M a b (pc + 2) L' st) : XW K g nL Q M a b pc L (.ref x :: st) :=
  fun H lc ls hM hS hl => lv_astore F.ex F.by_ d hl hn h (fun ls' hl' => kk H lc ls' hM hS hl')
theorem x_aload_nN (F : Fx K g cc own nL ret hh fr lo mc ms) (j : Nat) {k : Fin 4} (d : decode cc pc = .ok (.aload_n k, 1)) (h : L[j]? = some (k.val, .null)) (kk : XW K g nL Q M a b (pc + 1) L (.null :: st)) : XW K g nL Q M a b pc L st :=
  fun H lc ls hM hS hl => lv_aload_nN F.ex F.by_ d rfl (lv_at hl j h) (kk H lc ls hM hS hl)
theorem x_aloadN (F : Fx K g cc own nL ret hh fr lo mc ms) (j : Nat) {k : Nat} (d : decode cc pc = .ok (.aload k, 2)) (h : L[j]? = some (k, .null)) (kk : XW K g nL Q M a b (pc + 2) L (.null :: st)) : XW K g nL Q M a b pc L st :=
  fun H lc ls hM hS hl => lv_aloadN F.ex F.by_ d (lv_at hl j h) (kk H lc ls hM hS hl)
theorem x_astore_nN (F : Fx K g cc own nL ret hh fr lo mc ms) (L' : List (Nat × Value)) {k : Fin 4} (d : decode cc pc = .ok (.astore_n k, 1)) (hn : k.val < nL) (h : (k.val, Value.null) :: L.filter (fun q => !(q.1 == k.val) && !(q.1 + 1 == k.val && q.2.category == 2)) = L') (kk : XW K g nL Q M a b (pc + 1) L' st) : XW K g nL Q M a b pc L (.null :: st) :=
  fun H lc ls hM hS hl => lv_astore_nN F.ex F.by_ d rfl hl hn h (fun ls' hl' => kk H lc ls' hM hS hl')
theorem x_astoreN (F : Fx K g cc own nL ret hh fr lo mc ms) (L' : List (Nat × Value)) {k : Nat} (d : decode cc pc = .ok (.astore k, 2)) (hn : k < nL) (h : (k, Value.null) :: L.filter (fun q => !(q.1 == k) && !(q.1 + 1 == k && q.2.category == 2)) = L') (kk : XW K g nL Q M a b (pc + 2) L' st) : XW K g nL Q M a b pc L (.null :: st) :=
  fun H lc ls hM hS hl => lv_astoreN F.ex F.by_ d hl hn h (fun ls' hl' => kk H lc ls' hM hS hl')
theorem x_iinc (F : Fx K g cc own nL ret hh fr lo mc ms) (j : Nat) (L' : List (Nat × Value)) {k : Nat} {n : Int} {x v : Int32} (d : decode cc pc = .ok (.iinc k n, 3)) (hk : L[j]? = some (k, .int x)) (hv : x + Int32.ofInt n = v) (hn : k < nL) (h : (k, Value.int v) :: L.filter (fun q => !(q.1 == k) && !(q.1 + 1 == k && q.2.category == 2)) = L') (kk : XW K g nL Q M a b (pc + 3) L' st) : XW K g nL Q M a b pc L st :=
  fun H lc ls hM hS hl => lv_iinc F.ex F.by_ d hl hk hv hn h (fun ls' hl' => kk H lc ls' hM hS hl')
theorem x_iconst (F : Fx K g cc own nL ret hh fr lo mc ms) {n : Int} (v : Int32) (d : decode cc pc = .ok (.iconst n, 1)) (hv : Int32.ofInt n = v) (kk : XW K g nL Q M a b (pc + 1) L (.int v :: st)) : XW K g nL Q M a b pc L st :=
  fun H lc ls hM hS hl => lv_iconst F.ex F.by_ d hv (kk H lc ls hM hS hl)
theorem x_bipush (F : Fx K g cc own nL ret hh fr lo mc ms) {n : Int} (v : Int32) (d : decode cc pc = .ok (.bipush n, 2)) (hv : (Int8.ofInt n).toInt32 = v) (kk : XW K g nL Q M a b (pc + 2) L (.int v :: st)) : XW K g nL Q M a b pc L st :=
  fun H lc ls hM hS hl => lv_bipush F.ex F.by_ d hv (kk H lc ls hM hS hl)
theorem x_sipush (F : Fx K g cc own nL ret hh fr lo mc ms) {n : Int} (v : Int32) (d : decode cc pc = .ok (.sipush n, 3)) (hv : (Int16.ofInt n).toInt32 = v) (kk : XW K g nL Q M a b (pc + 3) L (.int v :: st)) : XW K g nL Q M a b pc L st :=
  fun H lc ls hM hS hl => lv_sipush F.ex F.by_ d hv (kk H lc ls hM hS hl)
theorem x_lconst (F : Fx K g cc own nL ret hh fr lo mc ms) {n : Fin 2} (v : Int64) (d : decode cc pc = .ok (.lconst n, 1)) (hv : Int64.ofNat (n : Nat) = v) (kk : XW K g nL Q M a b (pc + 1) L (.long v :: st)) : XW K g nL Q M a b pc L st :=
  fun H lc ls hM hS hl => lv_lconst F.ex F.by_ d hv (kk H lc ls hM hS hl)
theorem x_ldc (F : Fx K g cc own nL ret hh fr lo mc ms) {n : Nat} (v : Int32) (w : Cond.constant own n v ∈ TB) (d : decode cc pc = .ok (.ldc n, 2)) (kk : XW K g nL Q M a b (pc + 2) L (.int v :: st)) : XW K g nL Q M a b pc L st :=
  fun H lc ls hM hS hl => lv_ldc F.ex F.by_ F.ow (F.tb _ w) d (kk H lc ls hM hS hl)
theorem x_ldcw (F : Fx K g cc own nL ret hh fr lo mc ms) {n : Nat} (v : Int32) (w : Cond.constant own n v ∈ TB) (d : decode cc pc = .ok (.ldc_w n, 3)) (kk : XW K g nL Q M a b (pc + 3) L (.int v :: st)) : XW K g nL Q M a b pc L st :=
  fun H lc ls hM hS hl => lv_ldcw F.ex F.by_ F.ow (F.tb _ w) d (kk H lc ls hM hS hl)
theorem x_ldc2 (F : Fx K g cc own nL ret hh fr lo mc ms) {n : Nat} (v : Int64) (w : Cond.constantLong own n v ∈ TB) (d : decode cc pc = .ok (.ldc2_w n, 3)) (kk : XW K g nL Q M a b (pc + 3) L (.long v :: st)) : XW K g nL Q M a b pc L st :=
  fun H lc ls hM hS hl => lv_ldc2 F.ex F.by_ F.ow (F.tb _ w) d (kk H lc ls hM hS hl)
theorem x_null (F : Fx K g cc own nL ret hh fr lo mc ms) (d : decode cc pc = .ok (.aconst_null, 1)) (kk : XW K g nL Q M a b (pc + 1) L (.null :: st)) : XW K g nL Q M a b pc L st :=
  fun H lc ls hM hS hl => lv_null F.ex F.by_ d (kk H lc ls hM hS hl)
theorem x_goto (F : Fx K g cc own nL ret hh fr lo mc ms) (tgt : Nat) {off : Int} (d : decode cc pc = .ok (.goto off, 3)) (ht : (pc : Int) + off = (tgt : Int)) (kk : XW K g nL Q M a b tgt L st) : XW K g nL Q M a b pc L st :=
  fun H lc ls hM hS hl => lv_goto F.ex F.by_ d ht (kk H lc ls hM hS hl)
theorem x_dup (F : Fx K g cc own nL ret hh fr lo mc ms) {v : Value} (d : decode cc pc = .ok (.dup, 1)) (hc : v.category = 1) (kk : XW K g nL Q M a b (pc + 1) L (v :: v :: st)) : XW K g nL Q M a b pc L (v :: st) :=
  fun H lc ls hM hS hl => lv_dup F.ex F.by_ d hc (kk H lc ls hM hS hl)
theorem x_pop (F : Fx K g cc own nL ret hh fr lo mc ms) {v : Value} (d : decode cc pc = .ok (.pop, 1)) (hc : v.category = 1) (kk : XW K g nL Q M a b (pc + 1) L st) : XW K g nL Q M a b pc L (v :: st) :=
  fun H lc ls hM hS hl => lv_pop F.ex F.by_ d hc (kk H lc ls hM hS hl)
theorem x_dup_x1 (F : Fx K g cc own nL ret hh fr lo mc ms) {v w : Value} (d : decode cc pc = .ok (.dup_x1, 1)) (hc : v.category = 1) (hw : w.category = 1) (kk : XW K g nL Q M a b (pc + 1) L (v :: w :: v :: st)) : XW K g nL Q M a b pc L (v :: w :: st) :=
  fun H lc ls hM hS hl => lv_dup_x1 F.ex F.by_ d hc hw (kk H lc ls hM hS hl)
theorem x_dup2 (F : Fx K g cc own nL ret hh fr lo mc ms) {v w : Value} (d : decode cc pc = .ok (.dup2, 1)) (hc : v.category = 1) (hw : w.category = 1) (kk : XW K g nL Q M a b (pc + 1) L (v :: w :: v :: w :: st)) : XW K g nL Q M a b pc L (v :: w :: st) :=
  fun H lc ls hM hS hl => lv_dup2_11 F.ex F.by_ d hc hw (kk H lc ls hM hS hl)
end XR
