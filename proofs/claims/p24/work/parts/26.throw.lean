/-! throws of the class, JDK's own calls that the kit walks -/
def eN : List String := ["java/lang/RuntimeException", "java/lang/Exception"]
def eB (cls : String) : List Cond := Cond.castable cls cls :: DCl.map Cond.declares
set_option maxRecDepth 20000 in
theorem at_IA1 : ∀ w ∈ (vx_atS RX3 34 sIA eN).filter goodWord, w ∈ lw_tbl := by decide +kernel
set_option maxRecDepth 20000 in
theorem at_IS1 : ∀ w ∈ (vx_atS RX3 45 sIS eN).filter goodWord, w ∈ lw_tbl := by decide +kernel
set_option maxRecDepth 20000 in
theorem at_IO1 : ∀ w ∈ (vx_atS RX3 204 sIO eN).filter goodWord, w ∈ lw_tbl := by decide +kernel
set_option maxRecDepth 20000 in
theorem at_IA2 : ∀ w ∈ (vx_atS RX3 34 sIA eN).filter (fun w => !goodWord w), w ∈ eB sIA := by decide +kernel
set_option maxRecDepth 20000 in
theorem at_IS2 : ∀ w ∈ (vx_atS RX3 45 sIS eN).filter (fun w => !goodWord w), w ∈ eB sIS := by decide +kernel
set_option maxRecDepth 20000 in
theorem at_IO2 : ∀ w ∈ (vx_atS RX3 204 sIO eN).filter (fun w => !goodWord w), w ∈ eB sIO := by decide +kernel
def TH (own : String) (ik ic : Nat) (cls : String) : Prop :=
  own = RX3 ∧ Bundle.fit cls = true ∧ Cond.classLink own ik cls ∈ TB ∧ Cond.initialized cls ∈ TB ∧ (∀ w ∈ (vx_atS own ic cls eN).filter goodWord, w ∈ lw_tbl) ∧ (∀ w ∈ (vx_atS own ic cls eN).filter (fun w => !goodWord w), w ∈ eB cls) ∧ (∀ w ∈ vx_atS own ic cls eN, vx_ot w = true) ∧ (cls, cls) ∈ CCl
theorem eN_fit : ∀ n ∈ eN, Bundle.fit n = true := by decide +kernel
theorem th_IA : TH RX3 30 34 sIA := ⟨rfl, by decide +kernel, tb_of (by decide +kernel) rfl, tb_of (by decide +kernel) rfl, at_IA1, at_IA2, by decide +kernel, by decide +kernel⟩
theorem th_IS : TH RX3 41 45 sIS := ⟨rfl, by decide +kernel, tb_of (by decide +kernel) rfl, tb_of (by decide +kernel) rfl, at_IS1, at_IS2, by decide +kernel, by decide +kernel⟩
theorem th_IO : TH RX3 200 204 sIO := ⟨rfl, by decide +kernel, tb_of (by decide +kernel) rfl, tb_of (by decide +kernel) rfl, at_IO1, at_IO2, by decide +kernel, by decide +kernel⟩
section XT2
variable {K : KX} {g : GP} {cc : ByteArray} {own : String} {nL : Nat} {ret : Option FieldType} {hh : List (Nat × Nat × Nat × Nat)} {fr lo mc ms : Nat} {Q : State → Prop} {M : MM} {a b pc : Nat} {L : List (Nat × Value)} {st : List Value}
theorem x_hat (F : Fx K g cc own nL ret hh fr lo mc ms) {ik ic : Nat} {cls : String} (h : TH own ik ic cls) : ∀ w ∈ vx_atS own ic cls eN, w.before (ka K) (ks K) = true := by
  obtain ⟨ho, h1, h2, h3, h4, h5, h6, h7⟩ := h
  refine vx_hat (fun w hw => F.tb w (tb_of (h4 w hw) (List.mem_filter.mp hw).2)) h5 (fun w hw => ?_)
  rcases List.mem_cons.mp hw with rfl | hw
  · exact va_Nw.use rfl (F.gg.2.2.2.2.1 _ h7)
  · obtain ⟨z, hz, rfl⟩ := List.mem_map.mp hw
    exact va_Nw.use rfl (F.gg.2.2.2.2.2.1 _ hz)
theorem th_good {own : String} {ik ic : Nat} {cls : String} (h : TH own ik ic cls) : ∀ w ∈ Cond.classLink own ik cls :: Cond.initialized cls :: vx_atS own ic cls eN, vx_ot w = true := by
  intro w hw
  rcases List.mem_cons.mp hw with rfl | hw
  · rfl
  · rcases List.mem_cons.mp hw with rfl | hw
    · rfl
    · exact h.2.2.2.2.2.2.1 w hw
theorem x_throw (F : Fx K g cc own nL ret [] fr lo mc ms) {post : Option Value → MM → Prop} {px : String → MM → Prop} {ik is ic : Nat} {cls text : String} (h : TH own ik ic cls) (hs : (is, text) ∈ SRl) (d0 : decode cc pc = .ok (.new ik, 3)) (d3 : decode cc (pc + 3) = .ok (.dup, 1)) (d4 : decode cc (pc + 4) = .ok (.ldc is, 2)) (d6 : decode cc (pc + 6) = .ok (.invokespecial ic, 3)) (d9 : decode cc (pc + 9) = .ok (.athrow, 1))
    (hR : 6 ≤ fr ∧ (st.map fun v => v.category).sum + 82 ≤ lo ∧ a + 1 ≤ mc ∧ b + 6 ≤ ms) (hp : px cls M) : XW K g nL (MQx K g post px mc ms) M a b pc L st := by
  intro H lc ls hM hS hl
  obtain ⟨sa, hsa⟩ := F.gg.2.2.2.1 _ hs
  have ho := h.1
  refine vx_throwS F.ex F.by_ F.nt (sa := sa) (names := eN) (text := text) F.ow h.2.1 eN_fit (F.tb _ h.2.2.1) (F.tb _ h.2.2.2.1) (by rw [ho]; exact hsa) (x_hat F h) (th_good h) F.gg.2.1.2.2.2.2.1 F.gg.2.1.2.2.2.2.2.1 hS (hl.1.trans F.lx.symm) d0 d3 d4 d6 d9 (fun x hx => ?_) (by rw [F.rf]; exact hR.1) (by rw [F.rl]; exact hR.2.1) (by rw [F.rc]; exact hR.2.2.1) (by rw [F.rs]; exact hR.2.2.2) F.lk (fun t hv hz hk => ⟨⟨M, hp, hM.kept (fun q _ hq => hk q hq)⟩, ?_⟩) hS.2.2 hR.2.2.1 hR.2.2.2
  · rw [F.ta] at hx
    cases hx
  · exact ⟨Nat.le_trans hS.1 hz, fun q h1 h2 => (hk q (Nat.lt_of_lt_of_le h1 hS.1)).trans (hS.2.1 q h1 h2)⟩
/-- throw, the text by a wide index -/
theorem x_throwW (F : Fx K g cc own nL ret [] fr lo mc ms) {post : Option Value → MM → Prop} {px : String → MM → Prop} {ik is ic : Nat} {cls text : String} (h : TH own ik ic cls) (hs : (is, text) ∈ SRl) (d0 : decode cc pc = .ok (.new ik, 3)) (d3 : decode cc (pc + 3) = .ok (.dup, 1)) (d4 : decode cc (pc + 4) = .ok (.ldc_w is, 3)) (d7 : decode cc (pc + 7) = .ok (.invokespecial ic, 3)) (d10 : decode cc (pc + 10) = .ok (.athrow, 1))
    (hR : 6 ≤ fr ∧ (st.map fun v => v.category).sum + 82 ≤ lo ∧ a + 1 ≤ mc ∧ b + 6 ≤ ms) (hp : px cls M) : XW K g nL (MQx K g post px mc ms) M a b pc L st := by
  intro H lc ls hM hS hl
  obtain ⟨sa, hsa⟩ := F.gg.2.2.2.1 _ hs
  have ho := h.1
  refine vx_throwSW F.ex F.by_ F.nt (sa := sa) (names := eN) (text := text) F.ow h.2.1 eN_fit (F.tb _ h.2.2.1) (F.tb _ h.2.2.2.1) (by rw [ho]; exact hsa) (x_hat F h) (th_good h) F.gg.2.1.2.2.2.2.1 F.gg.2.1.2.2.2.2.2.1 hS (hl.1.trans F.lx.symm) d0 d3 d4 d7 d10 (fun x hx => ?_) (by rw [F.rf]; exact hR.1) (by rw [F.rl]; exact hR.2.1) (by rw [F.rc]; exact hR.2.2.1) (by rw [F.rs]; exact hR.2.2.2) F.lk (fun t hv hz hk => ⟨⟨M, hp, hM.kept (fun q _ hq => hk q hq)⟩, ?_⟩) hS.2.2 hR.2.2.1 hR.2.2.2
  · rw [F.ta] at hx
    cases hx
  · exact ⟨Nat.le_trans hS.1 hz, fun q h1 h2 => (hk q (Nat.lt_of_lt_of_le h1 hS.1)).trans (hS.2.1 q h1 h2)⟩
/-- Object.<init> -/
theorem x_objInit (F : Fx K g cc own nL ret hh fr lo mc ms) {idx q : Nat} (w1 : Cond.methodLink own idx objectInit ∈ TB) (w2 : Cond.instanceMethod objectInit ∈ TB) (w3 : Cond.code objectInit ⟨#[0xb1]⟩ 1 none ∈ TB) (d : decode cc pc = .ok (.invokespecial idx, 3)) (hR : 1 ≤ fr ∧ (st.map fun v => v.category).sum + 12 ≤ lo) (kk : XW K g nL Q M a b (pc + 3) L st) : XW K g nL Q M a b pc L (.ref q :: st) := by
  intro H lc ls hM hS hl
  refine W.objInit F.ex F.by_ F.ow (F.tb _ w1) (F.tb _ w2) (F.tb _ w3) rfl (hl.1.trans F.lx.symm) rfl d (by rw [F.rf]; exact hR.1) (by rw [F.rl]; show 2 * 0 + _ + 12 ≤ lo; omega) ?_
  exact kk H lc ls hM hS hl
theorem x_mabs (F : Fx K g cc own nL ret hh fr lo mc ms) {idx : Nat} {x : Int32} (w : Cond.methodLink own idx Lib.Math.abs.name ∈ TB ∧ Cond.static Lib.Math.abs.name ∈ TB ∧ Cond.initialized "java/lang/Math" ∈ TB ∧ Cond.code Lib.Math.abs.name Lib.Math.abs.code 1 (some .int) ∈ TB) (d : decode cc pc = .ok (.invokestatic idx, 3)) (hR : 1 ≤ fr ∧ (st.map fun v => v.category).sum + 13 ≤ lo ∧ a ≤ mc ∧ b ≤ ms) (kk : XW K g nL Q M a b (pc + 3) L (.int (if 0 ≤ x then x else 0 - x) :: st)) : XW K g nL Q M a b pc L (.int x :: st) :=
  fun H lc ls hM hS hl => va_mabs F.ex F.by_ (F.lx.trans hl.1.symm) F.ow (F.tb _ w.1) (F.tb _ w.2.1) (F.tb _ w.2.2.1) (F.tb _ w.2.2.2) (by rw [F.rf]; exact hR.1) (by rw [F.rl]; exact hR.2.1) (by rw [F.rc]; exact hR.2.2.1) (by rw [F.rs]; exact hR.2.2.2) d (kk H lc ls hM hS hl)
theorem x_mmin (F : Fx K g cc own nL ret hh fr lo mc ms) {idx : Nat} {x y : Int32} (w : Cond.methodLink own idx Lib.Math.min.name ∈ TB ∧ Cond.static Lib.Math.min.name ∈ TB ∧ Cond.initialized "java/lang/Math" ∈ TB ∧ Cond.code Lib.Math.min.name Lib.Math.min.code 2 (some .int) ∈ TB) (d : decode cc pc = .ok (.invokestatic idx, 3)) (hR : 1 ≤ fr ∧ (st.map fun v => v.category).sum + 13 ≤ lo ∧ a ≤ mc ∧ b ≤ ms) (kk : XW K g nL Q M a b (pc + 3) L (.int (if y < x then y else x) :: st)) : XW K g nL Q M a b pc L (.int y :: .int x :: st) :=
  fun H lc ls hM hS hl => va_mmin F.ex F.by_ (F.lx.trans hl.1.symm) F.ow (F.tb _ w.1) (F.tb _ w.2.1) (F.tb _ w.2.2.1) (F.tb _ w.2.2.2) (by rw [F.rf]; exact hR.1) (by rw [F.rl]; exact hR.2.1) (by rw [F.rc]; exact hR.2.2.1) (by rw [F.rs]; exact hR.2.2.2) d (kk H lc ls hM hS hl)
theorem x_mmax (F : Fx K g cc own nL ret hh fr lo mc ms) {idx : Nat} {x y : Int32} (w : Cond.methodLink own idx Lib.Math.max.name ∈ TB ∧ Cond.static Lib.Math.max.name ∈ TB ∧ Cond.initialized "java/lang/Math" ∈ TB ∧ Cond.code Lib.Math.max.name Lib.Math.max.code 2 (some .int) ∈ TB) (d : decode cc pc = .ok (.invokestatic idx, 3)) (hR : 1 ≤ fr ∧ (st.map fun v => v.category).sum + 13 ≤ lo ∧ a ≤ mc ∧ b ≤ ms) (kk : XW K g nL Q M a b (pc + 3) L (.int (if x < y then y else x) :: st)) : XW K g nL Q M a b pc L (.int y :: .int x :: st) :=
  fun H lc ls hM hS hl => va_mmax F.ex F.by_ (F.lx.trans hl.1.symm) F.ow (F.tb _ w.1) (F.tb _ w.2.1) (F.tb _ w.2.2.1) (F.tb _ w.2.2.2) (by rw [F.rf]; exact hR.1) (by rw [F.rl]; exact hR.2.1) (by rw [F.rc]; exact hR.2.2.1) (by rw [F.rs]; exact hR.2.2.2) d (kk H lc ls hM hS hl)
/-- arraycopy between arrays of Object whose elements are objects of one class -/
theorem x_copyO (F : Fx K g cc own nL ret hh fr lo mc ms) {idx q0 q1 n0 n1 ci : Nat} {C : String} {T : u_T} {N : Nat} {f f1 : Nat → Option Nat} {sp dp n : Int32} (w : Cond.methodLink own idx arraycopyName ∈ TB ∧ Cond.native arraycopyName ∈ TB ∧ Cond.static arraycopyName ∈ TB ∧ Cond.initialized "java/lang/System" ∈ TB) (hM0 : M q0 = some (.inl (gC g 3, n0, .inr (.inr (.inr (.inr f)))))) (hM1 : M q1 = some (.inl (gC g 3, n1, .inr (.inr (.inr (.inr f1)))))) (hc : vwCl[ci]? = some (C, T, N)) (hca : (C, "java/lang/Object") ∈ CCl)
    (h1 : ¬ sp < 0) (h2 : ¬ dp < 0) (h3 : ¬ n < 0) (h4 : sp.toNatClampNeg + n.toNatClampNeg ≤ n0) (h5 : dp.toNatClampNeg + n.toNatClampNeg ≤ n1) (hel : ∀ i : Nat, i < n.toNatClampNeg → ∀ y : Nat, f (sp.toNatClampNeg + i) = some y → ∃ fs, M y = some (.inr (ci, fs))) (d : decode cc pc = .ok (.invokestatic idx, 3)) (hR : 1 ≤ fr ∧ (st.map fun v => v.category).sum + (nativeFrameWords "java/lang/System" "arraycopy" 5 + 11) ≤ lo)
    (kk : XW K g nL Q (mup M q1 (.inl (gC g 3, n1, .inr (.inr (.inr (.inr (va_cpy f f1 sp.toNatClampNeg dp.toNatClampNeg n.toNatClampNeg))))))) a b (pc + 3) L st) : XW K g nL Q M a b pc L (.int n :: .int dp :: .ref q1 :: .int sp :: .ref q0 :: st) := by
  intro H lc ls hM hS hl
  obtain ⟨k0, hk0⟩ := wl_get hM0 (hM.lt hM0)
  obtain ⟨k1, hk1⟩ := wl_get hM1 (hM.lt hM1)
  refine va_copyq (C := C) F.ex F.by_ (F.lx.trans hl.1.symm) F.ow (F.tb _ w.1) (F.tb _ w.2.1) (F.tb _ w.2.2.1) (F.tb _ w.2.2.2) F.vk (wl_P hM _) (wl_D hM _) hS k0 k1 3 3 hk0 hk1 rfl rfl h1 h2 h3 h4 h5 (fun i hi y hy => ?_) (vb_asgC (F.gg.2.2.2.2.1 _ hca)) (by rw [F.rf]; exact hR.1) (by rw [F.rl]; exact hR.2) d fun H1 lc1 hP hD hS1 => kk H1 lc1 ls (wl_set hM hk1 hP) hS1 hl
  obtain ⟨fs, hfs⟩ := hel i hi y hy
  exact x_cell F.vk hM hfs hc
/-- ldc of Object[].class, and getClass of an Object[] -/
theorem x_ldcM (F : Fx K g cc own nL ret hh fr lo mc ms) {idx : Nat} (w : Cond.classLink own idx "[Ljava/lang/Object;" ∈ TB) (d : decode cc pc = .ok (.ldc idx, 2)) (kk : XW K g nL Q M a b (pc + 2) L (.ref (gA g 2) :: st)) : XW K g nL Q M a b pc L st :=
  fun H lc ls hM hS hl => va_ldcM F.ex F.by_ F.ow (F.tb _ w) F.gg.2.2.2.2.2.2.2.2.2.2.2 d (kk H lc ls hM hS hl)
def oGetClass : MethodName := ⟨"java/lang/Object", "getClass", "()Ljava/lang/Class;"⟩
theorem x_getC (F : Fx K g cc own nL ret hh fr lo mc ms) {idx q : Nat} {x0 : vp_A} (w : Cond.methodLink own idx oGetClass ∈ TB ∧ Cond.selects "[Ljava/lang/Object;" oGetClass oGetClass ∈ TB ∧ Cond.instanceMethod oGetClass ∈ TB ∧ Cond.native oGetClass ∈ TB) (hM0 : M q = some (.inl (gC g 3, x0))) (d : decode cc pc = .ok (.invokevirtual idx, 3)) (hR : 1 ≤ fr ∧ (st.map fun v => v.category).sum + 14 ≤ lo) (kk : XW K g nL Q M a b (pc + 3) L (.ref (gA g 2) :: st)) : XW K g nL Q M a b pc L (.ref q :: st) := by
  intro H lc ls hM hS hl
  refine va_getC F.ex F.by_ (F.lx.trans hl.1.symm) F.ow (F.tb _ w.1) (va_Nw.use rfl (F.gg.2.2.2.2.2.1 oGetClass (by decide +kernel))) (F.tb _ w.2.1) (F.tb _ w.2.2.1) (F.tb _ w.2.2.2) F.gg.2.2.2.2.2.2.2.2.2.2.2 ?_ (by rw [F.rf]; exact hR.1) (by rw [F.rl]; exact hR.2) d (kk H lc ls hM hS hl)
  have h := hM.at hM0
  refine ⟨_, h, ?_, ?_⟩
  · obtain ⟨xn, xv⟩ := x0
    rcases xv with f | f | f | f | f <;> rfl
  · have h2 := va_nmO (F.vk.2 3 _ rfl).2 (nm := "[Ljava/lang/Object;") rfl
    rw [h2]
    obtain ⟨xn, xv⟩ := x0
    rcases xv with f | f | f | f | f <;> rfl
end XT2
