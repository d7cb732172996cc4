/-! more of the heap: stores of longs, booleans, references; new cells; statics; casts -/
def wl (M : MM) (n : Nat) : va_W := (List.range n).filterMap (fun q => (M q).map (fun e => (q, e)))
theorem wl_mem {M : MM} {n : Nat} {x : Nat × va_E} : x ∈ wl M n ↔ x.1 < n ∧ M x.1 = some x.2 := by
  unfold wl
  rw [List.mem_filterMap]
  constructor
  · rintro ⟨q, h1, h2⟩
    cases hq : M q with
    | none => rw [hq] at h2; cases h2
    | some e =>
      rw [hq] at h2
      cases h2
      exact ⟨List.mem_range.mp h1, hq⟩
  · rintro ⟨h1, h2⟩
    exact ⟨x.1, List.mem_range.mpr h1, by rw [h2]; rfl⟩
theorem wl_get {M : MM} {n q : Nat} {e : va_E} (hq : M q = some e) (hn : q < n) : ∃ k : Nat, (wl M n)[k]? = some (q, e) := List.getElem?_of_mem (wl_mem.mpr ⟨hn, hq⟩)
theorem wl_P {g : GP} {M : MM} {H : Heap} (h : hm g M H) (n : Nat) : va_P (gD g) vwCl (wl M n) H := fun _ _ hx => h.at (wl_mem.mp (List.mem_of_getElem? hx)).2
theorem wl_pw (M : MM) (n : Nat) : (wl M n).Pairwise (fun x y => x.1 < y.1) := by
  unfold wl
  refine List.Pairwise.filterMap _ ?_ List.pairwise_lt_range
  intro a a' hlt b hb b' hb'
  cases ha : M a with
  | none => simp [ha] at hb
  | some e =>
    cases ha' : M a' with
    | none => simp [ha'] at hb'
    | some e' =>
      simp [ha] at hb
      simp [ha'] at hb'
      subst hb
      subst hb'
      exact hlt
theorem wl_D {g : GP} {M : MM} {H : Heap} (h : hm g M H) (n : Nat) : va_D (gO g) (wl M n) := by
  refine ⟨fun i j x y hi hj hxy => ?_, fun k x hx => h.ge (wl_mem.mp (List.mem_of_getElem? hx)).2⟩
  obtain ⟨li, ei⟩ := List.getElem?_eq_some_iff.mp hi
  obtain ⟨lj, ej⟩ := List.getElem?_eq_some_iff.mp hj
  have hp := List.pairwise_iff_getElem.mp (wl_pw M n)
  rcases Nat.lt_trichotomy i j with c | c | c
  · have := hp i j li lj c
    rw [ei, ej] at this
    omega
  · exact c
  · have := hp j i lj li c
    rw [ei, ej] at this
    omega
theorem wl_set {g : GP} {M : MM} {H H1 : Heap} {k q : Nat} {e e' : va_E} (h : hm g M H) (hk : (wl M H.size)[k]? = some (q, e)) (h1 : va_P (gD g) vwCl ((wl M H.size).set k (q, e')) H1) : hm g (mup M q e') H1 := by
  have hq : M q = some e := (wl_mem.mp (List.mem_of_getElem? hk)).2
  intro a x hx
  by_cases ha : a = q
  · subst ha
    rw [mup_s] at hx
    cases hx
    exact ⟨h.ge hq, h1 k (a, e') (List.getElem?_set_self (List.getElem?_eq_some_iff.mp hk).1)⟩
  · rw [mup_n ha] at hx
    obtain ⟨j, hj⟩ := wl_get hx (h.lt hx)
    have hjk : k ≠ j := by
      intro z
      subst z
      rw [hk] at hj
      cases hj
      exact ha rfl
    exact ⟨h.ge hx, h1 j (a, x) (by rw [List.getElem?_set_ne hjk]; exact hj)⟩
theorem wl_push {g : GP} {M : MM} {H H1 : Heap} {q : Nat} {e' : va_E} (h : hm g M H) (hD : va_D (gO g) (wl M H.size ++ [(q, e')])) (h1 : va_P (gD g) vwCl (wl M H.size ++ [(q, e')]) H1) : M q = none ∧ gB g ≤ q ∧ hm g (mup M q e') H1 := by
  have hl : (wl M H.size ++ [(q, e')])[(wl M H.size).length]? = some (q, e') := by
    rw [List.getElem?_append_right (Nat.le_refl _), Nat.sub_self]; rfl
  have hgq : gB g ≤ q := hD.2 _ _ hl
  refine ⟨?_, hgq, ?_⟩
  · cases hq : M q with
    | none => rfl
    | some e =>
      obtain ⟨j, hj⟩ := wl_get hq (h.lt hq)
      have lj := (List.getElem?_eq_some_iff.mp hj).1
      have := hD.1 j _ (q, e) (q, e') (by rw [List.getElem?_append_left lj]; exact hj) hl rfl
      omega
  · intro a x hx
    by_cases ha : a = q
    · subst ha
      rw [mup_s] at hx
      cases hx
      exact ⟨hgq, h1 _ (a, e') hl⟩
    · rw [mup_n ha] at hx
      obtain ⟨j, hj⟩ := wl_get hx (h.lt hx)
      exact ⟨h.ge hx, h1 j (a, x) (by rw [List.getElem?_append_left (List.getElem?_eq_some_iff.mp hj).1]; exact hj)⟩
section XH2
variable {K : KX} {g : GP} {cc : ByteArray} {own : String} {nL : Nat} {ret : Option FieldType} {hh : List (Nat × Nat × Nat × Nat)} {fr lo mc ms : Nat} {Q : State → Prop} {M : MM} {a b pc : Nat} {L : List (Nat × Value)} {st : List Value}
theorem gO_A {s : State} (h : GG g s) : ∀ q : Nat, s.heap.size ≤ q → gO g q := fun _ h2 => Nat.le_trans h.1 h2
/-- an object into an array of Object -/
theorem x_qastO (F : Fx K g cc own nL ret hh fr lo mc ms) {q n v ci : Nat} {r : vw_C} {vs : List Value} {f : Nat → Option Nat} {i : Int32} (hM0 : M q = some (.inl (gC g 3, n, .inr (.inr (.inr (.inr f)))))) (hV : M v = some (.inr (ci, vs))) (hc : vwCl[ci]? = some r) (hca : (r.1, "java/lang/Object") ∈ CCl) (hin : vp_in i n) (d : decode cc pc = .ok (.aastore, 1))
    (kk : XW K g nL Q (mup M q (.inl (gC g 3, n, .inr (.inr (.inr (.inr (va_up f i.toNatClampNeg (some v)))))))) a b (pc + 1) L st) : XW K g nL Q M a b pc L (.ref v :: .int i :: .ref q :: st) := by
  intro H lc ls hM hS hl
  obtain ⟨k, hk⟩ := wl_get hM0 (hM.lt hM0)
  obtain ⟨k2, hk2⟩ := wl_get hV (hM.lt hV)
  exact va_astqO F.ex F.by_ F.vk (wl_P hM _) (wl_D hM _) hS k 3 k2 ci hk rfl (F.gg.2.2.2.2.1 _ hca) hk2 hc hin d fun H1 lc1 hP hD hS1 => kk H1 lc1 ls (wl_set hM hk hP) hS1 hl
/-- an Entry into an array of Entry -/
theorem x_qastE (F : Fx K g cc own nL ret hh fr lo mc ms) {q n v : Nat} {vs : List Value} {f : Nat → Option Nat} {i : Int32} (hM0 : M q = some (.inl (gC g 4, n, .inr (.inr (.inr (.inr f)))))) (hV : M v = some (.inr (2, vs))) (hin : vp_in i n) (d : decode cc pc = .ok (.aastore, 1))
    (kk : XW K g nL Q (mup M q (.inl (gC g 4, n, .inr (.inr (.inr (.inr (va_up f i.toNatClampNeg (some v)))))))) a b (pc + 1) L st) : XW K g nL Q M a b pc L (.ref v :: .int i :: .ref q :: st) := by
  intro H lc ls hM hS hl
  obtain ⟨k, hk⟩ := wl_get hM0 (hM.lt hM0)
  obtain ⟨k2, hk2⟩ := wl_get hV (hM.lt hV)
  exact va_astq F.ex F.by_ F.vk (wl_P hM _) (wl_D hM _) hS k 4 k2 2 (r := (RX1, TX1, 11)) hk rfl hk2 rfl hin d fun H1 lc1 hP hD hS1 => kk H1 lc1 ls (wl_set hM hk hP) hS1 hl
theorem x_new (F : Fx K g cc own nL ret hh fr lo mc ms) {C : String} {T : u_T} {N ci idx : Nat} {fs : List Value} (ty : Nat → FieldType) (hc : vwCl[ci]? = some (C, T, N)) (hin : ∀ w ∈ u_ws C T N, w ∈ TB) (hty : ∀ k, k < N → parseFieldDescriptor (T k).2.2.1 = some (ty k)) (w1 : Cond.classLink own idx C ∈ TB) (w2 : Cond.instantiable C N ∈ TB) (w3 : Cond.initialized C ∈ TB) (hfs : ∀ j, j < N → defaultValue (ty j) = vp_V fs j) (hr : a + 1 ≤ mc ∧ b + N ≤ ms) (d : decode cc pc = .ok (.new idx, 3))
    (kk : ∀ q, M q = none → gB g ≤ q → XW K g nL Q (mup M q (.inr (ci, fs))) (a + 1) (b + N) (pc + 3) L (.ref q :: st)) : XW K g nL Q M a b pc L st := by
  intro H lc ls hM hS hl
  exact va_new F.ex F.by_ F.tb hin ty hty F.ow (F.tb _ w1) (F.tb _ w2) (F.tb _ w3) F.vk (wl_P hM _) (wl_D hM _) hS (gO_A F.gg) hc hfs (by rw [F.rc]; exact hr.1) (by rw [F.rs]; exact hr.2) d fun q H1 hP hD hS1 => by
    obtain ⟨z1, z2, z3⟩ := wl_push hM hD hP
    exact kk q z1 z2 H1 lc ls z3 hS1 hl
theorem tys_int {s : State} {cA : ClassId} (h : va_K (gD g) vwCl (tysL (gC g)) s) (h2 : va_RA s cA .int) : cA = gC g 0 := Option.some.inj ((show s.vm.findClass _ = some cA from h2).symm.trans (show s.vm.findClass _ = some (gC g 0) from (h.2 0 _ rfl).2))
theorem tys_obj {s : State} {cA : ClassId} (h : va_K (gD g) vwCl (tysL (gC g)) s) (h2 : va_RA s cA (.object "java/lang/Object")) : cA = gC g 3 := Option.some.inj ((va_nmO h2 rfl).symm.trans (va_nmO (h.2 3 _ rfl).2 rfl))
theorem tys_ent {s : State} {cA : ClassId} (h : va_K (gD g) vwCl (tysL (gC g)) s) (h2 : va_RA s cA (.object "RankStock$Entry")) : cA = gC g 4 := Option.some.inj ((va_nmO h2 rfl).symm.trans (va_nmO (h.2 4 _ rfl).2 rfl))
theorem va_lastR {s : State} {D : va_G} {cl : List vw_C} {t1 : List (ClassId × FieldType)} {x : ClassId × FieldType} (h : va_K D cl (t1 ++ [x]) s) : va_RA s x.1 x.2 := (h.2 t1.length x (by rw [List.getElem?_append_right (Nat.le_refl _), Nat.sub_self]; rfl)).2
theorem x_newI (F : Fx K g cc own nL ret hh fr lo mc ms) {n : Int32} (N : Nat) (w : Cond.arrayClass .int ∈ TB) (hn : ¬ n < 0) (hN : n.toNatClampNeg = N) (hb : N * 4 ≤ 536870912) (hr : a + 1 ≤ mc ∧ b + N ≤ ms) (d : decode cc pc = .ok (.newarray .int, 2))
    (kk : ∀ q, M q = none → gB g ≤ q → XW K g nL Q (mup M q (.inl (gC g 0, N, .inl (fun _ => 0)))) (a + 1) (b + N) (pc + 2) L (.ref q :: st)) : XW K g nL Q M a b pc L (.int n :: st) := by
  intro H lc ls hM hS hl
  exact va_newa (atype := .int) (a0 := (N, .inl (fun _ => 0))) F.ex F.by_ (F.tb _ w) rfl F.vk (wl_P hM _) (wl_D hM _) hS (gO_A F.gg) (fun cA => rfl) hn hN hb (by rw [F.rc]; exact hr.1) (by rw [F.rs]; exact hr.2) d fun q cA H1 hK hP hD hS1 => by
    have e := tys_int F.vk (va_lastR hK)
    subst e
    obtain ⟨z1, z2, z3⟩ := wl_push hM hD hP
    exact kk q z1 z2 H1 lc ls z3 hS1 hl
theorem x_newO (F : Fx K g cc own nL ret hh fr lo mc ms) {n : Int32} {idx : Nat} (N : Nat) (w : Cond.classLink own idx "java/lang/Object" ∈ TB) (hn : ¬ n < 0) (hN : n.toNatClampNeg = N) (hb : N * 4 ≤ 536870912) (hr : a + 1 ≤ mc ∧ b + N ≤ ms) (d : decode cc pc = .ok (.anewarray idx, 3))
    (kk : ∀ q, M q = none → gB g ≤ q → XW K g nL Q (mup M q (.inl (gC g 3, N, .inr (.inr (.inr (.inr (fun _ => none))))))) (a + 1) (b + N) (pc + 3) L (.ref q :: st)) : XW K g nL Q M a b pc L (.int n :: st) := by
  intro H lc ls hM hS hl
  exact va_newq F.ex F.by_ F.ow (F.tb _ w) F.gg.2.2.2.2.2.2.2.2.2.1 F.vk (wl_P hM _) (wl_D hM _) hS (gO_A F.gg) hn hN hb (by rw [F.rc]; exact hr.1) (by rw [F.rs]; exact hr.2) d fun q cA H1 hK hP hD hS1 => by
    have e := tys_obj F.vk (va_lastR hK)
    subst e
    obtain ⟨z1, z2, z3⟩ := wl_push hM hD hP
    exact kk q z1 z2 H1 lc ls z3 hS1 hl
theorem x_newE (F : Fx K g cc own nL ret hh fr lo mc ms) {n : Int32} {idx : Nat} (N : Nat) (w : Cond.classLink own idx RX1 ∈ TB) (hn : ¬ n < 0) (hN : n.toNatClampNeg = N) (hb : N * 4 ≤ 536870912) (hr : a + 1 ≤ mc ∧ b + N ≤ ms) (d : decode cc pc = .ok (.anewarray idx, 3))
    (kk : ∀ q, M q = none → gB g ≤ q → XW K g nL Q (mup M q (.inl (gC g 4, N, .inr (.inr (.inr (.inr (fun _ => none))))))) (a + 1) (b + N) (pc + 3) L (.ref q :: st)) : XW K g nL Q M a b pc L (.int n :: st) := by
  intro H lc ls hM hS hl
  exact va_newq F.ex F.by_ F.ow (F.tb _ w) F.gg.2.2.2.2.2.2.2.2.2.2.1 F.vk (wl_P hM _) (wl_D hM _) hS (gO_A F.gg) hn hN hb (by rw [F.rc]; exact hr.1) (by rw [F.rs]; exact hr.2) d fun q cA H1 hK hP hD hS1 => by
    have e := tys_ent F.vk (va_lastR hK)
    subst e
    obtain ⟨z1, z2, z3⟩ := wl_push hM hD hP
    exact kk q z1 z2 H1 lc ls z3 hS1 hl
-- statics
theorem x_gsDef (F : Fx K g cc own nL ret hh fr lo mc ms) {idx : Nat} (w : Cond.fieldLink own idx "java/util/ArrayList" "DEFAULTCAPACITY_EMPTY_ELEMENTDATA" "[Ljava/lang/Object;" ∈ TB) (d : decode cc pc = .ok (.getstatic idx, 3)) (kk : XW K g nL Q M a b (pc + 3) L (.ref (gA g 0) :: st)) : XW K g nL Q M a b pc L st :=
  fun H lc ls hM hS hl => va_gets F.ex F.by_ F.gg.2.1.1 hS F.ow (F.tb _ w) (fun _ h => h) d (kk H lc ls hM hS hl)
theorem x_alenDef (F : Fx K g cc own nL ret hh fr lo mc ms) (d : decode cc pc = .ok (.arraylength, 1)) (kk : XW K g nL Q M a b (pc + 1) L (.int 0 :: st)) : XW K g nL Q M a b pc L (.ref (gA g 0) :: st) :=
  fun H lc ls hM hS hl => va_tlen F.ex F.by_ F.gg.2.1.2.1 hS rfl d (kk H lc ls hM hS hl)
theorem x_gsHun (F : Fx K g cc own nL ret hh fr lo mc ms) {idx : Nat} (ho : own = RX2) (hi : idx = 90) (d : decode cc pc = .ok (.getstatic idx, 3)) (kk : XW K g nL Q M a b (pc + 3) L (.ref (gA g 1) :: st)) : XW K g nL Q M a b pc L st := by
  subst hi
  subst ho
  exact fun H lc ls hM hS hl => va_getsN F.ex F.by_ F.gg.2.1.2.2.1 hS F.ow (va_Nw.use rfl F.gg.2.2.2.2.2.2.2.1) (fun _ h => h) d (kk H lc ls hM hS hl)
theorem x_alenHun (F : Fx K g cc own nL ret hh fr lo mc ms) (d : decode cc pc = .ok (.arraylength, 1)) (kk : XW K g nL Q M a b (pc + 1) L (.int 4 :: st)) : XW K g nL Q M a b pc L (.ref (gA g 1) :: st) :=
  fun H lc ls hM hS hl => va_tlen F.ex F.by_ F.gg.2.1.2.2.2.1 hS rfl d (kk H lc ls hM hS hl)
theorem x_ialdHun (F : Fx K g cc own nL ret hh fr lo mc ms) {i v : Int32} (hin : vp_in i 4) (hv : hundV i.toNatClampNeg = .int v) (d : decode cc pc = .ok (.iaload, 1)) (kk : XW K g nL Q M a b (pc + 1) L (.int v :: st)) : XW K g nL Q M a b pc L (.int i :: .ref (gA g 1) :: st) :=
  fun H lc ls hM hS hl => va_ti F.ex F.by_ F.gg.2.1.2.2.2.1 hS hin hv d (kk H lc ls hM hS hl)
theorem x_cell {H : Heap} {s : State} (hK : va_K (gD g) vwCl (tysL (gC g)) s) (hM : hm g M H) {q ci : Nat} {fs : List Value} {r : vw_C} (hM0 : M q = some (.inr (ci, fs))) (hc : vwCl[ci]? = some r) : ∃ cell : Cell, H[q]? = some cell ∧ cell.vm.isStatics = false ∧ s.vm.findClass r.1 = some cell.cls := va_recv hK (hM.one hM0) hc (q0 := 0) rfl
/-- checkcast of an object to its own class -/
theorem x_cast (F : Fx K g cc own nL ret hh fr lo mc ms) {idx q ci : Nat} {fs : List Value} {C : String} {T : u_T} {N : Nat} (hM0 : M q = some (.inr (ci, fs))) (hc : vwCl[ci]? = some (C, T, N)) (w : Cond.classLink own idx C ∈ TB) (d : decode cc pc = .ok (.checkcast idx, 3)) (kk : XW K g nL Q M a b (pc + 3) L (.ref q :: st)) : XW K g nL Q M a b pc L (.ref q :: st) :=
  fun H lc ls hM hS hl => va_castS F.ex F.by_ F.ow (F.tb _ w) (F.vk.1 ci _ hc).2 (x_cell F.vk hM hM0 hc) d (kk H lc ls hM hS hl)
/-- checkcast of an array of Object to Object[] -/
theorem x_castO (F : Fx K g cc own nL ret hh fr lo mc ms) {idx q : Nat} {x : vp_A} (hM0 : M q = some (.inl (gC g 3, x))) (w : Cond.classLink own idx "[Ljava/lang/Object;" ∈ TB) (d : decode cc pc = .ok (.checkcast idx, 3)) (kk : XW K g nL Q M a b (pc + 3) L (.ref q :: st)) : XW K g nL Q M a b pc L (.ref q :: st) :=
  fun H lc ls hM hS hl => va_castA F.ex F.by_ F.ow (F.tb _ w) (hM.one hM0) 0 rfl (va_nmO (F.vk.2 3 _ rfl).2 rfl) d (kk H lc ls hM hS hl)
end XH2
