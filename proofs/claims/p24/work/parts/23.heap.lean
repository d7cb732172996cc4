/-! the heap, calls, throws, ends -/
section XH
variable {K : KX} {g : GP} {cc : ByteArray} {own : String} {nL : Nat} {ret : Option FieldType} {hh : List (Nat × Nat × Nat × Nat)} {fr lo mc ms : Nat} {Q : State → Prop} {M : MM} {a b pc : Nat} {L : List (Nat × Value)} {st : List Value}
theorem xs_put {s : State} {H H1 : Heap} {locs : List Loc} {q k : Nat} (hS : va_S (gO g) s.heap H locs) (z : H1.size = H.size) (oq : ∀ x, x ≠ q → H1[x]? = H[x]?) (hq : gB g ≤ q) : va_S (gO g) s.heap H1 (locs ++ [⟨q, k⟩]) := hS.put z oq hq
theorem x_get (F : Fx K g cc own nL ret hh fr lo mc ms) {ref C : String} {T : u_T} {N ci idx q : Nat} {fs : List Value} {v : Value} (k : Nat) (hM0 : M q = some (.inr (ci, fs))) (hc : vwCl[ci]? = some (C, T, N)) (hin : ∀ w ∈ u_ws C T N, w ∈ TB) (hk : k < N) (w : Cond.fieldLink own idx ref (T k).2.1 (T k).2.2.1 ∈ TB) (hsame : ∀ x, (ks K).fieldFound? (T k).1 (T k).2.1 (T k).2.2.1 = some x → (ks K).fieldFound? ref (T k).2.1 (T k).2.2.1 = some x) (d : decode cc pc = .ok (.getfield idx, 3)) (hv : fs[k]? = some v)
    (kk : XW K g nL Q M a b (pc + 3) L (v :: st)) : XW K g nL Q M a b pc L (.ref q :: st) :=
  fun H lc ls hM hS hl => va_get F.ex F.by_ F.tb hin F.ow F.vk (hM.one hM0) 0 rfl hc k hk (F.tb _ w) hsame hv d (kk H lc ls hM hS hl)
theorem x_putK {K : KX} {C : String} {T : u_T} {N ci q : Nat} {fs : List Value} {H : Heap} {s : State} (hK : va_K (gD g) vwCl (tysL (gC g)) s) (hM : hm g M H) (hM0 : M q = some (.inr (ci, fs))) (hc : vwCl[ci]? = some (C, T, N)) : ∃ cell : Cell, H[q]? = some cell ∧ cell.cls = (gD g).1 ci ∧ cell.vm = .none ∧ ∀ k, k < N → cell.slots[(gD g).2 ci k]? = some (vp_V fs k) := by
  obtain ⟨r, h1, cell, q1, q2, q3, q4⟩ := hM.at hM0
  have hr : r = (C, T, N) := Option.some.inj (h1.symm.trans hc)
  subst hr
  exact ⟨cell, q1, q2, q3, q4⟩
theorem x_put (F : Fx K g cc own nL ret hh fr lo mc ms) {ref C : String} {T : u_T} {N ci idx q : Nat} {fs : List Value} {v : Value} {ty : FieldType} (k : Nat) (hM0 : M q = some (.inr (ci, fs))) (hc : vwCl[ci]? = some (C, T, N)) (hin : ∀ w ∈ u_ws C T N, w ∈ TB) (ty0 : Nat → FieldType) (hty : ∀ k, k < N → parseFieldDescriptor (T k).2.2.1 = some (ty0 k)) (hnm : ∀ a, a < N → ∀ b, b < N → a ≠ b → (T a).2.1 ≠ (T b).2.1) (hk : k < N) (w : Cond.fieldLink own idx ref (T k).2.1 (T k).2.2.1 ∈ TB) (hsame : ∀ x, (ks K).fieldFound? (T k).1 (T k).2.1 (T k).2.2.1 = some x → (ks K).fieldFound? ref (T k).2.1 (T k).2.2.1 = some x) (hfin : (T k).2.2.2 = false) (hd : parseFieldDescriptor (T k).2.2.1 = some ty) (d : decode cc pc = .ok (.putfield idx, 3)) (hn : narrow ty v = v) (hfit : fits ty v = true) (hlen : k < fs.length)
    (kk : XW K g nL Q (mup M q (.inr (ci, fs.set k v))) a b (pc + 3) L st) : XW K g nL Q M a b pc L (v :: .ref q :: st) := by
  intro H lc ls hM hS hl
  have hap := va_apart (own := own) F.tb hin ty0 hty hnm F.vk hc
  obtain ⟨cell, q1, q2, q3, q4⟩ := x_putK (K := K) F.vk hM hM0 hc
  obtain ⟨hS2, hfc, kC, hkC, hkind⟩ := F.vk.1 ci _ hc
  obtain ⟨cf, kf, fi, f, hi, hsl⟩ := hS2 k hk
  have hlay := F.tb _ (hin _ (u_in_lay hk))
  unfold u_lay at hlay
  rw [if_neg (by rw [hfin]; decide)] at hlay
  have hst := (u_facts hfc hkC (u_lays F.tb hin hk) hi).1
  have h6 := u_store hfc hkC hkind hlay hi hd hn hfit
  refine W.putK F.ex F.by_ (f := f) ⟨F.ow, F.tb _ w, ⟨_, _, _, hsame _ hi⟩, hst⟩ (by rw [q2]; exact h6) q1 (by rw [q3]) (by rw [hsl]; exact k2_hasslot (q4 k hk)) rfl rfl d fun H' e1 e2 e3 => ?_
  rw [hsl] at e1 ⊢
  exact kk H' _ ls (hM.set hM0 ⟨_, hc, t_OB.to (V := updV (vp_V fs) k v) ⟨_, e1, q2, q3, t_set q4 hap hk v⟩ (fun j _ => vp_updV_set hlen v j)⟩ e3) (hS.put e2 e3 (hM.ge hM0)) hl
theorem x_putF (F : Fx K g cc own nL ret hh fr lo mc ms) {ref C : String} {T : u_T} {N ci idx q : Nat} {fs : List Value} {v : Value} {ty : FieldType} (k : Nat) (hin2 : (kme K).name = "<init>") (hM0 : M q = some (.inr (ci, fs))) (hc : vwCl[ci]? = some (C, T, N)) (hin : ∀ w ∈ u_ws C T N, w ∈ TB) (ty0 : Nat → FieldType) (hty : ∀ k, k < N → parseFieldDescriptor (T k).2.2.1 = some (ty0 k)) (hnm : ∀ a, a < N → ∀ b, b < N → a ≠ b → (T a).2.1 ≠ (T b).2.1) (hk : k < N) (w : Cond.fieldLink own idx ref (T k).2.1 (T k).2.2.1 ∈ TB) (hsame : ∀ x, (ks K).fieldFound? (T k).1 (T k).2.1 (T k).2.2.1 = some x → (ks K).fieldFound? ref (T k).2.1 (T k).2.2.1 = some x) (hfin : (T k).2.2.2 = true) (hdecl : (T k).1 = own) (hd : parseFieldDescriptor (T k).2.2.1 = some ty) (d : decode cc pc = .ok (.putfield idx, 3)) (hn : narrow ty v = v) (hfit : fits ty v = true) (hlen : k < fs.length)
    (kk : XW K g nL Q (mup M q (.inr (ci, fs.set k v))) a b (pc + 3) L st) : XW K g nL Q M a b pc L (v :: .ref q :: st) := by
  intro H lc ls hM hS hl
  have hap := va_apart (own := own) F.tb hin ty0 hty hnm F.vk hc
  obtain ⟨cell, q1, q2, q3, q4⟩ := x_putK (K := K) F.vk hM hM0 hc
  obtain ⟨hS2, hfc, kC, hkC, hkind⟩ := F.vk.1 ci _ hc
  obtain ⟨cf, kf, fi, f, hi, hsl⟩ := hS2 k hk
  have hlay := F.tb _ (hin _ (u_in_lay hk))
  unfold u_lay at hlay
  rw [if_pos hfin] at hlay
  have hst := (u_facts hfc hkC (u_lays F.tb hin hk) hi).1
  have hcf : (km K).cls = cf := by
    obtain ⟨_, _, c', _, _, _, -, -, hf', -, -, -, hown2, -⟩ := Cond.laysFinal_spec hlay
    have e1 : c' = cf := by have := hi.symm.trans hf'; simp at this; exact this.1.symm
    rw [hdecl] at hown2
    rw [← e1]; exact Option.some.inj (F.ow.symm.trans hown2)
  have h6 := u_fits hfc hkC hkind (Or.inr hlay) hi hd hn hfit
  refine W.putFinK F.ex F.by_ F.ow (F.tb _ w) (hsame _ hi) hst hcf hin2 (by rw [q2]; exact h6) q1 (by rw [q3]) (by rw [hsl]; exact k2_hasslot (q4 k hk)) rfl rfl d fun H' e1 e2 e3 => ?_
  rw [hsl] at e1 ⊢
  exact kk H' _ ls (hM.set hM0 ⟨_, hc, t_OB.to (V := updV (vp_V fs) k v) ⟨_, e1, q2, q3, t_set q4 hap hk v⟩ (fun j _ => vp_updV_set hlen v j)⟩ e3) (hS.put e2 e3 (hM.ge hM0)) hl
theorem x_iald (F : Fx K g cc own nL ret hh fr lo mc ms) {q n : Nat} {f : Nat → Int32} {i : Int32} (hM0 : M q = some (.inl (gC g 0, n, .inl f))) (hin : vp_in i n) (d : decode cc pc = .ok (.iaload, 1)) (kk : XW K g nL Q M a b (pc + 1) L (.int (f i.toNatClampNeg) :: st)) : XW K g nL Q M a b pc L (.int i :: .ref q :: st) :=
  fun H lc ls hM hS hl => va_iald F.ex F.by_ F.vk (hM.one hM0) 0 0 rfl rfl hin d (kk H lc ls hM hS hl)
theorem x_qald (F : Fx K g cc own nL ret hh fr lo mc ms) {q n : Nat} (t0 : Nat) {C : String} {cA : ClassId} {f : Nat → Option Nat} {i : Int32} (hM0 : M q = some (.inl (cA, n, .inr (.inr (.inr (.inr f)))))) (ht : (tysL (gC g))[t0]? = some (cA, .object C)) (hin : vp_in i n) (d : decode cc pc = .ok (.aaload, 1)) (kk : XW K g nL Q M a b (pc + 1) L (va_rf (f i.toNatClampNeg) :: st)) : XW K g nL Q M a b pc L (.int i :: .ref q :: st) :=
  fun H lc ls hM hS hl => va_aldq F.ex F.by_ F.vk (hM.one hM0) 0 t0 rfl ht hin d (kk H lc ls hM hS hl)
theorem x_alen (F : Fx K g cc own nL ret hh fr lo mc ms) {q : Nat} (t0 : Nat) {ty : FieldType} {cA : ClassId} {x : vp_A} {v : Int32} (hM0 : M q = some (.inl (cA, x))) (ht : (tysL (gC g))[t0]? = some (cA, ty)) (hv : Int32.ofNat x.1 = v) (d : decode cc pc = .ok (.arraylength, 1)) (kk : XW K g nL Q M a b (pc + 1) L (.int v :: st)) : XW K g nL Q M a b pc L (.ref q :: st) :=
  fun H lc ls hM hS hl => va_alen F.ex F.by_ F.vk (hM.one hM0) 0 t0 rfl ht hv d (kk H lc ls hM hS hl)
theorem x_iast (F : Fx K g cc own nL ret hh fr lo mc ms) {q n : Nat} {f : Nat → Int32} {i x : Int32} (hM0 : M q = some (.inl (gC g 0, n, .inl f))) (hin : vp_in i n) (d : decode cc pc = .ok (.iastore, 1)) (kk : XW K g nL Q (mup M q (.inl (gC g 0, n, .inl (upd f i.toNatClampNeg x)))) a b (pc + 1) L st) : XW K g nL Q M a b pc L (.int x :: .int i :: .ref q :: st) := by
  intro H lc ls hM hS hl
  refine W.iast F.ex F.by_ (hM.at hM0) ((F.vk.2 0 _ rfl).1 n (fun j => .int (f j))) (fun q => by cases q) (by show ¬ (i < 0 ∨ (arrV _ _ _).slots.size ≤ _); rw [arrV_size]; exact hin) rfl rfl d fun H1 e z oq => ?_
  refine kk H1 _ ls (hM.set hM0 ?_ oq) (hS.put z oq (hM.ge hM0)) hl
  show H1[q]? = some (vp_cell _ _)
  rw [e]
  rw [vp_cell_i, vp_cell_i, arrV_store]
  congr 2
  funext r
  by_cases hq : r = i.toNatClampNeg
  · subst hq
    simp [updV, upd]
  · simp [updV, upd, hq]
end XH
