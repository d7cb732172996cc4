/-! My layer over the kit: a heap as a map from addresses to entries, methods' contracts over such maps. -/
def TB : List Cond := lw_tbl.filter goodWord
theorem tb_of {w : Cond} (h : w ∈ lw_tbl) (g : goodWord w = true) : w ∈ TB := List.mem_filter.mpr ⟨h, g⟩
theorem tb_t (i : Nat) {w : Cond} (h : tables_1[i]? = some w) (g : goodWord w = true) : w ∈ TB := tb_of (List.mem_append_right _ (List.mem_of_getElem? h)) g
theorem tb_s (i : Nat) {w : Cond} (h : (k2_sels lw_privs)[i]? = some w) (g : goodWord w = true) : w ∈ TB := tb_of (List.mem_append_left _ (List.mem_of_getElem? h)) g
theorem tb_gw {w : Cond} (h : w ∈ TB) : goodWord w = true := (List.mem_filter.mp h).2
theorem tb_gi {cx cy : Cond} {pre : List Cond} (hp : ∀ w ∈ pre, w ∈ TB) (h : cy ∈ TB) : GoodIn (cx :: TB) (pre ++ cy :: TB) := by
  intro w hw
  have h1 : w ∈ TB := by
    rcases List.mem_append.mp hw with h2 | h2
    · exact hp w h2
    · rcases List.mem_cons.mp h2 with rfl | h2
      · exact h
      · exact h2
  exact ⟨List.mem_cons_of_mem _ h1, good_of_word (tb_gw h1)⟩
abbrev MM : Type := Nat → Option va_E
def mup (M : MM) (q : Nat) (e : va_E) : MM := fun a => if a = q then some e else M a
theorem mup_s {M : MM} {q : Nat} {e : va_E} : mup M q e q = some e := if_pos rfl
theorem mup_n {M : MM} {q a : Nat} {e : va_E} (h : a ≠ q) : mup M q e a = M a := if_neg h
abbrev GP : Type := va_G × (Nat → ClassId) × Nat × (Nat → Nat) × Nat × Nat × (Nat → Int32)
abbrev gD (g : GP) : va_G := g.1
abbrev gC (g : GP) : Nat → ClassId := g.2.1
abbrev gB (g : GP) : Nat := g.2.2.1
abbrev gA (g : GP) : Nat → Nat := g.2.2.2.1
/-- the script: where it lies, its length, its ints -/
abbrev gXb (g : GP) : Nat := g.2.2.2.2.1
abbrev gXn (g : GP) : Nat := g.2.2.2.2.2.1
abbrev gXf (g : GP) : Nat → Int32 := g.2.2.2.2.2.2
def gO (g : GP) : Nat → Prop := fun q => gB g ≤ q
def tysL (cA : Nat → ClassId) : List (ClassId × FieldType) := [(cA 0, .int), (cA 3, .object "java/lang/Object"), (cA 3, .object "java/lang/Object"), (cA 3, .object "java/lang/Object"), (cA 4, .object "RankStock$Entry")]
def hm (g : GP) (M : MM) (H : Heap) : Prop := ∀ q e, M q = some e → gB g ≤ q ∧ va_at (gD g) vwCl (q, e) H
theorem hm.lt {g : GP} {M : MM} {H : Heap} (h : hm g M H) {q : Nat} {e : va_E} (hq : M q = some e) : q < H.size := (h q e hq).2.lt
theorem hm.ge {g : GP} {M : MM} {H : Heap} (h : hm g M H) {q : Nat} {e : va_E} (hq : M q = some e) : gB g ≤ q := (h q e hq).1
theorem hm.at {g : GP} {M : MM} {H : Heap} (h : hm g M H) {q : Nat} {e : va_E} (hq : M q = some e) : va_at (gD g) vwCl (q, e) H := (h q e hq).2
theorem hm.kept {g : GP} {M : MM} {H H1 : Heap} (h : hm g M H) (hk : ∀ q, gB g ≤ q → q < H.size → H1[q]? = H[q]?) : hm g M H1 := fun q e hq => ⟨h.ge hq, (h.at hq).kept (hk q (h.ge hq) (h.lt hq))⟩
theorem hm.one {g : GP} {M : MM} {H : Heap} (h : hm g M H) {q : Nat} {e : va_E} (hq : M q = some e) : va_P (gD g) vwCl [(q, e)] H := by
  intro k x hx
  cases k with
  | zero => cases hx; exact h.at hq
  | succ k => simp at hx
theorem hm.set {g : GP} {M : MM} {H H1 : Heap} (h : hm g M H) {q : Nat} {e e' : va_E} (hq : M q = some e) (h1 : va_at (gD g) vwCl (q, e') H1) (ho : ∀ a, a ≠ q → H1[a]? = H[a]?) : hm g (mup M q e') H1 := by
  intro a x hx
  by_cases ha : a = q
  · subst ha
    rw [mup_s] at hx
    cases hx
    exact ⟨h.ge hq, h1⟩
  · rw [mup_n ha] at hx
    exact ⟨h.ge hx, (h.at hx).kept (ho a ha)⟩
theorem hm.new {g : GP} {M : MM} {H H1 : Heap} (h : hm g M H) {q : Nat} {e' : va_E} (hz : H.size = q) (hg : gB g ≤ q) (h1 : va_at (gD g) vwCl (q, e') H1) (ho : ∀ a, a < H.size → H1[a]? = H[a]?) : hm g (mup M q e') H1 := by
  intro a x hx
  by_cases ha : a = q
  · subst ha
    rw [mup_s] at hx
    cases hx
    exact ⟨hg, h1⟩
  · rw [mup_n ha] at hx
    exact ⟨h.ge hx, (h.at hx).kept (ho a (h.lt hx))⟩
theorem hm.fresh {g : GP} {M : MM} {H : Heap} (h : hm g M H) {q : Nat} (hz : H.size = q) : M q = none := by
  cases hq : M q with
  | none => rfl
  | some e => have := h.lt hq; omega
-- what of the state never changes
def SRl : List (Nat × String) := [(32, "no such kind"), (43, "no more beasts"), (55, "no more riders"), (61, "kind, mile or first day"), (63, "performances or places"), (66, "money added or fee"), (68, "no more rodeos"), (254, "no such rodeo"), (94, "no such question"), (256, "no such rider"), (103, "no such set of performances"), (109, "the wish is not in the set"), (111, "not open, or entered by that rider"), (122, "not open"), (155, "no such hidden number"), (157, "not closed"), (167, "marks or watches"), (173, "no beast to be ridden"), (188, "no re-ride is offered"), (202, "no such beast"), (225, "cannot be paid"), (243, "no such rank")]
def sIA : String := "java/lang/IllegalArgumentException"
def sIS : String := "java/lang/IllegalStateException"
def sIO : String := "java/lang/IndexOutOfBoundsException"
def CCl : List (String × String) := [(sIA, sIA), (sIS, sIS), (sIO, sIO), (RX0, "java/lang/Object"), (RX1, "java/lang/Object"), (RX2, "java/lang/Object")]
def DCl : List MethodName := [⟨"java/lang/RuntimeException", "<init>", "()V"⟩, ⟨"java/lang/RuntimeException", "<init>", "(Ljava/lang/String;)V"⟩, ⟨"java/lang/Exception", "<init>", "()V"⟩, ⟨"java/lang/Exception", "<init>", "(Ljava/lang/String;)V"⟩, ⟨"java/lang/Throwable", "<init>", "()V"⟩, ⟨"java/lang/Throwable", "<init>", "(Ljava/lang/String;)V"⟩, ⟨"java/lang/Object", "getClass", "()Ljava/lang/Class;"⟩]
def NCl : List (String × String) := [(sIA, sIS), (sIA, sIO), (sIS, sIA), (sIS, sIO), (sIO, sIA), (sIO, sIS)]
def hundV (j : Nat) : Value := .int (if j = 0 then 40 else if j = 1 then 30 else if j = 2 then 20 else 10)
theorem va_X_lt {b L : Nat} {xs : Nat → Int32} {U : State} {H : Heap} (h : va_X b L xs U H) : b < H.size := by
  obtain ⟨scr, h1, -⟩ := h
  exact (Array.getElem?_eq_some_iff.mp h1).1
def GS (g : GP) (U : State) (H : Heap) : Prop :=
  va_Z "java/util/ArrayList" "DEFAULTCAPACITY_EMPTY_ELEMENTDATA" "[Ljava/lang/Object;" (.ref (gA g 0)) (gO g) U H ∧ va_T (.object "java/lang/Object") (gA g 0) 0 (fun _ => .null) (gO g) U H ∧
  va_Z "RankStock" "HUNDREDTHS" "[I" (.ref (gA g 1)) (gO g) U H ∧ va_T .int (gA g 1) 4 hundV (gO g) U H ∧
  vx_Zq Bundle.tN "UNASSIGNED_STACK" Bundle.steD (gO g) U H ∧ vx_Zq Bundle.tN "SUPPRESSED_SENTINEL" Bundle.listD (gO g) U H ∧ va_X (gXb g) (gXn g) (gXf g) U H ∧ ¬ gO g (gXb g)
def GT (g : GP) (U : State) : Prop :=
  va_K (gD g) vwCl (tysL (gC g)) U ∧ (∀ q ∈ SRl, ∃ a, vk_R RX3 q.1 q.2 a U) ∧ (∀ q ∈ CCl, va_Nw (.castable q.1 q.2) U) ∧ (∀ x ∈ DCl, va_Nw (.declares x) U) ∧ (∀ q ∈ NCl, va_Nc q.1 q.2 U) ∧
  va_Nw (.fieldLinkNest RX2 90 RX3 "HUNDREDTHS" "[I" RX3) U ∧ va_Nw (.methodLinkNest RX2 98 yX3_split RX3) U ∧ va_AO "java/lang/Object" U ∧ va_AO RX1 U ∧ va_Mi "[Ljava/lang/Object;" (gA g 2) U
def GG (g : GP) (U : State) : Prop := gB g ≤ U.heap.size ∧ GS g U U.heap ∧ GT g U
theorem GS.moved {g : GP} {u U : State} {H : Heap} (hvm : u.vm.Alike U.vm) (h : GS g u H) : GS g U H := ⟨h.1.moved hvm, h.2.1.moved hvm, h.2.2.1.moved hvm, h.2.2.2.1.moved hvm, h.2.2.2.2.1.moved hvm, h.2.2.2.2.2.1.moved hvm, h.2.2.2.2.2.2.1.moved hvm, h.2.2.2.2.2.2.2⟩
theorem GS.kept {g : GP} {U : State} {H H1 : Heap} (h : GS g U H) (hq : ∀ a : Nat, a < H.size → ¬ gO g a → H1[a]? = H[a]?) : GS g U H1 := ⟨h.1.kept hq, h.2.1.kept hq, h.2.2.1.kept hq, h.2.2.2.1.kept hq, h.2.2.2.2.1.kept hq, h.2.2.2.2.2.1.kept hq, h.2.2.2.2.2.2.1.kept (hq _ (va_X_lt h.2.2.2.2.2.2.1) h.2.2.2.2.2.2.2), h.2.2.2.2.2.2.2⟩
theorem GT.warm {g : GP} {s U : State} (hW : s.WarmedH U.vm) (h : GT g s) : GT g U := by
  obtain ⟨h1, h2, h3, h4, h5, h6, h7, h8, h9, h10⟩ := h
  exact ⟨h1.moved hW.alike, fun q hq => (h2 q hq).imp fun _ z => vk_R.warm hW z, fun q hq => va_Nw.warmC hW (h3 q hq), fun x hx => va_Nw.warmD hW (h4 x hx), fun q hq => va_Nc.moved hW.alike (h5 q hq), va_Nw.warmF hW h6, va_Nw.warmM hW h7, h8.moved hW.alike, h9.moved hW.alike, va_Mi.moved hW.alike h10⟩
theorem GG.step {g : GP} {s U : State} {H : Heap} {locs : List Loc} (h : GG g s) (hS : va_S (gO g) s.heap H locs) (hH : U.heap = H) (hW : s.WarmedH U.vm) : GG g U := by
  refine ⟨by rw [hH]; exact Nat.le_trans h.1 hS.1, ?_, h.2.2.warm hW⟩
  rw [hH]
  exact (h.2.1.kept hS.2.1).moved hW.alike
theorem GG.calling {g : GP} {U : State} {f : JFrame} {mk : MethodId} {a : Array Value} (h : GG g U) : GG g (U.calling f mk a) :=
  ⟨h.1, (h.2.1 : GS g U U.heap).moved (Vm.Alike.refl U.vm), h.2.2.warm (State.WarmedH.refl U)⟩
