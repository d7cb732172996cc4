/-! constructors, and a nest mate's static method -/
theorem ct_met {l : Launch} {g : GP} {y : MethodName} {cc : ByteArray} {nL : Nat} {ret : Option FieldType} {fr lo mc ms : Nat} {av : List Value} {M : MM} {post : Option Value → MM → Prop} (h : CT l g y cc nL ret fr lo mc ms av M post nX) : Met l y (Cond.code y cc nL ret :: TB) { frames := fr, cells := mc, slots := ms, locals := lo } (xPc g av M) (xQc g post) mc ms (gO g) := by
  intro p e ha hc hk s m args below hf happ hP hK
  obtain ⟨n, o, h1, h2, h3, hq⟩ := h p e ha hc hk s m args below hf happ hP hK
  refine ⟨n, o, h1, h2, h3, ?_⟩
  rcases hq with hq | ⟨q, ho, E, ce, LL, ⟨⟨M', hx, -⟩, -⟩, -⟩
  · exact hq
  · exact hx.elim
section XD
variable {K : KX} {g : GP} {cc : ByteArray} {own : String} {nL : Nat} {ret : Option FieldType} {hh : List (Nat × Nat × Nat × Nat)} {fr lo mc ms : Nat} {Q : State → Prop} {M : MM} {a b pc : Nat} {L : List (Nat × Value)} {st : List Value}
theorem x_after2 {mc' ms' : Nat} {av : Array Value} {post : Option Value → MM → Prop} {rest st0 : List Value}
    (kk : ∀ v M', post v M' → XW K g nL Q M' (a + mc') (b + ms') (pc + 3) L (v.toList ++ rest)) {H : Heap} {lc : List Loc} {ls : Array Slot} (hS : va_S (gO g) (ks K).heap H lc) (hl : lv_has ls nL L)
    (hr : va_Run (kp K) (kl K) (ke K) (kR K) (ks K) (km K) (ka K) (kb K) (kme K) (kc K) H lc a b mc' ms' (F0 (km K) pc ls st0) rest (xQc g post av) (gO g)) : W (kp K) (kl K) (ke K) (kR K) (ks K) (km K) (ka K) (kb K) (kme K) (kc K) H lc a b Q (F0 (km K) pc ls st0) := by
  intro T hT X
  obtain ⟨v, st₀, t, T', LL, h0, X', hL, e1, e2, ⟨⟨v', M', hv, hp, hb⟩, hF⟩, hst⟩ := hr T hT X
  cases hv
  obtain ⟨-, -, k3⟩ := vx_keep h0 e1 hS (fun _ _ h => h) (fun _ h => h) hL hF
  obtain ⟨t2, a1, b1⟩ := kk v M' hp T'.heap (lc ++ LL) ls (by rw [e1]; exact hb) k3 hl T' rfl X'
  exact ⟨t2, hst t2 a1, b1⟩
theorem x_callI (F : Fx K g cc own nL ret hh fr lo mc ms) {idx n maxL fr' lo' mc' ms' q : Nat} {y : MethodName} {bytes : ByteArray} {post : Option Value → MM → Prop} {As rest : List Value} (cs : CSI own idx y bytes maxL n) (hn : As.length = n) (hct : CT (kl K) g y bytes maxL none fr' lo' mc' ms' (.ref q :: As) M post nX) (hst : st = As.reverse ++ .ref q :: rest) (d : decode cc pc = .ok (.invokespecial idx, 3)) (hR : fr' + 1 ≤ fr ∧ 8 + (maxL + 11) + lo' ≤ lo) (hr : a + mc' ≤ mc ∧ b + ms' ≤ ms) (h8 : (rest.map fun v => v.category).sum ≤ 8)
    (kk : ∀ v M', post v M' → XW K g nL Q M' (a + mc') (b + ms') (pc + 3) L (v.toList ++ rest)) : XW K g nL Q M a b pc L st := by
  intro H lc ls hM hS hl
  obtain ⟨⟨w1, w2, w4, w5⟩, e1, d1, d2, d3⟩ := cs
  refine x_after2 (av := (Value.ref q :: As).toArray) kk hS hl ?_
  exact va_runI (x_fix F) (ct_met hct) ⟨x_callB F (F.tb _ w1) w4 w5 ⟨d1, d2, d3⟩ hR, e1, F.tb _ w2⟩ ⟨xPc_blind, x_pre F hM hS⟩ rfl hn hl.1 hst (lv_room h8) d ⟨by rw [F.rc]; exact hr.1, by rw [F.rs]; exact hr.2⟩
/-- RankStock.split out of RankStock$Rodeo -/
theorem x_callSplit (F : Fx K g cc RX2 nL ret hh fr lo mc ms) {fr' lo' : Nat} {post : Option Value → MM → Prop} {As rest : List Value} (w4 : Cond.initialized RX3 ∈ TB) (w5 : Cond.code yX3_split cX3_split 2 (some .int) ∈ TB) (w6 : Cond.static yX3_split ∈ TB) (hn : As.length = 2) (hct : CT (kl K) g yX3_split cX3_split 2 (some .int) fr' lo' 0 0 As M post nX) (hst : st = As.reverse ++ rest) (d : decode cc pc = .ok (.invokestatic 98, 3)) (hR : fr' + 1 ≤ fr ∧ 8 + (2 + 11) + lo' ≤ lo) (hr : a + 0 ≤ mc ∧ b + 0 ≤ ms) (h8 : (rest.map fun v => v.category).sum ≤ 8)
    (kk : ∀ v M', post v M' → XW K g nL Q M' (a + 0) (b + 0) (pc + 3) L (v.toList ++ rest)) : XW K g nL Q M a b pc L st := by
  intro H lc ls hM hS hl
  refine x_after2 (av := As.toArray) kk hS hl ?_
  exact va_runSN (x_fix F) (ct_met hct) ⟨va_cnB (host := RX3) 2 F.tb (tb_gi0 w5) rfl rfl rfl F.gg.2.2.2.2.2.2.2.2.1 (F.tb _ w4) ⟨by decide +kernel, by decide +kernel, by decide +kernel⟩ (by rw [F.rf, F.rl]; exact hR), F.tb _ w6, trivial⟩ ⟨xPc_blind, x_pre F hM hS⟩ rfl hn hl.1 hst (lv_room h8) d ⟨by rw [F.rc]; exact hr.1, by rw [F.rs]; exact hr.2⟩
end XD
