/-! the draw, the close -/
def moN (σ : ST) (r p : Nat) : Nat → Nat
  | 0 => 0
  | e + 1 => if σ.2.1 22 (12 * r + whS σ r e) = nI p then moN σ r p e + (drwU (drE σ r p e) r (whS σ r e)).1 24 (12 * r + whS σ r e) else moN σ r p e
theorem moN_f {σ : ST} {r p e : Nat} (h : ¬ σ.2.1 22 (12 * r + whS σ r e) = nI p) : moN σ r p (e + 1) = moN σ r p e := if_neg h
theorem moN_y {σ : ST} {r p e v : Nat} (h : σ.2.1 22 (12 * r + whS σ r e) = nI p) (h2 : (drwU (drE σ r p e) r (whS σ r e)).1 24 (12 * r + whS σ r e) = v) : moN σ r p (e + 1) = moN σ r p e + v := by
  rw [← h2]; exact if_pos h
def drN (σ : ST) (r : Nat) : Nat → Nat
  | 0 => 0
  | p + 1 => drN σ r p + moN (drP σ r p) r p (σ.1 17 r)
theorem clE_s {σ : ST} {r e : Nat} : clE σ r (e + 1) = uR (clE σ r e) 22 (12 * r + whS σ r e) (plcS (clE σ r e) r (whS σ r e)) := by
  show plU (clE σ r e) r ((clE σ r e).1 19 (12 * r + e)) = _
  rw [clE_1]
  rfl
theorem ID_cl {σ : ST} (hW : IW σ) (hD : ID σ) {r : Nat} (hr : r < σ.1 18 0) : ∀ e, e ≤ σ.1 17 r → ID (clE σ r e)
  | 0, _ => hD
  | e + 1, he => by
    have ih := ID_cl hW hD hr e (by omega)
    intro r' j hr' hj hn
    have h1 := ih r' j (by rw [clE_1] at hr' ⊢; exact hr') hj (by rw [clE_1] at hn ⊢; exact hn)
    rw [clE_s]
    have hw := ((hW r hr).1 e (by omega))
    have hne : ¬ 12 * r' + j = 12 * r + whS σ r e := by
      intro z
      rw [clE_1] at hn
      rw [z] at hn
      exact hn hw.2
    refine ⟨⟨?_, h1.1.2.1, h1.1.2.2⟩, h1.2⟩
    rw [← h1.1.1]
    exact if_neg (fun z => hne z.2)
theorem Bd_st {σ : ST} {r v : Nat} (hB : Bd σ) (hv : v ≤ 3) : Bd (uN σ 15 r v) := by
  obtain ⟨h6, h7, h18, hr8, hk96, hp96, hb16, hh⟩ := hB
  refine ⟨h6, h7, h18, fun q hq => ?_, hk96, hp96, hb16, hh⟩
  obtain ⟨a1, a2, a3, a4, a5, a6, a7, a8, a9⟩ := hr8 q hq
  refine ⟨a1, a2, a3, a4, a5, a6, ?_, a8, a9⟩
  simp only [uN]
  split
  · exact hv
  · exact a7
set_option maxHeartbeats 4000000 in
set_option maxRecDepth 100000 in
theorem c_X3_mountAll {l : Launch} (hl : l.stackTraces = false) {g : GP} {M : MM} {A : Nat → Nat} {M0 : MM} {σ : ST} {r p : Nat} (hR : CM g A M0 σ M) (hB : Bd σ) (hW : IW σ) (hr : r < σ.1 18 0) (hp : p < 4) : CT l g yX3_mountAll cX3_mountAll 6 (some .int) 7 186 0 0 [.ref (A 0), .ref (A (30 + r)), .int (nI (p))] M (pI (fun r9 M9 => nI (moN σ r p (σ.1 17 r)) = r9 ∧ CM g A M0 (drE σ r p (σ.1 17 r)) M9)) nX := by
  refine ct_of [(0, .ref (A 0)), (1, .ref (A (30 + r))), (2, .int (nI (p)))] (by decide) hl (Nat.le_of_ble_eq_true rfl) rfl ?_
  intro K hK F
  subst hK
  have F : Fx K g cX3_mountAll RX3 6 (some .int) [] 7 186 0 0 := F
  obtain ⟨Q, hQ⟩ : ∃ Q, Q = MQx K g (pI (fun r9 M9 => nI (moN σ r p (σ.1 17 r)) = r9 ∧ CM g A M0 (drE σ r p (σ.1 17 r)) M9)) nX 0 0 := ⟨_, rfl⟩
  rw [← hQ]
  have hB9 := hB
  obtain ⟨h6, h7, h18, hr8, hk96, hp96, hb16, hh⟩ := hB9
  have b1 := hr8 r (by omega)
  refine x_iconst F (nI 0) dX3_mountAll_0 (by decide) ?_
  refine x_istore_n F [(3, .int (nI (0))), (0, .ref (A 0)), (1, .ref (A (30 + r))), (2, .int (nI (p)))] dX3_mountAll_1 (by decide) rfl ?_
  refine x_iconst F (nI 0) dX3_mountAll_2 (by decide) ?_
  refine x_istore F [(4, .int (nI (0))), (3, .int (nI (0))), (0, .ref (A 0)), (1, .ref (A (30 + r))), (2, .int (nI (p)))] dX3_mountAll_3 (by decide) rfl ?_
  have LP5 : ∀ i, i ≤ (σ.1 17 r) → ∀ (Mi5 : MM), CM g A M0 (drE σ r p i) Mi5 → ∀ (v5_3 : Int32) (v5_4 : Int32), v5_3 = nI (moN σ r p i) → v5_4 = nI (i) → XW K g 6 Q Mi5 0 0 5 [(4, .int (v5_4)), (3, .int (v5_3)), (0, .ref (A 0)), (1, .ref (A (30 + r))), (2, .int (nI (p)))] [] := by
    refine x_loop ((σ.1 17 r)) _ (fun i hi ihi => ?_)
    intro Mi5 hR5 v5_3 v5_4 e5_3 e5_4
    subst e5_3
    subst e5_4
    have KN : ∀ s9 q9, ¬ s9 = 24 → ¬ s9 = 30 → ¬ s9 = 42 → (drE σ r p i).1 s9 q9 = σ.1 s9 q9 := fun s9 q9 h1 h2 h3 => congrFun (drE_N ⟨h1, h2, h3⟩ i) q9
    have KR : ∀ s9 q9, ¬ s9 = 23 → (drE σ r p i).2.1 s9 q9 = σ.2.1 s9 q9 := fun s9 q9 h1 => congrFun (drE_R h1 i) q9
    have K18 := KN 18 0 (by decide) (by decide) (by decide)
    have K17 := KN 17 r (by decide) (by decide) (by decide)
    have hWi : IW (drE σ r p i) := IW_of (fun s9 q9 h9 => KN s9 q9 (by omega) (by omega) (by omega)) hW
    have hBi : Bd (drE σ r p i) := Bd_drE hB i
    refine x_iload F 0 dX3_mountAll_5 rfl ?_
    refine x_aload_n F 3 dX3_mountAll_7 rfl ?_
    refine x_fget F f_X3_82 (hR5.r (by omega : r < (drE σ r p i).1 18 0) (by omega)) (v := .ref (A (40 + r))) dX3_mountAll_8 rfl ?_
    refine x_callV F s_X3_37 (hR5.l (by omega : r < (drE σ r p i).1 18 0) (by omega)) rfl rfl (c_lsize F.nt (hR5.l (by omega : r < (drE σ r p i).1 18 0) (by omega))) rfl dX3_mountAll_11 (by decide) (by decide) (Nat.le_of_ble_eq_true rfl) x_noX (ki fun r M2 hp => ?_)
    obtain ⟨rfl, rfl⟩ := hp
    refine x_ri0 (y := nI (σ.1 17 r)) (by simp [whA, whS, KN, KR]) ?_
    refine x_icmp_ge F 69 dX3_mountAll_14 (by decide) (fun c14 => ?_) (fun c14 => ?_)
    · have c14 := (nI_leI (by omega) (by omega)).mp c14
      have c14b := Nat.not_lt.mpr c14
      have h9 : i = σ.1 17 r := by omega
      refine x_iload_n F 1 dX3_mountAll_69 rfl ?_
      rw [hQ]
      exact x_iret F dX3_mountAll_70 (by decide) ⟨_, rfl, by rw [h9], by rw [h9] at hR5; exact hR5⟩
    · have c14 := mt (nI_leI (by omega) (by omega)).mpr c14
      have c14b := Nat.not_le.mp c14
      refine x_aload_n F 3 dX3_mountAll_17 rfl ?_
      refine x_fget F f_X3_82 (hR5.r (by omega : r < (drE σ r p i).1 18 0) (by omega)) (v := .ref (A (40 + r))) dX3_mountAll_18 rfl ?_
      refine x_iload F 0 dX3_mountAll_21 rfl ?_
      refine x_callV F s_X3_124 (hR5.l (by omega : r < (drE σ r p i).1 18 0) (by omega)) rfl rfl (c_lget F.nt (hR5.l (by omega : r < (drE σ r p i).1 18 0) (by omega)) (fun h0 => hR5.d (by omega : r < (drE σ r p i).1 18 0) (by omega) h0) (by omega : i < (drE σ r p i).1 17 r) (by omega : (drE σ r p i).1 17 r ≤ 22)) rfl dX3_mountAll_23 (by decide) (by decide) (Nat.le_of_ble_eq_true rfl) x_noX (kr fun r_2 M2_2 hp_2 => ?_)
      obtain ⟨rfl, rfl⟩ := hp_2
      have w9 := (hW r (by omega : r < σ.1 18 0)).1 i (by omega : i < σ.1 17 r)
      refine x_rr0 (y := A (100 + (12 * r + whS σ r i))) (by simp [whA, whS, KN, KR]) ?_
      refine x_cast F (hR5.e ((KN 41 _ (by decide) (by decide) (by decide)).trans w9.2) (by omega)) rfl l_X3_113 dX3_mountAll_26 ?_
      refine x_astore F [(5, .ref (A (100 + (12 * r + whS σ r i)))), (4, .int (nI (i))), (3, .int (nI (moN σ r p i))), (0, .ref (A 0)), (1, .ref (A (30 + r))), (2, .int (nI (p)))] dX3_mountAll_29 (by decide) rfl ?_
      refine x_aload F 0 dX3_mountAll_31 rfl ?_
      refine x_fget F f_X3_132 (hR5.e ((KN 41 _ (by decide) (by decide) (by decide)).trans w9.2) (by omega)) (v := .int ((drE σ r p i).2.1 22 (12 * r + whS σ r i))) dX3_mountAll_33 rfl ?_
      refine x_ri0 (y := σ.2.1 22 (12 * r + whS σ r i)) (by simp [whA, whS, KN, KR]) ?_
      refine x_iload_n F 5 dX3_mountAll_36 rfl ?_
      refine x_icmp_ne F 63 dX3_mountAll_37 (by decide) (fun c37 => ?_) (fun c37 => ?_)
      · refine x_iinc F 1 [(4, .int (nI (i + 1))), (5, .ref (A (100 + (12 * r + whS σ r i)))), (3, .int (nI (moN σ r p i))), (0, .ref (A 0)), (1, .ref (A (30 + r))), (2, .int (nI (p)))] dX3_mountAll_63 rfl (iincN (i) 1) (by decide) rfl ?_
        refine x_goto F 5 dX3_mountAll_66 (by decide) ?_
        refine x_sub [0, 2, 3, 4, 5] rfl (L' := [(4, .int (nI (i + 1))), (3, .int (nI (moN σ r p i))), (0, .ref (A 0)), (1, .ref (A (30 + r))), (2, .int (nI (p)))]) ?_
        exact ihi (by omega) _ (by first | (rw [drE_f (show ¬ σ.2.1 22 (12 * r + σ.1 19 (12 * r + i)) = nI p from c37)]; exact hR5) | (rw [drE_t (show σ.2.1 22 (12 * r + σ.1 19 (12 * r + i)) = nI p from c37)]; exact hR5)) _ _ (by first | exact congrArg nI (moN_f c37).symm | exact congrArg nI (moN_y c37 c53).symm | exact congrArg nI (moN_y c37 d53).symm) (rfl)
      · refine x_aload_n F 3 dX3_mountAll_40 rfl ?_
        refine x_aload_n F 4 dX3_mountAll_41 rfl ?_
        refine x_aload F 0 dX3_mountAll_42 rfl ?_
        refine x_callV F s_X3_196 hR5.c rfl rfl (c_X3_mount F.nt hR5 hBi (by omega) (rfl) (by omega) (((KN 41 _ (by decide) (by decide) (by decide)).trans w9.2)) (by rw [KR _ _ (by decide), c37]; exact nI_m1 (by omega)) (j := (whS σ r i))) rfl dX3_mountAll_44 (by decide) (by decide) (Nat.le_of_ble_eq_true rfl) x_noX (kv fun M9 hp8 => ?_)
        have hR8 : CM g A M0 (drwU (drE σ r p i) r (whS σ r i)) M9 := hp8
        have hB8 : Bd (drwU (drE σ r p i) r (whS σ r i)) := Bd_drw hBi
        have K18b : (drwU (drE σ r p i) r (whS σ r i)).1 18 0 = σ.1 18 0 := (congrFun (drwU_N (by decide)) _).trans K18
        have d52 := (hB8.2.2.2.2.1 (12 * r + whS σ r i) (by omega)).2.2.2.1
        refine x_iload_n F 2 dX3_mountAll_47 rfl ?_
        refine x_aload F 0 dX3_mountAll_48 rfl ?_
        refine x_fget F f_X3_169 (hR8.e ((congrFun (drwU_N (by decide)) _).trans ((KN 41 _ (by decide) (by decide) (by decide)).trans w9.2)) (by omega)) (v := .int (nI ((drwU (drE σ r p i) r (whS σ r i)).1 24 (12 * r + whS σ r i)))) dX3_mountAll_50 rfl ?_
        refine x_if_eq F 60 dX3_mountAll_53 (by decide) (fun c53 => ?_) (fun c53 => ?_)
        · have c53 := (nI_z (by omega)).mp c53
          refine x_iconst F (nI 0) dX3_mountAll_60 (by decide) ?_
          refine x_iaddN F dX3_mountAll_61 ?_
          refine x_istore_n F [(3, .int (nI ((moN σ r p i) + 0))), (5, .ref (A (100 + (12 * r + whS σ r i)))), (4, .int (nI (i))), (0, .ref (A 0)), (1, .ref (A (30 + r))), (2, .int (nI (p)))] dX3_mountAll_62 (by decide) rfl ?_
          refine x_iinc F 2 [(4, .int (nI (i + 1))), (3, .int (nI ((moN σ r p i) + 0))), (5, .ref (A (100 + (12 * r + whS σ r i)))), (0, .ref (A 0)), (1, .ref (A (30 + r))), (2, .int (nI (p)))] dX3_mountAll_63 rfl (iincN (i) 1) (by decide) rfl ?_
          refine x_goto F 5 dX3_mountAll_66 (by decide) ?_
          refine x_sub [0, 1, 3, 4, 5] rfl (L' := [(4, .int (nI (i + 1))), (3, .int (nI ((moN σ r p i) + 0))), (0, .ref (A 0)), (1, .ref (A (30 + r))), (2, .int (nI (p)))]) ?_
          exact ihi (by omega) _ (by first | (rw [drE_f (show ¬ σ.2.1 22 (12 * r + σ.1 19 (12 * r + i)) = nI p from c37)]; exact hR8) | (rw [drE_t (show σ.2.1 22 (12 * r + σ.1 19 (12 * r + i)) = nI p from c37)]; exact hR8)) _ _ (by first | exact congrArg nI (moN_f c37).symm | exact congrArg nI (moN_y c37 c53).symm | exact congrArg nI (moN_y c37 d53).symm) (rfl)
        · have c53 := mt (nI_z (by omega)).mpr c53
          have d53 := Nat.le_antisymm d52 (Nat.pos_of_ne_zero c53)
          refine x_iconst F (nI 1) dX3_mountAll_56 (by decide) ?_
          refine x_goto F 61 dX3_mountAll_57 (by decide) ?_
          refine x_iaddN F dX3_mountAll_61 ?_
          refine x_istore_n F [(3, .int (nI ((moN σ r p i) + 1))), (5, .ref (A (100 + (12 * r + whS σ r i)))), (4, .int (nI (i))), (0, .ref (A 0)), (1, .ref (A (30 + r))), (2, .int (nI (p)))] dX3_mountAll_62 (by decide) rfl ?_
          refine x_iinc F 2 [(4, .int (nI (i + 1))), (3, .int (nI ((moN σ r p i) + 1))), (5, .ref (A (100 + (12 * r + whS σ r i)))), (0, .ref (A 0)), (1, .ref (A (30 + r))), (2, .int (nI (p)))] dX3_mountAll_63 rfl (iincN (i) 1) (by decide) rfl ?_
          refine x_goto F 5 dX3_mountAll_66 (by decide) ?_
          refine x_sub [0, 1, 3, 4, 5] rfl (L' := [(4, .int (nI (i + 1))), (3, .int (nI ((moN σ r p i) + 1))), (0, .ref (A 0)), (1, .ref (A (30 + r))), (2, .int (nI (p)))]) ?_
          exact ihi (by omega) _ (by first | (rw [drE_f (show ¬ σ.2.1 22 (12 * r + σ.1 19 (12 * r + i)) = nI p from c37)]; exact hR8) | (rw [drE_t (show σ.2.1 22 (12 * r + σ.1 19 (12 * r + i)) = nI p from c37)]; exact hR8)) _ _ (by first | exact congrArg nI (moN_f c37).symm | exact congrArg nI (moN_y c37 c53).symm | exact congrArg nI (moN_y c37 d53).symm) (rfl)
  exact LP5 0 (by omega) _ hR _ _ (rfl) (rfl)
set_option maxHeartbeats 4000000 in
set_option maxRecDepth 100000 in
theorem c_X3_draw {l : Launch} (hl : l.stackTraces = false) {g : GP} {M : MM} {A : Nat → Nat} {M0 : MM} {σ : ST} {x0 : Int32} (hR : CM g A M0 σ M) (hB : Bd σ) (hW : IW σ) : CT l g yX3_draw cX3_draw 5 (some .int) 8 211 2 12 [.ref (A 0), .int (x0)] M (pI (fun r9 M9 => cdSt σ x0 1 = 0 ∧ nI (drN σ (cl x0) (σ.1 11 (cl x0))) = r9 ∧ CM g A M0 (drnU σ (cl x0)) M9)) (fun E M9 => M = M9 ∧ xp2 E (cdSt σ x0 1) sIO sIS) := by
  refine ct_of [(0, .ref (A 0)), (1, .int (x0))] (by decide) hl (Nat.le_of_ble_eq_true rfl) rfl ?_
  intro K hK F
  subst hK
  have F : Fx K g cX3_draw RX3 5 (some .int) [] 8 211 2 12 := F
  obtain ⟨Q, hQ⟩ : ∃ Q, Q = MQx K g (pI (fun r9 M9 => cdSt σ x0 1 = 0 ∧ nI (drN σ (cl x0) (σ.1 11 (cl x0))) = r9 ∧ CM g A M0 (drnU σ (cl x0)) M9)) ((fun E M9 => M = M9 ∧ xp2 E (cdSt σ x0 1) sIO sIS)) 2 12 := ⟨_, rfl⟩
  rw [← hQ]
  have hB9 := hB
  obtain ⟨h6, h7, h18, hr8, hk96, hp96, hb16, hh⟩ := hB9
  refine x_aload_n F 0 dX3_draw_0 rfl ?_
  refine x_iload_n F 1 dX3_draw_1 rfl ?_
  rw [hQ]
  refine x_callV F s_X3_75 hR.c rfl rfl (c_X3_rodeoAt F.nt hR hB) rfl dX3_draw_2 (by decide) (by decide) (Nat.le_of_ble_eq_true rfl) (x_outX F (by decide) (by rintro E M9 ⟨k1, k2, k3⟩; exact ⟨k3, (Or.inl ⟨k1, (if_pos k2)⟩)⟩)) (kr fun r9 M9 hp9 => ?_)
  rw [← hQ]
  obtain ⟨hin9, rfl, rfl⟩ := hp9
  obtain ⟨r, hr, rfl⟩ := inN_t (by omega) hin9
  rw [cl_nI (n := r) (by omega)]
  have b1 := hr8 r (by omega)
  refine x_astore_n F [(2, .ref (A (30 + r))), (0, .ref (A 0)), (1, .int (nI (r)))] dX3_draw_5 (by decide) rfl ?_
  refine x_aload_n F 0 dX3_draw_6 rfl ?_
  refine x_fget F f_X3_79 (hR.r (by omega : r < σ.1 18 0) (by omega)) (v := .int (nI (σ.1 15 r))) dX3_draw_7 rfl ?_
  refine x_iconst F (nI 1) dX3_draw_10 (by decide) ?_
  refine x_icmp_eq F 24 dX3_draw_11 (by decide) (fun c11 => ?_) (fun c11 => ?_)
  · have c11 := (nI_eq (by omega) (by omega)).mp c11
    have hcd : cdSt σ (nI r) 1 = 0 := by (unfold cdSt; rw [if_neg (by rw [hin9]; exact Bool.noConfusion), cl_nI (n := r) (by omega)]; exact if_neg (by omega))
    refine x_iconst F (nI 0) dX3_draw_24 (by decide) ?_
    refine x_istore_n F [(3, .int (nI (0))), (2, .ref (A (30 + r))), (0, .ref (A 0)), (1, .int (nI (r)))] dX3_draw_25 (by decide) rfl ?_
    refine x_iconst F (nI 0) dX3_draw_26 (by decide) ?_
    refine x_istore F [(4, .int (nI (0))), (3, .int (nI (0))), (2, .ref (A (30 + r))), (0, .ref (A 0)), (1, .int (nI (r)))] dX3_draw_27 (by decide) rfl ?_
    refine x_sub [0, 1, 2, 3] rfl (L' := [(4, .int (nI (0))), (3, .int (nI (0))), (2, .ref (A (30 + r))), (0, .ref (A 0))]) ?_
    have LP29 : ∀ i, i ≤ (σ.1 11 r) → ∀ (Mi29 : MM), CM g A M0 (drP σ r i) Mi29 → ∀ (v29_3 : Int32) (v29_4 : Int32), v29_3 = nI (drN σ r i) → v29_4 = nI (i) → XW K g 5 Q Mi29 1 6 29 [(4, .int (v29_4)), (3, .int (v29_3)), (2, .ref (A (30 + r))), (0, .ref (A 0))] [] := by
      refine x_loop ((σ.1 11 r)) _ (fun i hi ihi => ?_)
      intro Mi29 hR29 v29_3 v29_4 e29_3 e29_4
      subst e29_3
      subst e29_4
      have KN : ∀ s9 q9, ¬ s9 = 24 → ¬ s9 = 30 → ¬ s9 = 42 → (drP σ r i).1 s9 q9 = σ.1 s9 q9 := fun s9 q9 h1 h2 h3 => congrFun (drP_N ⟨h1, h2, h3⟩ i) q9
      have KR : ∀ s9 q9, ¬ s9 = 23 → (drP σ r i).2.1 s9 q9 = σ.2.1 s9 q9 := fun s9 q9 h1 => congrFun (drP_R h1 i) q9
      have K18 := KN 18 0 (by decide) (by decide) (by decide)
      have K17 := KN 17 r (by decide) (by decide) (by decide)
      have hWi : IW (drP σ r i) := IW_of (fun s9 q9 h9 => KN s9 q9 (by omega) (by omega) (by omega)) hW
      have hBi : Bd (drP σ r i) := Bd_drP hB i
      refine x_iload F 0 dX3_draw_29 rfl ?_
      refine x_aload_n F 2 dX3_draw_31 rfl ?_
      refine x_fget F f_X3_100 (hR29.r (by omega : r < (drP σ r i).1 18 0) (by omega)) (v := .int (nI ((drP σ r i).1 11 r))) dX3_draw_32 rfl ?_
      refine x_ri0 (y := nI (σ.1 11 r)) (by simp [whA, whS, KN, KR]) ?_
      refine x_icmp_ge F 54 dX3_draw_35 (by decide) (fun c35 => ?_) (fun c35 => ?_)
      · have c35 := (nI_leI (by omega) (by omega)).mp c35
        have c35b := Nat.not_lt.mpr c35
        have h9 : i = σ.1 11 r := by omega
        refine x_aload_n F 2 dX3_draw_54 rfl ?_
        refine x_iconst F (nI 2) dX3_draw_55 (by decide) ?_
        refine x_pX2_9 F hR29 (r := r) (by omega : r < (drP σ r i).1 18 0) (by omega) p_X3_79 dX3_draw_56 (fun M1 hR1 => ?_)
        refine x_iload_n F 1 dX3_draw_59 rfl ?_
        rw [hQ]
        exact x_iret F dX3_draw_60 (by decide) ⟨_, rfl, hcd, by rw [cl_nI (n := r) (by omega), h9], by rw [cl_nI (n := r) (by omega)]; unfold drnU; rw [← h9]; exact hR1⟩
      · have c35 := mt (nI_leI (by omega) (by omega)).mpr c35
        have c35b := Nat.not_le.mp c35
        refine x_iload_n F 1 dX3_draw_38 rfl ?_
        refine x_aload_n F 3 dX3_draw_39 rfl ?_
        refine x_aload_n F 2 dX3_draw_40 rfl ?_
        refine x_iload F 0 dX3_draw_41 rfl ?_
        refine x_callV F s_X3_159 hR29.c rfl rfl (c_X3_mountAll F.nt hR29 hBi hWi (by omega) (by omega)) rfl dX3_draw_43 (by decide) (by decide) (Nat.le_of_ble_eq_true rfl) x_noX (ki fun r9 M9 hp9 => ?_)
        obtain ⟨rfl, hR9⟩ := hp9
        refine x_iaddN F dX3_draw_46 ?_
        refine x_istore_n F [(3, .int (nI ((drN σ r i) + (moN (drP σ r i) r i ((drP σ r i).1 17 r))))), (4, .int (nI (i))), (2, .ref (A (30 + r))), (0, .ref (A 0))] dX3_draw_47 (by decide) rfl ?_
        refine x_iinc F 1 [(4, .int (nI (i + 1))), (3, .int (nI ((drN σ r i) + (moN (drP σ r i) r i ((drP σ r i).1 17 r))))), (2, .ref (A (30 + r))), (0, .ref (A 0))] dX3_draw_48 rfl (iincN (i) 1) (by decide) rfl ?_
        refine x_goto F 29 dX3_draw_51 (by decide) ?_
        exact ihi (by omega) _ (by (have e9 : drP σ r (i + 1) = drE (drP σ r i) r i (σ.1 17 r) := rfl); rw [e9, ← K17]; exact hR9) _ _ (by (show _ = nI (drN σ r i + moN (drP σ r i) r i (σ.1 17 r))); rw [K17]) (rfl)
    exact LP29 0 (by omega) _ hR _ _ (rfl) (rfl)
  · have c11 := mt (nI_eq (by omega) (by omega)).mpr c11
    rw [hQ]
    exact x_throw F th_IS (text := "not closed") (by decide +kernel) dX3_draw_14 dX3_draw_17 dX3_draw_18 dX3_draw_20 dX3_draw_23 ⟨by decide, Nat.le_of_ble_eq_true rfl, by decide, by decide⟩ (⟨rfl, Or.inr ⟨rfl, (by unfold cdSt; rw [if_neg (by rw [hin9]; exact Bool.noConfusion), cl_nI (n := r) (by omega)]; exact if_pos c11)⟩⟩)
set_option maxHeartbeats 4000000 in
set_option maxRecDepth 100000 in
theorem c_X3_close {l : Launch} (hl : l.stackTraces = false) {g : GP} {M : MM} {A : Nat → Nat} {M0 : MM} {σ : ST} {x0 : Int32} (hR : CM g A M0 σ M) (hB : Bd σ) (hW : IW σ) (hD : ID σ) (hwi : ∀ k, k < 96 → σ.1 41 k = 1 → (σ.1 20 k).testBit (σ.1 21 k) = true) : CT l g yX3_close cX3_close 5 (some .int) 7 189 2 12 [.ref (A 0), .int (x0)] M (pI (fun r9 M9 => cdSt σ x0 0 = 0 ∧ nI (plIn (clU σ (cl x0)) (cl x0)) = r9 ∧ CM g A M0 (clU σ (cl x0)) M9)) (fun E M9 => M = M9 ∧ xp2 E (cdSt σ x0 0) sIO sIS) := by
  refine ct_of [(0, .ref (A 0)), (1, .int (x0))] (by decide) hl (Nat.le_of_ble_eq_true rfl) rfl ?_
  intro K hK F
  subst hK
  have F : Fx K g cX3_close RX3 5 (some .int) [] 7 189 2 12 := F
  obtain ⟨Q, hQ⟩ : ∃ Q, Q = MQx K g (pI (fun r9 M9 => cdSt σ x0 0 = 0 ∧ nI (plIn (clU σ (cl x0)) (cl x0)) = r9 ∧ CM g A M0 (clU σ (cl x0)) M9)) ((fun E M9 => M = M9 ∧ xp2 E (cdSt σ x0 0) sIO sIS)) 2 12 := ⟨_, rfl⟩
  rw [← hQ]
  have hB9 := hB
  obtain ⟨h6, h7, h18, hr8, hk96, hp96, hb16, hh⟩ := hB9
  refine x_aload_n F 0 dX3_close_0 rfl ?_
  refine x_iload_n F 1 dX3_close_1 rfl ?_
  rw [hQ]
  refine x_callV F s_X3_75 hR.c rfl rfl (c_X3_rodeoAt F.nt hR hB) rfl dX3_close_2 (by decide) (by decide) (Nat.le_of_ble_eq_true rfl) (x_outX F (by decide) (by rintro E M9 ⟨k1, k2, k3⟩; exact ⟨k3, (Or.inl ⟨k1, (if_pos k2)⟩)⟩)) (kr fun r9 M9 hp9 => ?_)
  rw [← hQ]
  obtain ⟨hin9, rfl, rfl⟩ := hp9
  obtain ⟨r, hr, rfl⟩ := inN_t (by omega) hin9
  rw [cl_nI (n := r) (by omega)]
  have b1 := hr8 r (by omega)
  refine x_astore_n F [(2, .ref (A (30 + r))), (0, .ref (A 0)), (1, .int (nI (r)))] dX3_close_5 (by decide) rfl ?_
  refine x_aload_n F 0 dX3_close_6 rfl ?_
  refine x_fget F f_X3_79 (hR.r (by omega : r < σ.1 18 0) (by omega)) (v := .int (nI (σ.1 15 r))) dX3_close_7 rfl ?_
  refine x_if_eq F 23 dX3_close_10 (by decide) (fun c10 => ?_) (fun c10 => ?_)
  · have c10 := (nI_z (by omega)).mp c10
    have hcd : cdSt σ (nI r) 0 = 0 := by (unfold cdSt; rw [if_neg (by rw [hin9]; exact Bool.noConfusion), cl_nI (n := r) (by omega)]; exact if_neg (by omega))
    refine x_iconst F (nI 0) dX3_close_23 (by decide) ?_
    refine x_istore_n F [(3, .int (nI (0))), (2, .ref (A (30 + r))), (0, .ref (A 0)), (1, .int (nI (r)))] dX3_close_24 (by decide) rfl ?_
    refine x_sub [0, 1, 2] rfl (L' := [(3, .int (nI (0))), (2, .ref (A (30 + r))), (0, .ref (A 0))]) ?_
    have LP25 : ∀ i, i ≤ (σ.1 17 r) → ∀ (Mi25 : MM), CM g A M0 (clE σ r i) Mi25 → ∀ (v25_3 : Int32), v25_3 = nI (i) → XW K g 5 Q Mi25 1 6 25 [(3, .int (v25_3)), (2, .ref (A (30 + r))), (0, .ref (A 0))] [] := by
      refine x_loop ((σ.1 17 r)) _ (fun i hi ihi => ?_)
      intro Mi25 hR25 v25_3 e25_3
      subst e25_3
      have KN : (clE σ r i).1 = σ.1 := clE_1 i
      have KR : ∀ s9 q9, ¬ s9 = 22 → (clE σ r i).2.1 s9 q9 = σ.2.1 s9 q9 := fun s9 q9 h1 => congrFun (clE_R h1 i) q9
      have K18 : (clE σ r i).1 18 0 = σ.1 18 0 := by rw [KN]
      have K17 : (clE σ r i).1 17 r = σ.1 17 r := by rw [KN]
      have hWi : IW (clE σ r i) := IW_of (fun s9 q9 h9 => by rw [KN]) hW
      have hBi : Bd (clE σ r i) := Bd_cl hB (by omega) i (by omega)
      have hDi : ID (clE σ r i) := ID_cl hW hD hr i (by omega)
      refine x_iload_n F 0 dX3_close_25 rfl ?_
      refine x_aload_n F 1 dX3_close_26 rfl ?_
      refine x_fget F f_X3_82 (hR25.r (by omega : r < (clE σ r i).1 18 0) (by omega)) (v := .ref (A (40 + r))) dX3_close_27 rfl ?_
      refine x_callV F s_X3_37 (hR25.l (by omega : r < (clE σ r i).1 18 0) (by omega)) rfl rfl (c_lsize F.nt (hR25.l (by omega : r < (clE σ r i).1 18 0) (by omega))) rfl dX3_close_30 (by decide) (by decide) (Nat.le_of_ble_eq_true rfl) x_noX (ki fun r_2 M2_2 hp_2 => ?_)
      obtain ⟨rfl, rfl⟩ := hp_2
      refine x_ri0 (y := nI (σ.1 17 r)) (by simp [whA, whS, KN, KR]) ?_
      refine x_icmp_ge F 67 dX3_close_33 (by decide) (fun c33 => ?_) (fun c33 => ?_)
      · have c33 := (nI_leI (by omega) (by omega)).mp c33
        have c33b := Nat.not_lt.mpr c33
        have h9 : i = σ.1 17 r := by omega
        have hB8 : Bd (uN (clE σ r i) 15 r 1) := Bd_st hBi (by decide)
        refine x_aload_n F 1 dX3_close_67 rfl ?_
        refine x_iconst F (nI 1) dX3_close_68 (by decide) ?_
        refine x_pX2_9 F hR25 (r := r) (by omega : r < (clE σ r i).1 18 0) (by omega) p_X3_79 dX3_close_69 (fun M1 hR1 => ?_)
        have hW8 : IW (uN (clE σ r i) 15 r 1) := IW_of (fun s9 q9 h9 => if_neg (fun z => by omega)) hWi
        have hD8 : ID (uN (clE σ r i) 15 r 1) := hDi
        have K18b : (uN (clE σ r i) 15 r 1).1 18 0 = σ.1 18 0 := K18
        refine x_aload_n F 1 dX3_close_72 rfl ?_
        refine x_callV F s_X3_85 (hR1.r (by omega : r < (clE σ r i).1 18 0) (by omega)) rfl rfl (c_X2_countPlaced F.nt hR1 hB8 hW8 hD8 (by omega)) rfl dX3_close_73 (by decide) (by decide) (Nat.le_of_ble_eq_true rfl) x_noX (ki fun r_3 M2_3 hp_3 => ?_)
        obtain ⟨rfl, rfl⟩ := hp_3
        rw [hQ]
        exact x_iret F dX3_close_76 (by decide) ⟨_, rfl, hcd, by rw [cl_nI (n := r) (by omega)]; unfold clU; rw [← h9], by rw [cl_nI (n := r) (by omega)]; unfold clU; rw [← h9]; exact hR1⟩
      · have c33 := mt (nI_leI (by omega) (by omega)).mpr c33
        have c33b := Nat.not_le.mp c33
        refine x_aload_n F 1 dX3_close_36 rfl ?_
        refine x_fget F f_X3_82 (hR25.r (by omega : r < (clE σ r i).1 18 0) (by omega)) (v := .ref (A (40 + r))) dX3_close_37 rfl ?_
        refine x_iload_n F 0 dX3_close_40 rfl ?_
        refine x_callV F s_X3_124 (hR25.l (by omega : r < (clE σ r i).1 18 0) (by omega)) rfl rfl (c_lget F.nt (hR25.l (by omega : r < (clE σ r i).1 18 0) (by omega)) (fun h0 => hR25.d (by omega : r < (clE σ r i).1 18 0) (by omega) h0) (by omega : i < (clE σ r i).1 17 r) (by omega : (clE σ r i).1 17 r ≤ 22)) rfl dX3_close_41 (by decide) (by decide) (Nat.le_of_ble_eq_true rfl) x_noX (kr fun r_4 M2_4 hp_4 => ?_)
        obtain ⟨rfl, rfl⟩ := hp_4
        have w9 := (hW r (by omega : r < σ.1 18 0)).1 i (by omega : i < σ.1 17 r)
        refine x_rr0 (y := A (100 + (12 * r + whS σ r i))) (by simp [whA, whS, KN, KR]) ?_
        refine x_cast F (hR25.e ((congrFun (congrFun KN 41) _).trans w9.2) (by omega)) rfl l_X3_113 dX3_close_44 ?_
        refine x_astore F [(4, .ref (A (100 + (12 * r + whS σ r i)))), (3, .int (nI (i))), (2, .ref (A (30 + r))), (0, .ref (A 0))] dX3_close_47 (by decide) rfl ?_
        refine x_aload F 0 dX3_close_49 rfl ?_
        refine x_aload_n F 3 dX3_close_51 rfl ?_
        refine x_aload_n F 2 dX3_close_52 rfl ?_
        refine x_aload F 0 dX3_close_53 rfl ?_
        refine x_callV F s_X3_128 hR25.c rfl rfl (c_X3_performanceFor F.nt hR25 hBi hWi hDi (by omega) (rfl) (by omega) (((congrFun (congrFun KN 41) _).trans w9.2)) (by rw [KN]; exact hwi (12 * r + whS σ r i) (by omega) w9.2) (j := (whS σ r i))) rfl dX3_close_55 (by decide) (by decide) (Nat.le_of_ble_eq_true rfl) x_noX (ki fun r_5 M2_5 hp_5 => ?_)
        obtain ⟨rfl, rfl⟩ := hp_5
        refine x_pX1_3 F hR25 (k := 12 * r + whS σ r i) ((congrFun (congrFun KN 41) _).trans w9.2) (by omega) p_X3_132 dX3_close_58 (fun M1_2 hR1_2 => ?_)
        refine x_iinc F 1 [(3, .int (nI (i + 1))), (4, .ref (A (100 + (12 * r + whS σ r i)))), (2, .ref (A (30 + r))), (0, .ref (A 0))] dX3_close_61 rfl (iincN (i) 1) (by decide) rfl ?_
        refine x_goto F 25 dX3_close_64 (by decide) ?_
        refine x_sub [0, 2, 3] rfl (L' := [(3, .int (nI (i + 1))), (2, .ref (A (30 + r))), (0, .ref (A 0))]) ?_
        exact ihi (by omega) _ (by rw [clE_s]; exact hR1_2) _ (rfl)
    exact LP25 0 (by omega) _ hR _ (rfl)
  · have c10 := mt (nI_z (by omega)).mpr c10
    rw [hQ]
    exact x_throw F th_IS (text := "not open") (by decide +kernel) dX3_close_13 dX3_close_16 dX3_close_17 dX3_close_19 dX3_close_22 ⟨by decide, Nat.le_of_ble_eq_true rfl, by decide, by decide⟩ (⟨rfl, Or.inr ⟨rfl, (by unfold cdSt; rw [if_neg (by rw [hin9]; exact Bool.noConfusion), cl_nI (n := r) (by omega)]; exact if_pos c10)⟩⟩)
