/-! the law's looks at one rider in a rodeo, and at a rodeo -/
theorem x_L {K : KX} {g : GP} {nL : Nat} {Q : State → Prop} {M : MM} {a b pc : Nat} {L L' : List (Nat × Value)} {st : List Value} (h : L = L') (kk : XW K g nL Q M a b pc L' st) : XW K g nL Q M a b pc L st := h ▸ kk
theorem nI_ge0 {n : Nat} (h : n < 2 ^ 31) : (0 : Int32) ≤ nI n := (nI_leI (a := 0) (by decide) h).mpr (Nat.zero_le _)
set_option maxHeartbeats 4000000 in
set_option maxRecDepth 100000 in
theorem q_isPlace {l : Launch} (hl : l.stackTraces = false) {g : GP} {M : MM} {A : Nat → Nat} {M0 : MM} {σ : ST} {c o : Nat} {r j : Nat} (ho : A 0 = o) (hR : CM g A M0 σ M) (hJ : IJ c σ) (hr : r < σ.1 18 0) (hj : j < σ.1 7 0) : CT l g yL_isPlace cL_isPlace 9 (some .boolean) 9 200 12 72 [.ref (o), .int (nI (r)), .int (nI (j))] M (pI (fun r9 M9 => nI (1) = r9 ∧ M = M9)) nX := by
  refine ct_of [(0, .ref (o)), (1, .int (nI (r))), (2, .int (nI (j)))] (by decide) hl (Nat.le_of_ble_eq_true rfl) rfl ?_
  intro K hK F
  subst hK
  have F : Fx K g cL_isPlace RL 9 (some .boolean) [] 9 200 12 72 := F
  obtain ⟨Q, hQ⟩ : ∃ Q, Q = MQx K g (pI (fun r9 M9 => nI (1) = r9 ∧ M = M9)) nX 12 72 := ⟨_, rfl⟩
  rw [← hQ]
  have h6 := hJ.1.B.1
  have h7 := hJ.1.B.2.1
  have h18 := hJ.1.B.2.2.1
  have j12 : j < 12 := by omega
  obtain ⟨p1, p2, p3⟩ := lo_or (by decide) (v22 hJ hr j12)
  obtain ⟨b1, b2, b3⟩ := lo_or (by decide) (v23 hJ hr j12)
  obtain ⟨s1, s2, s3⟩ := lo_or (by decide) (v28' hJ hr j12)
  obtain ⟨e1, e2, e3, e4, e5, e6, e7, e8, e9⟩ := hJ.2.1 r j hr j12
  have t3 := (hJ.1.B.2.2.2.1 r (by omega)).2.2.2.2.2.2.1
  have m29 := (hJ.1.B.2.2.2.2.1 (12 * r + j) (by omega)).2.2.2.2.2.2.2
  refine x_aload_n F 0 dL_isPlace_0 rfl ?_
  refine x_iload_n F 1 dL_isPlace_1 rfl ?_
  refine x_iconst F (nI 0) dL_isPlace_2 (by decide) ?_
  refine x_callV F s_L_17 (hR.co ho) rfl rfl (q_ro0 F.nt ho hR hJ.1 (by omega)) rfl dL_isPlace_3 (by decide) (by decide) (Nat.le_of_ble_eq_true rfl) x_noX (ki fun r M2 hp => ?_)
  obtain ⟨rfl, rfl⟩ := hp
  refine x_istore_n F [(3, .int (nI (σ.1 15 r))), (0, .ref (o)), (1, .int (nI (r))), (2, .int (nI (j)))] dL_isPlace_6 (by decide) rfl ?_
  refine x_aload_n F 1 dL_isPlace_7 rfl ?_
  refine x_iload_n F 2 dL_isPlace_8 rfl ?_
  refine x_iload_n F 3 dL_isPlace_9 rfl ?_
  refine x_callV F s_L_28 (hR.co ho) rfl rfl (q_placed F.nt ho hR hJ.1 (by omega) (by omega)) rfl dL_isPlace_10 (by decide) (by decide) (Nat.le_of_ble_eq_true rfl) x_noX (ki fun r_2 M2_2 hp_2 => ?_)
  obtain ⟨rfl, rfl⟩ := hp_2
  refine x_istore F [(4, .int (σ.2.1 22 (12 * r + j))), (3, .int (nI (σ.1 15 r))), (0, .ref (o)), (1, .int (nI (r))), (2, .int (nI (j)))] dL_isPlace_13 (by decide) rfl ?_
  refine x_aload_n F 2 dL_isPlace_15 rfl ?_
  refine x_iload_n F 3 dL_isPlace_16 rfl ?_
  refine x_iload_n F 4 dL_isPlace_17 rfl ?_
  refine x_callV F s_L_37 (hR.co ho) rfl rfl (q_drawn F.nt ho hR hJ.1 (by omega) (by omega)) rfl dL_isPlace_18 (by decide) (by decide) (Nat.le_of_ble_eq_true rfl) x_noX (ki fun r_3 M2_3 hp_3 => ?_)
  obtain ⟨rfl, rfl⟩ := hp_3
  refine x_istore F [(5, .int (σ.2.1 23 (12 * r + j))), (4, .int (σ.2.1 22 (12 * r + j))), (3, .int (nI (σ.1 15 r))), (0, .ref (o)), (1, .int (nI (r))), (2, .int (nI (j)))] dL_isPlace_21 (by decide) rfl ?_
  refine x_aload_n F 3 dL_isPlace_23 rfl ?_
  refine x_iload_n F 4 dL_isPlace_24 rfl ?_
  refine x_iload_n F 5 dL_isPlace_25 rfl ?_
  refine x_callV F s_L_48 (hR.co ho) rfl rfl (q_score F.nt ho hR hJ.1 (by omega) (by omega)) rfl dL_isPlace_26 (by decide) (by decide) (Nat.le_of_ble_eq_true rfl) x_noX (ki fun r_4 M2_4 hp_4 => ?_)
  obtain ⟨rfl, rfl⟩ := hp_4
  refine x_istore F [(6, .int (σ.2.1 28 (12 * r + j))), (5, .int (σ.2.1 23 (12 * r + j))), (4, .int (σ.2.1 22 (12 * r + j))), (3, .int (nI (σ.1 15 r))), (0, .ref (o)), (1, .int (nI (r))), (2, .int (nI (j)))] dL_isPlace_29 (by decide) rfl ?_
  refine x_aload_n F 4 dL_isPlace_31 rfl ?_
  refine x_iload_n F 5 dL_isPlace_32 rfl ?_
  refine x_iload_n F 6 dL_isPlace_33 rfl ?_
  refine x_callV F s_L_57 (hR.co ho) rfl rfl (q_got F.nt ho hR hJ.1 (by omega) (by omega)) rfl dL_isPlace_34 (by decide) (by decide) (Nat.le_of_ble_eq_true rfl) x_noX (ki fun r_5 M2_5 hp_5 => ?_)
  obtain ⟨rfl, rfl⟩ := hp_5
  refine x_istore F [(7, .int (nI (σ.1 29 (12 * r + j)))), (6, .int (σ.2.1 28 (12 * r + j))), (5, .int (σ.2.1 23 (12 * r + j))), (4, .int (σ.2.1 22 (12 * r + j))), (3, .int (nI (σ.1 15 r))), (0, .ref (o)), (1, .int (nI (r))), (2, .int (nI (j)))] dL_isPlace_37 (by decide) rfl ?_
  refine x_aload_n F 5 dL_isPlace_39 rfl ?_
  refine x_iload_n F 6 dL_isPlace_40 rfl ?_
  refine x_iload_n F 7 dL_isPlace_41 rfl ?_
  refine x_callV F s_L_40 (hR.co ho) rfl rfl (q_isOffered F.nt ho hR hJ.1 (by omega) (by omega)) rfl dL_isPlace_42 (by decide) (by decide) (Nat.le_of_ble_eq_true rfl) x_noX (ki fun r_6 M2_6 hp_6 => ?_)
  obtain ⟨rfl, rfl⟩ := hp_6
  refine x_istore F [(8, .int (nI (bz (decide (¬ σ.1 26 (12 * r + j) = 0))))), (7, .int (nI (σ.1 29 (12 * r + j)))), (6, .int (σ.2.1 28 (12 * r + j))), (5, .int (σ.2.1 23 (12 * r + j))), (4, .int (σ.2.1 22 (12 * r + j))), (3, .int (nI (σ.1 15 r))), (0, .ref (o)), (1, .int (nI (r))), (2, .int (nI (j)))] dL_isPlace_45 (by decide) rfl ?_
  refine x_iload F 4 dL_isPlace_47 rfl ?_
  refine x_iconst F ((-1)) dL_isPlace_49 (by decide) ?_
  refine x_icmp_lt F 165 dL_isPlace_50 (by decide) (fun c50 => ?_) (fun c50 => ?_)
  · exact absurd c50 p1
  · refine x_iload F 4 dL_isPlace_53 rfl ?_
    refine x_iconst F (nI 4) dL_isPlace_55 (by decide) ?_
    refine x_icmp_ge F 165 dL_isPlace_56 (by decide) (fun c56 => ?_) (fun c56 => ?_)
    · by_cases z : σ.2.1 22 (12 * r + j) = -1
      · rw [z] at c56; exact absurd c56 (by decide)
      · obtain ⟨q, hq, e⟩ := p3 z
        rw [e] at c56
        have := (nI_leI (by decide) (by omega)).mp c56
        omega
    · have J69 : XW K g 9 Q M 12 72 69 [(8, .int (nI (bz (decide (¬ σ.1 26 (12 * r + j) = 0))))), (7, .int (nI (σ.1 29 (12 * r + j)))), (6, .int (σ.2.1 28 (12 * r + j))), (5, .int (σ.2.1 23 (12 * r + j))), (4, .int (σ.2.1 22 (12 * r + j))), (3, .int (nI (σ.1 15 r))), (0, .ref (o)), (1, .int (nI (r))), (2, .int (nI (j)))] [] := by
        have J80 : XW K g 9 Q M 12 72 80 [(8, .int (nI (bz (decide (¬ σ.1 26 (12 * r + j) = 0))))), (7, .int (nI (σ.1 29 (12 * r + j)))), (6, .int (σ.2.1 28 (12 * r + j))), (5, .int (σ.2.1 23 (12 * r + j))), (4, .int (σ.2.1 22 (12 * r + j))), (3, .int (nI (σ.1 15 r))), (0, .ref (o)), (1, .int (nI (r))), (2, .int (nI (j)))] [] := by
          have J91 : XW K g 9 Q M 12 72 91 [(8, .int (nI (bz (decide (¬ σ.1 26 (12 * r + j) = 0))))), (7, .int (nI (σ.1 29 (12 * r + j)))), (6, .int (σ.2.1 28 (12 * r + j))), (5, .int (σ.2.1 23 (12 * r + j))), (4, .int (σ.2.1 22 (12 * r + j))), (3, .int (nI (σ.1 15 r))), (0, .ref (o)), (1, .int (nI (r))), (2, .int (nI (j)))] [] := by
            have J102 : XW K g 9 Q M 12 72 102 [(8, .int (nI (bz (decide (¬ σ.1 26 (12 * r + j) = 0))))), (7, .int (nI (σ.1 29 (12 * r + j)))), (6, .int (σ.2.1 28 (12 * r + j))), (5, .int (σ.2.1 23 (12 * r + j))), (4, .int (σ.2.1 22 (12 * r + j))), (3, .int (nI (σ.1 15 r))), (0, .ref (o)), (1, .int (nI (r))), (2, .int (nI (j)))] [] := by
              refine x_iload F 2 dL_isPlace_102 rfl ?_
              refine x_iconst F ((-1)) dL_isPlace_104 (by decide) ?_
              refine x_icmp_lt F 165 dL_isPlace_105 (by decide) (fun c105 => ?_) (fun c105 => ?_)
              · exact absurd c105 s1
              · refine x_iload F 2 dL_isPlace_108 rfl ?_
                refine x_bipush F (nI 100) dL_isPlace_110 (by decide) ?_
                refine x_icmp_gt F 165 dL_isPlace_112 (by decide) (fun c112 => ?_) (fun c112 => ?_)
                · by_cases z : σ.2.1 28 (12 * r + j) = -1
                  · rw [z] at c112; exact absurd c112 (by decide)
                  · obtain ⟨q, hq, e⟩ := s3 z
                    rw [e] at c112
                    have := (nI_ltI (by decide) (by omega)).mp c112
                    omega
                · have J130 : XW K g 9 Q M 12 72 130 [(8, .int (nI (bz (decide (¬ σ.1 26 (12 * r + j) = 0))))), (7, .int (nI (σ.1 29 (12 * r + j)))), (6, .int (σ.2.1 28 (12 * r + j))), (5, .int (σ.2.1 23 (12 * r + j))), (4, .int (σ.2.1 22 (12 * r + j))), (3, .int (nI (σ.1 15 r))), (0, .ref (o)), (1, .int (nI (r))), (2, .int (nI (j)))] [] := by
                    have J145 : XW K g 9 Q M 12 72 145 [(8, .int (nI (bz (decide (¬ σ.1 26 (12 * r + j) = 0))))), (7, .int (nI (σ.1 29 (12 * r + j)))), (6, .int (σ.2.1 28 (12 * r + j))), (5, .int (σ.2.1 23 (12 * r + j))), (4, .int (σ.2.1 22 (12 * r + j))), (3, .int (nI (σ.1 15 r))), (0, .ref (o)), (1, .int (nI (r))), (2, .int (nI (j)))] [] := by
                      have J161 : XW K g 9 Q M 12 72 161 [(8, .int (nI (bz (decide (¬ σ.1 26 (12 * r + j) = 0))))), (7, .int (nI (σ.1 29 (12 * r + j)))), (6, .int (σ.2.1 28 (12 * r + j))), (5, .int (σ.2.1 23 (12 * r + j))), (4, .int (σ.2.1 22 (12 * r + j))), (3, .int (nI (σ.1 15 r))), (0, .ref (o)), (1, .int (nI (r))), (2, .int (nI (j)))] [] := by
                        refine x_iconst F (nI 1) dL_isPlace_161 (by decide) ?_
                        refine x_goto F 166 dL_isPlace_162 (by decide) ?_
                        rw [hQ]
                        exact x_zret F dL_isPlace_166 (by decide) (Or.inr rfl) ⟨_, rfl, rfl, rfl⟩
                      refine x_iload_n F 5 dL_isPlace_145 rfl ?_
                      refine x_iconst F (nI 3) dL_isPlace_146 (by decide) ?_
                      refine x_icmp_lt F 161 dL_isPlace_147 (by decide) (fun c147 => ?_) (fun c147 => ?_)
                      · have c147 := (nI_ltI (by omega) (by omega)).mp c147
                        have c147b := Nat.not_le.mpr c147
                        exact J161  
                      · have c147 := mt (nI_ltI (by omega) (by omega)).mpr c147
                        have c147b := Nat.not_lt.mp c147
                        refine x_iload F 3 dL_isPlace_150 rfl ?_
                        refine x_iconst F ((-1)) dL_isPlace_152 (by decide) ?_
                        refine x_icmp_eq F 161 dL_isPlace_153 (by decide) (fun c153 => ?_) (fun c153 => ?_)
                        · exact J161  
                        · refine x_iload F 2 dL_isPlace_156 rfl ?_
                          refine x_if_lt F 165 dL_isPlace_158 (by decide) (fun c158 => ?_) (fun c158 => ?_)
                          · refine absurd c158 (s2 (fun z => ?_))
                            have := (e5 (e4 c153 z)).2.1
                            omega
                          · exact J161  
                    refine x_iload F 0 dL_isPlace_130 rfl ?_
                    refine x_if_eq F 145 dL_isPlace_132 (by decide) (fun c132 => ?_) (fun c132 => ?_)
                    · have c132 := nI_bz0.mp c132
                      exact J145  
                    · have c132 := nI_bz1.mp c132
                      refine x_iload_n F 5 dL_isPlace_135 rfl ?_
                      refine x_iconst F (nI 2) dL_isPlace_136 (by decide) ?_
                      refine x_icmp_ne F 165 dL_isPlace_137 (by decide) (fun c137 => ?_) (fun c137 => ?_)
                      · have c137 := mt (nI_eq (by omega) (by omega)).mpr c137
                        exact absurd (e7 (of_decide_eq_true c132)).1 c137
                      · have c137 := (nI_eq (by omega) (by omega)).mp c137
                        refine x_iload F 2 dL_isPlace_140 rfl ?_
                        refine x_if_lt F 165 dL_isPlace_142 (by decide) (fun c142 => ?_) (fun c142 => ?_)
                        · exact absurd c142 (s2 (e7 (of_decide_eq_true c132)).2)
                        · exact J145  
                  refine x_iload F 1 dL_isPlace_115 rfl ?_
                  refine x_if_eq F 130 dL_isPlace_117 (by decide) (fun c117 => ?_) (fun c117 => ?_)
                  · have c117 := (nI_z (by omega)).mp c117
                    exact J130  
                  · have c117 := mt (nI_z (by omega)).mpr c117
                    refine x_iload_n F 5 dL_isPlace_120 rfl ?_
                    refine x_iconst F (nI 3) dL_isPlace_121 (by decide) ?_
                    refine x_icmp_ne F 165 dL_isPlace_122 (by decide) (fun c122 => ?_) (fun c122 => ?_)
                    · have c122 := mt (nI_eq (by omega) (by omega)).mpr c122
                      exact absurd (e9 c117).1 c122
                    · have c122 := (nI_eq (by omega) (by omega)).mp c122
                      refine x_iload F 2 dL_isPlace_125 rfl ?_
                      refine x_if_lt F 165 dL_isPlace_127 (by decide) (fun c127 => ?_) (fun c127 => ?_)
                      · exact absurd c127 (s2 (e9 c117).2)
                      · exact J130  
            refine x_iload F 2 dL_isPlace_91 rfl ?_
            refine x_iconst F ((-1)) dL_isPlace_93 (by decide) ?_
            refine x_icmp_eq F 102 dL_isPlace_94 (by decide) (fun c94 => ?_) (fun c94 => ?_)
            · exact J102  
            · refine x_iload F 3 dL_isPlace_97 rfl ?_
              refine x_if_lt F 165 dL_isPlace_99 (by decide) (fun c99 => ?_) (fun c99 => ?_)
              · exact absurd c99 (b2 (e6 c94))
              · exact J102  
          refine x_iload F 3 dL_isPlace_80 rfl ?_
          refine x_iconst F ((-1)) dL_isPlace_82 (by decide) ?_
          refine x_icmp_eq F 91 dL_isPlace_83 (by decide) (fun c83 => ?_) (fun c83 => ?_)
          · exact J91  
          · refine x_iload F 4 dL_isPlace_86 rfl ?_
            refine x_if_lt F 165 dL_isPlace_88 (by decide) (fun c88 => ?_) (fun c88 => ?_)
            · exact absurd c88 (p2 (e3 c83).2.1)
            · exact J91  
        refine x_iload_n F 5 dL_isPlace_69 rfl ?_
        refine x_iconst F (nI 1) dL_isPlace_70 (by decide) ?_
        refine x_icmp_gt F 80 dL_isPlace_71 (by decide) (fun c71 => ?_) (fun c71 => ?_)
        · have c71 := (nI_ltI (by omega) (by omega)).mp c71
          have c71b := Nat.not_le.mpr c71
          exact J80  
        · have c71 := mt (nI_ltI (by omega) (by omega)).mpr c71
          have c71b := Nat.not_lt.mp c71
          refine x_iload F 3 dL_isPlace_74 rfl ?_
          refine x_iconst F ((-1)) dL_isPlace_76 (by decide) ?_
          refine x_icmp_ne F 165 dL_isPlace_77 (by decide) (fun c77 => ?_) (fun c77 => ?_)
          · have := (e3 c77).2.2; omega
          · exact J80  
      refine x_iload_n F 5 dL_isPlace_59 rfl ?_
      refine x_if_gt F 69 dL_isPlace_60 (by decide) (fun c60 => ?_) (fun c60 => ?_)
      · have c60 := mt (nI_le0 (by omega)).mpr (Int32.not_le.mpr c60)
        have c60b := Nat.pos_of_ne_zero c60
        exact J69  
      · have c60 := (nI_le0 (by omega)).mp (Int32.not_lt.mp c60)
        have c60b := Nat.not_lt.mpr (Nat.le_zero.mpr c60)
        refine x_iload F 4 dL_isPlace_63 rfl ?_
        refine x_iconst F ((-1)) dL_isPlace_65 (by decide) ?_
        refine x_icmp_ne F 165 dL_isPlace_66 (by decide) (fun c66 => ?_) (fun c66 => ?_)
        · exact absurd (e2 (by omega)) c66
        · exact J69  
set_option maxHeartbeats 4000000 in
set_option maxRecDepth 100000 in
theorem q_isRodeo {l : Launch} (hl : l.stackTraces = false) {g : GP} {M : MM} {A : Nat → Nat} {M0 : MM} {σ : ST} {c o : Nat} {r : Nat} (ho : A 0 = o) (hR : CM g A M0 σ M) (hJ : IJ c σ) (hr : r < σ.1 18 0) : CT l g yL_isRodeo cL_isRodeo 7 (some .boolean) 9 200 80 480 [.ref (o), .int (nI (r)), .int (nI (σ.1 7 0))] M (pI (fun r9 M9 => nI (1) = r9 ∧ M = M9)) nX := by
  refine ct_of [(0, .ref (o)), (1, .int (nI (r))), (2, .int (nI (σ.1 7 0)))] (by decide) hl (Nat.le_of_ble_eq_true rfl) rfl ?_
  intro K hK F
  subst hK
  have F : Fx K g cL_isRodeo RL 7 (some .boolean) [] 9 200 80 480 := F
  obtain ⟨Q, hQ⟩ : ∃ Q, Q = MQx K g (pI (fun r9 M9 => nI (1) = r9 ∧ M = M9)) nX 80 480 := ⟨_, rfl⟩
  rw [← hQ]
  have h6 := hJ.1.B.1
  have h7 := hJ.1.B.2.1
  have h18 := hJ.1.B.2.2.1
  have t3 := (hJ.1.B.2.2.2.1 r (by omega)).2.2.2.2.2.2.1
  have p17 := plIn_17 hJ hr
  have b17 := (hJ.1.B.2.2.2.1 r (by omega)).2.2.2.2.2.2.2.1
  have pot9 := potS_le hJ.1.B (r := r) (by omega)
  refine x_aload_n F 0 dL_isRodeo_0 rfl ?_
  refine x_iload_n F 1 dL_isRodeo_1 rfl ?_
  refine x_iconst F (nI 0) dL_isRodeo_2 (by decide) ?_
  refine x_callV F s_L_17 (hR.co ho) rfl rfl (q_ro0 F.nt ho hR hJ.1 (by omega)) rfl dL_isRodeo_3 (by decide) (by decide) (Nat.le_of_ble_eq_true rfl) x_noX (ki fun r M2 hp => ?_)
  obtain ⟨rfl, rfl⟩ := hp
  refine x_istore_n F [(3, .int (nI (σ.1 15 r))), (0, .ref (o)), (1, .int (nI (r))), (2, .int (nI (σ.1 7 0)))] dL_isRodeo_6 (by decide) rfl ?_
  refine x_iconst F (nI 0) dL_isRodeo_7 (by decide) ?_
  refine x_istore F [(4, .int (nI (0))), (3, .int (nI (σ.1 15 r))), (0, .ref (o)), (1, .int (nI (r))), (2, .int (nI (σ.1 7 0)))] dL_isRodeo_8 (by decide) rfl ?_
  refine x_aload_n F 2 dL_isRodeo_10 rfl ?_
  refine x_iload_n F 3 dL_isRodeo_11 rfl ?_
  refine x_iconst F (nI 4) dL_isRodeo_12 (by decide) ?_
  refine x_callV F s_L_17 (hR.co ho) rfl rfl (q_ro4 F.nt ho hR hJ.1 (by omega)) rfl dL_isRodeo_13 (by decide) (by decide) (Nat.le_of_ble_eq_true rfl) x_noX (ki fun r_2 M2_2 hp_2 => ?_)
  obtain ⟨rfl, rfl⟩ := hp_2
  refine x_istore F [(5, .int (σ.2.1 16 r)), (4, .int (nI (0))), (3, .int (nI (σ.1 15 r))), (0, .ref (o)), (1, .int (nI (r))), (2, .int (nI (σ.1 7 0)))] dL_isRodeo_16 (by decide) rfl ?_
  refine x_iconst F (nI 0) dL_isRodeo_18 (by decide) ?_
  refine x_istore F [(6, .int (nI (0))), (5, .int (σ.2.1 16 r)), (4, .int (nI (0))), (3, .int (nI (σ.1 15 r))), (0, .ref (o)), (1, .int (nI (r))), (2, .int (nI (σ.1 7 0)))] dL_isRodeo_19 (by decide) rfl ?_
  refine x_sub [0, 1, 2, 3, 6, 5, 4] rfl (L' := [(6, .int (nI (0))), (5, .int (σ.2.1 16 r)), (4, .int (nI (0))), (3, .int (nI (σ.1 15 r))), (2, .int (nI (σ.1 7 0))), (1, .int (nI (r))), (0, .ref (o))]) ?_
  have LP21 : ∀ k, k ≤ σ.1 7 0 → XW K g 7 Q M (4 + 4 * k) (24 + 24 * k) 21 [(6, .int (nI (k))), (5, .int (σ.2.1 16 r + nI (fb_sm (fun j => σ.1 29 (12 * r + j)) k))), (4, .int (nI (fb_sm (fun j => bz (decide (¬ σ.2.1 22 (12 * r + j) = -1))) k))), (3, .int (nI (σ.1 15 r))), (2, .int (nI (σ.1 7 0))), (1, .int (nI (r))), (0, .ref (o))] [] := by
    refine x_loop (σ.1 7 0) _ (fun k hk ihk => ?_)
    have hk12 : k ≤ 12 := by omega
    refine x_iload F 0 dL_isRodeo_21 rfl ?_
    refine x_iload_n F 4 dL_isRodeo_23 rfl ?_
    refine x_icmp_ge F 65 dL_isRodeo_24 (by decide) (fun c24 => ?_) (fun c24 => ?_)
    · have c24 := (nI_leI (by omega) (by omega)).mp c24
      have c24b := Nat.not_lt.mpr c24
      have hkk : k = σ.1 7 0 := by omega
      refine x_L (L' := [(6, .int (nI (σ.1 7 0))), (5, .int (if σ.1 15 r = 3 then nI (potS σ r) else 0)), (4, .int (nI (plIn σ r))), (3, .int (nI (σ.1 15 r))), (2, .int (nI (σ.1 7 0))), (1, .int (nI (r))), (0, .ref (o))]) (by rw [hkk, pay_sum hJ hr, ← pl_cut hJ hr]) ?_
      refine x_iload F 2 dL_isRodeo_65 rfl ?_
      refine x_aload_n F 6 dL_isRodeo_67 rfl ?_
      refine x_iload_n F 5 dL_isRodeo_68 rfl ?_
      refine x_iconst F (nI 2) dL_isRodeo_69 (by decide) ?_
      refine x_callV F s_L_17 (hR.co ho) rfl rfl (q_ro2 F.nt ho hR hJ.1 (by omega)) rfl dL_isRodeo_70 (by decide) ⟨by omega, by omega⟩ (Nat.le_of_ble_eq_true rfl) x_noX (ki fun r_3 M2_3 hp_3 => ?_)
      obtain ⟨rfl, rfl⟩ := hp_3
      refine x_icmp_ne F 137 dL_isRodeo_73 (by decide) (fun c73 => ?_) (fun c73 => ?_)
      · have c73 := mt (nI_eq (by omega) (by omega)).mpr c73
        exact absurd rfl c73
      · have c73 := (nI_eq (by omega) (by omega)).mp c73
        refine x_iload F 2 dL_isRodeo_76 rfl ?_
        refine x_aload_n F 6 dL_isRodeo_78 rfl ?_
        refine x_iload_n F 5 dL_isRodeo_79 rfl ?_
        refine x_iconst F (nI 1) dL_isRodeo_80 (by decide) ?_
        refine x_callV F s_L_17 (hR.co ho) rfl rfl (q_ro1 F.nt ho hR hJ.1 (by omega)) rfl dL_isRodeo_81 (by decide) ⟨by omega, by omega⟩ (Nat.le_of_ble_eq_true rfl) x_noX (ki fun r_4 M2_4 hp_4 => ?_)
        obtain ⟨rfl, rfl⟩ := hp_4
        refine x_icmp_gt F 137 dL_isRodeo_84 (by decide) (fun c84 => ?_) (fun c84 => ?_)
        · have c84 := (nI_ltI (by omega) (by omega)).mp c84
          have c84b := Nat.not_le.mpr c84
          omega
        · have c84 := mt (nI_ltI (by omega) (by omega)).mpr c84
          have c84b := Nat.not_lt.mp c84
          have J111 : XW K g 7 Q M ((4 + 4 * k) + 6) ((24 + 24 * k) + 36) 111 [(6, .int (nI (σ.1 7 0))), (5, .int (if σ.1 15 r = 3 then nI (potS σ r) else 0)), (4, .int (nI (plIn σ r))), (3, .int (nI (σ.1 15 r))), (2, .int (nI (σ.1 7 0))), (1, .int (nI (r))), (0, .ref (o))] [] := by
            refine x_iload_n F 3 dL_isRodeo_111 rfl ?_
            refine x_if_gt F 124 dL_isRodeo_112 (by decide) (fun c112 => ?_) (fun c112 => ?_)
            · have c112 := mt (nI_le0 (by omega)).mpr (Int32.not_le.mpr c112)
              have c112b := Nat.pos_of_ne_zero c112
              refine x_iload_n F 3 dL_isRodeo_124 rfl ?_
              refine x_if_lt F 137 dL_isRodeo_125 (by decide) (fun c125 => ?_) (fun c125 => ?_)
              · exact absurd c125 (nI_nn (by omega))
              · refine x_iload_n F 3 dL_isRodeo_128 rfl ?_
                refine x_iconst F (nI 4) dL_isRodeo_129 (by decide) ?_
                refine x_icmp_ge F 137 dL_isRodeo_130 (by decide) (fun c130 => ?_) (fun c130 => ?_)
                · have c130 := (nI_leI (by omega) (by omega)).mp c130
                  have c130b := Nat.not_lt.mpr c130
                  omega
                · have c130 := mt (nI_leI (by omega) (by omega)).mpr c130
                  have c130b := Nat.not_le.mp c130
                  refine x_iconst F (nI 1) dL_isRodeo_133 (by decide) ?_
                  refine x_goto F 138 dL_isRodeo_134 (by decide) ?_
                  rw [hQ]
                  exact x_zret F dL_isRodeo_138 ⟨by omega, by omega⟩ (Or.inr rfl) ⟨_, rfl, rfl, rfl⟩
            · have c112 := (nI_le0 (by omega)).mp (Int32.not_lt.mp c112)
              have c112b := Nat.not_lt.mpr (Nat.le_zero.mpr c112)
              refine x_aload_n F 6 dL_isRodeo_115 rfl ?_
              refine x_iload_n F 5 dL_isRodeo_116 rfl ?_
              refine x_iconst F (nI 3) dL_isRodeo_117 (by decide) ?_
              refine x_callV F s_L_17 (hR.co ho) rfl rfl (q_ro3 F.nt ho hR hJ.1 (by omega)) rfl dL_isRodeo_118 (by decide) ⟨by omega, by omega⟩ (Nat.le_of_ble_eq_true rfl) x_noX (ki fun r_5 M2_5 hp_5 => ?_)
              obtain ⟨rfl, rfl⟩ := hp_5
              refine x_if_ne F 137 dL_isRodeo_121 (by decide) (fun c121 => ?_) (fun c121 => ?_)
              · rw [pot_0 (by omega)] at c121; exact absurd rfl c121
              · refine x_iload_n F 3 dL_isRodeo_124 rfl ?_
                refine x_if_lt F 137 dL_isRodeo_125 (by decide) (fun c125_2 => ?_) (fun c125_2 => ?_)
                · exact absurd c125_2 (nI_nn (by omega))
                · refine x_iload_n F 3 dL_isRodeo_128 rfl ?_
                  refine x_iconst F (nI 4) dL_isRodeo_129 (by decide) ?_
                  refine x_icmp_ge F 137 dL_isRodeo_130 (by decide) (fun c130_2 => ?_) (fun c130_2 => ?_)
                  · have c130_2 := (nI_leI (by omega) (by omega)).mp c130_2
                    have c130_2b := Nat.not_lt.mpr c130_2
                    omega
                  · have c130_2 := mt (nI_leI (by omega) (by omega)).mpr c130_2
                    have c130_2b := Nat.not_le.mp c130_2
                    refine x_iconst F (nI 1) dL_isRodeo_133 (by decide) ?_
                    refine x_goto F 138 dL_isRodeo_134 (by decide) ?_
                    rw [hQ]
                    exact x_zret F dL_isRodeo_138 ⟨by omega, by omega⟩ (Or.inr rfl) ⟨_, rfl, rfl, rfl⟩
          refine x_iload_n F 3 dL_isRodeo_87 rfl ?_
          refine x_iconst F (nI 3) dL_isRodeo_88 (by decide) ?_
          refine x_icmp_ne F 106 dL_isRodeo_89 (by decide) (fun c89 => ?_) (fun c89 => ?_)
          · have c89 := mt (nI_eq (by omega) (by omega)).mpr c89
            refine x_iload F 1 dL_isRodeo_106 rfl ?_
            refine x_if_ne F 137 dL_isRodeo_108 (by decide) (fun c108 => ?_) (fun c108 => ?_)
            · exact absurd (by rw [if_neg c89]) c108
            · refine x_widen (a' := ((4 + 4 * k) + 6)) (b' := ((24 + 24 * k) + 36)) (by omega) (by omega) ?_
              exact J111  
          · have c89 := (nI_eq (by omega) (by omega)).mp c89
            refine x_iload F 1 dL_isRodeo_92 rfl ?_
            refine x_aload_n F 6 dL_isRodeo_94 rfl ?_
            refine x_iload_n F 5 dL_isRodeo_95 rfl ?_
            refine x_iconst F (nI 3) dL_isRodeo_96 (by decide) ?_
            refine x_callV F s_L_17 (hR.co ho) rfl rfl (q_ro3 F.nt ho hR hJ.1 (by omega)) rfl dL_isRodeo_97 (by decide) ⟨by omega, by omega⟩ (Nat.le_of_ble_eq_true rfl) x_noX (ki fun r_6 M2_6 hp_6 => ?_)
            obtain ⟨rfl, rfl⟩ := hp_6
            refine x_icmp_ne F 137 dL_isRodeo_100 (by decide) (fun c100 => ?_) (fun c100 => ?_)
            · exact absurd (by rw [if_pos c89]) c100
            · refine x_goto F 111 dL_isRodeo_103 (by decide) ?_
              exact J111  
    · have c24 := mt (nI_leI (by omega) (by omega)).mpr c24
      have c24b := Nat.not_le.mp c24
      refine x_iload F 2 dL_isRodeo_27 rfl ?_
      refine x_aload_n F 6 dL_isRodeo_29 rfl ?_
      refine x_iload_n F 5 dL_isRodeo_30 rfl ?_
      refine x_iload F 0 dL_isRodeo_31 rfl ?_
      refine x_callV F s_L_28 (hR.co ho) rfl rfl (q_placed F.nt ho hR hJ.1 (by omega) (by omega)) rfl dL_isRodeo_33 (by decide) ⟨by omega, by omega⟩ (Nat.le_of_ble_eq_true rfl) x_noX (ki fun r_7 M2_7 hp_7 => ?_)
      obtain ⟨rfl, rfl⟩ := hp_7
      refine x_if_lt F 43 dL_isRodeo_36 (by decide) (fun c36 => ?_) (fun c36 => ?_)
      · have hpl : bz (decide (¬ σ.2.1 22 (12 * r + k) = -1)) = 0 := by
          rcases v22 hJ hr (show k < 12 by omega) with z | ⟨q, hq, z⟩
          · rw [z]; rfl
          · rw [z] at c36; exact absurd c36 (nI_nn (by omega))
        refine x_iconst F (nI 0) dL_isRodeo_43 (by decide) ?_
        refine x_iaddN F dL_isRodeo_44 ?_
        refine x_istore F [(4, .int (nI ((fb_sm (fun j => bz (decide (¬ σ.2.1 22 (12 * r + j) = -1))) k) + 0))), (6, .int (nI (k))), (5, .int (σ.2.1 16 r + nI (fb_sm (fun j => σ.1 29 (12 * r + j)) k))), (3, .int (nI (σ.1 15 r))), (2, .int (nI (σ.1 7 0))), (1, .int (nI (r))), (0, .ref (o))] dL_isRodeo_45 (by decide) rfl ?_
        refine x_iload F 2 dL_isRodeo_47 rfl ?_
        refine x_aload_n F 6 dL_isRodeo_49 rfl ?_
        refine x_iload_n F 5 dL_isRodeo_50 rfl ?_
        refine x_iload F 1 dL_isRodeo_51 rfl ?_
        refine x_callV F s_L_57 (hR.co ho) rfl rfl (q_got F.nt ho hR hJ.1 (by omega) (by omega)) rfl dL_isRodeo_53 (by decide) ⟨by omega, by omega⟩ (Nat.le_of_ble_eq_true rfl) x_noX (ki fun r_8 M2_8 hp_8 => ?_)
        obtain ⟨rfl, rfl⟩ := hp_8
        refine x_iadd F dL_isRodeo_56 ?_
        refine x_istore F [(5, .int ((σ.2.1 16 r + nI (fb_sm (fun j => σ.1 29 (12 * r + j)) k)) + (nI (σ.1 29 (12 * r + k))))), (4, .int (nI ((fb_sm (fun j => bz (decide (¬ σ.2.1 22 (12 * r + j) = -1))) k) + 0))), (6, .int (nI (k))), (3, .int (nI (σ.1 15 r))), (2, .int (nI (σ.1 7 0))), (1, .int (nI (r))), (0, .ref (o))] dL_isRodeo_57 (by decide) rfl ?_
        refine x_iinc F 2 [(6, .int (nI (k + 1))), (5, .int ((σ.2.1 16 r + nI (fb_sm (fun j => σ.1 29 (12 * r + j)) k)) + (nI (σ.1 29 (12 * r + k))))), (4, .int (nI ((fb_sm (fun j => bz (decide (¬ σ.2.1 22 (12 * r + j) = -1))) k) + 0))), (3, .int (nI (σ.1 15 r))), (2, .int (nI (σ.1 7 0))), (1, .int (nI (r))), (0, .ref (o))] dL_isRodeo_59 rfl (iincN (k) 1) (by decide) rfl ?_
        refine x_goto F 21 dL_isRodeo_62 (by decide) ?_
        refine x_widen (a' := (4 + 4 * (k + 1))) (b' := (24 + 24 * (k + 1))) (by omega) (by omega) ?_
        refine x_L (L' := [(6, .int (nI ((k + 1)))), (5, .int (σ.2.1 16 r + nI (fb_sm (fun j => σ.1 29 (12 * r + j)) (k + 1)))), (4, .int (nI (fb_sm (fun j => bz (decide (¬ σ.2.1 22 (12 * r + j) = -1))) (k + 1)))), (3, .int (nI (σ.1 15 r))), (2, .int (nI (σ.1 7 0))), (1, .int (nI (r))), (0, .ref (o))]) (by rw [fb_sm_succ, fb_sm_succ, ← nI_add (fb_sm (fun j => σ.1 29 (12 * r + j)) k), ← Int32.add_assoc, hpl]) ?_
        exact ihk (by omega)
      · have hpl : bz (decide (¬ σ.2.1 22 (12 * r + k) = -1)) = 1 := by
          rcases v22 hJ hr (show k < 12 by omega) with z | ⟨q, hq, z⟩
          · rw [z] at c36; exact absurd (by decide) c36
          · rw [z, decide_eq_true (nI_m1 (by omega))]; rfl
        refine x_iconst F (nI 1) dL_isRodeo_39 (by decide) ?_
        refine x_goto F 44 dL_isRodeo_40 (by decide) ?_
        refine x_iaddN F dL_isRodeo_44 ?_
        refine x_istore F [(4, .int (nI ((fb_sm (fun j => bz (decide (¬ σ.2.1 22 (12 * r + j) = -1))) k) + 1))), (6, .int (nI (k))), (5, .int (σ.2.1 16 r + nI (fb_sm (fun j => σ.1 29 (12 * r + j)) k))), (3, .int (nI (σ.1 15 r))), (2, .int (nI (σ.1 7 0))), (1, .int (nI (r))), (0, .ref (o))] dL_isRodeo_45 (by decide) rfl ?_
        refine x_iload F 2 dL_isRodeo_47 rfl ?_
        refine x_aload_n F 6 dL_isRodeo_49 rfl ?_
        refine x_iload_n F 5 dL_isRodeo_50 rfl ?_
        refine x_iload F 1 dL_isRodeo_51 rfl ?_
        refine x_callV F s_L_57 (hR.co ho) rfl rfl (q_got F.nt ho hR hJ.1 (by omega) (by omega)) rfl dL_isRodeo_53 (by decide) ⟨by omega, by omega⟩ (Nat.le_of_ble_eq_true rfl) x_noX (ki fun r_9 M2_9 hp_9 => ?_)
        obtain ⟨rfl, rfl⟩ := hp_9
        refine x_iadd F dL_isRodeo_56 ?_
        refine x_istore F [(5, .int ((σ.2.1 16 r + nI (fb_sm (fun j => σ.1 29 (12 * r + j)) k)) + (nI (σ.1 29 (12 * r + k))))), (4, .int (nI ((fb_sm (fun j => bz (decide (¬ σ.2.1 22 (12 * r + j) = -1))) k) + 1))), (6, .int (nI (k))), (3, .int (nI (σ.1 15 r))), (2, .int (nI (σ.1 7 0))), (1, .int (nI (r))), (0, .ref (o))] dL_isRodeo_57 (by decide) rfl ?_
        refine x_iinc F 2 [(6, .int (nI (k + 1))), (5, .int ((σ.2.1 16 r + nI (fb_sm (fun j => σ.1 29 (12 * r + j)) k)) + (nI (σ.1 29 (12 * r + k))))), (4, .int (nI ((fb_sm (fun j => bz (decide (¬ σ.2.1 22 (12 * r + j) = -1))) k) + 1))), (3, .int (nI (σ.1 15 r))), (2, .int (nI (σ.1 7 0))), (1, .int (nI (r))), (0, .ref (o))] dL_isRodeo_59 rfl (iincN (k) 1) (by decide) rfl ?_
        refine x_goto F 21 dL_isRodeo_62 (by decide) ?_
        refine x_widen (a' := (4 + 4 * (k + 1))) (b' := (24 + 24 * (k + 1))) (by omega) (by omega) ?_
        refine x_L (L' := [(6, .int (nI ((k + 1)))), (5, .int (σ.2.1 16 r + nI (fb_sm (fun j => σ.1 29 (12 * r + j)) (k + 1)))), (4, .int (nI (fb_sm (fun j => bz (decide (¬ σ.2.1 22 (12 * r + j) = -1))) (k + 1)))), (3, .int (nI (σ.1 15 r))), (2, .int (nI (σ.1 7 0))), (1, .int (nI (r))), (0, .ref (o))]) (by rw [fb_sm_succ, fb_sm_succ, ← nI_add (fb_sm (fun j => σ.1 29 (12 * r + j)) k), ← Int32.add_assoc, hpl]) ?_
        exact ihk (by omega)
  refine x_L (L' := [(6, .int (nI (0))), (5, .int (σ.2.1 16 r + nI (fb_sm (fun j => σ.1 29 (12 * r + j)) 0))), (4, .int (nI (fb_sm (fun j => bz (decide (¬ σ.2.1 22 (12 * r + j) = -1))) 0))), (3, .int (nI (σ.1 15 r))), (2, .int (nI (σ.1 7 0))), (1, .int (nI (r))), (0, .ref (o))]) (by rw [show nI (fb_sm (fun j => σ.1 29 (12 * r + j)) 0) = 0 from rfl, Int32.add_zero]; rfl) ?_
  exact LP21 0 (Nat.zero_le _)
