/-! rides; the head of a turn; a turn -/
theorem rid_v {σ : ST} {k b q w : Nat} {f : Bool} (hq : q ≤ 456975) : ∃ ev v9, ev ≤ 1 ∧ v9 ≤ 100 ∧ (ridU σ k b q w f).1 3 b = σ.1 3 b + ev ∧ (ridU σ k b q w f).2.1 28 k = nI v9 ∧ (ev = 0 ∨ v9 = 0) := by
  obtain ⟨-, -, -, h4, h5⟩ := rid_f (σ := σ) (k := k) (b := b) (q := q) (w := w) (f := f)
  by_cases z : rcS w f = true
  · rw [if_pos z] at h4 h5
    exact ⟨0, mkA q, by decide, by unfold mkA; omega, h4, h5, Or.inl rfl⟩
  · rw [if_neg z] at h4 h5
    exact ⟨1, 0, by decide, by decide, h4, h5, Or.inr rfl⟩
set_option maxHeartbeats 4000000 in
set_option maxRecDepth 100000 in
theorem blk_ride0 {K : KX} {g : GP} {Q : State → Prop} {M M0 : MM} {A : Nat → Nat} {σ : ST} {a b a9 b9 c o zz T t dd ri rj mk w : Nat} {xv lk : Int32} {f : Bool} {hh9 : List (Nat × Nat × Nat × Nat)} (F : Fx K g cL_law RL 19 (some .boolean) hh9 14 566 600064 7301640) (haa : a ≤ a9 + 20) (hbb : b ≤ b9 + 200) (ha : a9 + 500 ≤ 600064) (hb : b9 + 5000 ≤ 7301640) (ho : A 0 = o) (hR : CM g A M0 σ M) (hJ : IJ c σ) (hc : c < 512) (hri : ri < σ.1 18 0) (hrj : rj < σ.1 7 0) (hbk : σ.2.1 23 (12 * ri + rj) = -1) (hmk : mk ≤ 456975) (hw : w ≤ 999999) (kk : ∀ A3 σ3 M3 nb nr nd lk3, A3 0 = o → CM g A3 M3 σ3 M3 → IJ (c + 1) σ3 → nb = σ3.1 6 0 → nr = σ3.1 7 0 → nd = σ3.1 18 0 → XW K g 19 Q M3 (a9 + 500) (b9 + 5000) 1504 [(8, .int (nI t)), (7, .int (nI T)), (6, .int (nI 1)), (5, .int lk3), (4, .int (nI nd)), (3, .int (nI nr)), (2, .int (nI nb)), (1, .ref o), (0, .ref (gXb g))] []) : XW K g 19 Q M a b 937 [(17, .int (σ.2.1 28 (12 * ri + rj))), (16, .int (nI (0))), (15, .int (nI (0))), (14, .int ((-1))), (13, .int (nI (rj))), (12, .int (nI (ri))), (11, .int (nI (dd))), (10, .int (nI (zz))), (9, .int (xv)), (8, .int (nI (t))), (7, .int (nI (T))), (6, .int (nI (1))), (5, .int (lk)), (4, .int (nI (σ.1 18 0))), (3, .int (nI (σ.1 7 0))), (2, .int (nI (σ.1 6 0))), (1, .ref (o)), (0, .ref (gXb g))] [.int (nI (bz f)), .int (nI (w)), .int (nI (mk)), .int (nI (rj)), .int (nI (ri)), .ref (o)] := by
  have h6 := hJ.1.B.1
  have h7 := hJ.1.B.2.1
  have h18 := hJ.1.B.2.2.1
  have j12 : rj < 12 := by omega
  obtain ⟨b1, b2, b3⟩ := lo_or (by decide) (v23 hJ hri j12)
  obtain ⟨s1, s2, s3⟩ := lo_or (by decide) (v28' hJ hri j12)
  obtain ⟨e1, e2, e3, e4, e5, e6, e7, e8, e9⟩ := hJ.2.1 ri rj hri j12
  refine x_callH F w_h_ride rfl (qa_ride F.nt ho hR hJ.1 (x0 := nI ri) (y0 := nI rj) (mk := nI mk) (w := nI w) (f := f)) rfl dL_law_937 (by decide) ⟨by omega, by omega⟩ (Nat.le_of_ble_eq_true rfl) (ki fun r M2 hp => ?_)
  rcases hp with ⟨hcd, rfl, A2, hA2, hC2⟩ | ⟨hcd, rfl, rfl⟩ | ⟨hcd, rfl, rfl⟩ | ⟨hcd, rfl, rfl⟩
  · have q2 := cdRi_2 hcd
    rw [cl_nI (n := ri) (by omega), cl_nI (n := rj) (by omega)] at q2
    exact absurd hbk (e5 q2.2).2.2
  · rw [cdRi_k (by omega) (by omega) hri hrj hmk hw] at hcd; split at hcd <;> omega
  · rw [cdRi_k (by omega) (by omega) hri hrj hmk hw] at hcd; split at hcd <;> omega
  · have q3 : ¬ σ.1 15 ri = 2 ∨ σ.1 24 (12 * ri + rj) = 0 := Classical.byContradiction (fun z => by rw [cdRi_k (by omega) (by omega) hri hrj hmk hw, if_neg z] at hcd; cases hcd)
    refine x_istore F [(18, .int ((-13))), (17, .int (σ.2.1 28 (12 * ri + rj))), (16, .int (nI (0))), (15, .int (nI (0))), (14, .int ((-1))), (13, .int (nI (rj))), (12, .int (nI (ri))), (11, .int (nI (dd))), (10, .int (nI (zz))), (9, .int (xv)), (8, .int (nI (t))), (7, .int (nI (T))), (6, .int (nI (1))), (5, .int (lk)), (4, .int (nI (σ.1 18 0))), (3, .int (nI (σ.1 7 0))), (2, .int (nI (σ.1 6 0))), (1, .ref (o)), (0, .ref (gXb g))] dL_law_940 (by decide) rfl ?_
    refine x_iload F 0 dL_law_942 rfl ?_
    refine x_bipush F ((-13)) dL_law_944 (by decide) ?_
    refine x_icmp_ne F 967 dL_law_946 (by decide) (fun c946 => ?_) (fun c946 => ?_)
    · exact absurd rfl c946
    · refine x_iload F 4 dL_law_949 rfl ?_
      refine x_if_lt F 959 dL_law_951 (by decide) (fun c951 => ?_) (fun c951 => ?_)
      · refine x_iconst F (nI 1) dL_law_959 (by decide) ?_
        refine x_goto F 1066 dL_law_960 (by decide) ?_
        refine x_istore F [(6, .int (nI (1))), (18, .int ((-13))), (17, .int (σ.2.1 28 (12 * ri + rj))), (16, .int (nI (0))), (15, .int (nI (0))), (14, .int ((-1))), (13, .int (nI (rj))), (12, .int (nI (ri))), (11, .int (nI (dd))), (10, .int (nI (zz))), (9, .int (xv)), (8, .int (nI (t))), (7, .int (nI (T))), (5, .int (lk)), (4, .int (nI (σ.1 18 0))), (3, .int (nI (σ.1 7 0))), (2, .int (nI (σ.1 6 0))), (1, .ref (o)), (0, .ref (gXb g))] dL_law_1066 (by decide) rfl ?_
        refine x_goto F 1504 dL_law_1068 (by decide) ?_
        refine x_sub [11, 12, 0, 13, 14, 15, 16, 17, 18] rfl (L' := [(8, .int (nI (t))), (7, .int (nI (T))), (6, .int (nI (1))), (5, .int (lk)), (4, .int (nI (σ.1 18 0))), (3, .int (nI (σ.1 7 0))), (2, .int (nI (σ.1 6 0))), (1, .ref (o)), (0, .ref (gXb g))]) ?_
        refine x_widen (a' := a9 + 500) (b' := b9 + 5000) (by omega) (by omega) ?_
        exact kk A _ _ _ _ _ _ ho hR.self (IJ_s hJ) rfl rfl rfl
      · exact absurd (by decide) c951
set_option maxHeartbeats 4000000 in
set_option maxRecDepth 100000 in
theorem blk_ride1 {K : KX} {g : GP} {Q : State → Prop} {M M0 : MM} {A : Nat → Nat} {σ : ST} {a b a9 b9 c o zz T t dd ri rj mk w b0 : Nat} {xv lk : Int32} {f : Bool} {hh9 : List (Nat × Nat × Nat × Nat)} (F : Fx K g cL_law RL 19 (some .boolean) hh9 14 566 600064 7301640) (haa : a ≤ a9 + 20) (hbb : b ≤ b9 + 200) (ha : a9 + 500 ≤ 600064) (hb : b9 + 5000 ≤ 7301640) (ho : A 0 = o) (hR : CM g A M0 σ M) (hJ : IJ c σ) (hc : c < 512) (hri : ri < σ.1 18 0) (hrj : rj < σ.1 7 0) (hb0 : b0 < σ.1 6 0) (hbk : σ.2.1 23 (12 * ri + rj) = nI b0) (hmk : mk ≤ 456975) (hw : w ≤ 999999) (kk : ∀ A3 σ3 M3 nb nr nd lk3, A3 0 = o → CM g A3 M3 σ3 M3 → IJ (c + 1) σ3 → nb = σ3.1 6 0 → nr = σ3.1 7 0 → nd = σ3.1 18 0 → XW K g 19 Q M3 (a9 + 500) (b9 + 5000) 1504 [(8, .int (nI t)), (7, .int (nI T)), (6, .int (nI 1)), (5, .int lk3), (4, .int (nI nd)), (3, .int (nI nr)), (2, .int (nI nb)), (1, .ref o), (0, .ref (gXb g))] []) : XW K g 19 Q M a b 937 [(17, .int (σ.2.1 28 (12 * ri + rj))), (16, .int (nI (σ.1 3 b0))), (15, .int (nI (σ.1 2 b0))), (14, .int (nI (b0))), (13, .int (nI (rj))), (12, .int (nI (ri))), (11, .int (nI (dd))), (10, .int (nI (zz))), (9, .int (xv)), (8, .int (nI (t))), (7, .int (nI (T))), (6, .int (nI (1))), (5, .int (lk)), (4, .int (nI (σ.1 18 0))), (3, .int (nI (σ.1 7 0))), (2, .int (nI (σ.1 6 0))), (1, .ref (o)), (0, .ref (gXb g))] [.int (nI (bz f)), .int (nI (w)), .int (nI (mk)), .int (nI (rj)), .int (nI (ri)), .ref (o)] := by
  have h6 := hJ.1.B.1
  have h7 := hJ.1.B.2.1
  have h18 := hJ.1.B.2.2.1
  have j12 : rj < 12 := by omega
  obtain ⟨b1, b2, b3⟩ := lo_or (by decide) (v23 hJ hri j12)
  obtain ⟨s1, s2, s3⟩ := lo_or (by decide) (v28' hJ hri j12)
  obtain ⟨e1, e2, e3, e4, e5, e6, e7, e8, e9⟩ := hJ.2.1 ri rj hri j12
  refine x_callH F w_h_ride rfl (qa_ride F.nt ho hR hJ.1 (x0 := nI ri) (y0 := nI rj) (mk := nI mk) (w := nI w) (f := f)) rfl dL_law_937 (by decide) ⟨by omega, by omega⟩ (Nat.le_of_ble_eq_true rfl) (ki fun r M2 hp => ?_)
  rcases hp with ⟨hcd, rfl, A2, hA2, hC2⟩ | ⟨hcd, rfl, rfl⟩ | ⟨hcd, rfl, rfl⟩ | ⟨hcd, rfl, rfl⟩
  · have q2 := cdRi_2 hcd
    rw [cl_nI (n := ri) (by omega), cl_nI (n := rj) (by omega)] at q2
    have hJ2 := IJ_ride (f := f) hJ hc hcd
    rw [cl_nI (n := ri) (by omega), cl_nI (n := rj) (by omega), hbk, cl_nI (n := b0) (by omega)] at hC2 hJ2 ⊢
    obtain ⟨w1, w2, w3, -, -⟩ := rid_f (σ := σ) (k := 12 * ri + rj) (b := b0) (q := cl (nI mk)) (w := cl (nI w)) (f := f)
    obtain ⟨ev, v9, hev, hv9, w4, w5, w6⟩ := rid_v (σ := σ) (k := 12 * ri + rj) (b := b0) (q := cl (nI mk)) (w := cl (nI w)) (f := f) (by rw [cl_nI (n := mk) (by omega)]; exact hmk)
    obtain ⟨σ2, hs2⟩ : ∃ z, z = ridU σ (12 * ri + rj) b0 (cl (nI mk)) (cl (nI w)) f := ⟨_, rfl⟩
    rw [← hs2] at hC2 hJ2 w1 w2 w3 w4 w5 ⊢
    have w18 := w1 18 0 (by decide)
    have w7 := w1 7 0 (by decide)
    have w0 := w1 6 0 (by decide)
    have u1 := hJ2.1.B.2.2.2.2.2.2.1 b0 (by omega)
    have u2 := hJ.1.B.2.2.2.2.2.2.1 b0 (by omega)
    refine x_ri0 (y := nI v9) w5 ?_
    refine x_istore F [(18, .int (nI (v9))), (17, .int (σ.2.1 28 (12 * ri + rj))), (16, .int (nI (σ.1 3 b0))), (15, .int (nI (σ.1 2 b0))), (14, .int (nI (b0))), (13, .int (nI (rj))), (12, .int (nI (ri))), (11, .int (nI (dd))), (10, .int (nI (zz))), (9, .int (xv)), (8, .int (nI (t))), (7, .int (nI (T))), (6, .int (nI (1))), (5, .int (lk)), (4, .int (nI (σ.1 18 0))), (3, .int (nI (σ.1 7 0))), (2, .int (nI (σ.1 6 0))), (1, .ref (o)), (0, .ref (gXb g))] dL_law_940 (by decide) rfl ?_
    refine x_iload F 0 dL_law_942 rfl ?_
    refine x_bipush F ((-13)) dL_law_944 (by decide) ?_
    refine x_icmp_ne F 967 dL_law_946 (by decide) (fun c946 => ?_) (fun c946 => ?_)
    · refine x_iload F 4 dL_law_967 rfl ?_
      refine x_if_lt F 1065 dL_law_969 (by decide) (fun c969 => ?_) (fun c969 => ?_)
      · exact absurd c969 (nI_nn (by omega))
      · refine x_iload F 1 dL_law_972 rfl ?_
        refine x_iconst F ((-1)) dL_law_974 (by decide) ?_
        refine x_icmp_ne F 1065 dL_law_975 (by decide) (fun c975 => ?_) (fun c975 => ?_)
        · exact absurd (e5 q2.2).1 c975
        · refine x_iload F 0 dL_law_978 rfl ?_
          refine x_aload_n F 17 dL_law_980 rfl ?_
          refine x_iload F 6 dL_law_981 rfl ?_
          refine x_iload F 5 dL_law_983 rfl ?_
          refine x_callV F s_L_48 (hC2.co (hA2.trans ho)) rfl rfl (q_score F.nt (hA2.trans ho) hC2 hJ2.1 (by omega) (by omega)) rfl dL_law_985 (by decide) ⟨by omega, by omega⟩ (Nat.le_of_ble_eq_true rfl) x_noX (ki fun r_2 M2_2 hp_2 => ?_)
          obtain ⟨rfl, rfl⟩ := hp_2
          refine x_icmp_ne F 1065 dL_law_988 (by decide) (fun c988 => ?_) (fun c988 => ?_)
          · exact absurd w5.symm c988
          · refine x_aload_n F 17 dL_law_991 rfl ?_
            refine x_iload F 4 dL_law_992 rfl ?_
            refine x_iconst F (nI 1) dL_law_994 (by decide) ?_
            refine x_callV F s_L_51 (hC2.co (hA2.trans ho)) rfl rfl (q_be1 F.nt (hA2.trans ho) hC2 hJ2.1 (by omega)) rfl dL_law_995 (by decide) ⟨by omega, by omega⟩ (Nat.le_of_ble_eq_true rfl) x_noX (ki fun r_3 M2_3 hp_3 => ?_)
            obtain ⟨rfl, rfl⟩ := hp_3
            refine x_iload F 3 dL_law_998 rfl ?_
            refine x_iconst F (nI 1) dL_law_1000 (by decide) ?_
            refine x_iaddN F dL_law_1001 ?_
            refine x_icmp_ne F 1065 dL_law_1002 (by decide) (fun c1002 => ?_) (fun c1002 => ?_)
            · have c1002 := mt (nI_eq (by omega) (by omega)).mpr c1002
              omega
            · have c1002 := (nI_eq (by omega) (by omega)).mp c1002
              refine x_aload_n F 17 dL_law_1005 rfl ?_
              refine x_iload F 4 dL_law_1006 rfl ?_
              refine x_iconst F (nI 2) dL_law_1008 (by decide) ?_
              refine x_callV F s_L_51 (hC2.co (hA2.trans ho)) rfl rfl (q_be2 F.nt (hA2.trans ho) hC2 hJ2.1 (by omega)) rfl dL_law_1009 (by decide) ⟨by omega, by omega⟩ (Nat.le_of_ble_eq_true rfl) x_noX (ki fun r_4 M2_4 hp_4 => ?_)
              obtain ⟨rfl, rfl⟩ := hp_4
              refine x_iload F 2 dL_law_1012 rfl ?_
              refine x_icmp_lt F 1065 dL_law_1014 (by decide) (fun c1014 => ?_) (fun c1014 => ?_)
              · have c1014 := (nI_ltI (by omega) (by omega)).mp c1014
                have c1014b := Nat.not_le.mpr c1014
                omega
              · have c1014 := mt (nI_ltI (by omega) (by omega)).mpr c1014
                have c1014b := Nat.not_lt.mp c1014
                refine x_aload_n F 17 dL_law_1017 rfl ?_
                refine x_iload F 4 dL_law_1018 rfl ?_
                refine x_iconst F (nI 2) dL_law_1020 (by decide) ?_
                refine x_callV F s_L_51 (hC2.co (hA2.trans ho)) rfl rfl (q_be2 F.nt (hA2.trans ho) hC2 hJ2.1 (by omega)) rfl dL_law_1021 (by decide) ⟨by omega, by omega⟩ (Nat.le_of_ble_eq_true rfl) x_noX (ki fun r_5 M2_5 hp_5 => ?_)
                obtain ⟨rfl, rfl⟩ := hp_5
                refine x_iload F 2 dL_law_1024 rfl ?_
                refine x_iconst F (nI 1) dL_law_1026 (by decide) ?_
                refine x_iaddN F dL_law_1027 ?_
                refine x_icmp_gt F 1065 dL_law_1028 (by decide) (fun c1028 => ?_) (fun c1028 => ?_)
                · have c1028 := (nI_ltI (by omega) (by omega)).mp c1028
                  have c1028b := Nat.not_le.mpr c1028
                  omega
                · have c1028 := mt (nI_ltI (by omega) (by omega)).mpr c1028
                  have c1028b := Nat.not_lt.mp c1028
                  refine x_aload_n F 17 dL_law_1031 rfl ?_
                  refine x_iload F 4 dL_law_1032 rfl ?_
                  refine x_iconst F (nI 2) dL_law_1034 (by decide) ?_
                  refine x_callV F s_L_51 (hC2.co (hA2.trans ho)) rfl rfl (q_be2 F.nt (hA2.trans ho) hC2 hJ2.1 (by omega)) rfl dL_law_1035 (by decide) ⟨by omega, by omega⟩ (Nat.le_of_ble_eq_true rfl) x_noX (ki fun r_6 M2_6 hp_6 => ?_)
                  obtain ⟨rfl, rfl⟩ := hp_6
                  refine x_iload F 2 dL_law_1038 rfl ?_
                  refine x_icmp_eq F 1048 dL_law_1040 (by decide) (fun c1040 => ?_) (fun c1040 => ?_)
                  · have c1040 := (nI_eq (by omega) (by omega)).mp c1040
                    refine x_aload_n F 17 dL_law_1048 rfl ?_
                    refine x_iload F 6 dL_law_1049 rfl ?_
                    refine x_iload F 5 dL_law_1051 rfl ?_
                    refine x_callV F s_L_37 (hC2.co (hA2.trans ho)) rfl rfl (q_drawn F.nt (hA2.trans ho) hC2 hJ2.1 (by omega) (by omega)) rfl dL_law_1053 (by decide) ⟨by omega, by omega⟩ (Nat.le_of_ble_eq_true rfl) x_noX (ki fun r_7 M2_7 hp_7 => ?_)
                    obtain ⟨rfl, rfl⟩ := hp_7
                    refine x_iload F 4 dL_law_1056 rfl ?_
                    refine x_icmp_ne F 1065 dL_law_1058 (by decide) (fun c1058 => ?_) (fun c1058 => ?_)
                    · rw [w2 23 _ (by decide), hbk] at c1058; exact absurd rfl c1058
                    · refine x_iconst F (nI 1) dL_law_1061 (by decide) ?_
                      refine x_goto F 1066 dL_law_1062 (by decide) ?_
                      refine x_istore F [(6, .int (nI (1))), (18, .int (nI (v9))), (17, .int (σ.2.1 28 (12 * ri + rj))), (16, .int (nI (σ.1 3 b0))), (15, .int (nI (σ.1 2 b0))), (14, .int (nI (b0))), (13, .int (nI (rj))), (12, .int (nI (ri))), (11, .int (nI (dd))), (10, .int (nI (zz))), (9, .int (xv)), (8, .int (nI (t))), (7, .int (nI (T))), (5, .int (lk)), (4, .int (nI (σ.1 18 0))), (3, .int (nI (σ.1 7 0))), (2, .int (nI (σ.1 6 0))), (1, .ref (o)), (0, .ref (gXb g))] dL_law_1066 (by decide) rfl ?_
                      refine x_goto F 1504 dL_law_1068 (by decide) ?_
                      refine x_sub [11, 12, 0, 13, 14, 15, 16, 17, 18] rfl (L' := [(8, .int (nI (t))), (7, .int (nI (T))), (6, .int (nI (1))), (5, .int (lk)), (4, .int (nI (σ.1 18 0))), (3, .int (nI (σ.1 7 0))), (2, .int (nI (σ.1 6 0))), (1, .ref (o)), (0, .ref (gXb g))]) ?_
                      refine x_widen (a' := a9 + 500) (b' := b9 + 5000) (by omega) (by omega) ?_
                      exact kk A2 _ _ _ _ _ _ (hA2.trans ho) hC2 hJ2 w0.symm w7.symm w18.symm
                  · have c1040 := mt (nI_eq (by omega) (by omega)).mpr c1040
                    refine x_iload F 0 dL_law_1043 rfl ?_
                    refine x_if_ne F 1065 dL_law_1045 (by decide) (fun c1045 => ?_) (fun c1045 => ?_)
                    · have c1045 := mt (nI_z (by omega)).mpr c1045
                      omega
                    · have c1045 := (nI_z (by omega)).mp c1045
                      refine x_aload_n F 17 dL_law_1048 rfl ?_
                      refine x_iload F 6 dL_law_1049 rfl ?_
                      refine x_iload F 5 dL_law_1051 rfl ?_
                      refine x_callV F s_L_37 (hC2.co (hA2.trans ho)) rfl rfl (q_drawn F.nt (hA2.trans ho) hC2 hJ2.1 (by omega) (by omega)) rfl dL_law_1053 (by decide) ⟨by omega, by omega⟩ (Nat.le_of_ble_eq_true rfl) x_noX (ki fun r_8 M2_8 hp_8 => ?_)
                      obtain ⟨rfl, rfl⟩ := hp_8
                      refine x_iload F 4 dL_law_1056 rfl ?_
                      refine x_icmp_ne F 1065 dL_law_1058 (by decide) (fun c1058_2 => ?_) (fun c1058_2 => ?_)
                      · rw [w2 23 _ (by decide), hbk] at c1058_2; exact absurd rfl c1058_2
                      · refine x_iconst F (nI 1) dL_law_1061 (by decide) ?_
                        refine x_goto F 1066 dL_law_1062 (by decide) ?_
                        refine x_istore F [(6, .int (nI (1))), (18, .int (nI (v9))), (17, .int (σ.2.1 28 (12 * ri + rj))), (16, .int (nI (σ.1 3 b0))), (15, .int (nI (σ.1 2 b0))), (14, .int (nI (b0))), (13, .int (nI (rj))), (12, .int (nI (ri))), (11, .int (nI (dd))), (10, .int (nI (zz))), (9, .int (xv)), (8, .int (nI (t))), (7, .int (nI (T))), (5, .int (lk)), (4, .int (nI (σ.1 18 0))), (3, .int (nI (σ.1 7 0))), (2, .int (nI (σ.1 6 0))), (1, .ref (o)), (0, .ref (gXb g))] dL_law_1066 (by decide) rfl ?_
                        refine x_goto F 1504 dL_law_1068 (by decide) ?_
                        refine x_sub [11, 12, 0, 13, 14, 15, 16, 17, 18] rfl (L' := [(8, .int (nI (t))), (7, .int (nI (T))), (6, .int (nI (1))), (5, .int (lk)), (4, .int (nI (σ.1 18 0))), (3, .int (nI (σ.1 7 0))), (2, .int (nI (σ.1 6 0))), (1, .ref (o)), (0, .ref (gXb g))]) ?_
                        refine x_widen (a' := a9 + 500) (b' := b9 + 5000) (by omega) (by omega) ?_
                        exact kk A2 _ _ _ _ _ _ (hA2.trans ho) hC2 hJ2 w0.symm w7.symm w18.symm
    · exact nI_neg (by omega) (by decide) c946
  · rw [cdRi_k (by omega) (by omega) hri hrj hmk hw] at hcd; split at hcd <;> omega
  · rw [cdRi_k (by omega) (by omega) hri hrj hmk hw] at hcd; split at hcd <;> omega
  · have q3 : ¬ σ.1 15 ri = 2 ∨ σ.1 24 (12 * ri + rj) = 0 := Classical.byContradiction (fun z => by rw [cdRi_k (by omega) (by omega) hri hrj hmk hw, if_neg z] at hcd; cases hcd)
    refine x_istore F [(18, .int ((-13))), (17, .int (σ.2.1 28 (12 * ri + rj))), (16, .int (nI (σ.1 3 b0))), (15, .int (nI (σ.1 2 b0))), (14, .int (nI (b0))), (13, .int (nI (rj))), (12, .int (nI (ri))), (11, .int (nI (dd))), (10, .int (nI (zz))), (9, .int (xv)), (8, .int (nI (t))), (7, .int (nI (T))), (6, .int (nI (1))), (5, .int (lk)), (4, .int (nI (σ.1 18 0))), (3, .int (nI (σ.1 7 0))), (2, .int (nI (σ.1 6 0))), (1, .ref (o)), (0, .ref (gXb g))] dL_law_940 (by decide) rfl ?_
    refine x_iload F 0 dL_law_942 rfl ?_
    refine x_bipush F ((-13)) dL_law_944 (by decide) ?_
    refine x_icmp_ne F 967 dL_law_946 (by decide) (fun c946_2 => ?_) (fun c946_2 => ?_)
    · exact absurd rfl c946_2
    · refine x_iload F 4 dL_law_949 rfl ?_
      refine x_if_lt F 959 dL_law_951 (by decide) (fun c951 => ?_) (fun c951 => ?_)
      · exact absurd c951 (nI_nn (by omega))
      · refine x_iload F 1 dL_law_954 rfl ?_
        refine x_if_lt F 963 dL_law_956 (by decide) (fun c956 => ?_) (fun c956 => ?_)
        · refine absurd c956 (s2 (fun z => ?_))
          have z24 := e4 (by rw [hbk]; exact nI_m1 (by omega)) z
          rcases q3 with y | y
          · exact y (e5 z24).2.1
          · exact z24 y
        · refine x_iconst F (nI 1) dL_law_959 (by decide) ?_
          refine x_goto F 1066 dL_law_960 (by decide) ?_
          refine x_istore F [(6, .int (nI (1))), (18, .int ((-13))), (17, .int (σ.2.1 28 (12 * ri + rj))), (16, .int (nI (σ.1 3 b0))), (15, .int (nI (σ.1 2 b0))), (14, .int (nI (b0))), (13, .int (nI (rj))), (12, .int (nI (ri))), (11, .int (nI (dd))), (10, .int (nI (zz))), (9, .int (xv)), (8, .int (nI (t))), (7, .int (nI (T))), (5, .int (lk)), (4, .int (nI (σ.1 18 0))), (3, .int (nI (σ.1 7 0))), (2, .int (nI (σ.1 6 0))), (1, .ref (o)), (0, .ref (gXb g))] dL_law_1066 (by decide) rfl ?_
          refine x_goto F 1504 dL_law_1068 (by decide) ?_
          refine x_sub [11, 12, 0, 13, 14, 15, 16, 17, 18] rfl (L' := [(8, .int (nI (t))), (7, .int (nI (T))), (6, .int (nI (1))), (5, .int (lk)), (4, .int (nI (σ.1 18 0))), (3, .int (nI (σ.1 7 0))), (2, .int (nI (σ.1 6 0))), (1, .ref (o)), (0, .ref (gXb g))]) ?_
          refine x_widen (a' := a9 + 500) (b' := b9 + 5000) (by omega) (by omega) ?_
          exact kk A _ _ _ _ _ _ ho hR.self (IJ_s hJ) rfl rfl rfl
set_option maxHeartbeats 4000000 in
set_option maxRecDepth 100000 in
theorem blk_ride {K : KX} {g : GP} {Q : State → Prop} {M M0 : MM} {A : Nat → Nat} {σ : ST} {a b c o zz T t dd ri rj : Nat} {xv lk : Int32} {hh9 : List (Nat × Nat × Nat × Nat)} (F : Fx K g cL_law RL 19 (some .boolean) hh9 14 566 600064 7301640) (ha : a + 500 ≤ 600064) (hb : b + 5000 ≤ 7301640) (ho : A 0 = o) (hR : CM g A M0 σ M) (hJ : IJ c σ) (hc : c < 512) (hz : zz < 2 ^ 27) (hri : ri < σ.1 18 0) (hrj : rj < σ.1 7 0) (kk : ∀ A3 σ3 M3 nb nr nd lk3, A3 0 = o → CM g A3 M3 σ3 M3 → IJ (c + 1) σ3 → nb = σ3.1 6 0 → nr = σ3.1 7 0 → nd = σ3.1 18 0 → XW K g 19 Q M3 (a + 500) (b + 5000) 1504 [(8, .int (nI t)), (7, .int (nI T)), (6, .int (nI 1)), (5, .int lk3), (4, .int (nI nd)), (3, .int (nI nr)), (2, .int (nI nb)), (1, .ref o), (0, .ref (gXb g))] []) : XW K g 19 Q M a b 811 [(13, .int (nI (rj))), (12, .int (nI (ri))), (11, .int (nI (dd))), (10, .int (nI (zz))), (9, .int (xv)), (8, .int (nI (t))), (7, .int (nI (T))), (6, .int (nI (1))), (5, .int (lk)), (4, .int (nI (σ.1 18 0))), (3, .int (nI (σ.1 7 0))), (2, .int (nI (σ.1 6 0))), (1, .ref (o)), (0, .ref (gXb g))] [] := by
  have h6 := hJ.1.B.1
  have h7 := hJ.1.B.2.1
  have h18 := hJ.1.B.2.2.1
  have j12 : rj < 12 := by omega
  obtain ⟨b1, b2, b3⟩ := lo_or (by decide) (v23 hJ hri j12)
  obtain ⟨s1, s2, s3⟩ := lo_or (by decide) (v28' hJ hri j12)
  obtain ⟨e1, e2, e3, e4, e5, e6, e7, e8, e9⟩ := hJ.2.1 ri rj hri j12
  refine x_aload_n F 12 dL_law_811 rfl ?_
  refine x_iload F 1 dL_law_812 rfl ?_
  refine x_iload F 0 dL_law_814 rfl ?_
  refine x_callV F s_L_37 (hR.co ho) rfl rfl (q_drawn F.nt ho hR hJ.1 (by omega) (by omega)) rfl dL_law_816 (by decide) ⟨by omega, by omega⟩ (Nat.le_of_ble_eq_true rfl) x_noX (ki fun r M2 hp => ?_)
  obtain ⟨rfl, rfl⟩ := hp
  refine x_istore F [(14, .int (σ.2.1 23 (12 * ri + rj))), (13, .int (nI (rj))), (12, .int (nI (ri))), (11, .int (nI (dd))), (10, .int (nI (zz))), (9, .int (xv)), (8, .int (nI (t))), (7, .int (nI (T))), (6, .int (nI (1))), (5, .int (lk)), (4, .int (nI (σ.1 18 0))), (3, .int (nI (σ.1 7 0))), (2, .int (nI (σ.1 6 0))), (1, .ref (o)), (0, .ref (gXb g))] dL_law_819 (by decide) rfl ?_
  by_cases z23 : σ.2.1 23 (12 * ri + rj) = -1
  · have hbk := z23
    refine x_L (L' := [(14, .int ((-1))), (13, .int (nI (rj))), (12, .int (nI (ri))), (11, .int (nI (dd))), (10, .int (nI (zz))), (9, .int (xv)), (8, .int (nI (t))), (7, .int (nI (T))), (6, .int (nI (1))), (5, .int (lk)), (4, .int (nI (σ.1 18 0))), (3, .int (nI (σ.1 7 0))), (2, .int (nI (σ.1 6 0))), (1, .ref (o)), (0, .ref (gXb g))]) (by rw [z23]) ?_
    refine x_iload F 0 dL_law_821 rfl ?_
    refine x_if_ge F 830 dL_law_823 (by decide) (fun c823 => ?_) (fun c823 => ?_)
    · exact absurd c823 (by decide)
    · refine x_iconst F (nI 0) dL_law_826 (by decide) ?_
      refine x_goto F 837 dL_law_827 (by decide) ?_
      refine x_istore F [(15, .int (nI (0))), (14, .int ((-1))), (13, .int (nI (rj))), (12, .int (nI (ri))), (11, .int (nI (dd))), (10, .int (nI (zz))), (9, .int (xv)), (8, .int (nI (t))), (7, .int (nI (T))), (6, .int (nI (1))), (5, .int (lk)), (4, .int (nI (σ.1 18 0))), (3, .int (nI (σ.1 7 0))), (2, .int (nI (σ.1 6 0))), (1, .ref (o)), (0, .ref (gXb g))] dL_law_837 (by decide) rfl ?_
      refine x_iload F 1 dL_law_839 rfl ?_
      refine x_if_ge F 848 dL_law_841 (by decide) (fun c841 => ?_) (fun c841 => ?_)
      · exact absurd c841 (by decide)
      · refine x_iconst F (nI 0) dL_law_844 (by decide) ?_
        refine x_goto F 855 dL_law_845 (by decide) ?_
        refine x_istore F [(16, .int (nI (0))), (15, .int (nI (0))), (14, .int ((-1))), (13, .int (nI (rj))), (12, .int (nI (ri))), (11, .int (nI (dd))), (10, .int (nI (zz))), (9, .int (xv)), (8, .int (nI (t))), (7, .int (nI (T))), (6, .int (nI (1))), (5, .int (lk)), (4, .int (nI (σ.1 18 0))), (3, .int (nI (σ.1 7 0))), (2, .int (nI (σ.1 6 0))), (1, .ref (o)), (0, .ref (gXb g))] dL_law_855 (by decide) rfl ?_
        refine x_aload_n F 15 dL_law_857 rfl ?_
        refine x_iload F 4 dL_law_858 rfl ?_
        refine x_iload F 3 dL_law_860 rfl ?_
        refine x_callV F s_L_48 (hR.co ho) rfl rfl (q_score F.nt ho hR hJ.1 (by omega) (by omega)) rfl dL_law_862 (by decide) ⟨by omega, by omega⟩ (Nat.le_of_ble_eq_true rfl) x_noX (ki fun r_2 M2_2 hp_2 => ?_)
        obtain ⟨rfl, rfl⟩ := hp_2
        refine x_istore F [(17, .int (σ.2.1 28 (12 * ri + rj))), (16, .int (nI (0))), (15, .int (nI (0))), (14, .int ((-1))), (13, .int (nI (rj))), (12, .int (nI (ri))), (11, .int (nI (dd))), (10, .int (nI (zz))), (9, .int (xv)), (8, .int (nI (t))), (7, .int (nI (T))), (6, .int (nI (1))), (5, .int (lk)), (4, .int (nI (σ.1 18 0))), (3, .int (nI (σ.1 7 0))), (2, .int (nI (σ.1 6 0))), (1, .ref (o)), (0, .ref (gXb g))] dL_law_865 (by decide) rfl ?_
        refine x_aload_n F 16 dL_law_867 rfl ?_
        refine x_iload F 5 dL_law_868 rfl ?_
        refine x_iload F 4 dL_law_870 rfl ?_
        refine x_iload F 7 dL_law_872 rfl ?_
        refine x_iconst F (nI 2) dL_law_874 (by decide) ?_
        refine x_ishr F dL_law_875 ?_
        refine x_ri0 (y := nI (zz / 2 ^ 2)) (sh_nI (by omega) (by decide)) ?_
        refine x_ldc F (nI 456976) k_L_108 dL_law_876 ?_
        refine x_iremN F dL_law_878 (by omega) (by omega) (by omega) ?_
        refine x_iload F 7 dL_law_879 rfl ?_
        refine x_iconst F (nI 3) dL_law_881 (by decide) ?_
        refine x_iand F dL_law_882 ?_
        refine x_ri0 (y := nI (zz % 2 ^ 2)) (pk_andN (by omega) 2 (by decide)) ?_
        refine x_if_ne F 891 dL_law_883 (by decide) (fun c883 => ?_) (fun c883 => ?_)
        · have c883 := mt (nI_z (by omega)).mpr c883
          refine x_sipush F (nI 1000) dL_law_891 (by decide) ?_
          refine x_sipush F (nI 700) dL_law_894 (by decide) ?_
          refine x_iload F 7 dL_law_897 rfl ?_
          refine x_iconst F (nI 4) dL_law_899 (by decide) ?_
          refine x_ishr F dL_law_900 ?_
          refine x_ri0 (y := nI (zz / 2 ^ 4)) (sh_nI (by omega) (by decide)) ?_
          refine x_sipush F (nI 300) dL_law_901 (by decide) ?_
          refine x_iremN F dL_law_904 (by omega) (by omega) (by omega) ?_
          refine x_iaddN F dL_law_905 ?_
          refine x_imulN F dL_law_906 ?_
          refine x_sipush F (nI 700) dL_law_907 (by decide) ?_
          refine x_iaddN F dL_law_910 ?_
          refine x_iload F 7 dL_law_911 rfl ?_
          refine x_bipush F (nI 9) dL_law_913 (by decide) ?_
          refine x_ishr F dL_law_915 ?_
          refine x_ri0 (y := nI (zz / 2 ^ 9)) (sh_nI (by omega) (by decide)) ?_
          refine x_sipush F (nI 300) dL_law_916 (by decide) ?_
          refine x_iremN F dL_law_919 (by omega) (by omega) (by omega) ?_
          refine x_iaddN F dL_law_920 ?_
          refine x_iload F 7 dL_law_921 rfl ?_
          refine x_bipush F (nI 12) dL_law_923 (by decide) ?_
          refine x_ishr F dL_law_925 ?_
          refine x_ri0 (y := nI (zz / 2 ^ 12)) (sh_nI (by omega) (by decide)) ?_
          refine x_bipush F (nI 7) dL_law_926 (by decide) ?_
          refine x_iremN F dL_law_928 (by omega) (by omega) (by omega) ?_
          refine x_if_ne F 936 dL_law_929 (by decide) (fun c929 => ?_) (fun c929 => ?_)
          · have c929 := mt (nI_z (by omega)).mpr c929
            refine x_iconst F (nI 0) dL_law_936 (by decide) ?_
            exact blk_ride0 (mk := (zz / 2 ^ 2) % 456976) (w := ((1000 * (700 + ((zz / 2 ^ 4) % 300))) + 700) + ((zz / 2 ^ 9) % 300)) (f := false) (a9 := a) (b9 := b) F (by omega) (by omega) ha hb ho hR hJ hc hri hrj hbk (by omega) (by omega) kk
          · have c929 := (nI_z (by omega)).mp c929
            refine x_iconst F (nI 1) dL_law_932 (by decide) ?_
            refine x_goto F 937 dL_law_933 (by decide) ?_
            exact blk_ride0 (mk := (zz / 2 ^ 2) % 456976) (w := ((1000 * (700 + ((zz / 2 ^ 4) % 300))) + 700) + ((zz / 2 ^ 9) % 300)) (f := true) (a9 := a) (b9 := b) F (by omega) (by omega) ha hb ho hR hJ hc hri hrj hbk (by omega) (by omega) kk
        · have c883 := (nI_z (by omega)).mp c883
          refine x_ldc F (nI 900900) k_L_109 dL_law_886 ?_
          refine x_goto F 921 dL_law_888 (by decide) ?_
          refine x_iload F 7 dL_law_921 rfl ?_
          refine x_bipush F (nI 12) dL_law_923 (by decide) ?_
          refine x_ishr F dL_law_925 ?_
          refine x_ri0 (y := nI (zz / 2 ^ 12)) (sh_nI (by omega) (by decide)) ?_
          refine x_bipush F (nI 7) dL_law_926 (by decide) ?_
          refine x_iremN F dL_law_928 (by omega) (by omega) (by omega) ?_
          refine x_if_ne F 936 dL_law_929 (by decide) (fun c929_2 => ?_) (fun c929_2 => ?_)
          · have c929_2 := mt (nI_z (by omega)).mpr c929_2
            refine x_iconst F (nI 0) dL_law_936 (by decide) ?_
            exact blk_ride0 (mk := (zz / 2 ^ 2) % 456976) (w := 900900) (f := false) (a9 := a) (b9 := b) F (by omega) (by omega) ha hb ho hR hJ hc hri hrj hbk (by omega) (by omega) kk
          · have c929_2 := (nI_z (by omega)).mp c929_2
            refine x_iconst F (nI 1) dL_law_932 (by decide) ?_
            refine x_goto F 937 dL_law_933 (by decide) ?_
            exact blk_ride0 (mk := (zz / 2 ^ 2) % 456976) (w := 900900) (f := true) (a9 := a) (b9 := b) F (by omega) (by omega) ha hb ho hR hJ hc hri hrj hbk (by omega) (by omega) kk
  · obtain ⟨q, hq, eq9⟩ := b3 z23
    obtain ⟨b0, hb0, eb0, -⟩ := (e3 z23).1
    have hbk := eb0
    refine x_L (L' := [(14, .int (nI (b0))), (13, .int (nI (rj))), (12, .int (nI (ri))), (11, .int (nI (dd))), (10, .int (nI (zz))), (9, .int (xv)), (8, .int (nI (t))), (7, .int (nI (T))), (6, .int (nI (1))), (5, .int (lk)), (4, .int (nI (σ.1 18 0))), (3, .int (nI (σ.1 7 0))), (2, .int (nI (σ.1 6 0))), (1, .ref (o)), (0, .ref (gXb g))]) (by rw [eb0]) ?_
    refine x_iload F 0 dL_law_821 rfl ?_
    refine x_if_ge F 830 dL_law_823 (by decide) (fun c823_2 => ?_) (fun c823_2 => ?_)
    · refine x_aload_n F 13 dL_law_830 rfl ?_
      refine x_iload F 0 dL_law_831 rfl ?_
      refine x_iconst F (nI 1) dL_law_833 (by decide) ?_
      refine x_callV F s_L_51 (hR.co ho) rfl rfl (q_be1 F.nt ho hR hJ.1 (by omega)) rfl dL_law_834 (by decide) ⟨by omega, by omega⟩ (Nat.le_of_ble_eq_true rfl) x_noX (ki fun r_3 M2_3 hp_3 => ?_)
      obtain ⟨rfl, rfl⟩ := hp_3
      refine x_istore F [(15, .int (nI (σ.1 2 b0))), (14, .int (nI (b0))), (13, .int (nI (rj))), (12, .int (nI (ri))), (11, .int (nI (dd))), (10, .int (nI (zz))), (9, .int (xv)), (8, .int (nI (t))), (7, .int (nI (T))), (6, .int (nI (1))), (5, .int (lk)), (4, .int (nI (σ.1 18 0))), (3, .int (nI (σ.1 7 0))), (2, .int (nI (σ.1 6 0))), (1, .ref (o)), (0, .ref (gXb g))] dL_law_837 (by decide) rfl ?_
      refine x_iload F 1 dL_law_839 rfl ?_
      refine x_if_ge F 848 dL_law_841 (by decide) (fun c841_2 => ?_) (fun c841_2 => ?_)
      · refine x_aload_n F 14 dL_law_848 rfl ?_
        refine x_iload F 1 dL_law_849 rfl ?_
        refine x_iconst F (nI 2) dL_law_851 (by decide) ?_
        refine x_callV F s_L_51 (hR.co ho) rfl rfl (q_be2 F.nt ho hR hJ.1 (by omega)) rfl dL_law_852 (by decide) ⟨by omega, by omega⟩ (Nat.le_of_ble_eq_true rfl) x_noX (ki fun r_4 M2_4 hp_4 => ?_)
        obtain ⟨rfl, rfl⟩ := hp_4
        refine x_istore F [(16, .int (nI (σ.1 3 b0))), (15, .int (nI (σ.1 2 b0))), (14, .int (nI (b0))), (13, .int (nI (rj))), (12, .int (nI (ri))), (11, .int (nI (dd))), (10, .int (nI (zz))), (9, .int (xv)), (8, .int (nI (t))), (7, .int (nI (T))), (6, .int (nI (1))), (5, .int (lk)), (4, .int (nI (σ.1 18 0))), (3, .int (nI (σ.1 7 0))), (2, .int (nI (σ.1 6 0))), (1, .ref (o)), (0, .ref (gXb g))] dL_law_855 (by decide) rfl ?_
        refine x_aload_n F 15 dL_law_857 rfl ?_
        refine x_iload F 4 dL_law_858 rfl ?_
        refine x_iload F 3 dL_law_860 rfl ?_
        refine x_callV F s_L_48 (hR.co ho) rfl rfl (q_score F.nt ho hR hJ.1 (by omega) (by omega)) rfl dL_law_862 (by decide) ⟨by omega, by omega⟩ (Nat.le_of_ble_eq_true rfl) x_noX (ki fun r_5 M2_5 hp_5 => ?_)
        obtain ⟨rfl, rfl⟩ := hp_5
        refine x_istore F [(17, .int (σ.2.1 28 (12 * ri + rj))), (16, .int (nI (σ.1 3 b0))), (15, .int (nI (σ.1 2 b0))), (14, .int (nI (b0))), (13, .int (nI (rj))), (12, .int (nI (ri))), (11, .int (nI (dd))), (10, .int (nI (zz))), (9, .int (xv)), (8, .int (nI (t))), (7, .int (nI (T))), (6, .int (nI (1))), (5, .int (lk)), (4, .int (nI (σ.1 18 0))), (3, .int (nI (σ.1 7 0))), (2, .int (nI (σ.1 6 0))), (1, .ref (o)), (0, .ref (gXb g))] dL_law_865 (by decide) rfl ?_
        refine x_aload_n F 16 dL_law_867 rfl ?_
        refine x_iload F 5 dL_law_868 rfl ?_
        refine x_iload F 4 dL_law_870 rfl ?_
        refine x_iload F 7 dL_law_872 rfl ?_
        refine x_iconst F (nI 2) dL_law_874 (by decide) ?_
        refine x_ishr F dL_law_875 ?_
        refine x_ri0 (y := nI (zz / 2 ^ 2)) (sh_nI (by omega) (by decide)) ?_
        refine x_ldc F (nI 456976) k_L_108 dL_law_876 ?_
        refine x_iremN F dL_law_878 (by omega) (by omega) (by omega) ?_
        refine x_iload F 7 dL_law_879 rfl ?_
        refine x_iconst F (nI 3) dL_law_881 (by decide) ?_
        refine x_iand F dL_law_882 ?_
        refine x_ri0 (y := nI (zz % 2 ^ 2)) (pk_andN (by omega) 2 (by decide)) ?_
        refine x_if_ne F 891 dL_law_883 (by decide) (fun c883_2 => ?_) (fun c883_2 => ?_)
        · have c883_2 := mt (nI_z (by omega)).mpr c883_2
          refine x_sipush F (nI 1000) dL_law_891 (by decide) ?_
          refine x_sipush F (nI 700) dL_law_894 (by decide) ?_
          refine x_iload F 7 dL_law_897 rfl ?_
          refine x_iconst F (nI 4) dL_law_899 (by decide) ?_
          refine x_ishr F dL_law_900 ?_
          refine x_ri0 (y := nI (zz / 2 ^ 4)) (sh_nI (by omega) (by decide)) ?_
          refine x_sipush F (nI 300) dL_law_901 (by decide) ?_
          refine x_iremN F dL_law_904 (by omega) (by omega) (by omega) ?_
          refine x_iaddN F dL_law_905 ?_
          refine x_imulN F dL_law_906 ?_
          refine x_sipush F (nI 700) dL_law_907 (by decide) ?_
          refine x_iaddN F dL_law_910 ?_
          refine x_iload F 7 dL_law_911 rfl ?_
          refine x_bipush F (nI 9) dL_law_913 (by decide) ?_
          refine x_ishr F dL_law_915 ?_
          refine x_ri0 (y := nI (zz / 2 ^ 9)) (sh_nI (by omega) (by decide)) ?_
          refine x_sipush F (nI 300) dL_law_916 (by decide) ?_
          refine x_iremN F dL_law_919 (by omega) (by omega) (by omega) ?_
          refine x_iaddN F dL_law_920 ?_
          refine x_iload F 7 dL_law_921 rfl ?_
          refine x_bipush F (nI 12) dL_law_923 (by decide) ?_
          refine x_ishr F dL_law_925 ?_
          refine x_ri0 (y := nI (zz / 2 ^ 12)) (sh_nI (by omega) (by decide)) ?_
          refine x_bipush F (nI 7) dL_law_926 (by decide) ?_
          refine x_iremN F dL_law_928 (by omega) (by omega) (by omega) ?_
          refine x_if_ne F 936 dL_law_929 (by decide) (fun c929_3 => ?_) (fun c929_3 => ?_)
          · have c929_3 := mt (nI_z (by omega)).mpr c929_3
            refine x_iconst F (nI 0) dL_law_936 (by decide) ?_
            exact blk_ride1 (mk := (zz / 2 ^ 2) % 456976) (w := ((1000 * (700 + ((zz / 2 ^ 4) % 300))) + 700) + ((zz / 2 ^ 9) % 300)) (f := false) (a9 := a) (b9 := b) F (by omega) (by omega) ha hb ho hR hJ hc hri hrj hb0 hbk (by omega) (by omega) kk
          · have c929_3 := (nI_z (by omega)).mp c929_3
            refine x_iconst F (nI 1) dL_law_932 (by decide) ?_
            refine x_goto F 937 dL_law_933 (by decide) ?_
            exact blk_ride1 (mk := (zz / 2 ^ 2) % 456976) (w := ((1000 * (700 + ((zz / 2 ^ 4) % 300))) + 700) + ((zz / 2 ^ 9) % 300)) (f := true) (a9 := a) (b9 := b) F (by omega) (by omega) ha hb ho hR hJ hc hri hrj hb0 hbk (by omega) (by omega) kk
        · have c883_2 := (nI_z (by omega)).mp c883_2
          refine x_ldc F (nI 900900) k_L_109 dL_law_886 ?_
          refine x_goto F 921 dL_law_888 (by decide) ?_
          refine x_iload F 7 dL_law_921 rfl ?_
          refine x_bipush F (nI 12) dL_law_923 (by decide) ?_
          refine x_ishr F dL_law_925 ?_
          refine x_ri0 (y := nI (zz / 2 ^ 12)) (sh_nI (by omega) (by decide)) ?_
          refine x_bipush F (nI 7) dL_law_926 (by decide) ?_
          refine x_iremN F dL_law_928 (by omega) (by omega) (by omega) ?_
          refine x_if_ne F 936 dL_law_929 (by decide) (fun c929_4 => ?_) (fun c929_4 => ?_)
          · have c929_4 := mt (nI_z (by omega)).mpr c929_4
            refine x_iconst F (nI 0) dL_law_936 (by decide) ?_
            exact blk_ride1 (mk := (zz / 2 ^ 2) % 456976) (w := 900900) (f := false) (a9 := a) (b9 := b) F (by omega) (by omega) ha hb ho hR hJ hc hri hrj hb0 hbk (by omega) (by omega) kk
          · have c929_4 := (nI_z (by omega)).mp c929_4
            refine x_iconst F (nI 1) dL_law_932 (by decide) ?_
            refine x_goto F 937 dL_law_933 (by decide) ?_
            exact blk_ride1 (mk := (zz / 2 ^ 2) % 456976) (w := 900900) (f := true) (a9 := a) (b9 := b) F (by omega) (by omega) ha hb ho hR hJ hc hri hrj hb0 hbk (by omega) (by omega) kk
      · exact absurd (nI_ge0 (by omega)) c841_2
    · exact absurd (nI_ge0 (by omega)) c823_2
set_option maxHeartbeats 4000000 in
set_option maxRecDepth 100000 in
theorem law_turn {K : KX} {g : GP} {Q : State → Prop} {M M0 : MM} {A : Nat → Nat} {σ : ST} {a b c o zz T t dd ri rj : Nat} {xv lk : Int32} {hh9 : List (Nat × Nat × Nat × Nat)} (F : Fx K g cL_law RL 19 (some .boolean) hh9 14 566 600064 7301640) (ha : a + 500 ≤ 600064) (hb : b + 5000 ≤ 7301640) (ho : A 0 = o) (hR : CM g A M0 σ M) (hJ : IJ c σ) (hc : c < 512) (hz : zz < 2 ^ 27) (hd : dd < 32) (hri0 : σ.1 18 0 = 0 ∨ ri < σ.1 18 0) (hrj0 : σ.1 7 0 = 0 ∨ rj < σ.1 7 0) (kk : ∀ A3 σ3 M3 nb nr nd lk3, A3 0 = o → CM g A3 M3 σ3 M3 → IJ (c + 1) σ3 → nb = σ3.1 6 0 → nr = σ3.1 7 0 → nd = σ3.1 18 0 → XW K g 19 Q M3 (a + 500) (b + 5000) 1504 [(8, .int (nI t)), (7, .int (nI T)), (6, .int (nI 1)), (5, .int lk3), (4, .int (nI nd)), (3, .int (nI nr)), (2, .int (nI nb)), (1, .ref o), (0, .ref (gXb g))] []) : XW K g 19 Q M a b 161 [(13, .int (nI (rj))), (12, .int (nI (ri))), (11, .int (nI (dd))), (10, .int (nI (zz))), (9, .int (xv)), (8, .int (nI (t))), (7, .int (nI (T))), (6, .int (nI (1))), (5, .int (lk)), (4, .int (nI (σ.1 18 0))), (3, .int (nI (σ.1 7 0))), (2, .int (nI (σ.1 6 0))), (1, .ref (o)), (0, .ref (gXb g))] [] := by
  have h6 := hJ.1.B.1
  have h7 := hJ.1.B.2.1
  have h18 := hJ.1.B.2.2.1
  refine x_iload F 2 dL_law_161 rfl ?_
  refine x_iconst F (nI 2) dL_law_163 (by decide) ?_
  refine x_icmp_ge F 226 dL_law_164 (by decide) (fun c164 => ?_) (fun c164 => ?_)
  · have c164 := (nI_leI (by omega) (by omega)).mp c164
    have c164b := Nat.not_lt.mpr c164
    refine x_iload F 2 dL_law_226 rfl ?_
    refine x_iconst F (nI 4) dL_law_228 (by decide) ?_
    refine x_icmp_ge F 280 dL_law_229 (by decide) (fun c229 => ?_) (fun c229 => ?_)
    · have c229 := (nI_leI (by omega) (by omega)).mp c229
      have c229b := Nat.not_lt.mpr c229
      refine x_iload F 2 dL_law_280 rfl ?_
      refine x_iconst F (nI 4) dL_law_282 (by decide) ?_
      refine x_icmp_ne F 407 dL_law_283 (by decide) (fun c283 => ?_) (fun c283 => ?_)
      · have c283 := mt (nI_eq (by omega) (by omega)).mpr c283
        refine x_iload F 9 dL_law_407 rfl ?_
        refine x_if_eq F 416 dL_law_409 (by decide) (fun c409 => ?_) (fun c409 => ?_)
        · have c409 := (nI_z (by omega)).mp c409
          exact blk_none F ha hb ho hR hJ hc hz (by omega) kk
        · have c409 := mt (nI_z (by omega)).mpr c409
          refine x_iload_n F 10 dL_law_412 rfl ?_
          refine x_if_ne F 453 dL_law_413 (by decide) (fun c413 => ?_) (fun c413 => ?_)
          · have c413 := mt (nI_z (by omega)).mpr c413
            refine x_iload F 2 dL_law_453 rfl ?_
            refine x_bipush F (nI 12) dL_law_455 (by decide) ?_
            refine x_icmp_ge F 589 dL_law_457 (by decide) (fun c457 => ?_) (fun c457 => ?_)
            · have c457 := (nI_leI (by omega) (by omega)).mp c457
              have c457b := Nat.not_lt.mpr c457
              refine x_iload F 2 dL_law_589 rfl ?_
              refine x_bipush F (nI 12) dL_law_591 (by decide) ?_
              refine x_icmp_ne F 720 dL_law_593 (by decide) (fun c593 => ?_) (fun c593 => ?_)
              · have c593 := mt (nI_eq (by omega) (by omega)).mpr c593
                refine x_iload F 2 dL_law_720 rfl ?_
                refine x_bipush F (nI 13) dL_law_722 (by decide) ?_
                refine x_icmp_ne F 804 dL_law_724 (by decide) (fun c724 => ?_) (fun c724 => ?_)
                · have c724 := mt (nI_eq (by omega) (by omega)).mpr c724
                  refine x_iload F 2 dL_law_804 rfl ?_
                  refine x_bipush F (nI 20) dL_law_806 (by decide) ?_
                  refine x_icmp_ge F 1071 dL_law_808 (by decide) (fun c808 => ?_) (fun c808 => ?_)
                  · have c808 := (nI_leI (by omega) (by omega)).mp c808
                    have c808b := Nat.not_lt.mpr c808
                    refine x_iload F 2 dL_law_1071 rfl ?_
                    refine x_bipush F (nI 23) dL_law_1073 (by decide) ?_
                    refine x_icmp_ge F 1275 dL_law_1075 (by decide) (fun c1075 => ?_) (fun c1075 => ?_)
                    · have c1075 := (nI_leI (by omega) (by omega)).mp c1075
                      have c1075b := Nat.not_lt.mpr c1075
                      refine x_iload F 2 dL_law_1275 rfl ?_
                      refine x_bipush F (nI 25) dL_law_1277 (by decide) ?_
                      refine x_icmp_ge F 1397 dL_law_1279 (by decide) (fun c1279 => ?_) (fun c1279 => ?_)
                      · have c1279 := (nI_leI (by omega) (by omega)).mp c1279
                        have c1279b := Nat.not_lt.mpr c1279
                        refine x_iload F 2 dL_law_1397 rfl ?_
                        refine x_bipush F (nI 25) dL_law_1399 (by decide) ?_
                        refine x_icmp_ne F 1433 dL_law_1401 (by decide) (fun c1401 => ?_) (fun c1401 => ?_)
                        · have c1401 := mt (nI_eq (by omega) (by omega)).mpr c1401
                          refine x_iload F 2 dL_law_1433 rfl ?_
                          refine x_bipush F (nI 28) dL_law_1435 (by decide) ?_
                          refine x_icmp_ge F 1476 dL_law_1437 (by decide) (fun c1437 => ?_) (fun c1437 => ?_)
                          · have c1437 := (nI_leI (by omega) (by omega)).mp c1437
                            have c1437b := Nat.not_lt.mpr c1437
                            exact blk_place F ha hb ho hR hJ hc hz (hri0.resolve_left (by omega)) (hrj0.resolve_left (by omega)) kk
                          · have c1437 := mt (nI_leI (by omega) (by omega)).mpr c1437
                            have c1437b := Nat.not_le.mp c1437
                            exact blk_ranks F ha hb ho hR hJ hc hz kk
                        · have c1401 := (nI_eq (by omega) (by omega)).mp c1401
                          exact blk_hide F ha hb ho hR hJ hc hz kk
                      · have c1279 := mt (nI_leI (by omega) (by omega)).mpr c1279
                        have c1279b := Nat.not_le.mp c1279
                        exact blk_pay F ha hb ho hR hJ hc hz (hri0.resolve_left (by omega)) kk
                    · have c1075 := mt (nI_leI (by omega) (by omega)).mpr c1075
                      have c1075b := Nat.not_le.mp c1075
                      exact blk_answer F ha hb ho hR hJ hc hz (hri0.resolve_left (by omega)) (hrj0.resolve_left (by omega)) kk
                  · have c808 := mt (nI_leI (by omega) (by omega)).mpr c808
                    have c808b := Nat.not_le.mp c808
                    exact blk_ride F ha hb ho hR hJ hc hz (hri0.resolve_left (by omega)) (hrj0.resolve_left (by omega)) kk
                · have c724 := (nI_eq (by omega) (by omega)).mp c724
                  exact blk_draw F ha hb ho hR hJ hc hz (hri0.resolve_left (by omega)) kk
              · have c593 := (nI_eq (by omega) (by omega)).mp c593
                exact blk_close F ha hb ho hR hJ hc hz (hri0.resolve_left (by omega)) kk
            · have c457 := mt (nI_leI (by omega) (by omega)).mpr c457
              have c457b := Nat.not_le.mp c457
              exact blk_enter F ha hb ho hR hJ hc hz (hri0.resolve_left (by omega)) (hrj0.resolve_left (by omega)) kk
          · have c413 := (nI_z (by omega)).mp c413
            exact blk_none F ha hb ho hR hJ hc hz (by omega) kk
      · have c283 := (nI_eq (by omega) (by omega)).mp c283
        exact blk_rodeo F ha hb ho hR hJ hc hz kk
    · have c229 := mt (nI_leI (by omega) (by omega)).mpr c229
      have c229b := Nat.not_le.mp c229
      exact blk_rider F ha hb ho hR hJ hc hz kk
  · have c164 := mt (nI_leI (by omega) (by omega)).mpr c164
    have c164b := Nat.not_le.mp c164
    exact blk_beast F ha hb ho hR hJ hc hz kk
set_option maxHeartbeats 4000000 in
set_option maxRecDepth 100000 in
theorem law_head {K : KX} {g : GP} {Q : State → Prop} {M : MM} {σ : ST} {a b c o T t : Nat} {lk : Int32} {hh9 : List (Nat × Nat × Nat × Nat)} (F : Fx K g cL_law RL 19 (some .boolean) hh9 14 566 600064 7301640) (hXn : gXn g ≤ 260) (ht : t < T) (hT : T ≤ 330) (ha : a + 500 ≤ 600064) (hb : b + 5000 ≤ 7301640) (hJ : IJ c σ)  (hK : ∀ (zz dd ri rj : Nat) (xv : Int32), zz < 2 ^ 27 → dd < 32 → (σ.1 18 0 = 0 ∨ ri < σ.1 18 0) → (σ.1 7 0 = 0 ∨ rj < σ.1 7 0) → XW K g 19 Q M a b 161 [(13, .int (nI (rj))), (12, .int (nI (ri))), (11, .int (nI (dd))), (10, .int (nI (zz))), (9, .int (xv)), (8, .int (nI (t))), (7, .int (nI (T))), (6, .int (nI (1))), (5, .int (lk)), (4, .int (nI (σ.1 18 0))), (3, .int (nI (σ.1 7 0))), (2, .int (nI (σ.1 6 0))), (1, .ref (o)), (0, .ref (gXb g))] []) : XW K g 19 Q M a b 56 [(8, .int (nI (t))), (7, .int (nI (T))), (6, .int (nI (1))), (5, .int (lk)), (4, .int (nI (σ.1 18 0))), (3, .int (nI (σ.1 7 0))), (2, .int (nI (σ.1 6 0))), (1, .ref (o)), (0, .ref (gXb g))] [] := by
  have h6 := hJ.1.B.1
  have h7 := hJ.1.B.2.1
  have h18 := hJ.1.B.2.2.1
  refine x_iload F 0 dL_law_56 rfl ?_
  refine x_iload F 1 dL_law_58 rfl ?_
  refine x_icmp_ge F 1510 dL_law_60 (by decide) (fun c60 => ?_) (fun c60 => ?_)
  · have c60 := (nI_leI (by omega) (by omega)).mp c60
    have c60b := Nat.not_lt.mpr c60
    omega
  · have c60 := mt (nI_leI (by omega) (by omega)).mpr c60
    have c60b := Nat.not_le.mp c60
    refine x_iload F 2 dL_law_63 rfl ?_
    refine x_if_eq F 1510 dL_law_65 (by decide) (fun c65 => ?_) (fun c65 => ?_)
    · have c65 := (nI_z (by omega)).mp c65
      omega
    · have c65 := mt (nI_z (by omega)).mpr c65
      refine x_aload_n F 8 dL_law_68 rfl ?_
      refine x_iload F 0 dL_law_69 rfl ?_
      refine x_callS F s_L_101 rfl (c_L_draw F.nt hXn (by omega)) rfl dL_law_71 (by decide) ⟨by omega, by omega⟩ (Nat.le_of_ble_eq_true rfl) x_noX (ki fun r9 M9 hp9 => ?_)
      obtain rfl := hp9
      refine x_istore F [(9, .int (r9)), (8, .int (nI (t))), (7, .int (nI (T))), (6, .int (nI (1))), (5, .int (lk)), (4, .int (nI (σ.1 18 0))), (3, .int (nI (σ.1 7 0))), (2, .int (nI (σ.1 6 0))), (1, .ref (o)), (0, .ref (gXb g))] dL_law_74 (by decide) rfl ?_
      refine x_iload F 0 dL_law_76 rfl ?_
      refine x_iconst F (nI 5) dL_law_78 (by decide) ?_
      refine x_ishr F dL_law_79 ?_
      refine x_ldc F (nI 134217727) k_L_104 dL_law_80 ?_
      refine x_iand F dL_law_82 ?_
      obtain ⟨zz, hz, ez⟩ := pk_andE ((r9) >>> ((nI 5) &&& 31)) (m := nI 134217727) 27 (by decide)
      refine x_ri0 (y := nI (zz)) (ez) ?_
      refine x_istore F [(10, .int (nI (zz))), (9, .int (r9)), (8, .int (nI (t))), (7, .int (nI (T))), (6, .int (nI (1))), (5, .int (lk)), (4, .int (nI (σ.1 18 0))), (3, .int (nI (σ.1 7 0))), (2, .int (nI (σ.1 6 0))), (1, .ref (o)), (0, .ref (gXb g))] dL_law_83 (by decide) rfl ?_
      have K127 : ∀ dd, dd < 32 → XW K g 19 Q M a b 127 [(11, .int (nI (dd))), (10, .int (nI (zz))), (9, .int (r9)), (8, .int (nI (t))), (7, .int (nI (T))), (6, .int (nI (1))), (5, .int (lk)), (4, .int (nI (σ.1 18 0))), (3, .int (nI (σ.1 7 0))), (2, .int (nI (σ.1 6 0))), (1, .ref (o)), (0, .ref (gXb g))] [] := by
        intro dd hdd
        have K145 : ∀ ri, σ.1 18 0 = 0 ∨ ri < σ.1 18 0 → XW K g 19 Q M a b 145 [(12, .int (nI (ri))), (11, .int (nI (dd))), (10, .int (nI (zz))), (9, .int (r9)), (8, .int (nI (t))), (7, .int (nI (T))), (6, .int (nI (1))), (5, .int (lk)), (4, .int (nI (σ.1 18 0))), (3, .int (nI (σ.1 7 0))), (2, .int (nI (σ.1 6 0))), (1, .ref (o)), (0, .ref (gXb g))] [] := by
          intro ri hri
          refine x_iload_n F 9 dL_law_145 rfl ?_
          refine x_if_ne F 153 dL_law_146 (by decide) (fun c146 => ?_) (fun c146 => ?_)
          · have c146 := mt (nI_z (by omega)).mpr c146
            refine x_iload F 2 dL_law_153 rfl ?_
            refine x_iconst F (nI 5) dL_law_155 (by decide) ?_
            refine x_ishr F dL_law_156 ?_
            refine x_ri0 (y := nI (zz / 2 ^ 5)) (sh_nI (by omega) (by decide)) ?_
            refine x_iload_n F 9 dL_law_157 rfl ?_
            refine x_iremN F dL_law_158 (by have := Nat.div_le_self zz (2 ^ 5); omega) (by omega) (by omega) ?_
            refine x_istore F [(13, .int (nI ((zz / 2 ^ 5) % (σ.1 7 0)))), (12, .int (nI (ri))), (11, .int (nI (dd))), (10, .int (nI (zz))), (9, .int (r9)), (8, .int (nI (t))), (7, .int (nI (T))), (6, .int (nI (1))), (5, .int (lk)), (4, .int (nI (σ.1 18 0))), (3, .int (nI (σ.1 7 0))), (2, .int (nI (σ.1 6 0))), (1, .ref (o)), (0, .ref (gXb g))] dL_law_159 (by decide) rfl ?_
            exact hK zz dd ri ((zz / 2 ^ 5) % (σ.1 7 0)) r9 hz hdd hri (by first | exact Or.inl (by omega) | exact Or.inr (Nat.mod_lt _ (by omega)))
          · have c146 := (nI_z (by omega)).mp c146
            refine x_iconst F (nI 0) dL_law_149 (by decide) ?_
            refine x_goto F 159 dL_law_150 (by decide) ?_
            refine x_istore F [(13, .int (nI (0))), (12, .int (nI (ri))), (11, .int (nI (dd))), (10, .int (nI (zz))), (9, .int (r9)), (8, .int (nI (t))), (7, .int (nI (T))), (6, .int (nI (1))), (5, .int (lk)), (4, .int (nI (σ.1 18 0))), (3, .int (nI (σ.1 7 0))), (2, .int (nI (σ.1 6 0))), (1, .ref (o)), (0, .ref (gXb g))] dL_law_159 (by decide) rfl ?_
            exact hK zz dd ri (0) r9 hz hdd hri (by first | exact Or.inl (by omega) | exact Or.inr (Nat.mod_lt _ (by omega)))
        refine x_iload F 7 dL_law_127 rfl ?_
        refine x_if_ne F 136 dL_law_129 (by decide) (fun c129 => ?_) (fun c129 => ?_)
        · have c129 := mt (nI_z (by omega)).mpr c129
          refine x_iload F 1 dL_law_136 rfl ?_
          refine x_iconst F (nI 1) dL_law_138 (by decide) ?_
          refine x_ishr F dL_law_139 ?_
          refine x_ri0 (y := nI (zz / 2 ^ 1)) (sh_nI (by omega) (by decide)) ?_
          refine x_iload F 7 dL_law_140 rfl ?_
          refine x_iremN F dL_law_142 (by have := Nat.div_le_self zz (2 ^ 1); omega) (by omega) (by omega) ?_
          refine x_istore F [(12, .int (nI ((zz / 2 ^ 1) % (σ.1 18 0)))), (11, .int (nI (dd))), (10, .int (nI (zz))), (9, .int (r9)), (8, .int (nI (t))), (7, .int (nI (T))), (6, .int (nI (1))), (5, .int (lk)), (4, .int (nI (σ.1 18 0))), (3, .int (nI (σ.1 7 0))), (2, .int (nI (σ.1 6 0))), (1, .ref (o)), (0, .ref (gXb g))] dL_law_143 (by decide) rfl ?_
          exact K145 _ (by first | exact Or.inl (by omega) | exact Or.inr (Nat.mod_lt _ (by omega)))
        · have c129 := (nI_z (by omega)).mp c129
          refine x_iconst F (nI 0) dL_law_132 (by decide) ?_
          refine x_goto F 143 dL_law_133 (by decide) ?_
          refine x_istore F [(12, .int (nI (0))), (11, .int (nI (dd))), (10, .int (nI (zz))), (9, .int (r9)), (8, .int (nI (t))), (7, .int (nI (T))), (6, .int (nI (1))), (5, .int (lk)), (4, .int (nI (σ.1 18 0))), (3, .int (nI (σ.1 7 0))), (2, .int (nI (σ.1 6 0))), (1, .ref (o)), (0, .ref (gXb g))] dL_law_143 (by decide) rfl ?_
          exact K145 _ (by first | exact Or.inl (by omega) | exact Or.inr (Nat.mod_lt _ (by omega)))
      refine x_iload F 2 dL_law_85 rfl ?_
      refine x_bipush F (nI 12) dL_law_87 (by decide) ?_
      refine x_icmp_ge F 120 dL_law_89 (by decide) (fun c89 => ?_) (fun c89 => ?_)
      · have c89 := (nI_leI (by omega) (by omega)).mp c89
        have c89b := Nat.not_lt.mpr c89
        refine x_iload F 1 dL_law_120 rfl ?_
        refine x_bipush F (nI 31) dL_law_122 (by decide) ?_
        refine x_iand F dL_law_124 ?_
        obtain ⟨q31, hq31, eq31⟩ := pk_andE (r9) (m := nI 31) 5 (by decide)
        refine x_ri0 (y := nI q31) eq31 ?_
        refine x_istore F [(11, .int (nI (q31))), (10, .int (nI (zz))), (9, .int (r9)), (8, .int (nI (t))), (7, .int (nI (T))), (6, .int (nI (1))), (5, .int (lk)), (4, .int (nI (σ.1 18 0))), (3, .int (nI (σ.1 7 0))), (2, .int (nI (σ.1 6 0))), (1, .ref (o)), (0, .ref (gXb g))] dL_law_125 (by decide) rfl ?_
        exact K127 _ (by omega)
      · have c89 := mt (nI_leI (by omega) (by omega)).mpr c89
        have c89b := Nat.not_le.mp c89
        refine x_iload F 2 dL_law_92 rfl ?_
        refine x_iconst F (nI 4) dL_law_94 (by decide) ?_
        refine x_iremN F dL_law_95 (by omega) (by omega) (by omega) ?_
        refine x_iconst F (nI 3) dL_law_96 (by decide) ?_
        refine x_icmp_ne F 104 dL_law_97 (by decide) (fun c97 => ?_) (fun c97 => ?_)
        · have c97 := mt (nI_eq (by omega) (by omega)).mpr c97
          refine x_iload F 2 dL_law_104 rfl ?_
          refine x_iconst F (nI 4) dL_law_106 (by decide) ?_
          refine x_iremN F dL_law_107 (by omega) (by omega) (by omega) ?_
          refine x_iconst F (nI 2) dL_law_108 (by decide) ?_
          refine x_icmp_ne F 116 dL_law_109 (by decide) (fun c109 => ?_) (fun c109 => ?_)
          · have c109 := mt (nI_eq (by omega) (by omega)).mpr c109
            refine x_iconst F (nI 0) dL_law_116 (by decide) ?_
            refine x_goto F 125 dL_law_117 (by decide) ?_
            refine x_istore F [(11, .int (nI (0))), (10, .int (nI (zz))), (9, .int (r9)), (8, .int (nI (t))), (7, .int (nI (T))), (6, .int (nI (1))), (5, .int (lk)), (4, .int (nI (σ.1 18 0))), (3, .int (nI (σ.1 7 0))), (2, .int (nI (σ.1 6 0))), (1, .ref (o)), (0, .ref (gXb g))] dL_law_125 (by decide) rfl ?_
            exact K127 _ (by omega)
          · have c109 := (nI_eq (by omega) (by omega)).mp c109
            refine x_iconst F (nI 2) dL_law_112 (by decide) ?_
            refine x_goto F 125 dL_law_113 (by decide) ?_
            refine x_istore F [(11, .int (nI (2))), (10, .int (nI (zz))), (9, .int (r9)), (8, .int (nI (t))), (7, .int (nI (T))), (6, .int (nI (1))), (5, .int (lk)), (4, .int (nI (σ.1 18 0))), (3, .int (nI (σ.1 7 0))), (2, .int (nI (σ.1 6 0))), (1, .ref (o)), (0, .ref (gXb g))] dL_law_125 (by decide) rfl ?_
            exact K127 _ (by omega)
        · have c97 := (nI_eq (by omega) (by omega)).mp c97
          refine x_iconst F (nI 4) dL_law_100 (by decide) ?_
          refine x_goto F 125 dL_law_101 (by decide) ?_
          refine x_istore F [(11, .int (nI (4))), (10, .int (nI (zz))), (9, .int (r9)), (8, .int (nI (t))), (7, .int (nI (T))), (6, .int (nI (1))), (5, .int (lk)), (4, .int (nI (σ.1 18 0))), (3, .int (nI (σ.1 7 0))), (2, .int (nI (σ.1 6 0))), (1, .ref (o)), (0, .ref (gXb g))] dL_law_125 (by decide) rfl ?_
          exact K127 _ (by omega)
set_option maxHeartbeats 4000000 in
set_option maxRecDepth 100000 in
theorem law_fin {K : KX} {g : GP} {Q : State → Prop} {M M0 : MM} {A : Nat → Nat} {σ : ST} {a b c o T t : Nat} {lk : Int32} {hh9 : List (Nat × Nat × Nat × Nat)} (F : Fx K g cL_law RL 19 (some .boolean) hh9 14 566 600064 7301640) (ha : a + 500 ≤ 600064) (hb : b + 5000 ≤ 7301640) (ho : A 0 = o) (hR : CM g A M0 σ M) (hJ : IJ c σ) (ht : ¬ t < T) (ht2 : t ≤ T) (hT : T ≤ 330)  (hEnd : ∀ M a b L, a ≤ 600064 → b ≤ 7301640 → XW K g 19 Q M a b 1522 L []) : XW K g 19 Q M a b 56 [(8, .int (nI (t))), (7, .int (nI (T))), (6, .int (nI (1))), (5, .int (lk)), (4, .int (nI (σ.1 18 0))), (3, .int (nI (σ.1 7 0))), (2, .int (nI (σ.1 6 0))), (1, .ref (o)), (0, .ref (gXb g))] [] := by
  have h6 := hJ.1.B.1
  have h7 := hJ.1.B.2.1
  have h18 := hJ.1.B.2.2.1
  refine x_iload F 0 dL_law_56 rfl ?_
  refine x_iload F 1 dL_law_58 rfl ?_
  refine x_icmp_ge F 1510 dL_law_60 (by decide) (fun c60 => ?_) (fun c60 => ?_)
  · have c60 := (nI_leI (by omega) (by omega)).mp c60
    have c60b := Nat.not_lt.mpr c60
    refine x_iload F 2 dL_law_1510 rfl ?_
    refine x_if_eq F 1526 dL_law_1512 (by decide) (fun c1512 => ?_) (fun c1512 => ?_)
    · have c1512 := (nI_z (by omega)).mp c1512
      omega
    · have c1512 := mt (nI_z (by omega)).mpr c1512
      refine x_aload_n F 7 dL_law_1515 rfl ?_
      refine x_callV F s_L_118 (hR.co ho) rfl rfl (q_balances F.nt ho hR hJ.1 (bal_t hJ)) rfl dL_law_1516 (by decide) ⟨by omega, by omega⟩ (Nat.le_of_ble_eq_true rfl) x_noX (ki fun r M2 hp => ?_)
      obtain ⟨rfl, rfl⟩ := hp
      refine x_if_eq F 1526 dL_law_1519 (by decide) (fun c1519 => ?_) (fun c1519 => ?_)
      · have c1519 := (nI_z (by omega)).mp c1519
        omega
      · have c1519 := mt (nI_z (by omega)).mpr c1519
        exact hEnd _ _ _ _ (by omega) (by omega)
  · have c60 := mt (nI_leI (by omega) (by omega)).mpr c60
    have c60b := Nat.not_le.mp c60
    omega
set_option maxHeartbeats 4000000 in
set_option maxRecDepth 100000 in
theorem law_loop {K : KX} {g : GP} {Q : State → Prop} {o T : Nat} {hh9 : List (Nat × Nat × Nat × Nat)} (F : Fx K g cL_law RL 19 (some .boolean) hh9 14 566 600064 7301640) (hXn : gXn g ≤ 260) (hT : T ≤ 330) (hEnd : ∀ M a b L, a ≤ 600064 → b ≤ 7301640 → XW K g 19 Q M a b 1522 L []) : ∀ t, t ≤ T → ∀ A σ M M0 lk, A 0 = o → CM g A M0 σ M → IJ t σ → XW K g 19 Q M (100 + 500 * t) (1000 + 5000 * t) 56 [(8, .int (nI (t))), (7, .int (nI (T))), (6, .int (nI (1))), (5, .int (lk)), (4, .int (nI (σ.1 18 0))), (3, .int (nI (σ.1 7 0))), (2, .int (nI (σ.1 6 0))), (1, .ref (o)), (0, .ref (gXb g))] [] := by
  refine x_loop T _ (fun t ht0 ih => ?_)
  intro A σ M M0 lk ho hR hJ
  by_cases ht : t < T
  · refine law_head F hXn ht hT (by omega) (by omega) hJ (fun zz dd ri rj xv hz hd h1 h2 => ?_)
    refine law_turn F (by omega) (by omega) ho hR hJ (by omega) hz hd h1 h2 (fun A3 σ3 M3 nb nr nd lk3 hA3 hC3 hJ3 eb er ed => ?_)
    subst eb er ed
    refine x_iinc F 0 [(8, .int (nI (t + 1))), (7, .int (nI T)), (6, .int (nI 1)), (5, .int lk3), (4, .int (nI (σ3.1 18 0))), (3, .int (nI (σ3.1 7 0))), (2, .int (nI (σ3.1 6 0))), (1, .ref o), (0, .ref (gXb g))] dL_law_1504 rfl (iincN t 1) (by decide) rfl ?_
    refine x_goto F 56 dL_law_1507 (by decide) ?_
    have h9 := ih ht A3 σ3 M3 M3 lk3 hA3 hC3 hJ3
    rw [show 100 + 500 * (t + 1) = 100 + 500 * t + 500 by omega, show 1000 + 5000 * (t + 1) = 1000 + 5000 * t + 5000 by omega] at h9
    exact h9
  · exact law_fin F (by omega) (by omega) ho hR hJ ht ht0 hT hEnd
