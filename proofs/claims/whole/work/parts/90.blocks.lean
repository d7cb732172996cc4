/-! the law, call by call -/
set_option maxRecDepth 20000 in
theorem w_h_beast : CSH RL 88 yL_beast cL_beast 4 (some .int) [(0, 9, 12, 13), (0, 9, 15, 15)] 3 := ⟨⟨tb_1 123 rfl rfl, tb_1 124 rfl rfl, it_L, tb_1 125 rfl rfl⟩, by decide +kernel, by decide +kernel, by decide +kernel⟩
set_option maxRecDepth 20000 in
theorem w_h_rider : CSH RL 97 yL_rider cL_rider 3 (some .int) [(0, 8, 11, 15)] 2 := ⟨⟨tb_2 70 rfl rfl, tb_2 71 rfl rfl, it_L, tb_2 72 rfl rfl⟩, by decide +kernel, by decide +kernel, by decide +kernel⟩
set_option maxRecDepth 20000 in
theorem w_h_rodeo : CSH RL 101 yL_rodeo cL_rodeo 10 (some .int) [(0, 20, 23, 13), (0, 20, 27, 15)] 9 := ⟨⟨tb_2 78 rfl rfl, tb_2 79 rfl rfl, it_L, tb_2 80 rfl rfl⟩, by decide +kernel, by decide +kernel, by decide +kernel⟩
set_option maxRecDepth 20000 in
theorem w_h_rodeoIs : CSH RL 105 yL_rodeoIs cL_rodeoIs 5 (some .int) [(0, 10, 13, 29), (0, 10, 17, 13)] 4 := ⟨⟨tb_2 142 rfl rfl, tb_2 143 rfl rfl, it_L, tb_2 144 rfl rfl⟩, by decide +kernel, by decide +kernel, by decide +kernel⟩
set_option maxRecDepth 20000 in
theorem w_h_enter : CSH RL 109 yL_enter cL_enter 7 (some .int) [(0, 14, 17, 29), (0, 14, 21, 13), (0, 14, 25, 15)] 6 := ⟨⟨tb_2 173 rfl rfl, tb_2 174 rfl rfl, it_L, tb_2 175 rfl rfl⟩, by decide +kernel, by decide +kernel, by decide +kernel⟩
set_option maxRecDepth 20000 in
theorem w_h_close : CSH RL 113 yL_close cL_close 4 (some .int) [(0, 9, 12, 29), (0, 9, 15, 15)] 3 := ⟨⟨tb_3 20 rfl rfl, tb_3 21 rfl rfl, it_L, tb_3 22 rfl rfl⟩, by decide +kernel, by decide +kernel, by decide +kernel⟩
set_option maxRecDepth 20000 in
theorem w_h_placed : CSH RL 116 yL_placed cL_placed 5 (some .int) [(0, 10, 13, 29)] 4 := ⟨⟨tb_3 52 rfl rfl, tb_3 53 rfl rfl, it_L, tb_3 54 rfl rfl⟩, by decide +kernel, by decide +kernel, by decide +kernel⟩
set_option maxRecDepth 20000 in
theorem w_h_most : CSH RL 119 yL_most cL_most 4 (some .int) [(0, 9, 12, 29)] 3 := ⟨⟨tb_3 59 rfl rfl, tb_3 60 rfl rfl, it_L, tb_3 61 rfl rfl⟩, by decide +kernel, by decide +kernel, by decide +kernel⟩
set_option maxRecDepth 20000 in
theorem w_h_hide : CSH RL 122 yL_hide cL_hide 3 (some .int) [(0, 5, 8, 13)] 2 := ⟨⟨tb_3 81 rfl rfl, tb_3 82 rfl rfl, it_L, tb_3 83 rfl rfl⟩, by decide +kernel, by decide +kernel, by decide +kernel⟩
set_option maxRecDepth 20000 in
theorem w_h_draw : CSH RL 126 yL_draw cL_draw 4 (some .int) [(0, 9, 12, 29), (0, 9, 15, 15)] 3 := ⟨⟨tb_3 90 rfl rfl, tb_3 91 rfl rfl, it_L, tb_3 92 rfl rfl⟩, by decide +kernel, by decide +kernel, by decide +kernel⟩
set_option maxRecDepth 20000 in
theorem w_h_drawn : CSH RL 129 yL_drawn cL_drawn 5 (some .int) [(0, 10, 13, 29)] 4 := ⟨⟨tb_3 127 rfl rfl, tb_3 128 rfl rfl, it_L, tb_3 129 rfl rfl⟩, by decide +kernel, by decide +kernel, by decide +kernel⟩
set_option maxRecDepth 20000 in
theorem w_h_ride : CSH RL 132 yL_ride cL_ride 8 (some .int) [(0, 16, 19, 29), (0, 16, 23, 13), (0, 16, 27, 15)] 7 := ⟨⟨tb_3 138 rfl rfl, tb_3 139 rfl rfl, it_L, tb_3 140 rfl rfl⟩, by decide +kernel, by decide +kernel, by decide +kernel⟩
set_option maxRecDepth 20000 in
theorem w_h_isOffered : CSH RL 136 yL_isOffered cL_isOffered 5 (some .int) [(0, 17, 20, 29)] 4 := ⟨⟨tb_3 156 rfl rfl, tb_3 157 rfl rfl, it_L, tb_3 158 rfl rfl⟩, by decide +kernel, by decide +kernel, by decide +kernel⟩
set_option maxRecDepth 20000 in
theorem w_h_answer : CSH RL 139 yL_answer cL_answer 6 (some .int) [(0, 12, 15, 29), (0, 12, 19, 15)] 5 := ⟨⟨tb_3 163 rfl rfl, tb_3 164 rfl rfl, it_L, tb_3 165 rfl rfl⟩, by decide +kernel, by decide +kernel, by decide +kernel⟩
set_option maxRecDepth 20000 in
theorem w_h_score : CSH RL 143 yL_score cL_score 5 (some .int) [(0, 10, 13, 29)] 4 := ⟨⟨tb_3 175 rfl rfl, tb_3 176 rfl rfl, it_L, tb_3 177 rfl rfl⟩, by decide +kernel, by decide +kernel, by decide +kernel⟩
set_option maxRecDepth 20000 in
theorem w_h_beastIs : CSH RL 146 yL_beastIs cL_beastIs 5 (some .int) [(0, 10, 13, 29), (0, 10, 17, 13)] 4 := ⟨⟨tb_3 182 rfl rfl, tb_3 183 rfl rfl, it_L, tb_3 184 rfl rfl⟩, by decide +kernel, by decide +kernel, by decide +kernel⟩
set_option maxRecDepth 20000 in
theorem w_h_pay : CSH RL 149 yL_pay cL_pay 4 (some .int) [(0, 9, 12, 29), (0, 9, 15, 15)] 3 := ⟨⟨tb_3 201 rfl rfl, tb_3 202 rfl rfl, it_L, tb_3 203 rfl rfl⟩, by decide +kernel, by decide +kernel, by decide +kernel⟩
set_option maxRecDepth 20000 in
theorem w_h_got : CSH RL 152 yL_got cL_got 5 (some .int) [(0, 10, 13, 29)] 4 := ⟨⟨tb_3 235 rfl rfl, tb_3 236 rfl rfl, it_L, tb_3 237 rfl rfl⟩, by decide +kernel, by decide +kernel, by decide +kernel⟩
set_option maxRecDepth 20000 in
theorem w_h_counts : CSH RL 155 yL_counts cL_counts 4 (some .int) [(0, 9, 12, 29)] 3 := ⟨⟨tb_4 2 rfl rfl, tb_4 3 rfl rfl, it_L, tb_4 4 rfl rfl⟩, by decide +kernel, by decide +kernel, by decide +kernel⟩
set_option maxRecDepth 20000 in
theorem w_h_ranked : CSH RL 158 yL_ranked cL_ranked 4 (some .int) [(0, 9, 12, 13)] 3 := ⟨⟨tb_4 17 rfl rfl, tb_4 18 rfl rfl, it_L, tb_4 19 rfl rfl⟩, by decide +kernel, by decide +kernel, by decide +kernel⟩
theorem s0_beast {τ : ST} {x0 : Int32} : (beU τ x0).1 0 0 = τ.1 0 0 := rfl
theorem s0_rider {τ : ST} : (rdU τ).1 0 0 = τ.1 0 0 := rfl
theorem s0_rodeo {τ : ST} {a0 a1 a2 a3 a4 a5 a6 : Int32} : (roU τ a0 a1 a2 a3 a4 a5 a6).1 0 0 = τ.1 0 0 := roU_N 0 0 (by decide) (by omega)
theorem s0_enter {τ : ST} {r j s w : Nat} : (enU τ r j s w).1 0 0 = τ.1 0 0 := rfl
theorem s0_close {τ : ST} {r : Nat} : (clU τ r).1 0 0 = τ.1 0 0 := by
  show (clE τ r _).1 0 0 = _
  rw [clE_1]
theorem s0_hide {τ : ST} {v : Nat} : (uN τ 30 0 v).1 0 0 = τ.1 0 0 := rfl
theorem s0_draw {τ : ST} {r : Nat} : (drnU τ r).1 0 0 = τ.1 0 0 := by
  show (drP τ r _).1 0 0 = _
  rw [drP_N (by decide)]
theorem s0_ride {τ : ST} {k b mk w : Nat} {f : Bool} : (ridU τ k b mk w f).1 0 0 = τ.1 0 0 := rfl
theorem s0_answer {τ : ST} {r j : Nat} {f : Bool} : (ansU τ r j f).1 0 0 = τ.1 0 0 := by
  unfold ansU
  split
  · rw [drwU_N (by decide)]; rfl
  · rfl
theorem s0_pay {τ : ST} {r : Nat} : (payU τ r).1 0 0 = τ.1 0 0 := by
  show (gotU τ r 12).1 0 0 = _
  rw [gotU_N (by decide)]
theorem s0_most {τ : ST} {f : Nat → Nat} : (cB τ f).1 0 0 = τ.1 0 0 := rfl
set_option maxHeartbeats 4000000 in
set_option maxRecDepth 100000 in
theorem blk_beast {K : KX} {g : GP} {Q : State → Prop} {M : MM} {A : Nat → Nat} {m : Nat → Nat} {σ : ST} {a b b0 L0 i o : Nat} {xs : Nat → Int32} {hh9 : List (Nat × Nat × Nat × Nat)} (F : Fx K g cL_law RL 7 (some .boolean) hh9 12 460 601024 7293034) (hX : va_X b0 L0 xs (ks K) (ks K).heap) (hbl : b0 < (ks K).heap.size) (hbA : ¬ gO g b0) (hL0 : L0 ≤ 4096) (hi : 8 * i + 8 ≤ L0) (ha : a + 100 ≤ 601024) (hb : b + 1000 ≤ 7293034) (hJ : LJ g A m σ M o) (hI : Inv i σ) (kk : ∀ A3 σ3 M3, A3 0 = A 0 → LJ g A3 m σ3 M3 o → Inv (i + 1) σ3 → XW K g 7 Q M3 (a + 100) (b + 1000) 1548 [(4, .int (nI (8 * i))), (3, .ref (o)), (2, .ref (m 0)), (1, .ref (A 0)), (0, .ref (b0))] []) : XW K g 7 Q M a b 140 [(4, .int (nI (8 * i))), (3, .ref (o)), (2, .ref (m 0)), (1, .ref (A 0)), (0, .ref (b0))] [] := by
  obtain ⟨x0, hv_x0⟩ : ∃ z, z = xs (8 * i + 1) := ⟨_, rfl⟩
  have h512 : i < 512 := by omega
  obtain ⟨σ0, hs0⟩ : ∃ z, z = uN σ 0 0 (cdBe σ x0) := ⟨_, rfl⟩
  have hI0 : Inv i σ0 := hs0 ▸ Inv_0 hI _
  have hC0 : CM g A M σ0 M := hs0 ▸ CM_0 hJ.1 _
  have hc0 : cdBe σ0 x0 = cdBe σ x0 := by first | rfl | (rw [hs0]; rfl)
  have hl0 : ∀ c, lvB σ0 c = lvB σ c := fun c => by rw [hs0]; exact lv_u0
  obtain ⟨fo, hO⟩ := hJ.2.2.2.1
  have ho : ∀ c, lvB σ0 c = true → o ≠ A c := fun c hc => hJ.2.2.2.2.1 c ((hl0 c).symm.trans hc)
  refine x_aload_n F 3 dL_law_140 rfl ?_
  refine x_aload_n F 4 dL_law_141 rfl ?_
  refine x_iload F 0 dL_law_142 rfl ?_
  refine x_iconst F (nI 1) dL_law_144 (by decide) ?_
  refine x_iaddN F dL_law_145 ?_
  refine x_sld F hX hbl hbA (vp_in_nI (n := 8 * i + 1) (by omega) (by omega)) dL_law_146 ?_
  refine x_ri0 (y := x0) (by rw [nI_clamp (n := 8 * i + 1) (by omega), hv_x0]) ?_
  refine x_aload_n F 1 dL_law_147 rfl ?_
  refine x_callH F w_h_beast rfl (c_L_beast F.nt hC0 hI0.B hI0.be hI0.zb hO ho) rfl dL_law_148 (by decide) ⟨by omega, by omega⟩ (Nat.le_of_ble_eq_true rfl) (ki fun r9 M9 hp9 => ?_)
  obtain ⟨rfl, hp9⟩ := hp9
  obtain ⟨A2, hA20, hRM9, hCM9, hd9, ⟨f9, hO9, hf9⟩, ho9⟩ := LJ_a hJ hl0 hp9
  refine x_istore F [(5, .int (nI (cdBe σ0 x0))), (4, .int (nI (8 * i))), (3, .ref (o)), (2, .ref (m 0)), (1, .ref (A 0)), (0, .ref (b0))] dL_law_151 (by decide) rfl ?_
  refine x_aload_n F 3 dL_law_153 rfl ?_
  refine x_aload_n F 5 dL_law_154 rfl ?_
  refine x_iload F 1 dL_law_155 rfl ?_
  refine x_iconst F (nI 1) dL_law_157 (by decide) ?_
  refine x_iaddN F dL_law_158 ?_
  refine x_sld F hX hbl hbA (vp_in_nI (n := 8 * i + 1) (by omega) (by omega)) dL_law_159 ?_
  refine x_ri0 (y := x0) (by rw [nI_clamp (n := 8 * i + 1) (by omega), hv_x0]) ?_
  refine x_callV F s_L_93 hRM9.1 rfl rfl (c_X4_beast F.nt hRM9 hI.B) rfl dL_law_160 (by decide) ⟨by omega, by omega⟩ (Nat.le_of_ble_eq_true rfl) x_noX (ki fun r8 M8 hp8 => ?_)
  obtain ⟨hR8, hr8⟩ := hp8
  rw [← hs0] at hR8
  have ht8 : ((if cdBe σ x0 = 0 then beU σ0 x0 else σ0)).1 0 0 = cdBe σ x0 := by (by_cases hz : cdBe σ x0 = 0; (rw [if_pos hz, s0_beast, hs0]; rfl); (rw [if_neg hz, hs0]; rfl))
  refine x_istore F [(6, .int (r8)), (5, .int (nI (cdBe σ0 x0))), (4, .int (nI (8 * i))), (3, .ref (o)), (2, .ref (m 0)), (1, .ref (A 0)), (0, .ref (b0))] dL_law_163 (by decide) rfl ?_
  refine x_aload_n F 4 dL_law_165 rfl ?_
  refine x_callV F s_L_94 hR8.1 rfl rfl (c_X4_thrown F.nt hR8) rfl dL_law_166 (by decide) ⟨by omega, by omega⟩ (Nat.le_of_ble_eq_true rfl) x_noX (ki fun r7 M7 hp7 => ?_)
  obtain ⟨rfl, rfl⟩ := hp7
  refine x_iload F 1 dL_law_169 rfl ?_
  refine x_icmp_eq F 176 dL_law_171 (by decide) (fun _ => ?_) (fun c9 => absurd (by rw [ht8, hc0]) c9)
  refine x_iload F 1 dL_law_176 rfl ?_
  refine x_if_ne F 193 dL_law_178 (by decide) (fun c9 => ?_) (fun c9 => ?_)
  · have hz : ¬ cdBe σ x0 = 0 := fun z => c9 (by rw [hc0, z]; rfl)
    skip
    refine x_goto F 1548 dL_law_193 (by decide) ?_
    refine x_sub [2, 3, 4, 5, 6] rfl (L' := [(4, .int (nI (8 * i))), (3, .ref (o)), (2, .ref (m 0)), (1, .ref (A 0)), (0, .ref (b0))]) ?_
    refine x_widen (a' := a + 100) (b' := b + 1000) (by omega) (by omega) ?_
    rw [if_neg hz] at hR8
    rw [hc0, if_neg hz] at hCM9 hd9 ho9
    exact kk A2 _ M8 hA20 (LJ_b hCM9 hd9 hO9 ho9 hJ.2.2.2.2.2 hR8).1 (Inv_s hI0)
  · have hz : cdBe σ x0 = 0 := hc0.symm.trans ((nI_z (Nat.lt_trans lt_cdBe (by decide))).mp c9)
    have hq : nI (σ0.1 6 0) = r8 := by (rw [hr8 hz]; subst hs0; rfl)
    refine x_aload_n F 3 dL_law_181 rfl ?_
    refine x_iconst F (nI 0) dL_law_182 (by decide) ?_
    have hO8 : M8 o = some (.inl (gC g 1, 1, .inr (.inl f9))) := (hR8.2.2.1 o hJ.2.2.2.2.2).trans hO9
    refine x_lald F hO8 (vp_in_nI (n := 0) (by decide) (by decide)) dL_law_183 ?_
    refine x_rl0 (y := (nI (σ0.1 6 0)).toInt64) (by rw [nI_clamp (n := 0) (by decide)]; exact hf9 (hc0.trans hz)) ?_
    refine x_iload F 0 dL_law_184 rfl ?_
    refine x_i2l F dL_law_186 ?_
    refine x_lcmp F dL_law_187 ?_
    refine x_if_eq F 193 dL_law_188 (by decide) (fun _ => ?_) (fun c7 => absurd ((lg_cmp_eq _ _).mpr (congrArg Int32.toInt64 hq)) c7)
    skip
    refine x_goto F 1548 dL_law_193 (by decide) ?_
    refine x_sub [2, 3, 4, 5, 6] rfl (L' := [(4, .int (nI (8 * i))), (3, .ref (o)), (2, .ref (m 0)), (1, .ref (A 0)), (0, .ref (b0))]) ?_
    refine x_widen (a' := a + 100) (b' := b + 1000) (by omega) (by omega) ?_
    rw [if_pos hz] at hR8
    rw [hc0, if_pos hz] at hCM9 hd9 ho9
    have hJ8 := (LJ_b hCM9 hd9 hO9 ho9 hJ.2.2.2.2.2 hR8).1
    exact kk A2 _ M8 hA20 hJ8 (IV_beast hI0 h512 (hc0.trans hz))
set_option maxHeartbeats 4000000 in
set_option maxRecDepth 100000 in
theorem blk_rider {K : KX} {g : GP} {Q : State → Prop} {M : MM} {A : Nat → Nat} {m : Nat → Nat} {σ : ST} {a b b0 L0 i o : Nat} {xs : Nat → Int32} {hh9 : List (Nat × Nat × Nat × Nat)} (F : Fx K g cL_law RL 7 (some .boolean) hh9 12 460 601024 7293034) (hX : va_X b0 L0 xs (ks K) (ks K).heap) (hbl : b0 < (ks K).heap.size) (hbA : ¬ gO g b0) (hL0 : L0 ≤ 4096) (hi : 8 * i + 8 ≤ L0) (ha : a + 100 ≤ 601024) (hb : b + 1000 ≤ 7293034) (hJ : LJ g A m σ M o) (hI : Inv i σ) (kk : ∀ A3 σ3 M3, A3 0 = A 0 → LJ g A3 m σ3 M3 o → Inv (i + 1) σ3 → XW K g 7 Q M3 (a + 100) (b + 1000) 1548 [(4, .int (nI (8 * i))), (3, .ref (o)), (2, .ref (m 0)), (1, .ref (A 0)), (0, .ref (b0))] []) : XW K g 7 Q M a b 196 [(4, .int (nI (8 * i))), (3, .ref (o)), (2, .ref (m 0)), (1, .ref (A 0)), (0, .ref (b0))] [] := by
  have h512 : i < 512 := by omega
  obtain ⟨σ0, hs0⟩ : ∃ z, z = uN σ 0 0 (cdRd σ) := ⟨_, rfl⟩
  have hI0 : Inv i σ0 := hs0 ▸ Inv_0 hI _
  have hC0 : CM g A M σ0 M := hs0 ▸ CM_0 hJ.1 _
  have hc0 : cdRd σ0 = cdRd σ := by first | rfl | (rw [hs0]; rfl)
  have hl0 : ∀ c, lvB σ0 c = lvB σ c := fun c => by rw [hs0]; exact lv_u0
  obtain ⟨fo, hO⟩ := hJ.2.2.2.1
  have ho : ∀ c, lvB σ0 c = true → o ≠ A c := fun c hc => hJ.2.2.2.2.1 c ((hl0 c).symm.trans hc)
  refine x_aload_n F 3 dL_law_196 rfl ?_
  refine x_aload_n F 1 dL_law_197 rfl ?_
  refine x_callH F w_h_rider rfl (c_L_rider F.nt hC0 hI0.B hO ho) rfl dL_law_198 (by decide) ⟨by omega, by omega⟩ (Nat.le_of_ble_eq_true rfl) (ki fun r9 M9 hp9 => ?_)
  obtain ⟨rfl, hp9⟩ := hp9
  obtain ⟨A2, hA20, hRM9, hCM9, hd9, ⟨f9, hO9, hf9⟩, ho9⟩ := LJ_a hJ hl0 hp9
  refine x_istore F [(5, .int (nI (cdRd σ0))), (4, .int (nI (8 * i))), (3, .ref (o)), (2, .ref (m 0)), (1, .ref (A 0)), (0, .ref (b0))] dL_law_201 (by decide) rfl ?_
  refine x_aload_n F 3 dL_law_203 rfl ?_
  refine x_callV F s_L_100 hRM9.1 rfl rfl (c_X4_rider F.nt hRM9 hI.B) rfl dL_law_204 (by decide) ⟨by omega, by omega⟩ (Nat.le_of_ble_eq_true rfl) x_noX (ki fun r8 M8 hp8 => ?_)
  obtain ⟨hR8, hr8⟩ := hp8
  rw [← hs0] at hR8
  have ht8 : ((if cdRd σ = 0 then rdU σ0 else σ0)).1 0 0 = cdRd σ := by (by_cases hz : cdRd σ = 0; (rw [if_pos hz, s0_rider, hs0]; rfl); (rw [if_neg hz, hs0]; rfl))
  refine x_istore F [(6, .int (r8)), (5, .int (nI (cdRd σ0))), (4, .int (nI (8 * i))), (3, .ref (o)), (2, .ref (m 0)), (1, .ref (A 0)), (0, .ref (b0))] dL_law_207 (by decide) rfl ?_
  refine x_aload_n F 4 dL_law_209 rfl ?_
  refine x_callV F s_L_94 hR8.1 rfl rfl (c_X4_thrown F.nt hR8) rfl dL_law_210 (by decide) ⟨by omega, by omega⟩ (Nat.le_of_ble_eq_true rfl) x_noX (ki fun r7 M7 hp7 => ?_)
  obtain ⟨rfl, rfl⟩ := hp7
  refine x_iload F 1 dL_law_213 rfl ?_
  refine x_icmp_eq F 220 dL_law_215 (by decide) (fun _ => ?_) (fun c9 => absurd (by rw [ht8, hc0]) c9)
  refine x_iload F 1 dL_law_220 rfl ?_
  refine x_if_ne F 237 dL_law_222 (by decide) (fun c9 => ?_) (fun c9 => ?_)
  · have hz : ¬ cdRd σ = 0 := fun z => c9 (by rw [hc0, z]; rfl)
    skip
    refine x_goto F 1548 dL_law_237 (by decide) ?_
    refine x_sub [2, 3, 4, 5, 6] rfl (L' := [(4, .int (nI (8 * i))), (3, .ref (o)), (2, .ref (m 0)), (1, .ref (A 0)), (0, .ref (b0))]) ?_
    refine x_widen (a' := a + 100) (b' := b + 1000) (by omega) (by omega) ?_
    rw [if_neg hz] at hR8
    rw [hc0, if_neg hz] at hCM9 hd9 ho9
    exact kk A2 _ M8 hA20 (LJ_b hCM9 hd9 hO9 ho9 hJ.2.2.2.2.2 hR8).1 (Inv_s hI0)
  · have hz : cdRd σ = 0 := hc0.symm.trans ((nI_z (Nat.lt_trans lt_cdRd (by decide))).mp c9)
    have hq : nI (σ0.1 7 0) = r8 := by (rw [hr8 hz]; subst hs0; rfl)
    refine x_aload_n F 3 dL_law_225 rfl ?_
    refine x_iconst F (nI 0) dL_law_226 (by decide) ?_
    have hO8 : M8 o = some (.inl (gC g 1, 1, .inr (.inl f9))) := (hR8.2.2.1 o hJ.2.2.2.2.2).trans hO9
    refine x_lald F hO8 (vp_in_nI (n := 0) (by decide) (by decide)) dL_law_227 ?_
    refine x_rl0 (y := (nI (σ0.1 7 0)).toInt64) (by rw [nI_clamp (n := 0) (by decide)]; exact hf9 (hc0.trans hz)) ?_
    refine x_iload F 0 dL_law_228 rfl ?_
    refine x_i2l F dL_law_230 ?_
    refine x_lcmp F dL_law_231 ?_
    refine x_if_eq F 237 dL_law_232 (by decide) (fun _ => ?_) (fun c7 => absurd ((lg_cmp_eq _ _).mpr (congrArg Int32.toInt64 hq)) c7)
    skip
    refine x_goto F 1548 dL_law_237 (by decide) ?_
    refine x_sub [2, 3, 4, 5, 6] rfl (L' := [(4, .int (nI (8 * i))), (3, .ref (o)), (2, .ref (m 0)), (1, .ref (A 0)), (0, .ref (b0))]) ?_
    refine x_widen (a' := a + 100) (b' := b + 1000) (by omega) (by omega) ?_
    rw [if_pos hz] at hR8
    rw [hc0, if_pos hz] at hCM9 hd9 ho9
    have hJ8 := (LJ_b hCM9 hd9 hO9 ho9 hJ.2.2.2.2.2 hR8).1
    exact kk A2 _ M8 hA20 hJ8 (IV_rider hI0 h512 (hc0.trans hz))
set_option maxHeartbeats 4000000 in
set_option maxRecDepth 100000 in
theorem blk_rodeo {K : KX} {g : GP} {Q : State → Prop} {M : MM} {A : Nat → Nat} {m : Nat → Nat} {σ : ST} {a b b0 L0 i o : Nat} {xs : Nat → Int32} {hh9 : List (Nat × Nat × Nat × Nat)} (F : Fx K g cL_law RL 7 (some .boolean) hh9 12 460 601024 7293034) (hX : va_X b0 L0 xs (ks K) (ks K).heap) (hbl : b0 < (ks K).heap.size) (hbA : ¬ gO g b0) (hL0 : L0 ≤ 4096) (hi : 8 * i + 8 ≤ L0) (ha : a + 100 ≤ 601024) (hb : b + 1000 ≤ 7293034) (hJ : LJ g A m σ M o) (hI : Inv i σ) (kk : ∀ A3 σ3 M3, A3 0 = A 0 → LJ g A3 m σ3 M3 o → Inv (i + 1) σ3 → XW K g 7 Q M3 (a + 100) (b + 1000) 1548 [(4, .int (nI (8 * i))), (3, .ref (o)), (2, .ref (m 0)), (1, .ref (A 0)), (0, .ref (b0))] []) : XW K g 7 Q M a b 240 [(4, .int (nI (8 * i))), (3, .ref (o)), (2, .ref (m 0)), (1, .ref (A 0)), (0, .ref (b0))] [] := by
  obtain ⟨a0, hv_a0⟩ : ∃ z, z = xs (8 * i + 1) := ⟨_, rfl⟩
  obtain ⟨a1, hv_a1⟩ : ∃ z, z = xs (8 * i + 2) := ⟨_, rfl⟩
  obtain ⟨a2, hv_a2⟩ : ∃ z, z = xs (8 * i + 3) := ⟨_, rfl⟩
  obtain ⟨a3, hv_a3⟩ : ∃ z, z = xs (8 * i + 4) := ⟨_, rfl⟩
  obtain ⟨a4, hv_a4⟩ : ∃ z, z = xs (8 * i + 5) := ⟨_, rfl⟩
  obtain ⟨a5, hv_a5⟩ : ∃ z, z = xs (8 * i + 6) := ⟨_, rfl⟩
  obtain ⟨a6, hv_a6⟩ : ∃ z, z = xs (8 * i + 7) := ⟨_, rfl⟩
  have h512 : i < 512 := by omega
  obtain ⟨σ0, hs0⟩ : ∃ z, z = uN σ 0 0 (cdRo σ a0 a1 a2 a3 a4 a5 a6) := ⟨_, rfl⟩
  have hI0 : Inv i σ0 := hs0 ▸ Inv_0 hI _
  have hC0 : CM g A M σ0 M := hs0 ▸ CM_0 hJ.1 _
  have hc0 : cdRo σ0 a0 a1 a2 a3 a4 a5 a6 = cdRo σ a0 a1 a2 a3 a4 a5 a6 := by first | rfl | (rw [hs0]; rfl)
  have hl0 : ∀ c, lvB σ0 c = lvB σ c := fun c => by rw [hs0]; exact lv_u0
  obtain ⟨fo, hO⟩ := hJ.2.2.2.1
  have ho : ∀ c, lvB σ0 c = true → o ≠ A c := fun c hc => hJ.2.2.2.2.1 c ((hl0 c).symm.trans hc)
  refine x_aload_n F 3 dL_law_240 rfl ?_
  refine x_aload_n F 4 dL_law_241 rfl ?_
  refine x_iload F 0 dL_law_242 rfl ?_
  refine x_iconst F (nI 1) dL_law_244 (by decide) ?_
  refine x_iaddN F dL_law_245 ?_
  refine x_sld F hX hbl hbA (vp_in_nI (n := 8 * i + 1) (by omega) (by omega)) dL_law_246 ?_
  refine x_ri0 (y := a0) (by rw [nI_clamp (n := 8 * i + 1) (by omega), hv_a0]) ?_
  refine x_aload_n F 4 dL_law_247 rfl ?_
  refine x_iload F 0 dL_law_248 rfl ?_
  refine x_iconst F (nI 2) dL_law_250 (by decide) ?_
  refine x_iaddN F dL_law_251 ?_
  refine x_sld F hX hbl hbA (vp_in_nI (n := 8 * i + 2) (by omega) (by omega)) dL_law_252 ?_
  refine x_ri0 (y := a1) (by rw [nI_clamp (n := 8 * i + 2) (by omega), hv_a1]) ?_
  refine x_aload_n F 4 dL_law_253 rfl ?_
  refine x_iload F 0 dL_law_254 rfl ?_
  refine x_iconst F (nI 3) dL_law_256 (by decide) ?_
  refine x_iaddN F dL_law_257 ?_
  refine x_sld F hX hbl hbA (vp_in_nI (n := 8 * i + 3) (by omega) (by omega)) dL_law_258 ?_
  refine x_ri0 (y := a2) (by rw [nI_clamp (n := 8 * i + 3) (by omega), hv_a2]) ?_
  refine x_aload_n F 4 dL_law_259 rfl ?_
  refine x_iload F 0 dL_law_260 rfl ?_
  refine x_iconst F (nI 4) dL_law_262 (by decide) ?_
  refine x_iaddN F dL_law_263 ?_
  refine x_sld F hX hbl hbA (vp_in_nI (n := 8 * i + 4) (by omega) (by omega)) dL_law_264 ?_
  refine x_ri0 (y := a3) (by rw [nI_clamp (n := 8 * i + 4) (by omega), hv_a3]) ?_
  refine x_aload_n F 4 dL_law_265 rfl ?_
  refine x_iload F 0 dL_law_266 rfl ?_
  refine x_iconst F (nI 5) dL_law_268 (by decide) ?_
  refine x_iaddN F dL_law_269 ?_
  refine x_sld F hX hbl hbA (vp_in_nI (n := 8 * i + 5) (by omega) (by omega)) dL_law_270 ?_
  refine x_ri0 (y := a4) (by rw [nI_clamp (n := 8 * i + 5) (by omega), hv_a4]) ?_
  refine x_aload_n F 4 dL_law_271 rfl ?_
  refine x_iload F 0 dL_law_272 rfl ?_
  refine x_bipush F (nI 6) dL_law_274 (by decide) ?_
  refine x_iaddN F dL_law_276 ?_
  refine x_sld F hX hbl hbA (vp_in_nI (n := 8 * i + 6) (by omega) (by omega)) dL_law_277 ?_
  refine x_ri0 (y := a5) (by rw [nI_clamp (n := 8 * i + 6) (by omega), hv_a5]) ?_
  refine x_aload_n F 4 dL_law_278 rfl ?_
  refine x_iload F 0 dL_law_279 rfl ?_
  refine x_bipush F (nI 7) dL_law_281 (by decide) ?_
  refine x_iaddN F dL_law_283 ?_
  refine x_sld F hX hbl hbA (vp_in_nI (n := 8 * i + 7) (by omega) (by omega)) dL_law_284 ?_
  refine x_ri0 (y := a6) (by rw [nI_clamp (n := 8 * i + 7) (by omega), hv_a6]) ?_
  refine x_aload_n F 1 dL_law_285 rfl ?_
  refine x_callH F w_h_rodeo rfl (c_L_rodeo F.nt hC0 hI0.B hI0.W hI0.be hI0.zr hO ho) rfl dL_law_286 (by decide) ⟨by omega, by omega⟩ (Nat.le_of_ble_eq_true rfl) (ki fun r9 M9 hp9 => ?_)
  obtain ⟨rfl, hp9⟩ := hp9
  obtain ⟨A2, hA20, hRM9, hCM9, hd9, ⟨f9, hO9, hf9⟩, ho9⟩ := LJ_a hJ hl0 hp9
  refine x_istore F [(5, .int (nI (cdRo σ0 a0 a1 a2 a3 a4 a5 a6))), (4, .int (nI (8 * i))), (3, .ref (o)), (2, .ref (m 0)), (1, .ref (A 0)), (0, .ref (b0))] dL_law_289 (by decide) rfl ?_
  refine x_aload_n F 3 dL_law_291 rfl ?_
  refine x_aload_n F 5 dL_law_292 rfl ?_
  refine x_iload F 1 dL_law_293 rfl ?_
  refine x_iconst F (nI 1) dL_law_295 (by decide) ?_
  refine x_iaddN F dL_law_296 ?_
  refine x_sld F hX hbl hbA (vp_in_nI (n := 8 * i + 1) (by omega) (by omega)) dL_law_297 ?_
  refine x_ri0 (y := a0) (by rw [nI_clamp (n := 8 * i + 1) (by omega), hv_a0]) ?_
  refine x_aload_n F 5 dL_law_298 rfl ?_
  refine x_iload F 1 dL_law_299 rfl ?_
  refine x_iconst F (nI 2) dL_law_301 (by decide) ?_
  refine x_iaddN F dL_law_302 ?_
  refine x_sld F hX hbl hbA (vp_in_nI (n := 8 * i + 2) (by omega) (by omega)) dL_law_303 ?_
  refine x_ri0 (y := a1) (by rw [nI_clamp (n := 8 * i + 2) (by omega), hv_a1]) ?_
  refine x_aload_n F 5 dL_law_304 rfl ?_
  refine x_iload F 1 dL_law_305 rfl ?_
  refine x_iconst F (nI 3) dL_law_307 (by decide) ?_
  refine x_iaddN F dL_law_308 ?_
  refine x_sld F hX hbl hbA (vp_in_nI (n := 8 * i + 3) (by omega) (by omega)) dL_law_309 ?_
  refine x_ri0 (y := a2) (by rw [nI_clamp (n := 8 * i + 3) (by omega), hv_a2]) ?_
  refine x_aload_n F 5 dL_law_310 rfl ?_
  refine x_iload F 1 dL_law_311 rfl ?_
  refine x_iconst F (nI 4) dL_law_313 (by decide) ?_
  refine x_iaddN F dL_law_314 ?_
  refine x_sld F hX hbl hbA (vp_in_nI (n := 8 * i + 4) (by omega) (by omega)) dL_law_315 ?_
  refine x_ri0 (y := a3) (by rw [nI_clamp (n := 8 * i + 4) (by omega), hv_a3]) ?_
  refine x_aload_n F 5 dL_law_316 rfl ?_
  refine x_iload F 1 dL_law_317 rfl ?_
  refine x_iconst F (nI 5) dL_law_319 (by decide) ?_
  refine x_iaddN F dL_law_320 ?_
  refine x_sld F hX hbl hbA (vp_in_nI (n := 8 * i + 5) (by omega) (by omega)) dL_law_321 ?_
  refine x_ri0 (y := a4) (by rw [nI_clamp (n := 8 * i + 5) (by omega), hv_a4]) ?_
  refine x_aload_n F 5 dL_law_322 rfl ?_
  refine x_iload F 1 dL_law_323 rfl ?_
  refine x_bipush F (nI 6) dL_law_325 (by decide) ?_
  refine x_iaddN F dL_law_327 ?_
  refine x_sld F hX hbl hbA (vp_in_nI (n := 8 * i + 6) (by omega) (by omega)) dL_law_328 ?_
  refine x_ri0 (y := a5) (by rw [nI_clamp (n := 8 * i + 6) (by omega), hv_a5]) ?_
  refine x_aload_n F 5 dL_law_329 rfl ?_
  refine x_iload F 1 dL_law_330 rfl ?_
  refine x_bipush F (nI 7) dL_law_332 (by decide) ?_
  refine x_iaddN F dL_law_334 ?_
  refine x_sld F hX hbl hbA (vp_in_nI (n := 8 * i + 7) (by omega) (by omega)) dL_law_335 ?_
  refine x_ri0 (y := a6) (by rw [nI_clamp (n := 8 * i + 7) (by omega), hv_a6]) ?_
  refine x_callV F s_L_104 hRM9.1 rfl rfl (c_X4_rodeo F.nt hRM9 hI.B) rfl dL_law_336 (by decide) ⟨by omega, by omega⟩ (Nat.le_of_ble_eq_true rfl) x_noX (ki fun r8 M8 hp8 => ?_)
  obtain ⟨hR8, hr8⟩ := hp8
  rw [← hs0] at hR8
  have ht8 : ((if cdRo σ a0 a1 a2 a3 a4 a5 a6 = 0 then roU σ0 a0 a1 a2 a3 a4 a5 a6 else σ0)).1 0 0 = cdRo σ a0 a1 a2 a3 a4 a5 a6 := by (by_cases hz : cdRo σ a0 a1 a2 a3 a4 a5 a6 = 0; (rw [if_pos hz, s0_rodeo, hs0]; rfl); (rw [if_neg hz, hs0]; rfl))
  refine x_istore F [(6, .int (r8)), (5, .int (nI (cdRo σ0 a0 a1 a2 a3 a4 a5 a6))), (4, .int (nI (8 * i))), (3, .ref (o)), (2, .ref (m 0)), (1, .ref (A 0)), (0, .ref (b0))] dL_law_339 (by decide) rfl ?_
  refine x_aload_n F 4 dL_law_341 rfl ?_
  refine x_callV F s_L_94 hR8.1 rfl rfl (c_X4_thrown F.nt hR8) rfl dL_law_342 (by decide) ⟨by omega, by omega⟩ (Nat.le_of_ble_eq_true rfl) x_noX (ki fun r7 M7 hp7 => ?_)
  obtain ⟨rfl, rfl⟩ := hp7
  refine x_iload F 1 dL_law_345 rfl ?_
  refine x_icmp_eq F 352 dL_law_347 (by decide) (fun _ => ?_) (fun c9 => absurd (by rw [ht8, hc0]) c9)
  refine x_iload F 1 dL_law_352 rfl ?_
  refine x_if_ne F 369 dL_law_354 (by decide) (fun c9 => ?_) (fun c9 => ?_)
  · have hz : ¬ cdRo σ a0 a1 a2 a3 a4 a5 a6 = 0 := fun z => c9 (by rw [hc0, z]; rfl)
    skip
    refine x_goto F 1548 dL_law_369 (by decide) ?_
    refine x_sub [2, 3, 4, 5, 6] rfl (L' := [(4, .int (nI (8 * i))), (3, .ref (o)), (2, .ref (m 0)), (1, .ref (A 0)), (0, .ref (b0))]) ?_
    refine x_widen (a' := a + 100) (b' := b + 1000) (by omega) (by omega) ?_
    rw [if_neg hz] at hR8
    rw [hc0, if_neg hz] at hCM9 hd9 ho9
    exact kk A2 _ M8 hA20 (LJ_b hCM9 hd9 hO9 ho9 hJ.2.2.2.2.2 hR8).1 (Inv_s hI0)
  · have hz : cdRo σ a0 a1 a2 a3 a4 a5 a6 = 0 := hc0.symm.trans ((nI_z (Nat.lt_trans lt_cdRo (by decide))).mp c9)
    have hq : nI (σ0.1 18 0) = r8 := by (rw [hr8 hz]; subst hs0; rfl)
    refine x_aload_n F 3 dL_law_357 rfl ?_
    refine x_iconst F (nI 0) dL_law_358 (by decide) ?_
    have hO8 : M8 o = some (.inl (gC g 1, 1, .inr (.inl f9))) := (hR8.2.2.1 o hJ.2.2.2.2.2).trans hO9
    refine x_lald F hO8 (vp_in_nI (n := 0) (by decide) (by decide)) dL_law_359 ?_
    refine x_rl0 (y := (nI (σ0.1 18 0)).toInt64) (by rw [nI_clamp (n := 0) (by decide)]; exact hf9 (hc0.trans hz)) ?_
    refine x_iload F 0 dL_law_360 rfl ?_
    refine x_i2l F dL_law_362 ?_
    refine x_lcmp F dL_law_363 ?_
    refine x_if_eq F 369 dL_law_364 (by decide) (fun _ => ?_) (fun c7 => absurd ((lg_cmp_eq _ _).mpr (congrArg Int32.toInt64 hq)) c7)
    skip
    refine x_goto F 1548 dL_law_369 (by decide) ?_
    refine x_sub [2, 3, 4, 5, 6] rfl (L' := [(4, .int (nI (8 * i))), (3, .ref (o)), (2, .ref (m 0)), (1, .ref (A 0)), (0, .ref (b0))]) ?_
    refine x_widen (a' := a + 100) (b' := b + 1000) (by omega) (by omega) ?_
    rw [if_pos hz] at hR8
    rw [hc0, if_pos hz] at hCM9 hd9 ho9
    have hJ8 := (LJ_b hCM9 hd9 hO9 ho9 hJ.2.2.2.2.2 hR8).1
    exact kk A2 _ M8 hA20 hJ8 (IV_rodeo hI0 h512 (hc0.trans hz))
set_option maxHeartbeats 4000000 in
set_option maxRecDepth 100000 in
theorem blk_rodeoIs {K : KX} {g : GP} {Q : State → Prop} {M : MM} {A : Nat → Nat} {m : Nat → Nat} {σ : ST} {a b b0 L0 i o : Nat} {xs : Nat → Int32} {hh9 : List (Nat × Nat × Nat × Nat)} (F : Fx K g cL_law RL 7 (some .boolean) hh9 12 460 601024 7293034) (hX : va_X b0 L0 xs (ks K) (ks K).heap) (hbl : b0 < (ks K).heap.size) (hbA : ¬ gO g b0) (hL0 : L0 ≤ 4096) (hi : 8 * i + 8 ≤ L0) (ha : a + 100 ≤ 601024) (hb : b + 1000 ≤ 7293034) (hJ : LJ g A m σ M o) (hI : Inv i σ) (kk : ∀ A3 σ3 M3, A3 0 = A 0 → LJ g A3 m σ3 M3 o → Inv (i + 1) σ3 → XW K g 7 Q M3 (a + 100) (b + 1000) 1548 [(4, .int (nI (8 * i))), (3, .ref (o)), (2, .ref (m 0)), (1, .ref (A 0)), (0, .ref (b0))] []) : XW K g 7 Q M a b 372 [(4, .int (nI (8 * i))), (3, .ref (o)), (2, .ref (m 0)), (1, .ref (A 0)), (0, .ref (b0))] [] := by
  obtain ⟨x0, hv_x0⟩ : ∃ z, z = xs (8 * i + 1) := ⟨_, rfl⟩
  obtain ⟨y0, hv_y0⟩ : ∃ z, z = xs (8 * i + 2) := ⟨_, rfl⟩
  have h512 : i < 512 := by omega
  obtain ⟨σ0, hs0⟩ : ∃ z, z = uN σ 0 0 (cdRI σ x0 y0) := ⟨_, rfl⟩
  have hI0 : Inv i σ0 := hs0 ▸ Inv_0 hI _
  have hC0 : CM g A M σ0 M := hs0 ▸ CM_0 hJ.1 _
  have hc0 : cdRI σ0 x0 y0 = cdRI σ x0 y0 := by first | rfl | (rw [hs0]; rfl)
  have hl0 : ∀ c, lvB σ0 c = lvB σ c := fun c => by rw [hs0]; exact lv_u0
  obtain ⟨fo, hO⟩ := hJ.2.2.2.1
  have ho : ∀ c, lvB σ0 c = true → o ≠ A c := fun c hc => hJ.2.2.2.2.1 c ((hl0 c).symm.trans hc)
  refine x_aload_n F 3 dL_law_372 rfl ?_
  refine x_aload_n F 4 dL_law_373 rfl ?_
  refine x_iload F 0 dL_law_374 rfl ?_
  refine x_iconst F (nI 1) dL_law_376 (by decide) ?_
  refine x_iaddN F dL_law_377 ?_
  refine x_sld F hX hbl hbA (vp_in_nI (n := 8 * i + 1) (by omega) (by omega)) dL_law_378 ?_
  refine x_ri0 (y := x0) (by rw [nI_clamp (n := 8 * i + 1) (by omega), hv_x0]) ?_
  refine x_aload_n F 4 dL_law_379 rfl ?_
  refine x_iload F 0 dL_law_380 rfl ?_
  refine x_iconst F (nI 2) dL_law_382 (by decide) ?_
  refine x_iaddN F dL_law_383 ?_
  refine x_sld F hX hbl hbA (vp_in_nI (n := 8 * i + 2) (by omega) (by omega)) dL_law_384 ?_
  refine x_ri0 (y := y0) (by rw [nI_clamp (n := 8 * i + 2) (by omega), hv_y0]) ?_
  refine x_aload_n F 1 dL_law_385 rfl ?_
  refine x_callH F w_h_rodeoIs rfl (c_L_rodeoIs F.nt hC0 hI0.B hI0.W hI0.D hO ho) rfl dL_law_386 (by decide) ⟨by omega, by omega⟩ (Nat.le_of_ble_eq_true rfl) (ki fun r9 M9 hp9 => ?_)
  obtain ⟨rfl, hp9⟩ := hp9
  obtain ⟨A2, hA20, hRM9, hCM9, hd9, ⟨f9, hO9, hf9⟩, ho9⟩ := LJ_a hJ hl0 hp9
  refine x_istore F [(5, .int (nI (cdRI σ0 x0 y0))), (4, .int (nI (8 * i))), (3, .ref (o)), (2, .ref (m 0)), (1, .ref (A 0)), (0, .ref (b0))] dL_law_389 (by decide) rfl ?_
  refine x_aload_n F 3 dL_law_391 rfl ?_
  refine x_aload_n F 5 dL_law_392 rfl ?_
  refine x_iload F 1 dL_law_393 rfl ?_
  refine x_iconst F (nI 1) dL_law_395 (by decide) ?_
  refine x_iaddN F dL_law_396 ?_
  refine x_sld F hX hbl hbA (vp_in_nI (n := 8 * i + 1) (by omega) (by omega)) dL_law_397 ?_
  refine x_ri0 (y := x0) (by rw [nI_clamp (n := 8 * i + 1) (by omega), hv_x0]) ?_
  refine x_aload_n F 5 dL_law_398 rfl ?_
  refine x_iload F 1 dL_law_399 rfl ?_
  refine x_iconst F (nI 2) dL_law_401 (by decide) ?_
  refine x_iaddN F dL_law_402 ?_
  refine x_sld F hX hbl hbA (vp_in_nI (n := 8 * i + 2) (by omega) (by omega)) dL_law_403 ?_
  refine x_ri0 (y := y0) (by rw [nI_clamp (n := 8 * i + 2) (by omega), hv_y0]) ?_
  refine x_callV F s_L_108 hRM9.1 rfl rfl (c_X4_rodeoIs F.nt hRM9 hI.B) rfl dL_law_404 (by decide) ⟨by omega, by omega⟩ (Nat.le_of_ble_eq_true rfl) x_noX (ki fun r8 M8 hp8 => ?_)
  obtain ⟨hR8, hr8⟩ := hp8
  rw [← hs0] at hR8
  have ht8 : (σ0).1 0 0 = cdRI σ x0 y0 := by rw [hs0]; rfl
  refine x_istore F [(6, .int (r8)), (5, .int (nI (cdRI σ0 x0 y0))), (4, .int (nI (8 * i))), (3, .ref (o)), (2, .ref (m 0)), (1, .ref (A 0)), (0, .ref (b0))] dL_law_407 (by decide) rfl ?_
  refine x_aload_n F 4 dL_law_409 rfl ?_
  refine x_callV F s_L_94 hR8.1 rfl rfl (c_X4_thrown F.nt hR8) rfl dL_law_410 (by decide) ⟨by omega, by omega⟩ (Nat.le_of_ble_eq_true rfl) x_noX (ki fun r7 M7 hp7 => ?_)
  obtain ⟨rfl, rfl⟩ := hp7
  refine x_iload F 1 dL_law_413 rfl ?_
  refine x_icmp_eq F 420 dL_law_415 (by decide) (fun _ => ?_) (fun c9 => absurd (by rw [ht8, hc0]) c9)
  refine x_iload F 1 dL_law_420 rfl ?_
  refine x_if_ne F 437 dL_law_422 (by decide) (fun c9 => ?_) (fun c9 => ?_)
  · have hz : ¬ cdRI σ x0 y0 = 0 := fun z => c9 (by rw [hc0, z]; rfl)
    skip
    refine x_goto F 1548 dL_law_437 (by decide) ?_
    refine x_sub [2, 3, 4, 5, 6] rfl (L' := [(4, .int (nI (8 * i))), (3, .ref (o)), (2, .ref (m 0)), (1, .ref (A 0)), (0, .ref (b0))]) ?_
    refine x_widen (a' := a + 100) (b' := b + 1000) (by omega) (by omega) ?_
    exact kk A2 _ M8 hA20 (LJ_b hCM9 hd9 hO9 ho9 hJ.2.2.2.2.2 hR8).1 (Inv_s hI0)
  · have hz : cdRI σ x0 y0 = 0 := hc0.symm.trans ((nI_z (Nat.lt_trans lt_cdRI (by decide))).mp c9)
    have hq : tellsS σ0 (cl x0) y0 = r8 := by (rw [hr8 hz]; subst hs0; rfl)
    refine x_aload_n F 3 dL_law_425 rfl ?_
    refine x_iconst F (nI 0) dL_law_426 (by decide) ?_
    have hO8 : M8 o = some (.inl (gC g 1, 1, .inr (.inl f9))) := (hR8.2.2.1 o hJ.2.2.2.2.2).trans hO9
    refine x_lald F hO8 (vp_in_nI (n := 0) (by decide) (by decide)) dL_law_427 ?_
    refine x_rl0 (y := (tellsS σ0 (cl x0) y0).toInt64) (by rw [nI_clamp (n := 0) (by decide)]; exact hf9 (hc0.trans hz)) ?_
    refine x_iload F 0 dL_law_428 rfl ?_
    refine x_i2l F dL_law_430 ?_
    refine x_lcmp F dL_law_431 ?_
    refine x_if_eq F 437 dL_law_432 (by decide) (fun _ => ?_) (fun c7 => absurd ((lg_cmp_eq _ _).mpr (congrArg Int32.toInt64 hq)) c7)
    skip
    refine x_goto F 1548 dL_law_437 (by decide) ?_
    refine x_sub [2, 3, 4, 5, 6] rfl (L' := [(4, .int (nI (8 * i))), (3, .ref (o)), (2, .ref (m 0)), (1, .ref (A 0)), (0, .ref (b0))]) ?_
    refine x_widen (a' := a + 100) (b' := b + 1000) (by omega) (by omega) ?_
    have hJ8 := (LJ_b hCM9 hd9 hO9 ho9 hJ.2.2.2.2.2 hR8).1
    exact kk A2 _ M8 hA20 hJ8 (Inv_s hI0)
set_option maxHeartbeats 4000000 in
set_option maxRecDepth 100000 in
theorem blk_enter {K : KX} {g : GP} {Q : State → Prop} {M : MM} {A : Nat → Nat} {m : Nat → Nat} {σ : ST} {a b b0 L0 i o : Nat} {xs : Nat → Int32} {hh9 : List (Nat × Nat × Nat × Nat)} (F : Fx K g cL_law RL 7 (some .boolean) hh9 12 460 601024 7293034) (hX : va_X b0 L0 xs (ks K) (ks K).heap) (hbl : b0 < (ks K).heap.size) (hbA : ¬ gO g b0) (hL0 : L0 ≤ 4096) (hi : 8 * i + 8 ≤ L0) (ha : a + 100 ≤ 601024) (hb : b + 1000 ≤ 7293034) (hJ : LJ g A m σ M o) (hI : Inv i σ) (kk : ∀ A3 σ3 M3, A3 0 = A 0 → LJ g A3 m σ3 M3 o → Inv (i + 1) σ3 → XW K g 7 Q M3 (a + 100) (b + 1000) 1548 [(4, .int (nI (8 * i))), (3, .ref (o)), (2, .ref (m 0)), (1, .ref (A 0)), (0, .ref (b0))] []) : XW K g 7 Q M a b 440 [(4, .int (nI (8 * i))), (3, .ref (o)), (2, .ref (m 0)), (1, .ref (A 0)), (0, .ref (b0))] [] := by
  obtain ⟨x0, hv_x0⟩ : ∃ z, z = xs (8 * i + 1) := ⟨_, rfl⟩
  obtain ⟨y0, hv_y0⟩ : ∃ z, z = xs (8 * i + 2) := ⟨_, rfl⟩
  obtain ⟨s0, hv_s0⟩ : ∃ z, z = xs (8 * i + 3) := ⟨_, rfl⟩
  obtain ⟨w0, hv_w0⟩ : ∃ z, z = xs (8 * i + 4) := ⟨_, rfl⟩
  have h512 : i < 512 := by omega
  obtain ⟨σ0, hs0⟩ : ∃ z, z = uN σ 0 0 (cdEn σ x0 y0 s0 w0) := ⟨_, rfl⟩
  have hI0 : Inv i σ0 := hs0 ▸ Inv_0 hI _
  have hC0 : CM g A M σ0 M := hs0 ▸ CM_0 hJ.1 _
  have hc0 : cdEn σ0 x0 y0 s0 w0 = cdEn σ x0 y0 s0 w0 := by first | rfl | (rw [hs0]; rfl)
  have hl0 : ∀ c, lvB σ0 c = lvB σ c := fun c => by rw [hs0]; exact lv_u0
  obtain ⟨fo, hO⟩ := hJ.2.2.2.1
  have ho : ∀ c, lvB σ0 c = true → o ≠ A c := fun c hc => hJ.2.2.2.2.1 c ((hl0 c).symm.trans hc)
  refine x_aload_n F 3 dL_law_440 rfl ?_
  refine x_aload_n F 4 dL_law_441 rfl ?_
  refine x_iload F 0 dL_law_442 rfl ?_
  refine x_iconst F (nI 1) dL_law_444 (by decide) ?_
  refine x_iaddN F dL_law_445 ?_
  refine x_sld F hX hbl hbA (vp_in_nI (n := 8 * i + 1) (by omega) (by omega)) dL_law_446 ?_
  refine x_ri0 (y := x0) (by rw [nI_clamp (n := 8 * i + 1) (by omega), hv_x0]) ?_
  refine x_aload_n F 4 dL_law_447 rfl ?_
  refine x_iload F 0 dL_law_448 rfl ?_
  refine x_iconst F (nI 2) dL_law_450 (by decide) ?_
  refine x_iaddN F dL_law_451 ?_
  refine x_sld F hX hbl hbA (vp_in_nI (n := 8 * i + 2) (by omega) (by omega)) dL_law_452 ?_
  refine x_ri0 (y := y0) (by rw [nI_clamp (n := 8 * i + 2) (by omega), hv_y0]) ?_
  refine x_aload_n F 4 dL_law_453 rfl ?_
  refine x_iload F 0 dL_law_454 rfl ?_
  refine x_iconst F (nI 3) dL_law_456 (by decide) ?_
  refine x_iaddN F dL_law_457 ?_
  refine x_sld F hX hbl hbA (vp_in_nI (n := 8 * i + 3) (by omega) (by omega)) dL_law_458 ?_
  refine x_ri0 (y := s0) (by rw [nI_clamp (n := 8 * i + 3) (by omega), hv_s0]) ?_
  refine x_aload_n F 4 dL_law_459 rfl ?_
  refine x_iload F 0 dL_law_460 rfl ?_
  refine x_iconst F (nI 4) dL_law_462 (by decide) ?_
  refine x_iaddN F dL_law_463 ?_
  refine x_sld F hX hbl hbA (vp_in_nI (n := 8 * i + 4) (by omega) (by omega)) dL_law_464 ?_
  refine x_ri0 (y := w0) (by rw [nI_clamp (n := 8 * i + 4) (by omega), hv_w0]) ?_
  refine x_aload_n F 1 dL_law_465 rfl ?_
  refine x_callH F w_h_enter rfl (c_L_enter F.nt hC0 hI0.B hI0.W hI0.D hI0.be hI0.p1 hI0.hlt hO ho) rfl dL_law_466 (by decide) ⟨by omega, by omega⟩ (Nat.le_of_ble_eq_true rfl) (ki fun r9 M9 hp9 => ?_)
  obtain ⟨rfl, hp9⟩ := hp9
  obtain ⟨A2, hA20, hRM9, hCM9, hd9, ⟨f9, hO9, hf9⟩, ho9⟩ := LJ_a hJ hl0 hp9
  refine x_istore F [(5, .int (nI (cdEn σ0 x0 y0 s0 w0))), (4, .int (nI (8 * i))), (3, .ref (o)), (2, .ref (m 0)), (1, .ref (A 0)), (0, .ref (b0))] dL_law_469 (by decide) rfl ?_
  refine x_aload_n F 3 dL_law_471 rfl ?_
  refine x_aload_n F 5 dL_law_472 rfl ?_
  refine x_iload F 1 dL_law_473 rfl ?_
  refine x_iconst F (nI 1) dL_law_475 (by decide) ?_
  refine x_iaddN F dL_law_476 ?_
  refine x_sld F hX hbl hbA (vp_in_nI (n := 8 * i + 1) (by omega) (by omega)) dL_law_477 ?_
  refine x_ri0 (y := x0) (by rw [nI_clamp (n := 8 * i + 1) (by omega), hv_x0]) ?_
  refine x_aload_n F 5 dL_law_478 rfl ?_
  refine x_iload F 1 dL_law_479 rfl ?_
  refine x_iconst F (nI 2) dL_law_481 (by decide) ?_
  refine x_iaddN F dL_law_482 ?_
  refine x_sld F hX hbl hbA (vp_in_nI (n := 8 * i + 2) (by omega) (by omega)) dL_law_483 ?_
  refine x_ri0 (y := y0) (by rw [nI_clamp (n := 8 * i + 2) (by omega), hv_y0]) ?_
  refine x_aload_n F 5 dL_law_484 rfl ?_
  refine x_iload F 1 dL_law_485 rfl ?_
  refine x_iconst F (nI 3) dL_law_487 (by decide) ?_
  refine x_iaddN F dL_law_488 ?_
  refine x_sld F hX hbl hbA (vp_in_nI (n := 8 * i + 3) (by omega) (by omega)) dL_law_489 ?_
  refine x_ri0 (y := s0) (by rw [nI_clamp (n := 8 * i + 3) (by omega), hv_s0]) ?_
  refine x_aload_n F 5 dL_law_490 rfl ?_
  refine x_iload F 1 dL_law_491 rfl ?_
  refine x_iconst F (nI 4) dL_law_493 (by decide) ?_
  refine x_iaddN F dL_law_494 ?_
  refine x_sld F hX hbl hbA (vp_in_nI (n := 8 * i + 4) (by omega) (by omega)) dL_law_495 ?_
  refine x_ri0 (y := w0) (by rw [nI_clamp (n := 8 * i + 4) (by omega), hv_w0]) ?_
  refine x_callV F s_L_112 hRM9.1 rfl rfl (c_X4_enter F.nt hRM9 hI.B hI.hw hI.hlt) rfl dL_law_496 (by decide) ⟨by omega, by omega⟩ (Nat.le_of_ble_eq_true rfl) x_noX (ki fun r8 M8 hp8 => ?_)
  obtain ⟨hR8, hr8⟩ := hp8
  rw [← hs0] at hR8
  have ht8 : ((if cdEn σ x0 y0 s0 w0 = 0 then enU σ0 (cl x0) (cl y0) (cl s0) (cl w0) else σ0)).1 0 0 = cdEn σ x0 y0 s0 w0 := by (by_cases hz : cdEn σ x0 y0 s0 w0 = 0; (rw [if_pos hz, s0_enter, hs0]; rfl); (rw [if_neg hz, hs0]; rfl))
  refine x_istore F [(6, .int (r8)), (5, .int (nI (cdEn σ0 x0 y0 s0 w0))), (4, .int (nI (8 * i))), (3, .ref (o)), (2, .ref (m 0)), (1, .ref (A 0)), (0, .ref (b0))] dL_law_499 (by decide) rfl ?_
  refine x_aload_n F 4 dL_law_501 rfl ?_
  refine x_callV F s_L_94 hR8.1 rfl rfl (c_X4_thrown F.nt hR8) rfl dL_law_502 (by decide) ⟨by omega, by omega⟩ (Nat.le_of_ble_eq_true rfl) x_noX (ki fun r7 M7 hp7 => ?_)
  obtain ⟨rfl, rfl⟩ := hp7
  refine x_iload F 1 dL_law_505 rfl ?_
  refine x_icmp_eq F 512 dL_law_507 (by decide) (fun _ => ?_) (fun c9 => absurd (by rw [ht8, hc0]) c9)
  refine x_iload F 1 dL_law_512 rfl ?_
  refine x_if_ne F 529 dL_law_514 (by decide) (fun c9 => ?_) (fun c9 => ?_)
  · have hz : ¬ cdEn σ x0 y0 s0 w0 = 0 := fun z => c9 (by rw [hc0, z]; rfl)
    skip
    refine x_goto F 1548 dL_law_529 (by decide) ?_
    refine x_sub [2, 3, 4, 5, 6] rfl (L' := [(4, .int (nI (8 * i))), (3, .ref (o)), (2, .ref (m 0)), (1, .ref (A 0)), (0, .ref (b0))]) ?_
    refine x_widen (a' := a + 100) (b' := b + 1000) (by omega) (by omega) ?_
    rw [if_neg hz] at hR8
    rw [hc0, if_neg hz] at hCM9 hd9 ho9
    exact kk A2 _ M8 hA20 (LJ_b hCM9 hd9 hO9 ho9 hJ.2.2.2.2.2 hR8).1 (Inv_s hI0)
  · have hz : cdEn σ x0 y0 s0 w0 = 0 := hc0.symm.trans ((nI_z (Nat.lt_trans lt_cdEn (by decide))).mp c9)
    have hq : nI (σ0.1 17 (cl x0) + 1) = r8 := by (rw [hr8 hz]; subst hs0; rfl)
    refine x_aload_n F 3 dL_law_517 rfl ?_
    refine x_iconst F (nI 0) dL_law_518 (by decide) ?_
    have hO8 : M8 o = some (.inl (gC g 1, 1, .inr (.inl f9))) := (hR8.2.2.1 o hJ.2.2.2.2.2).trans hO9
    refine x_lald F hO8 (vp_in_nI (n := 0) (by decide) (by decide)) dL_law_519 ?_
    refine x_rl0 (y := (nI (σ0.1 17 (cl x0) + 1)).toInt64) (by rw [nI_clamp (n := 0) (by decide)]; exact hf9 (hc0.trans hz)) ?_
    refine x_iload F 0 dL_law_520 rfl ?_
    refine x_i2l F dL_law_522 ?_
    refine x_lcmp F dL_law_523 ?_
    refine x_if_eq F 529 dL_law_524 (by decide) (fun _ => ?_) (fun c7 => absurd ((lg_cmp_eq _ _).mpr (congrArg Int32.toInt64 hq)) c7)
    skip
    refine x_goto F 1548 dL_law_529 (by decide) ?_
    refine x_sub [2, 3, 4, 5, 6] rfl (L' := [(4, .int (nI (8 * i))), (3, .ref (o)), (2, .ref (m 0)), (1, .ref (A 0)), (0, .ref (b0))]) ?_
    refine x_widen (a' := a + 100) (b' := b + 1000) (by omega) (by omega) ?_
    rw [if_pos hz] at hR8
    rw [hc0, if_pos hz] at hCM9 hd9 ho9
    have hJ8 := (LJ_b hCM9 hd9 hO9 ho9 hJ.2.2.2.2.2 hR8).1
    exact kk A2 _ M8 hA20 hJ8 (IV_enter hI0 h512 (hc0.trans hz))
set_option maxHeartbeats 4000000 in
set_option maxRecDepth 100000 in
theorem blk_close {K : KX} {g : GP} {Q : State → Prop} {M : MM} {A : Nat → Nat} {m : Nat → Nat} {σ : ST} {a b b0 L0 i o : Nat} {xs : Nat → Int32} {hh9 : List (Nat × Nat × Nat × Nat)} (F : Fx K g cL_law RL 7 (some .boolean) hh9 12 460 601024 7293034) (hX : va_X b0 L0 xs (ks K) (ks K).heap) (hbl : b0 < (ks K).heap.size) (hbA : ¬ gO g b0) (hL0 : L0 ≤ 4096) (hi : 8 * i + 8 ≤ L0) (ha : a + 100 ≤ 601024) (hb : b + 1000 ≤ 7293034) (hJ : LJ g A m σ M o) (hI : Inv i σ) (kk : ∀ A3 σ3 M3, A3 0 = A 0 → LJ g A3 m σ3 M3 o → Inv (i + 1) σ3 → XW K g 7 Q M3 (a + 100) (b + 1000) 1548 [(4, .int (nI (8 * i))), (3, .ref (o)), (2, .ref (m 0)), (1, .ref (A 0)), (0, .ref (b0))] []) : XW K g 7 Q M a b 532 [(4, .int (nI (8 * i))), (3, .ref (o)), (2, .ref (m 0)), (1, .ref (A 0)), (0, .ref (b0))] [] := by
  obtain ⟨x0, hv_x0⟩ : ∃ z, z = xs (8 * i + 1) := ⟨_, rfl⟩
  have h512 : i < 512 := by omega
  obtain ⟨σ0, hs0⟩ : ∃ z, z = uN σ 0 0 (cdSt σ x0 0) := ⟨_, rfl⟩
  have hI0 : Inv i σ0 := hs0 ▸ Inv_0 hI _
  have hC0 : CM g A M σ0 M := hs0 ▸ CM_0 hJ.1 _
  have hc0 : cdSt σ0 x0 0 = cdSt σ x0 0 := by first | rfl | (rw [hs0]; rfl)
  have hl0 : ∀ c, lvB σ0 c = lvB σ c := fun c => by rw [hs0]; exact lv_u0
  obtain ⟨fo, hO⟩ := hJ.2.2.2.1
  have ho : ∀ c, lvB σ0 c = true → o ≠ A c := fun c hc => hJ.2.2.2.2.1 c ((hl0 c).symm.trans hc)
  refine x_aload_n F 3 dL_law_532 rfl ?_
  refine x_aload_n F 4 dL_law_533 rfl ?_
  refine x_iload F 0 dL_law_534 rfl ?_
  refine x_iconst F (nI 1) dL_law_536 (by decide) ?_
  refine x_iaddN F dL_law_537 ?_
  refine x_sld F hX hbl hbA (vp_in_nI (n := 8 * i + 1) (by omega) (by omega)) dL_law_538 ?_
  refine x_ri0 (y := x0) (by rw [nI_clamp (n := 8 * i + 1) (by omega), hv_x0]) ?_
  refine x_aload_n F 1 dL_law_539 rfl ?_
  refine x_callH F w_h_close rfl (c_L_close F.nt hC0 hI0.B hI0.W hI0.D hI0.wi hO ho) rfl dL_law_540 (by decide) ⟨by omega, by omega⟩ (Nat.le_of_ble_eq_true rfl) (ki fun r9 M9 hp9 => ?_)
  obtain ⟨rfl, hp9⟩ := hp9
  obtain ⟨A2, hA20, hRM9, hCM9, hd9, ⟨f9, hO9, hf9⟩, ho9⟩ := LJ_a hJ hl0 hp9
  refine x_istore F [(5, .int (nI (cdSt σ0 x0 0))), (4, .int (nI (8 * i))), (3, .ref (o)), (2, .ref (m 0)), (1, .ref (A 0)), (0, .ref (b0))] dL_law_543 (by decide) rfl ?_
  refine x_aload_n F 3 dL_law_545 rfl ?_
  refine x_aload_n F 5 dL_law_546 rfl ?_
  refine x_iload F 1 dL_law_547 rfl ?_
  refine x_iconst F (nI 1) dL_law_549 (by decide) ?_
  refine x_iaddN F dL_law_550 ?_
  refine x_sld F hX hbl hbA (vp_in_nI (n := 8 * i + 1) (by omega) (by omega)) dL_law_551 ?_
  refine x_ri0 (y := x0) (by rw [nI_clamp (n := 8 * i + 1) (by omega), hv_x0]) ?_
  refine x_callV F s_L_115 hRM9.1 rfl rfl (c_X4_close F.nt hRM9 hI.B hI.hw) rfl dL_law_552 (by decide) ⟨by omega, by omega⟩ (Nat.le_of_ble_eq_true rfl) x_noX (ki fun r8 M8 hp8 => ?_)
  obtain ⟨hR8, hr8⟩ := hp8
  rw [← hs0] at hR8
  have ht8 : ((if cdSt σ x0 0 = 0 then clU σ0 (cl x0) else σ0)).1 0 0 = cdSt σ x0 0 := by (by_cases hz : cdSt σ x0 0 = 0; (rw [if_pos hz, s0_close, hs0]; rfl); (rw [if_neg hz, hs0]; rfl))
  refine x_istore F [(6, .int (r8)), (5, .int (nI (cdSt σ0 x0 0))), (4, .int (nI (8 * i))), (3, .ref (o)), (2, .ref (m 0)), (1, .ref (A 0)), (0, .ref (b0))] dL_law_555 (by decide) rfl ?_
  refine x_aload_n F 4 dL_law_557 rfl ?_
  refine x_callV F s_L_94 hR8.1 rfl rfl (c_X4_thrown F.nt hR8) rfl dL_law_558 (by decide) ⟨by omega, by omega⟩ (Nat.le_of_ble_eq_true rfl) x_noX (ki fun r7 M7 hp7 => ?_)
  obtain ⟨rfl, rfl⟩ := hp7
  refine x_iload F 1 dL_law_561 rfl ?_
  refine x_icmp_eq F 568 dL_law_563 (by decide) (fun _ => ?_) (fun c9 => absurd (by rw [ht8, hc0]) c9)
  refine x_iload F 1 dL_law_568 rfl ?_
  refine x_if_ne F 585 dL_law_570 (by decide) (fun c9 => ?_) (fun c9 => ?_)
  · have hz : ¬ cdSt σ x0 0 = 0 := fun z => c9 (by rw [hc0, z]; rfl)
    skip
    refine x_goto F 1548 dL_law_585 (by decide) ?_
    refine x_sub [2, 3, 4, 5, 6] rfl (L' := [(4, .int (nI (8 * i))), (3, .ref (o)), (2, .ref (m 0)), (1, .ref (A 0)), (0, .ref (b0))]) ?_
    refine x_widen (a' := a + 100) (b' := b + 1000) (by omega) (by omega) ?_
    rw [if_neg hz] at hR8
    rw [hc0, if_neg hz] at hCM9 hd9 ho9
    exact kk A2 _ M8 hA20 (LJ_b hCM9 hd9 hO9 ho9 hJ.2.2.2.2.2 hR8).1 (Inv_s hI0)
  · have hz : cdSt σ x0 0 = 0 := hc0.symm.trans ((nI_z (Nat.lt_trans lt_cdSt (by decide))).mp c9)
    have hq : nI (plIn (clU σ0 (cl x0)) (cl x0)) = r8 := by (rw [hr8 hz]; subst hs0; rfl)
    refine x_aload_n F 3 dL_law_573 rfl ?_
    refine x_iconst F (nI 0) dL_law_574 (by decide) ?_
    have hO8 : M8 o = some (.inl (gC g 1, 1, .inr (.inl f9))) := (hR8.2.2.1 o hJ.2.2.2.2.2).trans hO9
    refine x_lald F hO8 (vp_in_nI (n := 0) (by decide) (by decide)) dL_law_575 ?_
    refine x_rl0 (y := (nI (plIn (clU σ0 (cl x0)) (cl x0))).toInt64) (by rw [nI_clamp (n := 0) (by decide)]; exact hf9 (hc0.trans hz)) ?_
    refine x_iload F 0 dL_law_576 rfl ?_
    refine x_i2l F dL_law_578 ?_
    refine x_lcmp F dL_law_579 ?_
    refine x_if_eq F 585 dL_law_580 (by decide) (fun _ => ?_) (fun c7 => absurd ((lg_cmp_eq _ _).mpr (congrArg Int32.toInt64 hq)) c7)
    skip
    refine x_goto F 1548 dL_law_585 (by decide) ?_
    refine x_sub [2, 3, 4, 5, 6] rfl (L' := [(4, .int (nI (8 * i))), (3, .ref (o)), (2, .ref (m 0)), (1, .ref (A 0)), (0, .ref (b0))]) ?_
    refine x_widen (a' := a + 100) (b' := b + 1000) (by omega) (by omega) ?_
    rw [if_pos hz] at hR8
    rw [hc0, if_pos hz] at hCM9 hd9 ho9
    have hJ8 := (LJ_b hCM9 hd9 hO9 ho9 hJ.2.2.2.2.2 hR8).1
    exact kk A2 _ M8 hA20 hJ8 (IV_close hI0 h512 (hc0.trans hz))
set_option maxHeartbeats 4000000 in
set_option maxRecDepth 100000 in
theorem blk_placed {K : KX} {g : GP} {Q : State → Prop} {M : MM} {A : Nat → Nat} {m : Nat → Nat} {σ : ST} {a b b0 L0 i o : Nat} {xs : Nat → Int32} {hh9 : List (Nat × Nat × Nat × Nat)} (F : Fx K g cL_law RL 7 (some .boolean) hh9 12 460 601024 7293034) (hX : va_X b0 L0 xs (ks K) (ks K).heap) (hbl : b0 < (ks K).heap.size) (hbA : ¬ gO g b0) (hL0 : L0 ≤ 4096) (hi : 8 * i + 8 ≤ L0) (ha : a + 100 ≤ 601024) (hb : b + 1000 ≤ 7293034) (hJ : LJ g A m σ M o) (hI : Inv i σ) (kk : ∀ A3 σ3 M3, A3 0 = A 0 → LJ g A3 m σ3 M3 o → Inv (i + 1) σ3 → XW K g 7 Q M3 (a + 100) (b + 1000) 1548 [(4, .int (nI (8 * i))), (3, .ref (o)), (2, .ref (m 0)), (1, .ref (A 0)), (0, .ref (b0))] []) : XW K g 7 Q M a b 588 [(4, .int (nI (8 * i))), (3, .ref (o)), (2, .ref (m 0)), (1, .ref (A 0)), (0, .ref (b0))] [] := by
  obtain ⟨x0, hv_x0⟩ : ∃ z, z = xs (8 * i + 1) := ⟨_, rfl⟩
  obtain ⟨y0, hv_y0⟩ : ∃ z, z = xs (8 * i + 2) := ⟨_, rfl⟩
  have h512 : i < 512 := by omega
  obtain ⟨σ0, hs0⟩ : ∃ z, z = uN σ 0 0 (cdRR σ x0 y0) := ⟨_, rfl⟩
  have hI0 : Inv i σ0 := hs0 ▸ Inv_0 hI _
  have hC0 : CM g A M σ0 M := hs0 ▸ CM_0 hJ.1 _
  have hc0 : cdRR σ0 x0 y0 = cdRR σ x0 y0 := by first | rfl | (rw [hs0]; rfl)
  have hl0 : ∀ c, lvB σ0 c = lvB σ c := fun c => by rw [hs0]; exact lv_u0
  obtain ⟨fo, hO⟩ := hJ.2.2.2.1
  have ho : ∀ c, lvB σ0 c = true → o ≠ A c := fun c hc => hJ.2.2.2.2.1 c ((hl0 c).symm.trans hc)
  refine x_aload_n F 3 dL_law_588 rfl ?_
  refine x_aload_n F 4 dL_law_589 rfl ?_
  refine x_iload F 0 dL_law_590 rfl ?_
  refine x_iconst F (nI 1) dL_law_592 (by decide) ?_
  refine x_iaddN F dL_law_593 ?_
  refine x_sld F hX hbl hbA (vp_in_nI (n := 8 * i + 1) (by omega) (by omega)) dL_law_594 ?_
  refine x_ri0 (y := x0) (by rw [nI_clamp (n := 8 * i + 1) (by omega), hv_x0]) ?_
  refine x_aload_n F 4 dL_law_595 rfl ?_
  refine x_iload F 0 dL_law_596 rfl ?_
  refine x_iconst F (nI 2) dL_law_598 (by decide) ?_
  refine x_iaddN F dL_law_599 ?_
  refine x_sld F hX hbl hbA (vp_in_nI (n := 8 * i + 2) (by omega) (by omega)) dL_law_600 ?_
  refine x_ri0 (y := y0) (by rw [nI_clamp (n := 8 * i + 2) (by omega), hv_y0]) ?_
  refine x_aload_n F 1 dL_law_601 rfl ?_
  refine x_callH F w_h_placed rfl (c_L_placed F.nt hC0 hI0.B hI0.D hO ho) rfl dL_law_602 (by decide) ⟨by omega, by omega⟩ (Nat.le_of_ble_eq_true rfl) (ki fun r9 M9 hp9 => ?_)
  obtain ⟨rfl, hp9⟩ := hp9
  obtain ⟨A2, hA20, hRM9, hCM9, hd9, ⟨f9, hO9, hf9⟩, ho9⟩ := LJ_a hJ hl0 hp9
  refine x_istore F [(5, .int (nI (cdRR σ0 x0 y0))), (4, .int (nI (8 * i))), (3, .ref (o)), (2, .ref (m 0)), (1, .ref (A 0)), (0, .ref (b0))] dL_law_605 (by decide) rfl ?_
  refine x_aload_n F 3 dL_law_607 rfl ?_
  refine x_aload_n F 5 dL_law_608 rfl ?_
  refine x_iload F 1 dL_law_609 rfl ?_
  refine x_iconst F (nI 1) dL_law_611 (by decide) ?_
  refine x_iaddN F dL_law_612 ?_
  refine x_sld F hX hbl hbA (vp_in_nI (n := 8 * i + 1) (by omega) (by omega)) dL_law_613 ?_
  refine x_ri0 (y := x0) (by rw [nI_clamp (n := 8 * i + 1) (by omega), hv_x0]) ?_
  refine x_aload_n F 5 dL_law_614 rfl ?_
  refine x_iload F 1 dL_law_615 rfl ?_
  refine x_iconst F (nI 2) dL_law_617 (by decide) ?_
  refine x_iaddN F dL_law_618 ?_
  refine x_sld F hX hbl hbA (vp_in_nI (n := 8 * i + 2) (by omega) (by omega)) dL_law_619 ?_
  refine x_ri0 (y := y0) (by rw [nI_clamp (n := 8 * i + 2) (by omega), hv_y0]) ?_
  refine x_callV F s_L_118 hRM9.1 rfl rfl (c_X4_placed F.nt hRM9 hI.B) rfl dL_law_620 (by decide) ⟨by omega, by omega⟩ (Nat.le_of_ble_eq_true rfl) x_noX (ki fun r8 M8 hp8 => ?_)
  obtain ⟨hR8, hr8⟩ := hp8
  rw [← hs0] at hR8
  have ht8 : (σ0).1 0 0 = cdRR σ x0 y0 := by rw [hs0]; rfl
  refine x_istore F [(6, .int (r8)), (5, .int (nI (cdRR σ0 x0 y0))), (4, .int (nI (8 * i))), (3, .ref (o)), (2, .ref (m 0)), (1, .ref (A 0)), (0, .ref (b0))] dL_law_623 (by decide) rfl ?_
  refine x_aload_n F 4 dL_law_625 rfl ?_
  refine x_callV F s_L_94 hR8.1 rfl rfl (c_X4_thrown F.nt hR8) rfl dL_law_626 (by decide) ⟨by omega, by omega⟩ (Nat.le_of_ble_eq_true rfl) x_noX (ki fun r7 M7 hp7 => ?_)
  obtain ⟨rfl, rfl⟩ := hp7
  refine x_iload F 1 dL_law_629 rfl ?_
  refine x_icmp_eq F 636 dL_law_631 (by decide) (fun _ => ?_) (fun c9 => absurd (by rw [ht8, hc0]) c9)
  refine x_iload F 1 dL_law_636 rfl ?_
  refine x_if_ne F 653 dL_law_638 (by decide) (fun c9 => ?_) (fun c9 => ?_)
  · have hz : ¬ cdRR σ x0 y0 = 0 := fun z => c9 (by rw [hc0, z]; rfl)
    skip
    refine x_goto F 1548 dL_law_653 (by decide) ?_
    refine x_sub [2, 3, 4, 5, 6] rfl (L' := [(4, .int (nI (8 * i))), (3, .ref (o)), (2, .ref (m 0)), (1, .ref (A 0)), (0, .ref (b0))]) ?_
    refine x_widen (a' := a + 100) (b' := b + 1000) (by omega) (by omega) ?_
    exact kk A2 _ M8 hA20 (LJ_b hCM9 hd9 hO9 ho9 hJ.2.2.2.2.2 hR8).1 (Inv_s hI0)
  · have hz : cdRR σ x0 y0 = 0 := hc0.symm.trans ((nI_z (Nat.lt_trans lt_cdRR (by decide))).mp c9)
    have hq : σ0.2.1 22 (12 * cl x0 + cl y0) = r8 := by (rw [hr8 hz]; subst hs0; rfl)
    refine x_aload_n F 3 dL_law_641 rfl ?_
    refine x_iconst F (nI 0) dL_law_642 (by decide) ?_
    have hO8 : M8 o = some (.inl (gC g 1, 1, .inr (.inl f9))) := (hR8.2.2.1 o hJ.2.2.2.2.2).trans hO9
    refine x_lald F hO8 (vp_in_nI (n := 0) (by decide) (by decide)) dL_law_643 ?_
    refine x_rl0 (y := (σ0.2.1 22 (12 * cl x0 + cl y0)).toInt64) (by rw [nI_clamp (n := 0) (by decide)]; exact hf9 (hc0.trans hz)) ?_
    refine x_iload F 0 dL_law_644 rfl ?_
    refine x_i2l F dL_law_646 ?_
    refine x_lcmp F dL_law_647 ?_
    refine x_if_eq F 653 dL_law_648 (by decide) (fun _ => ?_) (fun c7 => absurd ((lg_cmp_eq _ _).mpr (congrArg Int32.toInt64 hq)) c7)
    skip
    refine x_goto F 1548 dL_law_653 (by decide) ?_
    refine x_sub [2, 3, 4, 5, 6] rfl (L' := [(4, .int (nI (8 * i))), (3, .ref (o)), (2, .ref (m 0)), (1, .ref (A 0)), (0, .ref (b0))]) ?_
    refine x_widen (a' := a + 100) (b' := b + 1000) (by omega) (by omega) ?_
    have hJ8 := (LJ_b hCM9 hd9 hO9 ho9 hJ.2.2.2.2.2 hR8).1
    exact kk A2 _ M8 hA20 hJ8 (Inv_s hI0)
set_option maxHeartbeats 4000000 in
set_option maxRecDepth 100000 in
theorem blk_most {K : KX} {g : GP} {Q : State → Prop} {M : MM} {A : Nat → Nat} {m : Nat → Nat} {σ : ST} {a b b0 L0 i o : Nat} {xs : Nat → Int32} {hh9 : List (Nat × Nat × Nat × Nat)} (F : Fx K g cL_law RL 7 (some .boolean) hh9 12 460 601024 7293034) (hX : va_X b0 L0 xs (ks K) (ks K).heap) (hbl : b0 < (ks K).heap.size) (hbA : ¬ gO g b0) (hL0 : L0 ≤ 4096) (hi : 8 * i + 8 ≤ L0) (ha : a + 100 ≤ 601024) (hb : b + 1000 ≤ 7293034) (hJ : LJ g A m σ M o) (hI : Inv i σ) (kk : ∀ A3 σ3 M3, A3 0 = A 0 → LJ g A3 m σ3 M3 o → Inv (i + 1) σ3 → XW K g 7 Q M3 (a + 100) (b + 1000) 1548 [(4, .int (nI (8 * i))), (3, .ref (o)), (2, .ref (m 0)), (1, .ref (A 0)), (0, .ref (b0))] []) : XW K g 7 Q M a b 656 [(4, .int (nI (8 * i))), (3, .ref (o)), (2, .ref (m 0)), (1, .ref (A 0)), (0, .ref (b0))] [] := by
  obtain ⟨x0, hv_x0⟩ : ∃ z, z = xs (8 * i + 1) := ⟨_, rfl⟩
  have h512 : i < 512 := by omega
  obtain ⟨σ0, hs0⟩ : ∃ z, z = uN σ 0 0 (cdMo σ x0) := ⟨_, rfl⟩
  have hI0 : Inv i σ0 := hs0 ▸ Inv_0 hI _
  have hC0 : CM g A M σ0 M := hs0 ▸ CM_0 hJ.1 _
  have hc0 : cdMo σ0 x0 = cdMo σ x0 := by first | rfl | (rw [hs0]; rfl)
  have hl0 : ∀ c, lvB σ0 c = lvB σ c := fun c => by rw [hs0]; exact lv_u0
  obtain ⟨fo, hO⟩ := hJ.2.2.2.1
  have ho : ∀ c, lvB σ0 c = true → o ≠ A c := fun c hc => hJ.2.2.2.2.1 c ((hl0 c).symm.trans hc)
  refine x_aload_n F 3 dL_law_656 rfl ?_
  refine x_aload_n F 4 dL_law_657 rfl ?_
  refine x_iload F 0 dL_law_658 rfl ?_
  refine x_iconst F (nI 1) dL_law_660 (by decide) ?_
  refine x_iaddN F dL_law_661 ?_
  refine x_sld F hX hbl hbA (vp_in_nI (n := 8 * i + 1) (by omega) (by omega)) dL_law_662 ?_
  refine x_ri0 (y := x0) (by rw [nI_clamp (n := 8 * i + 1) (by omega), hv_x0]) ?_
  refine x_aload_n F 1 dL_law_663 rfl ?_
  refine x_callH F w_h_most rfl (c_L_most F.nt hC0 hI0.B hI0.W hI0.D hO ho) rfl dL_law_664 (by decide) ⟨by omega, by omega⟩ (Nat.le_of_ble_eq_true rfl) (ki fun r9 M9 hp9 => ?_)
  obtain ⟨rfl, hp9⟩ := hp9
  obtain ⟨A2, hA20, hRM9, hCM9, hd9, ⟨f9, hO9, hf9⟩, ho9⟩ := LJ_a hJ hl0 hp9
  refine x_istore F [(5, .int (nI (cdMo σ0 x0))), (4, .int (nI (8 * i))), (3, .ref (o)), (2, .ref (m 0)), (1, .ref (A 0)), (0, .ref (b0))] dL_law_667 (by decide) rfl ?_
  refine x_aload_n F 3 dL_law_669 rfl ?_
  refine x_aload_n F 5 dL_law_670 rfl ?_
  refine x_iload F 1 dL_law_671 rfl ?_
  refine x_iconst F (nI 1) dL_law_673 (by decide) ?_
  refine x_iaddN F dL_law_674 ?_
  refine x_sld F hX hbl hbA (vp_in_nI (n := 8 * i + 1) (by omega) (by omega)) dL_law_675 ?_
  refine x_ri0 (y := x0) (by rw [nI_clamp (n := 8 * i + 1) (by omega), hv_x0]) ?_
  refine x_callV F s_L_121 hRM9.1 rfl rfl (c_X4_most F.nt hRM9 hI.B hI.hw hI.h31) rfl dL_law_676 (by decide) ⟨by omega, by omega⟩ (Nat.le_of_ble_eq_true rfl) x_noX (ki fun r8 M8 hp8 => ?_)
  obtain ⟨hR8, hr8⟩ := hp8
  rw [← hs0] at hR8
  have ht8 : ((if cdMo σ x0 = 0 then cB σ0 (gEf σ0 (cl x0) (σ0.1 17 (cl x0))) else σ0)).1 0 0 = cdMo σ x0 := by (by_cases hz : cdMo σ x0 = 0; (rw [if_pos hz, s0_most, hs0]; rfl); (rw [if_neg hz, hs0]; rfl))
  refine x_istore F [(6, .int (r8)), (5, .int (nI (cdMo σ0 x0))), (4, .int (nI (8 * i))), (3, .ref (o)), (2, .ref (m 0)), (1, .ref (A 0)), (0, .ref (b0))] dL_law_679 (by decide) rfl ?_
  refine x_aload_n F 4 dL_law_681 rfl ?_
  refine x_callV F s_L_94 hR8.1 rfl rfl (c_X4_thrown F.nt hR8) rfl dL_law_682 (by decide) ⟨by omega, by omega⟩ (Nat.le_of_ble_eq_true rfl) x_noX (ki fun r7 M7 hp7 => ?_)
  obtain ⟨rfl, rfl⟩ := hp7
  refine x_iload F 1 dL_law_685 rfl ?_
  refine x_icmp_eq F 692 dL_law_687 (by decide) (fun _ => ?_) (fun c9 => absurd (by rw [ht8, hc0]) c9)
  refine x_iload F 1 dL_law_692 rfl ?_
  refine x_if_ne F 709 dL_law_694 (by decide) (fun c9 => ?_) (fun c9 => ?_)
  · have hz : ¬ cdMo σ x0 = 0 := fun z => c9 (by rw [hc0, z]; rfl)
    skip
    refine x_goto F 1548 dL_law_709 (by decide) ?_
    refine x_sub [2, 3, 4, 5, 6] rfl (L' := [(4, .int (nI (8 * i))), (3, .ref (o)), (2, .ref (m 0)), (1, .ref (A 0)), (0, .ref (b0))]) ?_
    refine x_widen (a' := a + 100) (b' := b + 1000) (by omega) (by omega) ?_
    rw [if_neg hz] at hR8
    exact kk A2 _ M8 hA20 (LJ_b hCM9 hd9 hO9 ho9 hJ.2.2.2.2.2 hR8).1 (Inv_s hI0)
  · have hz : cdMo σ x0 = 0 := hc0.symm.trans ((nI_z (Nat.lt_trans lt_cdMo (by decide))).mp c9)
    have hq : nI (lstS σ0 (cl x0) (2 ^ σ0.1 11 (cl x0))) = r8 := by (rw [hr8 hz]; subst hs0; exact RQ_most (Inv_0 hI _) hz)
    refine x_aload_n F 3 dL_law_697 rfl ?_
    refine x_iconst F (nI 0) dL_law_698 (by decide) ?_
    have hO8 : M8 o = some (.inl (gC g 1, 1, .inr (.inl f9))) := (hR8.2.2.1 o hJ.2.2.2.2.2).trans hO9
    refine x_lald F hO8 (vp_in_nI (n := 0) (by decide) (by decide)) dL_law_699 ?_
    refine x_rl0 (y := (nI (lstS σ0 (cl x0) (2 ^ σ0.1 11 (cl x0)))).toInt64) (by rw [nI_clamp (n := 0) (by decide)]; exact hf9 (hc0.trans hz)) ?_
    refine x_iload F 0 dL_law_700 rfl ?_
    refine x_i2l F dL_law_702 ?_
    refine x_lcmp F dL_law_703 ?_
    refine x_if_eq F 709 dL_law_704 (by decide) (fun _ => ?_) (fun c7 => absurd ((lg_cmp_eq _ _).mpr (congrArg Int32.toInt64 hq)) c7)
    skip
    refine x_goto F 1548 dL_law_709 (by decide) ?_
    refine x_sub [2, 3, 4, 5, 6] rfl (L' := [(4, .int (nI (8 * i))), (3, .ref (o)), (2, .ref (m 0)), (1, .ref (A 0)), (0, .ref (b0))]) ?_
    refine x_widen (a' := a + 100) (b' := b + 1000) (by omega) (by omega) ?_
    rw [if_pos hz] at hR8
    have hCM7 : CM g A2 M9 (cB σ0 (gEf σ0 (cl x0) (σ0.1 17 (cl x0)))) M9 := CM_31 hCM9 _
    have hl7 : ∀ c, lvB (cB σ0 (gEf σ0 (cl x0) (σ0.1 17 (cl x0)))) c = lvB σ0 c := fun c => lv_cg (fun s i hs => if_neg (by omega)) c
    have hJ8 := (LJ_b hCM7 (fun c k hc => hd9 c k ((hl7 c).symm.trans hc)) hO9 (fun c hc => ho9 c ((hl7 c).symm.trans hc)) hJ.2.2.2.2.2 hR8).1
    exact kk A2 _ M8 hA20 hJ8 (IV_most hI0 h512 (hc0.trans hz))
set_option maxHeartbeats 4000000 in
set_option maxRecDepth 100000 in
theorem blk_hide {K : KX} {g : GP} {Q : State → Prop} {M : MM} {A : Nat → Nat} {m : Nat → Nat} {σ : ST} {a b b0 L0 i o : Nat} {xs : Nat → Int32} {hh9 : List (Nat × Nat × Nat × Nat)} (F : Fx K g cL_law RL 7 (some .boolean) hh9 12 460 601024 7293034) (hX : va_X b0 L0 xs (ks K) (ks K).heap) (hbl : b0 < (ks K).heap.size) (hbA : ¬ gO g b0) (hL0 : L0 ≤ 4096) (hi : 8 * i + 8 ≤ L0) (ha : a + 100 ≤ 601024) (hb : b + 1000 ≤ 7293034) (hJ : LJ g A m σ M o) (hI : Inv i σ) (kk : ∀ A3 σ3 M3, A3 0 = A 0 → LJ g A3 m σ3 M3 o → Inv (i + 1) σ3 → XW K g 7 Q M3 (a + 100) (b + 1000) 1548 [(4, .int (nI (8 * i))), (3, .ref (o)), (2, .ref (m 0)), (1, .ref (A 0)), (0, .ref (b0))] []) : XW K g 7 Q M a b 712 [(4, .int (nI (8 * i))), (3, .ref (o)), (2, .ref (m 0)), (1, .ref (A 0)), (0, .ref (b0))] [] := by
  obtain ⟨x0, hv_x0⟩ : ∃ z, z = xs (8 * i + 1) := ⟨_, rfl⟩
  have h512 : i < 512 := by omega
  obtain ⟨σ0, hs0⟩ : ∃ z, z = uN σ 0 0 (cdHi x0) := ⟨_, rfl⟩
  have hI0 : Inv i σ0 := hs0 ▸ Inv_0 hI _
  have hC0 : CM g A M σ0 M := hs0 ▸ CM_0 hJ.1 _
  have hc0 : cdHi x0 = cdHi x0 := by first | rfl | (rw [hs0]; rfl)
  have hl0 : ∀ c, lvB σ0 c = lvB σ c := fun c => by rw [hs0]; exact lv_u0
  obtain ⟨fo, hO⟩ := hJ.2.2.2.1
  refine x_aload_n F 3 dL_law_712 rfl ?_
  refine x_aload_n F 4 dL_law_713 rfl ?_
  refine x_iload F 0 dL_law_714 rfl ?_
  refine x_iconst F (nI 1) dL_law_716 (by decide) ?_
  refine x_iaddN F dL_law_717 ?_
  refine x_sld F hX hbl hbA (vp_in_nI (n := 8 * i + 1) (by omega) (by omega)) dL_law_718 ?_
  refine x_ri0 (y := x0) (by rw [nI_clamp (n := 8 * i + 1) (by omega), hv_x0]) ?_
  refine x_callH F w_h_hide rfl (c_L_hide F.nt hC0 hI0.B) rfl dL_law_719 (by decide) ⟨by omega, by omega⟩ (Nat.le_of_ble_eq_true rfl) (ki fun r9 M9 hp9 => ?_)
  obtain ⟨rfl, hp9⟩ := hp9
  obtain ⟨A2, hA20, hRM9, hCM9, hd9, ⟨f9, hO9⟩, ho9⟩ := LJ_v hJ hl0 hp9
  refine x_istore F [(5, .int (nI (cdHi x0))), (4, .int (nI (8 * i))), (3, .ref (o)), (2, .ref (m 0)), (1, .ref (A 0)), (0, .ref (b0))] dL_law_722 (by decide) rfl ?_
  refine x_aload_n F 3 dL_law_724 rfl ?_
  refine x_aload_n F 5 dL_law_725 rfl ?_
  refine x_iload F 1 dL_law_726 rfl ?_
  refine x_iconst F (nI 1) dL_law_728 (by decide) ?_
  refine x_iaddN F dL_law_729 ?_
  refine x_sld F hX hbl hbA (vp_in_nI (n := 8 * i + 1) (by omega) (by omega)) dL_law_730 ?_
  refine x_ri0 (y := x0) (by rw [nI_clamp (n := 8 * i + 1) (by omega), hv_x0]) ?_
  refine x_callV F s_L_125 hRM9.1 rfl rfl (c_X4_hide F.nt hRM9 hI.B) rfl dL_law_731 (by decide) ⟨by omega, by omega⟩ (Nat.le_of_ble_eq_true rfl) x_noX (kv fun M8 hp8 => ?_)
  have hR8 := hp8
  rw [← hs0] at hR8
  have ht8 : ((if cdHi x0 = 0 then uN σ0 30 0 (cl x0) else σ0)).1 0 0 = cdHi x0 := by (by_cases hz : cdHi x0 = 0; (rw [if_pos hz, s0_hide, hs0]; rfl); (rw [if_neg hz, hs0]; rfl))
  refine x_aload_n F 3 dL_law_734 rfl ?_
  refine x_callV F s_L_94 hR8.1 rfl rfl (c_X4_thrown F.nt hR8) rfl dL_law_735 (by decide) ⟨by omega, by omega⟩ (Nat.le_of_ble_eq_true rfl) x_noX (ki fun r7 M7 hp7 => ?_)
  obtain ⟨rfl, rfl⟩ := hp7
  refine x_iload F 0 dL_law_738 rfl ?_
  refine x_icmp_eq F 745 dL_law_740 (by decide) (fun _ => ?_) (fun c9 => absurd (by rw [ht8, hc0]) c9)
  by_cases hz : cdHi x0 = 0
  · skip
    refine x_goto F 1548 dL_law_745 (by decide) ?_
    refine x_sub [1, 2, 3, 4, 5] rfl (L' := [(4, .int (nI (8 * i))), (3, .ref (o)), (2, .ref (m 0)), (1, .ref (A 0)), (0, .ref (b0))]) ?_
    refine x_widen (a' := a + 100) (b' := b + 1000) (by omega) (by omega) ?_
    rw [if_pos hz] at hR8
    rw [hc0, if_pos hz] at hCM9 hd9 ho9
    have hJ8 := (LJ_b hCM9 hd9 hO9 ho9 hJ.2.2.2.2.2 hR8).1
    exact kk A2 _ M8 hA20 hJ8 (IV_hide hI0 h512 (hc0.trans hz))
  · skip
    refine x_goto F 1548 dL_law_745 (by decide) ?_
    refine x_sub [1, 2, 3, 4, 5] rfl (L' := [(4, .int (nI (8 * i))), (3, .ref (o)), (2, .ref (m 0)), (1, .ref (A 0)), (0, .ref (b0))]) ?_
    refine x_widen (a' := a + 100) (b' := b + 1000) (by omega) (by omega) ?_
    rw [if_neg hz] at hR8
    rw [hc0, if_neg hz] at hCM9 hd9 ho9
    exact kk A2 _ M8 hA20 (LJ_b hCM9 hd9 hO9 ho9 hJ.2.2.2.2.2 hR8).1 (Inv_s hI0)
set_option maxHeartbeats 4000000 in
set_option maxRecDepth 100000 in
theorem blk_draw {K : KX} {g : GP} {Q : State → Prop} {M : MM} {A : Nat → Nat} {m : Nat → Nat} {σ : ST} {a b b0 L0 i o : Nat} {xs : Nat → Int32} {hh9 : List (Nat × Nat × Nat × Nat)} (F : Fx K g cL_law RL 7 (some .boolean) hh9 12 460 601024 7293034) (hX : va_X b0 L0 xs (ks K) (ks K).heap) (hbl : b0 < (ks K).heap.size) (hbA : ¬ gO g b0) (hL0 : L0 ≤ 4096) (hi : 8 * i + 8 ≤ L0) (ha : a + 100 ≤ 601024) (hb : b + 1000 ≤ 7293034) (hJ : LJ g A m σ M o) (hI : Inv i σ) (kk : ∀ A3 σ3 M3, A3 0 = A 0 → LJ g A3 m σ3 M3 o → Inv (i + 1) σ3 → XW K g 7 Q M3 (a + 100) (b + 1000) 1548 [(4, .int (nI (8 * i))), (3, .ref (o)), (2, .ref (m 0)), (1, .ref (A 0)), (0, .ref (b0))] []) : XW K g 7 Q M a b 748 [(4, .int (nI (8 * i))), (3, .ref (o)), (2, .ref (m 0)), (1, .ref (A 0)), (0, .ref (b0))] [] := by
  obtain ⟨x0, hv_x0⟩ : ∃ z, z = xs (8 * i + 1) := ⟨_, rfl⟩
  have h512 : i < 512 := by omega
  obtain ⟨σ0, hs0⟩ : ∃ z, z = uN σ 0 0 (cdSt σ x0 1) := ⟨_, rfl⟩
  have hI0 : Inv i σ0 := hs0 ▸ Inv_0 hI _
  have hC0 : CM g A M σ0 M := hs0 ▸ CM_0 hJ.1 _
  have hc0 : cdSt σ0 x0 1 = cdSt σ x0 1 := by first | rfl | (rw [hs0]; rfl)
  have hl0 : ∀ c, lvB σ0 c = lvB σ c := fun c => by rw [hs0]; exact lv_u0
  obtain ⟨fo, hO⟩ := hJ.2.2.2.1
  have ho : ∀ c, lvB σ0 c = true → o ≠ A c := fun c hc => hJ.2.2.2.2.1 c ((hl0 c).symm.trans hc)
  refine x_aload_n F 3 dL_law_748 rfl ?_
  refine x_aload_n F 4 dL_law_749 rfl ?_
  refine x_iload F 0 dL_law_750 rfl ?_
  refine x_iconst F (nI 1) dL_law_752 (by decide) ?_
  refine x_iaddN F dL_law_753 ?_
  refine x_sld F hX hbl hbA (vp_in_nI (n := 8 * i + 1) (by omega) (by omega)) dL_law_754 ?_
  refine x_ri0 (y := x0) (by rw [nI_clamp (n := 8 * i + 1) (by omega), hv_x0]) ?_
  refine x_aload_n F 1 dL_law_755 rfl ?_
  refine x_callH F w_h_draw rfl (c_L_draw F.nt hC0 hI0.B hI0.W hO ho) rfl dL_law_756 (by decide) ⟨by omega, by omega⟩ (Nat.le_of_ble_eq_true rfl) (ki fun r9 M9 hp9 => ?_)
  obtain ⟨rfl, hp9⟩ := hp9
  obtain ⟨A2, hA20, hRM9, hCM9, hd9, ⟨f9, hO9, hf9⟩, ho9⟩ := LJ_a hJ hl0 hp9
  refine x_istore F [(5, .int (nI (cdSt σ0 x0 1))), (4, .int (nI (8 * i))), (3, .ref (o)), (2, .ref (m 0)), (1, .ref (A 0)), (0, .ref (b0))] dL_law_759 (by decide) rfl ?_
  refine x_aload_n F 3 dL_law_761 rfl ?_
  refine x_aload_n F 5 dL_law_762 rfl ?_
  refine x_iload F 1 dL_law_763 rfl ?_
  refine x_iconst F (nI 1) dL_law_765 (by decide) ?_
  refine x_iaddN F dL_law_766 ?_
  refine x_sld F hX hbl hbA (vp_in_nI (n := 8 * i + 1) (by omega) (by omega)) dL_law_767 ?_
  refine x_ri0 (y := x0) (by rw [nI_clamp (n := 8 * i + 1) (by omega), hv_x0]) ?_
  refine x_callV F s_L_128 hRM9.1 rfl rfl (c_X4_draw F.nt hRM9 hI.B hI.hw) rfl dL_law_768 (by decide) ⟨by omega, by omega⟩ (Nat.le_of_ble_eq_true rfl) x_noX (ki fun r8 M8 hp8 => ?_)
  obtain ⟨hR8, hr8⟩ := hp8
  rw [← hs0] at hR8
  have ht8 : ((if cdSt σ x0 1 = 0 then drnU σ0 (cl x0) else σ0)).1 0 0 = cdSt σ x0 1 := by (by_cases hz : cdSt σ x0 1 = 0; (rw [if_pos hz, s0_draw, hs0]; rfl); (rw [if_neg hz, hs0]; rfl))
  refine x_istore F [(6, .int (r8)), (5, .int (nI (cdSt σ0 x0 1))), (4, .int (nI (8 * i))), (3, .ref (o)), (2, .ref (m 0)), (1, .ref (A 0)), (0, .ref (b0))] dL_law_771 (by decide) rfl ?_
  refine x_aload_n F 4 dL_law_773 rfl ?_
  refine x_callV F s_L_94 hR8.1 rfl rfl (c_X4_thrown F.nt hR8) rfl dL_law_774 (by decide) ⟨by omega, by omega⟩ (Nat.le_of_ble_eq_true rfl) x_noX (ki fun r7 M7 hp7 => ?_)
  obtain ⟨rfl, rfl⟩ := hp7
  refine x_iload F 1 dL_law_777 rfl ?_
  refine x_icmp_eq F 784 dL_law_779 (by decide) (fun _ => ?_) (fun c9 => absurd (by rw [ht8, hc0]) c9)
  refine x_iload F 1 dL_law_784 rfl ?_
  refine x_if_ne F 801 dL_law_786 (by decide) (fun c9 => ?_) (fun c9 => ?_)
  · have hz : ¬ cdSt σ x0 1 = 0 := fun z => c9 (by rw [hc0, z]; rfl)
    skip
    refine x_goto F 1548 dL_law_801 (by decide) ?_
    refine x_sub [2, 3, 4, 5, 6] rfl (L' := [(4, .int (nI (8 * i))), (3, .ref (o)), (2, .ref (m 0)), (1, .ref (A 0)), (0, .ref (b0))]) ?_
    refine x_widen (a' := a + 100) (b' := b + 1000) (by omega) (by omega) ?_
    rw [if_neg hz] at hR8
    rw [hc0, if_neg hz] at hCM9 hd9 ho9
    exact kk A2 _ M8 hA20 (LJ_b hCM9 hd9 hO9 ho9 hJ.2.2.2.2.2 hR8).1 (Inv_s hI0)
  · have hz : cdSt σ x0 1 = 0 := hc0.symm.trans ((nI_z (Nat.lt_trans lt_cdSt (by decide))).mp c9)
    have hq : nI (drN σ0 (cl x0) (σ0.1 11 (cl x0))) = r8 := by (rw [hr8 hz]; subst hs0; exact RQ_draw (Inv_0 hI _) hz)
    refine x_aload_n F 3 dL_law_789 rfl ?_
    refine x_iconst F (nI 0) dL_law_790 (by decide) ?_
    have hO8 : M8 o = some (.inl (gC g 1, 1, .inr (.inl f9))) := (hR8.2.2.1 o hJ.2.2.2.2.2).trans hO9
    refine x_lald F hO8 (vp_in_nI (n := 0) (by decide) (by decide)) dL_law_791 ?_
    refine x_rl0 (y := (nI (drN σ0 (cl x0) (σ0.1 11 (cl x0)))).toInt64) (by rw [nI_clamp (n := 0) (by decide)]; exact hf9 (hc0.trans hz)) ?_
    refine x_iload F 0 dL_law_792 rfl ?_
    refine x_i2l F dL_law_794 ?_
    refine x_lcmp F dL_law_795 ?_
    refine x_if_eq F 801 dL_law_796 (by decide) (fun _ => ?_) (fun c7 => absurd ((lg_cmp_eq _ _).mpr (congrArg Int32.toInt64 hq)) c7)
    skip
    refine x_goto F 1548 dL_law_801 (by decide) ?_
    refine x_sub [2, 3, 4, 5, 6] rfl (L' := [(4, .int (nI (8 * i))), (3, .ref (o)), (2, .ref (m 0)), (1, .ref (A 0)), (0, .ref (b0))]) ?_
    refine x_widen (a' := a + 100) (b' := b + 1000) (by omega) (by omega) ?_
    rw [if_pos hz] at hR8
    rw [hc0, if_pos hz] at hCM9 hd9 ho9
    have hJ8 := (LJ_b hCM9 hd9 hO9 ho9 hJ.2.2.2.2.2 hR8).1
    exact kk A2 _ M8 hA20 hJ8 (IV_draw hI0 h512 (hc0.trans hz))
set_option maxHeartbeats 4000000 in
set_option maxRecDepth 100000 in
theorem blk_drawn {K : KX} {g : GP} {Q : State → Prop} {M : MM} {A : Nat → Nat} {m : Nat → Nat} {σ : ST} {a b b0 L0 i o : Nat} {xs : Nat → Int32} {hh9 : List (Nat × Nat × Nat × Nat)} (F : Fx K g cL_law RL 7 (some .boolean) hh9 12 460 601024 7293034) (hX : va_X b0 L0 xs (ks K) (ks K).heap) (hbl : b0 < (ks K).heap.size) (hbA : ¬ gO g b0) (hL0 : L0 ≤ 4096) (hi : 8 * i + 8 ≤ L0) (ha : a + 100 ≤ 601024) (hb : b + 1000 ≤ 7293034) (hJ : LJ g A m σ M o) (hI : Inv i σ) (kk : ∀ A3 σ3 M3, A3 0 = A 0 → LJ g A3 m σ3 M3 o → Inv (i + 1) σ3 → XW K g 7 Q M3 (a + 100) (b + 1000) 1548 [(4, .int (nI (8 * i))), (3, .ref (o)), (2, .ref (m 0)), (1, .ref (A 0)), (0, .ref (b0))] []) : XW K g 7 Q M a b 804 [(4, .int (nI (8 * i))), (3, .ref (o)), (2, .ref (m 0)), (1, .ref (A 0)), (0, .ref (b0))] [] := by
  obtain ⟨x0, hv_x0⟩ : ∃ z, z = xs (8 * i + 1) := ⟨_, rfl⟩
  obtain ⟨y0, hv_y0⟩ : ∃ z, z = xs (8 * i + 2) := ⟨_, rfl⟩
  have h512 : i < 512 := by omega
  obtain ⟨σ0, hs0⟩ : ∃ z, z = uN σ 0 0 (cdRR σ x0 y0) := ⟨_, rfl⟩
  have hI0 : Inv i σ0 := hs0 ▸ Inv_0 hI _
  have hC0 : CM g A M σ0 M := hs0 ▸ CM_0 hJ.1 _
  have hc0 : cdRR σ0 x0 y0 = cdRR σ x0 y0 := by first | rfl | (rw [hs0]; rfl)
  have hl0 : ∀ c, lvB σ0 c = lvB σ c := fun c => by rw [hs0]; exact lv_u0
  obtain ⟨fo, hO⟩ := hJ.2.2.2.1
  have ho : ∀ c, lvB σ0 c = true → o ≠ A c := fun c hc => hJ.2.2.2.2.1 c ((hl0 c).symm.trans hc)
  refine x_aload_n F 3 dL_law_804 rfl ?_
  refine x_aload_n F 4 dL_law_805 rfl ?_
  refine x_iload F 0 dL_law_806 rfl ?_
  refine x_iconst F (nI 1) dL_law_808 (by decide) ?_
  refine x_iaddN F dL_law_809 ?_
  refine x_sld F hX hbl hbA (vp_in_nI (n := 8 * i + 1) (by omega) (by omega)) dL_law_810 ?_
  refine x_ri0 (y := x0) (by rw [nI_clamp (n := 8 * i + 1) (by omega), hv_x0]) ?_
  refine x_aload_n F 4 dL_law_811 rfl ?_
  refine x_iload F 0 dL_law_812 rfl ?_
  refine x_iconst F (nI 2) dL_law_814 (by decide) ?_
  refine x_iaddN F dL_law_815 ?_
  refine x_sld F hX hbl hbA (vp_in_nI (n := 8 * i + 2) (by omega) (by omega)) dL_law_816 ?_
  refine x_ri0 (y := y0) (by rw [nI_clamp (n := 8 * i + 2) (by omega), hv_y0]) ?_
  refine x_aload_n F 1 dL_law_817 rfl ?_
  refine x_callH F w_h_drawn rfl (c_L_drawn F.nt hC0 hI0.B hI0.D hI0.be hO ho) rfl dL_law_818 (by decide) ⟨by omega, by omega⟩ (Nat.le_of_ble_eq_true rfl) (ki fun r9 M9 hp9 => ?_)
  obtain ⟨rfl, hp9⟩ := hp9
  obtain ⟨A2, hA20, hRM9, hCM9, hd9, ⟨f9, hO9, hf9⟩, ho9⟩ := LJ_a hJ hl0 hp9
  refine x_istore F [(5, .int (nI (cdRR σ0 x0 y0))), (4, .int (nI (8 * i))), (3, .ref (o)), (2, .ref (m 0)), (1, .ref (A 0)), (0, .ref (b0))] dL_law_821 (by decide) rfl ?_
  refine x_aload_n F 3 dL_law_823 rfl ?_
  refine x_aload_n F 5 dL_law_824 rfl ?_
  refine x_iload F 1 dL_law_825 rfl ?_
  refine x_iconst F (nI 1) dL_law_827 (by decide) ?_
  refine x_iaddN F dL_law_828 ?_
  refine x_sld F hX hbl hbA (vp_in_nI (n := 8 * i + 1) (by omega) (by omega)) dL_law_829 ?_
  refine x_ri0 (y := x0) (by rw [nI_clamp (n := 8 * i + 1) (by omega), hv_x0]) ?_
  refine x_aload_n F 5 dL_law_830 rfl ?_
  refine x_iload F 1 dL_law_831 rfl ?_
  refine x_iconst F (nI 2) dL_law_833 (by decide) ?_
  refine x_iaddN F dL_law_834 ?_
  refine x_sld F hX hbl hbA (vp_in_nI (n := 8 * i + 2) (by omega) (by omega)) dL_law_835 ?_
  refine x_ri0 (y := y0) (by rw [nI_clamp (n := 8 * i + 2) (by omega), hv_y0]) ?_
  refine x_callV F s_L_131 hRM9.1 rfl rfl (c_X4_drawn_ F.nt hRM9 hI.B) rfl dL_law_836 (by decide) ⟨by omega, by omega⟩ (Nat.le_of_ble_eq_true rfl) x_noX (ki fun r8 M8 hp8 => ?_)
  obtain ⟨hR8, hr8⟩ := hp8
  rw [← hs0] at hR8
  have ht8 : (σ0).1 0 0 = cdRR σ x0 y0 := by rw [hs0]; rfl
  refine x_istore F [(6, .int (r8)), (5, .int (nI (cdRR σ0 x0 y0))), (4, .int (nI (8 * i))), (3, .ref (o)), (2, .ref (m 0)), (1, .ref (A 0)), (0, .ref (b0))] dL_law_839 (by decide) rfl ?_
  refine x_aload_n F 4 dL_law_841 rfl ?_
  refine x_callV F s_L_94 hR8.1 rfl rfl (c_X4_thrown F.nt hR8) rfl dL_law_842 (by decide) ⟨by omega, by omega⟩ (Nat.le_of_ble_eq_true rfl) x_noX (ki fun r7 M7 hp7 => ?_)
  obtain ⟨rfl, rfl⟩ := hp7
  refine x_iload F 1 dL_law_845 rfl ?_
  refine x_icmp_eq F 852 dL_law_847 (by decide) (fun _ => ?_) (fun c9 => absurd (by rw [ht8, hc0]) c9)
  refine x_iload F 1 dL_law_852 rfl ?_
  refine x_if_ne F 869 dL_law_854 (by decide) (fun c9 => ?_) (fun c9 => ?_)
  · have hz : ¬ cdRR σ x0 y0 = 0 := fun z => c9 (by rw [hc0, z]; rfl)
    skip
    refine x_goto F 1548 dL_law_869 (by decide) ?_
    refine x_sub [2, 3, 4, 5, 6] rfl (L' := [(4, .int (nI (8 * i))), (3, .ref (o)), (2, .ref (m 0)), (1, .ref (A 0)), (0, .ref (b0))]) ?_
    refine x_widen (a' := a + 100) (b' := b + 1000) (by omega) (by omega) ?_
    exact kk A2 _ M8 hA20 (LJ_b hCM9 hd9 hO9 ho9 hJ.2.2.2.2.2 hR8).1 (Inv_s hI0)
  · have hz : cdRR σ x0 y0 = 0 := hc0.symm.trans ((nI_z (Nat.lt_trans lt_cdRR (by decide))).mp c9)
    have hq : σ0.2.1 23 (12 * cl x0 + cl y0) = r8 := by (rw [hr8 hz]; subst hs0; rfl)
    refine x_aload_n F 3 dL_law_857 rfl ?_
    refine x_iconst F (nI 0) dL_law_858 (by decide) ?_
    have hO8 : M8 o = some (.inl (gC g 1, 1, .inr (.inl f9))) := (hR8.2.2.1 o hJ.2.2.2.2.2).trans hO9
    refine x_lald F hO8 (vp_in_nI (n := 0) (by decide) (by decide)) dL_law_859 ?_
    refine x_rl0 (y := (σ0.2.1 23 (12 * cl x0 + cl y0)).toInt64) (by rw [nI_clamp (n := 0) (by decide)]; exact hf9 (hc0.trans hz)) ?_
    refine x_iload F 0 dL_law_860 rfl ?_
    refine x_i2l F dL_law_862 ?_
    refine x_lcmp F dL_law_863 ?_
    refine x_if_eq F 869 dL_law_864 (by decide) (fun _ => ?_) (fun c7 => absurd ((lg_cmp_eq _ _).mpr (congrArg Int32.toInt64 hq)) c7)
    skip
    refine x_goto F 1548 dL_law_869 (by decide) ?_
    refine x_sub [2, 3, 4, 5, 6] rfl (L' := [(4, .int (nI (8 * i))), (3, .ref (o)), (2, .ref (m 0)), (1, .ref (A 0)), (0, .ref (b0))]) ?_
    refine x_widen (a' := a + 100) (b' := b + 1000) (by omega) (by omega) ?_
    have hJ8 := (LJ_b hCM9 hd9 hO9 ho9 hJ.2.2.2.2.2 hR8).1
    exact kk A2 _ M8 hA20 hJ8 (Inv_s hI0)
set_option maxHeartbeats 4000000 in
set_option maxRecDepth 100000 in
theorem blk_ride {K : KX} {g : GP} {Q : State → Prop} {M : MM} {A : Nat → Nat} {m : Nat → Nat} {σ : ST} {a b b0 L0 i o : Nat} {xs : Nat → Int32} {hh9 : List (Nat × Nat × Nat × Nat)} (F : Fx K g cL_law RL 7 (some .boolean) hh9 12 460 601024 7293034) (hX : va_X b0 L0 xs (ks K) (ks K).heap) (hbl : b0 < (ks K).heap.size) (hbA : ¬ gO g b0) (hL0 : L0 ≤ 4096) (hi : 8 * i + 8 ≤ L0) (ha : a + 100 ≤ 601024) (hb : b + 1000 ≤ 7293034) (hJ : LJ g A m σ M o) (hI : Inv i σ) (kk : ∀ A3 σ3 M3, A3 0 = A 0 → LJ g A3 m σ3 M3 o → Inv (i + 1) σ3 → XW K g 7 Q M3 (a + 100) (b + 1000) 1548 [(4, .int (nI (8 * i))), (3, .ref (o)), (2, .ref (m 0)), (1, .ref (A 0)), (0, .ref (b0))] []) : XW K g 7 Q M a b 872 [(4, .int (nI (8 * i))), (3, .ref (o)), (2, .ref (m 0)), (1, .ref (A 0)), (0, .ref (b0))] [] := by
  obtain ⟨x0, hv_x0⟩ : ∃ z, z = xs (8 * i + 1) := ⟨_, rfl⟩
  obtain ⟨y0, hv_y0⟩ : ∃ z, z = xs (8 * i + 2) := ⟨_, rfl⟩
  obtain ⟨mk, hv_mk⟩ : ∃ z, z = xs (8 * i + 3) := ⟨_, rfl⟩
  obtain ⟨w, hv_w⟩ : ∃ z, z = xs (8 * i + 4) := ⟨_, rfl⟩
  by_cases hf : xs (8 * i + 5) = 0
  · have h512 : i < 512 := by omega
    obtain ⟨σ0, hs0⟩ : ∃ z, z = uN σ 0 0 (cdRi σ x0 y0 mk w) := ⟨_, rfl⟩
    have hI0 : Inv i σ0 := hs0 ▸ Inv_0 hI _
    have hC0 : CM g A M σ0 M := hs0 ▸ CM_0 hJ.1 _
    have hc0 : cdRi σ0 x0 y0 mk w = cdRi σ x0 y0 mk w := by first | rfl | (rw [hs0]; rfl)
    have hl0 : ∀ c, lvB σ0 c = lvB σ c := fun c => by rw [hs0]; exact lv_u0
    obtain ⟨fo, hO⟩ := hJ.2.2.2.1
    have ho : ∀ c, lvB σ0 c = true → o ≠ A c := fun c hc => hJ.2.2.2.2.1 c ((hl0 c).symm.trans hc)
    refine x_aload_n F 3 dL_law_872 rfl ?_
    refine x_aload_n F 4 dL_law_873 rfl ?_
    refine x_iload F 0 dL_law_874 rfl ?_
    refine x_iconst F (nI 1) dL_law_876 (by decide) ?_
    refine x_iaddN F dL_law_877 ?_
    refine x_sld F hX hbl hbA (vp_in_nI (n := 8 * i + 1) (by omega) (by omega)) dL_law_878 ?_
    refine x_ri0 (y := x0) (by rw [nI_clamp (n := 8 * i + 1) (by omega), hv_x0]) ?_
    refine x_aload_n F 4 dL_law_879 rfl ?_
    refine x_iload F 0 dL_law_880 rfl ?_
    refine x_iconst F (nI 2) dL_law_882 (by decide) ?_
    refine x_iaddN F dL_law_883 ?_
    refine x_sld F hX hbl hbA (vp_in_nI (n := 8 * i + 2) (by omega) (by omega)) dL_law_884 ?_
    refine x_ri0 (y := y0) (by rw [nI_clamp (n := 8 * i + 2) (by omega), hv_y0]) ?_
    refine x_aload_n F 4 dL_law_885 rfl ?_
    refine x_iload F 0 dL_law_886 rfl ?_
    refine x_iconst F (nI 3) dL_law_888 (by decide) ?_
    refine x_iaddN F dL_law_889 ?_
    refine x_sld F hX hbl hbA (vp_in_nI (n := 8 * i + 3) (by omega) (by omega)) dL_law_890 ?_
    refine x_ri0 (y := mk) (by rw [nI_clamp (n := 8 * i + 3) (by omega), hv_mk]) ?_
    refine x_aload_n F 4 dL_law_891 rfl ?_
    refine x_iload F 0 dL_law_892 rfl ?_
    refine x_iconst F (nI 4) dL_law_894 (by decide) ?_
    refine x_iaddN F dL_law_895 ?_
    refine x_sld F hX hbl hbA (vp_in_nI (n := 8 * i + 4) (by omega) (by omega)) dL_law_896 ?_
    refine x_ri0 (y := w) (by rw [nI_clamp (n := 8 * i + 4) (by omega), hv_w]) ?_
    refine x_aload_n F 4 dL_law_897 rfl ?_
    refine x_iload F 0 dL_law_898 rfl ?_
    refine x_iconst F (nI 5) dL_law_900 (by decide) ?_
    refine x_iaddN F dL_law_901 ?_
    refine x_sld F hX hbl hbA (vp_in_nI (n := 8 * i + 5) (by omega) (by omega)) dL_law_902 ?_
    refine x_ri0 (y := xs (8 * i + 5)) (by rw [nI_clamp (n := 8 * i + 5) (by omega)]) ?_
    refine x_if_eq F 910 dL_law_903 (by decide) (fun _ => ?_) (fun c9 => absurd hf c9)
    refine x_iconst F (nI 0) dL_law_910 (by decide) ?_
    refine x_aload_n F 1 dL_law_911 rfl ?_
    refine x_callH F w_h_ride rfl (c_L_ride F.nt hC0 hI0.B hI0.D hI0.hbr hO ho (f := false)) rfl dL_law_912 (by decide) ⟨by omega, by omega⟩ (Nat.le_of_ble_eq_true rfl) (ki fun r9 M9 hp9 => ?_)
    obtain ⟨rfl, hp9⟩ := hp9
    obtain ⟨A2, hA20, hRM9, hCM9, hd9, ⟨f9, hO9, hf9⟩, ho9⟩ := LJ_a hJ hl0 hp9
    refine x_istore F [(5, .int (nI (cdRi σ0 x0 y0 mk w))), (4, .int (nI (8 * i))), (3, .ref (o)), (2, .ref (m 0)), (1, .ref (A 0)), (0, .ref (b0))] dL_law_915 (by decide) rfl ?_
    refine x_aload_n F 3 dL_law_917 rfl ?_
    refine x_aload_n F 5 dL_law_918 rfl ?_
    refine x_iload F 1 dL_law_919 rfl ?_
    refine x_iconst F (nI 1) dL_law_921 (by decide) ?_
    refine x_iaddN F dL_law_922 ?_
    refine x_sld F hX hbl hbA (vp_in_nI (n := 8 * i + 1) (by omega) (by omega)) dL_law_923 ?_
    refine x_ri0 (y := x0) (by rw [nI_clamp (n := 8 * i + 1) (by omega), hv_x0]) ?_
    refine x_aload_n F 5 dL_law_924 rfl ?_
    refine x_iload F 1 dL_law_925 rfl ?_
    refine x_iconst F (nI 2) dL_law_927 (by decide) ?_
    refine x_iaddN F dL_law_928 ?_
    refine x_sld F hX hbl hbA (vp_in_nI (n := 8 * i + 2) (by omega) (by omega)) dL_law_929 ?_
    refine x_ri0 (y := y0) (by rw [nI_clamp (n := 8 * i + 2) (by omega), hv_y0]) ?_
    refine x_aload_n F 5 dL_law_930 rfl ?_
    refine x_iload F 1 dL_law_931 rfl ?_
    refine x_iconst F (nI 3) dL_law_933 (by decide) ?_
    refine x_iaddN F dL_law_934 ?_
    refine x_sld F hX hbl hbA (vp_in_nI (n := 8 * i + 3) (by omega) (by omega)) dL_law_935 ?_
    refine x_ri0 (y := mk) (by rw [nI_clamp (n := 8 * i + 3) (by omega), hv_mk]) ?_
    refine x_aload_n F 5 dL_law_936 rfl ?_
    refine x_iload F 1 dL_law_937 rfl ?_
    refine x_iconst F (nI 4) dL_law_939 (by decide) ?_
    refine x_iaddN F dL_law_940 ?_
    refine x_sld F hX hbl hbA (vp_in_nI (n := 8 * i + 4) (by omega) (by omega)) dL_law_941 ?_
    refine x_ri0 (y := w) (by rw [nI_clamp (n := 8 * i + 4) (by omega), hv_w]) ?_
    refine x_aload_n F 5 dL_law_942 rfl ?_
    refine x_iload F 1 dL_law_943 rfl ?_
    refine x_iconst F (nI 5) dL_law_945 (by decide) ?_
    refine x_iaddN F dL_law_946 ?_
    refine x_sld F hX hbl hbA (vp_in_nI (n := 8 * i + 5) (by omega) (by omega)) dL_law_947 ?_
    refine x_ri0 (y := xs (8 * i + 5)) (by rw [nI_clamp (n := 8 * i + 5) (by omega)]) ?_
    refine x_if_eq F 955 dL_law_948 (by decide) (fun _ => ?_) (fun c9 => absurd hf c9)
    refine x_iconst F (nI 0) dL_law_955 (by decide) ?_
    refine x_callV F s_L_135 hRM9.1 rfl rfl (c_X4_ride F.nt hRM9 hI.B hI.hbr (f := false)) rfl dL_law_956 (by decide) ⟨by omega, by omega⟩ (Nat.le_of_ble_eq_true rfl) x_noX (ki fun r8 M8 hp8 => ?_)
    obtain ⟨hR8, hr8⟩ := hp8
    rw [← hs0] at hR8
    have e23 : σ.2.1 23 (12 * cl x0 + cl y0) = σ0.2.1 23 (12 * cl x0 + cl y0) := by rw [hs0]; rfl
    rw [e23] at hR8
    have ht8 : ((if cdRi σ x0 y0 mk w = 0 then ridU σ0 (12 * cl x0 + cl y0) (cl (σ0.2.1 23 (12 * cl x0 + cl y0))) (cl mk) (cl w) false else σ0)).1 0 0 = cdRi σ x0 y0 mk w := by (by_cases hz : cdRi σ x0 y0 mk w = 0; (rw [if_pos hz, s0_ride, hs0]; rfl); (rw [if_neg hz, hs0]; rfl))
    refine x_istore F [(6, .int (r8)), (5, .int (nI (cdRi σ0 x0 y0 mk w))), (4, .int (nI (8 * i))), (3, .ref (o)), (2, .ref (m 0)), (1, .ref (A 0)), (0, .ref (b0))] dL_law_959 (by decide) rfl ?_
    refine x_aload_n F 4 dL_law_961 rfl ?_
    refine x_callV F s_L_94 hR8.1 rfl rfl (c_X4_thrown F.nt hR8) rfl dL_law_962 (by decide) ⟨by omega, by omega⟩ (Nat.le_of_ble_eq_true rfl) x_noX (ki fun r7 M7 hp7 => ?_)
    obtain ⟨rfl, rfl⟩ := hp7
    refine x_iload F 1 dL_law_965 rfl ?_
    refine x_icmp_eq F 972 dL_law_967 (by decide) (fun _ => ?_) (fun c9 => absurd (by rw [ht8, hc0]) c9)
    refine x_iload F 1 dL_law_972 rfl ?_
    refine x_if_ne F 989 dL_law_974 (by decide) (fun c9 => ?_) (fun c9 => ?_)
    · have hz : ¬ cdRi σ x0 y0 mk w = 0 := fun z => c9 (by rw [hc0, z]; rfl)
      skip
      refine x_goto F 1548 dL_law_989 (by decide) ?_
      refine x_sub [2, 3, 4, 5, 6] rfl (L' := [(4, .int (nI (8 * i))), (3, .ref (o)), (2, .ref (m 0)), (1, .ref (A 0)), (0, .ref (b0))]) ?_
      refine x_widen (a' := a + 100) (b' := b + 1000) (by omega) (by omega) ?_
      rw [if_neg hz] at hR8
      rw [hc0, if_neg hz] at hCM9 hd9 ho9
      exact kk A2 _ M8 hA20 (LJ_b hCM9 hd9 hO9 ho9 hJ.2.2.2.2.2 hR8).1 (Inv_s hI0)
    · have hz : cdRi σ x0 y0 mk w = 0 := hc0.symm.trans ((nI_z (Nat.lt_trans lt_cdRi (by decide))).mp c9)
      have hq : (ridU σ0 (12 * cl x0 + cl y0) (cl (σ0.2.1 23 (12 * cl x0 + cl y0))) (cl mk) (cl w) false).2.1 28 (12 * cl x0 + cl y0) = r8 := by (rw [hr8 hz]; subst hs0; rfl)
      refine x_aload_n F 3 dL_law_977 rfl ?_
      refine x_iconst F (nI 0) dL_law_978 (by decide) ?_
      have hO8 : M8 o = some (.inl (gC g 1, 1, .inr (.inl f9))) := (hR8.2.2.1 o hJ.2.2.2.2.2).trans hO9
      refine x_lald F hO8 (vp_in_nI (n := 0) (by decide) (by decide)) dL_law_979 ?_
      refine x_rl0 (y := ((ridU σ0 (12 * cl x0 + cl y0) (cl (σ0.2.1 23 (12 * cl x0 + cl y0))) (cl mk) (cl w) false).2.1 28 (12 * cl x0 + cl y0)).toInt64) (by rw [nI_clamp (n := 0) (by decide)]; exact hf9 (hc0.trans hz)) ?_
      refine x_iload F 0 dL_law_980 rfl ?_
      refine x_i2l F dL_law_982 ?_
      refine x_lcmp F dL_law_983 ?_
      refine x_if_eq F 989 dL_law_984 (by decide) (fun _ => ?_) (fun c7 => absurd ((lg_cmp_eq _ _).mpr (congrArg Int32.toInt64 hq)) c7)
      skip
      refine x_goto F 1548 dL_law_989 (by decide) ?_
      refine x_sub [2, 3, 4, 5, 6] rfl (L' := [(4, .int (nI (8 * i))), (3, .ref (o)), (2, .ref (m 0)), (1, .ref (A 0)), (0, .ref (b0))]) ?_
      refine x_widen (a' := a + 100) (b' := b + 1000) (by omega) (by omega) ?_
      rw [if_pos hz] at hR8
      rw [hc0, if_pos hz] at hCM9 hd9 ho9
      have hJ8 := (LJ_b hCM9 hd9 hO9 ho9 hJ.2.2.2.2.2 hR8).1
      exact kk A2 _ M8 hA20 hJ8 (IV_ride hI0 h512 (hc0.trans hz))
  · have h512 : i < 512 := by omega
    obtain ⟨σ0, hs0⟩ : ∃ z, z = uN σ 0 0 (cdRi σ x0 y0 mk w) := ⟨_, rfl⟩
    have hI0 : Inv i σ0 := hs0 ▸ Inv_0 hI _
    have hC0 : CM g A M σ0 M := hs0 ▸ CM_0 hJ.1 _
    have hc0 : cdRi σ0 x0 y0 mk w = cdRi σ x0 y0 mk w := by first | rfl | (rw [hs0]; rfl)
    have hl0 : ∀ c, lvB σ0 c = lvB σ c := fun c => by rw [hs0]; exact lv_u0
    obtain ⟨fo, hO⟩ := hJ.2.2.2.1
    have ho : ∀ c, lvB σ0 c = true → o ≠ A c := fun c hc => hJ.2.2.2.2.1 c ((hl0 c).symm.trans hc)
    refine x_aload_n F 3 dL_law_872 rfl ?_
    refine x_aload_n F 4 dL_law_873 rfl ?_
    refine x_iload F 0 dL_law_874 rfl ?_
    refine x_iconst F (nI 1) dL_law_876 (by decide) ?_
    refine x_iaddN F dL_law_877 ?_
    refine x_sld F hX hbl hbA (vp_in_nI (n := 8 * i + 1) (by omega) (by omega)) dL_law_878 ?_
    refine x_ri0 (y := x0) (by rw [nI_clamp (n := 8 * i + 1) (by omega), hv_x0]) ?_
    refine x_aload_n F 4 dL_law_879 rfl ?_
    refine x_iload F 0 dL_law_880 rfl ?_
    refine x_iconst F (nI 2) dL_law_882 (by decide) ?_
    refine x_iaddN F dL_law_883 ?_
    refine x_sld F hX hbl hbA (vp_in_nI (n := 8 * i + 2) (by omega) (by omega)) dL_law_884 ?_
    refine x_ri0 (y := y0) (by rw [nI_clamp (n := 8 * i + 2) (by omega), hv_y0]) ?_
    refine x_aload_n F 4 dL_law_885 rfl ?_
    refine x_iload F 0 dL_law_886 rfl ?_
    refine x_iconst F (nI 3) dL_law_888 (by decide) ?_
    refine x_iaddN F dL_law_889 ?_
    refine x_sld F hX hbl hbA (vp_in_nI (n := 8 * i + 3) (by omega) (by omega)) dL_law_890 ?_
    refine x_ri0 (y := mk) (by rw [nI_clamp (n := 8 * i + 3) (by omega), hv_mk]) ?_
    refine x_aload_n F 4 dL_law_891 rfl ?_
    refine x_iload F 0 dL_law_892 rfl ?_
    refine x_iconst F (nI 4) dL_law_894 (by decide) ?_
    refine x_iaddN F dL_law_895 ?_
    refine x_sld F hX hbl hbA (vp_in_nI (n := 8 * i + 4) (by omega) (by omega)) dL_law_896 ?_
    refine x_ri0 (y := w) (by rw [nI_clamp (n := 8 * i + 4) (by omega), hv_w]) ?_
    refine x_aload_n F 4 dL_law_897 rfl ?_
    refine x_iload F 0 dL_law_898 rfl ?_
    refine x_iconst F (nI 5) dL_law_900 (by decide) ?_
    refine x_iaddN F dL_law_901 ?_
    refine x_sld F hX hbl hbA (vp_in_nI (n := 8 * i + 5) (by omega) (by omega)) dL_law_902 ?_
    refine x_ri0 (y := xs (8 * i + 5)) (by rw [nI_clamp (n := 8 * i + 5) (by omega)]) ?_
    refine x_if_eq F 910 dL_law_903 (by decide) (fun c9 => absurd c9 hf) (fun _ => ?_)
    refine x_iconst F (nI 1) dL_law_906 (by decide) ?_
    refine x_goto F 911 dL_law_907 (by decide) ?_
    refine x_aload_n F 1 dL_law_911 rfl ?_
    refine x_callH F w_h_ride rfl (c_L_ride F.nt hC0 hI0.B hI0.D hI0.hbr hO ho (f := true)) rfl dL_law_912 (by decide) ⟨by omega, by omega⟩ (Nat.le_of_ble_eq_true rfl) (ki fun r9 M9 hp9 => ?_)
    obtain ⟨rfl, hp9⟩ := hp9
    obtain ⟨A2, hA20, hRM9, hCM9, hd9, ⟨f9, hO9, hf9⟩, ho9⟩ := LJ_a hJ hl0 hp9
    refine x_istore F [(5, .int (nI (cdRi σ0 x0 y0 mk w))), (4, .int (nI (8 * i))), (3, .ref (o)), (2, .ref (m 0)), (1, .ref (A 0)), (0, .ref (b0))] dL_law_915 (by decide) rfl ?_
    refine x_aload_n F 3 dL_law_917 rfl ?_
    refine x_aload_n F 5 dL_law_918 rfl ?_
    refine x_iload F 1 dL_law_919 rfl ?_
    refine x_iconst F (nI 1) dL_law_921 (by decide) ?_
    refine x_iaddN F dL_law_922 ?_
    refine x_sld F hX hbl hbA (vp_in_nI (n := 8 * i + 1) (by omega) (by omega)) dL_law_923 ?_
    refine x_ri0 (y := x0) (by rw [nI_clamp (n := 8 * i + 1) (by omega), hv_x0]) ?_
    refine x_aload_n F 5 dL_law_924 rfl ?_
    refine x_iload F 1 dL_law_925 rfl ?_
    refine x_iconst F (nI 2) dL_law_927 (by decide) ?_
    refine x_iaddN F dL_law_928 ?_
    refine x_sld F hX hbl hbA (vp_in_nI (n := 8 * i + 2) (by omega) (by omega)) dL_law_929 ?_
    refine x_ri0 (y := y0) (by rw [nI_clamp (n := 8 * i + 2) (by omega), hv_y0]) ?_
    refine x_aload_n F 5 dL_law_930 rfl ?_
    refine x_iload F 1 dL_law_931 rfl ?_
    refine x_iconst F (nI 3) dL_law_933 (by decide) ?_
    refine x_iaddN F dL_law_934 ?_
    refine x_sld F hX hbl hbA (vp_in_nI (n := 8 * i + 3) (by omega) (by omega)) dL_law_935 ?_
    refine x_ri0 (y := mk) (by rw [nI_clamp (n := 8 * i + 3) (by omega), hv_mk]) ?_
    refine x_aload_n F 5 dL_law_936 rfl ?_
    refine x_iload F 1 dL_law_937 rfl ?_
    refine x_iconst F (nI 4) dL_law_939 (by decide) ?_
    refine x_iaddN F dL_law_940 ?_
    refine x_sld F hX hbl hbA (vp_in_nI (n := 8 * i + 4) (by omega) (by omega)) dL_law_941 ?_
    refine x_ri0 (y := w) (by rw [nI_clamp (n := 8 * i + 4) (by omega), hv_w]) ?_
    refine x_aload_n F 5 dL_law_942 rfl ?_
    refine x_iload F 1 dL_law_943 rfl ?_
    refine x_iconst F (nI 5) dL_law_945 (by decide) ?_
    refine x_iaddN F dL_law_946 ?_
    refine x_sld F hX hbl hbA (vp_in_nI (n := 8 * i + 5) (by omega) (by omega)) dL_law_947 ?_
    refine x_ri0 (y := xs (8 * i + 5)) (by rw [nI_clamp (n := 8 * i + 5) (by omega)]) ?_
    refine x_if_eq F 955 dL_law_948 (by decide) (fun c9 => absurd c9 hf) (fun _ => ?_)
    refine x_iconst F (nI 1) dL_law_951 (by decide) ?_
    refine x_goto F 956 dL_law_952 (by decide) ?_
    refine x_callV F s_L_135 hRM9.1 rfl rfl (c_X4_ride F.nt hRM9 hI.B hI.hbr (f := true)) rfl dL_law_956 (by decide) ⟨by omega, by omega⟩ (Nat.le_of_ble_eq_true rfl) x_noX (ki fun r8 M8 hp8 => ?_)
    obtain ⟨hR8, hr8⟩ := hp8
    rw [← hs0] at hR8
    have e23 : σ.2.1 23 (12 * cl x0 + cl y0) = σ0.2.1 23 (12 * cl x0 + cl y0) := by rw [hs0]; rfl
    rw [e23] at hR8
    have ht8 : ((if cdRi σ x0 y0 mk w = 0 then ridU σ0 (12 * cl x0 + cl y0) (cl (σ0.2.1 23 (12 * cl x0 + cl y0))) (cl mk) (cl w) true else σ0)).1 0 0 = cdRi σ x0 y0 mk w := by (by_cases hz : cdRi σ x0 y0 mk w = 0; (rw [if_pos hz, s0_ride, hs0]; rfl); (rw [if_neg hz, hs0]; rfl))
    refine x_istore F [(6, .int (r8)), (5, .int (nI (cdRi σ0 x0 y0 mk w))), (4, .int (nI (8 * i))), (3, .ref (o)), (2, .ref (m 0)), (1, .ref (A 0)), (0, .ref (b0))] dL_law_959 (by decide) rfl ?_
    refine x_aload_n F 4 dL_law_961 rfl ?_
    refine x_callV F s_L_94 hR8.1 rfl rfl (c_X4_thrown F.nt hR8) rfl dL_law_962 (by decide) ⟨by omega, by omega⟩ (Nat.le_of_ble_eq_true rfl) x_noX (ki fun r7 M7 hp7 => ?_)
    obtain ⟨rfl, rfl⟩ := hp7
    refine x_iload F 1 dL_law_965 rfl ?_
    refine x_icmp_eq F 972 dL_law_967 (by decide) (fun _ => ?_) (fun c9 => absurd (by rw [ht8, hc0]) c9)
    refine x_iload F 1 dL_law_972 rfl ?_
    refine x_if_ne F 989 dL_law_974 (by decide) (fun c9 => ?_) (fun c9 => ?_)
    · have hz : ¬ cdRi σ x0 y0 mk w = 0 := fun z => c9 (by rw [hc0, z]; rfl)
      skip
      refine x_goto F 1548 dL_law_989 (by decide) ?_
      refine x_sub [2, 3, 4, 5, 6] rfl (L' := [(4, .int (nI (8 * i))), (3, .ref (o)), (2, .ref (m 0)), (1, .ref (A 0)), (0, .ref (b0))]) ?_
      refine x_widen (a' := a + 100) (b' := b + 1000) (by omega) (by omega) ?_
      rw [if_neg hz] at hR8
      rw [hc0, if_neg hz] at hCM9 hd9 ho9
      exact kk A2 _ M8 hA20 (LJ_b hCM9 hd9 hO9 ho9 hJ.2.2.2.2.2 hR8).1 (Inv_s hI0)
    · have hz : cdRi σ x0 y0 mk w = 0 := hc0.symm.trans ((nI_z (Nat.lt_trans lt_cdRi (by decide))).mp c9)
      have hq : (ridU σ0 (12 * cl x0 + cl y0) (cl (σ0.2.1 23 (12 * cl x0 + cl y0))) (cl mk) (cl w) true).2.1 28 (12 * cl x0 + cl y0) = r8 := by (rw [hr8 hz]; subst hs0; rfl)
      refine x_aload_n F 3 dL_law_977 rfl ?_
      refine x_iconst F (nI 0) dL_law_978 (by decide) ?_
      have hO8 : M8 o = some (.inl (gC g 1, 1, .inr (.inl f9))) := (hR8.2.2.1 o hJ.2.2.2.2.2).trans hO9
      refine x_lald F hO8 (vp_in_nI (n := 0) (by decide) (by decide)) dL_law_979 ?_
      refine x_rl0 (y := ((ridU σ0 (12 * cl x0 + cl y0) (cl (σ0.2.1 23 (12 * cl x0 + cl y0))) (cl mk) (cl w) true).2.1 28 (12 * cl x0 + cl y0)).toInt64) (by rw [nI_clamp (n := 0) (by decide)]; exact hf9 (hc0.trans hz)) ?_
      refine x_iload F 0 dL_law_980 rfl ?_
      refine x_i2l F dL_law_982 ?_
      refine x_lcmp F dL_law_983 ?_
      refine x_if_eq F 989 dL_law_984 (by decide) (fun _ => ?_) (fun c7 => absurd ((lg_cmp_eq _ _).mpr (congrArg Int32.toInt64 hq)) c7)
      skip
      refine x_goto F 1548 dL_law_989 (by decide) ?_
      refine x_sub [2, 3, 4, 5, 6] rfl (L' := [(4, .int (nI (8 * i))), (3, .ref (o)), (2, .ref (m 0)), (1, .ref (A 0)), (0, .ref (b0))]) ?_
      refine x_widen (a' := a + 100) (b' := b + 1000) (by omega) (by omega) ?_
      rw [if_pos hz] at hR8
      rw [hc0, if_pos hz] at hCM9 hd9 ho9
      have hJ8 := (LJ_b hCM9 hd9 hO9 ho9 hJ.2.2.2.2.2 hR8).1
      exact kk A2 _ M8 hA20 hJ8 (IV_ride hI0 h512 (hc0.trans hz))
set_option maxHeartbeats 4000000 in
set_option maxRecDepth 100000 in
theorem blk_isOffered {K : KX} {g : GP} {Q : State → Prop} {M : MM} {A : Nat → Nat} {m : Nat → Nat} {σ : ST} {a b b0 L0 i o : Nat} {xs : Nat → Int32} {hh9 : List (Nat × Nat × Nat × Nat)} (F : Fx K g cL_law RL 7 (some .boolean) hh9 12 460 601024 7293034) (hX : va_X b0 L0 xs (ks K) (ks K).heap) (hbl : b0 < (ks K).heap.size) (hbA : ¬ gO g b0) (hL0 : L0 ≤ 4096) (hi : 8 * i + 8 ≤ L0) (ha : a + 100 ≤ 601024) (hb : b + 1000 ≤ 7293034) (hJ : LJ g A m σ M o) (hI : Inv i σ) (kk : ∀ A3 σ3 M3, A3 0 = A 0 → LJ g A3 m σ3 M3 o → Inv (i + 1) σ3 → XW K g 7 Q M3 (a + 100) (b + 1000) 1548 [(4, .int (nI (8 * i))), (3, .ref (o)), (2, .ref (m 0)), (1, .ref (A 0)), (0, .ref (b0))] []) : XW K g 7 Q M a b 992 [(4, .int (nI (8 * i))), (3, .ref (o)), (2, .ref (m 0)), (1, .ref (A 0)), (0, .ref (b0))] [] := by
  obtain ⟨x0, hv_x0⟩ : ∃ z, z = xs (8 * i + 1) := ⟨_, rfl⟩
  obtain ⟨y0, hv_y0⟩ : ∃ z, z = xs (8 * i + 2) := ⟨_, rfl⟩
  have h512 : i < 512 := by omega
  obtain ⟨σ0, hs0⟩ : ∃ z, z = uN σ 0 0 (cdRR σ x0 y0) := ⟨_, rfl⟩
  have hI0 : Inv i σ0 := hs0 ▸ Inv_0 hI _
  have hC0 : CM g A M σ0 M := hs0 ▸ CM_0 hJ.1 _
  have hc0 : cdRR σ0 x0 y0 = cdRR σ x0 y0 := by first | rfl | (rw [hs0]; rfl)
  have hl0 : ∀ c, lvB σ0 c = lvB σ c := fun c => by rw [hs0]; exact lv_u0
  obtain ⟨fo, hO⟩ := hJ.2.2.2.1
  have ho : ∀ c, lvB σ0 c = true → o ≠ A c := fun c hc => hJ.2.2.2.2.1 c ((hl0 c).symm.trans hc)
  refine x_aload_n F 3 dL_law_992 rfl ?_
  refine x_aload_n F 4 dL_law_993 rfl ?_
  refine x_iload F 0 dL_law_994 rfl ?_
  refine x_iconst F (nI 1) dL_law_996 (by decide) ?_
  refine x_iaddN F dL_law_997 ?_
  refine x_sld F hX hbl hbA (vp_in_nI (n := 8 * i + 1) (by omega) (by omega)) dL_law_998 ?_
  refine x_ri0 (y := x0) (by rw [nI_clamp (n := 8 * i + 1) (by omega), hv_x0]) ?_
  refine x_aload_n F 4 dL_law_999 rfl ?_
  refine x_iload F 0 dL_law_1000 rfl ?_
  refine x_iconst F (nI 2) dL_law_1002 (by decide) ?_
  refine x_iaddN F dL_law_1003 ?_
  refine x_sld F hX hbl hbA (vp_in_nI (n := 8 * i + 2) (by omega) (by omega)) dL_law_1004 ?_
  refine x_ri0 (y := y0) (by rw [nI_clamp (n := 8 * i + 2) (by omega), hv_y0]) ?_
  refine x_aload_n F 1 dL_law_1005 rfl ?_
  refine x_callH F w_h_isOffered rfl (c_L_isOffered F.nt hC0 hI0.B hI0.D hO ho) rfl dL_law_1006 (by decide) ⟨by omega, by omega⟩ (Nat.le_of_ble_eq_true rfl) (ki fun r9 M9 hp9 => ?_)
  obtain ⟨rfl, hp9⟩ := hp9
  obtain ⟨A2, hA20, hRM9, hCM9, hd9, ⟨f9, hO9, hf9⟩, ho9⟩ := LJ_a hJ hl0 hp9
  refine x_istore F [(5, .int (nI (cdRR σ0 x0 y0))), (4, .int (nI (8 * i))), (3, .ref (o)), (2, .ref (m 0)), (1, .ref (A 0)), (0, .ref (b0))] dL_law_1009 (by decide) rfl ?_
  refine x_aload_n F 3 dL_law_1011 rfl ?_
  refine x_aload_n F 5 dL_law_1012 rfl ?_
  refine x_iload F 1 dL_law_1013 rfl ?_
  refine x_iconst F (nI 1) dL_law_1015 (by decide) ?_
  refine x_iaddN F dL_law_1016 ?_
  refine x_sld F hX hbl hbA (vp_in_nI (n := 8 * i + 1) (by omega) (by omega)) dL_law_1017 ?_
  refine x_ri0 (y := x0) (by rw [nI_clamp (n := 8 * i + 1) (by omega), hv_x0]) ?_
  refine x_aload_n F 5 dL_law_1018 rfl ?_
  refine x_iload F 1 dL_law_1019 rfl ?_
  refine x_iconst F (nI 2) dL_law_1021 (by decide) ?_
  refine x_iaddN F dL_law_1022 ?_
  refine x_sld F hX hbl hbA (vp_in_nI (n := 8 * i + 2) (by omega) (by omega)) dL_law_1023 ?_
  refine x_ri0 (y := y0) (by rw [nI_clamp (n := 8 * i + 2) (by omega), hv_y0]) ?_
  refine x_callV F s_L_138 hRM9.1 rfl rfl (c_X4_isOffered F.nt hRM9 hI.B) rfl dL_law_1024 (by decide) ⟨by omega, by omega⟩ (Nat.le_of_ble_eq_true rfl) x_noX (ki fun r8 M8 hp8 => ?_)
  obtain ⟨hR8, hr8⟩ := hp8
  rw [← hs0] at hR8
  have ht8 : (σ0).1 0 0 = cdRR σ x0 y0 := by rw [hs0]; rfl
  refine x_istore F [(6, .int (r8)), (5, .int (nI (cdRR σ0 x0 y0))), (4, .int (nI (8 * i))), (3, .ref (o)), (2, .ref (m 0)), (1, .ref (A 0)), (0, .ref (b0))] dL_law_1027 (by decide) rfl ?_
  refine x_aload_n F 4 dL_law_1029 rfl ?_
  refine x_callV F s_L_94 hR8.1 rfl rfl (c_X4_thrown F.nt hR8) rfl dL_law_1030 (by decide) ⟨by omega, by omega⟩ (Nat.le_of_ble_eq_true rfl) x_noX (ki fun r7 M7 hp7 => ?_)
  obtain ⟨rfl, rfl⟩ := hp7
  refine x_iload F 1 dL_law_1033 rfl ?_
  refine x_icmp_eq F 1040 dL_law_1035 (by decide) (fun _ => ?_) (fun c9 => absurd (by rw [ht8, hc0]) c9)
  refine x_iload F 1 dL_law_1040 rfl ?_
  refine x_if_ne F 1064 dL_law_1042 (by decide) (fun c9 => ?_) (fun c9 => ?_)
  · have hz : ¬ cdRR σ x0 y0 = 0 := fun z => c9 (by rw [hc0, z]; rfl)
    skip
    refine x_goto F 1548 dL_law_1064 (by decide) ?_
    refine x_sub [2, 3, 4, 5, 6] rfl (L' := [(4, .int (nI (8 * i))), (3, .ref (o)), (2, .ref (m 0)), (1, .ref (A 0)), (0, .ref (b0))]) ?_
    refine x_widen (a' := a + 100) (b' := b + 1000) (by omega) (by omega) ?_
    exact kk A2 _ M8 hA20 (LJ_b hCM9 hd9 hO9 ho9 hJ.2.2.2.2.2 hR8).1 (Inv_s hI0)
  · have hz : cdRR σ x0 y0 = 0 := hc0.symm.trans ((nI_z (Nat.lt_trans lt_cdRR (by decide))).mp c9)
    have hq : nI (bz (decide (¬ σ0.1 26 (12 * cl x0 + cl y0) = 0))) = r8 := by (rw [hr8 hz]; subst hs0; rfl)
    refine x_aload_n F 3 dL_law_1045 rfl ?_
    refine x_iconst F (nI 0) dL_law_1046 (by decide) ?_
    have hO8 : M8 o = some (.inl (gC g 1, 1, .inr (.inl f9))) := (hR8.2.2.1 o hJ.2.2.2.2.2).trans hO9
    refine x_lald F hO8 (vp_in_nI (n := 0) (by decide) (by decide)) dL_law_1047 ?_
    refine x_rl0 (y := (if decide (¬ σ0.1 26 (12 * cl x0 + cl y0) = 0) then 1 else 0)) (by rw [nI_clamp (n := 0) (by decide)]; exact hf9 (hc0.trans hz)) ?_
    refine x_iload F 0 dL_law_1048 rfl ?_
    rw [← hq]
    refine x_if_eq F 1057 dL_law_1050 (by decide) (fun c8 => ?_) (fun c8 => ?_)
    · have c8 := nI_bz0.mp c8
      refine x_lconst F 0 dL_law_1057 (by decide) ?_
      refine x_lcmp F dL_law_1058 ?_
      refine x_if_eq F 1064 dL_law_1059 (by decide) (fun _ => ?_) (fun c7 => absurd ((lg_cmp_eq _ _).mpr (by rw [c8]; rfl)) c7)
      skip
      refine x_goto F 1548 dL_law_1064 (by decide) ?_
      refine x_sub [2, 3, 4, 5, 6] rfl (L' := [(4, .int (nI (8 * i))), (3, .ref (o)), (2, .ref (m 0)), (1, .ref (A 0)), (0, .ref (b0))]) ?_
      refine x_widen (a' := a + 100) (b' := b + 1000) (by omega) (by omega) ?_
      have hJ8 := (LJ_b hCM9 hd9 hO9 ho9 hJ.2.2.2.2.2 hR8).1
      exact kk A2 _ M8 hA20 hJ8 (Inv_s hI0)
    · have c8 := nI_bz1.mp c8
      refine x_lconst F 1 dL_law_1053 (by decide) ?_
      refine x_goto F 1058 dL_law_1054 (by decide) ?_
      refine x_lcmp F dL_law_1058 ?_
      refine x_if_eq F 1064 dL_law_1059 (by decide) (fun _ => ?_) (fun c7 => absurd ((lg_cmp_eq _ _).mpr (by rw [c8]; rfl)) c7)
      skip
      refine x_goto F 1548 dL_law_1064 (by decide) ?_
      refine x_sub [2, 3, 4, 5, 6] rfl (L' := [(4, .int (nI (8 * i))), (3, .ref (o)), (2, .ref (m 0)), (1, .ref (A 0)), (0, .ref (b0))]) ?_
      refine x_widen (a' := a + 100) (b' := b + 1000) (by omega) (by omega) ?_
      have hJ8 := (LJ_b hCM9 hd9 hO9 ho9 hJ.2.2.2.2.2 hR8).1
      exact kk A2 _ M8 hA20 hJ8 (Inv_s hI0)
set_option maxHeartbeats 4000000 in
set_option maxRecDepth 100000 in
theorem blk_answer {K : KX} {g : GP} {Q : State → Prop} {M : MM} {A : Nat → Nat} {m : Nat → Nat} {σ : ST} {a b b0 L0 i o : Nat} {xs : Nat → Int32} {hh9 : List (Nat × Nat × Nat × Nat)} (F : Fx K g cL_law RL 7 (some .boolean) hh9 12 460 601024 7293034) (hX : va_X b0 L0 xs (ks K) (ks K).heap) (hbl : b0 < (ks K).heap.size) (hbA : ¬ gO g b0) (hL0 : L0 ≤ 4096) (hi : 8 * i + 8 ≤ L0) (ha : a + 100 ≤ 601024) (hb : b + 1000 ≤ 7293034) (hJ : LJ g A m σ M o) (hI : Inv i σ) (kk : ∀ A3 σ3 M3, A3 0 = A 0 → LJ g A3 m σ3 M3 o → Inv (i + 1) σ3 → XW K g 7 Q M3 (a + 100) (b + 1000) 1548 [(4, .int (nI (8 * i))), (3, .ref (o)), (2, .ref (m 0)), (1, .ref (A 0)), (0, .ref (b0))] []) : XW K g 7 Q M a b 1067 [(4, .int (nI (8 * i))), (3, .ref (o)), (2, .ref (m 0)), (1, .ref (A 0)), (0, .ref (b0))] [] := by
  obtain ⟨x0, hv_x0⟩ : ∃ z, z = xs (8 * i + 1) := ⟨_, rfl⟩
  obtain ⟨y0, hv_y0⟩ : ∃ z, z = xs (8 * i + 2) := ⟨_, rfl⟩
  by_cases hf : xs (8 * i + 3) = 0
  · have h512 : i < 512 := by omega
    obtain ⟨σ0, hs0⟩ : ∃ z, z = uN σ 0 0 (cdAn σ x0 y0) := ⟨_, rfl⟩
    have hI0 : Inv i σ0 := hs0 ▸ Inv_0 hI _
    have hC0 : CM g A M σ0 M := hs0 ▸ CM_0 hJ.1 _
    have hc0 : cdAn σ0 x0 y0 = cdAn σ x0 y0 := by first | rfl | (rw [hs0]; rfl)
    have hl0 : ∀ c, lvB σ0 c = lvB σ c := fun c => by rw [hs0]; exact lv_u0
    obtain ⟨fo, hO⟩ := hJ.2.2.2.1
    have ho : ∀ c, lvB σ0 c = true → o ≠ A c := fun c hc => hJ.2.2.2.2.1 c ((hl0 c).symm.trans hc)
    refine x_aload_n F 3 dL_law_1067 rfl ?_
    refine x_aload_n F 4 dL_law_1068 rfl ?_
    refine x_iload F 0 dL_law_1069 rfl ?_
    refine x_iconst F (nI 1) dL_law_1071 (by decide) ?_
    refine x_iaddN F dL_law_1072 ?_
    refine x_sld F hX hbl hbA (vp_in_nI (n := 8 * i + 1) (by omega) (by omega)) dL_law_1073 ?_
    refine x_ri0 (y := x0) (by rw [nI_clamp (n := 8 * i + 1) (by omega), hv_x0]) ?_
    refine x_aload_n F 4 dL_law_1074 rfl ?_
    refine x_iload F 0 dL_law_1075 rfl ?_
    refine x_iconst F (nI 2) dL_law_1077 (by decide) ?_
    refine x_iaddN F dL_law_1078 ?_
    refine x_sld F hX hbl hbA (vp_in_nI (n := 8 * i + 2) (by omega) (by omega)) dL_law_1079 ?_
    refine x_ri0 (y := y0) (by rw [nI_clamp (n := 8 * i + 2) (by omega), hv_y0]) ?_
    refine x_aload_n F 4 dL_law_1080 rfl ?_
    refine x_iload F 0 dL_law_1081 rfl ?_
    refine x_iconst F (nI 3) dL_law_1083 (by decide) ?_
    refine x_iaddN F dL_law_1084 ?_
    refine x_sld F hX hbl hbA (vp_in_nI (n := 8 * i + 3) (by omega) (by omega)) dL_law_1085 ?_
    refine x_ri0 (y := xs (8 * i + 3)) (by rw [nI_clamp (n := 8 * i + 3) (by omega)]) ?_
    refine x_if_eq F 1093 dL_law_1086 (by decide) (fun _ => ?_) (fun c9 => absurd hf c9)
    refine x_iconst F (nI 0) dL_law_1093 (by decide) ?_
    refine x_aload_n F 1 dL_law_1094 rfl ?_
    refine x_callH F w_h_answer rfl (c_L_answer F.nt hC0 hI0.B hI0.D hI0.be hI0.hpl hO ho (f := false)) rfl dL_law_1095 (by decide) ⟨by omega, by omega⟩ (Nat.le_of_ble_eq_true rfl) (ki fun r9 M9 hp9 => ?_)
    obtain ⟨rfl, hp9⟩ := hp9
    obtain ⟨A2, hA20, hRM9, hCM9, hd9, ⟨f9, hO9, hf9⟩, ho9⟩ := LJ_a hJ hl0 hp9
    refine x_istore F [(5, .int (nI (cdAn σ0 x0 y0))), (4, .int (nI (8 * i))), (3, .ref (o)), (2, .ref (m 0)), (1, .ref (A 0)), (0, .ref (b0))] dL_law_1098 (by decide) rfl ?_
    refine x_aload_n F 3 dL_law_1100 rfl ?_
    refine x_aload_n F 5 dL_law_1101 rfl ?_
    refine x_iload F 1 dL_law_1102 rfl ?_
    refine x_iconst F (nI 1) dL_law_1104 (by decide) ?_
    refine x_iaddN F dL_law_1105 ?_
    refine x_sld F hX hbl hbA (vp_in_nI (n := 8 * i + 1) (by omega) (by omega)) dL_law_1106 ?_
    refine x_ri0 (y := x0) (by rw [nI_clamp (n := 8 * i + 1) (by omega), hv_x0]) ?_
    refine x_aload_n F 5 dL_law_1107 rfl ?_
    refine x_iload F 1 dL_law_1108 rfl ?_
    refine x_iconst F (nI 2) dL_law_1110 (by decide) ?_
    refine x_iaddN F dL_law_1111 ?_
    refine x_sld F hX hbl hbA (vp_in_nI (n := 8 * i + 2) (by omega) (by omega)) dL_law_1112 ?_
    refine x_ri0 (y := y0) (by rw [nI_clamp (n := 8 * i + 2) (by omega), hv_y0]) ?_
    refine x_aload_n F 5 dL_law_1113 rfl ?_
    refine x_iload F 1 dL_law_1114 rfl ?_
    refine x_iconst F (nI 3) dL_law_1116 (by decide) ?_
    refine x_iaddN F dL_law_1117 ?_
    refine x_sld F hX hbl hbA (vp_in_nI (n := 8 * i + 3) (by omega) (by omega)) dL_law_1118 ?_
    refine x_ri0 (y := xs (8 * i + 3)) (by rw [nI_clamp (n := 8 * i + 3) (by omega)]) ?_
    refine x_if_eq F 1126 dL_law_1119 (by decide) (fun _ => ?_) (fun c9 => absurd hf c9)
    refine x_iconst F (nI 0) dL_law_1126 (by decide) ?_
    refine x_callV F s_L_142 hRM9.1 rfl rfl (c_X4_answer F.nt hRM9 hI.B hI.hpl (f := false)) rfl dL_law_1127 (by decide) ⟨by omega, by omega⟩ (Nat.le_of_ble_eq_true rfl) x_noX (ki fun r8 M8 hp8 => ?_)
    obtain ⟨hR8, hr8⟩ := hp8
    rw [← hs0] at hR8
    have ht8 : ((if cdAn σ x0 y0 = 0 then ansU σ0 (cl x0) (cl y0) false else σ0)).1 0 0 = cdAn σ x0 y0 := by (by_cases hz : cdAn σ x0 y0 = 0; (rw [if_pos hz, s0_answer, hs0]; rfl); (rw [if_neg hz, hs0]; rfl))
    refine x_istore F [(6, .int (r8)), (5, .int (nI (cdAn σ0 x0 y0))), (4, .int (nI (8 * i))), (3, .ref (o)), (2, .ref (m 0)), (1, .ref (A 0)), (0, .ref (b0))] dL_law_1130 (by decide) rfl ?_
    refine x_aload_n F 4 dL_law_1132 rfl ?_
    refine x_callV F s_L_94 hR8.1 rfl rfl (c_X4_thrown F.nt hR8) rfl dL_law_1133 (by decide) ⟨by omega, by omega⟩ (Nat.le_of_ble_eq_true rfl) x_noX (ki fun r7 M7 hp7 => ?_)
    obtain ⟨rfl, rfl⟩ := hp7
    refine x_iload F 1 dL_law_1136 rfl ?_
    refine x_icmp_eq F 1143 dL_law_1138 (by decide) (fun _ => ?_) (fun c9 => absurd (by rw [ht8, hc0]) c9)
    refine x_iload F 1 dL_law_1143 rfl ?_
    refine x_if_ne F 1160 dL_law_1145 (by decide) (fun c9 => ?_) (fun c9 => ?_)
    · have hz : ¬ cdAn σ x0 y0 = 0 := fun z => c9 (by rw [hc0, z]; rfl)
      skip
      refine x_goto F 1548 dL_law_1160 (by decide) ?_
      refine x_sub [2, 3, 4, 5, 6] rfl (L' := [(4, .int (nI (8 * i))), (3, .ref (o)), (2, .ref (m 0)), (1, .ref (A 0)), (0, .ref (b0))]) ?_
      refine x_widen (a' := a + 100) (b' := b + 1000) (by omega) (by omega) ?_
      rw [if_neg hz] at hR8
      rw [hc0, if_neg hz] at hCM9 hd9 ho9
      exact kk A2 _ M8 hA20 (LJ_b hCM9 hd9 hO9 ho9 hJ.2.2.2.2.2 hR8).1 (Inv_s hI0)
    · have hz : cdAn σ x0 y0 = 0 := hc0.symm.trans ((nI_z (Nat.lt_trans lt_cdAn (by decide))).mp c9)
      have hq : (if false = true then (ansU σ0 (cl x0) (cl y0) false).2.1 23 (12 * cl x0 + cl y0) else -1) = r8 := by (rw [hr8 hz]; subst hs0; rfl)
      refine x_aload_n F 3 dL_law_1148 rfl ?_
      refine x_iconst F (nI 0) dL_law_1149 (by decide) ?_
      have hO8 : M8 o = some (.inl (gC g 1, 1, .inr (.inl f9))) := (hR8.2.2.1 o hJ.2.2.2.2.2).trans hO9
      refine x_lald F hO8 (vp_in_nI (n := 0) (by decide) (by decide)) dL_law_1150 ?_
      refine x_rl0 (y := ((if false = true then (ansU σ0 (cl x0) (cl y0) false).2.1 23 (12 * cl x0 + cl y0) else -1)).toInt64) (by rw [nI_clamp (n := 0) (by decide)]; exact hf9 (hc0.trans hz)) ?_
      refine x_iload F 0 dL_law_1151 rfl ?_
      refine x_i2l F dL_law_1153 ?_
      refine x_lcmp F dL_law_1154 ?_
      refine x_if_eq F 1160 dL_law_1155 (by decide) (fun _ => ?_) (fun c7 => absurd ((lg_cmp_eq _ _).mpr (congrArg Int32.toInt64 hq)) c7)
      skip
      refine x_goto F 1548 dL_law_1160 (by decide) ?_
      refine x_sub [2, 3, 4, 5, 6] rfl (L' := [(4, .int (nI (8 * i))), (3, .ref (o)), (2, .ref (m 0)), (1, .ref (A 0)), (0, .ref (b0))]) ?_
      refine x_widen (a' := a + 100) (b' := b + 1000) (by omega) (by omega) ?_
      rw [if_pos hz] at hR8
      rw [hc0, if_pos hz] at hCM9 hd9 ho9
      have hJ8 := (LJ_b hCM9 hd9 hO9 ho9 hJ.2.2.2.2.2 hR8).1
      exact kk A2 _ M8 hA20 hJ8 (IV_answer hI0 h512 (hc0.trans hz))
  · have h512 : i < 512 := by omega
    obtain ⟨σ0, hs0⟩ : ∃ z, z = uN σ 0 0 (cdAn σ x0 y0) := ⟨_, rfl⟩
    have hI0 : Inv i σ0 := hs0 ▸ Inv_0 hI _
    have hC0 : CM g A M σ0 M := hs0 ▸ CM_0 hJ.1 _
    have hc0 : cdAn σ0 x0 y0 = cdAn σ x0 y0 := by first | rfl | (rw [hs0]; rfl)
    have hl0 : ∀ c, lvB σ0 c = lvB σ c := fun c => by rw [hs0]; exact lv_u0
    obtain ⟨fo, hO⟩ := hJ.2.2.2.1
    have ho : ∀ c, lvB σ0 c = true → o ≠ A c := fun c hc => hJ.2.2.2.2.1 c ((hl0 c).symm.trans hc)
    refine x_aload_n F 3 dL_law_1067 rfl ?_
    refine x_aload_n F 4 dL_law_1068 rfl ?_
    refine x_iload F 0 dL_law_1069 rfl ?_
    refine x_iconst F (nI 1) dL_law_1071 (by decide) ?_
    refine x_iaddN F dL_law_1072 ?_
    refine x_sld F hX hbl hbA (vp_in_nI (n := 8 * i + 1) (by omega) (by omega)) dL_law_1073 ?_
    refine x_ri0 (y := x0) (by rw [nI_clamp (n := 8 * i + 1) (by omega), hv_x0]) ?_
    refine x_aload_n F 4 dL_law_1074 rfl ?_
    refine x_iload F 0 dL_law_1075 rfl ?_
    refine x_iconst F (nI 2) dL_law_1077 (by decide) ?_
    refine x_iaddN F dL_law_1078 ?_
    refine x_sld F hX hbl hbA (vp_in_nI (n := 8 * i + 2) (by omega) (by omega)) dL_law_1079 ?_
    refine x_ri0 (y := y0) (by rw [nI_clamp (n := 8 * i + 2) (by omega), hv_y0]) ?_
    refine x_aload_n F 4 dL_law_1080 rfl ?_
    refine x_iload F 0 dL_law_1081 rfl ?_
    refine x_iconst F (nI 3) dL_law_1083 (by decide) ?_
    refine x_iaddN F dL_law_1084 ?_
    refine x_sld F hX hbl hbA (vp_in_nI (n := 8 * i + 3) (by omega) (by omega)) dL_law_1085 ?_
    refine x_ri0 (y := xs (8 * i + 3)) (by rw [nI_clamp (n := 8 * i + 3) (by omega)]) ?_
    refine x_if_eq F 1093 dL_law_1086 (by decide) (fun c9 => absurd c9 hf) (fun _ => ?_)
    refine x_iconst F (nI 1) dL_law_1089 (by decide) ?_
    refine x_goto F 1094 dL_law_1090 (by decide) ?_
    refine x_aload_n F 1 dL_law_1094 rfl ?_
    refine x_callH F w_h_answer rfl (c_L_answer F.nt hC0 hI0.B hI0.D hI0.be hI0.hpl hO ho (f := true)) rfl dL_law_1095 (by decide) ⟨by omega, by omega⟩ (Nat.le_of_ble_eq_true rfl) (ki fun r9 M9 hp9 => ?_)
    obtain ⟨rfl, hp9⟩ := hp9
    obtain ⟨A2, hA20, hRM9, hCM9, hd9, ⟨f9, hO9, hf9⟩, ho9⟩ := LJ_a hJ hl0 hp9
    refine x_istore F [(5, .int (nI (cdAn σ0 x0 y0))), (4, .int (nI (8 * i))), (3, .ref (o)), (2, .ref (m 0)), (1, .ref (A 0)), (0, .ref (b0))] dL_law_1098 (by decide) rfl ?_
    refine x_aload_n F 3 dL_law_1100 rfl ?_
    refine x_aload_n F 5 dL_law_1101 rfl ?_
    refine x_iload F 1 dL_law_1102 rfl ?_
    refine x_iconst F (nI 1) dL_law_1104 (by decide) ?_
    refine x_iaddN F dL_law_1105 ?_
    refine x_sld F hX hbl hbA (vp_in_nI (n := 8 * i + 1) (by omega) (by omega)) dL_law_1106 ?_
    refine x_ri0 (y := x0) (by rw [nI_clamp (n := 8 * i + 1) (by omega), hv_x0]) ?_
    refine x_aload_n F 5 dL_law_1107 rfl ?_
    refine x_iload F 1 dL_law_1108 rfl ?_
    refine x_iconst F (nI 2) dL_law_1110 (by decide) ?_
    refine x_iaddN F dL_law_1111 ?_
    refine x_sld F hX hbl hbA (vp_in_nI (n := 8 * i + 2) (by omega) (by omega)) dL_law_1112 ?_
    refine x_ri0 (y := y0) (by rw [nI_clamp (n := 8 * i + 2) (by omega), hv_y0]) ?_
    refine x_aload_n F 5 dL_law_1113 rfl ?_
    refine x_iload F 1 dL_law_1114 rfl ?_
    refine x_iconst F (nI 3) dL_law_1116 (by decide) ?_
    refine x_iaddN F dL_law_1117 ?_
    refine x_sld F hX hbl hbA (vp_in_nI (n := 8 * i + 3) (by omega) (by omega)) dL_law_1118 ?_
    refine x_ri0 (y := xs (8 * i + 3)) (by rw [nI_clamp (n := 8 * i + 3) (by omega)]) ?_
    refine x_if_eq F 1126 dL_law_1119 (by decide) (fun c9 => absurd c9 hf) (fun _ => ?_)
    refine x_iconst F (nI 1) dL_law_1122 (by decide) ?_
    refine x_goto F 1127 dL_law_1123 (by decide) ?_
    refine x_callV F s_L_142 hRM9.1 rfl rfl (c_X4_answer F.nt hRM9 hI.B hI.hpl (f := true)) rfl dL_law_1127 (by decide) ⟨by omega, by omega⟩ (Nat.le_of_ble_eq_true rfl) x_noX (ki fun r8 M8 hp8 => ?_)
    obtain ⟨hR8, hr8⟩ := hp8
    rw [← hs0] at hR8
    have ht8 : ((if cdAn σ x0 y0 = 0 then ansU σ0 (cl x0) (cl y0) true else σ0)).1 0 0 = cdAn σ x0 y0 := by (by_cases hz : cdAn σ x0 y0 = 0; (rw [if_pos hz, s0_answer, hs0]; rfl); (rw [if_neg hz, hs0]; rfl))
    refine x_istore F [(6, .int (r8)), (5, .int (nI (cdAn σ0 x0 y0))), (4, .int (nI (8 * i))), (3, .ref (o)), (2, .ref (m 0)), (1, .ref (A 0)), (0, .ref (b0))] dL_law_1130 (by decide) rfl ?_
    refine x_aload_n F 4 dL_law_1132 rfl ?_
    refine x_callV F s_L_94 hR8.1 rfl rfl (c_X4_thrown F.nt hR8) rfl dL_law_1133 (by decide) ⟨by omega, by omega⟩ (Nat.le_of_ble_eq_true rfl) x_noX (ki fun r7 M7 hp7 => ?_)
    obtain ⟨rfl, rfl⟩ := hp7
    refine x_iload F 1 dL_law_1136 rfl ?_
    refine x_icmp_eq F 1143 dL_law_1138 (by decide) (fun _ => ?_) (fun c9 => absurd (by rw [ht8, hc0]) c9)
    refine x_iload F 1 dL_law_1143 rfl ?_
    refine x_if_ne F 1160 dL_law_1145 (by decide) (fun c9 => ?_) (fun c9 => ?_)
    · have hz : ¬ cdAn σ x0 y0 = 0 := fun z => c9 (by rw [hc0, z]; rfl)
      skip
      refine x_goto F 1548 dL_law_1160 (by decide) ?_
      refine x_sub [2, 3, 4, 5, 6] rfl (L' := [(4, .int (nI (8 * i))), (3, .ref (o)), (2, .ref (m 0)), (1, .ref (A 0)), (0, .ref (b0))]) ?_
      refine x_widen (a' := a + 100) (b' := b + 1000) (by omega) (by omega) ?_
      rw [if_neg hz] at hR8
      rw [hc0, if_neg hz] at hCM9 hd9 ho9
      exact kk A2 _ M8 hA20 (LJ_b hCM9 hd9 hO9 ho9 hJ.2.2.2.2.2 hR8).1 (Inv_s hI0)
    · have hz : cdAn σ x0 y0 = 0 := hc0.symm.trans ((nI_z (Nat.lt_trans lt_cdAn (by decide))).mp c9)
      have hq : (if true = true then (ansU σ0 (cl x0) (cl y0) true).2.1 23 (12 * cl x0 + cl y0) else -1) = r8 := by (rw [hr8 hz]; subst hs0; rfl)
      refine x_aload_n F 3 dL_law_1148 rfl ?_
      refine x_iconst F (nI 0) dL_law_1149 (by decide) ?_
      have hO8 : M8 o = some (.inl (gC g 1, 1, .inr (.inl f9))) := (hR8.2.2.1 o hJ.2.2.2.2.2).trans hO9
      refine x_lald F hO8 (vp_in_nI (n := 0) (by decide) (by decide)) dL_law_1150 ?_
      refine x_rl0 (y := ((if true = true then (ansU σ0 (cl x0) (cl y0) true).2.1 23 (12 * cl x0 + cl y0) else -1)).toInt64) (by rw [nI_clamp (n := 0) (by decide)]; exact hf9 (hc0.trans hz)) ?_
      refine x_iload F 0 dL_law_1151 rfl ?_
      refine x_i2l F dL_law_1153 ?_
      refine x_lcmp F dL_law_1154 ?_
      refine x_if_eq F 1160 dL_law_1155 (by decide) (fun _ => ?_) (fun c7 => absurd ((lg_cmp_eq _ _).mpr (congrArg Int32.toInt64 hq)) c7)
      skip
      refine x_goto F 1548 dL_law_1160 (by decide) ?_
      refine x_sub [2, 3, 4, 5, 6] rfl (L' := [(4, .int (nI (8 * i))), (3, .ref (o)), (2, .ref (m 0)), (1, .ref (A 0)), (0, .ref (b0))]) ?_
      refine x_widen (a' := a + 100) (b' := b + 1000) (by omega) (by omega) ?_
      rw [if_pos hz] at hR8
      rw [hc0, if_pos hz] at hCM9 hd9 ho9
      have hJ8 := (LJ_b hCM9 hd9 hO9 ho9 hJ.2.2.2.2.2 hR8).1
      exact kk A2 _ M8 hA20 hJ8 (IV_answer hI0 h512 (hc0.trans hz))
set_option maxHeartbeats 4000000 in
set_option maxRecDepth 100000 in
theorem blk_score {K : KX} {g : GP} {Q : State → Prop} {M : MM} {A : Nat → Nat} {m : Nat → Nat} {σ : ST} {a b b0 L0 i o : Nat} {xs : Nat → Int32} {hh9 : List (Nat × Nat × Nat × Nat)} (F : Fx K g cL_law RL 7 (some .boolean) hh9 12 460 601024 7293034) (hX : va_X b0 L0 xs (ks K) (ks K).heap) (hbl : b0 < (ks K).heap.size) (hbA : ¬ gO g b0) (hL0 : L0 ≤ 4096) (hi : 8 * i + 8 ≤ L0) (ha : a + 100 ≤ 601024) (hb : b + 1000 ≤ 7293034) (hJ : LJ g A m σ M o) (hI : Inv i σ) (kk : ∀ A3 σ3 M3, A3 0 = A 0 → LJ g A3 m σ3 M3 o → Inv (i + 1) σ3 → XW K g 7 Q M3 (a + 100) (b + 1000) 1548 [(4, .int (nI (8 * i))), (3, .ref (o)), (2, .ref (m 0)), (1, .ref (A 0)), (0, .ref (b0))] []) : XW K g 7 Q M a b 1163 [(4, .int (nI (8 * i))), (3, .ref (o)), (2, .ref (m 0)), (1, .ref (A 0)), (0, .ref (b0))] [] := by
  obtain ⟨x0, hv_x0⟩ : ∃ z, z = xs (8 * i + 1) := ⟨_, rfl⟩
  obtain ⟨y0, hv_y0⟩ : ∃ z, z = xs (8 * i + 2) := ⟨_, rfl⟩
  have h512 : i < 512 := by omega
  obtain ⟨σ0, hs0⟩ : ∃ z, z = uN σ 0 0 (cdRR σ x0 y0) := ⟨_, rfl⟩
  have hI0 : Inv i σ0 := hs0 ▸ Inv_0 hI _
  have hC0 : CM g A M σ0 M := hs0 ▸ CM_0 hJ.1 _
  have hc0 : cdRR σ0 x0 y0 = cdRR σ x0 y0 := by first | rfl | (rw [hs0]; rfl)
  have hl0 : ∀ c, lvB σ0 c = lvB σ c := fun c => by rw [hs0]; exact lv_u0
  obtain ⟨fo, hO⟩ := hJ.2.2.2.1
  have ho : ∀ c, lvB σ0 c = true → o ≠ A c := fun c hc => hJ.2.2.2.2.1 c ((hl0 c).symm.trans hc)
  refine x_aload_n F 3 dL_law_1163 rfl ?_
  refine x_aload_n F 4 dL_law_1164 rfl ?_
  refine x_iload F 0 dL_law_1165 rfl ?_
  refine x_iconst F (nI 1) dL_law_1167 (by decide) ?_
  refine x_iaddN F dL_law_1168 ?_
  refine x_sld F hX hbl hbA (vp_in_nI (n := 8 * i + 1) (by omega) (by omega)) dL_law_1169 ?_
  refine x_ri0 (y := x0) (by rw [nI_clamp (n := 8 * i + 1) (by omega), hv_x0]) ?_
  refine x_aload_n F 4 dL_law_1170 rfl ?_
  refine x_iload F 0 dL_law_1171 rfl ?_
  refine x_iconst F (nI 2) dL_law_1173 (by decide) ?_
  refine x_iaddN F dL_law_1174 ?_
  refine x_sld F hX hbl hbA (vp_in_nI (n := 8 * i + 2) (by omega) (by omega)) dL_law_1175 ?_
  refine x_ri0 (y := y0) (by rw [nI_clamp (n := 8 * i + 2) (by omega), hv_y0]) ?_
  refine x_aload_n F 1 dL_law_1176 rfl ?_
  refine x_callH F w_h_score rfl (c_L_score F.nt hC0 hI0.B hI0.D hO ho) rfl dL_law_1177 (by decide) ⟨by omega, by omega⟩ (Nat.le_of_ble_eq_true rfl) (ki fun r9 M9 hp9 => ?_)
  obtain ⟨rfl, hp9⟩ := hp9
  obtain ⟨A2, hA20, hRM9, hCM9, hd9, ⟨f9, hO9, hf9⟩, ho9⟩ := LJ_a hJ hl0 hp9
  refine x_istore F [(5, .int (nI (cdRR σ0 x0 y0))), (4, .int (nI (8 * i))), (3, .ref (o)), (2, .ref (m 0)), (1, .ref (A 0)), (0, .ref (b0))] dL_law_1180 (by decide) rfl ?_
  refine x_aload_n F 3 dL_law_1182 rfl ?_
  refine x_aload_n F 5 dL_law_1183 rfl ?_
  refine x_iload F 1 dL_law_1184 rfl ?_
  refine x_iconst F (nI 1) dL_law_1186 (by decide) ?_
  refine x_iaddN F dL_law_1187 ?_
  refine x_sld F hX hbl hbA (vp_in_nI (n := 8 * i + 1) (by omega) (by omega)) dL_law_1188 ?_
  refine x_ri0 (y := x0) (by rw [nI_clamp (n := 8 * i + 1) (by omega), hv_x0]) ?_
  refine x_aload_n F 5 dL_law_1189 rfl ?_
  refine x_iload F 1 dL_law_1190 rfl ?_
  refine x_iconst F (nI 2) dL_law_1192 (by decide) ?_
  refine x_iaddN F dL_law_1193 ?_
  refine x_sld F hX hbl hbA (vp_in_nI (n := 8 * i + 2) (by omega) (by omega)) dL_law_1194 ?_
  refine x_ri0 (y := y0) (by rw [nI_clamp (n := 8 * i + 2) (by omega), hv_y0]) ?_
  refine x_callV F s_L_145 hRM9.1 rfl rfl (c_X4_score F.nt hRM9 hI.B) rfl dL_law_1195 (by decide) ⟨by omega, by omega⟩ (Nat.le_of_ble_eq_true rfl) x_noX (ki fun r8 M8 hp8 => ?_)
  obtain ⟨hR8, hr8⟩ := hp8
  rw [← hs0] at hR8
  have ht8 : (σ0).1 0 0 = cdRR σ x0 y0 := by rw [hs0]; rfl
  refine x_istore F [(6, .int (r8)), (5, .int (nI (cdRR σ0 x0 y0))), (4, .int (nI (8 * i))), (3, .ref (o)), (2, .ref (m 0)), (1, .ref (A 0)), (0, .ref (b0))] dL_law_1198 (by decide) rfl ?_
  refine x_aload_n F 4 dL_law_1200 rfl ?_
  refine x_callV F s_L_94 hR8.1 rfl rfl (c_X4_thrown F.nt hR8) rfl dL_law_1201 (by decide) ⟨by omega, by omega⟩ (Nat.le_of_ble_eq_true rfl) x_noX (ki fun r7 M7 hp7 => ?_)
  obtain ⟨rfl, rfl⟩ := hp7
  refine x_iload F 1 dL_law_1204 rfl ?_
  refine x_icmp_eq F 1211 dL_law_1206 (by decide) (fun _ => ?_) (fun c9 => absurd (by rw [ht8, hc0]) c9)
  refine x_iload F 1 dL_law_1211 rfl ?_
  refine x_if_ne F 1228 dL_law_1213 (by decide) (fun c9 => ?_) (fun c9 => ?_)
  · have hz : ¬ cdRR σ x0 y0 = 0 := fun z => c9 (by rw [hc0, z]; rfl)
    skip
    refine x_goto F 1548 dL_law_1228 (by decide) ?_
    refine x_sub [2, 3, 4, 5, 6] rfl (L' := [(4, .int (nI (8 * i))), (3, .ref (o)), (2, .ref (m 0)), (1, .ref (A 0)), (0, .ref (b0))]) ?_
    refine x_widen (a' := a + 100) (b' := b + 1000) (by omega) (by omega) ?_
    exact kk A2 _ M8 hA20 (LJ_b hCM9 hd9 hO9 ho9 hJ.2.2.2.2.2 hR8).1 (Inv_s hI0)
  · have hz : cdRR σ x0 y0 = 0 := hc0.symm.trans ((nI_z (Nat.lt_trans lt_cdRR (by decide))).mp c9)
    have hq : σ0.2.1 28 (12 * cl x0 + cl y0) = r8 := by (rw [hr8 hz]; subst hs0; rfl)
    refine x_aload_n F 3 dL_law_1216 rfl ?_
    refine x_iconst F (nI 0) dL_law_1217 (by decide) ?_
    have hO8 : M8 o = some (.inl (gC g 1, 1, .inr (.inl f9))) := (hR8.2.2.1 o hJ.2.2.2.2.2).trans hO9
    refine x_lald F hO8 (vp_in_nI (n := 0) (by decide) (by decide)) dL_law_1218 ?_
    refine x_rl0 (y := (σ0.2.1 28 (12 * cl x0 + cl y0)).toInt64) (by rw [nI_clamp (n := 0) (by decide)]; exact hf9 (hc0.trans hz)) ?_
    refine x_iload F 0 dL_law_1219 rfl ?_
    refine x_i2l F dL_law_1221 ?_
    refine x_lcmp F dL_law_1222 ?_
    refine x_if_eq F 1228 dL_law_1223 (by decide) (fun _ => ?_) (fun c7 => absurd ((lg_cmp_eq _ _).mpr (congrArg Int32.toInt64 hq)) c7)
    skip
    refine x_goto F 1548 dL_law_1228 (by decide) ?_
    refine x_sub [2, 3, 4, 5, 6] rfl (L' := [(4, .int (nI (8 * i))), (3, .ref (o)), (2, .ref (m 0)), (1, .ref (A 0)), (0, .ref (b0))]) ?_
    refine x_widen (a' := a + 100) (b' := b + 1000) (by omega) (by omega) ?_
    have hJ8 := (LJ_b hCM9 hd9 hO9 ho9 hJ.2.2.2.2.2 hR8).1
    exact kk A2 _ M8 hA20 hJ8 (Inv_s hI0)
set_option maxHeartbeats 4000000 in
set_option maxRecDepth 100000 in
theorem blk_beastIs {K : KX} {g : GP} {Q : State → Prop} {M : MM} {A : Nat → Nat} {m : Nat → Nat} {σ : ST} {a b b0 L0 i o : Nat} {xs : Nat → Int32} {hh9 : List (Nat × Nat × Nat × Nat)} (F : Fx K g cL_law RL 7 (some .boolean) hh9 12 460 601024 7293034) (hX : va_X b0 L0 xs (ks K) (ks K).heap) (hbl : b0 < (ks K).heap.size) (hbA : ¬ gO g b0) (hL0 : L0 ≤ 4096) (hi : 8 * i + 8 ≤ L0) (ha : a + 100 ≤ 601024) (hb : b + 1000 ≤ 7293034) (hJ : LJ g A m σ M o) (hI : Inv i σ) (kk : ∀ A3 σ3 M3, A3 0 = A 0 → LJ g A3 m σ3 M3 o → Inv (i + 1) σ3 → XW K g 7 Q M3 (a + 100) (b + 1000) 1548 [(4, .int (nI (8 * i))), (3, .ref (o)), (2, .ref (m 0)), (1, .ref (A 0)), (0, .ref (b0))] []) : XW K g 7 Q M a b 1231 [(4, .int (nI (8 * i))), (3, .ref (o)), (2, .ref (m 0)), (1, .ref (A 0)), (0, .ref (b0))] [] := by
  obtain ⟨x0, hv_x0⟩ : ∃ z, z = xs (8 * i + 1) := ⟨_, rfl⟩
  obtain ⟨y0, hv_y0⟩ : ∃ z, z = xs (8 * i + 2) := ⟨_, rfl⟩
  have h512 : i < 512 := by omega
  obtain ⟨σ0, hs0⟩ : ∃ z, z = uN σ 0 0 (cdBI σ x0 y0) := ⟨_, rfl⟩
  have hI0 : Inv i σ0 := hs0 ▸ Inv_0 hI _
  have hC0 : CM g A M σ0 M := hs0 ▸ CM_0 hJ.1 _
  have hc0 : cdBI σ0 x0 y0 = cdBI σ x0 y0 := by first | rfl | (rw [hs0]; rfl)
  have hl0 : ∀ c, lvB σ0 c = lvB σ c := fun c => by rw [hs0]; exact lv_u0
  obtain ⟨fo, hO⟩ := hJ.2.2.2.1
  have ho : ∀ c, lvB σ0 c = true → o ≠ A c := fun c hc => hJ.2.2.2.2.1 c ((hl0 c).symm.trans hc)
  refine x_aload_n F 3 dL_law_1231 rfl ?_
  refine x_aload_n F 4 dL_law_1232 rfl ?_
  refine x_iload F 0 dL_law_1233 rfl ?_
  refine x_iconst F (nI 1) dL_law_1235 (by decide) ?_
  refine x_iaddN F dL_law_1236 ?_
  refine x_sld F hX hbl hbA (vp_in_nI (n := 8 * i + 1) (by omega) (by omega)) dL_law_1237 ?_
  refine x_ri0 (y := x0) (by rw [nI_clamp (n := 8 * i + 1) (by omega), hv_x0]) ?_
  refine x_aload_n F 4 dL_law_1238 rfl ?_
  refine x_iload F 0 dL_law_1239 rfl ?_
  refine x_iconst F (nI 2) dL_law_1241 (by decide) ?_
  refine x_iaddN F dL_law_1242 ?_
  refine x_sld F hX hbl hbA (vp_in_nI (n := 8 * i + 2) (by omega) (by omega)) dL_law_1243 ?_
  refine x_ri0 (y := y0) (by rw [nI_clamp (n := 8 * i + 2) (by omega), hv_y0]) ?_
  refine x_aload_n F 1 dL_law_1244 rfl ?_
  refine x_callH F w_h_beastIs rfl (c_L_beastIs F.nt hC0 hI0.B hO ho) rfl dL_law_1245 (by decide) ⟨by omega, by omega⟩ (Nat.le_of_ble_eq_true rfl) (ki fun r9 M9 hp9 => ?_)
  obtain ⟨rfl, hp9⟩ := hp9
  obtain ⟨A2, hA20, hRM9, hCM9, hd9, ⟨f9, hO9, hf9⟩, ho9⟩ := LJ_a hJ hl0 hp9
  refine x_istore F [(5, .int (nI (cdBI σ0 x0 y0))), (4, .int (nI (8 * i))), (3, .ref (o)), (2, .ref (m 0)), (1, .ref (A 0)), (0, .ref (b0))] dL_law_1248 (by decide) rfl ?_
  refine x_aload_n F 3 dL_law_1250 rfl ?_
  refine x_aload_n F 5 dL_law_1251 rfl ?_
  refine x_iload F 1 dL_law_1252 rfl ?_
  refine x_iconst F (nI 1) dL_law_1254 (by decide) ?_
  refine x_iaddN F dL_law_1255 ?_
  refine x_sld F hX hbl hbA (vp_in_nI (n := 8 * i + 1) (by omega) (by omega)) dL_law_1256 ?_
  refine x_ri0 (y := x0) (by rw [nI_clamp (n := 8 * i + 1) (by omega), hv_x0]) ?_
  refine x_aload_n F 5 dL_law_1257 rfl ?_
  refine x_iload F 1 dL_law_1258 rfl ?_
  refine x_iconst F (nI 2) dL_law_1260 (by decide) ?_
  refine x_iaddN F dL_law_1261 ?_
  refine x_sld F hX hbl hbA (vp_in_nI (n := 8 * i + 2) (by omega) (by omega)) dL_law_1262 ?_
  refine x_ri0 (y := y0) (by rw [nI_clamp (n := 8 * i + 2) (by omega), hv_y0]) ?_
  refine x_callV F s_L_148 hRM9.1 rfl rfl (c_X4_beastIs F.nt hRM9 hI.B) rfl dL_law_1263 (by decide) ⟨by omega, by omega⟩ (Nat.le_of_ble_eq_true rfl) x_noX (ki fun r8 M8 hp8 => ?_)
  obtain ⟨hR8, hr8⟩ := hp8
  rw [← hs0] at hR8
  have ht8 : (σ0).1 0 0 = cdBI σ x0 y0 := by rw [hs0]; rfl
  refine x_istore F [(6, .int (r8)), (5, .int (nI (cdBI σ0 x0 y0))), (4, .int (nI (8 * i))), (3, .ref (o)), (2, .ref (m 0)), (1, .ref (A 0)), (0, .ref (b0))] dL_law_1266 (by decide) rfl ?_
  refine x_aload_n F 4 dL_law_1268 rfl ?_
  refine x_callV F s_L_94 hR8.1 rfl rfl (c_X4_thrown F.nt hR8) rfl dL_law_1269 (by decide) ⟨by omega, by omega⟩ (Nat.le_of_ble_eq_true rfl) x_noX (ki fun r7 M7 hp7 => ?_)
  obtain ⟨rfl, rfl⟩ := hp7
  refine x_iload F 1 dL_law_1272 rfl ?_
  refine x_icmp_eq F 1279 dL_law_1274 (by decide) (fun _ => ?_) (fun c9 => absurd (by rw [ht8, hc0]) c9)
  refine x_iload F 1 dL_law_1279 rfl ?_
  refine x_if_ne F 1296 dL_law_1281 (by decide) (fun c9 => ?_) (fun c9 => ?_)
  · have hz : ¬ cdBI σ x0 y0 = 0 := fun z => c9 (by rw [hc0, z]; rfl)
    skip
    refine x_goto F 1548 dL_law_1296 (by decide) ?_
    refine x_sub [2, 3, 4, 5, 6] rfl (L' := [(4, .int (nI (8 * i))), (3, .ref (o)), (2, .ref (m 0)), (1, .ref (A 0)), (0, .ref (b0))]) ?_
    refine x_widen (a' := a + 100) (b' := b + 1000) (by omega) (by omega) ?_
    exact kk A2 _ M8 hA20 (LJ_b hCM9 hd9 hO9 ho9 hJ.2.2.2.2.2 hR8).1 (Inv_s hI0)
  · have hz : cdBI σ x0 y0 = 0 := hc0.symm.trans ((nI_z (Nat.lt_trans lt_cdBI (by decide))).mp c9)
    have hq : toldS σ0 (cl x0) y0 = r8 := by (rw [hr8 hz]; subst hs0; rfl)
    refine x_aload_n F 3 dL_law_1284 rfl ?_
    refine x_iconst F (nI 0) dL_law_1285 (by decide) ?_
    have hO8 : M8 o = some (.inl (gC g 1, 1, .inr (.inl f9))) := (hR8.2.2.1 o hJ.2.2.2.2.2).trans hO9
    refine x_lald F hO8 (vp_in_nI (n := 0) (by decide) (by decide)) dL_law_1286 ?_
    refine x_rl0 (y := (toldS σ0 (cl x0) y0).toInt64) (by rw [nI_clamp (n := 0) (by decide)]; exact hf9 (hc0.trans hz)) ?_
    refine x_iload F 0 dL_law_1287 rfl ?_
    refine x_i2l F dL_law_1289 ?_
    refine x_lcmp F dL_law_1290 ?_
    refine x_if_eq F 1296 dL_law_1291 (by decide) (fun _ => ?_) (fun c7 => absurd ((lg_cmp_eq _ _).mpr (congrArg Int32.toInt64 hq)) c7)
    skip
    refine x_goto F 1548 dL_law_1296 (by decide) ?_
    refine x_sub [2, 3, 4, 5, 6] rfl (L' := [(4, .int (nI (8 * i))), (3, .ref (o)), (2, .ref (m 0)), (1, .ref (A 0)), (0, .ref (b0))]) ?_
    refine x_widen (a' := a + 100) (b' := b + 1000) (by omega) (by omega) ?_
    have hJ8 := (LJ_b hCM9 hd9 hO9 ho9 hJ.2.2.2.2.2 hR8).1
    exact kk A2 _ M8 hA20 hJ8 (Inv_s hI0)
set_option maxHeartbeats 4000000 in
set_option maxRecDepth 100000 in
theorem blk_pay {K : KX} {g : GP} {Q : State → Prop} {M : MM} {A : Nat → Nat} {m : Nat → Nat} {σ : ST} {a b b0 L0 i o : Nat} {xs : Nat → Int32} {hh9 : List (Nat × Nat × Nat × Nat)} (F : Fx K g cL_law RL 7 (some .boolean) hh9 12 460 601024 7293034) (hX : va_X b0 L0 xs (ks K) (ks K).heap) (hbl : b0 < (ks K).heap.size) (hbA : ¬ gO g b0) (hL0 : L0 ≤ 4096) (hi : 8 * i + 8 ≤ L0) (ha : a + 100 ≤ 601024) (hb : b + 1000 ≤ 7293034) (hJ : LJ g A m σ M o) (hI : Inv i σ) (kk : ∀ A3 σ3 M3, A3 0 = A 0 → LJ g A3 m σ3 M3 o → Inv (i + 1) σ3 → XW K g 7 Q M3 (a + 100) (b + 1000) 1548 [(4, .int (nI (8 * i))), (3, .ref (o)), (2, .ref (m 0)), (1, .ref (A 0)), (0, .ref (b0))] []) : XW K g 7 Q M a b 1299 [(4, .int (nI (8 * i))), (3, .ref (o)), (2, .ref (m 0)), (1, .ref (A 0)), (0, .ref (b0))] [] := by
  obtain ⟨x0, hv_x0⟩ : ∃ z, z = xs (8 * i + 1) := ⟨_, rfl⟩
  have h512 : i < 512 := by omega
  obtain ⟨σ0, hs0⟩ : ∃ z, z = uN σ 0 0 (cdPa σ x0) := ⟨_, rfl⟩
  have hI0 : Inv i σ0 := hs0 ▸ Inv_0 hI _
  have hC0 : CM g A M σ0 M := hs0 ▸ CM_0 hJ.1 _
  have hc0 : cdPa σ0 x0 = cdPa σ x0 := by first | rfl | (rw [hs0]; rfl)
  have hl0 : ∀ c, lvB σ0 c = lvB σ c := fun c => by rw [hs0]; exact lv_u0
  obtain ⟨fo, hO⟩ := hJ.2.2.2.1
  have ho : ∀ c, lvB σ0 c = true → o ≠ A c := fun c hc => hJ.2.2.2.2.1 c ((hl0 c).symm.trans hc)
  refine x_aload_n F 3 dL_law_1299 rfl ?_
  refine x_aload_n F 4 dL_law_1300 rfl ?_
  refine x_iload F 0 dL_law_1301 rfl ?_
  refine x_iconst F (nI 1) dL_law_1303 (by decide) ?_
  refine x_iaddN F dL_law_1304 ?_
  refine x_sld F hX hbl hbA (vp_in_nI (n := 8 * i + 1) (by omega) (by omega)) dL_law_1305 ?_
  refine x_ri0 (y := x0) (by rw [nI_clamp (n := 8 * i + 1) (by omega), hv_x0]) ?_
  refine x_aload_n F 1 dL_law_1306 rfl ?_
  refine x_callH F w_h_pay rfl (c_L_pay F.nt hC0 hI0.B hI0.W hI0.D hO ho) rfl dL_law_1307 (by decide) ⟨by omega, by omega⟩ (Nat.le_of_ble_eq_true rfl) (ki fun r9 M9 hp9 => ?_)
  obtain ⟨rfl, hp9⟩ := hp9
  obtain ⟨A2, hA20, hRM9, hCM9, hd9, ⟨f9, hO9, hf9⟩, ho9⟩ := LJ_a hJ hl0 hp9
  refine x_istore F [(5, .int (nI (cdPa σ0 x0))), (4, .int (nI (8 * i))), (3, .ref (o)), (2, .ref (m 0)), (1, .ref (A 0)), (0, .ref (b0))] dL_law_1310 (by decide) rfl ?_
  refine x_aload_n F 3 dL_law_1312 rfl ?_
  refine x_aload_n F 5 dL_law_1313 rfl ?_
  refine x_iload F 1 dL_law_1314 rfl ?_
  refine x_iconst F (nI 1) dL_law_1316 (by decide) ?_
  refine x_iaddN F dL_law_1317 ?_
  refine x_sld F hX hbl hbA (vp_in_nI (n := 8 * i + 1) (by omega) (by omega)) dL_law_1318 ?_
  refine x_ri0 (y := x0) (by rw [nI_clamp (n := 8 * i + 1) (by omega), hv_x0]) ?_
  refine x_callV F s_L_151 hRM9.1 rfl rfl (c_X4_pay F.nt hRM9 hI.B) rfl dL_law_1319 (by decide) ⟨by omega, by omega⟩ (Nat.le_of_ble_eq_true rfl) x_noX (ki fun r8 M8 hp8 => ?_)
  obtain ⟨hR8, hr8⟩ := hp8
  rw [← hs0] at hR8
  have ht8 : ((if cdPa σ x0 = 0 then payU σ0 (cl x0) else σ0)).1 0 0 = cdPa σ x0 := by (by_cases hz : cdPa σ x0 = 0; (rw [if_pos hz, s0_pay, hs0]; rfl); (rw [if_neg hz, hs0]; rfl))
  refine x_istore F [(6, .int (r8)), (5, .int (nI (cdPa σ0 x0))), (4, .int (nI (8 * i))), (3, .ref (o)), (2, .ref (m 0)), (1, .ref (A 0)), (0, .ref (b0))] dL_law_1322 (by decide) rfl ?_
  refine x_aload_n F 4 dL_law_1324 rfl ?_
  refine x_callV F s_L_94 hR8.1 rfl rfl (c_X4_thrown F.nt hR8) rfl dL_law_1325 (by decide) ⟨by omega, by omega⟩ (Nat.le_of_ble_eq_true rfl) x_noX (ki fun r7 M7 hp7 => ?_)
  obtain ⟨rfl, rfl⟩ := hp7
  refine x_iload F 1 dL_law_1328 rfl ?_
  refine x_icmp_eq F 1335 dL_law_1330 (by decide) (fun _ => ?_) (fun c9 => absurd (by rw [ht8, hc0]) c9)
  refine x_iload F 1 dL_law_1335 rfl ?_
  refine x_if_ne F 1352 dL_law_1337 (by decide) (fun c9 => ?_) (fun c9 => ?_)
  · have hz : ¬ cdPa σ x0 = 0 := fun z => c9 (by rw [hc0, z]; rfl)
    skip
    refine x_goto F 1548 dL_law_1352 (by decide) ?_
    refine x_sub [2, 3, 4, 5, 6] rfl (L' := [(4, .int (nI (8 * i))), (3, .ref (o)), (2, .ref (m 0)), (1, .ref (A 0)), (0, .ref (b0))]) ?_
    refine x_widen (a' := a + 100) (b' := b + 1000) (by omega) (by omega) ?_
    rw [if_neg hz] at hR8
    rw [hc0, if_neg hz] at hCM9 hd9 ho9
    exact kk A2 _ M8 hA20 (LJ_b hCM9 hd9 hO9 ho9 hJ.2.2.2.2.2 hR8).1 (Inv_s hI0)
  · have hz : cdPa σ x0 = 0 := hc0.symm.trans ((nI_z (Nat.lt_trans lt_cdPa (by decide))).mp c9)
    have hSQ : payU σ0 (cl x0) = pyU σ0 (cl x0) := SQ_pay hI0 (hc0.trans hz)
    have hq : nI (ccN σ0 (cl x0)) = r8 := by (rw [hr8 hz]; subst hs0; exact RQ_pay (Inv_0 hI _) hz)
    refine x_aload_n F 3 dL_law_1340 rfl ?_
    refine x_iconst F (nI 0) dL_law_1341 (by decide) ?_
    have hO8 : M8 o = some (.inl (gC g 1, 1, .inr (.inl f9))) := (hR8.2.2.1 o hJ.2.2.2.2.2).trans hO9
    refine x_lald F hO8 (vp_in_nI (n := 0) (by decide) (by decide)) dL_law_1342 ?_
    refine x_rl0 (y := (nI (ccN σ0 (cl x0))).toInt64) (by rw [nI_clamp (n := 0) (by decide)]; exact hf9 (hc0.trans hz)) ?_
    refine x_iload F 0 dL_law_1343 rfl ?_
    refine x_i2l F dL_law_1345 ?_
    refine x_lcmp F dL_law_1346 ?_
    refine x_if_eq F 1352 dL_law_1347 (by decide) (fun _ => ?_) (fun c7 => absurd ((lg_cmp_eq _ _).mpr (congrArg Int32.toInt64 hq)) c7)
    skip
    refine x_goto F 1548 dL_law_1352 (by decide) ?_
    refine x_sub [2, 3, 4, 5, 6] rfl (L' := [(4, .int (nI (8 * i))), (3, .ref (o)), (2, .ref (m 0)), (1, .ref (A 0)), (0, .ref (b0))]) ?_
    refine x_widen (a' := a + 100) (b' := b + 1000) (by omega) (by omega) ?_
    rw [if_pos hz] at hR8
    rw [hc0, if_pos hz] at hCM9 hd9 ho9
    rw [← hSQ] at hCM9 hd9 ho9
    have hJ8 := (LJ_b hCM9 hd9 hO9 ho9 hJ.2.2.2.2.2 hR8).1
    exact kk A2 _ M8 hA20 hJ8 (IV_pay hI0 h512 (hc0.trans hz))
set_option maxHeartbeats 4000000 in
set_option maxRecDepth 100000 in
theorem blk_got {K : KX} {g : GP} {Q : State → Prop} {M : MM} {A : Nat → Nat} {m : Nat → Nat} {σ : ST} {a b b0 L0 i o : Nat} {xs : Nat → Int32} {hh9 : List (Nat × Nat × Nat × Nat)} (F : Fx K g cL_law RL 7 (some .boolean) hh9 12 460 601024 7293034) (hX : va_X b0 L0 xs (ks K) (ks K).heap) (hbl : b0 < (ks K).heap.size) (hbA : ¬ gO g b0) (hL0 : L0 ≤ 4096) (hi : 8 * i + 8 ≤ L0) (ha : a + 100 ≤ 601024) (hb : b + 1000 ≤ 7293034) (hJ : LJ g A m σ M o) (hI : Inv i σ) (kk : ∀ A3 σ3 M3, A3 0 = A 0 → LJ g A3 m σ3 M3 o → Inv (i + 1) σ3 → XW K g 7 Q M3 (a + 100) (b + 1000) 1548 [(4, .int (nI (8 * i))), (3, .ref (o)), (2, .ref (m 0)), (1, .ref (A 0)), (0, .ref (b0))] []) : XW K g 7 Q M a b 1355 [(4, .int (nI (8 * i))), (3, .ref (o)), (2, .ref (m 0)), (1, .ref (A 0)), (0, .ref (b0))] [] := by
  obtain ⟨x0, hv_x0⟩ : ∃ z, z = xs (8 * i + 1) := ⟨_, rfl⟩
  obtain ⟨y0, hv_y0⟩ : ∃ z, z = xs (8 * i + 2) := ⟨_, rfl⟩
  have h512 : i < 512 := by omega
  obtain ⟨σ0, hs0⟩ : ∃ z, z = uN σ 0 0 (cdRR σ x0 y0) := ⟨_, rfl⟩
  have hI0 : Inv i σ0 := hs0 ▸ Inv_0 hI _
  have hC0 : CM g A M σ0 M := hs0 ▸ CM_0 hJ.1 _
  have hc0 : cdRR σ0 x0 y0 = cdRR σ x0 y0 := by first | rfl | (rw [hs0]; rfl)
  have hl0 : ∀ c, lvB σ0 c = lvB σ c := fun c => by rw [hs0]; exact lv_u0
  obtain ⟨fo, hO⟩ := hJ.2.2.2.1
  have ho : ∀ c, lvB σ0 c = true → o ≠ A c := fun c hc => hJ.2.2.2.2.1 c ((hl0 c).symm.trans hc)
  refine x_aload_n F 3 dL_law_1355 rfl ?_
  refine x_aload_n F 4 dL_law_1356 rfl ?_
  refine x_iload F 0 dL_law_1357 rfl ?_
  refine x_iconst F (nI 1) dL_law_1359 (by decide) ?_
  refine x_iaddN F dL_law_1360 ?_
  refine x_sld F hX hbl hbA (vp_in_nI (n := 8 * i + 1) (by omega) (by omega)) dL_law_1361 ?_
  refine x_ri0 (y := x0) (by rw [nI_clamp (n := 8 * i + 1) (by omega), hv_x0]) ?_
  refine x_aload_n F 4 dL_law_1362 rfl ?_
  refine x_iload F 0 dL_law_1363 rfl ?_
  refine x_iconst F (nI 2) dL_law_1365 (by decide) ?_
  refine x_iaddN F dL_law_1366 ?_
  refine x_sld F hX hbl hbA (vp_in_nI (n := 8 * i + 2) (by omega) (by omega)) dL_law_1367 ?_
  refine x_ri0 (y := y0) (by rw [nI_clamp (n := 8 * i + 2) (by omega), hv_y0]) ?_
  refine x_aload_n F 1 dL_law_1368 rfl ?_
  refine x_callH F w_h_got rfl (c_L_got F.nt hC0 hI0.B hI0.D hO ho) rfl dL_law_1369 (by decide) ⟨by omega, by omega⟩ (Nat.le_of_ble_eq_true rfl) (ki fun r9 M9 hp9 => ?_)
  obtain ⟨rfl, hp9⟩ := hp9
  obtain ⟨A2, hA20, hRM9, hCM9, hd9, ⟨f9, hO9, hf9⟩, ho9⟩ := LJ_a hJ hl0 hp9
  refine x_istore F [(5, .int (nI (cdRR σ0 x0 y0))), (4, .int (nI (8 * i))), (3, .ref (o)), (2, .ref (m 0)), (1, .ref (A 0)), (0, .ref (b0))] dL_law_1372 (by decide) rfl ?_
  refine x_aload_n F 3 dL_law_1374 rfl ?_
  refine x_aload_n F 5 dL_law_1375 rfl ?_
  refine x_iload F 1 dL_law_1376 rfl ?_
  refine x_iconst F (nI 1) dL_law_1378 (by decide) ?_
  refine x_iaddN F dL_law_1379 ?_
  refine x_sld F hX hbl hbA (vp_in_nI (n := 8 * i + 1) (by omega) (by omega)) dL_law_1380 ?_
  refine x_ri0 (y := x0) (by rw [nI_clamp (n := 8 * i + 1) (by omega), hv_x0]) ?_
  refine x_aload_n F 5 dL_law_1381 rfl ?_
  refine x_iload F 1 dL_law_1382 rfl ?_
  refine x_iconst F (nI 2) dL_law_1384 (by decide) ?_
  refine x_iaddN F dL_law_1385 ?_
  refine x_sld F hX hbl hbA (vp_in_nI (n := 8 * i + 2) (by omega) (by omega)) dL_law_1386 ?_
  refine x_ri0 (y := y0) (by rw [nI_clamp (n := 8 * i + 2) (by omega), hv_y0]) ?_
  refine x_callV F s_L_154 hRM9.1 rfl rfl (c_X4_got F.nt hRM9 hI.B) rfl dL_law_1387 (by decide) ⟨by omega, by omega⟩ (Nat.le_of_ble_eq_true rfl) x_noX (ki fun r8 M8 hp8 => ?_)
  obtain ⟨hR8, hr8⟩ := hp8
  rw [← hs0] at hR8
  have ht8 : (σ0).1 0 0 = cdRR σ x0 y0 := by rw [hs0]; rfl
  refine x_istore F [(6, .int (r8)), (5, .int (nI (cdRR σ0 x0 y0))), (4, .int (nI (8 * i))), (3, .ref (o)), (2, .ref (m 0)), (1, .ref (A 0)), (0, .ref (b0))] dL_law_1390 (by decide) rfl ?_
  refine x_aload_n F 4 dL_law_1392 rfl ?_
  refine x_callV F s_L_94 hR8.1 rfl rfl (c_X4_thrown F.nt hR8) rfl dL_law_1393 (by decide) ⟨by omega, by omega⟩ (Nat.le_of_ble_eq_true rfl) x_noX (ki fun r7 M7 hp7 => ?_)
  obtain ⟨rfl, rfl⟩ := hp7
  refine x_iload F 1 dL_law_1396 rfl ?_
  refine x_icmp_eq F 1403 dL_law_1398 (by decide) (fun _ => ?_) (fun c9 => absurd (by rw [ht8, hc0]) c9)
  refine x_iload F 1 dL_law_1403 rfl ?_
  refine x_if_ne F 1420 dL_law_1405 (by decide) (fun c9 => ?_) (fun c9 => ?_)
  · have hz : ¬ cdRR σ x0 y0 = 0 := fun z => c9 (by rw [hc0, z]; rfl)
    skip
    refine x_goto F 1548 dL_law_1420 (by decide) ?_
    refine x_sub [2, 3, 4, 5, 6] rfl (L' := [(4, .int (nI (8 * i))), (3, .ref (o)), (2, .ref (m 0)), (1, .ref (A 0)), (0, .ref (b0))]) ?_
    refine x_widen (a' := a + 100) (b' := b + 1000) (by omega) (by omega) ?_
    exact kk A2 _ M8 hA20 (LJ_b hCM9 hd9 hO9 ho9 hJ.2.2.2.2.2 hR8).1 (Inv_s hI0)
  · have hz : cdRR σ x0 y0 = 0 := hc0.symm.trans ((nI_z (Nat.lt_trans lt_cdRR (by decide))).mp c9)
    have hq : nI (σ0.1 29 (12 * cl x0 + cl y0)) = r8 := by (rw [hr8 hz]; subst hs0; rfl)
    refine x_aload_n F 3 dL_law_1408 rfl ?_
    refine x_iconst F (nI 0) dL_law_1409 (by decide) ?_
    have hO8 : M8 o = some (.inl (gC g 1, 1, .inr (.inl f9))) := (hR8.2.2.1 o hJ.2.2.2.2.2).trans hO9
    refine x_lald F hO8 (vp_in_nI (n := 0) (by decide) (by decide)) dL_law_1410 ?_
    refine x_rl0 (y := (nI (σ0.1 29 (12 * cl x0 + cl y0))).toInt64) (by rw [nI_clamp (n := 0) (by decide)]; exact hf9 (hc0.trans hz)) ?_
    refine x_iload F 0 dL_law_1411 rfl ?_
    refine x_i2l F dL_law_1413 ?_
    refine x_lcmp F dL_law_1414 ?_
    refine x_if_eq F 1420 dL_law_1415 (by decide) (fun _ => ?_) (fun c7 => absurd ((lg_cmp_eq _ _).mpr (congrArg Int32.toInt64 hq)) c7)
    skip
    refine x_goto F 1548 dL_law_1420 (by decide) ?_
    refine x_sub [2, 3, 4, 5, 6] rfl (L' := [(4, .int (nI (8 * i))), (3, .ref (o)), (2, .ref (m 0)), (1, .ref (A 0)), (0, .ref (b0))]) ?_
    refine x_widen (a' := a + 100) (b' := b + 1000) (by omega) (by omega) ?_
    have hJ8 := (LJ_b hCM9 hd9 hO9 ho9 hJ.2.2.2.2.2 hR8).1
    exact kk A2 _ M8 hA20 hJ8 (Inv_s hI0)
set_option maxHeartbeats 4000000 in
set_option maxRecDepth 100000 in
theorem blk_counts {K : KX} {g : GP} {Q : State → Prop} {M : MM} {A : Nat → Nat} {m : Nat → Nat} {σ : ST} {a b b0 L0 i o : Nat} {xs : Nat → Int32} {hh9 : List (Nat × Nat × Nat × Nat)} (F : Fx K g cL_law RL 7 (some .boolean) hh9 12 460 601024 7293034) (hX : va_X b0 L0 xs (ks K) (ks K).heap) (hbl : b0 < (ks K).heap.size) (hbA : ¬ gO g b0) (hL0 : L0 ≤ 4096) (hi : 8 * i + 8 ≤ L0) (ha : a + 100 ≤ 601024) (hb : b + 1000 ≤ 7293034) (hJ : LJ g A m σ M o) (hI : Inv i σ) (kk : ∀ A3 σ3 M3, A3 0 = A 0 → LJ g A3 m σ3 M3 o → Inv (i + 1) σ3 → XW K g 7 Q M3 (a + 100) (b + 1000) 1548 [(4, .int (nI (8 * i))), (3, .ref (o)), (2, .ref (m 0)), (1, .ref (A 0)), (0, .ref (b0))] []) : XW K g 7 Q M a b 1423 [(4, .int (nI (8 * i))), (3, .ref (o)), (2, .ref (m 0)), (1, .ref (A 0)), (0, .ref (b0))] [] := by
  obtain ⟨x0, hv_x0⟩ : ∃ z, z = xs (8 * i + 1) := ⟨_, rfl⟩
  have h512 : i < 512 := by omega
  obtain ⟨σ0, hs0⟩ : ∃ z, z = uN σ 0 0 (cdCo σ x0) := ⟨_, rfl⟩
  have hI0 : Inv i σ0 := hs0 ▸ Inv_0 hI _
  have hC0 : CM g A M σ0 M := hs0 ▸ CM_0 hJ.1 _
  have hc0 : cdCo σ0 x0 = cdCo σ x0 := by first | rfl | (rw [hs0]; rfl)
  have hl0 : ∀ c, lvB σ0 c = lvB σ c := fun c => by rw [hs0]; exact lv_u0
  obtain ⟨fo, hO⟩ := hJ.2.2.2.1
  have ho : ∀ c, lvB σ0 c = true → o ≠ A c := fun c hc => hJ.2.2.2.2.1 c ((hl0 c).symm.trans hc)
  refine x_aload_n F 3 dL_law_1423 rfl ?_
  refine x_aload_n F 4 dL_law_1424 rfl ?_
  refine x_iload F 0 dL_law_1425 rfl ?_
  refine x_iconst F (nI 1) dL_law_1427 (by decide) ?_
  refine x_iaddN F dL_law_1428 ?_
  refine x_sld F hX hbl hbA (vp_in_nI (n := 8 * i + 1) (by omega) (by omega)) dL_law_1429 ?_
  refine x_ri0 (y := x0) (by rw [nI_clamp (n := 8 * i + 1) (by omega), hv_x0]) ?_
  refine x_aload_n F 1 dL_law_1430 rfl ?_
  refine x_callH F w_h_counts rfl (c_L_counts F.nt hC0 hI0.B hI0.D hO ho) rfl dL_law_1431 (by decide) ⟨by omega, by omega⟩ (Nat.le_of_ble_eq_true rfl) (ki fun r9 M9 hp9 => ?_)
  obtain ⟨rfl, hp9⟩ := hp9
  obtain ⟨A2, hA20, hRM9, hCM9, hd9, ⟨f9, hO9, hf9⟩, ho9⟩ := LJ_a hJ hl0 hp9
  refine x_istore F [(5, .int (nI (cdCo σ0 x0))), (4, .int (nI (8 * i))), (3, .ref (o)), (2, .ref (m 0)), (1, .ref (A 0)), (0, .ref (b0))] dL_law_1434 (by decide) rfl ?_
  refine x_aload_n F 3 dL_law_1436 rfl ?_
  refine x_aload_n F 5 dL_law_1437 rfl ?_
  refine x_iload F 1 dL_law_1438 rfl ?_
  refine x_iconst F (nI 1) dL_law_1440 (by decide) ?_
  refine x_iaddN F dL_law_1441 ?_
  refine x_sld F hX hbl hbA (vp_in_nI (n := 8 * i + 1) (by omega) (by omega)) dL_law_1442 ?_
  refine x_ri0 (y := x0) (by rw [nI_clamp (n := 8 * i + 1) (by omega), hv_x0]) ?_
  refine x_callV F s_L_157 hRM9.1 rfl rfl (c_X4_counts F.nt hRM9 hI.B) rfl dL_law_1443 (by decide) ⟨by omega, by omega⟩ (Nat.le_of_ble_eq_true rfl) x_noX (ki fun r8 M8 hp8 => ?_)
  obtain ⟨hR8, hr8⟩ := hp8
  rw [← hs0] at hR8
  have ht8 : (σ0).1 0 0 = cdCo σ x0 := by rw [hs0]; rfl
  refine x_istore F [(6, .int (r8)), (5, .int (nI (cdCo σ0 x0))), (4, .int (nI (8 * i))), (3, .ref (o)), (2, .ref (m 0)), (1, .ref (A 0)), (0, .ref (b0))] dL_law_1446 (by decide) rfl ?_
  refine x_aload_n F 4 dL_law_1448 rfl ?_
  refine x_callV F s_L_94 hR8.1 rfl rfl (c_X4_thrown F.nt hR8) rfl dL_law_1449 (by decide) ⟨by omega, by omega⟩ (Nat.le_of_ble_eq_true rfl) x_noX (ki fun r7 M7 hp7 => ?_)
  obtain ⟨rfl, rfl⟩ := hp7
  refine x_iload F 1 dL_law_1452 rfl ?_
  refine x_icmp_eq F 1459 dL_law_1454 (by decide) (fun _ => ?_) (fun c9 => absurd (by rw [ht8, hc0]) c9)
  refine x_iload F 1 dL_law_1459 rfl ?_
  refine x_if_ne F 1476 dL_law_1461 (by decide) (fun c9 => ?_) (fun c9 => ?_)
  · have hz : ¬ cdCo σ x0 = 0 := fun z => c9 (by rw [hc0, z]; rfl)
    skip
    refine x_goto F 1548 dL_law_1476 (by decide) ?_
    refine x_sub [2, 3, 4, 5, 6] rfl (L' := [(4, .int (nI (8 * i))), (3, .ref (o)), (2, .ref (m 0)), (1, .ref (A 0)), (0, .ref (b0))]) ?_
    refine x_widen (a' := a + 100) (b' := b + 1000) (by omega) (by omega) ?_
    exact kk A2 _ M8 hA20 (LJ_b hCM9 hd9 hO9 ho9 hJ.2.2.2.2.2 hR8).1 (Inv_s hI0)
  · have hz : cdCo σ x0 = 0 := hc0.symm.trans ((nI_z (Nat.lt_trans lt_cdCo (by decide))).mp c9)
    have hq : nI (b3T σ0 (cl x0)) = r8 := by (rw [hr8 hz]; subst hs0; exact RQ_counts (Inv_0 hI _) hz)
    refine x_aload_n F 3 dL_law_1464 rfl ?_
    refine x_iconst F (nI 0) dL_law_1465 (by decide) ?_
    have hO8 : M8 o = some (.inl (gC g 1, 1, .inr (.inl f9))) := (hR8.2.2.1 o hJ.2.2.2.2.2).trans hO9
    refine x_lald F hO8 (vp_in_nI (n := 0) (by decide) (by decide)) dL_law_1466 ?_
    refine x_rl0 (y := (nI (b3T σ0 (cl x0))).toInt64) (by rw [nI_clamp (n := 0) (by decide)]; exact hf9 (hc0.trans hz)) ?_
    refine x_iload F 0 dL_law_1467 rfl ?_
    refine x_i2l F dL_law_1469 ?_
    refine x_lcmp F dL_law_1470 ?_
    refine x_if_eq F 1476 dL_law_1471 (by decide) (fun _ => ?_) (fun c7 => absurd ((lg_cmp_eq _ _).mpr (congrArg Int32.toInt64 hq)) c7)
    skip
    refine x_goto F 1548 dL_law_1476 (by decide) ?_
    refine x_sub [2, 3, 4, 5, 6] rfl (L' := [(4, .int (nI (8 * i))), (3, .ref (o)), (2, .ref (m 0)), (1, .ref (A 0)), (0, .ref (b0))]) ?_
    refine x_widen (a' := a + 100) (b' := b + 1000) (by omega) (by omega) ?_
    have hJ8 := (LJ_b hCM9 hd9 hO9 ho9 hJ.2.2.2.2.2 hR8).1
    exact kk A2 _ M8 hA20 hJ8 (Inv_s hI0)
set_option maxHeartbeats 4000000 in
set_option maxRecDepth 100000 in
theorem blk_ranked {K : KX} {g : GP} {Q : State → Prop} {M : MM} {A : Nat → Nat} {m : Nat → Nat} {σ : ST} {a b b0 L0 i o : Nat} {xs : Nat → Int32} {hh9 : List (Nat × Nat × Nat × Nat)} (F : Fx K g cL_law RL 7 (some .boolean) hh9 12 460 601024 7293034) (hX : va_X b0 L0 xs (ks K) (ks K).heap) (hbl : b0 < (ks K).heap.size) (hbA : ¬ gO g b0) (hL0 : L0 ≤ 4096) (hi : 8 * i + 8 ≤ L0) (ha : a + 100 ≤ 601024) (hb : b + 1000 ≤ 7293034) (hJ : LJ g A m σ M o) (hI : Inv i σ) (kk : ∀ A3 σ3 M3, A3 0 = A 0 → LJ g A3 m σ3 M3 o → Inv (i + 1) σ3 → XW K g 7 Q M3 (a + 100) (b + 1000) 1548 [(4, .int (nI (8 * i))), (3, .ref (o)), (2, .ref (m 0)), (1, .ref (A 0)), (0, .ref (b0))] []) : XW K g 7 Q M a b 1479 [(4, .int (nI (8 * i))), (3, .ref (o)), (2, .ref (m 0)), (1, .ref (A 0)), (0, .ref (b0))] [] := by
  obtain ⟨x0, hv_x0⟩ : ∃ z, z = xs (8 * i + 1) := ⟨_, rfl⟩
  have h512 : i < 512 := by omega
  obtain ⟨σ0, hs0⟩ : ∃ z, z = uN σ 0 0 (cdRk x0) := ⟨_, rfl⟩
  have hI0 : Inv i σ0 := hs0 ▸ Inv_0 hI _
  have hC0 : CM g A M σ0 M := hs0 ▸ CM_0 hJ.1 _
  have hc0 : cdRk x0 = cdRk x0 := by first | rfl | (rw [hs0]; rfl)
  have hl0 : ∀ c, lvB σ0 c = lvB σ c := fun c => by rw [hs0]; exact lv_u0
  obtain ⟨fo, hO⟩ := hJ.2.2.2.1
  have ho : ∀ c, lvB σ0 c = true → o ≠ A c := fun c hc => hJ.2.2.2.2.1 c ((hl0 c).symm.trans hc)
  refine x_aload_n F 3 dL_law_1479 rfl ?_
  refine x_aload_n F 4 dL_law_1480 rfl ?_
  refine x_iload F 0 dL_law_1481 rfl ?_
  refine x_iconst F (nI 1) dL_law_1483 (by decide) ?_
  refine x_iaddN F dL_law_1484 ?_
  refine x_sld F hX hbl hbA (vp_in_nI (n := 8 * i + 1) (by omega) (by omega)) dL_law_1485 ?_
  refine x_ri0 (y := x0) (by rw [nI_clamp (n := 8 * i + 1) (by omega), hv_x0]) ?_
  refine x_aload_n F 1 dL_law_1486 rfl ?_
  refine x_callH F w_h_ranked rfl (c_L_ranked F.nt hC0 hI0.B hI0.D hO ho) rfl dL_law_1487 (by decide) ⟨by omega, by omega⟩ (Nat.le_of_ble_eq_true rfl) (ki fun r9 M9 hp9 => ?_)
  obtain ⟨rfl, hp9⟩ := hp9
  obtain ⟨A2, hA20, hRM9, hCM9, hd9, ⟨f9, hO9, hf9⟩, ho9⟩ := LJ_a hJ hl0 hp9
  refine x_istore F [(5, .int (nI (cdRk x0))), (4, .int (nI (8 * i))), (3, .ref (o)), (2, .ref (m 0)), (1, .ref (A 0)), (0, .ref (b0))] dL_law_1490 (by decide) rfl ?_
  refine x_aload_n F 3 dL_law_1492 rfl ?_
  refine x_aload_n F 5 dL_law_1493 rfl ?_
  refine x_iload F 1 dL_law_1494 rfl ?_
  refine x_iconst F (nI 1) dL_law_1496 (by decide) ?_
  refine x_iaddN F dL_law_1497 ?_
  refine x_sld F hX hbl hbA (vp_in_nI (n := 8 * i + 1) (by omega) (by omega)) dL_law_1498 ?_
  refine x_ri0 (y := x0) (by rw [nI_clamp (n := 8 * i + 1) (by omega), hv_x0]) ?_
  refine x_callV F s_L_160 hRM9.1 rfl rfl (c_X4_ranked F.nt hRM9 hI.B) rfl dL_law_1499 (by decide) ⟨by omega, by omega⟩ (Nat.le_of_ble_eq_true rfl) x_noX (ki fun r8 M8 hp8 => ?_)
  obtain ⟨hR8, hr8⟩ := hp8
  rw [← hs0] at hR8
  have ht8 : (σ0).1 0 0 = cdRk x0 := by rw [hs0]; rfl
  refine x_istore F [(6, .int (r8)), (5, .int (nI (cdRk x0))), (4, .int (nI (8 * i))), (3, .ref (o)), (2, .ref (m 0)), (1, .ref (A 0)), (0, .ref (b0))] dL_law_1502 (by decide) rfl ?_
  refine x_aload_n F 4 dL_law_1504 rfl ?_
  refine x_callV F s_L_94 hR8.1 rfl rfl (c_X4_thrown F.nt hR8) rfl dL_law_1505 (by decide) ⟨by omega, by omega⟩ (Nat.le_of_ble_eq_true rfl) x_noX (ki fun r7 M7 hp7 => ?_)
  obtain ⟨rfl, rfl⟩ := hp7
  refine x_iload F 1 dL_law_1508 rfl ?_
  refine x_icmp_eq F 1515 dL_law_1510 (by decide) (fun _ => ?_) (fun c9 => absurd (by rw [ht8, hc0]) c9)
  refine x_iload F 1 dL_law_1515 rfl ?_
  refine x_if_ne F 1532 dL_law_1517 (by decide) (fun c9 => ?_) (fun c9 => ?_)
  · have hz : ¬ cdRk x0 = 0 := fun z => c9 (by rw [hc0, z]; rfl)
    skip
    refine x_goto F 1548 dL_law_1532 (by decide) ?_
    refine x_sub [2, 3, 4, 5, 6] rfl (L' := [(4, .int (nI (8 * i))), (3, .ref (o)), (2, .ref (m 0)), (1, .ref (A 0)), (0, .ref (b0))]) ?_
    refine x_widen (a' := a + 100) (b' := b + 1000) (by omega) (by omega) ?_
    exact kk A2 _ M8 hA20 (LJ_b hCM9 hd9 hO9 ho9 hJ.2.2.2.2.2 hR8).1 (Inv_s hI0)
  · have hz : cdRk x0 = 0 := hc0.symm.trans ((nI_z (Nat.lt_trans lt_cdRk (by decide))).mp c9)
    have hq : fF (fun k => decide (nI (rkcS σ0 k) = x0)) 0 (σ0.1 7 0) = r8 := by (rw [hr8 hz]; subst hs0; exact (RQ_ranked (Inv_0 hI _) hz).trans rdrS_0)
    refine x_aload_n F 3 dL_law_1520 rfl ?_
    refine x_iconst F (nI 0) dL_law_1521 (by decide) ?_
    have hO8 : M8 o = some (.inl (gC g 1, 1, .inr (.inl f9))) := (hR8.2.2.1 o hJ.2.2.2.2.2).trans hO9
    refine x_lald F hO8 (vp_in_nI (n := 0) (by decide) (by decide)) dL_law_1522 ?_
    refine x_rl0 (y := (fF (fun k => decide (nI (rkcS σ0 k) = x0)) 0 (σ0.1 7 0)).toInt64) (by rw [nI_clamp (n := 0) (by decide)]; exact hf9 (hc0.trans hz)) ?_
    refine x_iload F 0 dL_law_1523 rfl ?_
    refine x_i2l F dL_law_1525 ?_
    refine x_lcmp F dL_law_1526 ?_
    refine x_if_eq F 1532 dL_law_1527 (by decide) (fun _ => ?_) (fun c7 => absurd ((lg_cmp_eq _ _).mpr (congrArg Int32.toInt64 hq)) c7)
    skip
    refine x_goto F 1548 dL_law_1532 (by decide) ?_
    refine x_sub [2, 3, 4, 5, 6] rfl (L' := [(4, .int (nI (8 * i))), (3, .ref (o)), (2, .ref (m 0)), (1, .ref (A 0)), (0, .ref (b0))]) ?_
    refine x_widen (a' := a + 100) (b' := b + 1000) (by omega) (by omega) ?_
    have hJ8 := (LJ_b hCM9 hd9 hO9 ho9 hJ.2.2.2.2.2 hR8).1
    exact kk A2 _ M8 hA20 hJ8 (Inv_s hI0)
set_option maxHeartbeats 4000000 in
set_option maxRecDepth 100000 in
theorem blk_balances {K : KX} {g : GP} {Q : State → Prop} {M : MM} {A : Nat → Nat} {m : Nat → Nat} {σ : ST} {a b b0 L0 i o : Nat} {xs : Nat → Int32} {hh9 : List (Nat × Nat × Nat × Nat)} (F : Fx K g cL_law RL 7 (some .boolean) hh9 12 460 601024 7293034) (hX : va_X b0 L0 xs (ks K) (ks K).heap) (hbl : b0 < (ks K).heap.size) (hbA : ¬ gO g b0) (hL0 : L0 ≤ 4096) (hi : 8 * i + 8 ≤ L0) (ha : a + 100 ≤ 601024) (hb : b + 1000 ≤ 7293034) (hJ : LJ g A m σ M o) (hI : Inv i σ) (kk : ∀ A3 σ3 M3, A3 0 = A 0 → LJ g A3 m σ3 M3 o → Inv (i + 1) σ3 → XW K g 7 Q M3 (a + 100) (b + 1000) 1548 [(4, .int (nI (8 * i))), (3, .ref (o)), (2, .ref (m 0)), (1, .ref (A 0)), (0, .ref (b0))] []) : XW K g 7 Q M a b 1535 [(4, .int (nI (8 * i))), (3, .ref (o)), (2, .ref (m 0)), (1, .ref (A 0)), (0, .ref (b0))] [] := by
  obtain ⟨fo, hO⟩ := hJ.2.2.2.1
  refine x_aload_n F 3 dL_law_1535 rfl ?_
  refine x_callV F s_L_161 hJ.1.c rfl rfl (c_X3_balances F.nt hJ.1 hI.B hI.W hI.D) rfl dL_law_1536 (by decide) ⟨by omega, by omega⟩ (Nat.le_of_ble_eq_true rfl) x_noX (ki fun r9 M9 hp9 => ?_)
  obtain ⟨rfl, rfl⟩ := hp9
  refine x_aload_n F 2 dL_law_1539 rfl ?_
  refine x_callV F s_L_165 hJ.2.1.1 rfl rfl (c_X4_balances F.nt hJ.2.1 hI.B) rfl dL_law_1540 (by decide) ⟨by omega, by omega⟩ (Nat.le_of_ble_eq_true rfl) x_noX (ki fun r8 M8 hp8 => ?_)
  obtain ⟨hR8, rfl⟩ := hp8
  refine x_icmp_eq F 1548 dL_law_1543 (by decide) (fun _ => ?_) (fun c9 => absurd (congrArg (fun z => nI (bz z)) (RQ_balances hI)) c9)
  refine x_widen (a' := a + 100) (b' := b + 1000) (by omega) (by omega) ?_
  exact kk A _ M8 rfl (LJ_b (CM_0 hJ.1 0) (fun c k hc => hJ.2.2.1 c k (lv_u0.symm.trans hc)) hO (fun c hc => hJ.2.2.2.2.1 c (lv_u0.symm.trans hc)) hJ.2.2.2.2.2 hR8).1 (Inv_s (Inv_0 hI 0))
