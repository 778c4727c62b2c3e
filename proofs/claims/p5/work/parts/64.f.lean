/-- the names that hold: the first i of those read -/
def gnc (M M0 : pM) (i : Int) : Prop := (∀ z : Nat, (z : Int) < i → o_l (M 299) z = o_l (M0 299) (8 + z)) ∧ ∀ z : Nat, 8 ≤ z → o_l (M 299) z = o_l (M0 299) z
theorem gnc.zero {M M0 : pM} {i : Int} (e : M 299 = M0 299) (h : i ≤ 0) : gnc M M0 i := ⟨fun z hz => by omega, fun z _ => by rw [e]⟩
theorem gnc.st {M M1 M0 : pM} {q j : Nat} {i i' : Int} {l : Int64} (h : gnc M M0 i) (U : gVl M M1 299 q) (f : o_l (M1 299) q = l) (fl : o_l (M 299) j = l) (hj : (j : Int) = 8 + i) (hq : (q : Int) = i) (h7 : i < 8) (hi : i' = i + 1) : gnc M1 M0 i' := by
  refine ⟨fun z hz => ?_, fun z hz => ?_⟩
  · by_cases w : z = q
    · subst w
      rw [f, ← fl, h.2 j (by omega), show j = 8 + z from by omega]
    · rw [U.2 z w]; exact h.1 z (by omega)
  · rw [U.2 z (by omega)]; exact h.2 z hz
def k_hn (M : pM) (A : k_A) : Prop := ∀ j : Nat, (j : Int) < A.1 0 → (o_l (M 299) j).toInt = k_wi (A.2.1 j) ∧ 0 ≤ A.2.1 j ∧ A.2.1 j < 34359738368
theorem k_hn.cg {M M1 : pM} {A : k_A} (h : k_hn M A) (e : M1 299 = M 299) : k_hn M1 A := by unfold k_hn; rw [e]; exact h
theorem gnc.hn {M M0 : pM} {A : k_A} {i : Int} (h : gnc M M0 i) (h8 : 8 ≤ i) (c : k_rp M0 A) : k_hn M A := by
  obtain ⟨c0, c1, c2, c3, c4, c5, c6, c7, c8, c9, c10, c11, c12, c13, c14, c15, c16, c17, c18, c19⟩ := c
  intro j hj
  rw [h.1 j (by omega)]
  exact c11 j hj
def gRBn (y : k_X) (M M1 : pM) : Prop := ((k_lines y 901 k_A0 0).1 ≠ 0 ∧ gNl M M1) ∨ ((k_lines y 901 k_A0 0).1 = 0 ∧ 0 ≤ (k_lines y 901 k_A0 0).2.2.1.1 0 ∧ (k_lines y 901 k_A0 0).2.2.1.1 0 ≤ 6 ∧ k_hn M1 (k_lines y 901 k_A0 0).2.2.1)
set_option maxHeartbeats 10000000 in
theorem c_X12_beach_vk (G : pG) (Kr : pK) (M : pM) (I : Iv gTT M) (y : k_X) (hp_0 : k_rtp y M) (hp_1 : y.2.2 = 900) (hp_2 : y.2.1 ≤ 940) (hK : ∀ (x : Int32) (M1 : pM), Iv gTT M1 → Fr [40, 42, 43, 45] M M1 → (x.toInt = k_beach y ∧ o_i (M1 294) 2 = 0 ∧ gRB y M M1 ∧ gRBn y M M1 ∧ o_i (M1 294) 15 = (k_lines y 901 k_A0 0).1) → Kr.1 (some (.int x)) 311 M1) : PW G false 6 193 (p_mc 193) (p_msl 193) Kr 0 (lv_args 0 [.ref 294]) [] 311 M 0 0 := by
  have F : Fr [40, 42, 43, 45] M M := Fr.refl
  refine PW.aload_n q_193_0 rfl ?_
  refine PW.cI q_193_1 (by decide) fun c1 hc1 => ?_
  refine PW.pI q_193_2 (Or.inl t_ft_193_1) gF_40_0 gP_40_0 kd_294 Stab0 I (by decide) rfl (n_lo _) (n_hi _) fun M2 IM2 fM2 UM2 => ?_
  have FM2 := Fr.pu F UM2.1 kd_294 (rfl : List.contains [40, 42, 43, 45] 40 = true)
  refine PW.aload_n q_193_5 rfl ?_
  refine PW.cS q_193_6 (by decide) fun c3 hc3 => ?_
  refine PW.cV (as := [_]) (rest := []) q_193_9 t_mv_193_226 kd_294 IM2.1 (by decide) rfl (by decide) rfl rfl (Nat.le_of_ble_eq_true rfl) (Nat.le_of_ble_eq_true rfl) (by decide) (by decide) ?_
  refine PW.up (by decide) (c_X12_taken_vk (gTT) (Stab0) G _ M2 IM2 c3 fun M4 IM4 GM4 PM4 => ?_)
  have FM4 := Fr.trans FM2 GM4 (rfl)
  rcases PM4 with ⟨QM4, ⟨PaM4, PbM4, PcM4, PdM4⟩⟩
  refine PW.aload_n q_193_12 rfl ?_
  refine PW.cI q_193_13 (by decide) fun c5 hc5 => ?_
  refine PW.pI q_193_14 (Or.inl t_ft_193_161) gF_40_15 gP_40_15 kd_294 Stab0 IM4 (by decide) rfl (n_lo _) (n_hi _) fun M6 IM6 fM6 UM6 => ?_
  have FM6 := Fr.pu FM4 UM6.1 kd_294 (rfl : List.contains [40, 42, 43, 45] 40 = true)
  refine PW.aload_n q_193_17 rfl ?_
  refine PW.cI q_193_18 (by decide) fun c7 hc7 => ?_
  refine PW.pI q_193_19 (Or.inl t_ft_193_229) gF_40_19 gP_40_19 kd_294 Stab0 IM6 (by decide) rfl (n_lo _) (n_hi _) fun M8 IM8 fM8 UM8 => ?_
  have FM8 := Fr.pu FM6 UM8.1 kd_294 (rfl : List.contains [40, 42, 43, 45] 40 = true)
  refine PW.aload_n q_193_22 rfl ?_
  refine PW.cI q_193_23 (by decide) fun c9 hc9 => ?_
  refine PW.pI q_193_24 (Or.inl t_ft_193_195) gF_40_20 gP_40_20 kd_294 Stab0 IM8 (by decide) rfl (n_lo _) (n_hi _) fun M10 IM10 fM10 UM10 => ?_
  have FM10 := Fr.pu FM8 UM10.1 kd_294 (rfl : List.contains [40, 42, 43, 45] 40 = true)
  have b15 : o_i (M10 294) 15 = 0 := (by have w := (o_i_of ((UM10.f (Or.inr (by decide))).trans ((UM8.f (Or.inr (by decide))).trans fM6))); omega)
  have b2 : o_i (M10 294) 2 = 0 := ((UM10.i (c := 294) (k := 2) (Or.inr (by decide))).trans ((UM8.i (c := 294) (k := 2) (Or.inr (by decide))).trans (UM6.i (c := 294) (k := 2) (Or.inr (by decide))))).trans PaM4
  have b3 : o_i (M10 294) 3 = y.2.1 := (((UM10.i (c := 294) (k := 3) (Or.inr (by decide))).trans ((UM8.i (c := 294) (k := 3) (Or.inr (by decide))).trans (UM6.i (c := 294) (k := 3) (Or.inr (by decide))))).trans PbM4).trans (((UM2.i (c := 294) (k := 2) (Or.inr (by decide)))).trans hp_0.1)
  have b4 : o_i (M10 294) 4 = 0 := ((UM10.i (c := 294) (k := 4) (Or.inr (by decide))).trans ((UM8.i (c := 294) (k := 4) (Or.inr (by decide))).trans (UM6.i (c := 294) (k := 4) (Or.inr (by decide))))).trans PcM4
  have b5 : o_i (M10 294) 5 = y.2.2 := by rw [((UM10.i (c := 294) (k := 5) (Or.inr (by decide))).trans ((UM8.i (c := 294) (k := 5) (Or.inr (by decide))).trans (UM6.i (c := 294) (k := 5) (Or.inr (by decide))))), PdM4]; omega
  have b19 : o_i (M10 294) 19 = 0 := (by have w := (o_i_of ((UM10.f (Or.inr (by decide))).trans fM8)); omega)
  have b20 : o_i (M10 294) 20 = 0 := (by have w := (o_i_of fM10); omega)
  have RX : k_rx y M10 := ⟨b3, b5, fun i hi => by rw [((UM10.1 _ (g_ne kd_295 kd_294 (by decide))).trans ((UM8.1 _ (g_ne kd_295 kd_294 (by decide))).trans ((UM6.1 _ (g_ne kd_295 kd_294 (by decide))).trans ((Fr.at GM4 kd_295 (by decide)).trans (UM2.1 _ (g_ne kd_295 kd_294 (by decide)))))))]; exact hp_0.2.1 i hi, fun r hr => by rw [((UM10.1 _ (g_ne kd_300 kd_294 (by decide))).trans ((UM8.1 _ (g_ne kd_300 kd_294 (by decide))).trans ((UM6.1 _ (g_ne kd_300 kd_294 (by decide))).trans ((Fr.at GM4 kd_300 (by decide)).trans (UM2.1 _ (g_ne kd_300 kd_294 (by decide)))))))]; exact hp_0.2.2 r hr, b15⟩
  have b296 : M10 296 = M 296 := ((UM10.1 _ (g_ne kd_296 kd_294 (by decide))).trans ((UM8.1 _ (g_ne kd_296 kd_294 (by decide))).trans ((UM6.1 _ (g_ne kd_296 kd_294 (by decide))).trans ((Fr.at GM4 kd_296 (by decide)).trans (UM2.1 _ (g_ne kd_296 kd_294 (by decide)))))))
  have b299 : M10 299 = M 299 := ((UM10.1 _ (g_ne kd_299 kd_294 (by decide))).trans ((UM8.1 _ (g_ne kd_299 kd_294 (by decide))).trans ((UM6.1 _ (g_ne kd_299 kd_294 (by decide))).trans ((Fr.at GM4 kd_299 (by decide)).trans (UM2.1 _ (g_ne kd_299 kd_294 (by decide)))))))
  refine PW.cI q_193_27 (by decide) fun c11 hc11 => ?_
  refine PW.istore_n q_193_28 (by decide) ?_
  have L193_29_12 : ∀ (n : Nat) (ML193_29_12 : pM) (v13 : Int32), Iv (gTT) ML193_29_12 → Fr [40, 42, 43, 45] M ML193_29_12 → 0 ≤ v13.toInt → v13.toInt ≤ 33 → ML193_29_12 294 = M10 294 → ML193_29_12 295 = M10 295 → ML193_29_12 300 = M10 300 → (∀ z : Nat, (z : Int) < v13.toInt → (o_a (ML193_29_12 297) z).toInt = 0) → ML193_29_12 296 = M 296 → ML193_29_12 299 = M 299 → (33 - v13.toInt).toNat = n → PW G false 6 193 (p_mc 193) (p_msl 193) Kr 29 [(0, .ref 294), (1, .int v13)] [] 311 ML193_29_12 0 0 := by
    intro n
    induction n using Nat.strongRecOn with
    | ind n ih_L193_29_12 =>
    intro ML193_29_12 v13 IML193_29_12 FML193_29_12 hbL193_29_120 hbL193_29_121 hbL193_29_122 hbL193_29_123 hbL193_29_124 hbL193_29_125 hbL193_29_126 hbL193_29_127 hmL193_29_12
    refine PW.iload_n q_193_29 rfl ?_
    refine PW.cB q_193_30 (by decide) fun c14 hc14 => ?_
    refine PW.jc_ge q_193_32 rfl (fun h15 => ?_) (fun h15 => ?_)
    · skip
      have m2 : o_i (ML193_29_12 294) 2 = 0 := by rw [hbL193_29_122]; exact b2
      have m4 : o_i (ML193_29_12 294) 4 = 0 := by rw [hbL193_29_122]; exact b4
      have m19 : o_i (ML193_29_12 294) 19 = 0 := by rw [hbL193_29_122]; exact b19
      have m20 : o_i (ML193_29_12 294) 20 = 0 := by rw [hbL193_29_122]; exact b20
      have c296 : ML193_29_12 296 = M 296 := hbL193_29_126
      have c299 : ML193_29_12 299 = M 299 := hbL193_29_127
      refine PW.aload_n q_193_48 rfl ?_
      refine PW.gR 297 q_193_49 (Or.inl t_ft_193_37) gF_40_7 kd_294 IML193_29_12.1 (by decide) rfl ?_
      refine PW.cI q_193_52 (by decide) fun c16 hc16 => ?_
      refine PW.cS q_193_53 (by decide) fun c17 hc17 => ?_
      refine PW.wI q_193_56 gA_43 kd_297 Stab0 IML193_29_12 (by decide) rfl gC_43_2_2 (by decide) (by omega) (by omega) (n_lo _) (n_hi _) fun M18 IM18 fM18 UM18 => ?_
      have FM18 := Fr.pu FML193_29_12 UM18.1 kd_297 (rfl : List.contains [40, 42, 43, 45] 43 = true)
      refine PW.aload_n q_193_57 rfl ?_
      refine PW.gR 297 q_193_58 (Or.inl t_ft_193_37) gF_40_7 kd_294 IM18.1 (by decide) rfl ?_
      refine PW.cI q_193_61 (by decide) fun c19 hc19 => ?_
      refine PW.cI q_193_62 (by decide) fun c20 hc20 => ?_
      refine PW.wI q_193_63 gA_43 kd_297 Stab0 IM18 (by decide) rfl gC_43_3_3 (by decide) (by omega) (by omega) (n_lo _) (n_hi _) fun M21 IM21 fM21 UM21 => ?_
      have FM21 := Fr.pu FM18 UM21.1 kd_297 (rfl : List.contains [40, 42, 43, 45] 43 = true)
      refine PW.aload_n q_193_64 rfl ?_
      refine PW.cV (as := []) (rest := []) q_193_65 t_mv_193_173 kd_294 IM21.1 (by decide) rfl (by decide) rfl rfl (Nat.le_of_ble_eq_true rfl) (Nat.le_of_ble_eq_true rfl) (by decide) (by decide) ?_
      refine PW.up (by decide) (c_X12_go_vk (gTT) (Stab0) G _ M21 IM21 y 0 ⟨(((RX.cg hbL193_29_122 hbL193_29_123 hbL193_29_124).cg (UM18.1 294 (by decide)) (UM18.1 295 (by decide)) (UM18.1 300 (by decide))).cg (UM21.1 294 (by decide)) (UM21.1 295 (by decide)) (UM21.1 300 (by decide))), by rw [((congrArg (fun e => o_i e 4) (UM21.1 294 (by decide))).trans (congrArg (fun e => o_i e 4) (UM18.1 294 (by decide))))]; exact m4, Nat.zero_le _⟩ fun M22 IM22 GM22 PM22 => ?_)
      have FM22 := Fr.trans FM21 GM22 (rfl)
      rcases PM22 with ⟨QM22, PtM22⟩
      have L193_68_23 : ∀ (n : Nat) (ML193_68_23 : pM), Iv (gTT) ML193_68_23 → Fr [40, 42, 43, 45] M ML193_68_23 → k_rli y ML193_68_23 n → o_i (ML193_68_23 294) 2 = 0 → ML193_68_23 296 = M 296 → gNl M ML193_68_23 → PW G false 6 193 (p_mc 193) (p_msl 193) Kr 68 [(0, .ref 294), (1, .int v13)] [] 311 ML193_68_23 0 0 := by
        intro n
        induction n using Nat.strongRecOn with
        | ind n ih_L193_68_23 =>
        intro ML193_68_23  IML193_68_23 FML193_68_23 hbL193_68_230 hbL193_68_231 hbL193_68_232 hbL193_68_233 
        refine PW.aload_n q_193_68 rfl ?_
        obtain ⟨A, i, T, C, E, hn, hi, hg, hh, E5⟩ := hbL193_68_230
        have ln2 := hbL193_68_231
        have w := k_rE T
        have d296 := hbL193_68_232
        have d299 := hbL193_68_233
        refine PW.gI q_193_69 (Or.inl t_ft_193_144) gF_40_11 kd_294 IML193_68_23.1 (by decide) fun x24 fx24 hx24 kx24 => ?_
        have ix24 := o_i_of fx24
        clear hx24 kx24
        refine PW.jz_eq q_193_72 rfl (fun h25 => ?_) (fun h25 => ?_)
        · skip
          have kl : k_lines y 901 k_A0 0 = (0, 0, A, i) := by rw [E, k_ls_end (by omega)]
          have kb : k_beach y = A.1 5 := by unfold k_beach; rw [E, k_ls_end (by omega), if_pos (show (0 : Int) = 0 from rfl)]
          have kb5 := C.2.2.2.2.2.1
          have X26 : Iv (gX 296) ML193_68_23 := ⟨IML193_68_23.1, gX.of IML193_68_23.2⟩
          have z15 : o_i (ML193_68_23 294) 15 = 0 := T.1.2.2.2.2
          refine PW.cI q_193_111 (by decide) fun c27 hc27 => ?_
          refine PW.istore_n q_193_112 (by decide) ?_
          have L193_113_28 : ∀ (n : Nat) (ML193_113_28 : pM) (v29 : Int32), Iv (gX 296) ML193_113_28 → Fr [40, 42, 43, 45] M ML193_113_28 → 0 ≤ v29.toInt → v29.toInt ≤ 397 → gz ML193_113_28 v29.toInt → k_hc ML193_113_28 ML193_68_23 v29.toInt → ML193_113_28 297 = ML193_68_23 297 → ML193_113_28 299 = ML193_68_23 299 → ML193_113_28 294 = ML193_68_23 294 → (397 - v29.toInt).toNat = n → PW G false 6 193 (p_mc 193) (p_msl 193) Kr 113 [(0, .ref 294), (1, .int v29)] [] 311 ML193_113_28 0 0 := by
            intro n
            induction n using Nat.strongRecOn with
            | ind n ih_L193_113_28 =>
            intro ML193_113_28 v29 IML193_113_28 FML193_113_28 hbL193_113_280 hbL193_113_281 hbL193_113_282 hbL193_113_283 hbL193_113_284 hbL193_113_285 hbL193_113_286 hmL193_113_28
            refine PW.iload_n q_193_113 rfl ?_
            have tq30 : o_i (ML193_113_28 294) 2 = o_i (ML193_68_23 294) 2 := congrArg (fun e => o_i e 2) hbL193_113_286
            have tr30 : o_i (ML193_113_28 294) 19 = o_i (ML193_68_23 294) 19 := congrArg (fun e => o_i e 19) hbL193_113_286
            have ts30 : o_i (ML193_113_28 294) 15 = o_i (ML193_68_23 294) 15 := congrArg (fun e => o_i e 15) hbL193_113_286
            refine PW.cS q_193_114 (by decide) fun c31 hc31 => ?_
            refine PW.jc_ge q_193_117 rfl (fun h32 => ?_) (fun h32 => ?_)
            · skip
              have X33 : Iv gTT ML193_113_28 := ⟨IML193_113_28.1, gX.e296 IML193_113_28.2 (gz.sa hbL193_113_282 (by omega))⟩
              refine PW.cI q_193_148 (by decide) fun c34 hc34 => ?_
              refine PW.istore_n q_193_149 (by decide) ?_
              have L193_150_35 : ∀ (n : Nat) (ML193_150_35 : pM) (v36 : Int32), Iv (gTT) ML193_150_35 → Fr [40, 42, 43, 45] M ML193_150_35 → 0 ≤ v36.toInt → v36.toInt ≤ 8 → k_h5 ML193_150_35 A → gnc ML193_150_35 ML193_68_23 v36.toInt → ML193_150_35 294 = ML193_113_28 294 → (8 - v36.toInt).toNat = n → PW G false 6 193 (p_mc 193) (p_msl 193) Kr 150 [(0, .ref 294), (1, .int v36)] [] 311 ML193_150_35 0 0 := by
                intro n
                induction n using Nat.strongRecOn with
                | ind n ih_L193_150_35 =>
                intro ML193_150_35 v36 IML193_150_35 FML193_150_35 hbL193_150_350 hbL193_150_351 hbL193_150_352 hbL193_150_353 hbL193_150_354 hmL193_150_35
                refine PW.iload_n q_193_150 rfl ?_
                have tq37 : o_i (ML193_150_35 294) 2 = o_i (ML193_113_28 294) 2 := congrArg (fun e => o_i e 2) hbL193_150_354
                have tr37 : o_i (ML193_150_35 294) 19 = o_i (ML193_113_28 294) 19 := congrArg (fun e => o_i e 19) hbL193_150_354
                have ts37 : o_i (ML193_150_35 294) 15 = o_i (ML193_113_28 294) 15 := congrArg (fun e => o_i e 15) hbL193_150_354
                refine PW.cB q_193_151 (by decide) fun c38 hc38 => ?_
                refine PW.jc_ge q_193_153 rfl (fun h39 => ?_) (fun h39 => ?_)
                · skip
                  refine PW.cI q_193_177 (by decide) fun c40 hc40 => ?_
                  refine PW.istore_n q_193_178 (by decide) ?_
                  have L193_179_41 : ∀ (n : Nat) (ML193_179_41 : pM) (v42 : Int32), Iv (gTT) ML193_179_41 → Fr [40, 42, 43, 45] M ML193_179_41 → 0 ≤ v42.toInt → v42.toInt ≤ 6 → k_h5 ML193_179_41 A → k_hn ML193_179_41 A → ML193_179_41 294 = ML193_150_35 294 → (6 - v42.toInt).toNat = n → PW G false 6 193 (p_mc 193) (p_msl 193) Kr 179 [(0, .ref 294), (1, .int v42)] [] 311 ML193_179_41 0 0 := by
                    intro n
                    induction n using Nat.strongRecOn with
                    | ind n ih_L193_179_41 =>
                    intro ML193_179_41 v42 IML193_179_41 FML193_179_41 hbL193_179_410 hbL193_179_411 hbL193_179_412 hbL193_179_413 hbL193_179_414 hmL193_179_41
                    refine PW.iload_n q_193_179 rfl ?_
                    have tq43 : o_i (ML193_179_41 294) 2 = o_i (ML193_150_35 294) 2 := congrArg (fun e => o_i e 2) hbL193_179_414
                    have tr43 : o_i (ML193_179_41 294) 19 = o_i (ML193_150_35 294) 19 := congrArg (fun e => o_i e 19) hbL193_179_414
                    have ts43 : o_i (ML193_179_41 294) 15 = o_i (ML193_150_35 294) 15 := congrArg (fun e => o_i e 15) hbL193_179_414
                    refine PW.cB q_193_180 (by decide) fun c44 hc44 => ?_
                    refine PW.jc_ge q_193_182 rfl (fun h45 => ?_) (fun h45 => ?_)
                    · skip
                      refine PW.cI q_193_250 (by decide) fun c46 hc46 => ?_
                      refine PW.istore_n q_193_251 (by decide) ?_
                      have L193_252_47 : ∀ (n : Nat) (ML193_252_47 : pM) (v48 : Int32), Iv (gTT) ML193_252_47 → Fr [40, 42, 43, 45] M ML193_252_47 → 0 ≤ v48.toInt → v48.toInt ≤ 2 → k_h5 ML193_252_47 A → k_hn ML193_252_47 A → ML193_252_47 294 = ML193_179_41 294 → (2 - v48.toInt).toNat = n → PW G false 6 193 (p_mc 193) (p_msl 193) Kr 252 [(0, .ref 294), (1, .int v48)] [] 311 ML193_252_47 0 0 := by
                        intro n
                        induction n using Nat.strongRecOn with
                        | ind n ih_L193_252_47 =>
                        intro ML193_252_47 v48 IML193_252_47 FML193_252_47 hbL193_252_470 hbL193_252_471 hbL193_252_472 hbL193_252_473 hbL193_252_474 hmL193_252_47
                        refine PW.iload_n q_193_252 rfl ?_
                        have tq49 : o_i (ML193_252_47 294) 2 = o_i (ML193_179_41 294) 2 := congrArg (fun e => o_i e 2) hbL193_252_474
                        have tr49 : o_i (ML193_252_47 294) 19 = o_i (ML193_179_41 294) 19 := congrArg (fun e => o_i e 19) hbL193_252_474
                        have ts49 : o_i (ML193_252_47 294) 15 = o_i (ML193_179_41 294) 15 := congrArg (fun e => o_i e 15) hbL193_252_474
                        refine PW.aload_n q_193_253 rfl ?_
                        refine PW.gR 296 q_193_254 (Or.inl t_ft_193_33) gF_40_6 kd_294 IML193_252_47.1 (by decide) rfl ?_
                        refine PW.cI q_193_257 (by decide) fun c50 hc50 => ?_
                        refine PW.aI q_193_258 gA_42 kd_296 IML193_252_47.1 (by decide) gB_42_1_1 (by decide) (by omega) (by omega) fun x51 fx51 hx51 kx51 => ?_
                        refine PW.jc_ge q_193_259 rfl (fun h52 => ?_) (fun h52 => ?_)
                        · skip
                          refine PW.aload_n q_193_353 rfl ?_
                          refine PW.cI q_193_354 (by decide) fun c53 hc53 => ?_
                          refine PW.pI q_193_355 (Or.inl t_ft_193_238) gF_40_23 gP_40_23 kd_294 Stab0 IML193_252_47 (by decide) rfl (by omega) (by omega) fun M54 IM54 fM54 UM54 => ?_
                          have FM54 := Fr.pu FML193_252_47 UM54.1 kd_294 (rfl : List.contains [40, 42, 43, 45] 40 = true)
                          refine PW.aload_n q_193_358 rfl ?_
                          refine PW.gI q_193_359 (Or.inl t_ft_193_229) gF_40_19 kd_294 IM54.1 (by decide) fun x55 fx55 hx55 kx55 => ?_
                          have ix55 := o_i_of fx55
                          clear hx55 kx55
                          refine PW.rI q_193_362 rfl (by decide) (by decide) ?_
                          exact hK x55 M54 IM54 FM54 ⟨by rw [kb]; have w := (UM54.i (c := 294) (k := 19) (Or.inr (by decide))); omega, by have w := (UM54.i (c := 294) (k := 2) (Or.inr (by decide))); omega, Or.inr ⟨by rw [kl], by rw [kl]; exact (hbL193_252_472.cg (UM54.1 296 (by decide)))⟩, Or.inr ⟨by rw [kl], by rw [kl]; exact C.2.2.2.2.2.2.2.2.2.2.2.2.2.2.2.2.1, by rw [kl]; exact C.2.2.2.2.2.2.2.2.2.2.2.2.2.2.2.2.2.1, by rw [kl]; exact (hbL193_252_473.cg (UM54.1 _ (g_ne kd_299 kd_294 (by decide))))⟩, by rw [kl]; show o_i (M54 294) 15 = 0; have w := (UM54.i (c := 294) (k := 15) (Or.inr (by decide))); omega⟩
                        · skip
                          refine PW.aload_n q_193_262 rfl ?_
                          refine PW.gR 296 q_193_263 (Or.inl t_ft_193_33) gF_40_6 kd_294 IML193_252_47.1 (by decide) rfl ?_
                          refine PW.cB q_193_266 (by decide) fun c56 hc56 => ?_
                          refine PW.iload_n q_193_268 rfl ?_
                          refine PW.addN q_193_269 (by omega) (by omega) fun x57 hx57 => ?_
                          refine PW.aload_n q_193_270 rfl ?_
                          refine PW.gR 296 q_193_271 (Or.inl t_ft_193_33) gF_40_6 kd_294 IML193_252_47.1 (by decide) rfl ?_
                          refine PW.cB q_193_274 (by decide) fun c58 hc58 => ?_
                          refine PW.aload_n q_193_276 rfl ?_
                          refine PW.gR 296 q_193_277 (Or.inl t_ft_193_33) gF_40_6 kd_294 IML193_252_47.1 (by decide) rfl ?_
                          refine PW.cB q_193_280 (by decide) fun c59 hc59 => ?_
                          refine PW.iload_n q_193_282 rfl ?_
                          refine PW.addN q_193_283 (by omega) (by omega) fun x60 hx60 => ?_
                          refine PW.aI q_193_284 gA_42 kd_296 IML193_252_47.1 (by decide) gB_42_23_24 (by decide) (by omega) (by omega) fun x61 fx61 hx61 kx61 => ?_
                          refine PW.addN q_193_285 (by omega) (by omega) fun x62 hx62 => ?_
                          refine PW.aH q_193_286 gA_42 kd_296 IML193_252_47.1 (by decide) (by omega) (by omega) fun x63 fx63 => ?_
                          refine PW.wS q_193_287 Stab0 IML193_252_47 gC_42_74_75 gN_74_75 (by decide) (by omega) (by omega) (n_lo _) (n_hi _) fun M64 IM64 fM64 UM64 => ?_
                          have FM64 := Fr.pu FML193_252_47 UM64.1 kd_296 (rfl : List.contains [40, 42, 43, 45] 42 = true)
                          refine PW.aload_n q_193_288 rfl ?_
                          refine PW.gR 296 q_193_289 (Or.inl t_ft_193_33) gF_40_6 kd_294 IM64.1 (by decide) rfl ?_
                          refine PW.cB q_193_292 (by decide) fun c65 hc65 => ?_
                          refine PW.iload_n q_193_294 rfl ?_
                          refine PW.addN q_193_295 (by omega) (by omega) fun x66 hx66 => ?_
                          refine PW.aload_n q_193_296 rfl ?_
                          refine PW.gR 296 q_193_297 (Or.inl t_ft_193_33) gF_40_6 kd_294 IM64.1 (by decide) rfl ?_
                          refine PW.cB q_193_300 (by decide) fun c67 hc67 => ?_
                          refine PW.iload_n q_193_302 rfl ?_
                          refine PW.addN q_193_303 (by omega) (by omega) fun x68 hx68 => ?_
                          refine PW.aH q_193_304 gA_42 kd_296 IM64.1 (by decide) (by omega) (by omega) fun x69 fx69 => ?_
                          refine PW.wS q_193_305 Stab0 IM64 gC_42_76_77 gN_76_77 (by decide) (by omega) (by omega) (n_lo _) (n_hi _) fun M70 IM70 fM70 UM70 => ?_
                          have FM70 := Fr.pu FM64 UM70.1 kd_296 (rfl : List.contains [40, 42, 43, 45] 42 = true)
                          refine PW.aload_n q_193_306 rfl ?_
                          refine PW.gR 296 q_193_307 (Or.inl t_ft_193_33) gF_40_6 kd_294 IM70.1 (by decide) rfl ?_
                          refine PW.cB q_193_310 (by decide) fun c71 hc71 => ?_
                          refine PW.iload_n q_193_312 rfl ?_
                          refine PW.addN q_193_313 (by omega) (by omega) fun x72 hx72 => ?_
                          refine PW.aload_n q_193_314 rfl ?_
                          refine PW.gR 296 q_193_315 (Or.inl t_ft_193_33) gF_40_6 kd_294 IM70.1 (by decide) rfl ?_
                          refine PW.cB q_193_318 (by decide) fun c73 hc73 => ?_
                          refine PW.iload_n q_193_320 rfl ?_
                          refine PW.addN q_193_321 (by omega) (by omega) fun x74 hx74 => ?_
                          refine PW.aI q_193_322 gA_42 kd_296 IM70.1 (by decide) gB_42_23_24 (by decide) (by omega) (by omega) fun x75 fx75 hx75 kx75 => ?_
                          refine PW.wS q_193_323 Stab0 IM70 gC_42_86_87 gN_86_87 (by decide) (by omega) (by omega) (by omega) (by omega) fun M76 IM76 fM76 UM76 => ?_
                          have FM76 := Fr.pu FM70 UM76.1 kd_296 (rfl : List.contains [40, 42, 43, 45] 42 = true)
                          refine PW.aload_n q_193_324 rfl ?_
                          refine PW.gR 296 q_193_325 (Or.inl t_ft_193_33) gF_40_6 kd_294 IM76.1 (by decide) rfl ?_
                          refine PW.cB q_193_328 (by decide) fun c77 hc77 => ?_
                          refine PW.cB q_193_330 (by decide) fun c78 hc78 => ?_
                          refine PW.iload_n q_193_332 rfl ?_
                          refine PW.mulN q_193_333 (6) (by omega) v48 (fun h => n_eq.mpr (by omega)) (fun h => n_eq.mpr (by omega)) (by omega) (by omega) fun x79 hx79 => ?_
                          refine PW.addN q_193_334 (by omega) (by omega) fun x80 hx80 => ?_
                          refine PW.aload_n q_193_335 rfl ?_
                          refine PW.gR 296 q_193_336 (Or.inl t_ft_193_33) gF_40_6 kd_294 IM76.1 (by decide) rfl ?_
                          refine PW.cB q_193_339 (by decide) fun c81 hc81 => ?_
                          refine PW.iload_n q_193_341 rfl ?_
                          refine PW.addN q_193_342 (by omega) (by omega) fun x82 hx82 => ?_
                          refine PW.aI q_193_343 gA_42 kd_296 IM76.1 (by decide) gB_42_23_24 (by decide) (by omega) (by omega) fun x83 fx83 hx83 kx83 => ?_
                          refine PW.addN q_193_344 (by omega) (by omega) fun x84 hx84 => ?_
                          refine PW.cI q_193_345 (by decide) fun c85 hc85 => ?_
                          refine PW.wS q_193_346 Stab0 IM76 gC_42_88_99 gN_88_99 (by decide) (by omega) (by omega) (by omega) (by omega) fun M86 IM86 fM86 UM86 => ?_
                          have FM86 := Fr.pu FM76 UM86.1 kd_296 (rfl : List.contains [40, 42, 43, 45] 42 = true)
                          refine PW.incN q_193_347 rfl (by decide) (by decide) (by omega) (by omega) fun x87 hx87 => ?_
                          refine PW.goto q_193_350 rfl ?_
                          refine PW.lvS (lk1 rfl (lk1 rfl lk0)) (ih_L193_252_47 _ ?_ M86 x87 IM86 FM86 (by omega) (by omega) ((((hbL193_252_472.st UM64 (by omega)).st UM70 (by omega)).st UM76 (by omega)).st UM86 (by omega)) (hbL193_252_473.cg ((UM86.1 _ (g_ne kd_299 kd_296 (by decide))).trans ((UM76.1 _ (g_ne kd_299 kd_296 (by decide))).trans ((UM70.1 _ (g_ne kd_299 kd_296 (by decide))).trans (UM64.1 _ (g_ne kd_299 kd_296 (by decide))))))) (((UM86.1 _ (g_ne kd_294 kd_296 (by decide))).trans ((UM76.1 _ (g_ne kd_294 kd_296 (by decide))).trans ((UM70.1 _ (g_ne kd_294 kd_296 (by decide))).trans (UM64.1 _ (g_ne kd_294 kd_296 (by decide)))))).trans hbL193_252_474) rfl)
                          omega
                      exact PW.lvS (lk1 rfl (lk1 rfl lk0)) (L193_252_47 _ ML193_179_41 c46 IML193_179_41 FML193_179_41 (by omega) (by omega) hbL193_179_412 hbL193_179_413 rfl rfl)
                    · skip
                      refine PW.aload_n q_193_185 rfl ?_
                      refine PW.gR 296 q_193_186 (Or.inl t_ft_193_33) gF_40_6 kd_294 IML193_179_41.1 (by decide) rfl ?_
                      refine PW.cB q_193_189 (by decide) fun c88 hc88 => ?_
                      refine PW.iload_n q_193_191 rfl ?_
                      refine PW.addN q_193_192 (by omega) (by omega) fun x89 hx89 => ?_
                      refine PW.aload_n q_193_193 rfl ?_
                      refine PW.gR 296 q_193_194 (Or.inl t_ft_193_33) gF_40_6 kd_294 IML193_179_41.1 (by decide) rfl ?_
                      refine PW.cI q_193_197 (by decide) fun c90 hc90 => ?_
                      refine PW.iload_n q_193_198 rfl ?_
                      refine PW.addN q_193_199 (by omega) (by omega) fun x91 hx91 => ?_
                      refine PW.aH q_193_200 gA_42 kd_296 IML193_179_41.1 (by decide) (by omega) (by omega) fun x92 fx92 => ?_
                      refine PW.wS q_193_201 Stab0 IML193_179_41 gC_42_36_41 gN_36_41 (by decide) (by omega) (by omega) (n_lo _) (n_hi _) fun M93 IM93 fM93 UM93 => ?_
                      have FM93 := Fr.pu FML193_179_41 UM93.1 kd_296 (rfl : List.contains [40, 42, 43, 45] 42 = true)
                      refine PW.aload_n q_193_202 rfl ?_
                      refine PW.gR 296 q_193_203 (Or.inl t_ft_193_33) gF_40_6 kd_294 IM93.1 (by decide) rfl ?_
                      refine PW.cB q_193_206 (by decide) fun c94 hc94 => ?_
                      refine PW.iload_n q_193_208 rfl ?_
                      refine PW.addN q_193_209 (by omega) (by omega) fun x95 hx95 => ?_
                      refine PW.aload_n q_193_210 rfl ?_
                      refine PW.gR 296 q_193_211 (Or.inl t_ft_193_33) gF_40_6 kd_294 IM93.1 (by decide) rfl ?_
                      refine PW.cB q_193_214 (by decide) fun c96 hc96 => ?_
                      refine PW.iload_n q_193_216 rfl ?_
                      refine PW.addN q_193_217 (by omega) (by omega) fun x97 hx97 => ?_
                      refine PW.aH q_193_218 gA_42 kd_296 IM93.1 (by decide) (by omega) (by omega) fun x98 fx98 => ?_
                      refine PW.wS q_193_219 Stab0 IM93 gC_42_42_47 gN_42_47 (by decide) (by omega) (by omega) (n_lo _) (n_hi _) fun M99 IM99 fM99 UM99 => ?_
                      have FM99 := Fr.pu FM93 UM99.1 kd_296 (rfl : List.contains [40, 42, 43, 45] 42 = true)
                      refine PW.aload_n q_193_220 rfl ?_
                      refine PW.gR 296 q_193_221 (Or.inl t_ft_193_33) gF_40_6 kd_294 IM99.1 (by decide) rfl ?_
                      refine PW.cB q_193_224 (by decide) fun c100 hc100 => ?_
                      refine PW.iload_n q_193_226 rfl ?_
                      refine PW.addN q_193_227 (by omega) (by omega) fun x101 hx101 => ?_
                      refine PW.iload_n q_193_228 rfl ?_
                      refine PW.aload_n q_193_229 rfl ?_
                      refine PW.gR 296 q_193_230 (Or.inl t_ft_193_33) gF_40_6 kd_294 IM99.1 (by decide) rfl ?_
                      refine PW.cI q_193_233 (by decide) fun c102 hc102 => ?_
                      refine PW.aI q_193_234 gA_42 kd_296 IM99.1 (by decide) gB_42_0_0 (by decide) (by omega) (by omega) fun x103 fx103 hx103 kx103 => ?_
                      refine PW.jc_ge q_193_235 rfl (fun h104 => ?_) (fun h104 => ?_)
                      · skip
                        refine PW.cI q_193_242 (by decide) fun c105 hc105 => ?_
                        refine PW.wS q_193_243 Stab0 IM99 gC_42_48_53 gN_48_53 (by decide) (by omega) (by omega) (n_lo _) (n_hi _) fun M106 IM106 fM106 UM106 => ?_
                        have FM106 := Fr.pu FM99 UM106.1 kd_296 (rfl : List.contains [40, 42, 43, 45] 42 = true)
                        refine PW.incN q_193_244 rfl (by decide) (by decide) (by omega) (by omega) fun x107 hx107 => ?_
                        refine PW.goto q_193_247 rfl ?_
                        refine PW.lvS (lk1 rfl (lk1 rfl lk0)) (ih_L193_179_41 _ ?_ M106 x107 IM106 FM106 (by omega) (by omega) (((hbL193_179_412.st UM93 (by omega)).st UM99 (by omega)).st UM106 (by omega)) (hbL193_179_413.cg ((UM106.1 _ (g_ne kd_299 kd_296 (by decide))).trans ((UM99.1 _ (g_ne kd_299 kd_296 (by decide))).trans (UM93.1 _ (g_ne kd_299 kd_296 (by decide)))))) (((UM106.1 _ (g_ne kd_294 kd_296 (by decide))).trans ((UM99.1 _ (g_ne kd_294 kd_296 (by decide))).trans (UM93.1 _ (g_ne kd_294 kd_296 (by decide))))).trans hbL193_179_414) rfl)
                        omega
                      · skip
                        refine PW.cI q_193_238 (by decide) fun c108 hc108 => ?_
                        refine PW.goto q_193_239 rfl ?_
                        refine PW.wS q_193_243 Stab0 IM99 gC_42_48_53 gN_48_53 (by decide) (by omega) (by omega) (n_lo _) (n_hi _) fun M109 IM109 fM109 UM109 => ?_
                        have FM109 := Fr.pu FM99 UM109.1 kd_296 (rfl : List.contains [40, 42, 43, 45] 42 = true)
                        refine PW.incN q_193_244 rfl (by decide) (by decide) (by omega) (by omega) fun x110 hx110 => ?_
                        refine PW.goto q_193_247 rfl ?_
                        refine PW.lvS (lk1 rfl (lk1 rfl lk0)) (ih_L193_179_41 _ ?_ M109 x110 IM109 FM109 (by omega) (by omega) (((hbL193_179_412.st UM93 (by omega)).st UM99 (by omega)).st UM109 (by omega)) (hbL193_179_413.cg ((UM109.1 _ (g_ne kd_299 kd_296 (by decide))).trans ((UM99.1 _ (g_ne kd_299 kd_296 (by decide))).trans (UM93.1 _ (g_ne kd_299 kd_296 (by decide)))))) (((UM109.1 _ (g_ne kd_294 kd_296 (by decide))).trans ((UM99.1 _ (g_ne kd_294 kd_296 (by decide))).trans (UM93.1 _ (g_ne kd_294 kd_296 (by decide))))).trans hbL193_179_414) rfl)
                        omega
                  exact PW.lvS (lk1 rfl (lk1 rfl lk0)) (L193_179_41 _ ML193_150_35 c40 IML193_150_35 FML193_150_35 (by omega) (by omega) hbL193_150_352 (gnc.hn hbL193_150_353 (by omega) C) rfl rfl)
                · skip
                  refine PW.aload_n q_193_156 rfl ?_
                  refine PW.gR 299 q_193_157 (Or.inl t_ft_193_43) gF_40_9 kd_294 IML193_150_35.1 (by decide) rfl ?_
                  refine PW.iload_n q_193_160 rfl ?_
                  refine PW.aload_n q_193_161 rfl ?_
                  refine PW.gR 299 q_193_162 (Or.inl t_ft_193_43) gF_40_9 kd_294 IML193_150_35.1 (by decide) rfl ?_
                  refine PW.cB q_193_165 (by decide) fun c111 hc111 => ?_
                  refine PW.iload_n q_193_167 rfl ?_
                  refine PW.addN q_193_168 (by omega) (by omega) fun x112 hx112 => ?_
                  refine PW.aL q_193_169 rfl kd_299 IML193_150_35.1 (by decide) (by omega) (by omega) fun l113 fl113 => ?_
                  refine PW.wLX q_193_170 rfl kd_299 Stab0 IML193_150_35 (by decide) rfl (by omega) (by omega) fun M114 IM114 fM114 UM114 => ?_
                  have FM114 := Fr.pu FML193_150_35 UM114.1 kd_299 (rfl : List.contains [40, 42, 43, 45] 45 = true)
                  refine PW.incN q_193_171 rfl (by decide) (by decide) (by omega) (by omega) fun x115 hx115 => ?_
                  refine PW.goto q_193_174 rfl ?_
                  refine PW.lvS (lk1 rfl (lk1 rfl lk0)) (ih_L193_150_35 _ ?_ M114 x115 IM114 FM114 (by omega) (by omega) (hbL193_150_352.cg (UM114.1 296 (by decide))) (gnc.st hbL193_150_353 UM114 fM114 fl113 (by omega) (by omega) (by omega) (by omega)) ((UM114.1 _ (g_ne kd_294 kd_299 (by decide))).trans hbL193_150_354) rfl)
                  omega
              exact PW.lvS (lk1 rfl (lk1 rfl lk0)) (L193_150_35 _ ML193_113_28 c34 X33 FML193_113_28 (by omega) (by omega) (hbL193_113_283.h5 (by omega) C) (gnc.zero hbL193_113_285 (by omega)) rfl rfl)
            · skip
              refine PW.aload_n q_193_120 rfl ?_
              refine PW.gR 296 q_193_121 (Or.inl t_ft_193_33) gF_40_6 kd_294 IML193_113_28.1 (by decide) rfl ?_
              refine PW.iload_n q_193_124 rfl ?_
              refine PW.iload_n q_193_125 rfl ?_
              refine PW.cB q_193_126 (by decide) fun c116 hc116 => ?_
              refine PW.jc_ge q_193_128 rfl (fun h117 => ?_) (fun h117 => ?_)
              · skip
                refine PW.cI q_193_140 (by decide) fun c118 hc118 => ?_
                refine PW.wB q_193_141 gA_42 kd_296 IML193_113_28.1 (by decide) (by omega) (by omega) (as0 _ (by omega)) fun M119 JM119 fM119 UM119 => ?_
                have IM119 : Iv (gX 296) M119 := ⟨JM119, gX.up IML193_113_28.2 UM119.1 (by decide)⟩
                have FM119 := Fr.pu FML193_113_28 UM119.1 kd_296 (rfl : List.contains [40, 42, 43, 45] 42 = true)
                refine PW.incN q_193_142 rfl (by decide) (by decide) (by omega) (by omega) fun x120 hx120 => ?_
                refine PW.goto q_193_145 rfl ?_
                refine PW.lvS (lk1 rfl (lk1 rfl lk0)) (ih_L193_113_28 _ ?_ M119 x120 IM119 FM119 (by omega) (by omega) (gz.step hbL193_113_282 UM119 (by omega) fM119 (by omega) (by omega) (by omega)) (k_hc.hi hbL193_113_283 UM119 (by omega) (by omega) (by omega)) ((UM119.1 297 (by decide)).trans hbL193_113_284) ((UM119.1 299 (by decide)).trans hbL193_113_285) ((UM119.1 _ (g_ne kd_294 kd_296 (by decide))).trans hbL193_113_286) rfl)
                omega
              · skip
                refine PW.aload_n q_193_131 rfl ?_
                refine PW.gR 297 q_193_132 (Or.inl t_ft_193_37) gF_40_7 kd_294 IML193_113_28.1 (by decide) rfl ?_
                refine PW.iload_n q_193_135 rfl ?_
                refine PW.aH q_193_136 gA_43 kd_297 IML193_113_28.1 (by decide) (by omega) (by omega) fun x121 fx121 => ?_
                refine PW.goto q_193_137 rfl ?_
                have bsM122 := (InvB.arr IML193_113_28.1 kd_297 (by decide) gA_43).2.2 v29.toInt.toNat (by omega)
                rw [fx121] at bsM122
                refine PW.wB q_193_141 gA_42 kd_296 IML193_113_28.1 (by decide) (by omega) (by omega) (by rw [as43 (p := v29.toInt.toNat) (by omega)]; exact bsM122) fun M122 JM122 fM122 UM122 => ?_
                have IM122 : Iv (gX 296) M122 := ⟨JM122, gX.up IML193_113_28.2 UM122.1 (by decide)⟩
                have FM122 := Fr.pu FML193_113_28 UM122.1 kd_296 (rfl : List.contains [40, 42, 43, 45] 42 = true)
                refine PW.incN q_193_142 rfl (by decide) (by decide) (by omega) (by omega) fun x123 hx123 => ?_
                refine PW.goto q_193_145 rfl ?_
                refine PW.lvS (lk1 rfl (lk1 rfl lk0)) (ih_L193_113_28 _ ?_ M122 x123 IM122 FM122 (by omega) (by omega) (gz.step hbL193_113_282 UM122 (by omega) fM122 (by omega) (by omega) (by omega)) (k_hc.lo hbL193_113_283 UM122 (by omega) fM122 fx121 (by omega) hbL193_113_284 (by omega)) ((UM122.1 297 (by decide)).trans hbL193_113_284) ((UM122.1 299 (by decide)).trans hbL193_113_285) ((UM122.1 _ (g_ne kd_294 kd_296 (by decide))).trans hbL193_113_286) rfl)
                omega
          exact PW.lvS (lk1 rfl (lk1 rfl lk0)) (L193_113_28 _ ML193_68_23 c27 X26 FML193_68_23 (by omega) (by omega) (gz.zero (by omega)) (k_hc.zero (by omega)) rfl rfl rfl rfl)
        · skip
          have hn1 : 1 ≤ n := by omega
          refine PW.aload_n q_193_75 rfl ?_
          refine PW.cV (as := []) (rest := []) q_193_76 t_mv_193_232 kd_294 IML193_68_23.1 (by decide) rfl (by decide) rfl rfl (Nat.le_of_ble_eq_true rfl) (Nat.le_of_ble_eq_true rfl) (by decide) (by decide) ?_
          refine PW.up (by decide) (c_X12_line_vk (gTT) (Stab0) G _ ML193_68_23 IML193_68_23 _ _ _ T C fun x125 M124 IM124 GM124 hx125 kx125 PM124 TM124 => ?_)
          have FM124 := Fr.trans FML193_68_23 GM124 (rfl)
          rcases PM124 with ⟨QM124, ⟨PaM124, PbM124, PtM124, PqM124⟩ | ⟨PaM124, PbM124, PfM124, PgM124⟩⟩
          · skip
            refine PW.jz_eq q_193_79 rfl (fun h126 => False.elim (by omega)) (fun h126 => ?_)
            refine PW.aload_n q_193_82 rfl ?_
            refine PW.cB q_193_83 (by decide) fun c127 hc127 => ?_
            refine PW.cV (as := [_]) (rest := []) q_193_85 t_mv_193_235 kd_294 IM124.1 (by decide) rfl (by decide) rfl rfl (Nat.le_of_ble_eq_true rfl) (Nat.le_of_ble_eq_true rfl) (by decide) (by decide) ?_
            refine PW.up (by decide) (c_X12_sign_vk (gTT) (Stab0) G _ M124 IM124 c127 _ _ PtM124 fun x129 M128 IM128 GM128 hx129 kx129 PM128 => ?_)
            have FM128 := Fr.trans FM124 GM128 (rfl)
            rcases PM128 with ⟨QM128, ⟨PaM128, PbM128, PcM128, PtM128⟩ | ⟨PaM128, PnM128, PfM128, PgM128⟩⟩
            · skip
              refine PW.jz_ne q_193_88 rfl (fun h130 => ?_) (fun h130 => False.elim (by omega))
              refine PW.aload_n q_193_98 rfl ?_
              refine PW.dup q_193_99 rfl ?_
              refine PW.gI q_193_100 (Or.inl t_ft_193_229) gF_40_19 kd_294 IM128.1 (by decide) fun x131 fx131 hx131 kx131 => ?_
              have ix131 := o_i_of fx131
              clear hx131 kx131
              refine PW.cI q_193_103 (by decide) fun c132 hc132 => ?_
              refine PW.addX q_193_104 fun x133 hx133 => ?_
              refine PW.pI q_193_105 (Or.inl t_ft_193_229) gF_40_19 gP_40_19 kd_294 Stab0 IM128 (by decide) rfl (n_lo _) (n_hi _) fun M134 IM134 fM134 UM134 => ?_
              have FM134 := Fr.pu FM128 UM134.1 kd_294 (rfl : List.contains [40, 42, 43, 45] 40 = true)
              refine PW.goto q_193_108 rfl ?_
              have l5 := k_line_5 y A i
              have gg := (k_line_g PbM124).on hg
              have g1 := (k_line_g PbM124).1
              have g2 := k_ps_on (x := y) (i := (k_line y A i).2.2.2) (by omega)
              refine PW.lvS (lk1 rfl (lk1 rfl lk0)) (ih_L193_68_23 (n - 1) ?_ M134  IM134 FM134 ⟨_, _, (PtM128.U UM134 rfl), (k_rp.ln (PqM124.cg (QM128.i 19 rfl) (QM128.i 20 rfl) (fun z hz => (congrArg (fun e => o_a e z) (Fr.at GM128 kd_297 (by decide)))) (fun z hz => (congrArg (fun e => o_l e z) (Fr.at GM128 kd_299 (by decide))))) UM134 (by have w := (o_i_of fM134); have w2 := ((PqM124.cg (QM128.i 19 rfl) (QM128.i 20 rfl) (fun z hz => (congrArg (fun e => o_a e z) (Fr.at GM128 kd_297 (by decide)))) (fun z hz => (congrArg (fun e => o_l e z) (Fr.at GM128 kd_299 (by decide)))))).2.2.2.2.2.1; omega)), by rw [E, show n = (n - 1) + 1 from by omega]; exact k_ls_s (by omega) PbM124 PbM128 (by omega), by omega, by omega, by omega, by omega, by show (k_line y A i).2.2.1.1 5 + 1 + ((n - 1 : Nat) : Int) = 901; omega⟩ (((UM134.i (c := 294) (k := 2) (Or.inr (by decide))).trans ((QM128.i 2 rfl).trans (QM124.i 2 rfl))).trans ln2) (((UM134.1 _ (g_ne kd_296 kd_294 (by decide))).trans ((Fr.at GM128 kd_296 (by decide)).trans (Fr.at GM124 kd_296 (by decide)))).trans hbL193_68_232) (((d299.tr TM124).cg (Fr.at GM128 kd_299 rfl)).cg (UM134.1 299 (by decide))))
              omega
            · skip
              refine PW.jz_ne q_193_88 rfl (fun h135 => False.elim (by omega)) (fun h135 => ?_)
              refine PW.cI q_193_91 (by decide) fun c136 hc136 => ?_
              refine PW.aload_n q_193_92 rfl ?_
              refine PW.gI q_193_93 (Or.inl t_ft_193_164) gF_40_16 kd_294 IM128.1 (by decide) fun x137 fx137 hx137 kx137 => ?_
              have ix137 := o_i_of fx137
              clear hx137 kx137
              refine PW.subN q_193_96 (by have := n_lo x137; have := n_hi x137; omega) (by have := n_lo x137; have := n_hi x137; omega) fun x138 hx138 => ?_
              refine PW.rI q_193_97 rfl (by decide) (by decide) ?_
              exact hK x138 M128 IM128 FM128 ⟨by unfold k_beach; rw [E, k_ls_g (by omega) PbM124 (by omega) (fun q => PnM128 ⟨q.1, q.2.trans (by omega)⟩), if_neg (show ¬ (1 : Int) = 0 by decide)]; show _ = -1 - kP y (k_line y A i).2.2.2; omega, (((QM128.i 2 rfl).trans (QM124.i 2 rfl)).trans ln2), Or.inl ⟨by rw [E, k_ls_g (by omega) PbM124 (by omega) (fun q => PnM128 ⟨q.1, q.2.trans (by omega)⟩)]; exact (by decide : ¬ (1 : Int) = 0), (((Fr.at GM128 kd_296 (by decide)).trans (Fr.at GM124 kd_296 (by decide))).trans d296)⟩, Or.inl ⟨by rw [E, k_ls_g (by omega) PbM124 (by omega) (fun q => PnM128 ⟨q.1, q.2.trans (by omega)⟩)]; exact (by decide : ¬ (1 : Int) = 0), ((d299.tr TM124).cg (Fr.at GM128 kd_299 rfl))⟩, by rw [E, k_ls_g (by omega) PbM124 (by omega) (fun q => PnM128 ⟨q.1, q.2.trans (by omega)⟩)]; exact PfM128⟩
          · skip
            refine PW.jz_eq q_193_79 rfl (fun h139 => ?_) (fun h139 => False.elim (by omega))
            refine PW.cI q_193_91 (by decide) fun c140 hc140 => ?_
            refine PW.aload_n q_193_92 rfl ?_
            refine PW.gI q_193_93 (Or.inl t_ft_193_164) gF_40_16 kd_294 IM124.1 (by decide) fun x141 fx141 hx141 kx141 => ?_
            have ix141 := o_i_of fx141
            clear hx141 kx141
            refine PW.subN q_193_96 (by have := n_lo x141; have := n_hi x141; omega) (by have := n_lo x141; have := n_hi x141; omega) fun x142 hx142 => ?_
            refine PW.rI q_193_97 rfl (by decide) (by decide) ?_
            exact hK x142 M124 IM124 FM124 ⟨by unfold k_beach; rw [E, k_ls_f (by omega) PbM124 (by omega), if_neg PbM124]; omega, ((QM124.i 2 rfl).trans ln2), Or.inl ⟨by rw [E, k_ls_f (by omega) PbM124 (by omega)]; exact PbM124, ((Fr.at GM124 kd_296 (by decide)).trans d296)⟩, Or.inl ⟨by rw [E, k_ls_f (by omega) PbM124 (by omega)]; exact PbM124, (d299.tr TM124)⟩, by rw [E, k_ls_f (by omega) PbM124 (by omega)]; exact PfM124⟩
      exact PW.lvS (lk1 rfl (lk1 rfl lk0)) (L193_68_23 901 M22  IM22 FM22 ⟨k_A0, 0, PtM22, k_rp0 (fun z h1 h2 h3 => by rw [((congrArg (fun e => o_a e z) (Fr.at GM22 kd_297 (by decide))).trans ((UM21.2 z (by omega)).trans (UM18.2 z (by omega))))]; exact hbL193_29_125 z (by omega)) (by have f := fM18; rw [show c16.toInt.toNat = 2 from by omega] at f; rw [((congrArg (fun e => o_a e 2) (Fr.at GM22 kd_297 (by decide))).trans (UM21.2 2 (by omega)))]; rw [f]; omega) (by have f := fM21; rw [show c19.toInt.toNat = 3 from by omega] at f; rw [(congrArg (fun e => o_a e 3) (Fr.at GM22 kd_297 (by decide)))]; rw [f]; omega) (((QM22.i 19 rfl).trans ((congrArg (fun e => o_i e 19) (UM21.1 294 (by decide))).trans (congrArg (fun e => o_i e 19) (UM18.1 294 (by decide))))).trans m19) (((QM22.i 20 rfl).trans ((congrArg (fun e => o_i e 20) (UM21.1 294 (by decide))).trans (congrArg (fun e => o_i e 20) (UM18.1 294 (by decide))))).trans m20), rfl, Nat.le_refl _, by omega, Nat.zero_le _, Nat.zero_le _, by show (0 : Int) + ((901 : Nat) : Int) = 901; omega⟩ (((QM22.i 2 rfl).trans ((congrArg (fun e => o_i e 2) (UM21.1 294 (by decide))).trans (congrArg (fun e => o_i e 2) (UM18.1 294 (by decide))))).trans m2) (((Fr.at GM22 kd_296 (by decide)).trans ((UM21.1 _ (g_ne kd_296 kd_297 (by decide))).trans (UM18.1 _ (g_ne kd_296 kd_297 (by decide))))).trans c296) (gNl.refl.cg (((Fr.at GM22 kd_299 (by decide)).trans ((UM21.1 _ (g_ne kd_299 kd_297 (by decide))).trans (UM18.1 _ (g_ne kd_299 kd_297 (by decide))))).trans c299)))
    · skip
      refine PW.aload_n q_193_35 rfl ?_
      refine PW.gR 297 q_193_36 (Or.inl t_ft_193_37) gF_40_7 kd_294 IML193_29_12.1 (by decide) rfl ?_
      refine PW.iload_n q_193_39 rfl ?_
      refine PW.cI q_193_40 (by decide) fun c143 hc143 => ?_
      refine PW.wI q_193_41 gA_43 kd_297 Stab0 IML193_29_12 (by decide) rfl gC_43_0_32 (by decide) (by omega) (by omega) (by omega) (by omega) fun M144 IM144 fM144 UM144 => ?_
      have FM144 := Fr.pu FML193_29_12 UM144.1 kd_297 (rfl : List.contains [40, 42, 43, 45] 43 = true)
      refine PW.incN q_193_42 rfl (by decide) (by decide) (by omega) (by omega) fun x145 hx145 => ?_
      refine PW.goto q_193_45 rfl ?_
      refine PW.lvS (lk1 rfl (lk1 rfl lk0)) (ih_L193_29_12 _ ?_ M144 x145 IM144 FM144 (by omega) (by omega) ((UM144.1 294 (by decide)).trans hbL193_29_122) ((UM144.1 295 (by decide)).trans hbL193_29_123) ((UM144.1 300 (by decide)).trans hbL193_29_124) (fun z hz => by by_cases q : z = v13.toInt.toNat; (· subst q; rw [fM144]; omega); (· rw [UM144.2 z q]; exact hbL193_29_125 z (by omega))) ((UM144.1 296 (by decide)).trans hbL193_29_126) ((UM144.1 299 (by decide)).trans hbL193_29_127) rfl)
      omega
  exact PW.lvS (lk1 rfl (lk1 rfl lk0)) (L193_29_12 _ M10 c11 IM10 FM10 (by omega) (by omega) rfl rfl rfl (fun z hz => by omega) b296 b299 rfl)
