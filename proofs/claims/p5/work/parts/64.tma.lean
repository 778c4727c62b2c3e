/-- length, head, fault stayed -/
def gLH (M1 M : pM) : Prop := gLq M1 M ∧ gHq M1 M
theorem gLH.refl {M : pM} : gLH M M := ⟨rfl, gHq.refl⟩
theorem gLH.tr {M M1 M2 : pM} (h : gLH M1 M) (k : gLH M2 M1) : gLH M2 M := ⟨(show o_i (M2 294) 2 = o_i (M1 294) 2 from k.1).trans h.1, h.2.tr k.2⟩
theorem gLH.cg {M M1 M2 : pM} (h : gLH M1 M) (e : M2 296 = M1 296) (e2 : M2 294 = M1 294) : gLH M2 M := ⟨by show o_i (M2 294) 2 = _; rw [e2]; exact h.1, h.2.cg e e2⟩
theorem gLH.pu {M M1 M2 : pM} {f : Nat} (h : gLH M1 M) (U : gU M1 M2 294 f) (hf : (15 : Nat) ≠ f) (h2 : (2 : Nat) ≠ f) : gLH M2 M := ⟨(U.i (c := 294) (k := 2) (Or.inr h2)).trans h.1, h.2.pu U hf⟩
theorem gLH.st {M M1 M2 : pM} {q : Nat} (h : gLH M1 M) (U : gVv M1 M2 296 q) (hq : 33 ≤ q) : gLH M2 M := ⟨by show o_i (M2 294) 2 = _; rw [U.1 294 (by decide)]; exact h.1, h.2.st U hq⟩
/-- between the LINES: the reference -/
def r_LI (x : k_X) (f : Nat → Int) (m : Int) (M : pM) : Prop := ∃ i : Nat, k_ra x M i ∧ l_lines x f m 41 0 0 = l_lines x f m (41 - o_i (M 294) 29).toNat (o_i (M 294) 29) i
set_option maxHeartbeats 10000000 in
theorem c_X12_log_vs (G : pG) (Kr : pK) (M : pM) (I : Iv gTT M) (a1 : Int32) (y : k_X) (f : Nat → Int) (m : Int) (hp_0 : k_rtp y M) (hp_1 : y.2.2 = 400) (hp_2 : y.2.1 ≤ 940) (hp_3 : r_nm M f m) (hK : ∀ (x : Int32) (M1 : pM), Iv gTT M1 → Fr [40, 42, 44, 47, 48, 50] M M1 → (((a1.toInt < 0 ∨ 1 < a1.toInt) ∧ o_i (M1 294) 15 = o_i (M 294) 15 ∧ o_i (M1 294) 2 = o_i (M 294) 2 ∧ gHs M1 M) ∨ (0 ≤ a1.toInt ∧ a1.toInt ≤ 1 ∧ o_i (M1 294) 15 = (l_lines y f m 41 0 0).1 ∧ o_i (M1 294) 2 = 0 ∧ gHs M1 M)) → Kr.1 (some (.int x)) 311 M1) : PW G false 7 259 (p_mc 259) (p_msl 259) Kr 0 (lv_args 0 [.ref 294, .int a1]) [] 311 M 0 0 := by
  have F : Fr [40, 42, 44, 47, 48, 50] M M := Fr.refl
  refine PW.aload_n q_259_0 rfl ?_
  refine PW.cI q_259_1 (by decide) fun c1 hc1 => ?_
  refine PW.pI q_259_2 (Or.inl t_ft_259_1) gF_40_0 gP_40_0 kd_294 Stab0 I (by decide) rfl (n_lo _) (n_hi _) fun M2 IM2 fM2 UM2 => ?_
  have FM2 := Fr.pu F UM2.1 kd_294 (rfl : List.contains [40, 42, 44, 47, 48, 50] 40 = true)
  have tr3 := UM2.i (c := 294) (k := 29) (Or.inr (by decide))
  have tr4 := UM2.i (c := 294) (k := 23) (Or.inr (by decide))
  refine PW.iload_n q_259_5 rfl ?_
  refine PW.cI q_259_6 (by decide) fun c5 hc5 => ?_
  refine PW.cI q_259_7 (by decide) fun c6 hc6 => ?_
  refine PW.callS (as := [_, _, _]) (rest := []) q_259_8 t_ms_259_176 (by decide) rfl (Nat.le_of_ble_eq_true rfl) (Nat.le_of_ble_eq_true rfl) (by decide) (by decide) ?_
  refine PW.iload_n q_166_0 rfl ?_
  refine PW.iload_n q_166_1 rfl ?_
  refine PW.jc_lt q_166_2 rfl (fun h7 => ?_) (fun h7 => ?_)
  · skip
    refine PW.cI q_166_14 (by decide) fun c8 hc8 => ?_
    refine PW.rZ q_166_15 rfl (by omega) (by omega) (by decide) (by decide) ?_
    refine PW.jz_ne q_259_11 rfl (fun h9 => False.elim (by omega)) (fun h9 => ?_)
    refine PW.cS q_259_14 (by decide) fun c10 hc10 => ?_
    refine PW.rI q_259_17 rfl (by decide) (by decide) ?_
    exact hK c10 M2 IM2 FM2 (Or.inl ⟨by omega, (UM2.i (c := 294) (k := 15) (Or.inr (by decide))), (UM2.i (c := 294) (k := 2) (Or.inr (by decide))), gHs.cg gHs.refl (UM2.1 _ (g_ne kd_296 kd_294 (by decide)))⟩)
  · skip
    refine PW.iload_n q_166_5 rfl ?_
    refine PW.iload_n q_166_6 rfl ?_
    refine PW.jc_gt q_166_7 rfl (fun h11 => ?_) (fun h11 => ?_)
    · skip
      refine PW.cI q_166_14 (by decide) fun c12 hc12 => ?_
      refine PW.rZ q_166_15 rfl (by omega) (by omega) (by decide) (by decide) ?_
      refine PW.jz_ne q_259_11 rfl (fun h13 => False.elim (by omega)) (fun h13 => ?_)
      refine PW.cS q_259_14 (by decide) fun c14 hc14 => ?_
      refine PW.rI q_259_17 rfl (by decide) (by decide) ?_
      exact hK c14 M2 IM2 FM2 (Or.inl ⟨by omega, (UM2.i (c := 294) (k := 15) (Or.inr (by decide))), (UM2.i (c := 294) (k := 2) (Or.inr (by decide))), gHs.cg gHs.refl (UM2.1 _ (g_ne kd_296 kd_294 (by decide)))⟩)
    · skip
      refine PW.cI q_166_10 (by decide) fun c15 hc15 => ?_
      refine PW.goto q_166_11 rfl ?_
      refine PW.rZ q_166_15 rfl (by omega) (by omega) (by decide) (by decide) ?_
      refine PW.jz_ne q_259_11 rfl (fun h16 => ?_) (fun h16 => False.elim (by omega))
      refine PW.aload_n q_259_18 rfl ?_
      refine PW.cS q_259_19 (by decide) fun c17 hc17 => ?_
      refine PW.cV (as := [_]) (rest := []) q_259_22 t_mv_259_226 kd_294 IM2.1 (by decide) rfl (by decide) rfl rfl (Nat.le_of_ble_eq_true rfl) (Nat.le_of_ble_eq_true rfl) (by decide) (by decide) ?_
      refine PW.up (by decide) (c_X12_taken_vk (gTT) (Stab0) G _ M2 IM2 c17 fun M18 IM18 GM18 PM18 => ?_)
      have FM18 := Fr.trans FM2 GM18 (rfl)
      rcases PM18 with ⟨QM18, ⟨PaM18, PbM18, PcM18, PdM18⟩⟩
      refine PW.aload_n q_259_25 rfl ?_
      refine PW.cI q_259_26 (by decide) fun c19 hc19 => ?_
      refine PW.pI q_259_27 (Or.inl t_ft_259_161) gF_40_15 gP_40_15 kd_294 Stab0 IM18 (by decide) rfl (n_lo _) (n_hi _) fun M20 IM20 fM20 UM20 => ?_
      have FM20 := Fr.pu FM18 UM20.1 kd_294 (rfl : List.contains [40, 42, 44, 47, 48, 50] 40 = true)
      have tr21 := UM20.i (c := 294) (k := 29) (Or.inr (by decide))
      have tr22 := UM20.i (c := 294) (k := 23) (Or.inr (by decide))
      refine PW.aload_n q_259_30 rfl ?_
      refine PW.cI q_259_31 (by decide) fun c23 hc23 => ?_
      refine PW.pT q_259_32 (Or.inl t_ft_259_369) gF_40_29 gP_40_29 kd_294 IM20 (by decide) rfl (by omega) (by omega) fun M24 IM24 fM24 UM24 => ?_
      have FM24 := Fr.pu FM20 UM24.1 kd_294 (rfl : List.contains [40, 42, 44, 47, 48, 50] 40 = true)
      have tr25 := o_i_of fM24
      have tr26 := UM24.i (c := 294) (k := 23) (Or.inr (by decide))
      have b2 : o_i (M24 294) 2 = 0 := ((UM24.i (c := 294) (k := 2) (Or.inr (by decide))).trans (UM20.i (c := 294) (k := 2) (Or.inr (by decide)))).trans PaM18
      have b3 : o_i (M24 294) 3 = y.2.1 := (((UM24.i (c := 294) (k := 3) (Or.inr (by decide))).trans (UM20.i (c := 294) (k := 3) (Or.inr (by decide)))).trans PbM18).trans (((UM2.i (c := 294) (k := 2) (Or.inr (by decide)))).trans hp_0.1)
      have b4 : o_i (M24 294) 4 = 0 := ((UM24.i (c := 294) (k := 4) (Or.inr (by decide))).trans (UM20.i (c := 294) (k := 4) (Or.inr (by decide)))).trans PcM18
      have b5 : o_i (M24 294) 5 = y.2.2 := by rw [((UM24.i (c := 294) (k := 5) (Or.inr (by decide))).trans (UM20.i (c := 294) (k := 5) (Or.inr (by decide)))), PdM18]; omega
      have b15 : o_i (M24 294) 15 = 0 := (by have w := (o_i_of ((UM24.f (Or.inr (by decide))).trans fM20)); omega)
      have b29 : o_i (M24 294) 29 = 0 := (by have w := (o_i_of fM24); omega)
      have RX : k_rx y M24 := ⟨b3, b5, fun i hi => by rw [((UM24.1 _ (g_ne kd_295 kd_294 (by decide))).trans ((UM20.1 _ (g_ne kd_295 kd_294 (by decide))).trans ((Fr.at GM18 kd_295 (by decide)).trans (UM2.1 _ (g_ne kd_295 kd_294 (by decide))))))]; exact hp_0.2.1 i hi, fun r hr => by rw [((UM24.1 _ (g_ne kd_300 kd_294 (by decide))).trans ((UM20.1 _ (g_ne kd_300 kd_294 (by decide))).trans ((Fr.at GM18 kd_300 (by decide)).trans (UM2.1 _ (g_ne kd_300 kd_294 (by decide))))))]; exact hp_0.2.2 r hr, b15⟩
      refine PW.aload_n q_259_35 rfl ?_
      refine PW.cV (as := []) (rest := []) q_259_36 t_mv_259_173 kd_294 IM24.1 (by decide) rfl (by decide) rfl rfl (Nat.le_of_ble_eq_true rfl) (Nat.le_of_ble_eq_true rfl) (by decide) (by decide) ?_
      refine PW.up (by decide) (c_X12_go_vk (gTT) (Stab0) G _ M24 IM24 y 0 ⟨RX, b4, Nat.zero_le _⟩ fun M27 IM27 GM27 PM27 => ?_)
      have FM27 := Fr.trans FM24 GM27 (rfl)
      rcases PM27 with ⟨QM27, PtM27⟩
      have tr28 := QM27.i 2 rfl
      have tr29 := QM27.i 29 rfl
      have tr30 := QM27.i 23 rfl
      have L259_39_31 : ∀ (n : Nat) (ML259_39_31 : pM), Iv (gTT) ML259_39_31 → Fr [40, 42, 44, 47, 48, 50] M ML259_39_31 → gLl ML259_39_31 (o_i (ML259_39_31 294) 29) → 0 ≤ o_i (ML259_39_31 294) 29 → o_i (ML259_39_31 294) 29 ≤ 40 → r_LI y f m ML259_39_31 → ML259_39_31 296 = M 296 → ML259_39_31 299 = M 299 → o_i (ML259_39_31 294) 2 = 0 → (40 - o_i (ML259_39_31 294) 29).toNat = n → PW G false 7 259 (p_mc 259) (p_msl 259) Kr 39 [(0, .ref 294), (1, .int a1)] [] 311 ML259_39_31 0 0 := by
        intro n
        induction n using Nat.strongRecOn with
        | ind n ih_L259_39_31 =>
        intro ML259_39_31  IML259_39_31 FML259_39_31 hbL259_39_310 hbL259_39_311 hbL259_39_312 hbL259_39_313 hbL259_39_314 hbL259_39_315 hbL259_39_316 hmL259_39_31
        refine PW.aload_n q_259_39 rfl ?_
        have GL := hbL259_39_310
        obtain ⟨i, T, E⟩ := hbL259_39_313
        have e296 := hbL259_39_314
        have e299 := hbL259_39_315
        have f2 := hbL259_39_316
        have w := k_rE T
        refine PW.gI q_259_40 (Or.inl t_ft_259_144) gF_40_11 kd_294 IML259_39_31.1 (by decide) fun x32 fx32 hx32 kx32 => ?_
        clear hx32 kx32
        have ixx32 := o_i_of fx32
        refine PW.jz_eq q_259_43 rfl (fun h33 => ?_) (fun h33 => ?_)
        · skip
          have kl : l_lines y f m 41 0 0 = (0, 0) := by rw [E, l_ls_end (by omega)]
          have z15 : o_i (ML259_39_31 294) 15 = 0 := T.1.2.2.2.2
          refine PW.aload_n q_259_83 rfl ?_
          refine PW.cV (as := []) (rest := []) q_259_84 t_mv_259_308 kd_294 IML259_39_31.1 (by decide) rfl (by decide) rfl rfl (Nat.le_of_ble_eq_true rfl) (Nat.le_of_ble_eq_true rfl) (by decide) (by decide) ?_
          refine PW.up (by decide) (c_X12_tries G _ ML259_39_31 IML259_39_31  fun M34 IM34 GM34 TM34 => ?_)
          have FM34 := Fr.trans FML259_39_31 GM34 (rfl)
          have tr35 : o_i (M34 294) 29 = o_i (ML259_39_31 294) 29 := by rw [Fr.at GM34 kd_294 (by decide)]
          have tr36 : o_i (M34 294) 23 = o_i (ML259_39_31 294) 23 := by rw [Fr.at GM34 kd_294 (by decide)]
          refine PW.cI q_259_87 (by decide) fun c37 hc37 => ?_
          refine PW.istore_n q_259_88 (by decide) ?_
          have L259_89_38 : ∀ (n : Nat) (ML259_89_38 : pM) (v39 : Int32), Iv (gTT) ML259_89_38 → Fr [40, 42, 44, 47, 48, 50] M ML259_89_38 → 0 ≤ v39.toInt → v39.toInt ≤ 4 → gLl ML259_89_38 (o_i (ML259_89_38 294) 29) → gLH ML259_89_38 ML259_39_31 → (4 - v39.toInt).toNat = n → PW G false 7 259 (p_mc 259) (p_msl 259) Kr 89 [(0, .ref 294), (1, .int a1), (2, .int v39)] [] 311 ML259_89_38 0 0 := by
            intro n
            induction n using Nat.strongRecOn with
            | ind n ih_L259_89_38 =>
            intro ML259_89_38 v39 IML259_89_38 FML259_89_38 hbL259_89_380 hbL259_89_381 hbL259_89_382 hbL259_89_383 hmL259_89_38
            refine PW.iload_n q_259_89 rfl ?_
            refine PW.cI q_259_90 (by decide) fun c40 hc40 => ?_
            refine PW.jc_ge q_259_91 rfl (fun h41 => ?_) (fun h41 => ?_)
            · skip
              refine PW.aload_n q_259_107 rfl ?_
              refine PW.cV (as := []) (rest := []) q_259_108 t_mv_259_254 kd_294 IML259_89_38.1 (by decide) rfl (by decide) rfl rfl (Nat.le_of_ble_eq_true rfl) (Nat.le_of_ble_eq_true rfl) (by decide) (by decide) ?_
              refine PW.up (by decide) (c_X12_allTurns (gTT) (Stab0) G _ ML259_89_38 IML259_89_38  fun x43 M42 IM42 GM42 TM42 => ?_)
              have FM42 := Fr.trans FML259_89_38 GM42 (rfl)
              have tr44 : o_i (M42 294) 29 = o_i (ML259_89_38 294) 29 := by rw [Fr.at GM42 kd_294 (by decide)]
              have tr45 : o_i (M42 294) 23 = o_i (ML259_89_38 294) 23 := by rw [Fr.at GM42 kd_294 (by decide)]
              refine PW.istore_n q_259_111 (by decide) ?_
              refine PW.cI q_259_112 (by decide) fun c46 hc46 => ?_
              refine PW.istore_n q_259_113 (by decide) ?_
              refine PW.cI q_259_114 (by decide) fun c47 hc47 => ?_
              refine PW.istore q_259_115 (by decide) ?_
              have L259_117_48 : ∀ (n : Nat) (ML259_117_48 : pM) (v49 v50 : Int32), Iv (gTT) ML259_117_48 → Fr [40, 42, 44, 47, 48, 50] M ML259_117_48 → -1 ≤ v49.toInt → v49.toInt ≤ 40 → 0 ≤ v50.toInt → v50.toInt ≤ 40 → gLl ML259_117_48 (o_i (ML259_117_48 294) 29) → gLH ML259_117_48 ML259_39_31 → (40 - v50.toInt).toNat = n → PW G false 7 259 (p_mc 259) (p_msl 259) Kr 117 [(0, .ref 294), (1, .int a1), (2, .int x43), (3, .int v49), (4, .int v50)] [] 311 ML259_117_48 0 0 := by
                intro n
                induction n using Nat.strongRecOn with
                | ind n ih_L259_117_48 =>
                intro ML259_117_48 v49 v50 IML259_117_48 FML259_117_48 hbL259_117_480 hbL259_117_481 hbL259_117_482 hbL259_117_483 hbL259_117_484 hbL259_117_485 hmL259_117_48
                refine PW.iload q_259_117 rfl ?_
                refine PW.aload_n q_259_119 rfl ?_
                refine PW.gI q_259_120 (Or.inl t_ft_259_369) gF_40_29 kd_294 IML259_117_48.1 (by decide) fun x51 fx51 hx51 kx51 => ?_
                have trx51 := o_i_of fx51
                refine PW.jc_ge q_259_123 rfl (fun h52 => ?_) (fun h52 => ?_)
                · skip
                  refine PW.aload_n q_259_191 rfl ?_
                  refine PW.gR 304 q_259_192 (Or.inl t_ft_259_59) gF_40_30 kd_294 IML259_117_48.1 (by decide) rfl ?_
                  refine PW.cI q_259_195 (by decide) fun c53 hc53 => ?_
                  refine PW.aload_n q_259_196 rfl ?_
                  refine PW.gR 296 q_259_197 (Or.inl t_ft_259_33) gF_40_6 kd_294 IML259_117_48.1 (by decide) rfl ?_
                  refine PW.cB q_259_200 (by decide) fun c54 hc54 => ?_
                  refine PW.aI q_259_202 gA_42 kd_296 IML259_117_48.1 (by decide) gB_42_33_33 (by decide) (by omega) (by omega) fun x55 fx55 hx55 kx55 => ?_
                  refine PW.wI q_259_203 gA_50 kd_304 Stab0 IML259_117_48 (by decide) rfl gC_50_2_2 (by decide) (by omega) (by omega) (n_lo _) (n_hi _) fun M56 IM56 fM56 UM56 => ?_
                  have FM56 := Fr.pu FML259_117_48 UM56.1 kd_304 (rfl : List.contains [40, 42, 44, 47, 48, 50] 50 = true)
                  have tr57 : o_i (M56 294) 29 = o_i (ML259_117_48 294) 29 := by rw [UM56.1 294 (g_ne kd_294 kd_304 (by decide))]
                  have tr58 : o_i (M56 294) 23 = o_i (ML259_117_48 294) 23 := by rw [UM56.1 294 (g_ne kd_294 kd_304 (by decide))]
                  refine PW.aload_n q_259_204 rfl ?_
                  refine PW.gR 304 q_259_205 (Or.inl t_ft_259_59) gF_40_30 kd_294 IM56.1 (by decide) rfl ?_
                  refine PW.cI q_259_208 (by decide) fun c59 hc59 => ?_
                  refine PW.aload_n q_259_209 rfl ?_
                  refine PW.cV (as := []) (rest := [_, _]) q_259_210 t_mv_259_254 kd_294 IM56.1 (by decide) rfl (by decide) rfl rfl (Nat.le_of_ble_eq_true rfl) (Nat.le_of_ble_eq_true rfl) (by decide) (by decide) ?_
                  refine PW.up (by decide) (c_X12_allTurns (gTT) (Stab0) G _ M56 IM56  fun x61 M60 IM60 GM60 TM60 => ?_)
                  have FM60 := Fr.trans FM56 GM60 (rfl)
                  have tr62 : o_i (M60 294) 29 = o_i (M56 294) 29 := by rw [Fr.at GM60 kd_294 (by decide)]
                  have tr63 : o_i (M60 294) 23 = o_i (M56 294) 23 := by rw [Fr.at GM60 kd_294 (by decide)]
                  refine PW.iload_n q_259_213 rfl ?_
                  refine PW.subH q_259_214 fun x64 => ?_
                  refine PW.wI q_259_215 gA_50 kd_304 Stab0 IM60 (by decide) rfl gC_50_3_3 (by decide) (by omega) (by omega) (n_lo _) (n_hi _) fun M65 IM65 fM65 UM65 => ?_
                  have FM65 := Fr.pu FM60 UM65.1 kd_304 (rfl : List.contains [40, 42, 44, 47, 48, 50] 50 = true)
                  have tr66 : o_i (M65 294) 29 = o_i (M60 294) 29 := by rw [UM65.1 294 (g_ne kd_294 kd_304 (by decide))]
                  have tr67 : o_i (M65 294) 23 = o_i (M60 294) 23 := by rw [UM65.1 294 (g_ne kd_294 kd_304 (by decide))]
                  refine PW.aload_n q_259_216 rfl ?_
                  refine PW.cI q_259_217 (by decide) fun c68 hc68 => ?_
                  refine PW.pI q_259_218 (Or.inl t_ft_259_378) gF_40_31 gP_40_31 kd_294 Stab0 IM65 (by decide) rfl (by omega) (by omega) fun M69 IM69 fM69 UM69 => ?_
                  have FM69 := Fr.pu FM65 UM69.1 kd_294 (rfl : List.contains [40, 42, 44, 47, 48, 50] 40 = true)
                  have tr70 := UM69.i (c := 294) (k := 29) (Or.inr (by decide))
                  have tr71 := UM69.i (c := 294) (k := 23) (Or.inr (by decide))
                  refine PW.iload_n q_259_221 rfl ?_
                  refine PW.cI q_259_222 (by decide) fun c72 hc72 => ?_
                  refine PW.jc_ne q_259_223 rfl (fun h73 => ?_) (fun h73 => ?_)
                  · skip
                    refine PW.iload_n q_259_281 rfl ?_
                    refine PW.jz_ne q_259_282 rfl (fun h74 => False.elim (by omega)) (fun h74 => ?_)
                    refine PW.aload_n q_259_285 rfl ?_
                    refine PW.cV (as := []) (rest := []) q_259_286 t_mv_259_311 kd_294 IM69.1 (by decide) rfl (by decide) rfl rfl (Nat.le_of_ble_eq_true rfl) (Nat.le_of_ble_eq_true rfl) (by decide) (by decide) ?_
                    refine PW.up (by decide) (c_X12_back G _ M69 IM69  fun M75 IM75 GM75 TM75 => ?_)
                    have FM75 := Fr.trans FM69 GM75 (rfl)
                    have tr76 : o_i (M75 294) 29 = o_i (M69 294) 29 := by rw [Fr.at GM75 kd_294 (by decide)]
                    have tr77 : o_i (M75 294) 23 = o_i (M69 294) 23 := by rw [Fr.at GM75 kd_294 (by decide)]
                    refine PW.iload_n q_259_289 rfl ?_
                    refine PW.rI q_259_290 rfl (by decide) (by decide) ?_
                    have R := (((((hbL259_117_485.cg (UM56.1 296 (by decide)) (UM56.1 294 (by decide))).cg (Fr.at GM60 kd_296 rfl) (Fr.at GM60 kd_294 rfl)).cg (UM65.1 296 (by decide)) (UM65.1 294 (by decide))).pu UM69 (by decide) (by decide)).tr TM75)
                    exact hK v49 M75 IM75 FM75 (Or.inr ⟨by omega, by omega, by rw [kl]; exact R.2.2.trans z15, (show o_i (M75 294) 2 = o_i (ML259_39_31 294) 2 from R.1).trans f2, (gHs.cg gHs.refl e296).tr R.2.1⟩)
                  · skip
                    refine PW.aload_n q_259_226 rfl ?_
                    refine PW.gR 304 q_259_227 (Or.inl t_ft_259_59) gF_40_30 kd_294 IM69.1 (by decide) rfl ?_
                    refine PW.cI q_259_230 (by decide) fun c78 hc78 => ?_
                    refine PW.aH q_259_231 gA_50 kd_304 IM69.1 (by decide) (by omega) (by omega) fun x79 fx79 => ?_
                    refine PW.jz_le q_259_232 rfl (fun h80 => ?_) (fun h80 => ?_)
                    · skip
                      refine PW.iload_n q_259_281 rfl ?_
                      refine PW.jz_ne q_259_282 rfl (fun h81 => ?_) (fun h81 => False.elim (by omega))
                      refine PW.iload_n q_259_289 rfl ?_
                      refine PW.rI q_259_290 rfl (by decide) (by decide) ?_
                      have R := ((((hbL259_117_485.cg (UM56.1 296 (by decide)) (UM56.1 294 (by decide))).cg (Fr.at GM60 kd_296 rfl) (Fr.at GM60 kd_294 rfl)).cg (UM65.1 296 (by decide)) (UM65.1 294 (by decide))).pu UM69 (by decide) (by decide))
                      exact hK v49 M69 IM69 FM69 (Or.inr ⟨by omega, by omega, by rw [kl]; exact R.2.2.trans z15, (show o_i (M69 294) 2 = o_i (ML259_39_31 294) 2 from R.1).trans f2, (gHs.cg gHs.refl e296).tr R.2.1⟩)
                    · skip
                      refine PW.aload_n q_259_235 rfl ?_
                      refine PW.cV (as := []) (rest := []) q_259_236 t_mv_259_290 kd_294 IM69.1 (by decide) rfl (by decide) rfl rfl (Nat.le_of_ble_eq_true rfl) (Nat.le_of_ble_eq_true rfl) (by decide) (by decide) ?_
                      refine PW.up (by decide) (c_X12_keep G _ M69 IM69  fun M82 IM82 GM82 PM82 TM82 => ?_)
                      have FM82 := Fr.trans FM69 GM82 (rfl)
                      obtain ⟨u0, fu0, hu0, ku0⟩ := gF_40_23.int kd_294 IM82.1 (by decide)
                      have tu0 := o_i_of fu0
                      have X83 : Iv (gX 301) M82 := ⟨IM82.1, gX.of IM82.2⟩
                      refine PW.cI q_259_239 (by decide) fun c84 hc84 => ?_
                      refine PW.istore q_259_240 (by decide) ?_
                      have L259_242_85 : ∀ (n : Nat) (ML259_242_85 : pM) (v86 : Int32), Iv (gX 301) ML259_242_85 → Fr [40, 42, 44, 47, 48, 50] M ML259_242_85 → 0 ≤ v86.toInt → v86.toInt ≤ 183 → grw ML259_242_85 (u0.toInt - 1).toNat → gcp ML259_242_85 301 (183 * (u0.toInt - 1).toNat) 302 0 v86.toInt → o_i (ML259_242_85 294) 23 = u0.toInt → gLH ML259_242_85 ML259_39_31 → (183 - v86.toInt).toNat = n → PW G false 7 259 (p_mc 259) (p_msl 259) Kr 242 [(0, .ref 294), (1, .int a1), (2, .int x43), (3, .int v49), (4, .int v86)] [] 311 ML259_242_85 0 0 := by
                        intro n
                        induction n using Nat.strongRecOn with
                        | ind n ih_L259_242_85 =>
                        intro ML259_242_85 v86 IML259_242_85 FML259_242_85 hbL259_242_850 hbL259_242_851 hbL259_242_852 hbL259_242_853 hbL259_242_854 hbL259_242_855 hmL259_242_85
                        refine PW.iload q_259_242 rfl ?_
                        refine PW.cS q_259_244 (by decide) fun c87 hc87 => ?_
                        refine PW.jc_ge q_259_247 rfl (fun h88 => ?_) (fun h88 => ?_)
                        · skip
                          have X89 : Iv gTT ML259_242_85 := ⟨IML259_242_85.1, gX.e301 IML259_242_85.2 (grw.all hbL259_242_852 (gSt.to hbL259_242_853 (by omega) (g_st0.mpr (IML259_242_85.2.2.2.1 (by decide)))))⟩
                          refine PW.iload_n q_259_281 rfl ?_
                          refine PW.jz_ne q_259_282 rfl (fun h90 => ?_) (fun h90 => False.elim (by omega))
                          refine PW.iload_n q_259_289 rfl ?_
                          refine PW.rI q_259_290 rfl (by decide) (by decide) ?_
                          have R := hbL259_242_855
                          exact hK v49 ML259_242_85 X89 FML259_242_85 (Or.inr ⟨by omega, by omega, by rw [kl]; exact R.2.2.trans z15, (show o_i (ML259_242_85 294) 2 = o_i (ML259_39_31 294) 2 from R.1).trans f2, (gHs.cg gHs.refl e296).tr R.2.1⟩)
                        · skip
                          refine PW.aload_n q_259_250 rfl ?_
                          refine PW.gR 301 q_259_251 (Or.inl t_ft_259_50) gF_40_21 kd_294 IML259_242_85.1 (by decide) rfl ?_
                          refine PW.cS q_259_254 (by decide) fun c91 hc91 => ?_
                          refine PW.aload_n q_259_257 rfl ?_
                          refine PW.gI q_259_258 (Or.inl t_ft_259_238) gF_40_23 kd_294 IML259_242_85.1 (by decide) fun x92 fx92 hx92 kx92 => ?_
                          have trx92 := o_i_of fx92
                          refine PW.cI q_259_261 (by decide) fun c93 hc93 => ?_
                          refine PW.subN q_259_262 (by omega) (by omega) fun x94 hx94 => ?_
                          refine PW.mulN q_259_263 (183) (by omega) x94 (fun h => n_eq.mpr (by omega)) (fun h => n_eq.mpr (by omega)) (by omega) (by omega) fun x95 hx95 => ?_
                          refine PW.iload q_259_264 rfl ?_
                          refine PW.addN q_259_266 (by omega) (by omega) fun x96 hx96 => ?_
                          refine PW.aload_n q_259_267 rfl ?_
                          refine PW.gR 302 q_259_268 (Or.inl t_ft_259_53) gF_40_22 kd_294 IML259_242_85.1 (by decide) rfl ?_
                          refine PW.iload q_259_271 rfl ?_
                          refine PW.aH q_259_273 gA_48 kd_302 IML259_242_85.1 (by decide) (by omega) (by omega) fun x97 fx97 => ?_
                          -- index (-183, 1463) of 1464 at X12_log 274
                          have bsM98 := (InvB.arr IML259_242_85.1 kd_302 (by decide) gA_48).2.2 v86.toInt.toNat (by omega)
                          rw [fx97] at bsM98
                          refine PW.wB q_259_274 gA_47 kd_301 IML259_242_85.1 (by decide) (by omega) (by omega) (by rw [as4748 (j := v86.toInt.toNat) (u0.toInt - 1).toNat v86.toInt.toNat (by omega) (by omega) (by omega)]; exact bsM98) fun M98 JM98 fM98 UM98 => ?_
                          have IM98 : Iv (gX 301) M98 := ⟨JM98, gX.up IML259_242_85.2 UM98.1 (by decide)⟩
                          have FM98 := Fr.pu FML259_242_85 UM98.1 kd_301 (rfl : List.contains [40, 42, 44, 47, 48, 50] 47 = true)
                          have tr99 : o_i (M98 294) 29 = o_i (ML259_242_85 294) 29 := by rw [UM98.1 294 (g_ne kd_294 kd_301 (by decide))]
                          have tr100 : o_i (M98 294) 23 = o_i (ML259_242_85 294) 23 := by rw [UM98.1 294 (g_ne kd_294 kd_301 (by decide))]
                          refine PW.incN q_259_275 rfl (by decide) (by decide) (by omega) (by omega) fun x101 hx101 => ?_
                          refine PW.goto q_259_278 rfl ?_
                          refine PW.lvS (lk1 rfl (lk1 rfl (lk1 rfl (lk1 rfl (lk1 rfl lk0))))) (ih_L259_242_85 _ ?_ M98 x101 IM98 FM98 (by omega) (by omega) (grw.step v86.toInt.toNat hbL259_242_852 UM98 (by omega) (by omega)) (gcp.step hbL259_242_853 UM98 (by omega) (by decide) fM98 (by omega) fx97 (by omega) (by omega)) (by omega) (hbL259_242_855.cg (UM98.1 296 (by decide)) (UM98.1 294 (by decide))) rfl)
                          omega
                      exact PW.lvS (lk1 rfl (lk1 rfl (lk1 rfl (lk1 rfl (lk1 rfl lk0))))) (L259_242_85 _ M82 c84 X83 FM82 (by omega) (by omega) (grw.of IM82.2) (gcp.zero (by omega)) (by omega) (((((hbL259_117_485.cg (UM56.1 296 (by decide)) (UM56.1 294 (by decide))).cg (Fr.at GM60 kd_296 rfl) (Fr.at GM60 kd_294 rfl)).cg (UM65.1 296 (by decide)) (UM65.1 294 (by decide))).pu UM69 (by decide) (by decide)).tr TM82) rfl)
                · skip
                  refine PW.iload_n q_259_126 rfl ?_
                  refine PW.jz_ge q_259_127 rfl (fun h102 => ?_) (fun h102 => ?_)
                  · skip
                    refine PW.aload_n q_259_191 rfl ?_
                    refine PW.gR 304 q_259_192 (Or.inl t_ft_259_59) gF_40_30 kd_294 IML259_117_48.1 (by decide) rfl ?_
                    refine PW.cI q_259_195 (by decide) fun c103 hc103 => ?_
                    refine PW.aload_n q_259_196 rfl ?_
                    refine PW.gR 296 q_259_197 (Or.inl t_ft_259_33) gF_40_6 kd_294 IML259_117_48.1 (by decide) rfl ?_
                    refine PW.cB q_259_200 (by decide) fun c104 hc104 => ?_
                    refine PW.aI q_259_202 gA_42 kd_296 IML259_117_48.1 (by decide) gB_42_33_33 (by decide) (by omega) (by omega) fun x105 fx105 hx105 kx105 => ?_
                    refine PW.wI q_259_203 gA_50 kd_304 Stab0 IML259_117_48 (by decide) rfl gC_50_2_2 (by decide) (by omega) (by omega) (n_lo _) (n_hi _) fun M106 IM106 fM106 UM106 => ?_
                    have FM106 := Fr.pu FML259_117_48 UM106.1 kd_304 (rfl : List.contains [40, 42, 44, 47, 48, 50] 50 = true)
                    have tr107 : o_i (M106 294) 29 = o_i (ML259_117_48 294) 29 := by rw [UM106.1 294 (g_ne kd_294 kd_304 (by decide))]
                    have tr108 : o_i (M106 294) 23 = o_i (ML259_117_48 294) 23 := by rw [UM106.1 294 (g_ne kd_294 kd_304 (by decide))]
                    refine PW.aload_n q_259_204 rfl ?_
                    refine PW.gR 304 q_259_205 (Or.inl t_ft_259_59) gF_40_30 kd_294 IM106.1 (by decide) rfl ?_
                    refine PW.cI q_259_208 (by decide) fun c109 hc109 => ?_
                    refine PW.aload_n q_259_209 rfl ?_
                    refine PW.cV (as := []) (rest := [_, _]) q_259_210 t_mv_259_254 kd_294 IM106.1 (by decide) rfl (by decide) rfl rfl (Nat.le_of_ble_eq_true rfl) (Nat.le_of_ble_eq_true rfl) (by decide) (by decide) ?_
                    refine PW.up (by decide) (c_X12_allTurns (gTT) (Stab0) G _ M106 IM106  fun x111 M110 IM110 GM110 TM110 => ?_)
                    have FM110 := Fr.trans FM106 GM110 (rfl)
                    have tr112 : o_i (M110 294) 29 = o_i (M106 294) 29 := by rw [Fr.at GM110 kd_294 (by decide)]
                    have tr113 : o_i (M110 294) 23 = o_i (M106 294) 23 := by rw [Fr.at GM110 kd_294 (by decide)]
                    refine PW.iload_n q_259_213 rfl ?_
                    refine PW.subH q_259_214 fun x114 => ?_
                    refine PW.wI q_259_215 gA_50 kd_304 Stab0 IM110 (by decide) rfl gC_50_3_3 (by decide) (by omega) (by omega) (n_lo _) (n_hi _) fun M115 IM115 fM115 UM115 => ?_
                    have FM115 := Fr.pu FM110 UM115.1 kd_304 (rfl : List.contains [40, 42, 44, 47, 48, 50] 50 = true)
                    have tr116 : o_i (M115 294) 29 = o_i (M110 294) 29 := by rw [UM115.1 294 (g_ne kd_294 kd_304 (by decide))]
                    have tr117 : o_i (M115 294) 23 = o_i (M110 294) 23 := by rw [UM115.1 294 (g_ne kd_294 kd_304 (by decide))]
                    refine PW.aload_n q_259_216 rfl ?_
                    refine PW.cI q_259_217 (by decide) fun c118 hc118 => ?_
                    refine PW.pI q_259_218 (Or.inl t_ft_259_378) gF_40_31 gP_40_31 kd_294 Stab0 IM115 (by decide) rfl (by omega) (by omega) fun M119 IM119 fM119 UM119 => ?_
                    have FM119 := Fr.pu FM115 UM119.1 kd_294 (rfl : List.contains [40, 42, 44, 47, 48, 50] 40 = true)
                    have tr120 := UM119.i (c := 294) (k := 29) (Or.inr (by decide))
                    have tr121 := UM119.i (c := 294) (k := 23) (Or.inr (by decide))
                    refine PW.iload_n q_259_221 rfl ?_
                    refine PW.cI q_259_222 (by decide) fun c122 hc122 => ?_
                    refine PW.jc_ne q_259_223 rfl (fun h123 => ?_) (fun h123 => ?_)
                    · skip
                      refine PW.iload_n q_259_281 rfl ?_
                      refine PW.jz_ne q_259_282 rfl (fun h124 => False.elim (by omega)) (fun h124 => ?_)
                      refine PW.aload_n q_259_285 rfl ?_
                      refine PW.cV (as := []) (rest := []) q_259_286 t_mv_259_311 kd_294 IM119.1 (by decide) rfl (by decide) rfl rfl (Nat.le_of_ble_eq_true rfl) (Nat.le_of_ble_eq_true rfl) (by decide) (by decide) ?_
                      refine PW.up (by decide) (c_X12_back G _ M119 IM119  fun M125 IM125 GM125 TM125 => ?_)
                      have FM125 := Fr.trans FM119 GM125 (rfl)
                      have tr126 : o_i (M125 294) 29 = o_i (M119 294) 29 := by rw [Fr.at GM125 kd_294 (by decide)]
                      have tr127 : o_i (M125 294) 23 = o_i (M119 294) 23 := by rw [Fr.at GM125 kd_294 (by decide)]
                      refine PW.iload_n q_259_289 rfl ?_
                      refine PW.rI q_259_290 rfl (by decide) (by decide) ?_
                      have R := (((((hbL259_117_485.cg (UM106.1 296 (by decide)) (UM106.1 294 (by decide))).cg (Fr.at GM110 kd_296 rfl) (Fr.at GM110 kd_294 rfl)).cg (UM115.1 296 (by decide)) (UM115.1 294 (by decide))).pu UM119 (by decide) (by decide)).tr TM125)
                      exact hK v49 M125 IM125 FM125 (Or.inr ⟨by omega, by omega, by rw [kl]; exact R.2.2.trans z15, (show o_i (M125 294) 2 = o_i (ML259_39_31 294) 2 from R.1).trans f2, (gHs.cg gHs.refl e296).tr R.2.1⟩)
                    · skip
                      refine PW.aload_n q_259_226 rfl ?_
                      refine PW.gR 304 q_259_227 (Or.inl t_ft_259_59) gF_40_30 kd_294 IM119.1 (by decide) rfl ?_
                      refine PW.cI q_259_230 (by decide) fun c128 hc128 => ?_
                      refine PW.aH q_259_231 gA_50 kd_304 IM119.1 (by decide) (by omega) (by omega) fun x129 fx129 => ?_
                      refine PW.jz_le q_259_232 rfl (fun h130 => ?_) (fun h130 => ?_)
                      · skip
                        refine PW.iload_n q_259_281 rfl ?_
                        refine PW.jz_ne q_259_282 rfl (fun h131 => ?_) (fun h131 => False.elim (by omega))
                        refine PW.iload_n q_259_289 rfl ?_
                        refine PW.rI q_259_290 rfl (by decide) (by decide) ?_
                        have R := ((((hbL259_117_485.cg (UM106.1 296 (by decide)) (UM106.1 294 (by decide))).cg (Fr.at GM110 kd_296 rfl) (Fr.at GM110 kd_294 rfl)).cg (UM115.1 296 (by decide)) (UM115.1 294 (by decide))).pu UM119 (by decide) (by decide))
                        exact hK v49 M119 IM119 FM119 (Or.inr ⟨by omega, by omega, by rw [kl]; exact R.2.2.trans z15, (show o_i (M119 294) 2 = o_i (ML259_39_31 294) 2 from R.1).trans f2, (gHs.cg gHs.refl e296).tr R.2.1⟩)
                      · skip
                        refine PW.aload_n q_259_235 rfl ?_
                        refine PW.cV (as := []) (rest := []) q_259_236 t_mv_259_290 kd_294 IM119.1 (by decide) rfl (by decide) rfl rfl (Nat.le_of_ble_eq_true rfl) (Nat.le_of_ble_eq_true rfl) (by decide) (by decide) ?_
                        refine PW.up (by decide) (c_X12_keep G _ M119 IM119  fun M132 IM132 GM132 PM132 TM132 => ?_)
                        have FM132 := Fr.trans FM119 GM132 (rfl)
                        obtain ⟨u0, fu0, hu0, ku0⟩ := gF_40_23.int kd_294 IM132.1 (by decide)
                        have tu0 := o_i_of fu0
                        have X133 : Iv (gX 301) M132 := ⟨IM132.1, gX.of IM132.2⟩
                        refine PW.cI q_259_239 (by decide) fun c134 hc134 => ?_
                        refine PW.istore q_259_240 (by decide) ?_
                        have L259_242_135 : ∀ (n : Nat) (ML259_242_135 : pM) (v136 : Int32), Iv (gX 301) ML259_242_135 → Fr [40, 42, 44, 47, 48, 50] M ML259_242_135 → 0 ≤ v136.toInt → v136.toInt ≤ 183 → grw ML259_242_135 (u0.toInt - 1).toNat → gcp ML259_242_135 301 (183 * (u0.toInt - 1).toNat) 302 0 v136.toInt → o_i (ML259_242_135 294) 23 = u0.toInt → gLH ML259_242_135 ML259_39_31 → (183 - v136.toInt).toNat = n → PW G false 7 259 (p_mc 259) (p_msl 259) Kr 242 [(0, .ref 294), (1, .int a1), (2, .int x43), (3, .int v49), (4, .int v136)] [] 311 ML259_242_135 0 0 := by
                          intro n
                          induction n using Nat.strongRecOn with
                          | ind n ih_L259_242_135 =>
                          intro ML259_242_135 v136 IML259_242_135 FML259_242_135 hbL259_242_1350 hbL259_242_1351 hbL259_242_1352 hbL259_242_1353 hbL259_242_1354 hbL259_242_1355 hmL259_242_135
                          refine PW.iload q_259_242 rfl ?_
                          refine PW.cS q_259_244 (by decide) fun c137 hc137 => ?_
                          refine PW.jc_ge q_259_247 rfl (fun h138 => ?_) (fun h138 => ?_)
                          · skip
                            have X139 : Iv gTT ML259_242_135 := ⟨IML259_242_135.1, gX.e301 IML259_242_135.2 (grw.all hbL259_242_1352 (gSt.to hbL259_242_1353 (by omega) (g_st0.mpr (IML259_242_135.2.2.2.1 (by decide)))))⟩
                            refine PW.iload_n q_259_281 rfl ?_
                            refine PW.jz_ne q_259_282 rfl (fun h140 => ?_) (fun h140 => False.elim (by omega))
                            refine PW.iload_n q_259_289 rfl ?_
                            refine PW.rI q_259_290 rfl (by decide) (by decide) ?_
                            have R := hbL259_242_1355
                            exact hK v49 ML259_242_135 X139 FML259_242_135 (Or.inr ⟨by omega, by omega, by rw [kl]; exact R.2.2.trans z15, (show o_i (ML259_242_135 294) 2 = o_i (ML259_39_31 294) 2 from R.1).trans f2, (gHs.cg gHs.refl e296).tr R.2.1⟩)
                          · skip
                            refine PW.aload_n q_259_250 rfl ?_
                            refine PW.gR 301 q_259_251 (Or.inl t_ft_259_50) gF_40_21 kd_294 IML259_242_135.1 (by decide) rfl ?_
                            refine PW.cS q_259_254 (by decide) fun c141 hc141 => ?_
                            refine PW.aload_n q_259_257 rfl ?_
                            refine PW.gI q_259_258 (Or.inl t_ft_259_238) gF_40_23 kd_294 IML259_242_135.1 (by decide) fun x142 fx142 hx142 kx142 => ?_
                            have trx142 := o_i_of fx142
                            refine PW.cI q_259_261 (by decide) fun c143 hc143 => ?_
                            refine PW.subN q_259_262 (by omega) (by omega) fun x144 hx144 => ?_
                            refine PW.mulN q_259_263 (183) (by omega) x144 (fun h => n_eq.mpr (by omega)) (fun h => n_eq.mpr (by omega)) (by omega) (by omega) fun x145 hx145 => ?_
                            refine PW.iload q_259_264 rfl ?_
                            refine PW.addN q_259_266 (by omega) (by omega) fun x146 hx146 => ?_
                            refine PW.aload_n q_259_267 rfl ?_
                            refine PW.gR 302 q_259_268 (Or.inl t_ft_259_53) gF_40_22 kd_294 IML259_242_135.1 (by decide) rfl ?_
                            refine PW.iload q_259_271 rfl ?_
                            refine PW.aH q_259_273 gA_48 kd_302 IML259_242_135.1 (by decide) (by omega) (by omega) fun x147 fx147 => ?_
                            -- index (-183, 1463) of 1464 at X12_log 274
                            have bsM148 := (InvB.arr IML259_242_135.1 kd_302 (by decide) gA_48).2.2 v136.toInt.toNat (by omega)
                            rw [fx147] at bsM148
                            refine PW.wB q_259_274 gA_47 kd_301 IML259_242_135.1 (by decide) (by omega) (by omega) (by rw [as4748 (j := v136.toInt.toNat) (u0.toInt - 1).toNat v136.toInt.toNat (by omega) (by omega) (by omega)]; exact bsM148) fun M148 JM148 fM148 UM148 => ?_
                            have IM148 : Iv (gX 301) M148 := ⟨JM148, gX.up IML259_242_135.2 UM148.1 (by decide)⟩
                            have FM148 := Fr.pu FML259_242_135 UM148.1 kd_301 (rfl : List.contains [40, 42, 44, 47, 48, 50] 47 = true)
                            have tr149 : o_i (M148 294) 29 = o_i (ML259_242_135 294) 29 := by rw [UM148.1 294 (g_ne kd_294 kd_301 (by decide))]
                            have tr150 : o_i (M148 294) 23 = o_i (ML259_242_135 294) 23 := by rw [UM148.1 294 (g_ne kd_294 kd_301 (by decide))]
                            refine PW.incN q_259_275 rfl (by decide) (by decide) (by omega) (by omega) fun x151 hx151 => ?_
                            refine PW.goto q_259_278 rfl ?_
                            refine PW.lvS (lk1 rfl (lk1 rfl (lk1 rfl (lk1 rfl (lk1 rfl lk0))))) (ih_L259_242_135 _ ?_ M148 x151 IM148 FM148 (by omega) (by omega) (grw.step v136.toInt.toNat hbL259_242_1352 UM148 (by omega) (by omega)) (gcp.step hbL259_242_1353 UM148 (by omega) (by decide) fM148 (by omega) fx147 (by omega) (by omega)) (by omega) (hbL259_242_1355.cg (UM148.1 296 (by decide)) (UM148.1 294 (by decide))) rfl)
                            omega
                        exact PW.lvS (lk1 rfl (lk1 rfl (lk1 rfl (lk1 rfl (lk1 rfl lk0))))) (L259_242_135 _ M132 c134 X133 FM132 (by omega) (by omega) (grw.of IM132.2) (gcp.zero (by omega)) (by omega) (((((hbL259_117_485.cg (UM106.1 296 (by decide)) (UM106.1 294 (by decide))).cg (Fr.at GM110 kd_296 rfl) (Fr.at GM110 kd_294 rfl)).cg (UM115.1 296 (by decide)) (UM115.1 294 (by decide))).pu UM119 (by decide) (by decide)).tr TM132) rfl)
                  · skip
                    refine PW.aload_n q_259_130 rfl ?_
                    refine PW.gR 304 q_259_131 (Or.inl t_ft_259_59) gF_40_30 kd_294 IML259_117_48.1 (by decide) rfl ?_
                    refine PW.cI q_259_134 (by decide) fun c152 hc152 => ?_
                    refine PW.aload_n q_259_135 rfl ?_
                    refine PW.aload_n q_259_136 rfl ?_
                    refine PW.gR 298 q_259_137 (Or.inl t_ft_259_40) gF_40_8 kd_294 IML259_117_48.1 (by decide) rfl ?_
                    refine PW.cI q_259_140 (by decide) fun c153 hc153 => ?_
                    refine PW.iload q_259_141 rfl ?_
                    refine PW.mulN q_259_143 (2) (by omega) v50 (fun h => n_eq.mpr (by omega)) (fun h => n_eq.mpr (by omega)) (by omega) (by omega) fun x154 hx154 => ?_
                    refine PW.aH q_259_144 gA_44 kd_298 IML259_117_48.1 (by decide) (by omega) (by omega) fun x155 fx155 => ?_
                    refine PW.aload_n q_259_145 rfl ?_
                    refine PW.gR 298 q_259_146 (Or.inl t_ft_259_40) gF_40_8 kd_294 IML259_117_48.1 (by decide) rfl ?_
                    refine PW.cI q_259_149 (by decide) fun c156 hc156 => ?_
                    refine PW.iload q_259_150 rfl ?_
                    refine PW.mulN q_259_152 (2) (by omega) v50 (fun h => n_eq.mpr (by omega)) (fun h => n_eq.mpr (by omega)) (by omega) (by omega) fun x157 hx157 => ?_
                    refine PW.cI q_259_153 (by decide) fun c158 hc158 => ?_
                    refine PW.addN q_259_154 (by omega) (by omega) fun x159 hx159 => ?_
                    refine PW.aH q_259_155 gA_44 kd_298 IML259_117_48.1 (by decide) (by omega) (by omega) fun x160 fx160 => ?_
                    refine PW.cV (as := [_, _]) (rest := [_, _]) q_259_156 t_mv_259_375 kd_294 IML259_117_48.1 (by decide) rfl (by decide) rfl rfl (Nat.le_of_ble_eq_true rfl) (Nat.le_of_ble_eq_true rfl) (by decide) (by decide) ?_
                    refine PW.up (by decide) (c_X12_does G _ ML259_117_48 IML259_117_48 x155 x160 (by have w := hbL259_117_484 v50.toInt.toNat (by omega); rw [show 2 * v50.toInt.toNat = x154.toInt.toNat from by omega, fx155, show x154.toInt.toNat + 1 = x159.toInt.toNat from by omega, fx160] at w; exact w) fun x162 M161 IM161 GM161 TM161 => ?_)
                    have FM161 := Fr.trans FML259_117_48 GM161 (rfl)
                    have tr163 : o_i (M161 294) 29 = o_i (ML259_117_48 294) 29 := by rw [Fr.at GM161 kd_294 (by decide)]
                    have tr164 : o_i (M161 294) 23 = o_i (ML259_117_48 294) 23 := by rw [Fr.at GM161 kd_294 (by decide)]
                    refine PW.wI q_259_159 gA_50 kd_304 Stab0 IM161 (by decide) rfl gC_50_0_0 (by decide) (by omega) (by omega) (n_lo _) (n_hi _) fun M165 IM165 fM165 UM165 => ?_
                    have FM165 := Fr.pu FM161 UM165.1 kd_304 (rfl : List.contains [40, 42, 44, 47, 48, 50] 50 = true)
                    have tr166 : o_i (M165 294) 29 = o_i (M161 294) 29 := by rw [UM165.1 294 (g_ne kd_294 kd_304 (by decide))]
                    have tr167 : o_i (M165 294) 23 = o_i (M161 294) 23 := by rw [UM165.1 294 (g_ne kd_294 kd_304 (by decide))]
                    refine PW.aload_n q_259_160 rfl ?_
                    refine PW.gR 304 q_259_161 (Or.inl t_ft_259_59) gF_40_30 kd_294 IM165.1 (by decide) rfl ?_
                    refine PW.cI q_259_164 (by decide) fun c168 hc168 => ?_
                    refine PW.aH q_259_165 gA_50 kd_304 IM165.1 (by decide) (by omega) (by omega) fun x169 fx169 => ?_
                    refine PW.jz_le q_259_166 rfl (fun h170 => ?_) (fun h170 => ?_)
                    · skip
                      refine PW.aload_n q_259_175 rfl ?_
                      refine PW.gR 304 q_259_176 (Or.inl t_ft_259_59) gF_40_30 kd_294 IM165.1 (by decide) rfl ?_
                      refine PW.cI q_259_179 (by decide) fun c171 hc171 => ?_
                      refine PW.dup2 q_259_180 rfl rfl ?_
                      refine PW.aH q_259_181 gA_50 kd_304 IM165.1 (by decide) (by omega) (by omega) fun x172 fx172 => ?_
                      refine PW.cI q_259_182 (by decide) fun c173 hc173 => ?_
                      refine PW.addH q_259_183 fun x174 => ?_
                      refine PW.wI q_259_184 gA_50 kd_304 Stab0 IM165 (by decide) rfl gC_50_1_1 (by decide) (by omega) (by omega) (n_lo _) (n_hi _) fun M175 IM175 fM175 UM175 => ?_
                      have FM175 := Fr.pu FM165 UM175.1 kd_304 (rfl : List.contains [40, 42, 44, 47, 48, 50] 50 = true)
                      have tr176 : o_i (M175 294) 29 = o_i (M165 294) 29 := by rw [UM175.1 294 (g_ne kd_294 kd_304 (by decide))]
                      have tr177 : o_i (M175 294) 23 = o_i (M165 294) 23 := by rw [UM175.1 294 (g_ne kd_294 kd_304 (by decide))]
                      refine PW.incN q_259_185 rfl (by decide) (by decide) (by omega) (by omega) fun x178 hx178 => ?_
                      refine PW.goto q_259_188 rfl ?_
                      refine PW.lvS (lk1 rfl (lk1 rfl (lk1 rfl (lk1 rfl (lk1 rfl lk0))))) (ih_L259_117_48 _ ?_ M175 v49 x178 IM175 FM175 (by omega) (by omega) (by omega) (by omega) (gLl.same hbL259_117_484 ((congrArg o_a (UM175.1 298 (by decide))).trans ((congrArg o_a (UM165.1 298 (by decide))).trans (congrArg o_a (Fr.at GM161 kd_298 rfl)))) (by omega)) (((hbL259_117_485.tr TM161).cg (UM165.1 296 (by decide)) (UM165.1 294 (by decide))).cg (UM175.1 296 (by decide)) (UM175.1 294 (by decide))) rfl)
                      omega
                    · skip
                      refine PW.iload q_259_169 rfl ?_
                      refine PW.istore_n q_259_171 (by decide) ?_
                      refine PW.goto q_259_172 rfl ?_
                      refine PW.incN q_259_185 rfl (by decide) (by decide) (by omega) (by omega) fun x179 hx179 => ?_
                      refine PW.goto q_259_188 rfl ?_
                      refine PW.lvS (lk1 rfl (lk1 rfl (lk1 rfl (lk1 rfl (lk1 rfl lk0))))) (ih_L259_117_48 _ ?_ M165 v50 x179 IM165 FM165 (by omega) (by omega) (by omega) (by omega) (gLl.same hbL259_117_484 ((congrArg o_a (UM165.1 298 (by decide))).trans (congrArg o_a (Fr.at GM161 kd_298 rfl))) (by omega)) ((hbL259_117_485.tr TM161).cg (UM165.1 296 (by decide)) (UM165.1 294 (by decide))) rfl)
                      omega
              exact PW.lvS (lk1 rfl (lk1 rfl (lk1 rfl (lk1 rfl (lk1 rfl lk0))))) (L259_117_48 _ M42 c46 c47 IM42 FM42 (by omega) (by omega) (by omega) (by omega) (gLl.same hbL259_89_382 (congrArg o_a (Fr.at GM42 kd_298 rfl)) (by omega)) (hbL259_89_383.cg (Fr.at GM42 kd_296 rfl) (Fr.at GM42 kd_294 rfl)) rfl)
            · skip
              refine PW.aload_n q_259_94 rfl ?_
              refine PW.gR 304 q_259_95 (Or.inl t_ft_259_59) gF_40_30 kd_294 IML259_89_38.1 (by decide) rfl ?_
              refine PW.iload_n q_259_98 rfl ?_
              refine PW.cI q_259_99 (by decide) fun c180 hc180 => ?_
              refine PW.wI q_259_100 gA_50 kd_304 Stab0 IML259_89_38 (by decide) rfl gC_50_0_3 (by decide) (by omega) (by omega) (n_lo _) (n_hi _) fun M181 IM181 fM181 UM181 => ?_
              have FM181 := Fr.pu FML259_89_38 UM181.1 kd_304 (rfl : List.contains [40, 42, 44, 47, 48, 50] 50 = true)
              have tr182 : o_i (M181 294) 29 = o_i (ML259_89_38 294) 29 := by rw [UM181.1 294 (g_ne kd_294 kd_304 (by decide))]
              have tr183 : o_i (M181 294) 23 = o_i (ML259_89_38 294) 23 := by rw [UM181.1 294 (g_ne kd_294 kd_304 (by decide))]
              refine PW.incN q_259_101 rfl (by decide) (by decide) (by omega) (by omega) fun x184 hx184 => ?_
              refine PW.goto q_259_104 rfl ?_
              refine PW.lvS (lk1 rfl (lk1 rfl (lk1 rfl lk0))) (ih_L259_89_38 _ ?_ M181 x184 IM181 FM181 (by omega) (by omega) (gLl.same hbL259_89_382 (congrArg o_a (UM181.1 298 (by decide))) (by omega)) (hbL259_89_383.cg (UM181.1 296 (by decide)) (UM181.1 294 (by decide))) rfl)
              omega
          exact PW.lvS (lk1 rfl (lk1 rfl (lk1 rfl lk0))) (L259_89_38 _ M34 c37 IM34 FM34 (by omega) (by omega) (gLl.same hbL259_39_310 (congrArg o_a (Fr.at GM34 kd_298 rfl)) (by omega)) (gLH.refl.cg (Fr.at GM34 kd_296 rfl) (Fr.at GM34 kd_294 rfl)) rfl)
        · skip
          refine PW.aload_n q_259_46 rfl ?_
          refine PW.cV (as := []) (rest := []) q_259_47 t_mv_259_372 kd_294 IML259_39_31.1 (by decide) rfl (by decide) rfl rfl (Nat.le_of_ble_eq_true rfl) (Nat.le_of_ble_eq_true rfl) (by decide) (by decide) ?_
          refine PW.up (by decide) (c_X12_logLine_vk G _ ML259_39_31 IML259_39_31 y i f m (o_i (ML259_39_31 294) 29) T (hp_3.cg e296 e299) GL rfl (by omega) (by omega) fun x186 M185 IM185 GM185 hx186 kx186 PM185 => ?_)
          have FM185 := Fr.trans FML259_39_31 GM185 (rfl)
          rcases PM185 with ⟨QM185, ⟨PaM185, PzM185, PnM185, PtM185, PlM185⟩ | ⟨PaM185, PzM185, PfM185, PgM185⟩⟩
          · skip
            have tr187 := QM185.i 2 rfl
            have tr188 := QM185.i 29 rfl
            have tr189 := QM185.i 23 rfl
            refine PW.jz_eq q_259_50 rfl (fun h190 => False.elim (by omega)) (fun h190 => ?_)
            refine PW.aload_n q_259_53 rfl ?_
            refine PW.cB q_259_54 (by decide) fun c191 hc191 => ?_
            refine PW.cV (as := [_]) (rest := []) q_259_56 t_mv_259_235 kd_294 IM185.1 (by decide) rfl (by decide) rfl rfl (Nat.le_of_ble_eq_true rfl) (Nat.le_of_ble_eq_true rfl) (by decide) (by decide) ?_
            refine PW.up (by decide) (c_X12_sign_vk (gTT) (Stab0) G _ M185 IM185 c191 y (l_line y f m (o_i (ML259_39_31 294) 29) i).2.2 PtM185 fun x193 M192 IM192 GM192 hx193 kx193 PM192 => ?_)
            have FM192 := Fr.trans FM185 GM192 (rfl)
            rcases PM192 with ⟨QM192, ⟨PaM192, PbM192, PcM192, PtM192⟩ | ⟨PaM192, PnM192, PfM192, PgM192⟩⟩
            · skip
              have tr194 := QM192.i 2 rfl
              have tr195 := QM192.i 29 rfl
              have tr196 := QM192.i 23 rfl
              refine PW.jz_ne q_259_59 rfl (fun h197 => ?_) (fun h197 => False.elim (by omega))
              refine PW.aload_n q_259_70 rfl ?_
              refine PW.dup q_259_71 rfl ?_
              refine PW.gI q_259_72 (Or.inl t_ft_259_369) gF_40_29 kd_294 IM192.1 (by decide) fun x198 fx198 hx198 kx198 => ?_
              have trx198 := o_i_of fx198
              refine PW.cI q_259_75 (by decide) fun c199 hc199 => ?_
              refine PW.addN q_259_76 (by omega) (by omega) fun x200 hx200 => ?_
              refine PW.pT q_259_77 (Or.inl t_ft_259_369) gF_40_29 gP_40_29 kd_294 IM192 (by decide) rfl (by omega) (by omega) fun M201 IM201 fM201 UM201 => ?_
              have FM201 := Fr.pu FM192 UM201.1 kd_294 (rfl : List.contains [40, 42, 44, 47, 48, 50] 40 = true)
              have tr202 := o_i_of fM201
              have tr203 := UM201.i (c := 294) (k := 23) (Or.inr (by decide))
              refine PW.goto q_259_80 rfl ?_
              have t29 : o_i (M201 294) 29 = (o_i (ML259_39_31 294) 29) + 1 := by omega
              refine PW.lvS (lk1 rfl (lk1 rfl lk0)) (ih_L259_39_31 _ ?_ M201  IM201 FM201 (gLl.same PlM185 ((congrArg o_a (UM201.1 298 (by decide))).trans (congrArg o_a (Fr.at GM192 kd_298 rfl))) (by omega)) (by omega) (by omega) ⟨(l_line y f m (o_i (ML259_39_31 294) 29) i).2.2 + 1, (PtM192.U UM201 rfl), by rw [E, t29, show (41 - (o_i (ML259_39_31 294) 29)).toNat = (41 - ((o_i (ML259_39_31 294) 29) + 1)).toNat + 1 from by omega]; exact l_ls_s (by omega) PzM185 ⟨PbM192, PcM192.trans (by omega)⟩⟩ (((UM201.1 _ (g_ne kd_296 kd_294 (by decide))).trans ((Fr.at GM192 kd_296 (by decide)).trans (Fr.at GM185 kd_296 (by decide)))).trans e296) (((UM201.1 _ (g_ne kd_299 kd_294 (by decide))).trans ((Fr.at GM192 kd_299 (by decide)).trans (Fr.at GM185 kd_299 (by decide)))).trans e299) (((UM201.i (c := 294) (k := 2) (Or.inr (by decide))).trans ((QM192.i 2 rfl).trans (QM185.i 2 rfl))).trans f2) rfl)
              omega
            · skip
              have tr204 := QM192.i 2 rfl
              have tr205 := QM192.i 29 rfl
              have tr206 := QM192.i 23 rfl
              refine PW.jz_ne q_259_59 rfl (fun h207 => False.elim (by omega)) (fun h207 => ?_)
              refine PW.cB q_259_62 (by decide) fun c208 hc208 => ?_
              refine PW.aload_n q_259_64 rfl ?_
              refine PW.gI q_259_65 (Or.inl t_ft_259_164) gF_40_16 kd_294 IM192.1 (by decide) fun x209 fx209 hx209 kx209 => ?_
              clear hx209 kx209
              refine PW.subH q_259_68 fun x210 => ?_
              refine PW.rI q_259_69 rfl (by decide) (by decide) ?_
              exact hK x210 M192 IM192 FM192 (Or.inr ⟨by omega, by omega, (by rw [E, l_ls_g (by omega) (by omega) PzM185 (fun q => PnM192 ⟨q.1, q.2.trans (by omega)⟩)]; exact PfM192), by omega, gHs.cg gHs.refl (((Fr.at GM192 kd_296 (by decide)).trans (Fr.at GM185 kd_296 (by decide))).trans e296)⟩)
          · skip
            have tr211 := QM185.i 2 rfl
            have tr212 := QM185.i 29 rfl
            have tr213 := QM185.i 23 rfl
            refine PW.jz_eq q_259_50 rfl (fun h214 => ?_) (fun h214 => False.elim (by omega))
            refine PW.cB q_259_62 (by decide) fun c215 hc215 => ?_
            refine PW.aload_n q_259_64 rfl ?_
            refine PW.gI q_259_65 (Or.inl t_ft_259_164) gF_40_16 kd_294 IM185.1 (by decide) fun x216 fx216 hx216 kx216 => ?_
            clear hx216 kx216
            refine PW.subH q_259_68 fun x217 => ?_
            refine PW.rI q_259_69 rfl (by decide) (by decide) ?_
            exact hK x217 M185 IM185 FM185 (Or.inr ⟨by omega, by omega, (by rw [E, l_ls_f (by omega) (by omega) PzM185]; exact PfM185), by omega, gHs.cg gHs.refl ((Fr.at GM185 kd_296 (by decide)).trans e296)⟩)
      have t29 : o_i (M27 294) 29 = 0 := by omega
      exact PW.lvS (lk1 rfl (lk1 rfl lk0)) (L259_39_31 _ M27  IM27 FM27 (gLl.zero (by omega)) (by omega) (by omega) ⟨0, PtM27, by rw [t29]; rfl⟩ ((Fr.at GM27 kd_296 (by decide)).trans ((UM24.1 _ (g_ne kd_296 kd_294 (by decide))).trans ((UM20.1 _ (g_ne kd_296 kd_294 (by decide))).trans ((Fr.at GM18 kd_296 (by decide)).trans (UM2.1 _ (g_ne kd_296 kd_294 (by decide))))))) ((Fr.at GM27 kd_299 (by decide)).trans ((UM24.1 _ (g_ne kd_299 kd_294 (by decide))).trans ((UM20.1 _ (g_ne kd_299 kd_294 (by decide))).trans ((Fr.at GM18 kd_299 (by decide)).trans (UM2.1 _ (g_ne kd_299 kd_294 (by decide))))))) (by omega) rfl)
