/-- what image() does to the marks of the images -/
def gKp (r r1 : Nat → Int32) (a : Int) : Prop := ((a < 0 ∨ 1 < a) ∧ r1 = r) ∨ (0 ≤ a ∧ a ≤ 1 ∧ (r1 a.toNat).toInt = 1 ∧ ∀ z : Nat, z ≠ a.toNat → r1 z = r z)
theorem c_X11_image_k (G : pG) (Kr : pK) (M : pM) (I : Iv gTT M) (a1 : Int32) (hK : ∀ (x : Int32) (M1 : pM), Iv gTT M1 → Fr [4, 5, 7, 9, 10, 11, 12, 13, 14, 15, 16, 17, 20, 27, 28, 29, 30, 31, 32, 33, 34, 35, 36] M M1 → 0 ≤ x.toInt → x.toInt ≤ 1 → (gKp (o_a (M 109)) (o_a (M1 109)) a1.toInt) → Kr.1 (some (.int x)) 311 M1) : PW G false 5 125 (p_mc 125) (p_msl 125) Kr 0 (lv_args 0 [.ref 0, .int a1]) [] 311 M 0 0 := by
  have F : Fr [4, 5, 7, 9, 10, 11, 12, 13, 14, 15, 16, 17, 20, 27, 28, 29, 30, 31, 32, 33, 34, 35, 36] M M := Fr.refl
  refine PW.iload_n q_125_0 rfl ?_
  refine PW.jz_lt q_125_1 rfl (fun h1 => ?_) (fun h1 => ?_)
  · skip
    refine PW.cI q_125_9 (by decide) fun c2 hc2 => ?_
    refine PW.rZ q_125_10 rfl (by omega) (by omega) (by decide) (by decide) ?_
    exact hK c2 M I F (by omega) (by omega) (Or.inl ⟨by omega, rfl⟩)
  · skip
    refine PW.iload_n q_125_4 rfl ?_
    refine PW.cI q_125_5 (by decide) fun c3 hc3 => ?_
    refine PW.jc_lt q_125_6 rfl (fun h4 => ?_) (fun h4 => ?_)
    · skip
      refine PW.aload_n q_125_11 rfl ?_
      refine PW.gR 38 q_125_12 (Or.inl t_ft_125_23) gF_0_2 kd_0 I.1 (by decide) rfl ?_
      refine PW.iload_n q_125_15 rfl ?_
      refine PW.aRk q_125_16 rfl (by decide) (by decide) kd_38 I.1 (by decide) (by omega) (by omega) fun b5 hk_b5 e_b5 => ?_
      refine PW.aload_n q_125_17 rfl ?_
      refine PW.gR 3 q_125_18 (Or.inl t_ft_125_19) gF_0_1 kd_0 I.1 (by decide) rfl ?_
      refine PW.cV (as := [_]) (rest := []) q_125_21 t_mv_125_314 hk_b5 I.1 (by decide) rfl (by decide) rfl rfl (Nat.le_of_ble_eq_true rfl) (Nat.le_of_ble_eq_true rfl) (by decide) (by decide) ?_
      refine PW.up (by decide) (c_X10_copyFrom G _ M I b5 hk_b5 3 kd_3 fun M6 IM6 GM6 => ?_)
      have FM6 := Fr.trans F GM6 (rfl)
      refine PW.aload_n q_125_24 rfl ?_
      refine PW.gR 109 q_125_25 (Or.inl t_ft_125_27) gF_0_3 kd_0 IM6.1 (by decide) rfl ?_
      refine PW.iload_n q_125_28 rfl ?_
      refine PW.cI q_125_29 (by decide) fun c7 hc7 => ?_
      refine PW.wZ q_125_30 gA_20 kd_109 Stab0 IM6 (by decide) rfl gC_20_0_1 (by omega) (by omega) (by omega) (by omega) fun M8 IM8 fM8 UM8 => ?_
      have FM8 := Fr.pu FM6 UM8.1 kd_109 (rfl : List.contains [4, 5, 7, 9, 10, 11, 12, 13, 14, 15, 16, 17, 20, 27, 28, 29, 30, 31, 32, 33, 34, 35, 36] 20 = true)
      refine PW.cI q_125_31 (by decide) fun c9 hc9 => ?_
      refine PW.rZ q_125_32 rfl (by omega) (by omega) (by decide) (by decide) ?_
      exact hK c9 M8 IM8 FM8 (by omega) (by omega) (Or.inr ⟨by omega, by omega, by rw [fM8]; omega, fun z hz => (UM8.2 z hz).trans (congrFun (congrArg o_a (Fr.at GM6 kd_109 rfl)) z)⟩)
    · skip
      refine PW.cI q_125_9 (by decide) fun c10 hc10 => ?_
      refine PW.rZ q_125_10 rfl (by omega) (by omega) (by decide) (by decide) ?_
      exact hK c10 M I F (by omega) (by omega) (Or.inl ⟨by omega, rfl⟩)
theorem c_X12_image_k (G : pG) (Kr : pK) (M : pM) (I : Iv gTT M) (a1 : Int32) (hK : ∀ (x : Int32) (M1 : pM), Iv gTT M1 → Fr [40, 53, 54, 55] M M1 → 0 ≤ x.toInt → x.toInt ≤ 1 → (gKp (o_a (M 309)) (o_a (M1 309)) a1.toInt) → Kr.1 (some (.int x)) 311 M1) : PW G false 1 272 (p_mc 272) (p_msl 272) Kr 0 (lv_args 0 [.ref 294, .int a1]) [] 311 M 0 0 := by
  have F : Fr [40, 53, 54, 55] M M := Fr.refl
  refine PW.aload_n q_272_0 rfl ?_
  refine PW.cI q_272_1 (by decide) fun c1 hc1 => ?_
  refine PW.pI q_272_2 (Or.inl t_ft_272_1) gF_40_0 gP_40_0 kd_294 Stab0 I (by decide) rfl (n_lo _) (n_hi _) fun M2 IM2 fM2 UM2 => ?_
  have FM2 := Fr.pu F UM2.1 kd_294 (rfl : List.contains [40, 53, 54, 55] 40 = true)
  refine PW.iload_n q_272_5 rfl ?_
  refine PW.cI q_272_6 (by decide) fun c3 hc3 => ?_
  refine PW.cI q_272_7 (by decide) fun c4 hc4 => ?_
  refine PW.callS (as := [_, _, _]) (rest := []) q_272_8 t_ms_272_176 (by decide) rfl (Nat.le_of_ble_eq_true rfl) (Nat.le_of_ble_eq_true rfl) (by decide) (by decide) ?_
  refine PW.iload_n q_166_0 rfl ?_
  refine PW.iload_n q_166_1 rfl ?_
  refine PW.jc_lt q_166_2 rfl (fun h5 => ?_) (fun h5 => ?_)
  · skip
    refine PW.cI q_166_14 (by decide) fun c6 hc6 => ?_
    refine PW.rZ q_166_15 rfl (by omega) (by omega) (by decide) (by decide) ?_
    refine PW.jz_ne q_272_11 rfl (fun h7 => False.elim (by omega)) (fun h7 => ?_)
    refine PW.cI q_272_14 (by decide) fun c8 hc8 => ?_
    refine PW.rZ q_272_15 rfl (by omega) (by omega) (by decide) (by decide) ?_
    exact hK c8 M2 IM2 FM2 (by omega) (by omega) (Or.inl ⟨by omega, (congrArg o_a (UM2.1 309 (by decide)))⟩)
  · skip
    refine PW.iload_n q_166_5 rfl ?_
    refine PW.iload_n q_166_6 rfl ?_
    refine PW.jc_gt q_166_7 rfl (fun h9 => ?_) (fun h9 => ?_)
    · skip
      refine PW.cI q_166_14 (by decide) fun c10 hc10 => ?_
      refine PW.rZ q_166_15 rfl (by omega) (by omega) (by decide) (by decide) ?_
      refine PW.jz_ne q_272_11 rfl (fun h11 => False.elim (by omega)) (fun h11 => ?_)
      refine PW.cI q_272_14 (by decide) fun c12 hc12 => ?_
      refine PW.rZ q_272_15 rfl (by omega) (by omega) (by decide) (by decide) ?_
      exact hK c12 M2 IM2 FM2 (by omega) (by omega) (Or.inl ⟨by omega, (congrArg o_a (UM2.1 309 (by decide)))⟩)
    · skip
      refine PW.cI q_166_10 (by decide) fun c13 hc13 => ?_
      refine PW.goto q_166_11 rfl ?_
      refine PW.rZ q_166_15 rfl (by omega) (by omega) (by decide) (by decide) ?_
      refine PW.jz_ne q_272_11 rfl (fun h14 => ?_) (fun h14 => False.elim (by omega))
      have X15 : Iv (gX 307) M2 := ⟨IM2.1, gX.of IM2.2⟩
      refine PW.cI q_272_16 (by decide) fun c16 hc16 => ?_
      refine PW.istore_n q_272_17 (by decide) ?_
      have L272_18_17 : ∀ (n : Nat) (ML272_18_17 : pM) (v18 : Int32), Iv (gX 307) ML272_18_17 → Fr [40, 53, 54, 55] M ML272_18_17 → 0 ≤ v18.toInt → v18.toInt ≤ 397 → gkw ML272_18_17 a1.toInt.toNat → gcp ML272_18_17 307 (397 * a1.toInt.toNat) 296 0 v18.toInt → ML272_18_17 309 = M 309 → (397 - v18.toInt).toNat = n → PW G false 1 272 (p_mc 272) (p_msl 272) Kr 18 [(0, .ref 294), (1, .int a1), (2, .int v18)] [] 311 ML272_18_17 0 0 := by
        intro n
        induction n using Nat.strongRecOn with
        | ind n ih_L272_18_17 =>
        intro ML272_18_17 v18 IML272_18_17 FML272_18_17 hbL272_18_170 hbL272_18_171 hbL272_18_172 hbL272_18_173 hbL272_18_174 hmL272_18_17
        refine PW.iload_n q_272_18 rfl ?_
        refine PW.cS q_272_19 (by decide) fun c19 hc19 => ?_
        refine PW.jc_ge q_272_22 rfl (fun h20 => ?_) (fun h20 => ?_)
        · skip
          have X21 : Iv gTT ML272_18_17 := ⟨IML272_18_17.1, gX.e307 IML272_18_17.2 (gkw.all hbL272_18_172 (g_sa_c (g_216 IML272_18_17.1) (fun z hz => (hbL272_18_173 z (by omega)).trans (by rw [Nat.zero_add])) (IML272_18_17.2.2.1 (by decide))))⟩
          refine PW.cI q_272_49 (by decide) fun c22 hc22 => ?_
          refine PW.istore_n q_272_50 (by decide) ?_
          have L272_51_23 : ∀ (n : Nat) (ML272_51_23 : pM) (v24 : Int32), Iv (gTT) ML272_51_23 → Fr [40, 53, 54, 55] M ML272_51_23 → 0 ≤ v24.toInt → v24.toInt ≤ 8 → ML272_51_23 309 = M 309 → (8 - v24.toInt).toNat = n → PW G false 1 272 (p_mc 272) (p_msl 272) Kr 51 [(0, .ref 294), (1, .int a1), (2, .int v24)] [] 311 ML272_51_23 0 0 := by
            intro n
            induction n using Nat.strongRecOn with
            | ind n ih_L272_51_23 =>
            intro ML272_51_23 v24 IML272_51_23 FML272_51_23 hbL272_51_230 hbL272_51_231 hbL272_51_232 hmL272_51_23
            refine PW.iload_n q_272_51 rfl ?_
            refine PW.cB q_272_52 (by decide) fun c25 hc25 => ?_
            refine PW.jc_ge q_272_54 rfl (fun h26 => ?_) (fun h26 => ?_)
            · skip
              refine PW.aload_n q_272_80 rfl ?_
              refine PW.gR 309 q_272_81 (Or.inl t_ft_272_75) gF_40_41 kd_294 IML272_51_23.1 (by decide) rfl ?_
              refine PW.iload_n q_272_84 rfl ?_
              refine PW.cI q_272_85 (by decide) fun c27 hc27 => ?_
              refine PW.wZ q_272_86 gA_55 kd_309 Stab0 IML272_51_23 (by decide) rfl gC_55_0_1 (by omega) (by omega) (by omega) (by omega) fun M28 IM28 fM28 UM28 => ?_
              have FM28 := Fr.pu FML272_51_23 UM28.1 kd_309 (rfl : List.contains [40, 53, 54, 55] 55 = true)
              refine PW.cI q_272_87 (by decide) fun c29 hc29 => ?_
              refine PW.rZ q_272_88 rfl (by omega) (by omega) (by decide) (by decide) ?_
              exact hK c29 M28 IM28 FM28 (by omega) (by omega) (Or.inr ⟨by omega, by omega, by rw [fM28]; omega, fun z hz => (UM28.2 z hz).trans (congrFun (congrArg o_a hbL272_51_232) z)⟩)
            · skip
              refine PW.aload_n q_272_57 rfl ?_
              refine PW.gR 308 q_272_58 (Or.inl t_ft_272_72) gF_40_40 kd_294 IML272_51_23.1 (by decide) rfl ?_
              refine PW.cB q_272_61 (by decide) fun c30 hc30 => ?_
              refine PW.iload_n q_272_63 rfl ?_
              refine PW.mulN q_272_64 (8) (by omega) a1 (fun h => n_eq.mpr (by omega)) (fun h => n_eq.mpr (by omega)) (by omega) (by omega) fun x31 hx31 => ?_
              refine PW.iload_n q_272_65 rfl ?_
              refine PW.addN q_272_66 (by omega) (by omega) fun x32 hx32 => ?_
              refine PW.aload_n q_272_67 rfl ?_
              refine PW.gR 299 q_272_68 (Or.inl t_ft_272_43) gF_40_9 kd_294 IML272_51_23.1 (by decide) rfl ?_
              refine PW.iload_n q_272_71 rfl ?_
              refine PW.aL q_272_72 rfl kd_299 IML272_51_23.1 (by decide) (by omega) (by omega) fun l33 fl33 => ?_
              refine PW.wL q_272_73 rfl kd_308 Stab0 IML272_51_23 (by decide) rfl (by omega) (by omega) fun M34 IM34 UM34 => ?_
              have FM34 := Fr.pu FML272_51_23 UM34 kd_308 (rfl : List.contains [40, 53, 54, 55] 54 = true)
              refine PW.incN q_272_74 rfl (by decide) (by decide) (by omega) (by omega) fun x35 hx35 => ?_
              refine PW.goto q_272_77 rfl ?_
              refine PW.lvS (lk1 rfl (lk1 rfl (lk1 rfl lk0))) (ih_L272_51_23 _ ?_ M34 x35 IM34 FM34 (by omega) (by omega) ((UM34 _ (g_ne kd_309 kd_308 (by decide))).trans hbL272_51_232) rfl)
              omega
          exact PW.lvS (lk1 rfl (lk1 rfl (lk1 rfl lk0))) (L272_51_23 _ ML272_18_17 c22 X21 FML272_18_17 (by omega) (by omega) hbL272_18_174 rfl)
        · skip
          refine PW.aload_n q_272_25 rfl ?_
          refine PW.gR 307 q_272_26 (Or.inl t_ft_272_69) gF_40_39 kd_294 IML272_18_17.1 (by decide) rfl ?_
          refine PW.cS q_272_29 (by decide) fun c36 hc36 => ?_
          refine PW.iload_n q_272_32 rfl ?_
          refine PW.mulN q_272_33 (397) (by omega) a1 (fun h => n_eq.mpr (by omega)) (fun h => n_eq.mpr (by omega)) (by omega) (by omega) fun x37 hx37 => ?_
          refine PW.iload_n q_272_34 rfl ?_
          refine PW.addN q_272_35 (by omega) (by omega) fun x38 hx38 => ?_
          refine PW.aload_n q_272_36 rfl ?_
          refine PW.gR 296 q_272_37 (Or.inl t_ft_272_33) gF_40_6 kd_294 IML272_18_17.1 (by decide) rfl ?_
          refine PW.iload_n q_272_40 rfl ?_
          refine PW.aH q_272_41 gA_42 kd_296 IML272_18_17.1 (by decide) (by omega) (by omega) fun x39 fx39 => ?_
          have bsM40 := (InvB.arr IML272_18_17.1 kd_296 (by decide) gA_42).2.2 v18.toInt.toNat (by omega)
          rw [fx39] at bsM40
          refine PW.wB q_272_42 gA_53 kd_307 IML272_18_17.1 (by decide) (by omega) (by omega) (by rw [as53 (j := v18.toInt.toNat) a1.toInt.toNat (by omega) (by omega)]; exact bsM40) fun M40 JM40 fM40 UM40 => ?_
          have IM40 : Iv (gX 307) M40 := ⟨JM40, gX.up IML272_18_17.2 UM40.1 (by decide)⟩
          have FM40 := Fr.pu FML272_18_17 UM40.1 kd_307 (rfl : List.contains [40, 53, 54, 55] 53 = true)
          refine PW.incN q_272_43 rfl (by decide) (by decide) (by omega) (by omega) fun x41 hx41 => ?_
          refine PW.goto q_272_46 rfl ?_
          refine PW.lvS (lk1 rfl (lk1 rfl (lk1 rfl lk0))) (ih_L272_18_17 _ ?_ M40 x41 IM40 FM40 (by omega) (by omega) (gkw.step v18.toInt.toNat IML272_18_17.1 hbL272_18_172 UM40 (by omega) (by omega)) (gcp.step hbL272_18_173 UM40 (by omega) (by decide) fM40 (by omega) fx39 (by omega) (by omega)) ((UM40.1 309 (by decide)).trans hbL272_18_174) rfl)
          omega
      exact PW.lvS (lk1 rfl (lk1 rfl (lk1 rfl lk0))) (L272_18_17 _ M2 c16 X15 FM2 (by omega) (by omega) (gkw.of IM2.2) (gcp.zero (by omega)) (UM2.1 _ (g_ne kd_309 kd_294 (by decide))) rfl)
theorem c_X11_restore_v (G : pG) (Kr : pK) (M : pM) (I : Iv gTT M) (a1 : Int32) (hK : ∀ (x : Int32) (M1 : pM), Iv gTT M1 → Fr [4, 5, 7, 9, 10, 11, 12, 13, 14, 15, 16, 17, 21, 27, 28, 29, 30, 31, 32, 33, 34, 35, 36] M M1 → 0 ≤ x.toInt → x.toInt ≤ 1 → ((x.toInt = 1 ∧ 0 ≤ a1.toInt ∧ a1.toInt ≤ 1 ∧ (o_a (M 109) a1.toInt.toNat).toInt ≠ 0) ∨ (x.toInt = 0 ∧ (a1.toInt < 0 ∨ 1 < a1.toInt ∨ (o_a (M 109) a1.toInt.toNat).toInt = 0))) → Kr.1 (some (.int x)) 311 M1) : PW G false 5 126 (p_mc 126) (p_msl 126) Kr 0 (lv_args 0 [.ref 0, .int a1]) [] 311 M 0 0 := by
  have F : Fr [4, 5, 7, 9, 10, 11, 12, 13, 14, 15, 16, 17, 21, 27, 28, 29, 30, 31, 32, 33, 34, 35, 36] M M := Fr.refl
  refine PW.iload_n q_126_0 rfl ?_
  refine PW.jz_lt q_126_1 rfl (fun h1 => ?_) (fun h1 => ?_)
  · skip
    refine PW.cI q_126_18 (by decide) fun c2 hc2 => ?_
    refine PW.rZ q_126_19 rfl (by omega) (by omega) (by decide) (by decide) ?_
    exact hK c2 M I F (by omega) (by omega) (by omega)
  · skip
    refine PW.iload_n q_126_4 rfl ?_
    refine PW.cI q_126_5 (by decide) fun c3 hc3 => ?_
    refine PW.jc_ge q_126_6 rfl (fun h4 => ?_) (fun h4 => ?_)
    · skip
      refine PW.cI q_126_18 (by decide) fun c5 hc5 => ?_
      refine PW.rZ q_126_19 rfl (by omega) (by omega) (by decide) (by decide) ?_
      exact hK c5 M I F (by omega) (by omega) (by omega)
    · skip
      refine PW.aload_n q_126_9 rfl ?_
      refine PW.gR 109 q_126_10 (Or.inl t_ft_126_27) gF_0_3 kd_0 I.1 (by decide) rfl ?_
      refine PW.iload_n q_126_13 rfl ?_
      refine PW.aZ q_126_14 gA_20 kd_109 I.1 (by decide) gB_20_0_1 (by omega) (by omega) fun x6 fx6 hx6 kx6 => ?_
      have tb7 : (o_a (M 109) a1.toInt.toNat).toInt = x6.toInt := by rw [fx6]
      refine PW.jz_ne q_126_15 rfl (fun h8 => ?_) (fun h8 => ?_)
      · skip
        refine PW.aload_n q_126_20 rfl ?_
        refine PW.gR 3 q_126_21 (Or.inl t_ft_126_19) gF_0_1 kd_0 I.1 (by decide) rfl ?_
        refine PW.aload_n q_126_24 rfl ?_
        refine PW.gR 38 q_126_25 (Or.inl t_ft_126_23) gF_0_2 kd_0 I.1 (by decide) rfl ?_
        refine PW.iload_n q_126_28 rfl ?_
        refine PW.aRk q_126_29 rfl (by decide) (by decide) kd_38 I.1 (by decide) (by omega) (by omega) fun b9 hk_b9 e_b9 => ?_
        refine PW.cV (as := [_]) (rest := []) q_126_30 t_mv_126_314 kd_3 I.1 (by decide) rfl (by decide) rfl rfl (Nat.le_of_ble_eq_true rfl) (Nat.le_of_ble_eq_true rfl) (by decide) (by decide) ?_
        refine PW.up (by decide) (c_X10_copyFrom G _ M I 3 kd_3 b9 hk_b9 fun M10 IM10 GM10 => ?_)
        have FM10 := Fr.trans F GM10 (rfl)
        refine PW.aload_n q_126_33 rfl ?_
        refine PW.gR 110 q_126_34 (Or.inl t_ft_126_34) gF_0_4 kd_0 IM10.1 (by decide) rfl ?_
        refine PW.cV (as := []) (rest := []) q_126_37 t_mv_126_113 kd_110 IM10.1 (by decide) rfl (by decide) rfl rfl (Nat.le_of_ble_eq_true rfl) (Nat.le_of_ble_eq_true rfl) (by decide) (by decide) ?_
        refine PW.up (by decide) (c_X1_forget (gTT) (Stab0) G _ M10 IM10  fun M11 IM11 GM11 => ?_)
        have FM11 := Fr.trans FM10 GM11 (rfl)
        refine PW.cI q_126_40 (by decide) fun c12 hc12 => ?_
        refine PW.rZ q_126_41 rfl (by omega) (by omega) (by decide) (by decide) ?_
        exact hK c12 M11 IM11 FM11 (by omega) (by omega) (by omega)
      · skip
        refine PW.cI q_126_18 (by decide) fun c13 hc13 => ?_
        refine PW.rZ q_126_19 rfl (by omega) (by omega) (by decide) (by decide) ?_
        exact hK c13 M I F (by omega) (by omega) (by omega)
theorem c_X12_restore_v (G : pG) (Kr : pK) (M : pM) (I : Iv gTT M) (a1 : Int32) (hK : ∀ (x : Int32) (M1 : pM), Iv gTT M1 → Fr [40, 42, 45] M M1 → 0 ≤ x.toInt → x.toInt ≤ 1 → ((x.toInt = 1 ∧ 0 ≤ a1.toInt ∧ a1.toInt ≤ 1 ∧ (o_a (M 309) a1.toInt.toNat).toInt ≠ 0) ∨ (x.toInt = 0 ∧ (a1.toInt < 0 ∨ 1 < a1.toInt ∨ (o_a (M 309) a1.toInt.toNat).toInt = 0))) → Kr.1 (some (.int x)) 311 M1) : PW G false 1 273 (p_mc 273) (p_msl 273) Kr 0 (lv_args 0 [.ref 294, .int a1]) [] 311 M 0 0 := by
  have F : Fr [40, 42, 45] M M := Fr.refl
  refine PW.aload_n q_273_0 rfl ?_
  refine PW.cI q_273_1 (by decide) fun c1 hc1 => ?_
  refine PW.pI q_273_2 (Or.inl t_ft_273_1) gF_40_0 gP_40_0 kd_294 Stab0 I (by decide) rfl (n_lo _) (n_hi _) fun M2 IM2 fM2 UM2 => ?_
  have FM2 := Fr.pu F UM2.1 kd_294 (rfl : List.contains [40, 42, 45] 40 = true)
  refine PW.iload_n q_273_5 rfl ?_
  refine PW.cI q_273_6 (by decide) fun c3 hc3 => ?_
  refine PW.cI q_273_7 (by decide) fun c4 hc4 => ?_
  refine PW.callS (as := [_, _, _]) (rest := []) q_273_8 t_ms_273_176 (by decide) rfl (Nat.le_of_ble_eq_true rfl) (Nat.le_of_ble_eq_true rfl) (by decide) (by decide) ?_
  refine PW.iload_n q_166_0 rfl ?_
  refine PW.iload_n q_166_1 rfl ?_
  refine PW.jc_lt q_166_2 rfl (fun h5 => ?_) (fun h5 => ?_)
  · skip
    refine PW.cI q_166_14 (by decide) fun c6 hc6 => ?_
    refine PW.rZ q_166_15 rfl (by omega) (by omega) (by decide) (by decide) ?_
    refine PW.jz_eq q_273_11 rfl (fun h7 => ?_) (fun h7 => False.elim (by omega))
    refine PW.cI q_273_23 (by decide) fun c8 hc8 => ?_
    refine PW.rZ q_273_24 rfl (by omega) (by omega) (by decide) (by decide) ?_
    exact hK c8 M2 IM2 FM2 (by omega) (by omega) (by omega)
  · skip
    refine PW.iload_n q_166_5 rfl ?_
    refine PW.iload_n q_166_6 rfl ?_
    refine PW.jc_gt q_166_7 rfl (fun h9 => ?_) (fun h9 => ?_)
    · skip
      refine PW.cI q_166_14 (by decide) fun c10 hc10 => ?_
      refine PW.rZ q_166_15 rfl (by omega) (by omega) (by decide) (by decide) ?_
      refine PW.jz_eq q_273_11 rfl (fun h11 => ?_) (fun h11 => False.elim (by omega))
      refine PW.cI q_273_23 (by decide) fun c12 hc12 => ?_
      refine PW.rZ q_273_24 rfl (by omega) (by omega) (by decide) (by decide) ?_
      exact hK c12 M2 IM2 FM2 (by omega) (by omega) (by omega)
    · skip
      refine PW.cI q_166_10 (by decide) fun c13 hc13 => ?_
      refine PW.goto q_166_11 rfl ?_
      refine PW.rZ q_166_15 rfl (by omega) (by omega) (by decide) (by decide) ?_
      refine PW.jz_eq q_273_11 rfl (fun h14 => False.elim (by omega)) (fun h14 => ?_)
      refine PW.aload_n q_273_14 rfl ?_
      refine PW.gR 309 q_273_15 (Or.inl t_ft_273_75) gF_40_41 kd_294 IM2.1 (by decide) rfl ?_
      refine PW.iload_n q_273_18 rfl ?_
      refine PW.aZ q_273_19 gA_55 kd_309 IM2.1 (by decide) gB_55_0_1 (by omega) (by omega) fun x15 fx15 hx15 kx15 => ?_
      have tb16 : (o_a (M 309) a1.toInt.toNat).toInt = x15.toInt := by rw [← (congrArg o_a (UM2.1 309 (by decide))), fx15]
      refine PW.jz_ne q_273_20 rfl (fun h17 => ?_) (fun h17 => ?_)
      · skip
        have X18 : Iv (gX 296) M2 := ⟨IM2.1, gX.of IM2.2⟩
        refine PW.cI q_273_25 (by decide) fun c19 hc19 => ?_
        refine PW.istore_n q_273_26 (by decide) ?_
        have L273_27_20 : ∀ (n : Nat) (ML273_27_20 : pM) (v21 : Int32), Iv (gX 296) ML273_27_20 → Fr [40, 42, 45] M ML273_27_20 → 0 ≤ v21.toInt → v21.toInt ≤ 397 → gcp ML273_27_20 296 0 307 (397 * a1.toInt.toNat) v21.toInt → (397 - v21.toInt).toNat = n → PW G false 1 273 (p_mc 273) (p_msl 273) Kr 27 [(0, .ref 294), (1, .int a1), (2, .int v21)] [] 311 ML273_27_20 0 0 := by
          intro n
          induction n using Nat.strongRecOn with
          | ind n ih_L273_27_20 =>
          intro ML273_27_20 v21 IML273_27_20 FML273_27_20 hbL273_27_200 hbL273_27_201 hbL273_27_202 hmL273_27_20
          refine PW.iload_n q_273_27 rfl ?_
          refine PW.cS q_273_28 (by decide) fun c22 hc22 => ?_
          refine PW.jc_ge q_273_31 rfl (fun h23 => ?_) (fun h23 => ?_)
          · skip
            have X24 : Iv gTT ML273_27_20 := ⟨IML273_27_20.1, gX.e296 IML273_27_20.2 (g_sa_c (g_216' IML273_27_20.1 (u := a1.toInt.toNat) (by omega)) (fun z hz => by have w := hbL273_27_202 z (by omega); rw [Nat.zero_add] at w; exact w) (IML273_27_20.2.2.2.2.2 (by decide) _ (by omega)))⟩
            refine PW.cI q_273_58 (by decide) fun c25 hc25 => ?_
            refine PW.istore_n q_273_59 (by decide) ?_
            have L273_60_26 : ∀ (n : Nat) (ML273_60_26 : pM) (v27 : Int32), Iv (gTT) ML273_60_26 → Fr [40, 42, 45] M ML273_60_26 → 0 ≤ v27.toInt → v27.toInt ≤ 8 → (8 - v27.toInt).toNat = n → PW G false 1 273 (p_mc 273) (p_msl 273) Kr 60 [(0, .ref 294), (1, .int a1), (2, .int v27)] [] 311 ML273_60_26 0 0 := by
              intro n
              induction n using Nat.strongRecOn with
              | ind n ih_L273_60_26 =>
              intro ML273_60_26 v27 IML273_60_26 FML273_60_26 hbL273_60_260 hbL273_60_261 hmL273_60_26
              refine PW.iload_n q_273_60 rfl ?_
              refine PW.cB q_273_61 (by decide) fun c28 hc28 => ?_
              refine PW.jc_ge q_273_63 rfl (fun h29 => ?_) (fun h29 => ?_)
              · skip
                refine PW.aload_n q_273_89 rfl ?_
                refine PW.cI q_273_90 (by decide) fun c30 hc30 => ?_
                refine PW.pI q_273_91 (Or.inl t_ft_273_238) gF_40_23 gP_40_23 kd_294 Stab0 IML273_60_26 (by decide) rfl (by omega) (by omega) fun M31 IM31 fM31 UM31 => ?_
                have FM31 := Fr.pu FML273_60_26 UM31.1 kd_294 (rfl : List.contains [40, 42, 45] 40 = true)
                refine PW.cI q_273_94 (by decide) fun c32 hc32 => ?_
                refine PW.rZ q_273_95 rfl (by omega) (by omega) (by decide) (by decide) ?_
                exact hK c32 M31 IM31 FM31 (by omega) (by omega) (by omega)
              · skip
                refine PW.aload_n q_273_66 rfl ?_
                refine PW.gR 299 q_273_67 (Or.inl t_ft_273_43) gF_40_9 kd_294 IML273_60_26.1 (by decide) rfl ?_
                refine PW.iload_n q_273_70 rfl ?_
                refine PW.aload_n q_273_71 rfl ?_
                refine PW.gR 308 q_273_72 (Or.inl t_ft_273_72) gF_40_40 kd_294 IML273_60_26.1 (by decide) rfl ?_
                refine PW.cB q_273_75 (by decide) fun c33 hc33 => ?_
                refine PW.iload_n q_273_77 rfl ?_
                refine PW.mulN q_273_78 (8) (by omega) a1 (fun h => n_eq.mpr (by omega)) (fun h => n_eq.mpr (by omega)) (by omega) (by omega) fun x34 hx34 => ?_
                refine PW.iload_n q_273_79 rfl ?_
                refine PW.addN q_273_80 (by omega) (by omega) fun x35 hx35 => ?_
                refine PW.aL q_273_81 rfl kd_308 IML273_60_26.1 (by decide) (by omega) (by omega) fun l36 fl36 => ?_
                refine PW.wL q_273_82 rfl kd_299 Stab0 IML273_60_26 (by decide) rfl (by omega) (by omega) fun M37 IM37 UM37 => ?_
                have FM37 := Fr.pu FML273_60_26 UM37 kd_299 (rfl : List.contains [40, 42, 45] 45 = true)
                refine PW.incN q_273_83 rfl (by decide) (by decide) (by omega) (by omega) fun x38 hx38 => ?_
                refine PW.goto q_273_86 rfl ?_
                refine PW.lvS (lk1 rfl (lk1 rfl (lk1 rfl lk0))) (ih_L273_60_26 _ ?_ M37 x38 IM37 FM37 (by omega) (by omega) rfl)
                omega
            exact PW.lvS (lk1 rfl (lk1 rfl (lk1 rfl lk0))) (L273_60_26 _ ML273_27_20 c25 X24 FML273_27_20 (by omega) (by omega) rfl)
          · skip
            refine PW.aload_n q_273_34 rfl ?_
            refine PW.gR 296 q_273_35 (Or.inl t_ft_273_33) gF_40_6 kd_294 IML273_27_20.1 (by decide) rfl ?_
            refine PW.iload_n q_273_38 rfl ?_
            refine PW.aload_n q_273_39 rfl ?_
            refine PW.gR 307 q_273_40 (Or.inl t_ft_273_69) gF_40_39 kd_294 IML273_27_20.1 (by decide) rfl ?_
            refine PW.cS q_273_43 (by decide) fun c39 hc39 => ?_
            refine PW.iload_n q_273_46 rfl ?_
            refine PW.mulN q_273_47 (397) (by omega) a1 (fun h => n_eq.mpr (by omega)) (fun h => n_eq.mpr (by omega)) (by omega) (by omega) fun x40 hx40 => ?_
            refine PW.iload_n q_273_48 rfl ?_
            refine PW.addN q_273_49 (by omega) (by omega) fun x41 hx41 => ?_
            refine PW.aH q_273_50 gA_53 kd_307 IML273_27_20.1 (by decide) (by omega) (by omega) fun x42 fx42 => ?_
            have bsM43 := (InvB.arr IML273_27_20.1 kd_307 (by decide) gA_53).2.2 x41.toInt.toNat (by omega)
            rw [fx42] at bsM43
            refine PW.wB q_273_51 gA_42 kd_296 IML273_27_20.1 (by decide) (by omega) (by omega) (by rw [as53' (p := x41.toInt.toNat) a1.toInt.toNat (by omega) (by omega)]; exact bsM43) fun M43 JM43 fM43 UM43 => ?_
            have IM43 : Iv (gX 296) M43 := ⟨JM43, gX.up IML273_27_20.2 UM43.1 (by decide)⟩
            have FM43 := Fr.pu FML273_27_20 UM43.1 kd_296 (rfl : List.contains [40, 42, 45] 42 = true)
            refine PW.incN q_273_52 rfl (by decide) (by decide) (by omega) (by omega) fun x44 hx44 => ?_
            refine PW.goto q_273_55 rfl ?_
            refine PW.lvS (lk1 rfl (lk1 rfl (lk1 rfl lk0))) (ih_L273_27_20 _ ?_ M43 x44 IM43 FM43 (by omega) (by omega) (gcp.step hbL273_27_202 UM43 (by omega) (by decide) fM43 (by omega) fx42 (by omega) (by omega)) rfl)
            omega
        exact PW.lvS (lk1 rfl (lk1 rfl (lk1 rfl lk0))) (L273_27_20 _ M2 c19 X18 FM2 (by omega) (by omega) (gcp.zero (by omega)) rfl)
      · skip
        refine PW.cI q_273_23 (by decide) fun c45 hc45 => ?_
        refine PW.rZ q_273_24 rfl (by omega) (by omega) (by decide) (by decide) ?_
        exact hK c45 M2 IM2 FM2 (by omega) (by omega) (by omega)
