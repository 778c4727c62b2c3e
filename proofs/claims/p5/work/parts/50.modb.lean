theorem c_X12_bad (V : pM → Prop) (hV : Stab V) (G : pG) (Kr : pK) (M : pM) (I : Iv V M) (a1 : Int32) (hK : ∀ (x : Int32) (M1 : pM), Iv V M1 → Fr [40] M M1 → 0 ≤ x.toInt → x.toInt ≤ 0 → (o_i (M1 294) 4 = o_i (M 294) 4 ∧ o_i (M1 294) 11 = o_i (M 294) 11 ∧ o_i (M1 294) 34 = o_i (M 294) 34) → (gLq M1 M) → Kr.1 (some (.int x)) 311 M1) : PW G false 0 178 (p_mc 178) (p_msl 178) Kr 0 (lv_args 0 [.ref 294, .int a1]) [] 311 M 0 0 := by
  have F : Fr [40] M M := Fr.refl
  refine PW.aload_n q_178_0 rfl ?_
  refine PW.iload_n q_178_1 rfl ?_
  refine PW.pI q_178_2 (Or.inl t_ft_178_161) gF_40_15 gP_40_15 kd_294 hV I (by decide) rfl (n_lo _) (n_hi _) fun M1 IM1 fM1 UM1 => ?_
  have FM1 := Fr.pu F UM1.1 kd_294 (rfl : List.contains [40] 40 = true)
  have tr2 := UM1.i (c := 294) (k := 4) (Or.inr (by decide))
  have tr3 := UM1.i (c := 294) (k := 11) (Or.inr (by decide))
  have tr4 := UM1.i (c := 294) (k := 34) (Or.inr (by decide))
  refine PW.aload_n q_178_5 rfl ?_
  refine PW.aload_n q_178_6 rfl ?_
  refine PW.gI q_178_7 (Or.inl t_ft_178_138) gF_40_12 kd_294 IM1.1 (by decide) fun x5 fx5 hx5 kx5 => ?_
  clear hx5 kx5
  refine PW.pI q_178_10 (Or.inl t_ft_178_164) gF_40_16 gP_40_16 kd_294 hV IM1 (by decide) rfl (n_lo _) (n_hi _) fun M6 IM6 fM6 UM6 => ?_
  have FM6 := Fr.pu FM1 UM6.1 kd_294 (rfl : List.contains [40] 40 = true)
  have tr7 := UM6.i (c := 294) (k := 4) (Or.inr (by decide))
  have tr8 := UM6.i (c := 294) (k := 11) (Or.inr (by decide))
  have tr9 := UM6.i (c := 294) (k := 34) (Or.inr (by decide))
  refine PW.cI q_178_13 (by decide) fun c10 hc10 => ?_
  refine PW.rZ q_178_14 rfl (by omega) (by omega) (by decide) (by decide) ?_
  exact hK c10 M6 IM6 FM6 (by omega) (by omega) (by omega) ((UM6.i (c := 294) (k := 2) (Or.inr (by decide))).trans (UM1.i (c := 294) (k := 2) (Or.inr (by decide))))
theorem c_X12_isWord (V : pM → Prop) (hV : Stab V) (G : pG) (Kr : pK) (M : pM) (I : Iv V M) (a1 : Int64) (hK : ∀ (x : Int32) (M1 : pM), Iv V M1 → Fr [] M M1 → 0 ≤ x.toInt → x.toInt ≤ 1 → ((gLq M1 M) ∧ gHq M1 M) → Kr.1 (some (.int x)) 311 M1) : PW G false 0 179 (p_mc 179) (p_msl 179) Kr 0 (lv_args 0 [.ref 294, .long a1]) [] 311 M 0 0 := by
  have F : Fr [] M M := Fr.refl
  refine PW.aload_n q_179_0 rfl ?_
  refine PW.gI q_179_1 (Or.inl t_ft_179_144) gF_40_11 kd_294 I.1 (by decide) fun x1 fx1 hx1 kx1 => ?_
  clear hx1 kx1
  refine PW.cI q_179_4 (by decide) fun c2 hc2 => ?_
  refine PW.jc_ne q_179_5 rfl (fun h3 => ?_) (fun h3 => ?_)
  · skip
    refine PW.cI q_179_21 (by decide) fun c4 hc4 => ?_
    refine PW.rZ q_179_22 rfl (by omega) (by omega) (by decide) (by decide) ?_
    exact hK c4 M I F (by omega) (by omega) ⟨rfl, gHq.refl⟩
  · skip
    refine PW.aload_n q_179_8 rfl ?_
    refine PW.gL q_179_9 (Or.inl t_ft_179_157) gF_40_17 kd_294 I.1 (by decide) fun l5 fl5 => ?_
    refine PW.lload_n q_179_12 rfl ?_
    refine PW.lcmpH q_179_13 fun x6 => ?_
    refine PW.jz_ne q_179_14 rfl (fun h7 => ?_) (fun h7 => ?_)
    · skip
      refine PW.cI q_179_21 (by decide) fun c8 hc8 => ?_
      refine PW.rZ q_179_22 rfl (by omega) (by omega) (by decide) (by decide) ?_
      exact hK c8 M I F (by omega) (by omega) ⟨rfl, gHq.refl⟩
    · skip
      refine PW.cI q_179_17 (by decide) fun c9 hc9 => ?_
      refine PW.goto q_179_18 rfl ?_
      refine PW.rZ q_179_22 rfl (by omega) (by omega) (by decide) (by decide) ?_
      exact hK c9 M I F (by omega) (by omega) ⟨rfl, gHq.refl⟩
theorem c_X12_isWord_v (V : pM → Prop) (hV : Stab V) (G : pG) (Kr : pK) (M : pM) (I : Iv V M) (a1 : Int64) (hK : ∀ (x : Int32) (M1 : pM), Iv V M1 → Fr [] M M1 → 0 ≤ x.toInt → x.toInt ≤ 1 → (x.toInt = 0 ∨ o_i (M1 294) 11 = 1) → ((gLq M1 M) ∧ gHq M1 M) → Kr.1 (some (.int x)) 311 M1) : PW G false 0 179 (p_mc 179) (p_msl 179) Kr 0 (lv_args 0 [.ref 294, .long a1]) [] 311 M 0 0 := by
  have F : Fr [] M M := Fr.refl
  refine PW.aload_n q_179_0 rfl ?_
  refine PW.gI q_179_1 (Or.inl t_ft_179_144) gF_40_11 kd_294 I.1 (by decide) fun x1 fx1 hx1 kx1 => ?_
  have trx1 := o_i_of fx1
  clear hx1 kx1
  refine PW.cI q_179_4 (by decide) fun c2 hc2 => ?_
  refine PW.jc_ne q_179_5 rfl (fun h3 => ?_) (fun h3 => ?_)
  · skip
    refine PW.cI q_179_21 (by decide) fun c4 hc4 => ?_
    refine PW.rZ q_179_22 rfl (by omega) (by omega) (by decide) (by decide) ?_
    exact hK c4 M I F (by omega) (by omega) (by omega) ⟨rfl, gHq.refl⟩
  · skip
    refine PW.aload_n q_179_8 rfl ?_
    refine PW.gL q_179_9 (Or.inl t_ft_179_157) gF_40_17 kd_294 I.1 (by decide) fun l5 fl5 => ?_
    refine PW.lload_n q_179_12 rfl ?_
    refine PW.lcmpH q_179_13 fun x6 => ?_
    refine PW.jz_ne q_179_14 rfl (fun h7 => ?_) (fun h7 => ?_)
    · skip
      refine PW.cI q_179_21 (by decide) fun c8 hc8 => ?_
      refine PW.rZ q_179_22 rfl (by omega) (by omega) (by decide) (by decide) ?_
      exact hK c8 M I F (by omega) (by omega) (by omega) ⟨rfl, gHq.refl⟩
    · skip
      refine PW.cI q_179_17 (by decide) fun c9 hc9 => ?_
      refine PW.goto q_179_18 rfl ?_
      refine PW.rZ q_179_22 rfl (by omega) (by omega) (by decide) (by decide) ?_
      exact hK c9 M I F (by omega) (by omega) (by omega) ⟨rfl, gHq.refl⟩
theorem c_X12_isSign (V : pM → Prop) (hV : Stab V) (G : pG) (Kr : pK) (M : pM) (I : Iv V M) (a1 : Int32) (hK : ∀ (x : Int32) (M1 : pM), Iv V M1 → Fr [] M M1 → 0 ≤ x.toInt → x.toInt ≤ 1 → (x.toInt = 0 ∨ o_i (M1 294) 11 = 3) → ((gLq M1 M) ∧ gHq M1 M) → Kr.1 (some (.int x)) 311 M1) : PW G false 0 180 (p_mc 180) (p_msl 180) Kr 0 (lv_args 0 [.ref 294, .int a1]) [] 311 M 0 0 := by
  have F : Fr [] M M := Fr.refl
  refine PW.aload_n q_180_0 rfl ?_
  refine PW.gI q_180_1 (Or.inl t_ft_180_144) gF_40_11 kd_294 I.1 (by decide) fun x1 fx1 hx1 kx1 => ?_
  have trx1 := o_i_of fx1
  clear hx1 kx1
  refine PW.cI q_180_4 (by decide) fun c2 hc2 => ?_
  refine PW.jc_ne q_180_5 rfl (fun h3 => ?_) (fun h3 => ?_)
  · skip
    refine PW.cI q_180_20 (by decide) fun c4 hc4 => ?_
    refine PW.rZ q_180_21 rfl (by omega) (by omega) (by decide) (by decide) ?_
    exact hK c4 M I F (by omega) (by omega) (by omega) ⟨rfl, gHq.refl⟩
  · skip
    refine PW.aload_n q_180_8 rfl ?_
    refine PW.gI q_180_9 (Or.inl t_ft_180_154) gF_40_14 kd_294 I.1 (by decide) fun x5 fx5 hx5 kx5 => ?_
    clear hx5 kx5
    refine PW.iload_n q_180_12 rfl ?_
    refine PW.jc_ne q_180_13 rfl (fun h6 => ?_) (fun h6 => ?_)
    · skip
      refine PW.cI q_180_20 (by decide) fun c7 hc7 => ?_
      refine PW.rZ q_180_21 rfl (by omega) (by omega) (by decide) (by decide) ?_
      exact hK c7 M I F (by omega) (by omega) (by omega) ⟨rfl, gHq.refl⟩
    · skip
      refine PW.cI q_180_16 (by decide) fun c8 hc8 => ?_
      refine PW.goto q_180_17 rfl ?_
      refine PW.rZ q_180_21 rfl (by omega) (by omega) (by decide) (by decide) ?_
      exact hK c8 M I F (by omega) (by omega) (by omega) ⟨rfl, gHq.refl⟩
theorem c_X12_sign (V : pM → Prop) (hV : Stab V) (G : pG) (Kr : pK) (M : pM) (I : Iv V M) (a1 : Int32) (hK : ∀ (x : Int32) (M1 : pM), Iv V M1 → Fr [40] M M1 → 0 ≤ x.toInt → x.toInt ≤ 1 → (x.toInt = 0 ∨ (o_i (M 294) 11 = 3 ∧ o_i (M 294) 4 ≤ o_i (M1 294) 4)) → (gLq M1 M) → Kr.1 (some (.int x)) 311 M1) : PW G false 2 181 (p_mc 181) (p_msl 181) Kr 0 (lv_args 0 [.ref 294, .int a1]) [] 311 M 0 0 := by
  have F : Fr [40] M M := Fr.refl
  refine PW.aload_n q_181_0 rfl ?_
  refine PW.iload_n q_181_1 rfl ?_
  refine PW.cV (as := [_]) (rest := []) q_181_2 t_mv_181_167 kd_294 I.1 (by decide) rfl (by decide) rfl rfl (Nat.le_of_ble_eq_true rfl) (Nat.le_of_ble_eq_true rfl) (by decide) (by decide) ?_
  refine PW.up (by decide) (c_X12_isSign (V) (hV) G _ M I a1 fun x2 M1 IM1 GM1 hx2 kx2 PM1 TM1 => ?_)
  have FM1 := Fr.trans F GM1 (rfl)
  have tr3 : o_i (M1 294) 4 = o_i (M 294) 4 := by rw [Fr.at GM1 kd_294 (by decide)]
  have tr4 : o_i (M1 294) 11 = o_i (M 294) 11 := by rw [Fr.at GM1 kd_294 (by decide)]
  refine PW.jz_ne q_181_5 rfl (fun h5 => ?_) (fun h5 => ?_)
  · skip
    refine PW.aload_n q_181_14 rfl ?_
    refine PW.cV (as := []) (rest := []) q_181_15 t_mv_181_173 kd_294 IM1.1 (by decide) rfl (by decide) rfl rfl (Nat.le_of_ble_eq_true rfl) (Nat.le_of_ble_eq_true rfl) (by decide) (by decide) ?_
    refine PW.up (by decide) (c_X12_go (V) (hV) G _ M1 IM1  fun M6 IM6 GM6 PM6 TM6 => ?_)
    have FM6 := Fr.trans FM1 GM6 (rfl)
    obtain ⟨PaM6, PdM6, PbM6, PeM6⟩ := PM6
    refine PW.cI q_181_18 (by decide) fun c7 hc7 => ?_
    refine PW.rZ q_181_19 rfl (by omega) (by omega) (by decide) (by decide) ?_
    exact hK c7 M6 IM6 FM6 (by omega) (by omega) (by omega) (TM6.1.trans (congrArg (fun e => o_i e 2) (Fr.at GM1 kd_294 rfl)))
  · skip
    refine PW.aload_n q_181_8 rfl ?_
    refine PW.cI q_181_9 (by decide) fun c8 hc8 => ?_
    refine PW.cV (as := [_]) (rest := []) q_181_10 t_mv_181_170 kd_294 IM1.1 (by decide) rfl (by decide) rfl rfl (Nat.le_of_ble_eq_true rfl) (Nat.le_of_ble_eq_true rfl) (by decide) (by decide) ?_
    refine PW.up (by decide) (c_X12_bad (V) (hV) G _ M1 IM1 c8 fun x10 M9 IM9 GM9 hx10 kx10 PM9 TM9 => ?_)
    have FM9 := Fr.trans FM1 GM9 (rfl)
    refine PW.rZ q_181_13 rfl (by omega) (by omega) (by decide) (by decide) ?_
    exact hK x10 M9 IM9 FM9 (by omega) (by omega) (by omega) (TM9.trans (congrArg (fun e => o_i e 2) (Fr.at GM1 kd_294 rfl)))
theorem c_X12_isName (V : pM → Prop) (hV : Stab V) (G : pG) (Kr : pK) (M : pM) (I : Iv V M)  (hK : ∀ (x : Int32) (M1 : pM), Iv V M1 → Fr [] M M1 → 0 ≤ x.toInt → x.toInt ≤ 1 → ((gLq M1 M) ∧ gHq M1 M) → Kr.1 (some (.int x)) 311 M1) : PW G false 0 182 (p_mc 182) (p_msl 182) Kr 0 (lv_args 0 [.ref 294]) [] 311 M 0 0 := by
  have F : Fr [] M M := Fr.refl
  refine PW.aload_n q_182_0 rfl ?_
  refine PW.gI q_182_1 (Or.inl t_ft_182_144) gF_40_11 kd_294 I.1 (by decide) fun x1 fx1 hx1 kx1 => ?_
  clear hx1 kx1
  refine PW.cI q_182_4 (by decide) fun c2 hc2 => ?_
  have J13_4 : ∀ (MJ13_4 : pM) (s5 : Int32), Iv (V) MJ13_4 → Fr [] M MJ13_4 → 0 ≤ s5.toInt → s5.toInt ≤ 1 → o_f (MJ13_4 294) 11 = .int x1 → (gLq MJ13_4 M ∧ gHq MJ13_4 M) → PW G false 0 182 (p_mc 182) (p_msl 182) Kr 13 [(0, .ref 294)] [.int s5] 311 MJ13_4 0 0 := by
    intro MJ13_4 s5 IMJ13_4 FMJ13_4 hbJ13_40 hbJ13_41 hbJ13_42 hbJ13_43
    refine PW.istore_n q_182_13 (by decide) ?_
    refine PW.cI q_182_14 (by decide) fun c6 hc6 => ?_
    refine PW.istore_n q_182_15 (by decide) ?_
    have L182_16_7 : ∀ (n : Nat) (ML182_16_7 : pM) (v8 v9 : Int32), Iv (V) ML182_16_7 → Fr [] M ML182_16_7 → 0 ≤ v8.toInt → v8.toInt ≤ 1 → 0 ≤ v9.toInt → v9.toInt ≤ 28 → (gLq ML182_16_7 M ∧ gHq ML182_16_7 M) → (28 - v9.toInt).toNat = n → PW G false 0 182 (p_mc 182) (p_msl 182) Kr 16 [(0, .ref 294), (1, .int v8), (2, .int v9)] [] 311 ML182_16_7 0 0 := by
      intro n
      induction n using Nat.strongRecOn with
      | ind n ih_L182_16_7 =>
      intro ML182_16_7 v8 v9 IML182_16_7 FML182_16_7 hbL182_16_70 hbL182_16_71 hbL182_16_72 hbL182_16_73 hbL182_16_74 hmL182_16_7
      refine PW.iload_n q_182_16 rfl ?_
      refine PW.cB q_182_17 (by decide) fun c10 hc10 => ?_
      refine PW.jc_ge q_182_19 rfl (fun h11 => ?_) (fun h11 => ?_)
      · skip
        refine PW.iload_n q_182_52 rfl ?_
        refine PW.rZ q_182_53 rfl (by omega) (by omega) (by decide) (by decide) ?_
        exact hK v8 ML182_16_7 IML182_16_7 FML182_16_7 (by omega) (by omega) ⟨hbL182_16_74.1, hbL182_16_74.2⟩
      · skip
        refine PW.iload_n q_182_22 rfl ?_
        have J44_13 : ∀ (MJ44_13 : pM), Iv (V) MJ44_13 → Fr [] M MJ44_13 → (gLq MJ44_13 M ∧ gHq MJ44_13 M) → PW G false 0 182 (p_mc 182) (p_msl 182) Kr 44 [(0, .ref 294), (1, .int v8), (2, .int v9)] [] 311 MJ44_13 0 0 := by
          intro MJ44_13  IMJ44_13 FMJ44_13 hbJ44_130
          refine PW.cI q_182_44 (by decide) fun c14 hc14 => ?_
          refine PW.istore_n q_182_45 (by decide) ?_
          refine PW.incN q_182_46 rfl (by decide) (by decide) (by omega) (by omega) fun x15 hx15 => ?_
          refine PW.goto q_182_49 rfl ?_
          refine PW.lvS (lk1 rfl (lk1 rfl (lk1 rfl lk0))) (ih_L182_16_7 _ ?_ MJ44_13 c14 x15 IMJ44_13 FMJ44_13 (by omega) (by omega) (by omega) (by omega) ⟨hbJ44_130.1, hbJ44_130.2⟩ rfl)
          omega
        refine PW.jz_eq q_182_23 rfl (fun h12 => ?_) (fun h12 => ?_)
        · skip
          exact PW.lvS (lk1 rfl (lk1 rfl (lk1 rfl lk0))) (J44_13 ML182_16_7  IML182_16_7 FML182_16_7 ⟨hbL182_16_74.1, hbL182_16_74.2⟩)
        · skip
          refine PW.aload_n q_182_26 rfl ?_
          refine PW.gL q_182_27 (Or.inl t_ft_182_157) gF_40_17 kd_294 IML182_16_7.1 (by decide) fun l16 fl16 => ?_
          refine PW.aload_n q_182_30 rfl ?_
          refine PW.gR 300 q_182_31 (Or.inl t_ft_182_47) gF_40_10 kd_294 IML182_16_7.1 (by decide) rfl ?_
          refine PW.iload_n q_182_34 rfl ?_
          refine PW.aL q_182_35 rfl kd_300 IML182_16_7.1 (by decide) (by omega) (by omega) fun l17 fl17 => ?_
          refine PW.lcmpH q_182_36 fun x18 => ?_
          refine PW.jz_eq q_182_37 rfl (fun h19 => ?_) (fun h19 => ?_)
          · skip
            exact PW.lvS (lk1 rfl (lk1 rfl (lk1 rfl lk0))) (J44_13 ML182_16_7  IML182_16_7 FML182_16_7 ⟨hbL182_16_74.1, hbL182_16_74.2⟩)
          · skip
            refine PW.cI q_182_40 (by decide) fun c20 hc20 => ?_
            refine PW.goto q_182_41 rfl ?_
            refine PW.istore_n q_182_45 (by decide) ?_
            refine PW.incN q_182_46 rfl (by decide) (by decide) (by omega) (by omega) fun x21 hx21 => ?_
            refine PW.goto q_182_49 rfl ?_
            refine PW.lvS (lk1 rfl (lk1 rfl (lk1 rfl lk0))) (ih_L182_16_7 _ ?_ ML182_16_7 c20 x21 IML182_16_7 FML182_16_7 (by omega) (by omega) (by omega) (by omega) ⟨hbL182_16_74.1, hbL182_16_74.2⟩ rfl)
            omega
    exact PW.lvS (lk1 rfl (lk1 rfl (lk1 rfl lk0))) (L182_16_7 _ MJ13_4 s5 c6 IMJ13_4 FMJ13_4 (by omega) (by omega) (by omega) (by omega) ⟨hbJ13_43.1, hbJ13_43.2⟩ rfl)
  refine PW.jc_ne q_182_5 rfl (fun h3 => ?_) (fun h3 => ?_)
  · skip
    refine PW.cI q_182_12 (by decide) fun c22 hc22 => ?_
    exact PW.lvS (lk1 rfl lk0) (J13_4 M c22 I F (by omega) (by omega) fx1 ⟨rfl, gHq.refl⟩)
  · skip
    refine PW.cI q_182_8 (by decide) fun c23 hc23 => ?_
    refine PW.goto q_182_9 rfl ?_
    exact PW.lvS (lk1 rfl lk0) (J13_4 M c23 I F (by omega) (by omega) fx1 ⟨rfl, gHq.refl⟩)
theorem c_X12_takes (V : pM → Prop) (hV : Stab V) (G : pG) (Kr : pK) (M : pM) (I : Iv V M) (a1 : Int32) (a2 : Int32) (hK : ∀ (x : Int32) (M1 : pM), Iv V M1 → Fr [40] M M1 → 0 ≤ x.toInt → x.toInt ≤ 1 → ((o_i (M 294) 4 ≤ o_i (M1 294) 4 ∧ (x.toInt = 0 ∨ o_i (M1 294) 11 = 0 ∨ o_i (M1 294) 11 = 4 ∨ o_i (M 294) 4 + 1 ≤ o_i (M1 294) 4)) ∧ (x.toInt = 0 ∨ (a1.toInt ≤ o_i (M1 294) 18 ∧ o_i (M1 294) 18 ≤ a2.toInt))) → (gLq M1 M) → Kr.1 (some (.int x)) 311 M1) : PW G false 2 183 (p_mc 183) (p_msl 183) Kr 0 (lv_args 0 [.ref 294, .int a1, .int a2]) [] 311 M 0 0 := by
  have F : Fr [40] M M := Fr.refl
  refine PW.aload_n q_183_0 rfl ?_
  refine PW.gI q_183_1 (Or.inl t_ft_183_144) gF_40_11 kd_294 I.1 (by decide) fun x1 fx1 hx1 kx1 => ?_
  have trx1 := o_i_of fx1
  clear hx1 kx1
  refine PW.cI q_183_4 (by decide) fun c2 hc2 => ?_
  refine PW.jc_eq q_183_5 rfl (fun h3 => ?_) (fun h3 => ?_)
  · skip
    refine PW.aload_n q_183_14 rfl ?_
    refine PW.gI q_183_15 (Or.inl t_ft_183_154) gF_40_14 kd_294 I.1 (by decide) fun x4 fx4 hx4 kx4 => ?_
    clear hx4 kx4
    refine PW.iload_n q_183_18 rfl ?_
    refine PW.iload_n q_183_19 rfl ?_
    refine PW.callS (as := [_, _, _]) (rest := []) q_183_20 t_ms_183_176 (by decide) rfl (Nat.le_of_ble_eq_true rfl) (Nat.le_of_ble_eq_true rfl) (by decide) (by decide) ?_
    refine PW.iload_n q_166_0 rfl ?_
    refine PW.iload_n q_166_1 rfl ?_
    refine PW.jc_lt q_166_2 rfl (fun h5 => ?_) (fun h5 => ?_)
    · skip
      refine PW.cI q_166_14 (by decide) fun c6 hc6 => ?_
      refine PW.rZ q_166_15 rfl (by omega) (by omega) (by decide) (by decide) ?_
      refine PW.jz_ne q_183_23 rfl (fun h7 => False.elim (by omega)) (fun h7 => ?_)
      refine PW.aload_n q_183_26 rfl ?_
      refine PW.cI q_183_27 (by decide) fun c8 hc8 => ?_
      refine PW.cV (as := [_]) (rest := []) q_183_28 t_mv_183_170 kd_294 I.1 (by decide) rfl (by decide) rfl rfl (Nat.le_of_ble_eq_true rfl) (Nat.le_of_ble_eq_true rfl) (by decide) (by decide) ?_
      refine PW.up (by decide) (c_X12_bad (V) (hV) G _ M I c8 fun x10 M9 IM9 GM9 hx10 kx10 PM9 TM9 => ?_)
      have FM9 := Fr.trans F GM9 (rfl)
      refine PW.rZ q_183_31 rfl (by omega) (by omega) (by decide) (by decide) ?_
      exact hK x10 M9 IM9 FM9 (by omega) (by omega) (by omega) TM9
    · skip
      refine PW.iload_n q_166_5 rfl ?_
      refine PW.iload_n q_166_6 rfl ?_
      refine PW.jc_gt q_166_7 rfl (fun h11 => ?_) (fun h11 => ?_)
      · skip
        refine PW.cI q_166_14 (by decide) fun c12 hc12 => ?_
        refine PW.rZ q_166_15 rfl (by omega) (by omega) (by decide) (by decide) ?_
        refine PW.jz_ne q_183_23 rfl (fun h13 => False.elim (by omega)) (fun h13 => ?_)
        refine PW.aload_n q_183_26 rfl ?_
        refine PW.cI q_183_27 (by decide) fun c14 hc14 => ?_
        refine PW.cV (as := [_]) (rest := []) q_183_28 t_mv_183_170 kd_294 I.1 (by decide) rfl (by decide) rfl rfl (Nat.le_of_ble_eq_true rfl) (Nat.le_of_ble_eq_true rfl) (by decide) (by decide) ?_
        refine PW.up (by decide) (c_X12_bad (V) (hV) G _ M I c14 fun x16 M15 IM15 GM15 hx16 kx16 PM15 TM15 => ?_)
        have FM15 := Fr.trans F GM15 (rfl)
        refine PW.rZ q_183_31 rfl (by omega) (by omega) (by decide) (by decide) ?_
        exact hK x16 M15 IM15 FM15 (by omega) (by omega) (by omega) TM15
      · skip
        refine PW.cI q_166_10 (by decide) fun c17 hc17 => ?_
        refine PW.goto q_166_11 rfl ?_
        refine PW.rZ q_166_15 rfl (by omega) (by omega) (by decide) (by decide) ?_
        refine PW.jz_ne q_183_23 rfl (fun h18 => ?_) (fun h18 => False.elim (by omega))
        refine PW.aload_n q_183_32 rfl ?_
        refine PW.aload_n q_183_33 rfl ?_
        refine PW.gE q_183_34 (Or.inl t_ft_183_154) gF_40_14 kd_294 I.1 (by decide) fx4 ?_
        refine PW.pI q_183_37 (Or.inl t_ft_183_180) gF_40_18 gP_40_18 kd_294 hV I (by decide) rfl (n_lo _) (n_hi _) fun M19 IM19 fM19 UM19 => ?_
        have FM19 := Fr.pu F UM19.1 kd_294 (rfl : List.contains [40] 40 = true)
        have tr20 := UM19.i (c := 294) (k := 4) (Or.inr (by decide))
        have tr21 := UM19.i (c := 294) (k := 11) (Or.inr (by decide))
        have tr22 := o_i_of fM19
        refine PW.aload_n q_183_40 rfl ?_
        refine PW.cV (as := []) (rest := []) q_183_41 t_mv_183_173 kd_294 IM19.1 (by decide) rfl (by decide) rfl rfl (Nat.le_of_ble_eq_true rfl) (Nat.le_of_ble_eq_true rfl) (by decide) (by decide) ?_
        refine PW.up (by decide) (c_X12_go (V) (hV) G _ M19 IM19  fun M23 IM23 GM23 PM23 TM23 => ?_)
        have FM23 := Fr.trans FM19 GM23 (rfl)
        obtain ⟨PaM23, PdM23, PbM23, PeM23⟩ := PM23
        refine PW.cI q_183_44 (by decide) fun c24 hc24 => ?_
        refine PW.rZ q_183_45 rfl (by omega) (by omega) (by decide) (by decide) ?_
        exact hK c24 M23 IM23 FM23 (by omega) (by omega) (by omega) (TM23.1.trans (UM19.i (c := 294) (k := 2) (Or.inr (by decide))))
  · skip
    refine PW.aload_n q_183_8 rfl ?_
    refine PW.cI q_183_9 (by decide) fun c25 hc25 => ?_
    refine PW.cV (as := [_]) (rest := []) q_183_10 t_mv_183_170 kd_294 I.1 (by decide) rfl (by decide) rfl rfl (Nat.le_of_ble_eq_true rfl) (Nat.le_of_ble_eq_true rfl) (by decide) (by decide) ?_
    refine PW.up (by decide) (c_X12_bad (V) (hV) G _ M I c25 fun x27 M26 IM26 GM26 hx27 kx27 PM26 TM26 => ?_)
    have FM26 := Fr.trans F GM26 (rfl)
    refine PW.rZ q_183_13 rfl (by omega) (by omega) (by decide) (by decide) ?_
    exact hK x27 M26 IM26 FM26 (by omega) (by omega) (by omega) TM26
