theorem c_X12_puts (V : pM → Prop) (hV : Stab V) (G : pG) (Kr : pK) (M : pM) (I : Iv V M) (a1 : Int32) (a2 : Int32) (a3 : Int32) (hl_a1 : 2 ≤ a1.toInt) (hh_a1 : a1.toInt ≤ 10) (hK : ∀ (x : Int32) (M1 : pM), Iv V M1 → Fr [40, 43] M M1 → 0 ≤ x.toInt → x.toInt ≤ 1 → ((o_i (M 294) 4 ≤ o_i (M1 294) 4 ∧ (x.toInt = 0 ∨ o_i (M1 294) 11 = 0 ∨ o_i (M1 294) 11 = 4 ∨ o_i (M 294) 4 + 1 ≤ o_i (M1 294) 4)) ∧ (o_a (M1 297) 0).toInt = (o_a (M 297) 0).toInt ∧ (o_a (M1 297) 1).toInt = (o_a (M 297) 1).toInt) → (gLq M1 M) → Kr.1 (some (.int x)) 311 M1) : PW G false 3 184 (p_mc 184) (p_msl 184) Kr 0 (lv_args 0 [.ref 294, .int a1, .int a2, .int a3]) [] 311 M 0 0 := by
  have F : Fr [40, 43] M M := Fr.refl
  refine PW.aload_n q_184_0 rfl ?_
  refine PW.iload_n q_184_1 rfl ?_
  refine PW.iload_n q_184_2 rfl ?_
  refine PW.cV (as := [_, _]) (rest := []) q_184_3 t_mv_184_183 kd_294 I.1 (by decide) rfl (by decide) rfl rfl (Nat.le_of_ble_eq_true rfl) (Nat.le_of_ble_eq_true rfl) (by decide) (by decide) ?_
  refine PW.up (by decide) (c_X12_takes (V) (hV) G _ M I a2 a3 fun x2 M1 IM1 GM1 hx2 kx2 PM1 TM1 => ?_)
  have FM1 := Fr.trans F GM1 (rfl)
  obtain ⟨⟨PaM1, PdM1⟩, PcM1⟩ := PM1
  have ty3 : (o_a (M1 297) 0).toInt = (o_a (M 297) 0).toInt := by rw [Fr.at GM1 kd_297 (by decide)]
  have ty4 : (o_a (M1 297) 1).toInt = (o_a (M 297) 1).toInt := by rw [Fr.at GM1 kd_297 (by decide)]
  refine PW.jz_ne q_184_6 rfl (fun h5 => ?_) (fun h5 => ?_)
  · skip
    refine PW.aload_n q_184_11 rfl ?_
    refine PW.gR 297 q_184_12 (Or.inl t_ft_184_37) gF_40_7 kd_294 IM1.1 (by decide) rfl ?_
    refine PW.iload_n q_184_15 rfl ?_
    refine PW.aload_n q_184_16 rfl ?_
    refine PW.gI q_184_17 (Or.inl t_ft_184_180) gF_40_18 kd_294 IM1.1 (by decide) fun x6 fx6 hx6 kx6 => ?_
    clear hx6 kx6
    refine PW.wI q_184_20 gA_43 kd_297 hV IM1 (by decide) rfl gC_43_2_10 (by decide) (by omega) (by omega) (n_lo _) (n_hi _) fun M7 IM7 fM7 UM7 => ?_
    have FM7 := Fr.pu FM1 UM7.1 kd_297 (rfl : List.contains [40, 43] 43 = true)
    have ty8 : (o_a (M7 297) 0).toInt = (o_a (M1 297) 0).toInt := by rw [UM7.2 0 (by omega)]
    have ty9 : (o_a (M7 297) 1).toInt = (o_a (M1 297) 1).toInt := by rw [UM7.2 1 (by omega)]
    have tr10 : o_i (M7 294) 4 = o_i (M1 294) 4 := by rw [UM7.1 294 (g_ne kd_294 kd_297 (by decide))]
    have tr11 : o_i (M7 294) 11 = o_i (M1 294) 11 := by rw [UM7.1 294 (g_ne kd_294 kd_297 (by decide))]
    refine PW.cI q_184_21 (by decide) fun c12 hc12 => ?_
    refine PW.rZ q_184_22 rfl (by omega) (by omega) (by decide) (by decide) ?_
    exact hK c12 M7 IM7 FM7 (by omega) (by omega) (by omega) ((congrArg (fun e => o_i e 2) (UM7.1 294 (by decide))).trans TM1)
  · skip
    refine PW.cI q_184_9 (by decide) fun c13 hc13 => ?_
    refine PW.rZ q_184_10 rfl (by omega) (by omega) (by decide) (by decide) ?_
    exact hK c13 M1 IM1 FM1 (by omega) (by omega) (by omega) TM1
theorem c_X12_puts_p (V : pM → Prop) (hV : Stab V) (G : pG) (Kr : pK) (M : pM) (I : Iv V M) (a1 : Int32) (a2 : Int32) (a3 : Int32) (hl_a1 : 11 ≤ a1.toInt) (hh_a1 : a1.toInt ≤ 16) (hl_a2 : 0 ≤ a2.toInt) (hh_a2 : a2.toInt ≤ 0) (hl_a3 : 9 ≤ a3.toInt) (hh_a3 : a3.toInt ≤ 9) (hK : ∀ (x : Int32) (M1 : pM), Iv V M1 → Fr [40, 43] M M1 → 0 ≤ x.toInt → x.toInt ≤ 1 → ((o_i (M 294) 4 ≤ o_i (M1 294) 4 ∧ (x.toInt = 0 ∨ o_i (M1 294) 11 = 0 ∨ o_i (M1 294) 11 = 4 ∨ o_i (M 294) 4 + 1 ≤ o_i (M1 294) 4)) ∧ (o_a (M1 297) 0).toInt = (o_a (M 297) 0).toInt ∧ (o_a (M1 297) 1).toInt = (o_a (M 297) 1).toInt) → (gLq M1 M) → Kr.1 (some (.int x)) 311 M1) : PW G false 3 184 (p_mc 184) (p_msl 184) Kr 0 (lv_args 0 [.ref 294, .int a1, .int a2, .int a3]) [] 311 M 0 0 := by
  have F : Fr [40, 43] M M := Fr.refl
  refine PW.aload_n q_184_0 rfl ?_
  refine PW.iload_n q_184_1 rfl ?_
  refine PW.iload_n q_184_2 rfl ?_
  refine PW.cV (as := [_, _]) (rest := []) q_184_3 t_mv_184_183 kd_294 I.1 (by decide) rfl (by decide) rfl rfl (Nat.le_of_ble_eq_true rfl) (Nat.le_of_ble_eq_true rfl) (by decide) (by decide) ?_
  refine PW.up (by decide) (c_X12_takes (V) (hV) G _ M I a2 a3 fun x2 M1 IM1 GM1 hx2 kx2 PM1 TM1 => ?_)
  have FM1 := Fr.trans F GM1 (rfl)
  obtain ⟨⟨PaM1, PdM1⟩, PcM1⟩ := PM1
  have ty3 : (o_a (M1 297) 0).toInt = (o_a (M 297) 0).toInt := by rw [Fr.at GM1 kd_297 (by decide)]
  have ty4 : (o_a (M1 297) 1).toInt = (o_a (M 297) 1).toInt := by rw [Fr.at GM1 kd_297 (by decide)]
  refine PW.jz_ne q_184_6 rfl (fun h5 => ?_) (fun h5 => ?_)
  · skip
    refine PW.aload_n q_184_11 rfl ?_
    refine PW.gR 297 q_184_12 (Or.inl t_ft_184_37) gF_40_7 kd_294 IM1.1 (by decide) rfl ?_
    refine PW.iload_n q_184_15 rfl ?_
    refine PW.aload_n q_184_16 rfl ?_
    refine PW.gI q_184_17 (Or.inl t_ft_184_180) gF_40_18 kd_294 IM1.1 (by decide) fun x6 fx6 hx6 kx6 => ?_
    have trx6 := o_i_of fx6
    clear hx6 kx6
    refine PW.wI q_184_20 gA_43 kd_297 hV IM1 (by decide) rfl gC_43_11_16 (by decide) (by omega) (by omega) (by omega) (by omega) fun M7 IM7 fM7 UM7 => ?_
    have FM7 := Fr.pu FM1 UM7.1 kd_297 (rfl : List.contains [40, 43] 43 = true)
    have ty8 : (o_a (M7 297) 0).toInt = (o_a (M1 297) 0).toInt := by rw [UM7.2 0 (by omega)]
    have ty9 : (o_a (M7 297) 1).toInt = (o_a (M1 297) 1).toInt := by rw [UM7.2 1 (by omega)]
    have tr10 : o_i (M7 294) 4 = o_i (M1 294) 4 := by rw [UM7.1 294 (g_ne kd_294 kd_297 (by decide))]
    have tr11 : o_i (M7 294) 11 = o_i (M1 294) 11 := by rw [UM7.1 294 (g_ne kd_294 kd_297 (by decide))]
    have tr12 : o_i (M7 294) 18 = o_i (M1 294) 18 := by rw [UM7.1 294 (g_ne kd_294 kd_297 (by decide))]
    refine PW.cI q_184_21 (by decide) fun c13 hc13 => ?_
    refine PW.rZ q_184_22 rfl (by omega) (by omega) (by decide) (by decide) ?_
    exact hK c13 M7 IM7 FM7 (by omega) (by omega) (by omega) ((congrArg (fun e => o_i e 2) (UM7.1 294 (by decide))).trans TM1)
  · skip
    refine PW.cI q_184_9 (by decide) fun c14 hc14 => ?_
    refine PW.rZ q_184_10 rfl (by omega) (by omega) (by decide) (by decide) ?_
    exact hK c14 M1 IM1 FM1 (by omega) (by omega) (by omega) TM1
theorem c_X12_puts_d (V : pM → Prop) (hV : Stab V) (G : pG) (Kr : pK) (M : pM) (I : Iv V M) (a1 : Int32) (a2 : Int32) (a3 : Int32) (hl_a1 : 25 ≤ a1.toInt) (hh_a1 : a1.toInt ≤ 32) (hK : ∀ (x : Int32) (M1 : pM), Iv V M1 → Fr [40, 43] M M1 → 0 ≤ x.toInt → x.toInt ≤ 1 → ((o_i (M 294) 4 ≤ o_i (M1 294) 4 ∧ (x.toInt = 0 ∨ o_i (M1 294) 11 = 0 ∨ o_i (M1 294) 11 = 4 ∨ o_i (M 294) 4 + 1 ≤ o_i (M1 294) 4)) ∧ (o_a (M1 297) 0).toInt = (o_a (M 297) 0).toInt ∧ (o_a (M1 297) 1).toInt = (o_a (M 297) 1).toInt) → (gLq M1 M) → Kr.1 (some (.int x)) 311 M1) : PW G false 3 184 (p_mc 184) (p_msl 184) Kr 0 (lv_args 0 [.ref 294, .int a1, .int a2, .int a3]) [] 311 M 0 0 := by
  have F : Fr [40, 43] M M := Fr.refl
  refine PW.aload_n q_184_0 rfl ?_
  refine PW.iload_n q_184_1 rfl ?_
  refine PW.iload_n q_184_2 rfl ?_
  refine PW.cV (as := [_, _]) (rest := []) q_184_3 t_mv_184_183 kd_294 I.1 (by decide) rfl (by decide) rfl rfl (Nat.le_of_ble_eq_true rfl) (Nat.le_of_ble_eq_true rfl) (by decide) (by decide) ?_
  refine PW.up (by decide) (c_X12_takes (V) (hV) G _ M I a2 a3 fun x2 M1 IM1 GM1 hx2 kx2 PM1 TM1 => ?_)
  have FM1 := Fr.trans F GM1 (rfl)
  obtain ⟨⟨PaM1, PdM1⟩, PcM1⟩ := PM1
  have ty3 : (o_a (M1 297) 0).toInt = (o_a (M 297) 0).toInt := by rw [Fr.at GM1 kd_297 (by decide)]
  have ty4 : (o_a (M1 297) 1).toInt = (o_a (M 297) 1).toInt := by rw [Fr.at GM1 kd_297 (by decide)]
  refine PW.jz_ne q_184_6 rfl (fun h5 => ?_) (fun h5 => ?_)
  · skip
    refine PW.aload_n q_184_11 rfl ?_
    refine PW.gR 297 q_184_12 (Or.inl t_ft_184_37) gF_40_7 kd_294 IM1.1 (by decide) rfl ?_
    refine PW.iload_n q_184_15 rfl ?_
    refine PW.aload_n q_184_16 rfl ?_
    refine PW.gI q_184_17 (Or.inl t_ft_184_180) gF_40_18 kd_294 IM1.1 (by decide) fun x6 fx6 hx6 kx6 => ?_
    clear hx6 kx6
    refine PW.wI q_184_20 gA_43 kd_297 hV IM1 (by decide) rfl gC_43_25_32 (by decide) (by omega) (by omega) (n_lo _) (n_hi _) fun M7 IM7 fM7 UM7 => ?_
    have FM7 := Fr.pu FM1 UM7.1 kd_297 (rfl : List.contains [40, 43] 43 = true)
    have ty8 : (o_a (M7 297) 0).toInt = (o_a (M1 297) 0).toInt := by rw [UM7.2 0 (by omega)]
    have ty9 : (o_a (M7 297) 1).toInt = (o_a (M1 297) 1).toInt := by rw [UM7.2 1 (by omega)]
    have tr10 : o_i (M7 294) 4 = o_i (M1 294) 4 := by rw [UM7.1 294 (g_ne kd_294 kd_297 (by decide))]
    have tr11 : o_i (M7 294) 11 = o_i (M1 294) 11 := by rw [UM7.1 294 (g_ne kd_294 kd_297 (by decide))]
    refine PW.cI q_184_21 (by decide) fun c12 hc12 => ?_
    refine PW.rZ q_184_22 rfl (by omega) (by omega) (by decide) (by decide) ?_
    exact hK c12 M7 IM7 FM7 (by omega) (by omega) (by omega) ((congrArg (fun e => o_i e 2) (UM7.1 294 (by decide))).trans TM1)
  · skip
    refine PW.cI q_184_9 (by decide) fun c13 hc13 => ?_
    refine PW.rZ q_184_10 rfl (by omega) (by omega) (by decide) (by decide) ?_
    exact hK c13 M1 IM1 FM1 (by omega) (by omega) (by omega) TM1
theorem c_X12_find (V : pM → Prop) (hV : Stab V) (G : pG) (Kr : pK) (M : pM) (I : Iv V M) (a1 : Int32) (a2 : Int32) (hl_a1 : 8 ≤ a1.toInt) (hh_a1 : a1.toInt ≤ 8) (hl_a2 : 0 ≤ a2.toInt) (hh_a2 : a2.toInt ≤ 6) (hK : ∀ (x : Int32) (M1 : pM), Iv V M1 → Fr [] M M1 → -1 ≤ x.toInt → x.toInt ≤ 5 → (x.toInt = -1 ∨ (0 ≤ x.toInt ∧ x.toInt < a2.toInt)) → ((gLq M1 M) ∧ gHq M1 M) → Kr.1 (some (.int x)) 311 M1) : PW G false 0 185 (p_mc 185) (p_msl 185) Kr 0 (lv_args 0 [.ref 294, .int a1, .int a2]) [] 311 M 0 0 := by
  have F : Fr [] M M := Fr.refl
  refine PW.cI q_185_0 (by decide) fun c1 hc1 => ?_
  refine PW.istore_n q_185_1 (by decide) ?_
  have L185_2_2 : ∀ (n : Nat) (ML185_2_2 : pM) (v3 : Int32), Iv (V) ML185_2_2 → Fr [] M ML185_2_2 → 0 ≤ v3.toInt → v3.toInt ≤ 6 → (gLq ML185_2_2 M ∧ gHq ML185_2_2 M) → (6 - v3.toInt).toNat = n → PW G false 0 185 (p_mc 185) (p_msl 185) Kr 2 [(0, .ref 294), (1, .int a1), (2, .int a2), (3, .int v3)] [] 311 ML185_2_2 0 0 := by
    intro n
    induction n using Nat.strongRecOn with
    | ind n ih_L185_2_2 =>
    intro ML185_2_2 v3 IML185_2_2 FML185_2_2 hbL185_2_20 hbL185_2_21 hbL185_2_22 hmL185_2_2
    refine PW.iload_n q_185_2 rfl ?_
    refine PW.iload_n q_185_3 rfl ?_
    refine PW.jc_ge q_185_4 rfl (fun h4 => ?_) (fun h4 => ?_)
    · skip
      refine PW.cI q_185_31 (by decide) fun c5 hc5 => ?_
      refine PW.rI q_185_32 rfl (by decide) (by decide) ?_
      exact hK c5 ML185_2_2 IML185_2_2 FML185_2_2 (by omega) (by omega) (by omega) ⟨hbL185_2_22.1, hbL185_2_22.2⟩
    · skip
      refine PW.aload_n q_185_7 rfl ?_
      refine PW.gR 299 q_185_8 (Or.inl t_ft_185_43) gF_40_9 kd_294 IML185_2_2.1 (by decide) rfl ?_
      refine PW.iload_n q_185_11 rfl ?_
      refine PW.iload_n q_185_12 rfl ?_
      refine PW.addN q_185_13 (by omega) (by omega) fun x6 hx6 => ?_
      refine PW.aL q_185_14 rfl kd_299 IML185_2_2.1 (by decide) (by omega) (by omega) fun l7 fl7 => ?_
      refine PW.aload_n q_185_15 rfl ?_
      refine PW.gL q_185_16 (Or.inl t_ft_185_157) gF_40_17 kd_294 IML185_2_2.1 (by decide) fun l8 fl8 => ?_
      refine PW.lcmpH q_185_19 fun x9 => ?_
      refine PW.jz_ne q_185_20 rfl (fun h10 => ?_) (fun h10 => ?_)
      · skip
        refine PW.incN q_185_25 rfl (by decide) (by decide) (by omega) (by omega) fun x11 hx11 => ?_
        refine PW.goto q_185_28 rfl ?_
        refine PW.lvS (lk1 rfl (lk1 rfl (lk1 rfl (lk1 rfl lk0)))) (ih_L185_2_2 _ ?_ ML185_2_2 x11 IML185_2_2 FML185_2_2 (by omega) (by omega) ⟨hbL185_2_22.1, hbL185_2_22.2⟩ rfl)
        omega
      · skip
        refine PW.iload_n q_185_23 rfl ?_
        refine PW.rI q_185_24 rfl (by decide) (by decide) ?_
        exact hK v3 ML185_2_2 IML185_2_2 FML185_2_2 (by omega) (by omega) (by omega) ⟨hbL185_2_22.1, hbL185_2_22.2⟩
  exact PW.lvS (lk1 rfl (lk1 rfl (lk1 rfl (lk1 rfl lk0)))) (L185_2_2 _ M c1 I F (by omega) (by omega) ⟨rfl, gHq.refl⟩ rfl)
theorem c_X12_find_d (V : pM → Prop) (hV : Stab V) (G : pG) (Kr : pK) (M : pM) (I : Iv V M) (a1 : Int32) (a2 : Int32) (hl_a1 : 14 ≤ a1.toInt) (hh_a1 : a1.toInt ≤ 14) (hl_a2 : 0 ≤ a2.toInt) (hh_a2 : a2.toInt ≤ 2) (hK : ∀ (x : Int32) (M1 : pM), Iv V M1 → Fr [] M M1 → -1 ≤ x.toInt → x.toInt ≤ 1 → (x.toInt = -1 ∨ (0 ≤ x.toInt ∧ x.toInt < a2.toInt)) → ((gLq M1 M) ∧ gHq M1 M) → Kr.1 (some (.int x)) 311 M1) : PW G false 0 185 (p_mc 185) (p_msl 185) Kr 0 (lv_args 0 [.ref 294, .int a1, .int a2]) [] 311 M 0 0 := by
  have F : Fr [] M M := Fr.refl
  refine PW.cI q_185_0 (by decide) fun c1 hc1 => ?_
  refine PW.istore_n q_185_1 (by decide) ?_
  have L185_2_2 : ∀ (n : Nat) (ML185_2_2 : pM) (v3 : Int32), Iv (V) ML185_2_2 → Fr [] M ML185_2_2 → 0 ≤ v3.toInt → v3.toInt ≤ 2 → (gLq ML185_2_2 M ∧ gHq ML185_2_2 M) → (2 - v3.toInt).toNat = n → PW G false 0 185 (p_mc 185) (p_msl 185) Kr 2 [(0, .ref 294), (1, .int a1), (2, .int a2), (3, .int v3)] [] 311 ML185_2_2 0 0 := by
    intro n
    induction n using Nat.strongRecOn with
    | ind n ih_L185_2_2 =>
    intro ML185_2_2 v3 IML185_2_2 FML185_2_2 hbL185_2_20 hbL185_2_21 hbL185_2_22 hmL185_2_2
    refine PW.iload_n q_185_2 rfl ?_
    refine PW.iload_n q_185_3 rfl ?_
    refine PW.jc_ge q_185_4 rfl (fun h4 => ?_) (fun h4 => ?_)
    · skip
      refine PW.cI q_185_31 (by decide) fun c5 hc5 => ?_
      refine PW.rI q_185_32 rfl (by decide) (by decide) ?_
      exact hK c5 ML185_2_2 IML185_2_2 FML185_2_2 (by omega) (by omega) (by omega) ⟨hbL185_2_22.1, hbL185_2_22.2⟩
    · skip
      refine PW.aload_n q_185_7 rfl ?_
      refine PW.gR 299 q_185_8 (Or.inl t_ft_185_43) gF_40_9 kd_294 IML185_2_2.1 (by decide) rfl ?_
      refine PW.iload_n q_185_11 rfl ?_
      refine PW.iload_n q_185_12 rfl ?_
      refine PW.addN q_185_13 (by omega) (by omega) fun x6 hx6 => ?_
      refine PW.aL q_185_14 rfl kd_299 IML185_2_2.1 (by decide) (by omega) (by omega) fun l7 fl7 => ?_
      refine PW.aload_n q_185_15 rfl ?_
      refine PW.gL q_185_16 (Or.inl t_ft_185_157) gF_40_17 kd_294 IML185_2_2.1 (by decide) fun l8 fl8 => ?_
      refine PW.lcmpH q_185_19 fun x9 => ?_
      refine PW.jz_ne q_185_20 rfl (fun h10 => ?_) (fun h10 => ?_)
      · skip
        refine PW.incN q_185_25 rfl (by decide) (by decide) (by omega) (by omega) fun x11 hx11 => ?_
        refine PW.goto q_185_28 rfl ?_
        refine PW.lvS (lk1 rfl (lk1 rfl (lk1 rfl (lk1 rfl lk0)))) (ih_L185_2_2 _ ?_ ML185_2_2 x11 IML185_2_2 FML185_2_2 (by omega) (by omega) ⟨hbL185_2_22.1, hbL185_2_22.2⟩ rfl)
        omega
      · skip
        refine PW.iload_n q_185_23 rfl ?_
        refine PW.rI q_185_24 rfl (by decide) (by decide) ?_
        exact hK v3 ML185_2_2 IML185_2_2 FML185_2_2 (by omega) (by omega) (by omega) ⟨hbL185_2_22.1, hbL185_2_22.2⟩
  exact PW.lvS (lk1 rfl (lk1 rfl (lk1 rfl (lk1 rfl lk0)))) (L185_2_2 _ M c1 I F (by omega) (by omega) ⟨rfl, gHq.refl⟩ rfl)
theorem c_X12_find_s (V : pM → Prop) (hV : Stab V) (G : pG) (Kr : pK) (M : pM) (I : Iv V M) (a1 : Int32) (a2 : Int32) (hl_a1 : 0 ≤ a1.toInt) (hh_a1 : a1.toInt ≤ 0) (hl_a2 : 0 ≤ a2.toInt) (hh_a2 : a2.toInt ≤ 6) (hK : ∀ (x : Int32) (M1 : pM), Iv V M1 → Fr [] M M1 → -1 ≤ x.toInt → x.toInt ≤ 5 → (x.toInt = -1 ∨ (0 ≤ x.toInt ∧ x.toInt < a2.toInt)) → ((gLq M1 M) ∧ gHq M1 M) → Kr.1 (some (.int x)) 311 M1) : PW G false 0 185 (p_mc 185) (p_msl 185) Kr 0 (lv_args 0 [.ref 294, .int a1, .int a2]) [] 311 M 0 0 := by
  have F : Fr [] M M := Fr.refl
  refine PW.cI q_185_0 (by decide) fun c1 hc1 => ?_
  refine PW.istore_n q_185_1 (by decide) ?_
  have L185_2_2 : ∀ (n : Nat) (ML185_2_2 : pM) (v3 : Int32), Iv (V) ML185_2_2 → Fr [] M ML185_2_2 → 0 ≤ v3.toInt → v3.toInt ≤ 6 → (gLq ML185_2_2 M ∧ gHq ML185_2_2 M) → (6 - v3.toInt).toNat = n → PW G false 0 185 (p_mc 185) (p_msl 185) Kr 2 [(0, .ref 294), (1, .int a1), (2, .int a2), (3, .int v3)] [] 311 ML185_2_2 0 0 := by
    intro n
    induction n using Nat.strongRecOn with
    | ind n ih_L185_2_2 =>
    intro ML185_2_2 v3 IML185_2_2 FML185_2_2 hbL185_2_20 hbL185_2_21 hbL185_2_22 hmL185_2_2
    refine PW.iload_n q_185_2 rfl ?_
    refine PW.iload_n q_185_3 rfl ?_
    refine PW.jc_ge q_185_4 rfl (fun h4 => ?_) (fun h4 => ?_)
    · skip
      refine PW.cI q_185_31 (by decide) fun c5 hc5 => ?_
      refine PW.rI q_185_32 rfl (by decide) (by decide) ?_
      exact hK c5 ML185_2_2 IML185_2_2 FML185_2_2 (by omega) (by omega) (by omega) ⟨hbL185_2_22.1, hbL185_2_22.2⟩
    · skip
      refine PW.aload_n q_185_7 rfl ?_
      refine PW.gR 299 q_185_8 (Or.inl t_ft_185_43) gF_40_9 kd_294 IML185_2_2.1 (by decide) rfl ?_
      refine PW.iload_n q_185_11 rfl ?_
      refine PW.iload_n q_185_12 rfl ?_
      refine PW.addN q_185_13 (by omega) (by omega) fun x6 hx6 => ?_
      refine PW.aL q_185_14 rfl kd_299 IML185_2_2.1 (by decide) (by omega) (by omega) fun l7 fl7 => ?_
      refine PW.aload_n q_185_15 rfl ?_
      refine PW.gL q_185_16 (Or.inl t_ft_185_157) gF_40_17 kd_294 IML185_2_2.1 (by decide) fun l8 fl8 => ?_
      refine PW.lcmpH q_185_19 fun x9 => ?_
      refine PW.jz_ne q_185_20 rfl (fun h10 => ?_) (fun h10 => ?_)
      · skip
        refine PW.incN q_185_25 rfl (by decide) (by decide) (by omega) (by omega) fun x11 hx11 => ?_
        refine PW.goto q_185_28 rfl ?_
        refine PW.lvS (lk1 rfl (lk1 rfl (lk1 rfl (lk1 rfl lk0)))) (ih_L185_2_2 _ ?_ ML185_2_2 x11 IML185_2_2 FML185_2_2 (by omega) (by omega) ⟨hbL185_2_22.1, hbL185_2_22.2⟩ rfl)
        omega
      · skip
        refine PW.iload_n q_185_23 rfl ?_
        refine PW.rI q_185_24 rfl (by decide) (by decide) ?_
        exact hK v3 ML185_2_2 IML185_2_2 FML185_2_2 (by omega) (by omega) (by omega) ⟨hbL185_2_22.1, hbL185_2_22.2⟩
  exact PW.lvS (lk1 rfl (lk1 rfl (lk1 rfl (lk1 rfl lk0)))) (L185_2_2 _ M c1 I F (by omega) (by omega) ⟨rfl, gHq.refl⟩ rfl)
theorem c_X12_fresh (V : pM → Prop) (hV : Stab V) (G : pG) (Kr : pK) (M : pM) (I : Iv V M) (a1 : Int32) (hl_a1 : 8 ≤ a1.toInt) (hh_a1 : a1.toInt ≤ 15) (hK : ∀ (x : Int32) (M1 : pM), Iv V M1 → Fr [40, 45] M M1 → 0 ≤ x.toInt → x.toInt ≤ 1 → (o_i (M 294) 4 ≤ o_i (M1 294) 4 ∧ (x.toInt = 0 ∨ o_i (M1 294) 11 = 0 ∨ o_i (M1 294) 11 = 4 ∨ o_i (M 294) 4 + 1 ≤ o_i (M1 294) 4)) → (gLq M1 M) → Kr.1 (some (.int x)) 311 M1) : PW G false 2 186 (p_mc 186) (p_msl 186) Kr 0 (lv_args 0 [.ref 294, .int a1]) [] 311 M 0 0 := by
  have F : Fr [40, 45] M M := Fr.refl
  refine PW.aload_n q_186_0 rfl ?_
  refine PW.cV (as := []) (rest := []) q_186_1 t_mv_186_187 kd_294 I.1 (by decide) rfl (by decide) rfl rfl (Nat.le_of_ble_eq_true rfl) (Nat.le_of_ble_eq_true rfl) (by decide) (by decide) ?_
  refine PW.up (by decide) (c_X12_isName (V) (hV) G _ M I  fun x2 M1 IM1 GM1 hx2 kx2 TM1 => ?_)
  have FM1 := Fr.trans F GM1 (rfl)
  have tr3 : o_i (M1 294) 4 = o_i (M 294) 4 := by rw [Fr.at GM1 kd_294 (by decide)]
  have tr4 : o_i (M1 294) 11 = o_i (M 294) 11 := by rw [Fr.at GM1 kd_294 (by decide)]
  refine PW.jz_ne q_186_4 rfl (fun h5 => ?_) (fun h5 => ?_)
  · skip
    refine PW.aload_n q_186_13 rfl ?_
    refine PW.cB q_186_14 (by decide) fun c6 hc6 => ?_
    refine PW.aload_n q_186_16 rfl ?_
    refine PW.gR 297 q_186_17 (Or.inl t_ft_186_37) gF_40_7 kd_294 IM1.1 (by decide) rfl ?_
    refine PW.cI q_186_20 (by decide) fun c7 hc7 => ?_
    refine PW.aI q_186_21 gA_43 kd_297 IM1.1 (by decide) gB_43_0_0 (by decide) (by omega) (by omega) fun x8 fx8 hx8 kx8 => ?_
    refine PW.cV (as := [_, _]) (rest := []) q_186_22 t_mv_186_191 kd_294 IM1.1 (by decide) rfl (by decide) rfl rfl (Nat.le_of_ble_eq_true rfl) (Nat.le_of_ble_eq_true rfl) (by decide) (by decide) ?_
    refine PW.up (by decide) (c_X12_find (V) (hV) G _ M1 IM1 c6 x8 (by omega) (by omega) (by omega) (by omega) fun x10 M9 IM9 GM9 hx10 kx10 PM9 TM9 => ?_)
    have FM9 := Fr.trans FM1 GM9 (rfl)
    have tr11 : o_i (M9 294) 4 = o_i (M1 294) 4 := by rw [Fr.at GM9 kd_294 (by decide)]
    have tr12 : o_i (M9 294) 11 = o_i (M1 294) 11 := by rw [Fr.at GM9 kd_294 (by decide)]
    refine PW.jz_ge q_186_25 rfl (fun h13 => ?_) (fun h13 => ?_)
    · skip
      refine PW.aload_n q_186_43 rfl ?_
      refine PW.cI q_186_44 (by decide) fun c14 hc14 => ?_
      refine PW.cV (as := [_]) (rest := []) q_186_45 t_mv_186_170 kd_294 IM9.1 (by decide) rfl (by decide) rfl rfl (Nat.le_of_ble_eq_true rfl) (Nat.le_of_ble_eq_true rfl) (by decide) (by decide) ?_
      refine PW.up (by decide) (c_X12_bad (V) (hV) G _ M9 IM9 c14 fun x16 M15 IM15 GM15 hx16 kx16 PM15 TM15 => ?_)
      have FM15 := Fr.trans FM9 GM15 (rfl)
      refine PW.rZ q_186_48 rfl (by omega) (by omega) (by decide) (by decide) ?_
      exact hK x16 M15 IM15 FM15 (by omega) (by omega) (by omega) (TM15.trans ((congrArg (fun e => o_i e 2) (Fr.at GM9 kd_294 rfl)).trans (congrArg (fun e => o_i e 2) (Fr.at GM1 kd_294 rfl))))
    · skip
      refine PW.aload_n q_186_28 rfl ?_
      refine PW.cB q_186_29 (by decide) fun c17 hc17 => ?_
      refine PW.aload_n q_186_31 rfl ?_
      refine PW.gR 297 q_186_32 (Or.inl t_ft_186_37) gF_40_7 kd_294 IM9.1 (by decide) rfl ?_
      refine PW.cI q_186_35 (by decide) fun c18 hc18 => ?_
      refine PW.aI q_186_36 gA_43 kd_297 IM9.1 (by decide) gB_43_1_1 (by decide) (by omega) (by omega) fun x19 fx19 hx19 kx19 => ?_
      refine PW.cV (as := [_, _]) (rest := []) q_186_37 t_mv_186_191 kd_294 IM9.1 (by decide) rfl (by decide) rfl rfl (Nat.le_of_ble_eq_true rfl) (Nat.le_of_ble_eq_true rfl) (by decide) (by decide) ?_
      refine PW.up (by decide) (c_X12_find_d (V) (hV) G _ M9 IM9 c17 x19 (by omega) (by omega) (by omega) (by omega) fun x21 M20 IM20 GM20 hx21 kx21 PM20 TM20 => ?_)
      have FM20 := Fr.trans FM9 GM20 (rfl)
      have tr22 : o_i (M20 294) 4 = o_i (M9 294) 4 := by rw [Fr.at GM20 kd_294 (by decide)]
      have tr23 : o_i (M20 294) 11 = o_i (M9 294) 11 := by rw [Fr.at GM20 kd_294 (by decide)]
      refine PW.jz_lt q_186_40 rfl (fun h24 => ?_) (fun h24 => ?_)
      · skip
        refine PW.aload_n q_186_49 rfl ?_
        refine PW.gR 299 q_186_50 (Or.inl t_ft_186_43) gF_40_9 kd_294 IM20.1 (by decide) rfl ?_
        refine PW.iload_n q_186_53 rfl ?_
        refine PW.aload_n q_186_54 rfl ?_
        refine PW.gL q_186_55 (Or.inl t_ft_186_157) gF_40_17 kd_294 IM20.1 (by decide) fun l25 fl25 => ?_
        refine PW.wL q_186_58 rfl kd_299 hV IM20 (by decide) rfl (by omega) (by omega) fun M26 IM26 UM26 => ?_
        have FM26 := Fr.pu FM20 UM26 kd_299 (rfl : List.contains [40, 45] 45 = true)
        have tr27 : o_i (M26 294) 4 = o_i (M20 294) 4 := by rw [UM26 294 (g_ne kd_294 kd_299 (by decide))]
        have tr28 : o_i (M26 294) 11 = o_i (M20 294) 11 := by rw [UM26 294 (g_ne kd_294 kd_299 (by decide))]
        refine PW.aload_n q_186_59 rfl ?_
        refine PW.cV (as := []) (rest := []) q_186_60 t_mv_186_173 kd_294 IM26.1 (by decide) rfl (by decide) rfl rfl (Nat.le_of_ble_eq_true rfl) (Nat.le_of_ble_eq_true rfl) (by decide) (by decide) ?_
        refine PW.up (by decide) (c_X12_go (V) (hV) G _ M26 IM26  fun M29 IM29 GM29 PM29 TM29 => ?_)
        have FM29 := Fr.trans FM26 GM29 (rfl)
        obtain ⟨PaM29, PdM29, PbM29, PeM29⟩ := PM29
        refine PW.cI q_186_63 (by decide) fun c30 hc30 => ?_
        refine PW.rZ q_186_64 rfl (by omega) (by omega) (by decide) (by decide) ?_
        exact hK c30 M29 IM29 FM29 (by omega) (by omega) (by omega) (TM29.1.trans ((congrArg (fun e => o_i e 2) (UM26 294 (by decide))).trans ((congrArg (fun e => o_i e 2) (Fr.at GM20 kd_294 rfl)).trans ((congrArg (fun e => o_i e 2) (Fr.at GM9 kd_294 rfl)).trans (congrArg (fun e => o_i e 2) (Fr.at GM1 kd_294 rfl))))))
      · skip
        refine PW.aload_n q_186_43 rfl ?_
        refine PW.cI q_186_44 (by decide) fun c31 hc31 => ?_
        refine PW.cV (as := [_]) (rest := []) q_186_45 t_mv_186_170 kd_294 IM20.1 (by decide) rfl (by decide) rfl rfl (Nat.le_of_ble_eq_true rfl) (Nat.le_of_ble_eq_true rfl) (by decide) (by decide) ?_
        refine PW.up (by decide) (c_X12_bad (V) (hV) G _ M20 IM20 c31 fun x33 M32 IM32 GM32 hx33 kx33 PM32 TM32 => ?_)
        have FM32 := Fr.trans FM20 GM32 (rfl)
        refine PW.rZ q_186_48 rfl (by omega) (by omega) (by decide) (by decide) ?_
        exact hK x33 M32 IM32 FM32 (by omega) (by omega) (by omega) (TM32.trans ((congrArg (fun e => o_i e 2) (Fr.at GM20 kd_294 rfl)).trans ((congrArg (fun e => o_i e 2) (Fr.at GM9 kd_294 rfl)).trans (congrArg (fun e => o_i e 2) (Fr.at GM1 kd_294 rfl)))))
  · skip
    refine PW.aload_n q_186_7 rfl ?_
    refine PW.cI q_186_8 (by decide) fun c34 hc34 => ?_
    refine PW.cV (as := [_]) (rest := []) q_186_9 t_mv_186_170 kd_294 IM1.1 (by decide) rfl (by decide) rfl rfl (Nat.le_of_ble_eq_true rfl) (Nat.le_of_ble_eq_true rfl) (by decide) (by decide) ?_
    refine PW.up (by decide) (c_X12_bad (V) (hV) G _ M1 IM1 c34 fun x36 M35 IM35 GM35 hx36 kx36 PM35 TM35 => ?_)
    have FM35 := Fr.trans FM1 GM35 (rfl)
    refine PW.rZ q_186_12 rfl (by omega) (by omega) (by decide) (by decide) ?_
    exact hK x36 M35 IM35 FM35 (by omega) (by omega) (by omega) (TM35.trans (congrArg (fun e => o_i e 2) (Fr.at GM1 kd_294 rfl)))
theorem c_X12_looksAt (V : pM → Prop) (hV : Stab V) (G : pG) (Kr : pK) (M : pM) (I : Iv V M) (a1 : Int32) (a2 : Int32) (hl_a1 : 8 ≤ a1.toInt) (hh_a1 : a1.toInt ≤ 8) (hl_a2 : 0 ≤ a2.toInt) (hh_a2 : a2.toInt ≤ 6) (hK : ∀ (x : Int32) (M1 : pM), Iv V M1 → Fr [40] M M1 → 0 ≤ x.toInt → x.toInt ≤ 1 → (o_i (M1 294) 4 = o_i (M 294) 4 ∧ o_i (M1 294) 11 = o_i (M 294) 11 ∧ o_i (M1 294) 34 = o_i (M 294) 34 ∧ (x.toInt = 0 ∨ (0 ≤ o_i (M1 294) 18 ∧ o_i (M1 294) 18 < a2.toInt))) → (gLq M1 M) → Kr.1 (some (.int x)) 311 M1) : PW G false 1 187 (p_mc 187) (p_msl 187) Kr 0 (lv_args 0 [.ref 294, .int a1, .int a2]) [] 311 M 0 0 := by
  have F : Fr [40] M M := Fr.refl
  refine PW.aload_n q_187_0 rfl ?_
  refine PW.cV (as := []) (rest := []) q_187_1 t_mv_187_187 kd_294 I.1 (by decide) rfl (by decide) rfl rfl (Nat.le_of_ble_eq_true rfl) (Nat.le_of_ble_eq_true rfl) (by decide) (by decide) ?_
  refine PW.up (by decide) (c_X12_isName (V) (hV) G _ M I  fun x2 M1 IM1 GM1 hx2 kx2 TM1 => ?_)
  have FM1 := Fr.trans F GM1 (rfl)
  have tr3 : o_i (M1 294) 4 = o_i (M 294) 4 := by rw [Fr.at GM1 kd_294 (by decide)]
  have tr4 : o_i (M1 294) 11 = o_i (M 294) 11 := by rw [Fr.at GM1 kd_294 (by decide)]
  have tr5 : o_i (M1 294) 18 = o_i (M 294) 18 := by rw [Fr.at GM1 kd_294 (by decide)]
  have tr6 : o_i (M1 294) 34 = o_i (M 294) 34 := by rw [Fr.at GM1 kd_294 (by decide)]
  refine PW.jz_ne q_187_4 rfl (fun h7 => ?_) (fun h7 => ?_)
  · skip
    refine PW.aload_n q_187_13 rfl ?_
    refine PW.aload_n q_187_14 rfl ?_
    refine PW.iload_n q_187_15 rfl ?_
    refine PW.iload_n q_187_16 rfl ?_
    refine PW.cV (as := [_, _]) (rest := [_]) q_187_17 t_mv_187_191 kd_294 IM1.1 (by decide) rfl (by decide) rfl rfl (Nat.le_of_ble_eq_true rfl) (Nat.le_of_ble_eq_true rfl) (by decide) (by decide) ?_
    refine PW.up (by decide) (c_X12_find (V) (hV) G _ M1 IM1 a1 a2 (by omega) (by omega) (by omega) (by omega) fun x9 M8 IM8 GM8 hx9 kx9 PM8 TM8 => ?_)
    have FM8 := Fr.trans FM1 GM8 (rfl)
    have tr10 : o_i (M8 294) 4 = o_i (M1 294) 4 := by rw [Fr.at GM8 kd_294 (by decide)]
    have tr11 : o_i (M8 294) 11 = o_i (M1 294) 11 := by rw [Fr.at GM8 kd_294 (by decide)]
    have tr12 : o_i (M8 294) 18 = o_i (M1 294) 18 := by rw [Fr.at GM8 kd_294 (by decide)]
    have tr13 : o_i (M8 294) 34 = o_i (M1 294) 34 := by rw [Fr.at GM8 kd_294 (by decide)]
    refine PW.pI q_187_20 (Or.inl t_ft_187_180) gF_40_18 gP_40_18 kd_294 hV IM8 (by decide) rfl (n_lo _) (n_hi _) fun M14 IM14 fM14 UM14 => ?_
    have FM14 := Fr.pu FM8 UM14.1 kd_294 (rfl : List.contains [40] 40 = true)
    have tr15 := UM14.i (c := 294) (k := 4) (Or.inr (by decide))
    have tr16 := UM14.i (c := 294) (k := 11) (Or.inr (by decide))
    have tr17 := o_i_of fM14
    have tr18 := UM14.i (c := 294) (k := 34) (Or.inr (by decide))
    refine PW.aload_n q_187_23 rfl ?_
    refine PW.gE q_187_24 (Or.inl t_ft_187_180) gF_40_18 kd_294 IM14.1 (by decide) fM14 ?_
    have tr19 := o_i_of fM14
    refine PW.jz_ge q_187_27 rfl (fun h20 => ?_) (fun h20 => ?_)
    · skip
      refine PW.cI q_187_38 (by decide) fun c21 hc21 => ?_
      refine PW.goto q_187_39 rfl ?_
      refine PW.rZ q_187_43 rfl (by omega) (by omega) (by decide) (by decide) ?_
      exact hK c21 M14 IM14 FM14 (by omega) (by omega) (by omega) ((UM14.i (c := 294) (k := 2) (Or.inr (by decide))).trans ((congrArg (fun e => o_i e 2) (Fr.at GM8 kd_294 rfl)).trans (congrArg (fun e => o_i e 2) (Fr.at GM1 kd_294 rfl))))
    · skip
      refine PW.aload_n q_187_30 rfl ?_
      refine PW.cI q_187_31 (by decide) fun c22 hc22 => ?_
      refine PW.cV (as := [_]) (rest := []) q_187_32 t_mv_187_170 kd_294 IM14.1 (by decide) rfl (by decide) rfl rfl (Nat.le_of_ble_eq_true rfl) (Nat.le_of_ble_eq_true rfl) (by decide) (by decide) ?_
      refine PW.up (by decide) (c_X12_bad (V) (hV) G _ M14 IM14 c22 fun x24 M23 IM23 GM23 hx24 kx24 PM23 TM23 => ?_)
      have FM23 := Fr.trans FM14 GM23 (rfl)
      refine PW.jz_eq q_187_35 rfl (fun h25 => ?_) (fun h25 => False.elim (by omega))
      refine PW.cI q_187_42 (by decide) fun c26 hc26 => ?_
      refine PW.rZ q_187_43 rfl (by omega) (by omega) (by decide) (by decide) ?_
      exact hK c26 M23 IM23 FM23 (by omega) (by omega) (by omega) (TM23.trans ((UM14.i (c := 294) (k := 2) (Or.inr (by decide))).trans ((congrArg (fun e => o_i e 2) (Fr.at GM8 kd_294 rfl)).trans (congrArg (fun e => o_i e 2) (Fr.at GM1 kd_294 rfl)))))
  · skip
    refine PW.aload_n q_187_7 rfl ?_
    refine PW.cI q_187_8 (by decide) fun c27 hc27 => ?_
    refine PW.cV (as := [_]) (rest := []) q_187_9 t_mv_187_170 kd_294 IM1.1 (by decide) rfl (by decide) rfl rfl (Nat.le_of_ble_eq_true rfl) (Nat.le_of_ble_eq_true rfl) (by decide) (by decide) ?_
    refine PW.up (by decide) (c_X12_bad (V) (hV) G _ M1 IM1 c27 fun x29 M28 IM28 GM28 hx29 kx29 PM28 TM28 => ?_)
    have FM28 := Fr.trans FM1 GM28 (rfl)
    refine PW.rZ q_187_12 rfl (by omega) (by omega) (by decide) (by decide) ?_
    exact hK x29 M28 IM28 FM28 (by omega) (by omega) (by omega) (TM28.trans (congrArg (fun e => o_i e 2) (Fr.at GM1 kd_294 rfl)))
theorem c_X12_looksAt_d (V : pM → Prop) (hV : Stab V) (G : pG) (Kr : pK) (M : pM) (I : Iv V M) (a1 : Int32) (a2 : Int32) (hl_a1 : 14 ≤ a1.toInt) (hh_a1 : a1.toInt ≤ 14) (hl_a2 : 0 ≤ a2.toInt) (hh_a2 : a2.toInt ≤ 2) (hK : ∀ (x : Int32) (M1 : pM), Iv V M1 → Fr [40] M M1 → 0 ≤ x.toInt → x.toInt ≤ 1 → (o_i (M1 294) 4 = o_i (M 294) 4 ∧ o_i (M1 294) 11 = o_i (M 294) 11 ∧ o_i (M1 294) 34 = o_i (M 294) 34 ∧ (x.toInt = 0 ∨ (0 ≤ o_i (M1 294) 18 ∧ o_i (M1 294) 18 < a2.toInt))) → (gLq M1 M) → Kr.1 (some (.int x)) 311 M1) : PW G false 1 187 (p_mc 187) (p_msl 187) Kr 0 (lv_args 0 [.ref 294, .int a1, .int a2]) [] 311 M 0 0 := by
  have F : Fr [40] M M := Fr.refl
  refine PW.aload_n q_187_0 rfl ?_
  refine PW.cV (as := []) (rest := []) q_187_1 t_mv_187_187 kd_294 I.1 (by decide) rfl (by decide) rfl rfl (Nat.le_of_ble_eq_true rfl) (Nat.le_of_ble_eq_true rfl) (by decide) (by decide) ?_
  refine PW.up (by decide) (c_X12_isName (V) (hV) G _ M I  fun x2 M1 IM1 GM1 hx2 kx2 TM1 => ?_)
  have FM1 := Fr.trans F GM1 (rfl)
  have tr3 : o_i (M1 294) 4 = o_i (M 294) 4 := by rw [Fr.at GM1 kd_294 (by decide)]
  have tr4 : o_i (M1 294) 11 = o_i (M 294) 11 := by rw [Fr.at GM1 kd_294 (by decide)]
  have tr5 : o_i (M1 294) 18 = o_i (M 294) 18 := by rw [Fr.at GM1 kd_294 (by decide)]
  have tr6 : o_i (M1 294) 34 = o_i (M 294) 34 := by rw [Fr.at GM1 kd_294 (by decide)]
  refine PW.jz_ne q_187_4 rfl (fun h7 => ?_) (fun h7 => ?_)
  · skip
    refine PW.aload_n q_187_13 rfl ?_
    refine PW.aload_n q_187_14 rfl ?_
    refine PW.iload_n q_187_15 rfl ?_
    refine PW.iload_n q_187_16 rfl ?_
    refine PW.cV (as := [_, _]) (rest := [_]) q_187_17 t_mv_187_191 kd_294 IM1.1 (by decide) rfl (by decide) rfl rfl (Nat.le_of_ble_eq_true rfl) (Nat.le_of_ble_eq_true rfl) (by decide) (by decide) ?_
    refine PW.up (by decide) (c_X12_find_d (V) (hV) G _ M1 IM1 a1 a2 (by omega) (by omega) (by omega) (by omega) fun x9 M8 IM8 GM8 hx9 kx9 PM8 TM8 => ?_)
    have FM8 := Fr.trans FM1 GM8 (rfl)
    have tr10 : o_i (M8 294) 4 = o_i (M1 294) 4 := by rw [Fr.at GM8 kd_294 (by decide)]
    have tr11 : o_i (M8 294) 11 = o_i (M1 294) 11 := by rw [Fr.at GM8 kd_294 (by decide)]
    have tr12 : o_i (M8 294) 18 = o_i (M1 294) 18 := by rw [Fr.at GM8 kd_294 (by decide)]
    have tr13 : o_i (M8 294) 34 = o_i (M1 294) 34 := by rw [Fr.at GM8 kd_294 (by decide)]
    refine PW.pI q_187_20 (Or.inl t_ft_187_180) gF_40_18 gP_40_18 kd_294 hV IM8 (by decide) rfl (n_lo _) (n_hi _) fun M14 IM14 fM14 UM14 => ?_
    have FM14 := Fr.pu FM8 UM14.1 kd_294 (rfl : List.contains [40] 40 = true)
    have tr15 := UM14.i (c := 294) (k := 4) (Or.inr (by decide))
    have tr16 := UM14.i (c := 294) (k := 11) (Or.inr (by decide))
    have tr17 := o_i_of fM14
    have tr18 := UM14.i (c := 294) (k := 34) (Or.inr (by decide))
    refine PW.aload_n q_187_23 rfl ?_
    refine PW.gE q_187_24 (Or.inl t_ft_187_180) gF_40_18 kd_294 IM14.1 (by decide) fM14 ?_
    have tr19 := o_i_of fM14
    refine PW.jz_ge q_187_27 rfl (fun h20 => ?_) (fun h20 => ?_)
    · skip
      refine PW.cI q_187_38 (by decide) fun c21 hc21 => ?_
      refine PW.goto q_187_39 rfl ?_
      refine PW.rZ q_187_43 rfl (by omega) (by omega) (by decide) (by decide) ?_
      exact hK c21 M14 IM14 FM14 (by omega) (by omega) (by omega) ((UM14.i (c := 294) (k := 2) (Or.inr (by decide))).trans ((congrArg (fun e => o_i e 2) (Fr.at GM8 kd_294 rfl)).trans (congrArg (fun e => o_i e 2) (Fr.at GM1 kd_294 rfl))))
    · skip
      refine PW.aload_n q_187_30 rfl ?_
      refine PW.cI q_187_31 (by decide) fun c22 hc22 => ?_
      refine PW.cV (as := [_]) (rest := []) q_187_32 t_mv_187_170 kd_294 IM14.1 (by decide) rfl (by decide) rfl rfl (Nat.le_of_ble_eq_true rfl) (Nat.le_of_ble_eq_true rfl) (by decide) (by decide) ?_
      refine PW.up (by decide) (c_X12_bad (V) (hV) G _ M14 IM14 c22 fun x24 M23 IM23 GM23 hx24 kx24 PM23 TM23 => ?_)
      have FM23 := Fr.trans FM14 GM23 (rfl)
      refine PW.jz_eq q_187_35 rfl (fun h25 => ?_) (fun h25 => False.elim (by omega))
      refine PW.cI q_187_42 (by decide) fun c26 hc26 => ?_
      refine PW.rZ q_187_43 rfl (by omega) (by omega) (by decide) (by decide) ?_
      exact hK c26 M23 IM23 FM23 (by omega) (by omega) (by omega) (TM23.trans ((UM14.i (c := 294) (k := 2) (Or.inr (by decide))).trans ((congrArg (fun e => o_i e 2) (Fr.at GM8 kd_294 rfl)).trans (congrArg (fun e => o_i e 2) (Fr.at GM1 kd_294 rfl)))))
  · skip
    refine PW.aload_n q_187_7 rfl ?_
    refine PW.cI q_187_8 (by decide) fun c27 hc27 => ?_
    refine PW.cV (as := [_]) (rest := []) q_187_9 t_mv_187_170 kd_294 IM1.1 (by decide) rfl (by decide) rfl rfl (Nat.le_of_ble_eq_true rfl) (Nat.le_of_ble_eq_true rfl) (by decide) (by decide) ?_
    refine PW.up (by decide) (c_X12_bad (V) (hV) G _ M1 IM1 c27 fun x29 M28 IM28 GM28 hx29 kx29 PM28 TM28 => ?_)
    have FM28 := Fr.trans FM1 GM28 (rfl)
    refine PW.rZ q_187_12 rfl (by omega) (by omega) (by decide) (by decide) ?_
    exact hK x29 M28 IM28 FM28 (by omega) (by omega) (by omega) (TM28.trans (congrArg (fun e => o_i e 2) (Fr.at GM1 kd_294 rfl)))
theorem c_X12_looksAt_s (V : pM → Prop) (hV : Stab V) (G : pG) (Kr : pK) (M : pM) (I : Iv V M) (a1 : Int32) (a2 : Int32) (hl_a1 : 0 ≤ a1.toInt) (hh_a1 : a1.toInt ≤ 0) (hl_a2 : 0 ≤ a2.toInt) (hh_a2 : a2.toInt ≤ 6) (hK : ∀ (x : Int32) (M1 : pM), Iv V M1 → Fr [40] M M1 → 0 ≤ x.toInt → x.toInt ≤ 1 → (o_i (M1 294) 4 = o_i (M 294) 4 ∧ o_i (M1 294) 11 = o_i (M 294) 11 ∧ o_i (M1 294) 34 = o_i (M 294) 34 ∧ (x.toInt = 0 ∨ (0 ≤ o_i (M1 294) 18 ∧ o_i (M1 294) 18 < a2.toInt))) → (gLq M1 M) → Kr.1 (some (.int x)) 311 M1) : PW G false 1 187 (p_mc 187) (p_msl 187) Kr 0 (lv_args 0 [.ref 294, .int a1, .int a2]) [] 311 M 0 0 := by
  have F : Fr [40] M M := Fr.refl
  refine PW.aload_n q_187_0 rfl ?_
  refine PW.cV (as := []) (rest := []) q_187_1 t_mv_187_187 kd_294 I.1 (by decide) rfl (by decide) rfl rfl (Nat.le_of_ble_eq_true rfl) (Nat.le_of_ble_eq_true rfl) (by decide) (by decide) ?_
  refine PW.up (by decide) (c_X12_isName (V) (hV) G _ M I  fun x2 M1 IM1 GM1 hx2 kx2 TM1 => ?_)
  have FM1 := Fr.trans F GM1 (rfl)
  have tr3 : o_i (M1 294) 4 = o_i (M 294) 4 := by rw [Fr.at GM1 kd_294 (by decide)]
  have tr4 : o_i (M1 294) 11 = o_i (M 294) 11 := by rw [Fr.at GM1 kd_294 (by decide)]
  have tr5 : o_i (M1 294) 18 = o_i (M 294) 18 := by rw [Fr.at GM1 kd_294 (by decide)]
  have tr6 : o_i (M1 294) 34 = o_i (M 294) 34 := by rw [Fr.at GM1 kd_294 (by decide)]
  refine PW.jz_ne q_187_4 rfl (fun h7 => ?_) (fun h7 => ?_)
  · skip
    refine PW.aload_n q_187_13 rfl ?_
    refine PW.aload_n q_187_14 rfl ?_
    refine PW.iload_n q_187_15 rfl ?_
    refine PW.iload_n q_187_16 rfl ?_
    refine PW.cV (as := [_, _]) (rest := [_]) q_187_17 t_mv_187_191 kd_294 IM1.1 (by decide) rfl (by decide) rfl rfl (Nat.le_of_ble_eq_true rfl) (Nat.le_of_ble_eq_true rfl) (by decide) (by decide) ?_
    refine PW.up (by decide) (c_X12_find_s (V) (hV) G _ M1 IM1 a1 a2 (by omega) (by omega) (by omega) (by omega) fun x9 M8 IM8 GM8 hx9 kx9 PM8 TM8 => ?_)
    have FM8 := Fr.trans FM1 GM8 (rfl)
    have tr10 : o_i (M8 294) 4 = o_i (M1 294) 4 := by rw [Fr.at GM8 kd_294 (by decide)]
    have tr11 : o_i (M8 294) 11 = o_i (M1 294) 11 := by rw [Fr.at GM8 kd_294 (by decide)]
    have tr12 : o_i (M8 294) 18 = o_i (M1 294) 18 := by rw [Fr.at GM8 kd_294 (by decide)]
    have tr13 : o_i (M8 294) 34 = o_i (M1 294) 34 := by rw [Fr.at GM8 kd_294 (by decide)]
    refine PW.pI q_187_20 (Or.inl t_ft_187_180) gF_40_18 gP_40_18 kd_294 hV IM8 (by decide) rfl (n_lo _) (n_hi _) fun M14 IM14 fM14 UM14 => ?_
    have FM14 := Fr.pu FM8 UM14.1 kd_294 (rfl : List.contains [40] 40 = true)
    have tr15 := UM14.i (c := 294) (k := 4) (Or.inr (by decide))
    have tr16 := UM14.i (c := 294) (k := 11) (Or.inr (by decide))
    have tr17 := o_i_of fM14
    have tr18 := UM14.i (c := 294) (k := 34) (Or.inr (by decide))
    refine PW.aload_n q_187_23 rfl ?_
    refine PW.gE q_187_24 (Or.inl t_ft_187_180) gF_40_18 kd_294 IM14.1 (by decide) fM14 ?_
    have tr19 := o_i_of fM14
    refine PW.jz_ge q_187_27 rfl (fun h20 => ?_) (fun h20 => ?_)
    · skip
      refine PW.cI q_187_38 (by decide) fun c21 hc21 => ?_
      refine PW.goto q_187_39 rfl ?_
      refine PW.rZ q_187_43 rfl (by omega) (by omega) (by decide) (by decide) ?_
      exact hK c21 M14 IM14 FM14 (by omega) (by omega) (by omega) ((UM14.i (c := 294) (k := 2) (Or.inr (by decide))).trans ((congrArg (fun e => o_i e 2) (Fr.at GM8 kd_294 rfl)).trans (congrArg (fun e => o_i e 2) (Fr.at GM1 kd_294 rfl))))
    · skip
      refine PW.aload_n q_187_30 rfl ?_
      refine PW.cI q_187_31 (by decide) fun c22 hc22 => ?_
      refine PW.cV (as := [_]) (rest := []) q_187_32 t_mv_187_170 kd_294 IM14.1 (by decide) rfl (by decide) rfl rfl (Nat.le_of_ble_eq_true rfl) (Nat.le_of_ble_eq_true rfl) (by decide) (by decide) ?_
      refine PW.up (by decide) (c_X12_bad (V) (hV) G _ M14 IM14 c22 fun x24 M23 IM23 GM23 hx24 kx24 PM23 TM23 => ?_)
      have FM23 := Fr.trans FM14 GM23 (rfl)
      refine PW.jz_eq q_187_35 rfl (fun h25 => ?_) (fun h25 => False.elim (by omega))
      refine PW.cI q_187_42 (by decide) fun c26 hc26 => ?_
      refine PW.rZ q_187_43 rfl (by omega) (by omega) (by decide) (by decide) ?_
      exact hK c26 M23 IM23 FM23 (by omega) (by omega) (by omega) (TM23.trans ((UM14.i (c := 294) (k := 2) (Or.inr (by decide))).trans ((congrArg (fun e => o_i e 2) (Fr.at GM8 kd_294 rfl)).trans (congrArg (fun e => o_i e 2) (Fr.at GM1 kd_294 rfl)))))
  · skip
    refine PW.aload_n q_187_7 rfl ?_
    refine PW.cI q_187_8 (by decide) fun c27 hc27 => ?_
    refine PW.cV (as := [_]) (rest := []) q_187_9 t_mv_187_170 kd_294 IM1.1 (by decide) rfl (by decide) rfl rfl (Nat.le_of_ble_eq_true rfl) (Nat.le_of_ble_eq_true rfl) (by decide) (by decide) ?_
    refine PW.up (by decide) (c_X12_bad (V) (hV) G _ M1 IM1 c27 fun x29 M28 IM28 GM28 hx29 kx29 PM28 TM28 => ?_)
    have FM28 := Fr.trans FM1 GM28 (rfl)
    refine PW.rZ q_187_12 rfl (by omega) (by omega) (by decide) (by decide) ?_
    exact hK x29 M28 IM28 FM28 (by omega) (by omega) (by omega) (TM28.trans (congrArg (fun e => o_i e 2) (Fr.at GM1 kd_294 rfl)))
theorem c_X12_isOnce (V : pM → Prop) (hV : Stab V) (G : pG) (Kr : pK) (M : pM) (I : Iv V M) (a1 : Int32) (hK : ∀ (x : Int32) (M1 : pM), Iv V M1 → Fr [40] M M1 → 0 ≤ x.toInt → x.toInt ≤ 1 → (o_i (M 294) 4 ≤ o_i (M1 294) 4 ∧ (x.toInt = 0 ∨ o_i (M1 294) 11 = 0 ∨ o_i (M1 294) 11 = 4 ∨ o_i (M 294) 4 + 1 ≤ o_i (M1 294) 4)) → (gLq M1 M) → Kr.1 (some (.int x)) 311 M1) : PW G false 2 188 (p_mc 188) (p_msl 188) Kr 0 (lv_args 0 [.ref 294, .int a1]) [] 311 M 0 0 := by
  have F : Fr [40] M M := Fr.refl
  refine PW.aload_n q_188_0 rfl ?_
  refine PW.gI q_188_1 (Or.inl t_ft_188_195) gF_40_20 kd_294 I.1 (by decide) fun x1 fx1 hx1 kx1 => ?_
  clear hx1 kx1
  refine PW.iload_n q_188_4 rfl ?_
  refine PW.callS (as := [_, _]) (rest := []) q_188_5 t_ms_188_198 (by decide) rfl (Nat.le_of_ble_eq_true rfl) (Nat.le_of_ble_eq_true rfl) (by decide) (by decide) ?_
  refine PW.iload_n q_167_0 rfl ?_
  refine PW.iload_n q_167_1 rfl ?_
  refine PW.shrH q_167_2 fun x2 => ?_
  refine PW.cI q_167_3 (by decide) fun c3 hc3 => ?_
  refine PW.andP q_167_4 (by omega) fun x4 hx4 kx4 => ?_
  refine PW.cI q_167_5 (by decide) fun c5 hc5 => ?_
  refine PW.jc_ne q_167_6 rfl (fun h6 => ?_) (fun h6 => ?_)
  · skip
    refine PW.cI q_167_13 (by decide) fun c7 hc7 => ?_
    refine PW.rZ q_167_14 rfl (by omega) (by omega) (by decide) (by decide) ?_
    refine PW.jz_eq q_188_8 rfl (fun h8 => ?_) (fun h8 => False.elim (by omega))
    refine PW.aload_n q_188_17 rfl ?_
    refine PW.dup q_188_18 rfl ?_
    refine PW.gE q_188_19 (Or.inl t_ft_188_195) gF_40_20 kd_294 I.1 (by decide) fx1 ?_
    refine PW.cI q_188_22 (by decide) fun c9 hc9 => ?_
    refine PW.iload_n q_188_23 rfl ?_
    refine PW.shlH q_188_24 fun x10 => ?_
    refine PW.orH q_188_25 fun x11 => ?_
    refine PW.pI q_188_26 (Or.inl t_ft_188_195) gF_40_20 gP_40_20 kd_294 hV I (by decide) rfl (n_lo _) (n_hi _) fun M12 IM12 fM12 UM12 => ?_
    have FM12 := Fr.pu F UM12.1 kd_294 (rfl : List.contains [40] 40 = true)
    have tr13 := UM12.i (c := 294) (k := 4) (Or.inr (by decide))
    have tr14 := UM12.i (c := 294) (k := 11) (Or.inr (by decide))
    refine PW.aload_n q_188_29 rfl ?_
    refine PW.cV (as := []) (rest := []) q_188_30 t_mv_188_173 kd_294 IM12.1 (by decide) rfl (by decide) rfl rfl (Nat.le_of_ble_eq_true rfl) (Nat.le_of_ble_eq_true rfl) (by decide) (by decide) ?_
    refine PW.up (by decide) (c_X12_go (V) (hV) G _ M12 IM12  fun M15 IM15 GM15 PM15 TM15 => ?_)
    have FM15 := Fr.trans FM12 GM15 (rfl)
    obtain ⟨PaM15, PdM15, PbM15, PeM15⟩ := PM15
    refine PW.cI q_188_33 (by decide) fun c16 hc16 => ?_
    refine PW.rZ q_188_34 rfl (by omega) (by omega) (by decide) (by decide) ?_
    exact hK c16 M15 IM15 FM15 (by omega) (by omega) (by omega) (TM15.1.trans (UM12.i (c := 294) (k := 2) (Or.inr (by decide))))
  · skip
    refine PW.cI q_167_9 (by decide) fun c17 hc17 => ?_
    refine PW.goto q_167_10 rfl ?_
    refine PW.rZ q_167_14 rfl (by omega) (by omega) (by decide) (by decide) ?_
    refine PW.jz_eq q_188_8 rfl (fun h18 => False.elim (by omega)) (fun h18 => ?_)
    refine PW.aload_n q_188_11 rfl ?_
    refine PW.cI q_188_12 (by decide) fun c19 hc19 => ?_
    refine PW.cV (as := [_]) (rest := []) q_188_13 t_mv_188_170 kd_294 I.1 (by decide) rfl (by decide) rfl rfl (Nat.le_of_ble_eq_true rfl) (Nat.le_of_ble_eq_true rfl) (by decide) (by decide) ?_
    refine PW.up (by decide) (c_X12_bad (V) (hV) G _ M I c19 fun x21 M20 IM20 GM20 hx21 kx21 PM20 TM20 => ?_)
    have FM20 := Fr.trans F GM20 (rfl)
    refine PW.rZ q_188_16 rfl (by omega) (by omega) (by decide) (by decide) ?_
    exact hK x21 M20 IM20 FM20 (by omega) (by omega) (by omega) TM20
theorem c_X12_lawOf (V : pM → Prop) (hV : Stab V) (G : pG) (Kr : pK) (M : pM) (I : Iv V M)  (hK : ∀ (x : Int32) (M1 : pM), Iv V M1 → Fr [] M M1 → -1 ≤ x.toInt → x.toInt ≤ 3 → ((gLq M1 M) ∧ gHq M1 M) → Kr.1 (some (.int x)) 311 M1) : PW G false 1 191 (p_mc 191) (p_msl 191) Kr 0 (lv_args 0 [.ref 294]) [] 311 M 0 0 := by
  have F : Fr [] M M := Fr.refl
  refine PW.aload_n q_191_0 rfl ?_
  refine PW.ldc2 q_191_1 t_lt_191_90 ?_
  refine PW.cV (as := [_]) (rest := []) q_191_4 t_mv_191_201 kd_294 I.1 (by decide) rfl (by decide) rfl rfl (Nat.le_of_ble_eq_true rfl) (Nat.le_of_ble_eq_true rfl) (by decide) (by decide) ?_
  refine PW.up (by decide) (c_X12_isWord (V) (hV) G _ M I _ fun x2 M1 IM1 GM1 hx2 kx2 TM1 => ?_)
  have FM1 := Fr.trans F GM1 (rfl)
  refine PW.jz_eq q_191_7 rfl (fun h3 => ?_) (fun h3 => ?_)
  · skip
    refine PW.aload_n q_191_12 rfl ?_
    refine PW.ldc2 q_191_13 t_lt_191_92 ?_
    refine PW.cV (as := [_]) (rest := []) q_191_16 t_mv_191_201 kd_294 IM1.1 (by decide) rfl (by decide) rfl rfl (Nat.le_of_ble_eq_true rfl) (Nat.le_of_ble_eq_true rfl) (by decide) (by decide) ?_
    refine PW.up (by decide) (c_X12_isWord (V) (hV) G _ M1 IM1 _ fun x5 M4 IM4 GM4 hx5 kx5 TM4 => ?_)
    have FM4 := Fr.trans FM1 GM4 (rfl)
    refine PW.jz_eq q_191_19 rfl (fun h6 => ?_) (fun h6 => ?_)
    · skip
      refine PW.aload_n q_191_24 rfl ?_
      refine PW.ldc2 q_191_25 t_lt_191_94 ?_
      refine PW.cV (as := [_]) (rest := []) q_191_28 t_mv_191_201 kd_294 IM4.1 (by decide) rfl (by decide) rfl rfl (Nat.le_of_ble_eq_true rfl) (Nat.le_of_ble_eq_true rfl) (by decide) (by decide) ?_
      refine PW.up (by decide) (c_X12_isWord (V) (hV) G _ M4 IM4 _ fun x8 M7 IM7 GM7 hx8 kx8 TM7 => ?_)
      have FM7 := Fr.trans FM4 GM7 (rfl)
      refine PW.jz_eq q_191_31 rfl (fun h9 => ?_) (fun h9 => ?_)
      · skip
        refine PW.aload_n q_191_36 rfl ?_
        refine PW.ldc2 q_191_37 t_lt_191_96 ?_
        refine PW.cV (as := [_]) (rest := []) q_191_40 t_mv_191_201 kd_294 IM7.1 (by decide) rfl (by decide) rfl rfl (Nat.le_of_ble_eq_true rfl) (Nat.le_of_ble_eq_true rfl) (by decide) (by decide) ?_
        refine PW.up (by decide) (c_X12_isWord (V) (hV) G _ M7 IM7 _ fun x11 M10 IM10 GM10 hx11 kx11 TM10 => ?_)
        have FM10 := Fr.trans FM7 GM10 (rfl)
        refine PW.jz_eq q_191_43 rfl (fun h12 => ?_) (fun h12 => ?_)
        · skip
          refine PW.cI q_191_50 (by decide) fun c13 hc13 => ?_
          refine PW.rI q_191_51 rfl (by decide) (by decide) ?_
          exact hK c13 M10 IM10 FM10 (by omega) (by omega) ⟨((congrArg (fun e => o_i e 2) (Fr.at GM10 kd_294 rfl)).trans ((congrArg (fun e => o_i e 2) (Fr.at GM7 kd_294 rfl)).trans ((congrArg (fun e => o_i e 2) (Fr.at GM4 kd_294 rfl)).trans (congrArg (fun e => o_i e 2) (Fr.at GM1 kd_294 rfl))))), ((((gHq.refl.cg (Fr.at GM1 kd_296 rfl) (Fr.at GM1 kd_294 rfl)).cg (Fr.at GM4 kd_296 rfl) (Fr.at GM4 kd_294 rfl)).cg (Fr.at GM7 kd_296 rfl) (Fr.at GM7 kd_294 rfl)).cg (Fr.at GM10 kd_296 rfl) (Fr.at GM10 kd_294 rfl))⟩
        · skip
          refine PW.cI q_191_46 (by decide) fun c14 hc14 => ?_
          refine PW.goto q_191_47 rfl ?_
          refine PW.rI q_191_51 rfl (by decide) (by decide) ?_
          exact hK c14 M10 IM10 FM10 (by omega) (by omega) ⟨((congrArg (fun e => o_i e 2) (Fr.at GM10 kd_294 rfl)).trans ((congrArg (fun e => o_i e 2) (Fr.at GM7 kd_294 rfl)).trans ((congrArg (fun e => o_i e 2) (Fr.at GM4 kd_294 rfl)).trans (congrArg (fun e => o_i e 2) (Fr.at GM1 kd_294 rfl))))), ((((gHq.refl.cg (Fr.at GM1 kd_296 rfl) (Fr.at GM1 kd_294 rfl)).cg (Fr.at GM4 kd_296 rfl) (Fr.at GM4 kd_294 rfl)).cg (Fr.at GM7 kd_296 rfl) (Fr.at GM7 kd_294 rfl)).cg (Fr.at GM10 kd_296 rfl) (Fr.at GM10 kd_294 rfl))⟩
      · skip
        refine PW.cI q_191_34 (by decide) fun c15 hc15 => ?_
        refine PW.rI q_191_35 rfl (by decide) (by decide) ?_
        exact hK c15 M7 IM7 FM7 (by omega) (by omega) ⟨((congrArg (fun e => o_i e 2) (Fr.at GM7 kd_294 rfl)).trans ((congrArg (fun e => o_i e 2) (Fr.at GM4 kd_294 rfl)).trans (congrArg (fun e => o_i e 2) (Fr.at GM1 kd_294 rfl)))), (((gHq.refl.cg (Fr.at GM1 kd_296 rfl) (Fr.at GM1 kd_294 rfl)).cg (Fr.at GM4 kd_296 rfl) (Fr.at GM4 kd_294 rfl)).cg (Fr.at GM7 kd_296 rfl) (Fr.at GM7 kd_294 rfl))⟩
    · skip
      refine PW.cI q_191_22 (by decide) fun c16 hc16 => ?_
      refine PW.rI q_191_23 rfl (by decide) (by decide) ?_
      exact hK c16 M4 IM4 FM4 (by omega) (by omega) ⟨((congrArg (fun e => o_i e 2) (Fr.at GM4 kd_294 rfl)).trans (congrArg (fun e => o_i e 2) (Fr.at GM1 kd_294 rfl))), ((gHq.refl.cg (Fr.at GM1 kd_296 rfl) (Fr.at GM1 kd_294 rfl)).cg (Fr.at GM4 kd_296 rfl) (Fr.at GM4 kd_294 rfl))⟩
  · skip
    refine PW.cI q_191_10 (by decide) fun c17 hc17 => ?_
    refine PW.rI q_191_11 rfl (by decide) (by decide) ?_
    exact hK c17 M1 IM1 FM1 (by omega) (by omega) ⟨(congrArg (fun e => o_i e 2) (Fr.at GM1 kd_294 rfl)), (gHq.refl.cg (Fr.at GM1 kd_296 rfl) (Fr.at GM1 kd_294 rfl))⟩
theorem c_X12_readWalker (V : pM → Prop) (hV : Stab V) (G : pG) (Kr : pK) (M : pM) (I : Iv V M)  (hK : ∀ (x : Int32) (M1 : pM), Iv V M1 → Fr [40, 43, 45] M M1 → 0 ≤ x.toInt → x.toInt ≤ 1 → (o_i (M 294) 4 ≤ o_i (M1 294) 4 ∧ (x.toInt = 0 ∨ o_i (M1 294) 11 = 0 ∨ o_i (M1 294) 11 = 4 ∨ o_i (M 294) 4 + 1 ≤ o_i (M1 294) 4)) → (gLq M1 M) → Kr.1 (some (.int x)) 311 M1) : PW G false 4 190 (p_mc 190) (p_msl 190) Kr 0 (lv_args 0 [.ref 294]) [] 311 M 0 0 := by
  have F : Fr [40, 43, 45] M M := Fr.refl
  refine PW.aload_n q_190_0 rfl ?_
  refine PW.gR 297 q_190_1 (Or.inl t_ft_190_37) gF_40_7 kd_294 I.1 (by decide) rfl ?_
  refine PW.cI q_190_4 (by decide) fun c1 hc1 => ?_
  refine PW.aI q_190_5 gA_43 kd_297 I.1 (by decide) gB_43_0_0 (by decide) (by omega) (by omega) fun x2 fx2 hx2 kx2 => ?_
  have ty3 : (o_a (M 297) 0).toInt = x2.toInt := by have e : c1.toInt.toNat = 0 := (by omega); rw [e] at fx2; rw [fx2]
  refine PW.istore_n q_190_6 (by decide) ?_
  refine PW.iload_n q_190_7 rfl ?_
  refine PW.cB q_190_8 (by decide) fun c4 hc4 => ?_
  refine PW.jc_ne q_190_10 rfl (fun h5 => ?_) (fun h5 => ?_)
  · skip
    refine PW.aload_n q_190_19 rfl ?_
    refine PW.dup q_190_20 rfl ?_
    refine PW.gI q_190_21 (Or.inl t_ft_190_195) gF_40_20 kd_294 I.1 (by decide) fun x6 fx6 hx6 kx6 => ?_
    clear hx6 kx6
    refine PW.cI q_190_24 (by decide) fun c7 hc7 => ?_
    refine PW.orH q_190_25 fun x8 => ?_
    refine PW.pI q_190_26 (Or.inl t_ft_190_195) gF_40_20 gP_40_20 kd_294 hV I (by decide) rfl (n_lo _) (n_hi _) fun M9 IM9 fM9 UM9 => ?_
    have FM9 := Fr.pu F UM9.1 kd_294 (rfl : List.contains [40, 43, 45] 40 = true)
    have ty10 : (o_a (M9 297) 0).toInt = (o_a (M 297) 0).toInt := by rw [UM9.1 297 (g_ne kd_297 kd_294 (by decide))]
    have ty11 : (o_a (M9 297) 1).toInt = (o_a (M 297) 1).toInt := by rw [UM9.1 297 (g_ne kd_297 kd_294 (by decide))]
    have tr12 := UM9.i (c := 294) (k := 4) (Or.inr (by decide))
    have tr13 := UM9.i (c := 294) (k := 11) (Or.inr (by decide))
    refine PW.aload_n q_190_29 rfl ?_
    refine PW.cV (as := []) (rest := []) q_190_30 t_mv_190_173 kd_294 IM9.1 (by decide) rfl (by decide) rfl rfl (Nat.le_of_ble_eq_true rfl) (Nat.le_of_ble_eq_true rfl) (by decide) (by decide) ?_
    refine PW.up (by decide) (c_X12_go (V) (hV) G _ M9 IM9  fun M14 IM14 GM14 PM14 TM14 => ?_)
    have FM14 := Fr.trans FM9 GM14 (rfl)
    obtain ⟨PaM14, PdM14, PbM14, PeM14⟩ := PM14
    have ty15 : (o_a (M14 297) 0).toInt = (o_a (M9 297) 0).toInt := by rw [Fr.at GM14 kd_297 (by decide)]
    have ty16 : (o_a (M14 297) 1).toInt = (o_a (M9 297) 1).toInt := by rw [Fr.at GM14 kd_297 (by decide)]
    refine PW.aload_n q_190_33 rfl ?_
    refine PW.cB q_190_34 (by decide) fun c17 hc17 => ?_
    refine PW.iload_n q_190_36 rfl ?_
    refine PW.addN q_190_37 (by omega) (by omega) fun x18 hx18 => ?_
    refine PW.cV (as := [_]) (rest := []) q_190_38 t_mv_190_220 kd_294 IM14.1 (by decide) rfl (by decide) rfl rfl (Nat.le_of_ble_eq_true rfl) (Nat.le_of_ble_eq_true rfl) (by decide) (by decide) ?_
    refine PW.up (by decide) (c_X12_fresh (V) (hV) G _ M14 IM14 x18 (by omega) (by omega) fun x20 M19 IM19 GM19 hx20 kx20 PM19 TM19 => ?_)
    have FM19 := Fr.trans FM14 GM19 (rfl)
    obtain ⟨PaM19, PdM19⟩ := PM19
    clear PdM14
    have ty21 : (o_a (M19 297) 0).toInt = (o_a (M14 297) 0).toInt := by rw [Fr.at GM19 kd_297 (by decide)]
    have ty22 : (o_a (M19 297) 1).toInt = (o_a (M14 297) 1).toInt := by rw [Fr.at GM19 kd_297 (by decide)]
    refine PW.jz_eq q_190_41 rfl (fun h23 => ?_) (fun h23 => ?_)
    · skip
      refine PW.cI q_190_75 (by decide) fun c24 hc24 => ?_
      refine PW.rZ q_190_76 rfl (by omega) (by omega) (by decide) (by decide) ?_
      exact hK c24 M19 IM19 FM19 (by omega) (by omega) (by omega) (TM19.trans (TM14.1.trans (UM9.i (c := 294) (k := 2) (Or.inr (by decide)))))
    · skip
      refine PW.aload_n q_190_44 rfl ?_
      refine PW.cI q_190_45 (by decide) fun c25 hc25 => ?_
      refine PW.iload_n q_190_46 rfl ?_
      refine PW.addN q_190_47 (by omega) (by omega) fun x26 hx26 => ?_
      refine PW.cI q_190_48 (by decide) fun c27 hc27 => ?_
      refine PW.aload_n q_190_49 rfl ?_
      refine PW.gR 297 q_190_50 (Or.inl t_ft_190_37) gF_40_7 kd_294 IM19.1 (by decide) rfl ?_
      refine PW.cI q_190_53 (by decide) fun c28 hc28 => ?_
      refine PW.aH q_190_54 gA_43 kd_297 IM19.1 (by decide) (by omega) (by omega) fun x29 fx29 => ?_
      refine PW.cV (as := [_, _, _]) (rest := []) q_190_55 t_mv_190_208 kd_294 IM19.1 (by decide) rfl (by decide) rfl rfl (Nat.le_of_ble_eq_true rfl) (Nat.le_of_ble_eq_true rfl) (by decide) (by decide) ?_
      refine PW.up (by decide) (c_X12_puts (V) (hV) G _ M19 IM19 x26 c27 x29 (by omega) (by omega) fun x31 M30 IM30 GM30 hx31 kx31 PM30 TM30 => ?_)
      have FM30 := Fr.trans FM19 GM30 (rfl)
      obtain ⟨⟨PaM30, PdM30⟩, PbM30, PcM30⟩ := PM30
      clear PdM19
      refine PW.jz_eq q_190_58 rfl (fun h32 => ?_) (fun h32 => ?_)
      · skip
        refine PW.cI q_190_75 (by decide) fun c33 hc33 => ?_
        refine PW.rZ q_190_76 rfl (by omega) (by omega) (by decide) (by decide) ?_
        exact hK c33 M30 IM30 FM30 (by omega) (by omega) (by omega) (TM30.trans (TM19.trans (TM14.1.trans (UM9.i (c := 294) (k := 2) (Or.inr (by decide))))))
      · skip
        refine PW.aload_n q_190_61 rfl ?_
        refine PW.cB q_190_62 (by decide) fun c34 hc34 => ?_
        refine PW.iload_n q_190_64 rfl ?_
        refine PW.addN q_190_65 (by omega) (by omega) fun x35 hx35 => ?_
        refine PW.cI q_190_66 (by decide) fun c36 hc36 => ?_
        refine PW.cB q_190_67 (by decide) fun c37 hc37 => ?_
        refine PW.cV (as := [_, _, _]) (rest := []) q_190_69 t_mv_190_208 kd_294 IM30.1 (by decide) rfl (by decide) rfl rfl (Nat.le_of_ble_eq_true rfl) (Nat.le_of_ble_eq_true rfl) (by decide) (by decide) ?_
        refine PW.up (by decide) (c_X12_puts_p (V) (hV) G _ M30 IM30 x35 c36 c37 (by omega) (by omega) (by omega) (by omega) (by omega) (by omega) fun x39 M38 IM38 GM38 hx39 kx39 PM38 TM38 => ?_)
        have FM38 := Fr.trans FM30 GM38 (rfl)
        obtain ⟨⟨PaM38, PdM38⟩, PbM38, PcM38⟩ := PM38
        clear PdM30
        refine PW.jz_ne q_190_72 rfl (fun h40 => ?_) (fun h40 => ?_)
        · skip
          refine PW.aload_n q_190_77 rfl ?_
          refine PW.gR 297 q_190_78 (Or.inl t_ft_190_37) gF_40_7 kd_294 IM38.1 (by decide) rfl ?_
          refine PW.cB q_190_81 (by decide) fun c41 hc41 => ?_
          refine PW.iload_n q_190_83 rfl ?_
          refine PW.addN q_190_84 (by omega) (by omega) fun x42 hx42 => ?_
          refine PW.aload_n q_190_85 rfl ?_
          refine PW.ldc2 q_190_86 t_lt_190_86 ?_
          refine PW.cV (as := [_]) (rest := [_, _]) q_190_89 t_mv_190_201 kd_294 IM38.1 (by decide) rfl (by decide) rfl rfl (Nat.le_of_ble_eq_true rfl) (Nat.le_of_ble_eq_true rfl) (by decide) (by decide) ?_
          refine PW.up (by decide) (c_X12_isWord (V) (hV) G _ M38 IM38 _ fun x44 M43 IM43 GM43 hx44 kx44 TM43 => ?_)
          have FM43 := Fr.trans FM38 GM43 (rfl)
          have ty45 : (o_a (M43 297) 0).toInt = (o_a (M38 297) 0).toInt := by rw [Fr.at GM43 kd_297 (by decide)]
          have ty46 : (o_a (M43 297) 1).toInt = (o_a (M38 297) 1).toInt := by rw [Fr.at GM43 kd_297 (by decide)]
          have tr47 : o_i (M43 294) 4 = o_i (M38 294) 4 := by rw [Fr.at GM43 kd_294 (by decide)]
          have tr48 : o_i (M43 294) 11 = o_i (M38 294) 11 := by rw [Fr.at GM43 kd_294 (by decide)]
          refine PW.jz_eq q_190_92 rfl (fun h49 => ?_) (fun h49 => ?_)
          · skip
            refine PW.cI q_190_99 (by decide) fun c50 hc50 => ?_
            refine PW.wI q_190_100 gA_43 kd_297 hV IM43 (by decide) rfl gC_43_17_22 (by decide) (by omega) (by omega) (n_lo _) (n_hi _) fun M51 IM51 fM51 UM51 => ?_
            have FM51 := Fr.pu FM43 UM51.1 kd_297 (rfl : List.contains [40, 43, 45] 43 = true)
            have ty52 : (o_a (M51 297) 0).toInt = (o_a (M43 297) 0).toInt := by rw [UM51.2 0 (by omega)]
            have ty53 : (o_a (M51 297) 1).toInt = (o_a (M43 297) 1).toInt := by rw [UM51.2 1 (by omega)]
            have tr54 : o_i (M51 294) 4 = o_i (M43 294) 4 := by rw [UM51.1 294 (g_ne kd_294 kd_297 (by decide))]
            have tr55 : o_i (M51 294) 11 = o_i (M43 294) 11 := by rw [UM51.1 294 (g_ne kd_294 kd_297 (by decide))]
            refine PW.aload_n q_190_101 rfl ?_
            refine PW.ldc2 q_190_102 t_lt_190_86 ?_
            refine PW.cV (as := [_]) (rest := []) q_190_105 t_mv_190_201 kd_294 IM51.1 (by decide) rfl (by decide) rfl rfl (Nat.le_of_ble_eq_true rfl) (Nat.le_of_ble_eq_true rfl) (by decide) (by decide) ?_
            refine PW.up (by decide) (c_X12_isWord (V) (hV) G _ M51 IM51 _ fun x57 M56 IM56 GM56 hx57 kx57 TM56 => ?_)
            have FM56 := Fr.trans FM51 GM56 (rfl)
            have ty58 : (o_a (M56 297) 0).toInt = (o_a (M51 297) 0).toInt := by rw [Fr.at GM56 kd_297 (by decide)]
            have ty59 : (o_a (M56 297) 1).toInt = (o_a (M51 297) 1).toInt := by rw [Fr.at GM56 kd_297 (by decide)]
            have tr60 : o_i (M56 294) 4 = o_i (M51 294) 4 := by rw [Fr.at GM56 kd_294 (by decide)]
            have tr61 : o_i (M56 294) 11 = o_i (M51 294) 11 := by rw [Fr.at GM56 kd_294 (by decide)]
            refine PW.jz_eq q_190_108 rfl (fun h62 => ?_) (fun h62 => ?_)
            · skip
              refine PW.aload_n q_190_115 rfl ?_
              refine PW.gR 297 q_190_116 (Or.inl t_ft_190_37) gF_40_7 kd_294 IM56.1 (by decide) rfl ?_
              refine PW.cI q_190_119 (by decide) fun c63 hc63 => ?_
              refine PW.dup2 q_190_120 rfl rfl ?_
              refine PW.aI q_190_121 gA_43 kd_297 IM56.1 (by decide) gB_43_0_0 (by decide) (by omega) (by omega) fun x64 fx64 hx64 kx64 => ?_
              have ty65 : (o_a (M56 297) 0).toInt = x64.toInt := by have e : c63.toInt.toNat = 0 := (by omega); rw [e] at fx64; rw [fx64]
              refine PW.cI q_190_122 (by decide) fun c66 hc66 => ?_
              refine PW.addN q_190_123 (by omega) (by omega) fun x67 hx67 => ?_
              refine PW.wI q_190_124 gA_43 kd_297 hV IM56 (by decide) rfl gC_43_0_0 (by decide) (by omega) (by omega) (by omega) (by omega) fun M68 IM68 fM68 UM68 => ?_
              have FM68 := Fr.pu FM56 UM68.1 kd_297 (rfl : List.contains [40, 43, 45] 43 = true)
              have ty69 : (o_a (M68 297) 1).toInt = (o_a (M56 297) 1).toInt := by rw [UM68.2 1 (by omega)]
              have tr70 : o_i (M68 294) 4 = o_i (M56 294) 4 := by rw [UM68.1 294 (g_ne kd_294 kd_297 (by decide))]
              have tr71 : o_i (M68 294) 11 = o_i (M56 294) 11 := by rw [UM68.1 294 (g_ne kd_294 kd_297 (by decide))]
              refine PW.cI q_190_125 (by decide) fun c72 hc72 => ?_
              refine PW.rZ q_190_126 rfl (by omega) (by omega) (by decide) (by decide) ?_
              exact hK c72 M68 IM68 FM68 (by omega) (by omega) (by omega) ((congrArg (fun e => o_i e 2) (UM68.1 294 (by decide))).trans ((congrArg (fun e => o_i e 2) (Fr.at GM56 kd_294 rfl)).trans ((congrArg (fun e => o_i e 2) (UM51.1 294 (by decide))).trans ((congrArg (fun e => o_i e 2) (Fr.at GM43 kd_294 rfl)).trans (TM38.trans (TM30.trans (TM19.trans (TM14.1.trans (UM9.i (c := 294) (k := 2) (Or.inr (by decide)))))))))))
            · skip
              refine PW.aload_n q_190_111 rfl ?_
              refine PW.cV (as := []) (rest := []) q_190_112 t_mv_190_173 kd_294 IM56.1 (by decide) rfl (by decide) rfl rfl (Nat.le_of_ble_eq_true rfl) (Nat.le_of_ble_eq_true rfl) (by decide) (by decide) ?_
              refine PW.up (by decide) (c_X12_go (V) (hV) G _ M56 IM56  fun M73 IM73 GM73 PM73 TM73 => ?_)
              have FM73 := Fr.trans FM56 GM73 (rfl)
              obtain ⟨PaM73, PdM73, PbM73, PeM73⟩ := PM73
              clear PdM38
              have ty74 : (o_a (M73 297) 0).toInt = (o_a (M56 297) 0).toInt := by rw [Fr.at GM73 kd_297 (by decide)]
              have ty75 : (o_a (M73 297) 1).toInt = (o_a (M56 297) 1).toInt := by rw [Fr.at GM73 kd_297 (by decide)]
              refine PW.aload_n q_190_115 rfl ?_
              refine PW.gR 297 q_190_116 (Or.inl t_ft_190_37) gF_40_7 kd_294 IM73.1 (by decide) rfl ?_
              refine PW.cI q_190_119 (by decide) fun c76 hc76 => ?_
              refine PW.dup2 q_190_120 rfl rfl ?_
              refine PW.aI q_190_121 gA_43 kd_297 IM73.1 (by decide) gB_43_0_0 (by decide) (by omega) (by omega) fun x77 fx77 hx77 kx77 => ?_
              have ty78 : (o_a (M73 297) 0).toInt = x77.toInt := by have e : c76.toInt.toNat = 0 := (by omega); rw [e] at fx77; rw [fx77]
              refine PW.cI q_190_122 (by decide) fun c79 hc79 => ?_
              refine PW.addN q_190_123 (by omega) (by omega) fun x80 hx80 => ?_
              refine PW.wI q_190_124 gA_43 kd_297 hV IM73 (by decide) rfl gC_43_0_0 (by decide) (by omega) (by omega) (by omega) (by omega) fun M81 IM81 fM81 UM81 => ?_
              have FM81 := Fr.pu FM73 UM81.1 kd_297 (rfl : List.contains [40, 43, 45] 43 = true)
              have ty82 : (o_a (M81 297) 1).toInt = (o_a (M73 297) 1).toInt := by rw [UM81.2 1 (by omega)]
              have tr83 : o_i (M81 294) 4 = o_i (M73 294) 4 := by rw [UM81.1 294 (g_ne kd_294 kd_297 (by decide))]
              have tr84 : o_i (M81 294) 11 = o_i (M73 294) 11 := by rw [UM81.1 294 (g_ne kd_294 kd_297 (by decide))]
              refine PW.cI q_190_125 (by decide) fun c85 hc85 => ?_
              refine PW.rZ q_190_126 rfl (by omega) (by omega) (by decide) (by decide) ?_
              exact hK c85 M81 IM81 FM81 (by omega) (by omega) (by omega) ((congrArg (fun e => o_i e 2) (UM81.1 294 (by decide))).trans (TM73.1.trans ((congrArg (fun e => o_i e 2) (Fr.at GM56 kd_294 rfl)).trans ((congrArg (fun e => o_i e 2) (UM51.1 294 (by decide))).trans ((congrArg (fun e => o_i e 2) (Fr.at GM43 kd_294 rfl)).trans (TM38.trans (TM30.trans (TM19.trans (TM14.1.trans (UM9.i (c := 294) (k := 2) (Or.inr (by decide))))))))))))
          · skip
            refine PW.cI q_190_95 (by decide) fun c86 hc86 => ?_
            refine PW.goto q_190_96 rfl ?_
            refine PW.wI q_190_100 gA_43 kd_297 hV IM43 (by decide) rfl gC_43_17_22 (by decide) (by omega) (by omega) (n_lo _) (n_hi _) fun M87 IM87 fM87 UM87 => ?_
            have FM87 := Fr.pu FM43 UM87.1 kd_297 (rfl : List.contains [40, 43, 45] 43 = true)
            have ty88 : (o_a (M87 297) 0).toInt = (o_a (M43 297) 0).toInt := by rw [UM87.2 0 (by omega)]
            have ty89 : (o_a (M87 297) 1).toInt = (o_a (M43 297) 1).toInt := by rw [UM87.2 1 (by omega)]
            have tr90 : o_i (M87 294) 4 = o_i (M43 294) 4 := by rw [UM87.1 294 (g_ne kd_294 kd_297 (by decide))]
            have tr91 : o_i (M87 294) 11 = o_i (M43 294) 11 := by rw [UM87.1 294 (g_ne kd_294 kd_297 (by decide))]
            refine PW.aload_n q_190_101 rfl ?_
            refine PW.ldc2 q_190_102 t_lt_190_86 ?_
            refine PW.cV (as := [_]) (rest := []) q_190_105 t_mv_190_201 kd_294 IM87.1 (by decide) rfl (by decide) rfl rfl (Nat.le_of_ble_eq_true rfl) (Nat.le_of_ble_eq_true rfl) (by decide) (by decide) ?_
            refine PW.up (by decide) (c_X12_isWord (V) (hV) G _ M87 IM87 _ fun x93 M92 IM92 GM92 hx93 kx93 TM92 => ?_)
            have FM92 := Fr.trans FM87 GM92 (rfl)
            have ty94 : (o_a (M92 297) 0).toInt = (o_a (M87 297) 0).toInt := by rw [Fr.at GM92 kd_297 (by decide)]
            have ty95 : (o_a (M92 297) 1).toInt = (o_a (M87 297) 1).toInt := by rw [Fr.at GM92 kd_297 (by decide)]
            have tr96 : o_i (M92 294) 4 = o_i (M87 294) 4 := by rw [Fr.at GM92 kd_294 (by decide)]
            have tr97 : o_i (M92 294) 11 = o_i (M87 294) 11 := by rw [Fr.at GM92 kd_294 (by decide)]
            refine PW.jz_eq q_190_108 rfl (fun h98 => ?_) (fun h98 => ?_)
            · skip
              refine PW.aload_n q_190_115 rfl ?_
              refine PW.gR 297 q_190_116 (Or.inl t_ft_190_37) gF_40_7 kd_294 IM92.1 (by decide) rfl ?_
              refine PW.cI q_190_119 (by decide) fun c99 hc99 => ?_
              refine PW.dup2 q_190_120 rfl rfl ?_
              refine PW.aI q_190_121 gA_43 kd_297 IM92.1 (by decide) gB_43_0_0 (by decide) (by omega) (by omega) fun x100 fx100 hx100 kx100 => ?_
              have ty101 : (o_a (M92 297) 0).toInt = x100.toInt := by have e : c99.toInt.toNat = 0 := (by omega); rw [e] at fx100; rw [fx100]
              refine PW.cI q_190_122 (by decide) fun c102 hc102 => ?_
              refine PW.addN q_190_123 (by omega) (by omega) fun x103 hx103 => ?_
              refine PW.wI q_190_124 gA_43 kd_297 hV IM92 (by decide) rfl gC_43_0_0 (by decide) (by omega) (by omega) (by omega) (by omega) fun M104 IM104 fM104 UM104 => ?_
              have FM104 := Fr.pu FM92 UM104.1 kd_297 (rfl : List.contains [40, 43, 45] 43 = true)
              have ty105 : (o_a (M104 297) 1).toInt = (o_a (M92 297) 1).toInt := by rw [UM104.2 1 (by omega)]
              have tr106 : o_i (M104 294) 4 = o_i (M92 294) 4 := by rw [UM104.1 294 (g_ne kd_294 kd_297 (by decide))]
              have tr107 : o_i (M104 294) 11 = o_i (M92 294) 11 := by rw [UM104.1 294 (g_ne kd_294 kd_297 (by decide))]
              refine PW.cI q_190_125 (by decide) fun c108 hc108 => ?_
              refine PW.rZ q_190_126 rfl (by omega) (by omega) (by decide) (by decide) ?_
              exact hK c108 M104 IM104 FM104 (by omega) (by omega) (by omega) ((congrArg (fun e => o_i e 2) (UM104.1 294 (by decide))).trans ((congrArg (fun e => o_i e 2) (Fr.at GM92 kd_294 rfl)).trans ((congrArg (fun e => o_i e 2) (UM87.1 294 (by decide))).trans ((congrArg (fun e => o_i e 2) (Fr.at GM43 kd_294 rfl)).trans (TM38.trans (TM30.trans (TM19.trans (TM14.1.trans (UM9.i (c := 294) (k := 2) (Or.inr (by decide)))))))))))
            · skip
              refine PW.aload_n q_190_111 rfl ?_
              refine PW.cV (as := []) (rest := []) q_190_112 t_mv_190_173 kd_294 IM92.1 (by decide) rfl (by decide) rfl rfl (Nat.le_of_ble_eq_true rfl) (Nat.le_of_ble_eq_true rfl) (by decide) (by decide) ?_
              refine PW.up (by decide) (c_X12_go (V) (hV) G _ M92 IM92  fun M109 IM109 GM109 PM109 TM109 => ?_)
              have FM109 := Fr.trans FM92 GM109 (rfl)
              obtain ⟨PaM109, PdM109, PbM109, PeM109⟩ := PM109
              clear PdM38
              have ty110 : (o_a (M109 297) 0).toInt = (o_a (M92 297) 0).toInt := by rw [Fr.at GM109 kd_297 (by decide)]
              have ty111 : (o_a (M109 297) 1).toInt = (o_a (M92 297) 1).toInt := by rw [Fr.at GM109 kd_297 (by decide)]
              refine PW.aload_n q_190_115 rfl ?_
              refine PW.gR 297 q_190_116 (Or.inl t_ft_190_37) gF_40_7 kd_294 IM109.1 (by decide) rfl ?_
              refine PW.cI q_190_119 (by decide) fun c112 hc112 => ?_
              refine PW.dup2 q_190_120 rfl rfl ?_
              refine PW.aI q_190_121 gA_43 kd_297 IM109.1 (by decide) gB_43_0_0 (by decide) (by omega) (by omega) fun x113 fx113 hx113 kx113 => ?_
              have ty114 : (o_a (M109 297) 0).toInt = x113.toInt := by have e : c112.toInt.toNat = 0 := (by omega); rw [e] at fx113; rw [fx113]
              refine PW.cI q_190_122 (by decide) fun c115 hc115 => ?_
              refine PW.addN q_190_123 (by omega) (by omega) fun x116 hx116 => ?_
              refine PW.wI q_190_124 gA_43 kd_297 hV IM109 (by decide) rfl gC_43_0_0 (by decide) (by omega) (by omega) (by omega) (by omega) fun M117 IM117 fM117 UM117 => ?_
              have FM117 := Fr.pu FM109 UM117.1 kd_297 (rfl : List.contains [40, 43, 45] 43 = true)
              have ty118 : (o_a (M117 297) 1).toInt = (o_a (M109 297) 1).toInt := by rw [UM117.2 1 (by omega)]
              have tr119 : o_i (M117 294) 4 = o_i (M109 294) 4 := by rw [UM117.1 294 (g_ne kd_294 kd_297 (by decide))]
              have tr120 : o_i (M117 294) 11 = o_i (M109 294) 11 := by rw [UM117.1 294 (g_ne kd_294 kd_297 (by decide))]
              refine PW.cI q_190_125 (by decide) fun c121 hc121 => ?_
              refine PW.rZ q_190_126 rfl (by omega) (by omega) (by decide) (by decide) ?_
              exact hK c121 M117 IM117 FM117 (by omega) (by omega) (by omega) ((congrArg (fun e => o_i e 2) (UM117.1 294 (by decide))).trans (TM109.1.trans ((congrArg (fun e => o_i e 2) (Fr.at GM92 kd_294 rfl)).trans ((congrArg (fun e => o_i e 2) (UM87.1 294 (by decide))).trans ((congrArg (fun e => o_i e 2) (Fr.at GM43 kd_294 rfl)).trans (TM38.trans (TM30.trans (TM19.trans (TM14.1.trans (UM9.i (c := 294) (k := 2) (Or.inr (by decide))))))))))))
        · skip
          refine PW.cI q_190_75 (by decide) fun c122 hc122 => ?_
          refine PW.rZ q_190_76 rfl (by omega) (by omega) (by decide) (by decide) ?_
          exact hK c122 M38 IM38 FM38 (by omega) (by omega) (by omega) (TM38.trans (TM30.trans (TM19.trans (TM14.1.trans (UM9.i (c := 294) (k := 2) (Or.inr (by decide)))))))
  · skip
    refine PW.aload_n q_190_13 rfl ?_
    refine PW.cI q_190_14 (by decide) fun c123 hc123 => ?_
    refine PW.cV (as := [_]) (rest := []) q_190_15 t_mv_190_170 kd_294 I.1 (by decide) rfl (by decide) rfl rfl (Nat.le_of_ble_eq_true rfl) (Nat.le_of_ble_eq_true rfl) (by decide) (by decide) ?_
    refine PW.up (by decide) (c_X12_bad (V) (hV) G _ M I c123 fun x125 M124 IM124 GM124 hx125 kx125 PM124 TM124 => ?_)
    have FM124 := Fr.trans F GM124 (rfl)
    have ty126 : (o_a (M124 297) 0).toInt = (o_a (M 297) 0).toInt := by rw [Fr.at GM124 kd_297 (by decide)]
    have ty127 : (o_a (M124 297) 1).toInt = (o_a (M 297) 1).toInt := by rw [Fr.at GM124 kd_297 (by decide)]
    refine PW.rZ q_190_18 rfl (by omega) (by omega) (by decide) (by decide) ?_
    exact hK x125 M124 IM124 FM124 (by omega) (by omega) (by omega) TM124
theorem c_X12_readDog (V : pM → Prop) (hV : Stab V) (G : pG) (Kr : pK) (M : pM) (I : Iv V M)  (hK : ∀ (x : Int32) (M1 : pM), Iv V M1 → Fr [40, 43, 45] M M1 → 0 ≤ x.toInt → x.toInt ≤ 1 → (o_i (M 294) 4 ≤ o_i (M1 294) 4 ∧ (x.toInt = 0 ∨ o_i (M1 294) 11 = 0 ∨ o_i (M1 294) 11 = 4 ∨ o_i (M 294) 4 + 1 ≤ o_i (M1 294) 4)) → (gLq M1 M) → Kr.1 (some (.int x)) 311 M1) : PW G false 4 192 (p_mc 192) (p_msl 192) Kr 0 (lv_args 0 [.ref 294]) [] 311 M 0 0 := by
  have F : Fr [40, 43, 45] M M := Fr.refl
  refine PW.aload_n q_192_0 rfl ?_
  refine PW.gR 297 q_192_1 (Or.inl t_ft_192_37) gF_40_7 kd_294 I.1 (by decide) rfl ?_
  refine PW.cI q_192_4 (by decide) fun c1 hc1 => ?_
  refine PW.aI q_192_5 gA_43 kd_297 I.1 (by decide) gB_43_1_1 (by decide) (by omega) (by omega) fun x2 fx2 hx2 kx2 => ?_
  have ty3 : (o_a (M 297) 1).toInt = x2.toInt := by have e : c1.toInt.toNat = 1 := (by omega); rw [e] at fx2; rw [fx2]
  refine PW.istore_n q_192_6 (by decide) ?_
  refine PW.iload_n q_192_7 rfl ?_
  refine PW.cI q_192_8 (by decide) fun c4 hc4 => ?_
  refine PW.jc_ne q_192_9 rfl (fun h5 => ?_) (fun h5 => ?_)
  · skip
    refine PW.aload_n q_192_18 rfl ?_
    refine PW.cV (as := []) (rest := []) q_192_19 t_mv_192_173 kd_294 I.1 (by decide) rfl (by decide) rfl rfl (Nat.le_of_ble_eq_true rfl) (Nat.le_of_ble_eq_true rfl) (by decide) (by decide) ?_
    refine PW.up (by decide) (c_X12_go (V) (hV) G _ M I  fun M6 IM6 GM6 PM6 TM6 => ?_)
    have FM6 := Fr.trans F GM6 (rfl)
    obtain ⟨PaM6, PdM6, PbM6, PeM6⟩ := PM6
    have ty7 : (o_a (M6 297) 0).toInt = (o_a (M 297) 0).toInt := by rw [Fr.at GM6 kd_297 (by decide)]
    have ty8 : (o_a (M6 297) 1).toInt = (o_a (M 297) 1).toInt := by rw [Fr.at GM6 kd_297 (by decide)]
    refine PW.aload_n q_192_22 rfl ?_
    refine PW.cB q_192_23 (by decide) fun c9 hc9 => ?_
    refine PW.iload_n q_192_25 rfl ?_
    refine PW.addN q_192_26 (by omega) (by omega) fun x10 hx10 => ?_
    refine PW.cV (as := [_]) (rest := []) q_192_27 t_mv_192_220 kd_294 IM6.1 (by decide) rfl (by decide) rfl rfl (Nat.le_of_ble_eq_true rfl) (Nat.le_of_ble_eq_true rfl) (by decide) (by decide) ?_
    refine PW.up (by decide) (c_X12_fresh (V) (hV) G _ M6 IM6 x10 (by omega) (by omega) fun x12 M11 IM11 GM11 hx12 kx12 PM11 TM11 => ?_)
    have FM11 := Fr.trans FM6 GM11 (rfl)
    obtain ⟨PaM11, PdM11⟩ := PM11
    clear PdM6
    have ty13 : (o_a (M11 297) 0).toInt = (o_a (M6 297) 0).toInt := by rw [Fr.at GM11 kd_297 (by decide)]
    have ty14 : (o_a (M11 297) 1).toInt = (o_a (M6 297) 1).toInt := by rw [Fr.at GM11 kd_297 (by decide)]
    refine PW.jz_eq q_192_30 rfl (fun h15 => ?_) (fun h15 => ?_)
    · skip
      refine PW.cI q_192_48 (by decide) fun c16 hc16 => ?_
      refine PW.rZ q_192_49 rfl (by omega) (by omega) (by decide) (by decide) ?_
      exact hK c16 M11 IM11 FM11 (by omega) (by omega) (by omega) (TM11.trans TM6.1)
    · skip
      refine PW.aload_n q_192_33 rfl ?_
      refine PW.cB q_192_34 (by decide) fun c17 hc17 => ?_
      refine PW.aload_n q_192_36 rfl ?_
      refine PW.gR 297 q_192_37 (Or.inl t_ft_192_37) gF_40_7 kd_294 IM11.1 (by decide) rfl ?_
      refine PW.cI q_192_40 (by decide) fun c18 hc18 => ?_
      refine PW.aI q_192_41 gA_43 kd_297 IM11.1 (by decide) gB_43_0_0 (by decide) (by omega) (by omega) fun x19 fx19 hx19 kx19 => ?_
      have ty20 : (o_a (M11 297) 0).toInt = x19.toInt := by have e : c18.toInt.toNat = 0 := (by omega); rw [e] at fx19; rw [fx19]
      refine PW.cV (as := [_, _]) (rest := []) q_192_42 t_mv_192_217 kd_294 IM11.1 (by decide) rfl (by decide) rfl rfl (Nat.le_of_ble_eq_true rfl) (Nat.le_of_ble_eq_true rfl) (by decide) (by decide) ?_
      refine PW.up (by decide) (c_X12_looksAt (V) (hV) G _ M11 IM11 c17 x19 (by omega) (by omega) (by omega) (by omega) fun x22 M21 IM21 GM21 hx22 kx22 PM21 TM21 => ?_)
      have FM21 := Fr.trans FM11 GM21 (rfl)
      have ty23 : (o_a (M21 297) 0).toInt = (o_a (M11 297) 0).toInt := by rw [Fr.at GM21 kd_297 (by decide)]
      have ty24 : (o_a (M21 297) 1).toInt = (o_a (M11 297) 1).toInt := by rw [Fr.at GM21 kd_297 (by decide)]
      refine PW.jz_ne q_192_45 rfl (fun h25 => ?_) (fun h25 => ?_)
      · skip
        refine PW.aload_n q_192_50 rfl ?_
        refine PW.gR 297 q_192_51 (Or.inl t_ft_192_37) gF_40_7 kd_294 IM21.1 (by decide) rfl ?_
        refine PW.cB q_192_54 (by decide) fun c26 hc26 => ?_
        refine PW.iload_n q_192_56 rfl ?_
        refine PW.addN q_192_57 (by omega) (by omega) fun x27 hx27 => ?_
        refine PW.aload_n q_192_58 rfl ?_
        refine PW.gI q_192_59 (Or.inl t_ft_192_180) gF_40_18 kd_294 IM21.1 (by decide) fun x28 fx28 hx28 kx28 => ?_
        have trx28 := o_i_of fx28
        clear hx28 kx28
        refine PW.wI q_192_62 gA_43 kd_297 hV IM21 (by decide) rfl gC_43_23_24 (by decide) (by omega) (by omega) (by omega) (by omega) fun M29 IM29 fM29 UM29 => ?_
        have FM29 := Fr.pu FM21 UM29.1 kd_297 (rfl : List.contains [40, 43, 45] 43 = true)
        have ty30 : (o_a (M29 297) 0).toInt = (o_a (M21 297) 0).toInt := by rw [UM29.2 0 (by omega)]
        have ty31 : (o_a (M29 297) 1).toInt = (o_a (M21 297) 1).toInt := by rw [UM29.2 1 (by omega)]
        have tr32 : o_i (M29 294) 4 = o_i (M21 294) 4 := by rw [UM29.1 294 (g_ne kd_294 kd_297 (by decide))]
        have tr33 : o_i (M29 294) 11 = o_i (M21 294) 11 := by rw [UM29.1 294 (g_ne kd_294 kd_297 (by decide))]
        have tr34 : o_i (M29 294) 18 = o_i (M21 294) 18 := by rw [UM29.1 294 (g_ne kd_294 kd_297 (by decide))]
        refine PW.aload_n q_192_63 rfl ?_
        refine PW.cV (as := []) (rest := []) q_192_64 t_mv_192_173 kd_294 IM29.1 (by decide) rfl (by decide) rfl rfl (Nat.le_of_ble_eq_true rfl) (Nat.le_of_ble_eq_true rfl) (by decide) (by decide) ?_
        refine PW.up (by decide) (c_X12_go (V) (hV) G _ M29 IM29  fun M35 IM35 GM35 PM35 TM35 => ?_)
        have FM35 := Fr.trans FM29 GM35 (rfl)
        obtain ⟨PaM35, PdM35, PbM35, PeM35⟩ := PM35
        clear PdM11
        have ty36 : (o_a (M35 297) 0).toInt = (o_a (M29 297) 0).toInt := by rw [Fr.at GM35 kd_297 (by decide)]
        have ty37 : (o_a (M35 297) 1).toInt = (o_a (M29 297) 1).toInt := by rw [Fr.at GM35 kd_297 (by decide)]
        refine PW.aload_n q_192_67 rfl ?_
        refine PW.cB q_192_68 (by decide) fun c38 hc38 => ?_
        refine PW.iload_n q_192_70 rfl ?_
        refine PW.addN q_192_71 (by omega) (by omega) fun x39 hx39 => ?_
        refine PW.cI q_192_72 (by decide) fun c40 hc40 => ?_
        refine PW.cB q_192_73 (by decide) fun c41 hc41 => ?_
        refine PW.cV (as := [_, _, _]) (rest := []) q_192_75 t_mv_192_208 kd_294 IM35.1 (by decide) rfl (by decide) rfl rfl (Nat.le_of_ble_eq_true rfl) (Nat.le_of_ble_eq_true rfl) (by decide) (by decide) ?_
        refine PW.up (by decide) (c_X12_puts_d (V) (hV) G _ M35 IM35 x39 c40 c41 (by omega) (by omega) fun x43 M42 IM42 GM42 hx43 kx43 PM42 TM42 => ?_)
        have FM42 := Fr.trans FM35 GM42 (rfl)
        obtain ⟨⟨PaM42, PdM42⟩, PbM42, PcM42⟩ := PM42
        clear PdM35
        refine PW.jz_eq q_192_78 rfl (fun h44 => ?_) (fun h44 => ?_)
        · skip
          refine PW.cI q_192_95 (by decide) fun c45 hc45 => ?_
          refine PW.rZ q_192_96 rfl (by omega) (by omega) (by decide) (by decide) ?_
          exact hK c45 M42 IM42 FM42 (by omega) (by omega) (by omega) (TM42.trans (TM35.1.trans ((congrArg (fun e => o_i e 2) (UM29.1 294 (by decide))).trans (TM21.trans (TM11.trans TM6.1)))))
        · skip
          refine PW.aload_n q_192_81 rfl ?_
          refine PW.cB q_192_82 (by decide) fun c46 hc46 => ?_
          refine PW.iload_n q_192_84 rfl ?_
          refine PW.addN q_192_85 (by omega) (by omega) fun x47 hx47 => ?_
          refine PW.cI q_192_86 (by decide) fun c48 hc48 => ?_
          refine PW.cB q_192_87 (by decide) fun c49 hc49 => ?_
          refine PW.cV (as := [_, _, _]) (rest := []) q_192_89 t_mv_192_208 kd_294 IM42.1 (by decide) rfl (by decide) rfl rfl (Nat.le_of_ble_eq_true rfl) (Nat.le_of_ble_eq_true rfl) (by decide) (by decide) ?_
          refine PW.up (by decide) (c_X12_puts_d (V) (hV) G _ M42 IM42 x47 c48 c49 (by omega) (by omega) fun x51 M50 IM50 GM50 hx51 kx51 PM50 TM50 => ?_)
          have FM50 := Fr.trans FM42 GM50 (rfl)
          obtain ⟨⟨PaM50, PdM50⟩, PbM50, PcM50⟩ := PM50
          clear PdM42
          refine PW.jz_ne q_192_92 rfl (fun h52 => ?_) (fun h52 => ?_)
          · skip
            refine PW.aload_n q_192_97 rfl ?_
            refine PW.gR 297 q_192_98 (Or.inl t_ft_192_37) gF_40_7 kd_294 IM50.1 (by decide) rfl ?_
            refine PW.cB q_192_101 (by decide) fun c53 hc53 => ?_
            refine PW.iload_n q_192_103 rfl ?_
            refine PW.addN q_192_104 (by omega) (by omega) fun x54 hx54 => ?_
            refine PW.aload_n q_192_105 rfl ?_
            refine PW.cV (as := []) (rest := [_, _]) q_192_106 t_mv_192_223 kd_294 IM50.1 (by decide) rfl (by decide) rfl rfl (Nat.le_of_ble_eq_true rfl) (Nat.le_of_ble_eq_true rfl) (by decide) (by decide) ?_
            refine PW.up (by decide) (c_X12_lawOf (V) (hV) G _ M50 IM50  fun x56 M55 IM55 GM55 hx56 kx56 TM55 => ?_)
            have FM55 := Fr.trans FM50 GM55 (rfl)
            have ty57 : (o_a (M55 297) 0).toInt = (o_a (M50 297) 0).toInt := by rw [Fr.at GM55 kd_297 (by decide)]
            have ty58 : (o_a (M55 297) 1).toInt = (o_a (M50 297) 1).toInt := by rw [Fr.at GM55 kd_297 (by decide)]
            have tr59 : o_i (M55 294) 4 = o_i (M50 294) 4 := by rw [Fr.at GM55 kd_294 (by decide)]
            have tr60 : o_i (M55 294) 11 = o_i (M50 294) 11 := by rw [Fr.at GM55 kd_294 (by decide)]
            have tr61 : o_i (M55 294) 18 = o_i (M50 294) 18 := by rw [Fr.at GM55 kd_294 (by decide)]
            refine PW.wI q_192_109 gA_43 kd_297 hV IM55 (by decide) rfl gC_43_29_30 (by decide) (by omega) (by omega) (n_lo _) (n_hi _) fun M62 IM62 fM62 UM62 => ?_
            have FM62 := Fr.pu FM55 UM62.1 kd_297 (rfl : List.contains [40, 43, 45] 43 = true)
            have ty63 : (o_a (M62 297) 0).toInt = (o_a (M55 297) 0).toInt := by rw [UM62.2 0 (by omega)]
            have ty64 : (o_a (M62 297) 1).toInt = (o_a (M55 297) 1).toInt := by rw [UM62.2 1 (by omega)]
            have tr65 : o_i (M62 294) 4 = o_i (M55 294) 4 := by rw [UM62.1 294 (g_ne kd_294 kd_297 (by decide))]
            have tr66 : o_i (M62 294) 11 = o_i (M55 294) 11 := by rw [UM62.1 294 (g_ne kd_294 kd_297 (by decide))]
            have tr67 : o_i (M62 294) 18 = o_i (M55 294) 18 := by rw [UM62.1 294 (g_ne kd_294 kd_297 (by decide))]
            refine PW.aload_n q_192_110 rfl ?_
            refine PW.gR 297 q_192_111 (Or.inl t_ft_192_37) gF_40_7 kd_294 IM62.1 (by decide) rfl ?_
            refine PW.cB q_192_114 (by decide) fun c68 hc68 => ?_
            refine PW.iload_n q_192_116 rfl ?_
            refine PW.addN q_192_117 (by omega) (by omega) fun x69 hx69 => ?_
            refine PW.aH q_192_118 gA_43 kd_297 IM62.1 (by decide) (by omega) (by omega) fun x70 fx70 => ?_
            refine PW.jz_ge q_192_119 rfl (fun h71 => ?_) (fun h71 => ?_)
            · skip
              refine PW.aload_n q_192_128 rfl ?_
              refine PW.cV (as := []) (rest := []) q_192_129 t_mv_192_173 kd_294 IM62.1 (by decide) rfl (by decide) rfl rfl (Nat.le_of_ble_eq_true rfl) (Nat.le_of_ble_eq_true rfl) (by decide) (by decide) ?_
              refine PW.up (by decide) (c_X12_go (V) (hV) G _ M62 IM62  fun M72 IM72 GM72 PM72 TM72 => ?_)
              have FM72 := Fr.trans FM62 GM72 (rfl)
              obtain ⟨PaM72, PdM72, PbM72, PeM72⟩ := PM72
              clear PdM50
              have ty73 : (o_a (M72 297) 0).toInt = (o_a (M62 297) 0).toInt := by rw [Fr.at GM72 kd_297 (by decide)]
              have ty74 : (o_a (M72 297) 1).toInt = (o_a (M62 297) 1).toInt := by rw [Fr.at GM72 kd_297 (by decide)]
              refine PW.aload_n q_192_132 rfl ?_
              refine PW.gR 297 q_192_133 (Or.inl t_ft_192_37) gF_40_7 kd_294 IM72.1 (by decide) rfl ?_
              refine PW.cI q_192_136 (by decide) fun c75 hc75 => ?_
              refine PW.dup2 q_192_137 rfl rfl ?_
              refine PW.aI q_192_138 gA_43 kd_297 IM72.1 (by decide) gB_43_1_1 (by decide) (by omega) (by omega) fun x76 fx76 hx76 kx76 => ?_
              have ty77 : (o_a (M72 297) 1).toInt = x76.toInt := by have e : c75.toInt.toNat = 1 := (by omega); rw [e] at fx76; rw [fx76]
              refine PW.cI q_192_139 (by decide) fun c78 hc78 => ?_
              refine PW.addN q_192_140 (by omega) (by omega) fun x79 hx79 => ?_
              refine PW.wI q_192_141 gA_43 kd_297 hV IM72 (by decide) rfl gC_43_1_1 (by decide) (by omega) (by omega) (by omega) (by omega) fun M80 IM80 fM80 UM80 => ?_
              have FM80 := Fr.pu FM72 UM80.1 kd_297 (rfl : List.contains [40, 43, 45] 43 = true)
              have ty81 : (o_a (M80 297) 0).toInt = (o_a (M72 297) 0).toInt := by rw [UM80.2 0 (by omega)]
              have tr82 : o_i (M80 294) 4 = o_i (M72 294) 4 := by rw [UM80.1 294 (g_ne kd_294 kd_297 (by decide))]
              have tr83 : o_i (M80 294) 11 = o_i (M72 294) 11 := by rw [UM80.1 294 (g_ne kd_294 kd_297 (by decide))]
              have tr84 : o_i (M80 294) 18 = o_i (M72 294) 18 := by rw [UM80.1 294 (g_ne kd_294 kd_297 (by decide))]
              refine PW.cI q_192_142 (by decide) fun c85 hc85 => ?_
              refine PW.rZ q_192_143 rfl (by omega) (by omega) (by decide) (by decide) ?_
              exact hK c85 M80 IM80 FM80 (by omega) (by omega) (by omega) ((congrArg (fun e => o_i e 2) (UM80.1 294 (by decide))).trans (TM72.1.trans ((congrArg (fun e => o_i e 2) (UM62.1 294 (by decide))).trans ((congrArg (fun e => o_i e 2) (Fr.at GM55 kd_294 rfl)).trans (TM50.trans (TM42.trans (TM35.1.trans ((congrArg (fun e => o_i e 2) (UM29.1 294 (by decide))).trans (TM21.trans (TM11.trans TM6.1))))))))))
            · skip
              refine PW.aload_n q_192_122 rfl ?_
              refine PW.cI q_192_123 (by decide) fun c86 hc86 => ?_
              refine PW.cV (as := [_]) (rest := []) q_192_124 t_mv_192_170 kd_294 IM62.1 (by decide) rfl (by decide) rfl rfl (Nat.le_of_ble_eq_true rfl) (Nat.le_of_ble_eq_true rfl) (by decide) (by decide) ?_
              refine PW.up (by decide) (c_X12_bad (V) (hV) G _ M62 IM62 c86 fun x88 M87 IM87 GM87 hx88 kx88 PM87 TM87 => ?_)
              have FM87 := Fr.trans FM62 GM87 (rfl)
              have ty89 : (o_a (M87 297) 0).toInt = (o_a (M62 297) 0).toInt := by rw [Fr.at GM87 kd_297 (by decide)]
              have ty90 : (o_a (M87 297) 1).toInt = (o_a (M62 297) 1).toInt := by rw [Fr.at GM87 kd_297 (by decide)]
              refine PW.rZ q_192_127 rfl (by omega) (by omega) (by decide) (by decide) ?_
              exact hK x88 M87 IM87 FM87 (by omega) (by omega) (by omega) (TM87.trans ((congrArg (fun e => o_i e 2) (UM62.1 294 (by decide))).trans ((congrArg (fun e => o_i e 2) (Fr.at GM55 kd_294 rfl)).trans (TM50.trans (TM42.trans (TM35.1.trans ((congrArg (fun e => o_i e 2) (UM29.1 294 (by decide))).trans (TM21.trans (TM11.trans TM6.1)))))))))
          · skip
            refine PW.cI q_192_95 (by decide) fun c91 hc91 => ?_
            refine PW.rZ q_192_96 rfl (by omega) (by omega) (by decide) (by decide) ?_
            exact hK c91 M50 IM50 FM50 (by omega) (by omega) (by omega) (TM50.trans (TM42.trans (TM35.1.trans ((congrArg (fun e => o_i e 2) (UM29.1 294 (by decide))).trans (TM21.trans (TM11.trans TM6.1))))))
      · skip
        refine PW.cI q_192_48 (by decide) fun c92 hc92 => ?_
        refine PW.rZ q_192_49 rfl (by omega) (by omega) (by decide) (by decide) ?_
        exact hK c92 M21 IM21 FM21 (by omega) (by omega) (by omega) (TM21.trans (TM11.trans TM6.1))
  · skip
    refine PW.aload_n q_192_12 rfl ?_
    refine PW.cI q_192_13 (by decide) fun c93 hc93 => ?_
    refine PW.cV (as := [_]) (rest := []) q_192_14 t_mv_192_170 kd_294 I.1 (by decide) rfl (by decide) rfl rfl (Nat.le_of_ble_eq_true rfl) (Nat.le_of_ble_eq_true rfl) (by decide) (by decide) ?_
    refine PW.up (by decide) (c_X12_bad (V) (hV) G _ M I c93 fun x95 M94 IM94 GM94 hx95 kx95 PM94 TM94 => ?_)
    have FM94 := Fr.trans F GM94 (rfl)
    have ty96 : (o_a (M94 297) 0).toInt = (o_a (M 297) 0).toInt := by rw [Fr.at GM94 kd_297 (by decide)]
    have ty97 : (o_a (M94 297) 1).toInt = (o_a (M 297) 1).toInt := by rw [Fr.at GM94 kd_297 (by decide)]
    refine PW.rZ q_192_17 rfl (by omega) (by omega) (by decide) (by decide) ?_
    exact hK x95 M94 IM94 FM94 (by omega) (by omega) (by omega) TM94
theorem c_X12_line (V : pM → Prop) (hV : Stab V) (G : pG) (Kr : pK) (M : pM) (I : Iv V M)  (hK : ∀ (x : Int32) (M1 : pM), Iv V M1 → Fr [40, 43, 45] M M1 → 0 ≤ x.toInt → x.toInt ≤ 1 → (o_i (M 294) 4 ≤ o_i (M1 294) 4 ∧ (x.toInt = 0 ∨ o_i (M1 294) 11 = 0 ∨ o_i (M1 294) 11 = 4 ∨ o_i (M 294) 4 + 1 ≤ o_i (M1 294) 4)) → (gLq M1 M) → Kr.1 (some (.int x)) 311 M1) : PW G false 5 189 (p_mc 189) (p_msl 189) Kr 0 (lv_args 0 [.ref 294]) [] 311 M 0 0 := by
  have F : Fr [40, 43, 45] M M := Fr.refl
  refine PW.aload_n q_189_0 rfl ?_
  refine PW.ldc2 q_189_1 t_lt_189_78 ?_
  refine PW.cV (as := [_]) (rest := []) q_189_4 t_mv_189_201 kd_294 I.1 (by decide) rfl (by decide) rfl rfl (Nat.le_of_ble_eq_true rfl) (Nat.le_of_ble_eq_true rfl) (by decide) (by decide) ?_
  refine PW.up (by decide) (c_X12_isWord (V) (hV) G _ M I _ fun x2 M1 IM1 GM1 hx2 kx2 TM1 => ?_)
  have FM1 := Fr.trans F GM1 (rfl)
  have ty3 : (o_a (M1 297) 0).toInt = (o_a (M 297) 0).toInt := by rw [Fr.at GM1 kd_297 (by decide)]
  have ty4 : (o_a (M1 297) 1).toInt = (o_a (M 297) 1).toInt := by rw [Fr.at GM1 kd_297 (by decide)]
  have tr5 : o_i (M1 294) 4 = o_i (M 294) 4 := by rw [Fr.at GM1 kd_294 (by decide)]
  have tr6 : o_i (M1 294) 11 = o_i (M 294) 11 := by rw [Fr.at GM1 kd_294 (by decide)]
  have tr7 : o_i (M1 294) 18 = o_i (M 294) 18 := by rw [Fr.at GM1 kd_294 (by decide)]
  refine PW.jz_eq q_189_7 rfl (fun h8 => ?_) (fun h8 => ?_)
  · skip
    refine PW.aload_n q_189_36 rfl ?_
    refine PW.ldc2 q_189_37 t_lt_189_80 ?_
    refine PW.cV (as := [_]) (rest := []) q_189_40 t_mv_189_201 kd_294 IM1.1 (by decide) rfl (by decide) rfl rfl (Nat.le_of_ble_eq_true rfl) (Nat.le_of_ble_eq_true rfl) (by decide) (by decide) ?_
    refine PW.up (by decide) (c_X12_isWord (V) (hV) G _ M1 IM1 _ fun x10 M9 IM9 GM9 hx10 kx10 TM9 => ?_)
    have FM9 := Fr.trans FM1 GM9 (rfl)
    have ty11 : (o_a (M9 297) 0).toInt = (o_a (M1 297) 0).toInt := by rw [Fr.at GM9 kd_297 (by decide)]
    have ty12 : (o_a (M9 297) 1).toInt = (o_a (M1 297) 1).toInt := by rw [Fr.at GM9 kd_297 (by decide)]
    have tr13 : o_i (M9 294) 4 = o_i (M1 294) 4 := by rw [Fr.at GM9 kd_294 (by decide)]
    have tr14 : o_i (M9 294) 11 = o_i (M1 294) 11 := by rw [Fr.at GM9 kd_294 (by decide)]
    have tr15 : o_i (M9 294) 18 = o_i (M1 294) 18 := by rw [Fr.at GM9 kd_294 (by decide)]
    refine PW.jz_eq q_189_43 rfl (fun h16 => ?_) (fun h16 => ?_)
    · skip
      refine PW.aload_n q_189_71 rfl ?_
      refine PW.ldc2 q_189_72 t_lt_189_82 ?_
      refine PW.cV (as := [_]) (rest := []) q_189_75 t_mv_189_201 kd_294 IM9.1 (by decide) rfl (by decide) rfl rfl (Nat.le_of_ble_eq_true rfl) (Nat.le_of_ble_eq_true rfl) (by decide) (by decide) ?_
      refine PW.up (by decide) (c_X12_isWord (V) (hV) G _ M9 IM9 _ fun x18 M17 IM17 GM17 hx18 kx18 TM17 => ?_)
      have FM17 := Fr.trans FM9 GM17 (rfl)
      have ty19 : (o_a (M17 297) 0).toInt = (o_a (M9 297) 0).toInt := by rw [Fr.at GM17 kd_297 (by decide)]
      have ty20 : (o_a (M17 297) 1).toInt = (o_a (M9 297) 1).toInt := by rw [Fr.at GM17 kd_297 (by decide)]
      have tr21 : o_i (M17 294) 4 = o_i (M9 294) 4 := by rw [Fr.at GM17 kd_294 (by decide)]
      have tr22 : o_i (M17 294) 11 = o_i (M9 294) 11 := by rw [Fr.at GM17 kd_294 (by decide)]
      have tr23 : o_i (M17 294) 18 = o_i (M9 294) 18 := by rw [Fr.at GM17 kd_294 (by decide)]
      refine PW.jz_eq q_189_78 rfl (fun h24 => ?_) (fun h24 => ?_)
      · skip
        refine PW.aload_n q_189_106 rfl ?_
        refine PW.ldc2 q_189_107 t_lt_189_84 ?_
        refine PW.cV (as := [_]) (rest := []) q_189_110 t_mv_189_201 kd_294 IM17.1 (by decide) rfl (by decide) rfl rfl (Nat.le_of_ble_eq_true rfl) (Nat.le_of_ble_eq_true rfl) (by decide) (by decide) ?_
        refine PW.up (by decide) (c_X12_isWord (V) (hV) G _ M17 IM17 _ fun x26 M25 IM25 GM25 hx26 kx26 TM25 => ?_)
        have FM25 := Fr.trans FM17 GM25 (rfl)
        have ty27 : (o_a (M25 297) 0).toInt = (o_a (M17 297) 0).toInt := by rw [Fr.at GM25 kd_297 (by decide)]
        have ty28 : (o_a (M25 297) 1).toInt = (o_a (M17 297) 1).toInt := by rw [Fr.at GM25 kd_297 (by decide)]
        have tr29 : o_i (M25 294) 4 = o_i (M17 294) 4 := by rw [Fr.at GM25 kd_294 (by decide)]
        have tr30 : o_i (M25 294) 11 = o_i (M17 294) 11 := by rw [Fr.at GM25 kd_294 (by decide)]
        have tr31 : o_i (M25 294) 18 = o_i (M17 294) 18 := by rw [Fr.at GM25 kd_294 (by decide)]
        refine PW.jz_eq q_189_113 rfl (fun h32 => ?_) (fun h32 => ?_)
        · skip
          refine PW.aload_n q_189_121 rfl ?_
          refine PW.ldc2 q_189_122 t_lt_189_88 ?_
          refine PW.cV (as := [_]) (rest := []) q_189_125 t_mv_189_201 kd_294 IM25.1 (by decide) rfl (by decide) rfl rfl (Nat.le_of_ble_eq_true rfl) (Nat.le_of_ble_eq_true rfl) (by decide) (by decide) ?_
          refine PW.up (by decide) (c_X12_isWord (V) (hV) G _ M25 IM25 _ fun x34 M33 IM33 GM33 hx34 kx34 TM33 => ?_)
          have FM33 := Fr.trans FM25 GM33 (rfl)
          have ty35 : (o_a (M33 297) 0).toInt = (o_a (M25 297) 0).toInt := by rw [Fr.at GM33 kd_297 (by decide)]
          have ty36 : (o_a (M33 297) 1).toInt = (o_a (M25 297) 1).toInt := by rw [Fr.at GM33 kd_297 (by decide)]
          have tr37 : o_i (M33 294) 4 = o_i (M25 294) 4 := by rw [Fr.at GM33 kd_294 (by decide)]
          have tr38 : o_i (M33 294) 11 = o_i (M25 294) 11 := by rw [Fr.at GM33 kd_294 (by decide)]
          have tr39 : o_i (M33 294) 18 = o_i (M25 294) 18 := by rw [Fr.at GM33 kd_294 (by decide)]
          refine PW.jz_eq q_189_128 rfl (fun h40 => ?_) (fun h40 => ?_)
          · skip
            refine PW.aload_n q_189_136 rfl ?_
            refine PW.ldc2 q_189_137 t_lt_189_98 ?_
            refine PW.cV (as := [_]) (rest := []) q_189_140 t_mv_189_201 kd_294 IM33.1 (by decide) rfl (by decide) rfl rfl (Nat.le_of_ble_eq_true rfl) (Nat.le_of_ble_eq_true rfl) (by decide) (by decide) ?_
            refine PW.up (by decide) (c_X12_isWord (V) (hV) G _ M33 IM33 _ fun x42 M41 IM41 GM41 hx42 kx42 TM41 => ?_)
            have FM41 := Fr.trans FM33 GM41 (rfl)
            have ty43 : (o_a (M41 297) 0).toInt = (o_a (M33 297) 0).toInt := by rw [Fr.at GM41 kd_297 (by decide)]
            have ty44 : (o_a (M41 297) 1).toInt = (o_a (M33 297) 1).toInt := by rw [Fr.at GM41 kd_297 (by decide)]
            have tr45 : o_i (M41 294) 4 = o_i (M33 294) 4 := by rw [Fr.at GM41 kd_294 (by decide)]
            have tr46 : o_i (M41 294) 11 = o_i (M33 294) 11 := by rw [Fr.at GM41 kd_294 (by decide)]
            have tr47 : o_i (M41 294) 18 = o_i (M33 294) 18 := by rw [Fr.at GM41 kd_294 (by decide)]
            refine PW.jz_ne q_189_143 rfl (fun h48 => ?_) (fun h48 => ?_)
            · skip
              refine PW.aload_n q_189_152 rfl ?_
              refine PW.cV (as := []) (rest := []) q_189_153 t_mv_189_173 kd_294 IM41.1 (by decide) rfl (by decide) rfl rfl (Nat.le_of_ble_eq_true rfl) (Nat.le_of_ble_eq_true rfl) (by decide) (by decide) ?_
              refine PW.up (by decide) (c_X12_go (V) (hV) G _ M41 IM41  fun M49 IM49 GM49 PM49 TM49 => ?_)
              have FM49 := Fr.trans FM41 GM49 (rfl)
              obtain ⟨PaM49, PdM49, PbM49, PeM49⟩ := PM49
              have ty50 : (o_a (M49 297) 0).toInt = (o_a (M41 297) 0).toInt := by rw [Fr.at GM49 kd_297 (by decide)]
              have ty51 : (o_a (M49 297) 1).toInt = (o_a (M41 297) 1).toInt := by rw [Fr.at GM49 kd_297 (by decide)]
              refine PW.aload_n q_189_156 rfl ?_
              refine PW.cB q_189_157 (by decide) fun c52 hc52 => ?_
              refine PW.aload_n q_189_159 rfl ?_
              refine PW.gR 297 q_189_160 (Or.inl t_ft_189_37) gF_40_7 kd_294 IM49.1 (by decide) rfl ?_
              refine PW.cI q_189_163 (by decide) fun c53 hc53 => ?_
              refine PW.aI q_189_164 gA_43 kd_297 IM49.1 (by decide) gB_43_1_1 (by decide) (by omega) (by omega) fun x54 fx54 hx54 kx54 => ?_
              have ty55 : (o_a (M49 297) 1).toInt = x54.toInt := by have e : c53.toInt.toNat = 1 := (by omega); rw [e] at fx54; rw [fx54]
              refine PW.cV (as := [_, _]) (rest := []) q_189_165 t_mv_189_217 kd_294 IM49.1 (by decide) rfl (by decide) rfl rfl (Nat.le_of_ble_eq_true rfl) (Nat.le_of_ble_eq_true rfl) (by decide) (by decide) ?_
              refine PW.up (by decide) (c_X12_looksAt_d (V) (hV) G _ M49 IM49 c52 x54 (by omega) (by omega) (by omega) (by omega) fun x57 M56 IM56 GM56 hx57 kx57 PM56 TM56 => ?_)
              have FM56 := Fr.trans FM49 GM56 (rfl)
              have ty58 : (o_a (M56 297) 0).toInt = (o_a (M49 297) 0).toInt := by rw [Fr.at GM56 kd_297 (by decide)]
              have ty59 : (o_a (M56 297) 1).toInt = (o_a (M49 297) 1).toInt := by rw [Fr.at GM56 kd_297 (by decide)]
              refine PW.jz_ne q_189_168 rfl (fun h60 => ?_) (fun h60 => ?_)
              · skip
                refine PW.aload_n q_189_173 rfl ?_
                refine PW.gI q_189_174 (Or.inl t_ft_189_180) gF_40_18 kd_294 IM56.1 (by decide) fun x61 fx61 hx61 kx61 => ?_
                have trx61 := o_i_of fx61
                clear hx61 kx61
                refine PW.istore_n q_189_177 (by decide) ?_
                refine PW.aload_n q_189_178 rfl ?_
                refine PW.gR 297 q_189_179 (Or.inl t_ft_189_37) gF_40_7 kd_294 IM56.1 (by decide) rfl ?_
                refine PW.cB q_189_182 (by decide) fun c62 hc62 => ?_
                refine PW.iload_n q_189_184 rfl ?_
                refine PW.addN q_189_185 (by have := n_lo x61; have := n_hi x61; omega) (by have := n_lo x61; have := n_hi x61; omega) fun x63 hx63 => ?_
                refine PW.aH q_189_186 gA_43 kd_297 IM56.1 (by decide) (by omega) (by omega) fun x64 fx64 => ?_
                refine PW.jz_le q_189_187 rfl (fun h65 => ?_) (fun h65 => ?_)
                · skip
                  refine PW.aload_n q_189_196 rfl ?_
                  refine PW.cV (as := []) (rest := []) q_189_197 t_mv_189_173 kd_294 IM56.1 (by decide) rfl (by decide) rfl rfl (Nat.le_of_ble_eq_true rfl) (Nat.le_of_ble_eq_true rfl) (by decide) (by decide) ?_
                  refine PW.up (by decide) (c_X12_go (V) (hV) G _ M56 IM56  fun M66 IM66 GM66 PM66 TM66 => ?_)
                  have FM66 := Fr.trans FM56 GM66 (rfl)
                  obtain ⟨PaM66, PdM66, PbM66, PeM66⟩ := PM66
                  clear PdM49
                  have ty67 : (o_a (M66 297) 0).toInt = (o_a (M56 297) 0).toInt := by rw [Fr.at GM66 kd_297 (by decide)]
                  have ty68 : (o_a (M66 297) 1).toInt = (o_a (M56 297) 1).toInt := by rw [Fr.at GM66 kd_297 (by decide)]
                  refine PW.aload_n q_189_200 rfl ?_
                  refine PW.cB q_189_201 (by decide) fun c69 hc69 => ?_
                  refine PW.iload_n q_189_203 rfl ?_
                  refine PW.addN q_189_204 (by have := n_lo x61; have := n_hi x61; omega) (by have := n_lo x61; have := n_hi x61; omega) fun x70 hx70 => ?_
                  refine PW.cI q_189_205 (by decide) fun c71 hc71 => ?_
                  refine PW.cB q_189_206 (by decide) fun c72 hc72 => ?_
                  refine PW.cV (as := [_, _, _]) (rest := []) q_189_208 t_mv_189_208 kd_294 IM66.1 (by decide) rfl (by decide) rfl rfl (Nat.le_of_ble_eq_true rfl) (Nat.le_of_ble_eq_true rfl) (by decide) (by decide) ?_
                  refine PW.up (by decide) (c_X12_puts_d (V) (hV) G _ M66 IM66 x70 c71 c72 (by omega) (by omega) fun x74 M73 IM73 GM73 hx74 kx74 PM73 TM73 => ?_)
                  have FM73 := Fr.trans FM66 GM73 (rfl)
                  obtain ⟨⟨PaM73, PdM73⟩, PbM73, PcM73⟩ := PM73
                  clear PdM66
                  refine PW.rZ q_189_211 rfl (by omega) (by omega) (by decide) (by decide) ?_
                  exact hK x74 M73 IM73 FM73 (by omega) (by omega) (by omega) (TM73.trans (TM66.1.trans (TM56.trans (TM49.1.trans ((congrArg (fun e => o_i e 2) (Fr.at GM41 kd_294 rfl)).trans ((congrArg (fun e => o_i e 2) (Fr.at GM33 kd_294 rfl)).trans ((congrArg (fun e => o_i e 2) (Fr.at GM25 kd_294 rfl)).trans ((congrArg (fun e => o_i e 2) (Fr.at GM17 kd_294 rfl)).trans ((congrArg (fun e => o_i e 2) (Fr.at GM9 kd_294 rfl)).trans (congrArg (fun e => o_i e 2) (Fr.at GM1 kd_294 rfl)))))))))))
                · skip
                  refine PW.aload_n q_189_190 rfl ?_
                  refine PW.cI q_189_191 (by decide) fun c75 hc75 => ?_
                  refine PW.cV (as := [_]) (rest := []) q_189_192 t_mv_189_170 kd_294 IM56.1 (by decide) rfl (by decide) rfl rfl (Nat.le_of_ble_eq_true rfl) (Nat.le_of_ble_eq_true rfl) (by decide) (by decide) ?_
                  refine PW.up (by decide) (c_X12_bad (V) (hV) G _ M56 IM56 c75 fun x77 M76 IM76 GM76 hx77 kx77 PM76 TM76 => ?_)
                  have FM76 := Fr.trans FM56 GM76 (rfl)
                  have ty78 : (o_a (M76 297) 0).toInt = (o_a (M56 297) 0).toInt := by rw [Fr.at GM76 kd_297 (by decide)]
                  have ty79 : (o_a (M76 297) 1).toInt = (o_a (M56 297) 1).toInt := by rw [Fr.at GM76 kd_297 (by decide)]
                  refine PW.rZ q_189_195 rfl (by omega) (by omega) (by decide) (by decide) ?_
                  exact hK x77 M76 IM76 FM76 (by omega) (by omega) (by omega) (TM76.trans (TM56.trans (TM49.1.trans ((congrArg (fun e => o_i e 2) (Fr.at GM41 kd_294 rfl)).trans ((congrArg (fun e => o_i e 2) (Fr.at GM33 kd_294 rfl)).trans ((congrArg (fun e => o_i e 2) (Fr.at GM25 kd_294 rfl)).trans ((congrArg (fun e => o_i e 2) (Fr.at GM17 kd_294 rfl)).trans ((congrArg (fun e => o_i e 2) (Fr.at GM9 kd_294 rfl)).trans (congrArg (fun e => o_i e 2) (Fr.at GM1 kd_294 rfl))))))))))
              · skip
                refine PW.cI q_189_171 (by decide) fun c80 hc80 => ?_
                refine PW.rZ q_189_172 rfl (by omega) (by omega) (by decide) (by decide) ?_
                exact hK c80 M56 IM56 FM56 (by omega) (by omega) (by omega) (TM56.trans (TM49.1.trans ((congrArg (fun e => o_i e 2) (Fr.at GM41 kd_294 rfl)).trans ((congrArg (fun e => o_i e 2) (Fr.at GM33 kd_294 rfl)).trans ((congrArg (fun e => o_i e 2) (Fr.at GM25 kd_294 rfl)).trans ((congrArg (fun e => o_i e 2) (Fr.at GM17 kd_294 rfl)).trans ((congrArg (fun e => o_i e 2) (Fr.at GM9 kd_294 rfl)).trans (congrArg (fun e => o_i e 2) (Fr.at GM1 kd_294 rfl)))))))))
            · skip
              refine PW.aload_n q_189_146 rfl ?_
              refine PW.cI q_189_147 (by decide) fun c81 hc81 => ?_
              refine PW.cV (as := [_]) (rest := []) q_189_148 t_mv_189_170 kd_294 IM41.1 (by decide) rfl (by decide) rfl rfl (Nat.le_of_ble_eq_true rfl) (Nat.le_of_ble_eq_true rfl) (by decide) (by decide) ?_
              refine PW.up (by decide) (c_X12_bad (V) (hV) G _ M41 IM41 c81 fun x83 M82 IM82 GM82 hx83 kx83 PM82 TM82 => ?_)
              have FM82 := Fr.trans FM41 GM82 (rfl)
              have ty84 : (o_a (M82 297) 0).toInt = (o_a (M41 297) 0).toInt := by rw [Fr.at GM82 kd_297 (by decide)]
              have ty85 : (o_a (M82 297) 1).toInt = (o_a (M41 297) 1).toInt := by rw [Fr.at GM82 kd_297 (by decide)]
              refine PW.rZ q_189_151 rfl (by omega) (by omega) (by decide) (by decide) ?_
              exact hK x83 M82 IM82 FM82 (by omega) (by omega) (by omega) (TM82.trans ((congrArg (fun e => o_i e 2) (Fr.at GM41 kd_294 rfl)).trans ((congrArg (fun e => o_i e 2) (Fr.at GM33 kd_294 rfl)).trans ((congrArg (fun e => o_i e 2) (Fr.at GM25 kd_294 rfl)).trans ((congrArg (fun e => o_i e 2) (Fr.at GM17 kd_294 rfl)).trans ((congrArg (fun e => o_i e 2) (Fr.at GM9 kd_294 rfl)).trans (congrArg (fun e => o_i e 2) (Fr.at GM1 kd_294 rfl))))))))
          · skip
            refine PW.aload_n q_189_131 rfl ?_
            refine PW.cV (as := []) (rest := []) q_189_132 t_mv_189_214 kd_294 IM33.1 (by decide) rfl (by decide) rfl rfl (Nat.le_of_ble_eq_true rfl) (Nat.le_of_ble_eq_true rfl) (by decide) (by decide) ?_
            refine PW.up (by decide) (c_X12_readDog (V) (hV) G _ M33 IM33  fun x87 M86 IM86 GM86 hx87 kx87 PM86 TM86 => ?_)
            have FM86 := Fr.trans FM33 GM86 (rfl)
            obtain ⟨PaM86, PdM86⟩ := PM86
            refine PW.rZ q_189_135 rfl (by omega) (by omega) (by decide) (by decide) ?_
            exact hK x87 M86 IM86 FM86 (by omega) (by omega) (by omega) (TM86.trans ((congrArg (fun e => o_i e 2) (Fr.at GM33 kd_294 rfl)).trans ((congrArg (fun e => o_i e 2) (Fr.at GM25 kd_294 rfl)).trans ((congrArg (fun e => o_i e 2) (Fr.at GM17 kd_294 rfl)).trans ((congrArg (fun e => o_i e 2) (Fr.at GM9 kd_294 rfl)).trans (congrArg (fun e => o_i e 2) (Fr.at GM1 kd_294 rfl)))))))
        · skip
          refine PW.aload_n q_189_116 rfl ?_
          refine PW.cV (as := []) (rest := []) q_189_117 t_mv_189_211 kd_294 IM25.1 (by decide) rfl (by decide) rfl rfl (Nat.le_of_ble_eq_true rfl) (Nat.le_of_ble_eq_true rfl) (by decide) (by decide) ?_
          refine PW.up (by decide) (c_X12_readWalker (V) (hV) G _ M25 IM25  fun x89 M88 IM88 GM88 hx89 kx89 PM88 TM88 => ?_)
          have FM88 := Fr.trans FM25 GM88 (rfl)
          obtain ⟨PaM88, PdM88⟩ := PM88
          refine PW.rZ q_189_120 rfl (by omega) (by omega) (by decide) (by decide) ?_
          exact hK x89 M88 IM88 FM88 (by omega) (by omega) (by omega) (TM88.trans ((congrArg (fun e => o_i e 2) (Fr.at GM25 kd_294 rfl)).trans ((congrArg (fun e => o_i e 2) (Fr.at GM17 kd_294 rfl)).trans ((congrArg (fun e => o_i e 2) (Fr.at GM9 kd_294 rfl)).trans (congrArg (fun e => o_i e 2) (Fr.at GM1 kd_294 rfl))))))
      · skip
        refine PW.aload_n q_189_81 rfl ?_
        refine PW.cI q_189_82 (by decide) fun c90 hc90 => ?_
        refine PW.cV (as := [_]) (rest := []) q_189_83 t_mv_189_205 kd_294 IM17.1 (by decide) rfl (by decide) rfl rfl (Nat.le_of_ble_eq_true rfl) (Nat.le_of_ble_eq_true rfl) (by decide) (by decide) ?_
        refine PW.up (by decide) (c_X12_isOnce (V) (hV) G _ M17 IM17 c90 fun x92 M91 IM91 GM91 hx92 kx92 PM91 TM91 => ?_)
        have FM91 := Fr.trans FM17 GM91 (rfl)
        obtain ⟨PaM91, PdM91⟩ := PM91
        have ty93 : (o_a (M91 297) 0).toInt = (o_a (M17 297) 0).toInt := by rw [Fr.at GM91 kd_297 (by decide)]
        have ty94 : (o_a (M91 297) 1).toInt = (o_a (M17 297) 1).toInt := by rw [Fr.at GM91 kd_297 (by decide)]
        refine PW.jz_eq q_189_86 rfl (fun h95 => ?_) (fun h95 => ?_)
        · skip
          refine PW.cI q_189_104 (by decide) fun c96 hc96 => ?_
          refine PW.rZ q_189_105 rfl (by omega) (by omega) (by decide) (by decide) ?_
          exact hK c96 M91 IM91 FM91 (by omega) (by omega) (by omega) (TM91.trans ((congrArg (fun e => o_i e 2) (Fr.at GM17 kd_294 rfl)).trans ((congrArg (fun e => o_i e 2) (Fr.at GM9 kd_294 rfl)).trans (congrArg (fun e => o_i e 2) (Fr.at GM1 kd_294 rfl)))))
        · skip
          refine PW.aload_n q_189_89 rfl ?_
          refine PW.cI q_189_90 (by decide) fun c97 hc97 => ?_
          refine PW.cI q_189_91 (by decide) fun c98 hc98 => ?_
          refine PW.cB q_189_92 (by decide) fun c99 hc99 => ?_
          refine PW.cV (as := [_, _, _]) (rest := []) q_189_94 t_mv_189_208 kd_294 IM91.1 (by decide) rfl (by decide) rfl rfl (Nat.le_of_ble_eq_true rfl) (Nat.le_of_ble_eq_true rfl) (by decide) (by decide) ?_
          refine PW.up (by decide) (c_X12_puts (V) (hV) G _ M91 IM91 c97 c98 c99 (by omega) (by omega) fun x101 M100 IM100 GM100 hx101 kx101 PM100 TM100 => ?_)
          have FM100 := Fr.trans FM91 GM100 (rfl)
          obtain ⟨⟨PaM100, PdM100⟩, PbM100, PcM100⟩ := PM100
          clear PdM91
          refine PW.jz_eq q_189_97 rfl (fun h102 => ?_) (fun h102 => ?_)
          · skip
            refine PW.cI q_189_104 (by decide) fun c103 hc103 => ?_
            refine PW.rZ q_189_105 rfl (by omega) (by omega) (by decide) (by decide) ?_
            exact hK c103 M100 IM100 FM100 (by omega) (by omega) (by omega) (TM100.trans (TM91.trans ((congrArg (fun e => o_i e 2) (Fr.at GM17 kd_294 rfl)).trans ((congrArg (fun e => o_i e 2) (Fr.at GM9 kd_294 rfl)).trans (congrArg (fun e => o_i e 2) (Fr.at GM1 kd_294 rfl))))))
          · skip
            refine PW.cI q_189_100 (by decide) fun c104 hc104 => ?_
            refine PW.goto q_189_101 rfl ?_
            refine PW.rZ q_189_105 rfl (by omega) (by omega) (by decide) (by decide) ?_
            exact hK c104 M100 IM100 FM100 (by omega) (by omega) (by omega) (TM100.trans (TM91.trans ((congrArg (fun e => o_i e 2) (Fr.at GM17 kd_294 rfl)).trans ((congrArg (fun e => o_i e 2) (Fr.at GM9 kd_294 rfl)).trans (congrArg (fun e => o_i e 2) (Fr.at GM1 kd_294 rfl))))))
    · skip
      refine PW.aload_n q_189_46 rfl ?_
      refine PW.cI q_189_47 (by decide) fun c105 hc105 => ?_
      refine PW.cV (as := [_]) (rest := []) q_189_48 t_mv_189_205 kd_294 IM9.1 (by decide) rfl (by decide) rfl rfl (Nat.le_of_ble_eq_true rfl) (Nat.le_of_ble_eq_true rfl) (by decide) (by decide) ?_
      refine PW.up (by decide) (c_X12_isOnce (V) (hV) G _ M9 IM9 c105 fun x107 M106 IM106 GM106 hx107 kx107 PM106 TM106 => ?_)
      have FM106 := Fr.trans FM9 GM106 (rfl)
      obtain ⟨PaM106, PdM106⟩ := PM106
      have ty108 : (o_a (M106 297) 0).toInt = (o_a (M9 297) 0).toInt := by rw [Fr.at GM106 kd_297 (by decide)]
      have ty109 : (o_a (M106 297) 1).toInt = (o_a (M9 297) 1).toInt := by rw [Fr.at GM106 kd_297 (by decide)]
      refine PW.jz_eq q_189_51 rfl (fun h110 => ?_) (fun h110 => ?_)
      · skip
        refine PW.cI q_189_69 (by decide) fun c111 hc111 => ?_
        refine PW.rZ q_189_70 rfl (by omega) (by omega) (by decide) (by decide) ?_
        exact hK c111 M106 IM106 FM106 (by omega) (by omega) (by omega) (TM106.trans ((congrArg (fun e => o_i e 2) (Fr.at GM9 kd_294 rfl)).trans (congrArg (fun e => o_i e 2) (Fr.at GM1 kd_294 rfl))))
      · skip
        refine PW.aload_n q_189_54 rfl ?_
        refine PW.cI q_189_55 (by decide) fun c112 hc112 => ?_
        refine PW.cI q_189_56 (by decide) fun c113 hc113 => ?_
        refine PW.cB q_189_57 (by decide) fun c114 hc114 => ?_
        refine PW.cV (as := [_, _, _]) (rest := []) q_189_59 t_mv_189_208 kd_294 IM106.1 (by decide) rfl (by decide) rfl rfl (Nat.le_of_ble_eq_true rfl) (Nat.le_of_ble_eq_true rfl) (by decide) (by decide) ?_
        refine PW.up (by decide) (c_X12_puts (V) (hV) G _ M106 IM106 c112 c113 c114 (by omega) (by omega) fun x116 M115 IM115 GM115 hx116 kx116 PM115 TM115 => ?_)
        have FM115 := Fr.trans FM106 GM115 (rfl)
        obtain ⟨⟨PaM115, PdM115⟩, PbM115, PcM115⟩ := PM115
        clear PdM106
        refine PW.jz_eq q_189_62 rfl (fun h117 => ?_) (fun h117 => ?_)
        · skip
          refine PW.cI q_189_69 (by decide) fun c118 hc118 => ?_
          refine PW.rZ q_189_70 rfl (by omega) (by omega) (by decide) (by decide) ?_
          exact hK c118 M115 IM115 FM115 (by omega) (by omega) (by omega) (TM115.trans (TM106.trans ((congrArg (fun e => o_i e 2) (Fr.at GM9 kd_294 rfl)).trans (congrArg (fun e => o_i e 2) (Fr.at GM1 kd_294 rfl)))))
        · skip
          refine PW.cI q_189_65 (by decide) fun c119 hc119 => ?_
          refine PW.goto q_189_66 rfl ?_
          refine PW.rZ q_189_70 rfl (by omega) (by omega) (by decide) (by decide) ?_
          exact hK c119 M115 IM115 FM115 (by omega) (by omega) (by omega) (TM115.trans (TM106.trans ((congrArg (fun e => o_i e 2) (Fr.at GM9 kd_294 rfl)).trans (congrArg (fun e => o_i e 2) (Fr.at GM1 kd_294 rfl)))))
  · skip
    refine PW.aload_n q_189_10 rfl ?_
    refine PW.cI q_189_11 (by decide) fun c120 hc120 => ?_
    refine PW.cV (as := [_]) (rest := []) q_189_12 t_mv_189_205 kd_294 IM1.1 (by decide) rfl (by decide) rfl rfl (Nat.le_of_ble_eq_true rfl) (Nat.le_of_ble_eq_true rfl) (by decide) (by decide) ?_
    refine PW.up (by decide) (c_X12_isOnce (V) (hV) G _ M1 IM1 c120 fun x122 M121 IM121 GM121 hx122 kx122 PM121 TM121 => ?_)
    have FM121 := Fr.trans FM1 GM121 (rfl)
    obtain ⟨PaM121, PdM121⟩ := PM121
    have ty123 : (o_a (M121 297) 0).toInt = (o_a (M1 297) 0).toInt := by rw [Fr.at GM121 kd_297 (by decide)]
    have ty124 : (o_a (M121 297) 1).toInt = (o_a (M1 297) 1).toInt := by rw [Fr.at GM121 kd_297 (by decide)]
    refine PW.jz_eq q_189_15 rfl (fun h125 => ?_) (fun h125 => ?_)
    · skip
      refine PW.cI q_189_34 (by decide) fun c126 hc126 => ?_
      refine PW.rZ q_189_35 rfl (by omega) (by omega) (by decide) (by decide) ?_
      exact hK c126 M121 IM121 FM121 (by omega) (by omega) (by omega) (TM121.trans (congrArg (fun e => o_i e 2) (Fr.at GM1 kd_294 rfl)))
    · skip
      refine PW.aload_n q_189_18 rfl ?_
      refine PW.cI q_189_19 (by decide) fun c127 hc127 => ?_
      refine PW.cI q_189_20 (by decide) fun c128 hc128 => ?_
      refine PW.cS q_189_21 (by decide) fun c129 hc129 => ?_
      refine PW.cV (as := [_, _, _]) (rest := []) q_189_24 t_mv_189_208 kd_294 IM121.1 (by decide) rfl (by decide) rfl rfl (Nat.le_of_ble_eq_true rfl) (Nat.le_of_ble_eq_true rfl) (by decide) (by decide) ?_
      refine PW.up (by decide) (c_X12_puts (V) (hV) G _ M121 IM121 c127 c128 c129 (by omega) (by omega) fun x131 M130 IM130 GM130 hx131 kx131 PM130 TM130 => ?_)
      have FM130 := Fr.trans FM121 GM130 (rfl)
      obtain ⟨⟨PaM130, PdM130⟩, PbM130, PcM130⟩ := PM130
      clear PdM121
      refine PW.jz_eq q_189_27 rfl (fun h132 => ?_) (fun h132 => ?_)
      · skip
        refine PW.cI q_189_34 (by decide) fun c133 hc133 => ?_
        refine PW.rZ q_189_35 rfl (by omega) (by omega) (by decide) (by decide) ?_
        exact hK c133 M130 IM130 FM130 (by omega) (by omega) (by omega) (TM130.trans (TM121.trans (congrArg (fun e => o_i e 2) (Fr.at GM1 kd_294 rfl))))
      · skip
        refine PW.cI q_189_30 (by decide) fun c134 hc134 => ?_
        refine PW.goto q_189_31 rfl ?_
        refine PW.rZ q_189_35 rfl (by omega) (by omega) (by decide) (by decide) ?_
        exact hK c134 M130 IM130 FM130 (by omega) (by omega) (by omega) (TM130.trans (TM121.trans (congrArg (fun e => o_i e 2) (Fr.at GM1 kd_294 rfl))))
