theorem c_X7_isKnownWord (V : pM → Prop) (hV : Stab V) (G : pG) (Kr : pK) (M : pM) (I : Iv V M)  (hK : ∀ (x : Int32) (M1 : pM), Iv V M1 → Fr [1] M M1 → 0 ≤ x.toInt → x.toInt ≤ 1 → Kr.1 (some (.int x)) 311 M1) : PW G false 0 79 (p_mc 79) (p_msl 79) Kr 0 (lv_args 0 [.ref 1]) [] 311 M 0 0 := by
  have F : Fr [1] M M := Fr.refl
  refine PW.cI q_79_0 (by decide) fun c1 hc1 => ?_
  refine PW.istore_n q_79_1 (by decide) ?_
  have L79_2_2 : ∀ (n : Nat) (ML79_2_2 : pM) (v3 : Int32), Iv (V) ML79_2_2 → Fr [1] M ML79_2_2 → 0 ≤ v3.toInt → v3.toInt ≤ 28 → (28 - v3.toInt).toNat = n → PW G false 0 79 (p_mc 79) (p_msl 79) Kr 2 [(0, .ref 1), (1, .int v3)] [] 311 ML79_2_2 0 0 := by
    intro n
    induction n using Nat.strongRecOn with
    | ind n ih_L79_2_2 =>
    intro ML79_2_2 v3 IML79_2_2 FML79_2_2 hbL79_2_20 hbL79_2_21 hmL79_2_2
    refine PW.iload_n q_79_2 rfl ?_
    refine PW.gWS q_79_3 rfl ?_
    refine PW.wlen q_79_6 fun c4 hc4 => ?_
    refine PW.jc_ge q_79_7 rfl (fun h5 => ?_) (fun h5 => ?_)
    · skip
      refine PW.cI q_79_43 (by decide) fun c6 hc6 => ?_
      refine PW.rZ q_79_44 rfl (by omega) (by omega) (by decide) (by decide) ?_
      exact hK c6 ML79_2_2 IML79_2_2 FML79_2_2 (by omega) (by omega)
    · skip
      refine PW.gWS q_79_10 rfl ?_
      refine PW.iload_n q_79_13 rfl ?_
      refine PW.wald q_79_14 (by omega) (by omega) fun r7 hr7 er7 => ?_
      refine PW.wcode q_79_15 rfl hr7 ?_
      refine PW.aload_n q_79_18 rfl ?_
      refine PW.gL q_79_19 (Or.inl t_ft_79_77) gF_1_7 kd_1 IML79_2_2.1 (by decide) fun l8 fl8 => ?_
      refine PW.lcmpH q_79_22 fun x9 => ?_
      refine PW.jz_ne q_79_23 rfl (fun h10 => ?_) (fun h10 => ?_)
      · skip
        refine PW.incN q_79_37 rfl (by decide) (by decide) (by omega) (by omega) fun x11 hx11 => ?_
        refine PW.goto q_79_40 rfl ?_
        refine PW.lvS (lk1 rfl (lk1 rfl lk0)) (ih_L79_2_2 _ ?_ ML79_2_2 x11 IML79_2_2 FML79_2_2 (by omega) (by omega) rfl)
        omega
      · skip
        refine PW.aload_n q_79_26 rfl ?_
        refine PW.gWS q_79_27 rfl ?_
        refine PW.iload_n q_79_30 rfl ?_
        refine PW.wald q_79_31 (by omega) (by omega) fun r12 hr12 er12 => ?_
        refine PW.pW q_79_32 (Or.inl t_ft_79_21) gF_1_6 gP_1_6 kd_1 hV IML79_2_2 (by decide) rfl hr12 fun M13 IM13 fM13 UM13 => ?_
        have FM13 := Fr.pu FML79_2_2 UM13.1 kd_1 (rfl : List.contains [1] 1 = true)
        refine PW.cI q_79_35 (by decide) fun c14 hc14 => ?_
        refine PW.rZ q_79_36 rfl (by omega) (by omega) (by decide) (by decide) ?_
        exact hK c14 M13 IM13 FM13 (by omega) (by omega)
  exact PW.lvS (lk1 rfl (lk1 rfl lk0)) (L79_2_2 _ M c1 I F (by omega) (by omega) rfl)
theorem c_X7_at (V : pM → Prop) (hV : Stab V) (G : pG) (Kr : pK) (M : pM) (I : Iv V M) (a1 : Int32) (hK : ∀ (x : Int32) (M1 : pM), Iv V M1 → Fr [] M M1 → -1 ≤ x.toInt → x.toInt ≤ 255 → Kr.1 (some (.int x)) 311 M1) : PW G false 0 75 (p_mc 75) (p_msl 75) Kr 0 (lv_args 0 [.ref 1, .int a1]) [] 311 M 0 0 := by
  have F : Fr [] M M := Fr.refl
  refine PW.iload_n q_75_0 rfl ?_
  refine PW.jz_lt q_75_1 rfl (fun h1 => ?_) (fun h1 => ?_)
  · skip
    refine PW.cI q_75_25 (by decide) fun c2 hc2 => ?_
    refine PW.rI q_75_26 rfl (by decide) (by decide) ?_
    exact hK c2 M I F (by omega) (by omega)
  · skip
    refine PW.iload_n q_75_4 rfl ?_
    refine PW.aload_n q_75_5 rfl ?_
    refine PW.gI q_75_6 (Or.inl t_ft_75_26) gF_1_1 kd_1 I.1 (by decide) fun x3 fx3 hx3 kx3 => ?_
    refine PW.jc_ge q_75_9 rfl (fun h4 => ?_) (fun h4 => ?_)
    · skip
      refine PW.cI q_75_25 (by decide) fun c5 hc5 => ?_
      refine PW.rI q_75_26 rfl (by decide) (by decide) ?_
      exact hK c5 M I F (by omega) (by omega)
    · skip
      refine PW.aload_n q_75_12 rfl ?_
      refine PW.gR 2 q_75_13 (Or.inl t_ft_75_9) gF_1_0 kd_1 I.1 (by decide) rfl ?_
      refine PW.iload_n q_75_16 rfl ?_
      refine PW.aY q_75_17 gA_2 kd_2 I.1 (by decide) (by omega) (by omega) fun x6 fx6 => ?_
      refine PW.cS q_75_18 (by decide) fun c7 hc7 => ?_
      refine PW.andP q_75_21 (by omega) fun x8 hx8 kx8 => ?_
      refine PW.goto q_75_22 rfl ?_
      refine PW.rI q_75_26 rfl (by decide) (by decide) ?_
      exact hK x8 M I F (by omega) (by omega)
theorem c_X7_isLetter (V : pM → Prop) (hV : Stab V) (G : pG) (Kr : pK) (M : pM) (I : Iv V M) (a0 : Int32) (hK : ∀ (x : Int32) (M1 : pM), Iv V M1 → Fr [] M M1 → 0 ≤ x.toInt → x.toInt ≤ 1 → Kr.1 (some (.int x)) 311 M1) : PW G false 0 80 (p_mc 80) (p_msl 80) Kr 0 (lv_args 0 [.int a0]) [] 311 M 0 0 := by
  have F : Fr [] M M := Fr.refl
  refine PW.iload_n q_80_0 rfl ?_
  refine PW.cB q_80_1 (by decide) fun c1 hc1 => ?_
  refine PW.jc_lt q_80_3 rfl (fun h2 => ?_) (fun h2 => ?_)
  · skip
    refine PW.cI q_80_16 (by decide) fun c3 hc3 => ?_
    refine PW.rZ q_80_17 rfl (by omega) (by omega) (by decide) (by decide) ?_
    exact hK c3 M I F (by omega) (by omega)
  · skip
    refine PW.iload_n q_80_6 rfl ?_
    refine PW.cB q_80_7 (by decide) fun c4 hc4 => ?_
    refine PW.jc_gt q_80_9 rfl (fun h5 => ?_) (fun h5 => ?_)
    · skip
      refine PW.cI q_80_16 (by decide) fun c6 hc6 => ?_
      refine PW.rZ q_80_17 rfl (by omega) (by omega) (by decide) (by decide) ?_
      exact hK c6 M I F (by omega) (by omega)
    · skip
      refine PW.cI q_80_12 (by decide) fun c7 hc7 => ?_
      refine PW.goto q_80_13 rfl ?_
      refine PW.rZ q_80_17 rfl (by omega) (by omega) (by decide) (by decide) ?_
      exact hK c7 M I F (by omega) (by omega)
theorem c_X7_isDigit (V : pM → Prop) (hV : Stab V) (G : pG) (Kr : pK) (M : pM) (I : Iv V M) (a0 : Int32) (hK : ∀ (x : Int32) (M1 : pM), Iv V M1 → Fr [] M M1 → 0 ≤ x.toInt → x.toInt ≤ 1 → Kr.1 (some (.int x)) 311 M1) : PW G false 0 81 (p_mc 81) (p_msl 81) Kr 0 (lv_args 0 [.int a0]) [] 311 M 0 0 := by
  have F : Fr [] M M := Fr.refl
  refine PW.iload_n q_81_0 rfl ?_
  refine PW.cB q_81_1 (by decide) fun c1 hc1 => ?_
  refine PW.jc_lt q_81_3 rfl (fun h2 => ?_) (fun h2 => ?_)
  · skip
    refine PW.cI q_81_16 (by decide) fun c3 hc3 => ?_
    refine PW.rZ q_81_17 rfl (by omega) (by omega) (by decide) (by decide) ?_
    exact hK c3 M I F (by omega) (by omega)
  · skip
    refine PW.iload_n q_81_6 rfl ?_
    refine PW.cB q_81_7 (by decide) fun c4 hc4 => ?_
    refine PW.jc_gt q_81_9 rfl (fun h5 => ?_) (fun h5 => ?_)
    · skip
      refine PW.cI q_81_16 (by decide) fun c6 hc6 => ?_
      refine PW.rZ q_81_17 rfl (by omega) (by omega) (by decide) (by decide) ?_
      exact hK c6 M I F (by omega) (by omega)
    · skip
      refine PW.cI q_81_12 (by decide) fun c7 hc7 => ?_
      refine PW.goto q_81_13 rfl ?_
      refine PW.rZ q_81_17 rfl (by omega) (by omega) (by decide) (by decide) ?_
      exact hK c7 M I F (by omega) (by omega)
theorem c_X7_isSign (V : pM → Prop) (hV : Stab V) (G : pG) (Kr : pK) (M : pM) (I : Iv V M) (a0 : Int32) (hK : ∀ (x : Int32) (M1 : pM), Iv V M1 → Fr [] M M1 → 0 ≤ x.toInt → x.toInt ≤ 1 → Kr.1 (some (.int x)) 311 M1) : PW G false 0 82 (p_mc 82) (p_msl 82) Kr 0 (lv_args 0 [.int a0]) [] 311 M 0 0 := by
  have F : Fr [] M M := Fr.refl
  refine PW.iload_n q_82_0 rfl ?_
  refine PW.cB q_82_1 (by decide) fun c1 hc1 => ?_
  refine PW.jc_eq q_82_3 rfl (fun h2 => ?_) (fun h2 => ?_)
  · skip
    refine PW.cI q_82_36 (by decide) fun c3 hc3 => ?_
    refine PW.goto q_82_37 rfl ?_
    refine PW.rZ q_82_41 rfl (by omega) (by omega) (by decide) (by decide) ?_
    exact hK c3 M I F (by omega) (by omega)
  · skip
    refine PW.iload_n q_82_6 rfl ?_
    refine PW.cB q_82_7 (by decide) fun c4 hc4 => ?_
    refine PW.jc_eq q_82_9 rfl (fun h5 => ?_) (fun h5 => ?_)
    · skip
      refine PW.cI q_82_36 (by decide) fun c6 hc6 => ?_
      refine PW.goto q_82_37 rfl ?_
      refine PW.rZ q_82_41 rfl (by omega) (by omega) (by decide) (by decide) ?_
      exact hK c6 M I F (by omega) (by omega)
    · skip
      refine PW.iload_n q_82_12 rfl ?_
      refine PW.cB q_82_13 (by decide) fun c7 hc7 => ?_
      refine PW.jc_eq q_82_15 rfl (fun h8 => ?_) (fun h8 => ?_)
      · skip
        refine PW.cI q_82_36 (by decide) fun c9 hc9 => ?_
        refine PW.goto q_82_37 rfl ?_
        refine PW.rZ q_82_41 rfl (by omega) (by omega) (by decide) (by decide) ?_
        exact hK c9 M I F (by omega) (by omega)
      · skip
        refine PW.iload_n q_82_18 rfl ?_
        refine PW.cB q_82_19 (by decide) fun c10 hc10 => ?_
        refine PW.jc_eq q_82_21 rfl (fun h11 => ?_) (fun h11 => ?_)
        · skip
          refine PW.cI q_82_36 (by decide) fun c12 hc12 => ?_
          refine PW.goto q_82_37 rfl ?_
          refine PW.rZ q_82_41 rfl (by omega) (by omega) (by decide) (by decide) ?_
          exact hK c12 M I F (by omega) (by omega)
        · skip
          refine PW.iload_n q_82_24 rfl ?_
          refine PW.cB q_82_25 (by decide) fun c13 hc13 => ?_
          refine PW.jc_eq q_82_27 rfl (fun h14 => ?_) (fun h14 => ?_)
          · skip
            refine PW.cI q_82_36 (by decide) fun c15 hc15 => ?_
            refine PW.goto q_82_37 rfl ?_
            refine PW.rZ q_82_41 rfl (by omega) (by omega) (by decide) (by decide) ?_
            exact hK c15 M I F (by omega) (by omega)
          · skip
            refine PW.iload_n q_82_30 rfl ?_
            refine PW.cB q_82_31 (by decide) fun c16 hc16 => ?_
            refine PW.jc_ne q_82_33 rfl (fun h17 => ?_) (fun h17 => ?_)
            · skip
              refine PW.cI q_82_40 (by decide) fun c18 hc18 => ?_
              refine PW.rZ q_82_41 rfl (by omega) (by omega) (by decide) (by decide) ?_
              exact hK c18 M I F (by omega) (by omega)
            · skip
              refine PW.cI q_82_36 (by decide) fun c19 hc19 => ?_
              refine PW.goto q_82_37 rfl ?_
              refine PW.rZ q_82_41 rfl (by omega) (by omega) (by decide) (by decide) ?_
              exact hK c19 M I F (by omega) (by omega)
theorem c_X7_fail (V : pM → Prop) (hV : Stab V) (G : pG) (Kr : pK) (M : pM) (I : Iv V M) (a1 : Int32) (hK : ∀ (x : Int32) (M1 : pM), Iv V M1 → Fr [1] M M1 → 0 ≤ x.toInt → x.toInt ≤ 0 → Kr.1 (some (.int x)) 311 M1) : PW G false 0 83 (p_mc 83) (p_msl 83) Kr 0 (lv_args 0 [.ref 1, .int a1]) [] 311 M 0 0 := by
  have F : Fr [1] M M := Fr.refl
  refine PW.aload_n q_83_0 rfl ?_
  refine PW.gI q_83_1 (Or.inl t_ft_83_36) gF_1_10 kd_1 I.1 (by decide) fun x1 fx1 hx1 kx1 => ?_
  clear hx1 kx1
  refine PW.jz_ne q_83_4 rfl (fun h2 => ?_) (fun h2 => ?_)
  · skip
    refine PW.cI q_83_20 (by decide) fun c3 hc3 => ?_
    refine PW.rZ q_83_21 rfl (by omega) (by omega) (by decide) (by decide) ?_
    exact hK c3 M I F (by omega) (by omega)
  · skip
    refine PW.aload_n q_83_7 rfl ?_
    refine PW.iload_n q_83_8 rfl ?_
    refine PW.pI q_83_9 (Or.inl t_ft_83_36) gF_1_10 gP_1_10 kd_1 hV I (by decide) rfl (n_lo _) (n_hi _) fun M4 IM4 fM4 UM4 => ?_
    have FM4 := Fr.pu F UM4.1 kd_1 (rfl : List.contains [1] 1 = true)
    refine PW.aload_n q_83_12 rfl ?_
    refine PW.aload_n q_83_13 rfl ?_
    refine PW.gI q_83_14 (Or.inl t_ft_83_55) gF_1_4 kd_1 IM4.1 (by decide) fun x5 fx5 hx5 kx5 => ?_
    clear hx5 kx5
    refine PW.pI q_83_17 (Or.inl t_ft_83_39) gF_1_11 gP_1_11 kd_1 hV IM4 (by decide) rfl (n_lo _) (n_hi _) fun M6 IM6 fM6 UM6 => ?_
    have FM6 := Fr.pu FM4 UM6.1 kd_1 (rfl : List.contains [1] 1 = true)
    refine PW.cI q_83_20 (by decide) fun c7 hc7 => ?_
    refine PW.rZ q_83_21 rfl (by omega) (by omega) (by decide) (by decide) ?_
    exact hK c7 M6 IM6 FM6 (by omega) (by omega)
theorem c_X7_atEnd (V : pM → Prop) (hV : Stab V) (G : pG) (Kr : pK) (M : pM) (I : Iv V M)  (hK : ∀ (x : Int32) (M1 : pM), Iv V M1 → Fr [] M M1 → 0 ≤ x.toInt → x.toInt ≤ 1 → Kr.1 (some (.int x)) 311 M1) : PW G false 0 84 (p_mc 84) (p_msl 84) Kr 0 (lv_args 0 [.ref 1]) [] 311 M 0 0 := by
  have F : Fr [] M M := Fr.refl
  refine PW.aload_n q_84_0 rfl ?_
  refine PW.gI q_84_1 (Or.inl t_ft_84_58) gF_1_5 kd_1 I.1 (by decide) fun x1 fx1 hx1 kx1 => ?_
  clear hx1 kx1
  refine PW.jz_ne q_84_4 rfl (fun h2 => ?_) (fun h2 => ?_)
  · skip
    refine PW.cI q_84_11 (by decide) fun c3 hc3 => ?_
    refine PW.rZ q_84_12 rfl (by omega) (by omega) (by decide) (by decide) ?_
    exact hK c3 M I F (by omega) (by omega)
  · skip
    refine PW.cI q_84_7 (by decide) fun c4 hc4 => ?_
    refine PW.goto q_84_8 rfl ?_
    refine PW.rZ q_84_12 rfl (by omega) (by omega) (by decide) (by decide) ?_
    exact hK c4 M I F (by omega) (by omega)
theorem c_X7_sees (V : pM → Prop) (hV : Stab V) (G : pG) (Kr : pK) (M : pM) (I : Iv V M) (r1 : Nat) (hr1 : r1 < 28) (hK : ∀ (x : Int32) (M1 : pM), Iv V M1 → Fr [] M M1 → 0 ≤ x.toInt → x.toInt ≤ 1 → Kr.1 (some (.int x)) 311 M1) : PW G false 0 86 (p_mc 86) (p_msl 86) Kr 0 (lv_args 0 [.ref 1, .ref (65536 + r1)]) [] 311 M 0 0 := by
  have F : Fr [] M M := Fr.refl
  refine PW.aload_n q_86_0 rfl ?_
  refine PW.gI q_86_1 (Or.inl t_ft_86_58) gF_1_5 kd_1 I.1 (by decide) fun x1 fx1 hx1 kx1 => ?_
  clear hx1 kx1
  refine PW.cI q_86_4 (by decide) fun c2 hc2 => ?_
  refine PW.jc_ne q_86_5 rfl (fun h3 => ?_) (fun h3 => ?_)
  · skip
    refine PW.cI q_86_20 (by decide) fun c4 hc4 => ?_
    refine PW.rZ q_86_21 rfl (by omega) (by omega) (by decide) (by decide) ?_
    exact hK c4 M I F (by omega) (by omega)
  · skip
    refine PW.aload_n q_86_8 rfl ?_
    refine PW.gW q_86_9 (Or.inl t_ft_86_21) gF_1_6 kd_1 I.1 (by decide) fun r5 hr5 fr5 => ?_
    refine PW.aload_n q_86_12 rfl ?_
    refine PW.ja_ne (rx := (some (65536 + r5))) (ry := (some (65536 + r1))) q_86_13 rfl (fun h6 => ?_) (fun h6 => ?_)
    · skip
      refine PW.cI q_86_20 (by decide) fun c7 hc7 => ?_
      refine PW.rZ q_86_21 rfl (by omega) (by omega) (by decide) (by decide) ?_
      exact hK c7 M I F (by omega) (by omega)
    · skip
      refine PW.cI q_86_16 (by decide) fun c8 hc8 => ?_
      refine PW.goto q_86_17 rfl ?_
      refine PW.rZ q_86_21 rfl (by omega) (by omega) (by decide) (by decide) ?_
      exact hK c8 M I F (by omega) (by omega)
theorem c_X7_seesSign (V : pM → Prop) (hV : Stab V) (G : pG) (Kr : pK) (M : pM) (I : Iv V M) (a1 : Int32) (hK : ∀ (x : Int32) (M1 : pM), Iv V M1 → Fr [] M M1 → 0 ≤ x.toInt → x.toInt ≤ 1 → Kr.1 (some (.int x)) 311 M1) : PW G false 0 87 (p_mc 87) (p_msl 87) Kr 0 (lv_args 0 [.ref 1, .int a1]) [] 311 M 0 0 := by
  have F : Fr [] M M := Fr.refl
  refine PW.aload_n q_87_0 rfl ?_
  refine PW.gI q_87_1 (Or.inl t_ft_87_58) gF_1_5 kd_1 I.1 (by decide) fun x1 fx1 hx1 kx1 => ?_
  clear hx1 kx1
  refine PW.cI q_87_4 (by decide) fun c2 hc2 => ?_
  refine PW.jc_ne q_87_5 rfl (fun h3 => ?_) (fun h3 => ?_)
  · skip
    refine PW.cI q_87_20 (by decide) fun c4 hc4 => ?_
    refine PW.rZ q_87_21 rfl (by omega) (by omega) (by decide) (by decide) ?_
    exact hK c4 M I F (by omega) (by omega)
  · skip
    refine PW.aload_n q_87_8 rfl ?_
    refine PW.gI q_87_9 (Or.inl t_ft_87_71) gF_1_9 kd_1 I.1 (by decide) fun x5 fx5 hx5 kx5 => ?_
    clear hx5 kx5
    refine PW.iload_n q_87_12 rfl ?_
    refine PW.jc_ne q_87_13 rfl (fun h6 => ?_) (fun h6 => ?_)
    · skip
      refine PW.cI q_87_20 (by decide) fun c7 hc7 => ?_
      refine PW.rZ q_87_21 rfl (by omega) (by omega) (by decide) (by decide) ?_
      exact hK c7 M I F (by omega) (by omega)
    · skip
      refine PW.cI q_87_16 (by decide) fun c8 hc8 => ?_
      refine PW.goto q_87_17 rfl ?_
      refine PW.rZ q_87_21 rfl (by omega) (by omega) (by decide) (by decide) ?_
      exact hK c8 M I F (by omega) (by omega)
theorem c_X7_readRun (V : pM → Prop) (hV : Stab V) (G : pG) (Kr : pK) (M : pM) (I : Iv V M)  (hK : ∀ (M1 : pM), Iv V M1 → Fr [1] M M1 → Kr.1 none 311 M1) : PW G false 1 78 (p_mc 78) (p_msl 78) Kr 0 (lv_args 0 [.ref 1]) [] 311 M 0 0 := by
  have F : Fr [1] M M := Fr.refl
  refine PW.cI q_78_0 (by decide) fun c1 hc1 => ?_
  refine PW.istore_n q_78_1 (by decide) ?_
  refine PW.cI q_78_2 (by decide) fun c2 hc2 => ?_
  refine PW.istore_n q_78_3 (by decide) ?_
  refine PW.aload_n q_78_4 rfl ?_
  refine PW.lconst q_78_5 ?_
  refine PW.pL q_78_6 (Or.inl t_ft_78_77) gF_1_7 gP_1_7 kd_1 hV I (by decide) rfl fun M3 IM3 fM3 UM3 => ?_
  have FM3 := Fr.pu F UM3.1 kd_1 (rfl : List.contains [1] 1 = true)
  refine PW.aload_n q_78_9 rfl ?_
  refine PW.cI q_78_10 (by decide) fun c4 hc4 => ?_
  refine PW.pI q_78_11 (Or.inl t_ft_78_81) gF_1_8 gP_1_8 kd_1 hV IM3 (by decide) rfl (n_lo _) (n_hi _) fun M5 IM5 fM5 UM5 => ?_
  have FM5 := Fr.pu FM3 UM5.1 kd_1 (rfl : List.contains [1] 1 = true)
  have L78_14_6 : ∀ (n : Nat) (ML78_14_6 : pM) (v7 v8 : Int32), Iv (V) ML78_14_6 → Fr [1] M ML78_14_6 → (940 - o_i (ML78_14_6 1) 3).toNat = n → PW G false 1 78 (p_mc 78) (p_msl 78) Kr 14 [(0, .ref 1), (1, .int v7), (2, .int v8)] [] 311 ML78_14_6 0 0 := by
    intro n
    induction n using Nat.strongRecOn with
    | ind n ih_L78_14_6 =>
    intro ML78_14_6 v7 v8 IML78_14_6 FML78_14_6  hmL78_14_6
    obtain ⟨x9, fx9, hx9, kx9⟩ := gF_1_3.int kd_1 IML78_14_6.1 (by decide)
    have ex9 := o_i_of fx9
    refine PW.aload_n q_78_14 rfl ?_
    refine PW.gE q_78_15 (Or.inl t_ft_78_33) gF_1_3 kd_1 IML78_14_6.1 (by decide) fx9 ?_
    refine PW.aload_n q_78_18 rfl ?_
    refine PW.gI q_78_19 (Or.inl t_ft_78_26) gF_1_1 kd_1 IML78_14_6.1 (by decide) fun x10 fx10 hx10 kx10 => ?_
    have J131_12 : ∀ (MJ131_12 : pM), Iv (V) MJ131_12 → Fr [1] M MJ131_12 → o_f (MJ131_12 1) 3 = .int x9 → o_f (MJ131_12 1) 1 = .int x10 → PW G false 1 78 (p_mc 78) (p_msl 78) Kr 131 [(0, .ref 1), (1, .int v7), (2, .int v8)] [] 311 MJ131_12 0 0 := by
      intro MJ131_12  IMJ131_12 FMJ131_12 hbJ131_120 hbJ131_121
      refine PW.iload_n q_78_131 rfl ?_
      refine PW.jz_ne q_78_132 rfl (fun h13 => ?_) (fun h13 => ?_)
      · skip
        refine PW.aload_n q_78_160 rfl ?_
        refine PW.iload_n q_78_161 rfl ?_
        refine PW.jz_ne q_78_162 rfl (fun h14 => ?_) (fun h14 => ?_)
        · skip
          refine PW.cI q_78_174 (by decide) fun c15 hc15 => ?_
          refine PW.pI q_78_175 (Or.inl t_ft_78_58) gF_1_5 gP_1_5 kd_1 hV IMJ131_12 (by decide) rfl (n_lo _) (n_hi _) fun M16 IM16 fM16 UM16 => ?_
          have FM16 := Fr.pu FMJ131_12 UM16.1 kd_1 (rfl : List.contains [1] 1 = true)
          refine PW.vret q_78_178 rfl (by decide) (by decide) ?_
          exact hK M16 IM16 FM16
        · skip
          refine PW.iload_n q_78_165 rfl ?_
          refine PW.cI q_78_166 (by decide) fun c17 hc17 => ?_
          refine PW.jc_gt q_78_167 rfl (fun h18 => ?_) (fun h18 => ?_)
          · skip
            refine PW.cI q_78_174 (by decide) fun c19 hc19 => ?_
            refine PW.pI q_78_175 (Or.inl t_ft_78_58) gF_1_5 gP_1_5 kd_1 hV IMJ131_12 (by decide) rfl (n_lo _) (n_hi _) fun M20 IM20 fM20 UM20 => ?_
            have FM20 := Fr.pu FMJ131_12 UM20.1 kd_1 (rfl : List.contains [1] 1 = true)
            refine PW.vret q_78_178 rfl (by decide) (by decide) ?_
            exact hK M20 IM20 FM20
          · skip
            refine PW.cI q_78_170 (by decide) fun c21 hc21 => ?_
            refine PW.goto q_78_171 rfl ?_
            refine PW.pI q_78_175 (Or.inl t_ft_78_58) gF_1_5 gP_1_5 kd_1 hV IMJ131_12 (by decide) rfl (n_lo _) (n_hi _) fun M22 IM22 fM22 UM22 => ?_
            have FM22 := Fr.pu FMJ131_12 UM22.1 kd_1 (rfl : List.contains [1] 1 = true)
            refine PW.vret q_78_178 rfl (by decide) (by decide) ?_
            exact hK M22 IM22 FM22
      · skip
        refine PW.iload_n q_78_135 rfl ?_
        refine PW.cB q_78_136 (by decide) fun c23 hc23 => ?_
        refine PW.jc_gt q_78_138 rfl (fun h24 => ?_) (fun h24 => ?_)
        · skip
          refine PW.aload_n q_78_160 rfl ?_
          refine PW.iload_n q_78_161 rfl ?_
          refine PW.jz_ne q_78_162 rfl (fun h25 => ?_) (fun h25 => False.elim (by omega))
          refine PW.cI q_78_174 (by decide) fun c26 hc26 => ?_
          refine PW.pI q_78_175 (Or.inl t_ft_78_58) gF_1_5 gP_1_5 kd_1 hV IMJ131_12 (by decide) rfl (n_lo _) (n_hi _) fun M27 IM27 fM27 UM27 => ?_
          have FM27 := Fr.pu FMJ131_12 UM27.1 kd_1 (rfl : List.contains [1] 1 = true)
          refine PW.vret q_78_178 rfl (by decide) (by decide) ?_
          exact hK M27 IM27 FM27
        · skip
          refine PW.aload_n q_78_141 rfl ?_
          refine PW.aload_n q_78_142 rfl ?_
          refine PW.cV (as := []) (rest := [_]) q_78_143 t_mv_78_88 kd_1 IMJ131_12.1 (by decide) rfl (by decide) rfl rfl (Nat.le_of_ble_eq_true rfl) (Nat.le_of_ble_eq_true rfl) (by decide) (by decide) ?_
          refine PW.up (by decide) (c_X7_isKnownWord (V) (hV) G _ MJ131_12 IMJ131_12  fun x29 M28 IM28 GM28 hx29 kx29 => ?_)
          have FM28 := Fr.trans FMJ131_12 GM28 (rfl)
          refine PW.jz_eq q_78_146 rfl (fun h30 => ?_) (fun h30 => ?_)
          · skip
            refine PW.cI q_78_153 (by decide) fun c31 hc31 => ?_
            refine PW.pI q_78_154 (Or.inl t_ft_78_58) gF_1_5 gP_1_5 kd_1 hV IM28 (by decide) rfl (n_lo _) (n_hi _) fun M32 IM32 fM32 UM32 => ?_
            have FM32 := Fr.pu FM28 UM32.1 kd_1 (rfl : List.contains [1] 1 = true)
            refine PW.goto q_78_157 rfl ?_
            refine PW.vret q_78_178 rfl (by decide) (by decide) ?_
            exact hK M32 IM32 FM32
          · skip
            refine PW.cI q_78_149 (by decide) fun c33 hc33 => ?_
            refine PW.goto q_78_150 rfl ?_
            refine PW.pI q_78_154 (Or.inl t_ft_78_58) gF_1_5 gP_1_5 kd_1 hV IM28 (by decide) rfl (n_lo _) (n_hi _) fun M34 IM34 fM34 UM34 => ?_
            have FM34 := Fr.pu FM28 UM34.1 kd_1 (rfl : List.contains [1] 1 = true)
            refine PW.goto q_78_157 rfl ?_
            refine PW.vret q_78_178 rfl (by decide) (by decide) ?_
            exact hK M34 IM34 FM34
    refine PW.jc_ge q_78_22 rfl (fun h11 => ?_) (fun h11 => ?_)
    · skip
      exact PW.lvS (lk1 rfl (lk1 rfl (lk1 rfl lk0))) (J131_12 ML78_14_6  IML78_14_6 FML78_14_6 fx9 fx10)
    · skip
      refine PW.aload_n q_78_25 rfl ?_
      refine PW.aload_n q_78_26 rfl ?_
      refine PW.gE q_78_27 (Or.inl t_ft_78_33) gF_1_3 kd_1 IML78_14_6.1 (by decide) fx9 ?_
      refine PW.cV (as := [_]) (rest := []) q_78_30 t_mv_78_51 kd_1 IML78_14_6.1 (by decide) rfl (by decide) rfl rfl (Nat.le_of_ble_eq_true rfl) (Nat.le_of_ble_eq_true rfl) (by decide) (by decide) ?_
      refine PW.up (by decide) (c_X7_at (V) (hV) G _ ML78_14_6 IML78_14_6 x9 fun x36 M35 IM35 GM35 hx36 kx36 => ?_)
      have FM35 := Fr.trans FML78_14_6 GM35 (rfl)
      refine PW.callS (as := [_]) (rest := []) q_78_33 t_ms_78_61 (by decide) rfl (Nat.le_of_ble_eq_true rfl) (Nat.le_of_ble_eq_true rfl) (by decide) (by decide) ?_
      refine PW.up (by decide) (c_X7_isLetter (V) (hV) G _ M35 IM35 x36 fun x38 M37 IM37 GM37 hx38 kx38 => ?_)
      have FM37 := Fr.trans FM35 GM37 (rfl)
      refine PW.jz_ne q_78_36 rfl (fun h39 => ?_) (fun h39 => ?_)
      · skip
        refine PW.aload_n q_78_53 rfl ?_
        refine PW.aload_n q_78_54 rfl ?_
        refine PW.gE q_78_55 (Or.inl t_ft_78_33) gF_1_3 kd_1 IM37.1 (by decide) ((congrArg (fun e => o_f e 3) (Fr.at GM37 kd_1 (by decide))).trans ((congrArg (fun e => o_f e 3) (Fr.at GM35 kd_1 (by decide))).trans fx9)) ?_
        refine PW.cV (as := [_]) (rest := []) q_78_58 t_mv_78_51 kd_1 IM37.1 (by decide) rfl (by decide) rfl rfl (Nat.le_of_ble_eq_true rfl) (Nat.le_of_ble_eq_true rfl) (by decide) (by decide) ?_
        refine PW.up (by decide) (c_X7_at (V) (hV) G _ M37 IM37 x9 fun x41 M40 IM40 GM40 hx41 kx41 => ?_)
        have FM40 := Fr.trans FM37 GM40 (rfl)
        refine PW.callS (as := [_]) (rest := []) q_78_61 t_ms_78_61 (by decide) rfl (Nat.le_of_ble_eq_true rfl) (Nat.le_of_ble_eq_true rfl) (by decide) (by decide) ?_
        refine PW.up (by decide) (c_X7_isLetter (V) (hV) G _ M40 IM40 x41 fun x43 M42 IM42 GM42 hx43 kx43 => ?_)
        have FM42 := Fr.trans FM40 GM42 (rfl)
        have J118_45 : ∀ (MJ118_45 : pM) (v46 v47 : Int32), Iv (V) MJ118_45 → Fr [1] M MJ118_45 → o_f (MJ118_45 1) 3 = .int x9 → o_f (MJ118_45 1) 1 = .int x10 → PW G false 1 78 (p_mc 78) (p_msl 78) Kr 118 [(0, .ref 1), (1, .int v46), (2, .int v47)] [] 311 MJ118_45 0 0 := by
          intro MJ118_45 v46 v47 IMJ118_45 FMJ118_45 hbJ118_450 hbJ118_451
          refine PW.aload_n q_78_118 rfl ?_
          refine PW.dup q_78_119 rfl ?_
          refine PW.gE q_78_120 (Or.inl t_ft_78_33) gF_1_3 kd_1 IMJ118_45.1 (by decide) hbJ118_450 ?_
          refine PW.cI q_78_123 (by decide) fun c48 hc48 => ?_
          refine PW.addN q_78_124 (by omega) (by omega) fun x49 hx49 => ?_
          refine PW.pI q_78_125 (Or.inl t_ft_78_33) gF_1_3 gP_1_3 kd_1 hV IMJ118_45 (by decide) rfl (by omega) (by omega) fun M50 IM50 fM50 UM50 => ?_
          have FM50 := Fr.pu FMJ118_45 UM50.1 kd_1 (rfl : List.contains [1] 1 = true)
          refine PW.goto q_78_128 rfl ?_
          have em50 := o_i_of fM50
          refine PW.lvS (lk1 rfl (lk1 rfl (lk1 rfl lk0))) (ih_L78_14_6 _ ?_ M50 v46 v47 IM50 FM50  rfl)
          omega
        refine PW.jz_eq q_78_64 rfl (fun h44 => ?_) (fun h44 => ?_)
        · skip
          refine PW.incH q_78_92 rfl (by decide) fun x52 => ?_
          refine PW.aload_n q_78_95 rfl ?_
          refine PW.aload_n q_78_96 rfl ?_
          refine PW.gI q_78_97 (Or.inl t_ft_78_81) gF_1_8 kd_1 IM42.1 (by decide) fun x53 fx53 hx53 kx53 => ?_
          clear hx53 kx53
          refine PW.cB q_78_100 (by decide) fun c54 hc54 => ?_
          refine PW.mulH q_78_102 fun x55 => ?_
          refine PW.aload_n q_78_103 rfl ?_
          refine PW.aload_n q_78_104 rfl ?_
          refine PW.gE q_78_105 (Or.inl t_ft_78_33) gF_1_3 kd_1 IM42.1 (by decide) ((congrArg (fun e => o_f e 3) (Fr.at GM42 kd_1 (by decide))).trans ((congrArg (fun e => o_f e 3) (Fr.at GM40 kd_1 (by decide))).trans ((congrArg (fun e => o_f e 3) (Fr.at GM37 kd_1 (by decide))).trans ((congrArg (fun e => o_f e 3) (Fr.at GM35 kd_1 (by decide))).trans fx9)))) ?_
          refine PW.cV (as := [_]) (rest := [_, _]) q_78_108 t_mv_78_51 kd_1 IM42.1 (by decide) rfl (by decide) rfl rfl (Nat.le_of_ble_eq_true rfl) (Nat.le_of_ble_eq_true rfl) (by decide) (by decide) ?_
          refine PW.up (by decide) (c_X7_at (V) (hV) G _ M42 IM42 x9 fun x57 M56 IM56 GM56 hx57 kx57 => ?_)
          have FM56 := Fr.trans FM42 GM56 (rfl)
          refine PW.addH q_78_111 fun x58 => ?_
          refine PW.cB q_78_112 (by decide) fun c59 hc59 => ?_
          refine PW.subH q_78_114 fun x60 => ?_
          refine PW.pI q_78_115 (Or.inl t_ft_78_81) gF_1_8 gP_1_8 kd_1 hV IM56 (by decide) rfl (n_lo _) (n_hi _) fun M61 IM61 fM61 UM61 => ?_
          have FM61 := Fr.pu FM56 UM61.1 kd_1 (rfl : List.contains [1] 1 = true)
          exact PW.lvS (lk1 rfl (lk1 rfl (lk1 rfl lk0))) (J118_45 M61 v7 x52 IM61 FM61 ((UM61.f (Or.inr (by decide))).trans ((congrArg (fun e => o_f e 3) (Fr.at GM56 kd_1 (by decide))).trans ((congrArg (fun e => o_f e 3) (Fr.at GM42 kd_1 (by decide))).trans ((congrArg (fun e => o_f e 3) (Fr.at GM40 kd_1 (by decide))).trans ((congrArg (fun e => o_f e 3) (Fr.at GM37 kd_1 (by decide))).trans ((congrArg (fun e => o_f e 3) (Fr.at GM35 kd_1 (by decide))).trans fx9)))))) ((UM61.f (Or.inr (by decide))).trans ((congrArg (fun e => o_f e 1) (Fr.at GM56 kd_1 (by decide))).trans ((congrArg (fun e => o_f e 1) (Fr.at GM42 kd_1 (by decide))).trans ((congrArg (fun e => o_f e 1) (Fr.at GM40 kd_1 (by decide))).trans ((congrArg (fun e => o_f e 1) (Fr.at GM37 kd_1 (by decide))).trans ((congrArg (fun e => o_f e 1) (Fr.at GM35 kd_1 (by decide))).trans fx10)))))))
        · skip
          refine PW.incH q_78_67 rfl (by decide) fun x62 => ?_
          refine PW.aload_n q_78_70 rfl ?_
          refine PW.aload_n q_78_71 rfl ?_
          refine PW.gL q_78_72 (Or.inl t_ft_78_77) gF_1_7 kd_1 IM42.1 (by decide) fun l63 fl63 => ?_
          refine PW.aload_n q_78_75 rfl ?_
          refine PW.aload_n q_78_76 rfl ?_
          refine PW.gE q_78_77 (Or.inl t_ft_78_33) gF_1_3 kd_1 IM42.1 (by decide) ((congrArg (fun e => o_f e 3) (Fr.at GM42 kd_1 (by decide))).trans ((congrArg (fun e => o_f e 3) (Fr.at GM40 kd_1 (by decide))).trans ((congrArg (fun e => o_f e 3) (Fr.at GM37 kd_1 (by decide))).trans ((congrArg (fun e => o_f e 3) (Fr.at GM35 kd_1 (by decide))).trans fx9)))) ?_
          refine PW.cV (as := [_]) (rest := [_, _]) q_78_80 t_mv_78_51 kd_1 IM42.1 (by decide) rfl (by decide) rfl rfl (Nat.le_of_ble_eq_true rfl) (Nat.le_of_ble_eq_true rfl) (by decide) (by decide) ?_
          refine PW.up (by decide) (c_X7_at (V) (hV) G _ M42 IM42 x9 fun x65 M64 IM64 GM64 hx65 kx65 => ?_)
          have FM64 := Fr.trans FM42 GM64 (rfl)
          refine PW.callS (as := [_, _]) (rest := [_]) q_78_83 t_ms_78_84 (by decide) rfl (Nat.le_of_ble_eq_true rfl) (Nat.le_of_ble_eq_true rfl) (by decide) (by decide) ?_
          refine PW.lload_n q_73_0 rfl ?_
          refine PW.ldc2 q_73_1 t_lt_73_24 ?_
          refine PW.lmul q_73_4 ?_
          refine PW.iload_n q_73_5 rfl ?_
          refine PW.cB q_73_6 (by decide) fun c66 hc66 => ?_
          refine PW.subN q_73_8 (by have := n_lo x65; have := n_hi x65; omega) (by have := n_lo x65; have := n_hi x65; omega) fun x67 hx67 => ?_
          refine PW.cI q_73_9 (by decide) fun c68 hc68 => ?_
          refine PW.addN q_73_10 (by have := n_lo x67; have := n_hi x67; omega) (by have := n_lo x67; have := n_hi x67; omega) fun x69 hx69 => ?_
          refine PW.i2l q_73_11 ?_
          refine PW.ladd q_73_12 ?_
          refine PW.lret q_73_13 rfl (by decide) (by decide) ?_
          refine PW.pL q_78_86 (Or.inl t_ft_78_77) gF_1_7 gP_1_7 kd_1 hV IM64 (by decide) rfl fun M70 IM70 fM70 UM70 => ?_
          have FM70 := Fr.pu FM64 UM70.1 kd_1 (rfl : List.contains [1] 1 = true)
          refine PW.goto q_78_89 rfl ?_
          exact PW.lvS (lk1 rfl (lk1 rfl (lk1 rfl lk0))) (J118_45 M70 x62 v8 IM70 FM70 ((UM70.f (Or.inr (by decide))).trans ((congrArg (fun e => o_f e 3) (Fr.at GM64 kd_1 (by decide))).trans ((congrArg (fun e => o_f e 3) (Fr.at GM42 kd_1 (by decide))).trans ((congrArg (fun e => o_f e 3) (Fr.at GM40 kd_1 (by decide))).trans ((congrArg (fun e => o_f e 3) (Fr.at GM37 kd_1 (by decide))).trans ((congrArg (fun e => o_f e 3) (Fr.at GM35 kd_1 (by decide))).trans fx9)))))) ((UM70.f (Or.inr (by decide))).trans ((congrArg (fun e => o_f e 1) (Fr.at GM64 kd_1 (by decide))).trans ((congrArg (fun e => o_f e 1) (Fr.at GM42 kd_1 (by decide))).trans ((congrArg (fun e => o_f e 1) (Fr.at GM40 kd_1 (by decide))).trans ((congrArg (fun e => o_f e 1) (Fr.at GM37 kd_1 (by decide))).trans ((congrArg (fun e => o_f e 1) (Fr.at GM35 kd_1 (by decide))).trans fx10)))))))
      · skip
        refine PW.aload_n q_78_39 rfl ?_
        refine PW.aload_n q_78_40 rfl ?_
        refine PW.gE q_78_41 (Or.inl t_ft_78_33) gF_1_3 kd_1 IM37.1 (by decide) ((congrArg (fun e => o_f e 3) (Fr.at GM37 kd_1 (by decide))).trans ((congrArg (fun e => o_f e 3) (Fr.at GM35 kd_1 (by decide))).trans fx9)) ?_
        refine PW.cV (as := [_]) (rest := []) q_78_44 t_mv_78_51 kd_1 IM37.1 (by decide) rfl (by decide) rfl rfl (Nat.le_of_ble_eq_true rfl) (Nat.le_of_ble_eq_true rfl) (by decide) (by decide) ?_
        refine PW.up (by decide) (c_X7_at (V) (hV) G _ M37 IM37 x9 fun x72 M71 IM71 GM71 hx72 kx72 => ?_)
        have FM71 := Fr.trans FM37 GM71 (rfl)
        refine PW.callS (as := [_]) (rest := []) q_78_47 t_ms_78_65 (by decide) rfl (Nat.le_of_ble_eq_true rfl) (Nat.le_of_ble_eq_true rfl) (by decide) (by decide) ?_
        refine PW.up (by decide) (c_X7_isDigit (V) (hV) G _ M71 IM71 x72 fun x74 M73 IM73 GM73 hx74 kx74 => ?_)
        have FM73 := Fr.trans FM71 GM73 (rfl)
        refine PW.jz_eq q_78_50 rfl (fun h75 => ?_) (fun h75 => ?_)
        · skip
          exact PW.lvS (lk1 rfl (lk1 rfl (lk1 rfl lk0))) (J131_12 M73  IM73 FM73 ((congrArg (fun e => o_f e 3) (Fr.at GM73 kd_1 (by decide))).trans ((congrArg (fun e => o_f e 3) (Fr.at GM71 kd_1 (by decide))).trans ((congrArg (fun e => o_f e 3) (Fr.at GM37 kd_1 (by decide))).trans ((congrArg (fun e => o_f e 3) (Fr.at GM35 kd_1 (by decide))).trans fx9)))) ((congrArg (fun e => o_f e 1) (Fr.at GM73 kd_1 (by decide))).trans ((congrArg (fun e => o_f e 1) (Fr.at GM71 kd_1 (by decide))).trans ((congrArg (fun e => o_f e 1) (Fr.at GM37 kd_1 (by decide))).trans ((congrArg (fun e => o_f e 1) (Fr.at GM35 kd_1 (by decide))).trans fx10)))))
        · skip
          refine PW.aload_n q_78_53 rfl ?_
          refine PW.aload_n q_78_54 rfl ?_
          refine PW.gE q_78_55 (Or.inl t_ft_78_33) gF_1_3 kd_1 IM73.1 (by decide) ((congrArg (fun e => o_f e 3) (Fr.at GM73 kd_1 (by decide))).trans ((congrArg (fun e => o_f e 3) (Fr.at GM71 kd_1 (by decide))).trans ((congrArg (fun e => o_f e 3) (Fr.at GM37 kd_1 (by decide))).trans ((congrArg (fun e => o_f e 3) (Fr.at GM35 kd_1 (by decide))).trans fx9)))) ?_
          refine PW.cV (as := [_]) (rest := []) q_78_58 t_mv_78_51 kd_1 IM73.1 (by decide) rfl (by decide) rfl rfl (Nat.le_of_ble_eq_true rfl) (Nat.le_of_ble_eq_true rfl) (by decide) (by decide) ?_
          refine PW.up (by decide) (c_X7_at (V) (hV) G _ M73 IM73 x9 fun x77 M76 IM76 GM76 hx77 kx77 => ?_)
          have FM76 := Fr.trans FM73 GM76 (rfl)
          refine PW.callS (as := [_]) (rest := []) q_78_61 t_ms_78_61 (by decide) rfl (Nat.le_of_ble_eq_true rfl) (Nat.le_of_ble_eq_true rfl) (by decide) (by decide) ?_
          refine PW.up (by decide) (c_X7_isLetter (V) (hV) G _ M76 IM76 x77 fun x79 M78 IM78 GM78 hx79 kx79 => ?_)
          have FM78 := Fr.trans FM76 GM78 (rfl)
          have J118_81 : ∀ (MJ118_81 : pM) (v82 v83 : Int32), Iv (V) MJ118_81 → Fr [1] M MJ118_81 → o_f (MJ118_81 1) 3 = .int x9 → o_f (MJ118_81 1) 1 = .int x10 → PW G false 1 78 (p_mc 78) (p_msl 78) Kr 118 [(0, .ref 1), (1, .int v82), (2, .int v83)] [] 311 MJ118_81 0 0 := by
            intro MJ118_81 v82 v83 IMJ118_81 FMJ118_81 hbJ118_810 hbJ118_811
            refine PW.aload_n q_78_118 rfl ?_
            refine PW.dup q_78_119 rfl ?_
            refine PW.gE q_78_120 (Or.inl t_ft_78_33) gF_1_3 kd_1 IMJ118_81.1 (by decide) hbJ118_810 ?_
            refine PW.cI q_78_123 (by decide) fun c84 hc84 => ?_
            refine PW.addN q_78_124 (by omega) (by omega) fun x85 hx85 => ?_
            refine PW.pI q_78_125 (Or.inl t_ft_78_33) gF_1_3 gP_1_3 kd_1 hV IMJ118_81 (by decide) rfl (by omega) (by omega) fun M86 IM86 fM86 UM86 => ?_
            have FM86 := Fr.pu FMJ118_81 UM86.1 kd_1 (rfl : List.contains [1] 1 = true)
            refine PW.goto q_78_128 rfl ?_
            have em86 := o_i_of fM86
            refine PW.lvS (lk1 rfl (lk1 rfl (lk1 rfl lk0))) (ih_L78_14_6 _ ?_ M86 v82 v83 IM86 FM86  rfl)
            omega
          refine PW.jz_eq q_78_64 rfl (fun h80 => ?_) (fun h80 => ?_)
          · skip
            refine PW.incH q_78_92 rfl (by decide) fun x88 => ?_
            refine PW.aload_n q_78_95 rfl ?_
            refine PW.aload_n q_78_96 rfl ?_
            refine PW.gI q_78_97 (Or.inl t_ft_78_81) gF_1_8 kd_1 IM78.1 (by decide) fun x89 fx89 hx89 kx89 => ?_
            clear hx89 kx89
            refine PW.cB q_78_100 (by decide) fun c90 hc90 => ?_
            refine PW.mulH q_78_102 fun x91 => ?_
            refine PW.aload_n q_78_103 rfl ?_
            refine PW.aload_n q_78_104 rfl ?_
            refine PW.gE q_78_105 (Or.inl t_ft_78_33) gF_1_3 kd_1 IM78.1 (by decide) ((congrArg (fun e => o_f e 3) (Fr.at GM78 kd_1 (by decide))).trans ((congrArg (fun e => o_f e 3) (Fr.at GM76 kd_1 (by decide))).trans ((congrArg (fun e => o_f e 3) (Fr.at GM73 kd_1 (by decide))).trans ((congrArg (fun e => o_f e 3) (Fr.at GM71 kd_1 (by decide))).trans ((congrArg (fun e => o_f e 3) (Fr.at GM37 kd_1 (by decide))).trans ((congrArg (fun e => o_f e 3) (Fr.at GM35 kd_1 (by decide))).trans fx9)))))) ?_
            refine PW.cV (as := [_]) (rest := [_, _]) q_78_108 t_mv_78_51 kd_1 IM78.1 (by decide) rfl (by decide) rfl rfl (Nat.le_of_ble_eq_true rfl) (Nat.le_of_ble_eq_true rfl) (by decide) (by decide) ?_
            refine PW.up (by decide) (c_X7_at (V) (hV) G _ M78 IM78 x9 fun x93 M92 IM92 GM92 hx93 kx93 => ?_)
            have FM92 := Fr.trans FM78 GM92 (rfl)
            refine PW.addH q_78_111 fun x94 => ?_
            refine PW.cB q_78_112 (by decide) fun c95 hc95 => ?_
            refine PW.subH q_78_114 fun x96 => ?_
            refine PW.pI q_78_115 (Or.inl t_ft_78_81) gF_1_8 gP_1_8 kd_1 hV IM92 (by decide) rfl (n_lo _) (n_hi _) fun M97 IM97 fM97 UM97 => ?_
            have FM97 := Fr.pu FM92 UM97.1 kd_1 (rfl : List.contains [1] 1 = true)
            exact PW.lvS (lk1 rfl (lk1 rfl (lk1 rfl lk0))) (J118_81 M97 v7 x88 IM97 FM97 ((UM97.f (Or.inr (by decide))).trans ((congrArg (fun e => o_f e 3) (Fr.at GM92 kd_1 (by decide))).trans ((congrArg (fun e => o_f e 3) (Fr.at GM78 kd_1 (by decide))).trans ((congrArg (fun e => o_f e 3) (Fr.at GM76 kd_1 (by decide))).trans ((congrArg (fun e => o_f e 3) (Fr.at GM73 kd_1 (by decide))).trans ((congrArg (fun e => o_f e 3) (Fr.at GM71 kd_1 (by decide))).trans ((congrArg (fun e => o_f e 3) (Fr.at GM37 kd_1 (by decide))).trans ((congrArg (fun e => o_f e 3) (Fr.at GM35 kd_1 (by decide))).trans fx9)))))))) ((UM97.f (Or.inr (by decide))).trans ((congrArg (fun e => o_f e 1) (Fr.at GM92 kd_1 (by decide))).trans ((congrArg (fun e => o_f e 1) (Fr.at GM78 kd_1 (by decide))).trans ((congrArg (fun e => o_f e 1) (Fr.at GM76 kd_1 (by decide))).trans ((congrArg (fun e => o_f e 1) (Fr.at GM73 kd_1 (by decide))).trans ((congrArg (fun e => o_f e 1) (Fr.at GM71 kd_1 (by decide))).trans ((congrArg (fun e => o_f e 1) (Fr.at GM37 kd_1 (by decide))).trans ((congrArg (fun e => o_f e 1) (Fr.at GM35 kd_1 (by decide))).trans fx10)))))))))
          · skip
            refine PW.incH q_78_67 rfl (by decide) fun x98 => ?_
            refine PW.aload_n q_78_70 rfl ?_
            refine PW.aload_n q_78_71 rfl ?_
            refine PW.gL q_78_72 (Or.inl t_ft_78_77) gF_1_7 kd_1 IM78.1 (by decide) fun l99 fl99 => ?_
            refine PW.aload_n q_78_75 rfl ?_
            refine PW.aload_n q_78_76 rfl ?_
            refine PW.gE q_78_77 (Or.inl t_ft_78_33) gF_1_3 kd_1 IM78.1 (by decide) ((congrArg (fun e => o_f e 3) (Fr.at GM78 kd_1 (by decide))).trans ((congrArg (fun e => o_f e 3) (Fr.at GM76 kd_1 (by decide))).trans ((congrArg (fun e => o_f e 3) (Fr.at GM73 kd_1 (by decide))).trans ((congrArg (fun e => o_f e 3) (Fr.at GM71 kd_1 (by decide))).trans ((congrArg (fun e => o_f e 3) (Fr.at GM37 kd_1 (by decide))).trans ((congrArg (fun e => o_f e 3) (Fr.at GM35 kd_1 (by decide))).trans fx9)))))) ?_
            refine PW.cV (as := [_]) (rest := [_, _]) q_78_80 t_mv_78_51 kd_1 IM78.1 (by decide) rfl (by decide) rfl rfl (Nat.le_of_ble_eq_true rfl) (Nat.le_of_ble_eq_true rfl) (by decide) (by decide) ?_
            refine PW.up (by decide) (c_X7_at (V) (hV) G _ M78 IM78 x9 fun x101 M100 IM100 GM100 hx101 kx101 => ?_)
            have FM100 := Fr.trans FM78 GM100 (rfl)
            refine PW.callS (as := [_, _]) (rest := [_]) q_78_83 t_ms_78_84 (by decide) rfl (Nat.le_of_ble_eq_true rfl) (Nat.le_of_ble_eq_true rfl) (by decide) (by decide) ?_
            refine PW.lload_n q_73_0 rfl ?_
            refine PW.ldc2 q_73_1 t_lt_73_24 ?_
            refine PW.lmul q_73_4 ?_
            refine PW.iload_n q_73_5 rfl ?_
            refine PW.cB q_73_6 (by decide) fun c102 hc102 => ?_
            refine PW.subN q_73_8 (by have := n_lo x101; have := n_hi x101; omega) (by have := n_lo x101; have := n_hi x101; omega) fun x103 hx103 => ?_
            refine PW.cI q_73_9 (by decide) fun c104 hc104 => ?_
            refine PW.addN q_73_10 (by have := n_lo x103; have := n_hi x103; omega) (by have := n_lo x103; have := n_hi x103; omega) fun x105 hx105 => ?_
            refine PW.i2l q_73_11 ?_
            refine PW.ladd q_73_12 ?_
            refine PW.lret q_73_13 rfl (by decide) (by decide) ?_
            refine PW.pL q_78_86 (Or.inl t_ft_78_77) gF_1_7 gP_1_7 kd_1 hV IM100 (by decide) rfl fun M106 IM106 fM106 UM106 => ?_
            have FM106 := Fr.pu FM100 UM106.1 kd_1 (rfl : List.contains [1] 1 = true)
            refine PW.goto q_78_89 rfl ?_
            exact PW.lvS (lk1 rfl (lk1 rfl (lk1 rfl lk0))) (J118_81 M106 x98 v8 IM106 FM106 ((UM106.f (Or.inr (by decide))).trans ((congrArg (fun e => o_f e 3) (Fr.at GM100 kd_1 (by decide))).trans ((congrArg (fun e => o_f e 3) (Fr.at GM78 kd_1 (by decide))).trans ((congrArg (fun e => o_f e 3) (Fr.at GM76 kd_1 (by decide))).trans ((congrArg (fun e => o_f e 3) (Fr.at GM73 kd_1 (by decide))).trans ((congrArg (fun e => o_f e 3) (Fr.at GM71 kd_1 (by decide))).trans ((congrArg (fun e => o_f e 3) (Fr.at GM37 kd_1 (by decide))).trans ((congrArg (fun e => o_f e 3) (Fr.at GM35 kd_1 (by decide))).trans fx9)))))))) ((UM106.f (Or.inr (by decide))).trans ((congrArg (fun e => o_f e 1) (Fr.at GM100 kd_1 (by decide))).trans ((congrArg (fun e => o_f e 1) (Fr.at GM78 kd_1 (by decide))).trans ((congrArg (fun e => o_f e 1) (Fr.at GM76 kd_1 (by decide))).trans ((congrArg (fun e => o_f e 1) (Fr.at GM73 kd_1 (by decide))).trans ((congrArg (fun e => o_f e 1) (Fr.at GM71 kd_1 (by decide))).trans ((congrArg (fun e => o_f e 1) (Fr.at GM37 kd_1 (by decide))).trans ((congrArg (fun e => o_f e 1) (Fr.at GM35 kd_1 (by decide))).trans fx10)))))))))
  exact PW.lvS (lk1 rfl (lk1 rfl (lk1 rfl lk0))) (L78_14_6 _ M5 c1 c2 IM5 FM5  rfl)
theorem c_X7_advance (V : pM → Prop) (hV : Stab V) (G : pG) (Kr : pK) (M : pM) (I : Iv V M)  (hK : ∀ (M1 : pM), Iv V M1 → Fr [1] M M1 → Kr.1 none 311 M1) : PW G false 2 77 (p_mc 77) (p_msl 77) Kr 0 (lv_args 0 [.ref 1]) [] 311 M 0 0 := by
  have F : Fr [1] M M := Fr.refl
  refine PW.aload_n q_77_0 rfl ?_
  refine PW.gI q_77_1 (Or.inl t_ft_77_26) gF_1_1 kd_1 I.1 (by decide) fun x1 fx1 hx1 kx1 => ?_
  refine PW.aload_n q_77_4 rfl ?_
  refine PW.gI q_77_5 (Or.inl t_ft_77_30) gF_1_2 kd_1 I.1 (by decide) fun x2 fx2 hx2 kx2 => ?_
  clear hx2 kx2
  refine PW.minN q_77_8 t_mj_77_45 (by decide) (Nat.le_of_ble_eq_true rfl) (by decide) (by decide) fun x3 hx3 kx3 lx3 => ?_
  refine PW.istore_n q_77_11 (by decide) ?_
  have L77_12_4 : ∀ (n : Nat) (ML77_12_4 : pM), Iv (V) ML77_12_4 → Fr [1] M ML77_12_4 → (940 - o_i (ML77_12_4 1) 3).toNat = n → PW G false 2 77 (p_mc 77) (p_msl 77) Kr 12 [(0, .ref 1), (1, .int x3)] [] 311 ML77_12_4 0 0 := by
    intro n
    induction n using Nat.strongRecOn with
    | ind n ih_L77_12_4 =>
    intro ML77_12_4  IML77_12_4 FML77_12_4  hmL77_12_4
    obtain ⟨x5, fx5, hx5, kx5⟩ := gF_1_3.int kd_1 IML77_12_4.1 (by decide)
    have ex5 := o_i_of fx5
    refine PW.aload_n q_77_12 rfl ?_
    refine PW.gE q_77_13 (Or.inl t_ft_77_33) gF_1_3 kd_1 IML77_12_4.1 (by decide) fx5 ?_
    refine PW.iload_n q_77_16 rfl ?_
    have J59_7 : ∀ (MJ59_7 : pM), Iv (V) MJ59_7 → Fr [1] M MJ59_7 → o_f (MJ59_7 1) 3 = .int x5 → PW G false 2 77 (p_mc 77) (p_msl 77) Kr 59 [(0, .ref 1), (1, .int x3)] [] 311 MJ59_7 0 0 := by
      intro MJ59_7  IMJ59_7 FMJ59_7 hbJ59_70
      refine PW.aload_n q_77_59 rfl ?_
      refine PW.gE q_77_60 (Or.inl t_ft_77_33) gF_1_3 kd_1 IMJ59_7.1 (by decide) hbJ59_70 ?_
      refine PW.iload_n q_77_63 rfl ?_
      refine PW.jc_lt q_77_64 rfl (fun h8 => ?_) (fun h8 => ?_)
      · skip
        refine PW.aload_n q_77_78 rfl ?_
        refine PW.aload_n q_77_79 rfl ?_
        refine PW.gE q_77_80 (Or.inl t_ft_77_33) gF_1_3 kd_1 IMJ59_7.1 (by decide) hbJ59_70 ?_
        refine PW.pI q_77_83 (Or.inl t_ft_77_55) gF_1_4 gP_1_4 kd_1 hV IMJ59_7 (by decide) rfl (n_lo _) (n_hi _) fun M9 IM9 fM9 UM9 => ?_
        have FM9 := Fr.pu FMJ59_7 UM9.1 kd_1 (rfl : List.contains [1] 1 = true)
        refine PW.aload_n q_77_86 rfl ?_
        refine PW.aload_n q_77_87 rfl ?_
        refine PW.gE q_77_88 (Or.inl t_ft_77_33) gF_1_3 kd_1 IM9.1 (by decide) ((UM9.f (Or.inr (by decide))).trans hbJ59_70) ?_
        refine PW.cV (as := [_]) (rest := []) q_77_91 t_mv_77_51 kd_1 IM9.1 (by decide) rfl (by decide) rfl rfl (Nat.le_of_ble_eq_true rfl) (Nat.le_of_ble_eq_true rfl) (by decide) (by decide) ?_
        refine PW.up (by decide) (c_X7_at (V) (hV) G _ M9 IM9 x5 fun x11 M10 IM10 GM10 hx11 kx11 => ?_)
        have FM10 := Fr.trans FM9 GM10 (rfl)
        refine PW.callS (as := [_]) (rest := []) q_77_94 t_ms_77_61 (by decide) rfl (Nat.le_of_ble_eq_true rfl) (Nat.le_of_ble_eq_true rfl) (by decide) (by decide) ?_
        refine PW.up (by decide) (c_X7_isLetter (V) (hV) G _ M10 IM10 x11 fun x13 M12 IM12 GM12 hx13 kx13 => ?_)
        have FM12 := Fr.trans FM10 GM12 (rfl)
        refine PW.jz_ne q_77_97 rfl (fun h14 => ?_) (fun h14 => ?_)
        · skip
          refine PW.aload_n q_77_114 rfl ?_
          refine PW.cV (as := []) (rest := []) q_77_115 t_mv_77_68 kd_1 IM12.1 (by decide) rfl (by decide) rfl rfl (Nat.le_of_ble_eq_true rfl) (Nat.le_of_ble_eq_true rfl) (by decide) (by decide) ?_
          refine PW.up (by decide) (c_X7_readRun (V) (hV) G _ M12 IM12  fun M15 IM15 GM15 => ?_)
          have FM15 := Fr.trans FM12 GM15 (rfl)
          refine PW.goto q_77_118 rfl ?_
          refine PW.vret q_77_162 rfl (by decide) (by decide) ?_
          exact hK M15 IM15 FM15
        · skip
          refine PW.aload_n q_77_100 rfl ?_
          refine PW.aload_n q_77_101 rfl ?_
          refine PW.gE q_77_102 (Or.inl t_ft_77_33) gF_1_3 kd_1 IM12.1 (by decide) ((congrArg (fun e => o_f e 3) (Fr.at GM12 kd_1 (by decide))).trans ((congrArg (fun e => o_f e 3) (Fr.at GM10 kd_1 (by decide))).trans ((UM9.f (Or.inr (by decide))).trans hbJ59_70))) ?_
          refine PW.cV (as := [_]) (rest := []) q_77_105 t_mv_77_51 kd_1 IM12.1 (by decide) rfl (by decide) rfl rfl (Nat.le_of_ble_eq_true rfl) (Nat.le_of_ble_eq_true rfl) (by decide) (by decide) ?_
          refine PW.up (by decide) (c_X7_at (V) (hV) G _ M12 IM12 x5 fun x17 M16 IM16 GM16 hx17 kx17 => ?_)
          have FM16 := Fr.trans FM12 GM16 (rfl)
          refine PW.callS (as := [_]) (rest := []) q_77_108 t_ms_77_65 (by decide) rfl (Nat.le_of_ble_eq_true rfl) (Nat.le_of_ble_eq_true rfl) (by decide) (by decide) ?_
          refine PW.up (by decide) (c_X7_isDigit (V) (hV) G _ M16 IM16 x17 fun x19 M18 IM18 GM18 hx19 kx19 => ?_)
          have FM18 := Fr.trans FM16 GM18 (rfl)
          refine PW.jz_eq q_77_111 rfl (fun h20 => ?_) (fun h20 => ?_)
          · skip
            refine PW.aload_n q_77_121 rfl ?_
            refine PW.aload_n q_77_122 rfl ?_
            refine PW.aload_n q_77_123 rfl ?_
            refine PW.gE q_77_124 (Or.inl t_ft_77_33) gF_1_3 kd_1 IM18.1 (by decide) ((congrArg (fun e => o_f e 3) (Fr.at GM18 kd_1 (by decide))).trans ((congrArg (fun e => o_f e 3) (Fr.at GM16 kd_1 (by decide))).trans ((congrArg (fun e => o_f e 3) (Fr.at GM12 kd_1 (by decide))).trans ((congrArg (fun e => o_f e 3) (Fr.at GM10 kd_1 (by decide))).trans ((UM9.f (Or.inr (by decide))).trans hbJ59_70))))) ?_
            refine PW.cV (as := [_]) (rest := [_]) q_77_127 t_mv_77_51 kd_1 IM18.1 (by decide) rfl (by decide) rfl rfl (Nat.le_of_ble_eq_true rfl) (Nat.le_of_ble_eq_true rfl) (by decide) (by decide) ?_
            refine PW.up (by decide) (c_X7_at (V) (hV) G _ M18 IM18 x5 fun x22 M21 IM21 GM21 hx22 kx22 => ?_)
            have FM21 := Fr.trans FM18 GM21 (rfl)
            refine PW.pI q_77_130 (Or.inl t_ft_77_71) gF_1_9 gP_1_9 kd_1 hV IM21 (by decide) rfl (n_lo _) (n_hi _) fun M23 IM23 fM23 UM23 => ?_
            have FM23 := Fr.pu FM21 UM23.1 kd_1 (rfl : List.contains [1] 1 = true)
            refine PW.aload_n q_77_133 rfl ?_
            refine PW.aload_n q_77_134 rfl ?_
            refine PW.gE q_77_135 (Or.inl t_ft_77_71) gF_1_9 kd_1 IM23.1 (by decide) fM23 ?_
            refine PW.callS (as := [_]) (rest := [_]) q_77_138 t_ms_77_74 (by decide) rfl (Nat.le_of_ble_eq_true rfl) (Nat.le_of_ble_eq_true rfl) (by decide) (by decide) ?_
            refine PW.up (by decide) (c_X7_isSign (V) (hV) G _ M23 IM23 x22 fun x25 M24 IM24 GM24 hx25 kx25 => ?_)
            have FM24 := Fr.trans FM23 GM24 (rfl)
            have J149_27 : ∀ (MJ149_27 : pM) (s28 : Int32), Iv (V) MJ149_27 → Fr [1] M MJ149_27 → 1 ≤ s28.toInt → s28.toInt ≤ 5 → o_f (MJ149_27 1) 3 = .int x5 → o_f (MJ149_27 1) 4 = .int x5 → o_f (MJ149_27 1) 9 = .int x22 → PW G false 2 77 (p_mc 77) (p_msl 77) Kr 149 [(0, .ref 1), (1, .int x3)] [.int s28, .ref 1] 311 MJ149_27 0 0 := by
              intro MJ149_27 s28 IMJ149_27 FMJ149_27 hbJ149_270 hbJ149_271 hbJ149_272 hbJ149_273 hbJ149_274
              refine PW.pI q_77_149 (Or.inl t_ft_77_58) gF_1_5 gP_1_5 kd_1 hV IMJ149_27 (by decide) rfl (n_lo _) (n_hi _) fun M29 IM29 fM29 UM29 => ?_
              have FM29 := Fr.pu FMJ149_27 UM29.1 kd_1 (rfl : List.contains [1] 1 = true)
              refine PW.aload_n q_77_152 rfl ?_
              refine PW.dup q_77_153 rfl ?_
              refine PW.gE q_77_154 (Or.inl t_ft_77_33) gF_1_3 kd_1 IM29.1 (by decide) ((UM29.f (Or.inr (by decide))).trans hbJ149_272) ?_
              refine PW.cI q_77_157 (by decide) fun c30 hc30 => ?_
              refine PW.addN q_77_158 (by omega) (by omega) fun x31 hx31 => ?_
              refine PW.pI q_77_159 (Or.inl t_ft_77_33) gF_1_3 gP_1_3 kd_1 hV IM29 (by decide) rfl (by omega) (by omega) fun M32 IM32 fM32 UM32 => ?_
              have FM32 := Fr.pu FM29 UM32.1 kd_1 (rfl : List.contains [1] 1 = true)
              refine PW.vret q_77_162 rfl (by decide) (by decide) ?_
              exact hK M32 IM32 FM32
            refine PW.jz_eq q_77_141 rfl (fun h26 => ?_) (fun h26 => ?_)
            · skip
              refine PW.cI q_77_148 (by decide) fun c33 hc33 => ?_
              exact PW.lvS (lk1 rfl (lk1 rfl lk0)) (J149_27 M24 c33 IM24 FM24 (by omega) (by omega) ((congrArg (fun e => o_f e 3) (Fr.at GM24 kd_1 (by decide))).trans ((UM23.f (Or.inr (by decide))).trans ((congrArg (fun e => o_f e 3) (Fr.at GM21 kd_1 (by decide))).trans ((congrArg (fun e => o_f e 3) (Fr.at GM18 kd_1 (by decide))).trans ((congrArg (fun e => o_f e 3) (Fr.at GM16 kd_1 (by decide))).trans ((congrArg (fun e => o_f e 3) (Fr.at GM12 kd_1 (by decide))).trans ((congrArg (fun e => o_f e 3) (Fr.at GM10 kd_1 (by decide))).trans ((UM9.f (Or.inr (by decide))).trans hbJ59_70)))))))) ((congrArg (fun e => o_f e 4) (Fr.at GM24 kd_1 (by decide))).trans ((UM23.f (Or.inr (by decide))).trans ((congrArg (fun e => o_f e 4) (Fr.at GM21 kd_1 (by decide))).trans ((congrArg (fun e => o_f e 4) (Fr.at GM18 kd_1 (by decide))).trans ((congrArg (fun e => o_f e 4) (Fr.at GM16 kd_1 (by decide))).trans ((congrArg (fun e => o_f e 4) (Fr.at GM12 kd_1 (by decide))).trans ((congrArg (fun e => o_f e 4) (Fr.at GM10 kd_1 (by decide))).trans fM9))))))) ((congrArg (fun e => o_f e 9) (Fr.at GM24 kd_1 (by decide))).trans fM23))
            · skip
              refine PW.cI q_77_144 (by decide) fun c34 hc34 => ?_
              refine PW.goto q_77_145 rfl ?_
              exact PW.lvS (lk1 rfl (lk1 rfl lk0)) (J149_27 M24 c34 IM24 FM24 (by omega) (by omega) ((congrArg (fun e => o_f e 3) (Fr.at GM24 kd_1 (by decide))).trans ((UM23.f (Or.inr (by decide))).trans ((congrArg (fun e => o_f e 3) (Fr.at GM21 kd_1 (by decide))).trans ((congrArg (fun e => o_f e 3) (Fr.at GM18 kd_1 (by decide))).trans ((congrArg (fun e => o_f e 3) (Fr.at GM16 kd_1 (by decide))).trans ((congrArg (fun e => o_f e 3) (Fr.at GM12 kd_1 (by decide))).trans ((congrArg (fun e => o_f e 3) (Fr.at GM10 kd_1 (by decide))).trans ((UM9.f (Or.inr (by decide))).trans hbJ59_70)))))))) ((congrArg (fun e => o_f e 4) (Fr.at GM24 kd_1 (by decide))).trans ((UM23.f (Or.inr (by decide))).trans ((congrArg (fun e => o_f e 4) (Fr.at GM21 kd_1 (by decide))).trans ((congrArg (fun e => o_f e 4) (Fr.at GM18 kd_1 (by decide))).trans ((congrArg (fun e => o_f e 4) (Fr.at GM16 kd_1 (by decide))).trans ((congrArg (fun e => o_f e 4) (Fr.at GM12 kd_1 (by decide))).trans ((congrArg (fun e => o_f e 4) (Fr.at GM10 kd_1 (by decide))).trans fM9))))))) ((congrArg (fun e => o_f e 9) (Fr.at GM24 kd_1 (by decide))).trans fM23))
          · skip
            refine PW.aload_n q_77_114 rfl ?_
            refine PW.cV (as := []) (rest := []) q_77_115 t_mv_77_68 kd_1 IM18.1 (by decide) rfl (by decide) rfl rfl (Nat.le_of_ble_eq_true rfl) (Nat.le_of_ble_eq_true rfl) (by decide) (by decide) ?_
            refine PW.up (by decide) (c_X7_readRun (V) (hV) G _ M18 IM18  fun M35 IM35 GM35 => ?_)
            have FM35 := Fr.trans FM18 GM35 (rfl)
            refine PW.goto q_77_118 rfl ?_
            refine PW.vret q_77_162 rfl (by decide) (by decide) ?_
            exact hK M35 IM35 FM35
      · skip
        refine PW.aload_n q_77_67 rfl ?_
        refine PW.iload_n q_77_68 rfl ?_
        refine PW.pI q_77_69 (Or.inl t_ft_77_55) gF_1_4 gP_1_4 kd_1 hV IMJ59_7 (by decide) rfl (n_lo _) (n_hi _) fun M36 IM36 fM36 UM36 => ?_
        have FM36 := Fr.pu FMJ59_7 UM36.1 kd_1 (rfl : List.contains [1] 1 = true)
        refine PW.aload_n q_77_72 rfl ?_
        refine PW.cI q_77_73 (by decide) fun c37 hc37 => ?_
        refine PW.pI q_77_74 (Or.inl t_ft_77_58) gF_1_5 gP_1_5 kd_1 hV IM36 (by decide) rfl (n_lo _) (n_hi _) fun M38 IM38 fM38 UM38 => ?_
        have FM38 := Fr.pu FM36 UM38.1 kd_1 (rfl : List.contains [1] 1 = true)
        refine PW.vret q_77_77 rfl (by decide) (by decide) ?_
        exact hK M38 IM38 FM38
    refine PW.jc_ge q_77_17 rfl (fun h6 => ?_) (fun h6 => ?_)
    · skip
      exact PW.lvS (lk1 rfl (lk1 rfl lk0)) (J59_7 ML77_12_4  IML77_12_4 FML77_12_4 fx5)
    · skip
      refine PW.aload_n q_77_20 rfl ?_
      refine PW.aload_n q_77_21 rfl ?_
      refine PW.gE q_77_22 (Or.inl t_ft_77_33) gF_1_3 kd_1 IML77_12_4.1 (by decide) fx5 ?_
      refine PW.cV (as := [_]) (rest := []) q_77_25 t_mv_77_51 kd_1 IML77_12_4.1 (by decide) rfl (by decide) rfl rfl (Nat.le_of_ble_eq_true rfl) (Nat.le_of_ble_eq_true rfl) (by decide) (by decide) ?_
      refine PW.up (by decide) (c_X7_at (V) (hV) G _ ML77_12_4 IML77_12_4 x5 fun x40 M39 IM39 GM39 hx40 kx40 => ?_)
      have FM39 := Fr.trans FML77_12_4 GM39 (rfl)
      refine PW.cB q_77_28 (by decide) fun c41 hc41 => ?_
      refine PW.jc_eq q_77_30 rfl (fun h42 => ?_) (fun h42 => ?_)
      · skip
        refine PW.aload_n q_77_46 rfl ?_
        refine PW.dup q_77_47 rfl ?_
        refine PW.gE q_77_48 (Or.inl t_ft_77_33) gF_1_3 kd_1 IM39.1 (by decide) ((congrArg (fun e => o_f e 3) (Fr.at GM39 kd_1 (by decide))).trans fx5) ?_
        refine PW.cI q_77_51 (by decide) fun c43 hc43 => ?_
        refine PW.addN q_77_52 (by omega) (by omega) fun x44 hx44 => ?_
        refine PW.pI q_77_53 (Or.inl t_ft_77_33) gF_1_3 gP_1_3 kd_1 hV IM39 (by decide) rfl (by omega) (by omega) fun M45 IM45 fM45 UM45 => ?_
        have FM45 := Fr.pu FM39 UM45.1 kd_1 (rfl : List.contains [1] 1 = true)
        refine PW.goto q_77_56 rfl ?_
        have em45 := o_i_of fM45
        refine PW.lvS (lk1 rfl (lk1 rfl lk0)) (ih_L77_12_4 _ ?_ M45  IM45 FM45  rfl)
        omega
      · skip
        refine PW.aload_n q_77_33 rfl ?_
        refine PW.aload_n q_77_34 rfl ?_
        refine PW.gE q_77_35 (Or.inl t_ft_77_33) gF_1_3 kd_1 IM39.1 (by decide) ((congrArg (fun e => o_f e 3) (Fr.at GM39 kd_1 (by decide))).trans fx5) ?_
        refine PW.cV (as := [_]) (rest := []) q_77_38 t_mv_77_51 kd_1 IM39.1 (by decide) rfl (by decide) rfl rfl (Nat.le_of_ble_eq_true rfl) (Nat.le_of_ble_eq_true rfl) (by decide) (by decide) ?_
        refine PW.up (by decide) (c_X7_at (V) (hV) G _ M39 IM39 x5 fun x48 M47 IM47 GM47 hx48 kx48 => ?_)
        have FM47 := Fr.trans FM39 GM47 (rfl)
        refine PW.cB q_77_41 (by decide) fun c49 hc49 => ?_
        refine PW.jc_ne q_77_43 rfl (fun h50 => ?_) (fun h50 => ?_)
        · skip
          exact PW.lvS (lk1 rfl (lk1 rfl lk0)) (J59_7 M47  IM47 FM47 ((congrArg (fun e => o_f e 3) (Fr.at GM47 kd_1 (by decide))).trans ((congrArg (fun e => o_f e 3) (Fr.at GM39 kd_1 (by decide))).trans fx5)))
        · skip
          refine PW.aload_n q_77_46 rfl ?_
          refine PW.dup q_77_47 rfl ?_
          refine PW.gE q_77_48 (Or.inl t_ft_77_33) gF_1_3 kd_1 IM47.1 (by decide) ((congrArg (fun e => o_f e 3) (Fr.at GM47 kd_1 (by decide))).trans ((congrArg (fun e => o_f e 3) (Fr.at GM39 kd_1 (by decide))).trans fx5)) ?_
          refine PW.cI q_77_51 (by decide) fun c51 hc51 => ?_
          refine PW.addN q_77_52 (by omega) (by omega) fun x52 hx52 => ?_
          refine PW.pI q_77_53 (Or.inl t_ft_77_33) gF_1_3 gP_1_3 kd_1 hV IM47 (by decide) rfl (by omega) (by omega) fun M53 IM53 fM53 UM53 => ?_
          have FM53 := Fr.pu FM47 UM53.1 kd_1 (rfl : List.contains [1] 1 = true)
          refine PW.goto q_77_56 rfl ?_
          have em53 := o_i_of fM53
          refine PW.lvS (lk1 rfl (lk1 rfl lk0)) (ih_L77_12_4 _ ?_ M53  IM53 FM53  rfl)
          omega
  exact PW.lvS (lk1 rfl (lk1 rfl lk0)) (L77_12_4 _ M  I F  rfl)
theorem c_X7_startText (V : pM → Prop) (hV : Stab V) (G : pG) (Kr : pK) (M : pM) (I : Iv V M) (a1 : Int32) (hK : ∀ (M1 : pM), Iv V M1 → Fr [1] M M1 → Kr.1 none 311 M1) : PW G false 3 76 (p_mc 76) (p_msl 76) Kr 0 (lv_args 0 [.ref 1, .int a1]) [] 311 M 0 0 := by
  have F : Fr [1] M M := Fr.refl
  refine PW.aload_n q_76_0 rfl ?_
  refine PW.iload_n q_76_1 rfl ?_
  refine PW.pI q_76_2 (Or.inl t_ft_76_30) gF_1_2 gP_1_2 kd_1 hV I (by decide) rfl (n_lo _) (n_hi _) fun M1 IM1 fM1 UM1 => ?_
  have FM1 := Fr.pu F UM1.1 kd_1 (rfl : List.contains [1] 1 = true)
  refine PW.aload_n q_76_5 rfl ?_
  refine PW.cI q_76_6 (by decide) fun c2 hc2 => ?_
  refine PW.pI q_76_7 (Or.inl t_ft_76_33) gF_1_3 gP_1_3 kd_1 hV IM1 (by decide) rfl (by omega) (by omega) fun M3 IM3 fM3 UM3 => ?_
  have FM3 := Fr.pu FM1 UM3.1 kd_1 (rfl : List.contains [1] 1 = true)
  refine PW.aload_n q_76_10 rfl ?_
  refine PW.cI q_76_11 (by decide) fun c4 hc4 => ?_
  refine PW.pI q_76_12 (Or.inl t_ft_76_36) gF_1_10 gP_1_10 kd_1 hV IM3 (by decide) rfl (n_lo _) (n_hi _) fun M5 IM5 fM5 UM5 => ?_
  have FM5 := Fr.pu FM3 UM5.1 kd_1 (rfl : List.contains [1] 1 = true)
  refine PW.aload_n q_76_15 rfl ?_
  refine PW.cI q_76_16 (by decide) fun c6 hc6 => ?_
  refine PW.pI q_76_17 (Or.inl t_ft_76_39) gF_1_11 gP_1_11 kd_1 hV IM5 (by decide) rfl (n_lo _) (n_hi _) fun M7 IM7 fM7 UM7 => ?_
  have FM7 := Fr.pu FM5 UM7.1 kd_1 (rfl : List.contains [1] 1 = true)
  refine PW.aload_n q_76_20 rfl ?_
  refine PW.cV (as := []) (rest := []) q_76_21 t_mv_76_42 kd_1 IM7.1 (by decide) rfl (by decide) rfl rfl (Nat.le_of_ble_eq_true rfl) (Nat.le_of_ble_eq_true rfl) (by decide) (by decide) ?_
  refine PW.up (by decide) (c_X7_advance (V) (hV) G _ M7 IM7  fun M8 IM8 GM8 => ?_)
  have FM8 := Fr.trans FM7 GM8 (rfl)
  refine PW.vret q_76_24 rfl (by decide) (by decide) ?_
  exact hK M8 IM8 FM8
theorem c_X7_closes (V : pM → Prop) (hV : Stab V) (G : pG) (Kr : pK) (M : pM) (I : Iv V M)  (hK : ∀ (x : Int32) (M1 : pM), Iv V M1 → Fr [1] M M1 → 0 ≤ x.toInt → x.toInt ≤ 1 → Kr.1 (some (.int x)) 311 M1) : PW G false 1 85 (p_mc 85) (p_msl 85) Kr 0 (lv_args 0 [.ref 1]) [] 311 M 0 0 := by
  have F : Fr [1] M M := Fr.refl
  refine PW.aload_n q_85_0 rfl ?_
  refine PW.gI q_85_1 (Or.inl t_ft_85_58) gF_1_5 kd_1 I.1 (by decide) fun x1 fx1 hx1 kx1 => ?_
  clear hx1 kx1
  refine PW.jz_ne q_85_4 rfl (fun h2 => ?_) (fun h2 => ?_)
  · skip
    refine PW.aload_n q_85_18 rfl ?_
    refine PW.cI q_85_19 (by decide) fun c3 hc3 => ?_
    refine PW.cV (as := [_]) (rest := []) q_85_20 t_mv_85_97 kd_1 I.1 (by decide) rfl (by decide) rfl rfl (Nat.le_of_ble_eq_true rfl) (Nat.le_of_ble_eq_true rfl) (by decide) (by decide) ?_
    refine PW.up (by decide) (c_X7_fail (V) (hV) G _ M I c3 fun x5 M4 IM4 GM4 hx5 kx5 => ?_)
    have FM4 := Fr.trans F GM4 (rfl)
    refine PW.jz_eq q_85_23 rfl (fun h6 => ?_) (fun h6 => False.elim (by omega))
    refine PW.cI q_85_30 (by decide) fun c7 hc7 => ?_
    refine PW.rZ q_85_31 rfl (by omega) (by omega) (by decide) (by decide) ?_
    exact hK c7 M4 IM4 FM4 (by omega) (by omega)
  · skip
    refine PW.aload_n q_85_7 rfl ?_
    refine PW.gI q_85_8 (Or.inl t_ft_85_26) gF_1_1 kd_1 I.1 (by decide) fun x8 fx8 hx8 kx8 => ?_
    refine PW.aload_n q_85_11 rfl ?_
    refine PW.gI q_85_12 (Or.inl t_ft_85_30) gF_1_2 kd_1 I.1 (by decide) fun x9 fx9 hx9 kx9 => ?_
    clear hx9 kx9
    refine PW.jc_le q_85_15 rfl (fun h10 => ?_) (fun h10 => ?_)
    · skip
      refine PW.cI q_85_26 (by decide) fun c11 hc11 => ?_
      refine PW.goto q_85_27 rfl ?_
      refine PW.rZ q_85_31 rfl (by omega) (by omega) (by decide) (by decide) ?_
      exact hK c11 M I F (by omega) (by omega)
    · skip
      refine PW.aload_n q_85_18 rfl ?_
      refine PW.cI q_85_19 (by decide) fun c12 hc12 => ?_
      refine PW.cV (as := [_]) (rest := []) q_85_20 t_mv_85_97 kd_1 I.1 (by decide) rfl (by decide) rfl rfl (Nat.le_of_ble_eq_true rfl) (Nat.le_of_ble_eq_true rfl) (by decide) (by decide) ?_
      refine PW.up (by decide) (c_X7_fail (V) (hV) G _ M I c12 fun x14 M13 IM13 GM13 hx14 kx14 => ?_)
      have FM13 := Fr.trans F GM13 (rfl)
      refine PW.jz_eq q_85_23 rfl (fun h15 => ?_) (fun h15 => False.elim (by omega))
      refine PW.cI q_85_30 (by decide) fun c16 hc16 => ?_
      refine PW.rZ q_85_31 rfl (by omega) (by omega) (by decide) (by decide) ?_
      exact hK c16 M13 IM13 FM13 (by omega) (by omega)
theorem c_X7_takes (V : pM → Prop) (hV : Stab V) (G : pG) (Kr : pK) (M : pM) (I : Iv V M) (r1 : Nat) (hr1 : r1 < 28) (hK : ∀ (x : Int32) (M1 : pM), Iv V M1 → Fr [1] M M1 → 0 ≤ x.toInt → x.toInt ≤ 1 → Kr.1 (some (.int x)) 311 M1) : PW G false 3 88 (p_mc 88) (p_msl 88) Kr 0 (lv_args 0 [.ref 1, .ref (65536 + r1)]) [] 311 M 0 0 := by
  have F : Fr [1] M M := Fr.refl
  refine PW.aload_n q_88_0 rfl ?_
  refine PW.aload_n q_88_1 rfl ?_
  refine PW.cV (as := [_]) (rest := []) q_88_2 t_mv_88_100 kd_1 I.1 (by decide) rfl (by decide) rfl rfl (Nat.le_of_ble_eq_true rfl) (Nat.le_of_ble_eq_true rfl) (by decide) (by decide) ?_
  refine PW.up (by decide) (c_X7_sees (V) (hV) G _ M I r1 hr1 fun x2 M1 IM1 GM1 hx2 kx2 => ?_)
  have FM1 := Fr.trans F GM1 (rfl)
  refine PW.jz_ne q_88_5 rfl (fun h3 => ?_) (fun h3 => ?_)
  · skip
    refine PW.aload_n q_88_10 rfl ?_
    refine PW.cV (as := []) (rest := []) q_88_11 t_mv_88_42 kd_1 IM1.1 (by decide) rfl (by decide) rfl rfl (Nat.le_of_ble_eq_true rfl) (Nat.le_of_ble_eq_true rfl) (by decide) (by decide) ?_
    refine PW.up (by decide) (c_X7_advance (V) (hV) G _ M1 IM1  fun M4 IM4 GM4 => ?_)
    have FM4 := Fr.trans FM1 GM4 (rfl)
    refine PW.cI q_88_14 (by decide) fun c5 hc5 => ?_
    refine PW.rZ q_88_15 rfl (by omega) (by omega) (by decide) (by decide) ?_
    exact hK c5 M4 IM4 FM4 (by omega) (by omega)
  · skip
    refine PW.cI q_88_8 (by decide) fun c6 hc6 => ?_
    refine PW.rZ q_88_9 rfl (by omega) (by omega) (by decide) (by decide) ?_
    exact hK c6 M1 IM1 FM1 (by omega) (by omega)
theorem c_X7_needsSign (V : pM → Prop) (hV : Stab V) (G : pG) (Kr : pK) (M : pM) (I : Iv V M) (a1 : Int32) (hK : ∀ (x : Int32) (M1 : pM), Iv V M1 → Fr [1] M M1 → 0 ≤ x.toInt → x.toInt ≤ 1 → Kr.1 (some (.int x)) 311 M1) : PW G false 3 89 (p_mc 89) (p_msl 89) Kr 0 (lv_args 0 [.ref 1, .int a1]) [] 311 M 0 0 := by
  have F : Fr [1] M M := Fr.refl
  refine PW.aload_n q_89_0 rfl ?_
  refine PW.iload_n q_89_1 rfl ?_
  refine PW.cV (as := [_]) (rest := []) q_89_2 t_mv_89_104 kd_1 I.1 (by decide) rfl (by decide) rfl rfl (Nat.le_of_ble_eq_true rfl) (Nat.le_of_ble_eq_true rfl) (by decide) (by decide) ?_
  refine PW.up (by decide) (c_X7_seesSign (V) (hV) G _ M I a1 fun x2 M1 IM1 GM1 hx2 kx2 => ?_)
  have FM1 := Fr.trans F GM1 (rfl)
  refine PW.jz_ne q_89_5 rfl (fun h3 => ?_) (fun h3 => ?_)
  · skip
    refine PW.aload_n q_89_14 rfl ?_
    refine PW.cV (as := []) (rest := []) q_89_15 t_mv_89_42 kd_1 IM1.1 (by decide) rfl (by decide) rfl rfl (Nat.le_of_ble_eq_true rfl) (Nat.le_of_ble_eq_true rfl) (by decide) (by decide) ?_
    refine PW.up (by decide) (c_X7_advance (V) (hV) G _ M1 IM1  fun M4 IM4 GM4 => ?_)
    have FM4 := Fr.trans FM1 GM4 (rfl)
    refine PW.cI q_89_18 (by decide) fun c5 hc5 => ?_
    refine PW.rZ q_89_19 rfl (by omega) (by omega) (by decide) (by decide) ?_
    exact hK c5 M4 IM4 FM4 (by omega) (by omega)
  · skip
    refine PW.aload_n q_89_8 rfl ?_
    refine PW.cI q_89_9 (by decide) fun c6 hc6 => ?_
    refine PW.cV (as := [_]) (rest := []) q_89_10 t_mv_89_97 kd_1 IM1.1 (by decide) rfl (by decide) rfl rfl (Nat.le_of_ble_eq_true rfl) (Nat.le_of_ble_eq_true rfl) (by decide) (by decide) ?_
    refine PW.up (by decide) (c_X7_fail (V) (hV) G _ M1 IM1 c6 fun x8 M7 IM7 GM7 hx8 kx8 => ?_)
    have FM7 := Fr.trans FM1 GM7 (rfl)
    refine PW.rZ q_89_13 rfl (by omega) (by omega) (by decide) (by decide) ?_
    exact hK x8 M7 IM7 FM7 (by omega) (by omega)
theorem c_X7_needsNumber (V : pM → Prop) (hV : Stab V) (G : pG) (Kr : pK) (M : pM) (I : Iv V M) (a1 : Int32) (a2 : Int32) (hK : ∀ (x : Int32) (M1 : pM), Iv V M1 → Fr [1] M M1 → (x.toInt = -1 ∨ a1.toInt ≤ x.toInt ∧ x.toInt ≤ a2.toInt) → Kr.1 (some (.int x)) 311 M1) : PW G false 3 90 (p_mc 90) (p_msl 90) Kr 0 (lv_args 0 [.ref 1, .int a1, .int a2]) [] 311 M 0 0 := by
  have F : Fr [1] M M := Fr.refl
  refine PW.aload_n q_90_0 rfl ?_
  refine PW.gI q_90_1 (Or.inl t_ft_90_58) gF_1_5 kd_1 I.1 (by decide) fun x1 fx1 hx1 kx1 => ?_
  clear hx1 kx1
  refine PW.cI q_90_4 (by decide) fun c2 hc2 => ?_
  refine PW.jc_eq q_90_5 rfl (fun h3 => ?_) (fun h3 => ?_)
  · skip
    refine PW.aload_n q_90_16 rfl ?_
    refine PW.gI q_90_17 (Or.inl t_ft_90_81) gF_1_8 kd_1 I.1 (by decide) fun x4 fx4 hx4 kx4 => ?_
    clear hx4 kx4
    refine PW.iload_n q_90_20 rfl ?_
    refine PW.jc_lt q_90_21 rfl (fun h5 => ?_) (fun h5 => ?_)
    · skip
      refine PW.aload_n q_90_32 rfl ?_
      refine PW.cI q_90_33 (by decide) fun c6 hc6 => ?_
      refine PW.cV (as := [_]) (rest := []) q_90_34 t_mv_90_97 kd_1 I.1 (by decide) rfl (by decide) rfl rfl (Nat.le_of_ble_eq_true rfl) (Nat.le_of_ble_eq_true rfl) (by decide) (by decide) ?_
      refine PW.up (by decide) (c_X7_fail (V) (hV) G _ M I c6 fun x8 M7 IM7 GM7 hx8 kx8 => ?_)
      have FM7 := Fr.trans F GM7 (rfl)
      refine PW.pop q_90_37 rfl ?_
      refine PW.cI q_90_38 (by decide) fun c9 hc9 => ?_
      refine PW.rI q_90_39 rfl (by decide) (by decide) ?_
      exact hK c9 M7 IM7 FM7 (by omega)
    · skip
      refine PW.aload_n q_90_24 rfl ?_
      refine PW.gE q_90_25 (Or.inl t_ft_90_81) gF_1_8 kd_1 I.1 (by decide) fx4 ?_
      refine PW.iload_n q_90_28 rfl ?_
      refine PW.jc_le q_90_29 rfl (fun h10 => ?_) (fun h10 => ?_)
      · skip
        refine PW.aload_n q_90_40 rfl ?_
        refine PW.gE q_90_41 (Or.inl t_ft_90_81) gF_1_8 kd_1 I.1 (by decide) fx4 ?_
        refine PW.istore_n q_90_44 (by decide) ?_
        refine PW.aload_n q_90_45 rfl ?_
        refine PW.cV (as := []) (rest := []) q_90_46 t_mv_90_42 kd_1 I.1 (by decide) rfl (by decide) rfl rfl (Nat.le_of_ble_eq_true rfl) (Nat.le_of_ble_eq_true rfl) (by decide) (by decide) ?_
        refine PW.up (by decide) (c_X7_advance (V) (hV) G _ M I  fun M11 IM11 GM11 => ?_)
        have FM11 := Fr.trans F GM11 (rfl)
        refine PW.iload_n q_90_49 rfl ?_
        refine PW.rI q_90_50 rfl (by decide) (by decide) ?_
        exact hK x4 M11 IM11 FM11 (by omega)
      · skip
        refine PW.aload_n q_90_32 rfl ?_
        refine PW.cI q_90_33 (by decide) fun c12 hc12 => ?_
        refine PW.cV (as := [_]) (rest := []) q_90_34 t_mv_90_97 kd_1 I.1 (by decide) rfl (by decide) rfl rfl (Nat.le_of_ble_eq_true rfl) (Nat.le_of_ble_eq_true rfl) (by decide) (by decide) ?_
        refine PW.up (by decide) (c_X7_fail (V) (hV) G _ M I c12 fun x14 M13 IM13 GM13 hx14 kx14 => ?_)
        have FM13 := Fr.trans F GM13 (rfl)
        refine PW.pop q_90_37 rfl ?_
        refine PW.cI q_90_38 (by decide) fun c15 hc15 => ?_
        refine PW.rI q_90_39 rfl (by decide) (by decide) ?_
        exact hK c15 M13 IM13 FM13 (by omega)
  · skip
    refine PW.aload_n q_90_8 rfl ?_
    refine PW.cI q_90_9 (by decide) fun c16 hc16 => ?_
    refine PW.cV (as := [_]) (rest := []) q_90_10 t_mv_90_97 kd_1 I.1 (by decide) rfl (by decide) rfl rfl (Nat.le_of_ble_eq_true rfl) (Nat.le_of_ble_eq_true rfl) (by decide) (by decide) ?_
    refine PW.up (by decide) (c_X7_fail (V) (hV) G _ M I c16 fun x18 M17 IM17 GM17 hx18 kx18 => ?_)
    have FM17 := Fr.trans F GM17 (rfl)
    refine PW.pop q_90_13 rfl ?_
    refine PW.cI q_90_14 (by decide) fun c19 hc19 => ?_
    refine PW.rI q_90_15 rfl (by decide) (by decide) ?_
    exact hK c19 M17 IM17 FM17 (by omega)
theorem c_X7_indexOf (V : pM → Prop) (hV : Stab V) (G : pG) (Kr : pK) (M : pM) (I : Iv V M) (k0 : Nat) (hk_k0 : g_kd k0 = 27) (a1 : Int32) (a2 : Int64) (hK : ∀ (x : Int32) (M1 : pM), Iv V M1 → Fr [] M M1 → -1 ≤ x.toInt → x.toInt ≤ 5 → Kr.1 (some (.int x)) 311 M1) : PW G false 0 92 (p_mc 92) (p_msl 92) Kr 0 (lv_args 0 [.ref k0, .int a1, .long a2]) [] 311 M 0 0 := by
  have F : Fr [] M M := Fr.refl
  refine PW.cI q_92_0 (by decide) fun c1 hc1 => ?_
  refine PW.istore q_92_1 (by decide) ?_
  have L92_3_2 : ∀ (n : Nat) (ML92_3_2 : pM) (v3 : Int32), Iv (V) ML92_3_2 → Fr [] M ML92_3_2 → 0 ≤ v3.toInt → v3.toInt ≤ 6 → (6 - v3.toInt).toNat = n → PW G false 0 92 (p_mc 92) (p_msl 92) Kr 3 [(0, .ref k0), (1, .int a1), (2, .long a2), (4, .int v3)] [] 311 ML92_3_2 0 0 := by
    intro n
    induction n using Nat.strongRecOn with
    | ind n ih_L92_3_2 =>
    intro ML92_3_2 v3 IML92_3_2 FML92_3_2 hbL92_3_20 hbL92_3_21 hmL92_3_2
    refine PW.iload q_92_3 rfl ?_
    refine PW.iload_n q_92_5 rfl ?_
    refine PW.jc_ge q_92_6 rfl (fun h4 => ?_) (fun h4 => ?_)
    · skip
      refine PW.cI q_92_34 (by decide) fun c5 hc5 => ?_
      refine PW.rI q_92_35 rfl (by decide) (by decide) ?_
      exact hK c5 ML92_3_2 IML92_3_2 FML92_3_2 (by omega) (by omega)
    · skip
      refine PW.iload q_92_9 rfl ?_
      refine PW.aload_n q_92_11 rfl ?_
      refine PW.al2 q_92_12 rfl hk_k0 IML92_3_2.1 (by decide) (by decide) fun c6 hc6 => ?_
      refine PW.jc_ge q_92_13 rfl (fun h7 => ?_) (fun h7 => ?_)
      · skip
        refine PW.cI q_92_34 (by decide) fun c8 hc8 => ?_
        refine PW.rI q_92_35 rfl (by decide) (by decide) ?_
        exact hK c8 ML92_3_2 IML92_3_2 FML92_3_2 (by omega) (by omega)
      · skip
        refine PW.aload_n q_92_16 rfl ?_
        refine PW.iload q_92_17 rfl ?_
        refine PW.aL q_92_19 rfl hk_k0 IML92_3_2.1 (by decide) (by omega) (by omega) fun l9 fl9 => ?_
        refine PW.lload_n q_92_20 rfl ?_
        refine PW.lcmpH q_92_21 fun x10 => ?_
        refine PW.jz_ne q_92_22 rfl (fun h11 => ?_) (fun h11 => ?_)
        · skip
          refine PW.incN q_92_28 rfl (by decide) (by decide) (by omega) (by omega) fun x12 hx12 => ?_
          refine PW.goto q_92_31 rfl ?_
          refine PW.lvS (lk1 rfl (lk1 rfl (lk1 rfl (lk1 rfl lk0)))) (ih_L92_3_2 _ ?_ ML92_3_2 x12 IML92_3_2 FML92_3_2 (by omega) (by omega) rfl)
          omega
        · skip
          refine PW.iload q_92_25 rfl ?_
          refine PW.rI q_92_27 rfl (by decide) (by decide) ?_
          exact hK v3 ML92_3_2 IML92_3_2 FML92_3_2 (by omega) (by omega)
  exact PW.lvS (lk1 rfl (lk1 rfl (lk1 rfl (lk1 rfl lk0)))) (L92_3_2 _ M c1 I F (by omega) (by omega) rfl)
theorem c_X7_indexOf_d (V : pM → Prop) (hV : Stab V) (G : pG) (Kr : pK) (M : pM) (I : Iv V M) (k0 : Nat) (hk_k0 : g_kd k0 = 31) (a1 : Int32) (a2 : Int64) (hK : ∀ (x : Int32) (M1 : pM), Iv V M1 → Fr [] M M1 → -1 ≤ x.toInt → x.toInt ≤ 1 → Kr.1 (some (.int x)) 311 M1) : PW G false 0 92 (p_mc 92) (p_msl 92) Kr 0 (lv_args 0 [.ref k0, .int a1, .long a2]) [] 311 M 0 0 := by
  have F : Fr [] M M := Fr.refl
  refine PW.cI q_92_0 (by decide) fun c1 hc1 => ?_
  refine PW.istore q_92_1 (by decide) ?_
  have L92_3_2 : ∀ (n : Nat) (ML92_3_2 : pM) (v3 : Int32), Iv (V) ML92_3_2 → Fr [] M ML92_3_2 → 0 ≤ v3.toInt → v3.toInt ≤ 2 → (2 - v3.toInt).toNat = n → PW G false 0 92 (p_mc 92) (p_msl 92) Kr 3 [(0, .ref k0), (1, .int a1), (2, .long a2), (4, .int v3)] [] 311 ML92_3_2 0 0 := by
    intro n
    induction n using Nat.strongRecOn with
    | ind n ih_L92_3_2 =>
    intro ML92_3_2 v3 IML92_3_2 FML92_3_2 hbL92_3_20 hbL92_3_21 hmL92_3_2
    refine PW.iload q_92_3 rfl ?_
    refine PW.iload_n q_92_5 rfl ?_
    refine PW.jc_ge q_92_6 rfl (fun h4 => ?_) (fun h4 => ?_)
    · skip
      refine PW.cI q_92_34 (by decide) fun c5 hc5 => ?_
      refine PW.rI q_92_35 rfl (by decide) (by decide) ?_
      exact hK c5 ML92_3_2 IML92_3_2 FML92_3_2 (by omega) (by omega)
    · skip
      refine PW.iload q_92_9 rfl ?_
      refine PW.aload_n q_92_11 rfl ?_
      refine PW.al2 q_92_12 rfl hk_k0 IML92_3_2.1 (by decide) (by decide) fun c6 hc6 => ?_
      refine PW.jc_ge q_92_13 rfl (fun h7 => ?_) (fun h7 => ?_)
      · skip
        refine PW.cI q_92_34 (by decide) fun c8 hc8 => ?_
        refine PW.rI q_92_35 rfl (by decide) (by decide) ?_
        exact hK c8 ML92_3_2 IML92_3_2 FML92_3_2 (by omega) (by omega)
      · skip
        refine PW.aload_n q_92_16 rfl ?_
        refine PW.iload q_92_17 rfl ?_
        refine PW.aL q_92_19 rfl hk_k0 IML92_3_2.1 (by decide) (by omega) (by omega) fun l9 fl9 => ?_
        refine PW.lload_n q_92_20 rfl ?_
        refine PW.lcmpH q_92_21 fun x10 => ?_
        refine PW.jz_ne q_92_22 rfl (fun h11 => ?_) (fun h11 => ?_)
        · skip
          refine PW.incN q_92_28 rfl (by decide) (by decide) (by omega) (by omega) fun x12 hx12 => ?_
          refine PW.goto q_92_31 rfl ?_
          refine PW.lvS (lk1 rfl (lk1 rfl (lk1 rfl (lk1 rfl lk0)))) (ih_L92_3_2 _ ?_ ML92_3_2 x12 IML92_3_2 FML92_3_2 (by omega) (by omega) rfl)
          omega
        · skip
          refine PW.iload q_92_25 rfl ?_
          refine PW.rI q_92_27 rfl (by decide) (by decide) ?_
          exact hK v3 ML92_3_2 IML92_3_2 FML92_3_2 (by omega) (by omega)
  exact PW.lvS (lk1 rfl (lk1 rfl (lk1 rfl (lk1 rfl lk0)))) (L92_3_2 _ M c1 I F (by omega) (by omega) rfl)
theorem c_X7_needsKnown (V : pM → Prop) (hV : Stab V) (G : pG) (Kr : pK) (M : pM) (I : Iv V M) (k1 : Nat) (hk_k1 : g_kd k1 = 27) (a2 : Int32) (hK : ∀ (x : Int32) (M1 : pM), Iv V M1 → Fr [1] M M1 → -1 ≤ x.toInt → x.toInt ≤ 5 → Kr.1 (some (.int x)) 311 M1) : PW G false 1 91 (p_mc 91) (p_msl 91) Kr 0 (lv_args 0 [.ref 1, .ref k1, .int a2]) [] 311 M 0 0 := by
  have F : Fr [1] M M := Fr.refl
  refine PW.aload_n q_91_0 rfl ?_
  refine PW.gI q_91_1 (Or.inl t_ft_91_58) gF_1_5 kd_1 I.1 (by decide) fun x1 fx1 hx1 kx1 => ?_
  clear hx1 kx1
  refine PW.cI q_91_4 (by decide) fun c2 hc2 => ?_
  refine PW.jc_eq q_91_5 rfl (fun h3 => ?_) (fun h3 => ?_)
  · skip
    refine PW.aload_n q_91_16 rfl ?_
    refine PW.iload_n q_91_17 rfl ?_
    refine PW.aload_n q_91_18 rfl ?_
    refine PW.gL q_91_19 (Or.inl t_ft_91_77) gF_1_7 kd_1 I.1 (by decide) fun l4 fl4 => ?_
    refine PW.callS (as := [_, _, _]) (rest := []) q_91_22 t_ms_91_107 (by decide) rfl (Nat.le_of_ble_eq_true rfl) (Nat.le_of_ble_eq_true rfl) (by decide) (by decide) ?_
    refine PW.up (by decide) (c_X7_indexOf (V) (hV) G _ M I k1 hk_k1 a2 _ fun x6 M5 IM5 GM5 hx6 kx6 => ?_)
    have FM5 := Fr.trans F GM5 (rfl)
    refine PW.istore_n q_91_25 (by decide) ?_
    refine PW.iload_n q_91_26 rfl ?_
    refine PW.cI q_91_27 (by decide) fun c7 hc7 => ?_
    refine PW.jc_ne q_91_28 rfl (fun h8 => ?_) (fun h8 => ?_)
    · skip
      refine PW.iload_n q_91_37 rfl ?_
      refine PW.rI q_91_38 rfl (by decide) (by decide) ?_
      exact hK x6 M5 IM5 FM5 (by omega) (by omega)
    · skip
      refine PW.aload_n q_91_31 rfl ?_
      refine PW.cI q_91_32 (by decide) fun c9 hc9 => ?_
      refine PW.cV (as := [_]) (rest := []) q_91_33 t_mv_91_97 kd_1 IM5.1 (by decide) rfl (by decide) rfl rfl (Nat.le_of_ble_eq_true rfl) (Nat.le_of_ble_eq_true rfl) (by decide) (by decide) ?_
      refine PW.up (by decide) (c_X7_fail (V) (hV) G _ M5 IM5 c9 fun x11 M10 IM10 GM10 hx11 kx11 => ?_)
      have FM10 := Fr.trans FM5 GM10 (rfl)
      refine PW.pop q_91_36 rfl ?_
      refine PW.iload_n q_91_37 rfl ?_
      refine PW.rI q_91_38 rfl (by decide) (by decide) ?_
      exact hK x6 M10 IM10 FM10 (by omega) (by omega)
  · skip
    refine PW.aload_n q_91_8 rfl ?_
    refine PW.cI q_91_9 (by decide) fun c12 hc12 => ?_
    refine PW.cV (as := [_]) (rest := []) q_91_10 t_mv_91_97 kd_1 I.1 (by decide) rfl (by decide) rfl rfl (Nat.le_of_ble_eq_true rfl) (Nat.le_of_ble_eq_true rfl) (by decide) (by decide) ?_
    refine PW.up (by decide) (c_X7_fail (V) (hV) G _ M I c12 fun x14 M13 IM13 GM13 hx14 kx14 => ?_)
    have FM13 := Fr.trans F GM13 (rfl)
    refine PW.pop q_91_13 rfl ?_
    refine PW.cI q_91_14 (by decide) fun c15 hc15 => ?_
    refine PW.rI q_91_15 rfl (by decide) (by decide) ?_
    exact hK c15 M13 IM13 FM13 (by omega) (by omega)
theorem c_X7_needsKnown_d (V : pM → Prop) (hV : Stab V) (G : pG) (Kr : pK) (M : pM) (I : Iv V M) (k1 : Nat) (hk_k1 : g_kd k1 = 31) (a2 : Int32) (hK : ∀ (x : Int32) (M1 : pM), Iv V M1 → Fr [1] M M1 → -1 ≤ x.toInt → x.toInt ≤ 1 → Kr.1 (some (.int x)) 311 M1) : PW G false 1 91 (p_mc 91) (p_msl 91) Kr 0 (lv_args 0 [.ref 1, .ref k1, .int a2]) [] 311 M 0 0 := by
  have F : Fr [1] M M := Fr.refl
  refine PW.aload_n q_91_0 rfl ?_
  refine PW.gI q_91_1 (Or.inl t_ft_91_58) gF_1_5 kd_1 I.1 (by decide) fun x1 fx1 hx1 kx1 => ?_
  clear hx1 kx1
  refine PW.cI q_91_4 (by decide) fun c2 hc2 => ?_
  refine PW.jc_eq q_91_5 rfl (fun h3 => ?_) (fun h3 => ?_)
  · skip
    refine PW.aload_n q_91_16 rfl ?_
    refine PW.iload_n q_91_17 rfl ?_
    refine PW.aload_n q_91_18 rfl ?_
    refine PW.gL q_91_19 (Or.inl t_ft_91_77) gF_1_7 kd_1 I.1 (by decide) fun l4 fl4 => ?_
    refine PW.callS (as := [_, _, _]) (rest := []) q_91_22 t_ms_91_107 (by decide) rfl (Nat.le_of_ble_eq_true rfl) (Nat.le_of_ble_eq_true rfl) (by decide) (by decide) ?_
    refine PW.up (by decide) (c_X7_indexOf_d (V) (hV) G _ M I k1 hk_k1 a2 _ fun x6 M5 IM5 GM5 hx6 kx6 => ?_)
    have FM5 := Fr.trans F GM5 (rfl)
    refine PW.istore_n q_91_25 (by decide) ?_
    refine PW.iload_n q_91_26 rfl ?_
    refine PW.cI q_91_27 (by decide) fun c7 hc7 => ?_
    refine PW.jc_ne q_91_28 rfl (fun h8 => ?_) (fun h8 => ?_)
    · skip
      refine PW.iload_n q_91_37 rfl ?_
      refine PW.rI q_91_38 rfl (by decide) (by decide) ?_
      exact hK x6 M5 IM5 FM5 (by omega) (by omega)
    · skip
      refine PW.aload_n q_91_31 rfl ?_
      refine PW.cI q_91_32 (by decide) fun c9 hc9 => ?_
      refine PW.cV (as := [_]) (rest := []) q_91_33 t_mv_91_97 kd_1 IM5.1 (by decide) rfl (by decide) rfl rfl (Nat.le_of_ble_eq_true rfl) (Nat.le_of_ble_eq_true rfl) (by decide) (by decide) ?_
      refine PW.up (by decide) (c_X7_fail (V) (hV) G _ M5 IM5 c9 fun x11 M10 IM10 GM10 hx11 kx11 => ?_)
      have FM10 := Fr.trans FM5 GM10 (rfl)
      refine PW.pop q_91_36 rfl ?_
      refine PW.iload_n q_91_37 rfl ?_
      refine PW.rI q_91_38 rfl (by decide) (by decide) ?_
      exact hK x6 M10 IM10 FM10 (by omega) (by omega)
  · skip
    refine PW.aload_n q_91_8 rfl ?_
    refine PW.cI q_91_9 (by decide) fun c12 hc12 => ?_
    refine PW.cV (as := [_]) (rest := []) q_91_10 t_mv_91_97 kd_1 I.1 (by decide) rfl (by decide) rfl rfl (Nat.le_of_ble_eq_true rfl) (Nat.le_of_ble_eq_true rfl) (by decide) (by decide) ?_
    refine PW.up (by decide) (c_X7_fail (V) (hV) G _ M I c12 fun x14 M13 IM13 GM13 hx14 kx14 => ?_)
    have FM13 := Fr.trans F GM13 (rfl)
    refine PW.pop q_91_13 rfl ?_
    refine PW.cI q_91_14 (by decide) fun c15 hc15 => ?_
    refine PW.rI q_91_15 rfl (by decide) (by decide) ?_
    exact hK c15 M13 IM13 FM13 (by omega) (by omega)
