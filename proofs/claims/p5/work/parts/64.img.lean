theorem c_X7_append_l (V : pM → Prop) (hV : Stab V) (G : pG) (Kr : pK) (M : pM) (I : Iv V M) (a1 : Int32) (hp_0 : o_i (M 1) 1 ≤ 936) (hK : ∀ (M1 : pM), Iv V M1 → Fr [1, 2] M M1 → (o_i (M1 1) 1 = o_i (M 1) 1 + 4) → Kr.1 none 311 M1) : PW G false 0 74 (p_mc 74) (p_msl 74) Kr 0 (lv_args 0 [.ref 1, .int a1]) [] 311 M 0 0 := by
  have F : Fr [1, 2] M M := Fr.refl
  refine PW.cB q_74_0 (by decide) fun c1 hc1 => ?_
  refine PW.istore_n q_74_2 (by decide) ?_
  refine PW.iload_n q_74_3 rfl ?_
  refine PW.jz_lt q_74_4 rfl (fun h2 => False.elim (by omega)) (fun h2 => ?_)
  refine PW.aload_n q_74_7 rfl ?_
  refine PW.gI q_74_8 (Or.inl t_ft_74_26) gF_1_1 kd_1 I.1 (by decide) fun x3 fx3 hx3 kx3 => ?_
  have tl4 := o_i_of fx3
  refine PW.cS q_74_11 (by decide) fun c5 hc5 => ?_
  refine PW.jc_ge q_74_14 rfl (fun h6 => ?_) (fun h6 => ?_)
  · skip
    refine PW.incN q_74_40 rfl (by decide) (by decide) (by omega) (by omega) fun x7 hx7 => ?_
    refine PW.goto q_74_43 rfl ?_
    refine PW.iload_n q_74_3 rfl ?_
    refine PW.jz_lt q_74_4 rfl (fun h8 => False.elim (by omega)) (fun h8 => ?_)
    refine PW.aload_n q_74_7 rfl ?_
    refine PW.gE q_74_8 (Or.inl t_ft_74_26) gF_1_1 kd_1 I.1 (by decide) fx3 ?_
    have tl9 := o_i_of fx3
    refine PW.cS q_74_11 (by decide) fun c10 hc10 => ?_
    refine PW.jc_ge q_74_14 rfl (fun h11 => ?_) (fun h11 => False.elim (by omega))
    refine PW.incN q_74_40 rfl (by decide) (by decide) (by omega) (by omega) fun x12 hx12 => ?_
    refine PW.goto q_74_43 rfl ?_
    refine PW.iload_n q_74_3 rfl ?_
    refine PW.jz_lt q_74_4 rfl (fun h13 => False.elim (by omega)) (fun h13 => ?_)
    refine PW.aload_n q_74_7 rfl ?_
    refine PW.gE q_74_8 (Or.inl t_ft_74_26) gF_1_1 kd_1 I.1 (by decide) fx3 ?_
    have tl14 := o_i_of fx3
    refine PW.cS q_74_11 (by decide) fun c15 hc15 => ?_
    refine PW.jc_ge q_74_14 rfl (fun h16 => ?_) (fun h16 => False.elim (by omega))
    refine PW.incN q_74_40 rfl (by decide) (by decide) (by omega) (by omega) fun x17 hx17 => ?_
    refine PW.goto q_74_43 rfl ?_
    refine PW.iload_n q_74_3 rfl ?_
    refine PW.jz_lt q_74_4 rfl (fun h18 => False.elim (by omega)) (fun h18 => ?_)
    refine PW.aload_n q_74_7 rfl ?_
    refine PW.gE q_74_8 (Or.inl t_ft_74_26) gF_1_1 kd_1 I.1 (by decide) fx3 ?_
    have tl19 := o_i_of fx3
    refine PW.cS q_74_11 (by decide) fun c20 hc20 => ?_
    refine PW.jc_ge q_74_14 rfl (fun h21 => ?_) (fun h21 => False.elim (by omega))
    refine PW.incN q_74_40 rfl (by decide) (by decide) (by omega) (by omega) fun x22 hx22 => ?_
    refine PW.goto q_74_43 rfl ?_
    refine PW.iload_n q_74_3 rfl ?_
    refine PW.jz_lt q_74_4 rfl (fun h23 => ?_) (fun h23 => False.elim (by omega))
    have tz24 := o_i_of fx3
    refine PW.vret q_74_46 rfl (by decide) (by decide) ?_
    exact hK M I F (by omega)
  · skip
    refine PW.aload_n q_74_17 rfl ?_
    refine PW.gR 2 q_74_18 (Or.inl t_ft_74_9) gF_1_0 kd_1 I.1 (by decide) rfl ?_
    refine PW.aload_n q_74_21 rfl ?_
    refine PW.gE q_74_22 (Or.inl t_ft_74_26) gF_1_1 kd_1 I.1 (by decide) fx3 ?_
    have tl25 := o_i_of fx3
    refine PW.iload_n q_74_25 rfl ?_
    refine PW.iload_n q_74_26 rfl ?_
    refine PW.shrH q_74_27 fun x26 => ?_
    refine PW.bH q_74_28 fun x27 => ?_
    refine PW.wY q_74_29 gA_2 kd_2 hV I (by decide) rfl gC_2_0_939 (by omega) (by omega) fun M28 IM28 UM28 => ?_
    have FM28 := Fr.pu F UM28.1 kd_2 (rfl : List.contains [1, 2] 2 = true)
    refine PW.aload_n q_74_30 rfl ?_
    refine PW.dup q_74_31 rfl ?_
    refine PW.gE q_74_32 (Or.inl t_ft_74_26) gF_1_1 kd_1 IM28.1 (by decide) ((congrArg (fun e => o_f e 1) (UM28.1 _ (g_ne kd_1 kd_2 (by decide)))).trans fx3) ?_
    have tl29 := o_i_of ((congrArg (fun e => o_f e 1) (UM28.1 _ (g_ne kd_1 kd_2 (by decide)))).trans fx3)
    refine PW.cI q_74_35 (by decide) fun c30 hc30 => ?_
    refine PW.addN q_74_36 (by omega) (by omega) fun x31 hx31 => ?_
    refine PW.pI q_74_37 (Or.inl t_ft_74_26) gF_1_1 gP_1_1 kd_1 hV IM28 (by decide) rfl (by omega) (by omega) fun M32 IM32 fM32 UM32 => ?_
    have FM32 := Fr.pu FM28 UM32.1 kd_1 (rfl : List.contains [1, 2] 1 = true)
    refine PW.incN q_74_40 rfl (by decide) (by decide) (by omega) (by omega) fun x33 hx33 => ?_
    refine PW.goto q_74_43 rfl ?_
    refine PW.iload_n q_74_3 rfl ?_
    refine PW.jz_lt q_74_4 rfl (fun h34 => False.elim (by omega)) (fun h34 => ?_)
    refine PW.aload_n q_74_7 rfl ?_
    refine PW.gE q_74_8 (Or.inl t_ft_74_26) gF_1_1 kd_1 IM32.1 (by decide) fM32 ?_
    have tl35 := o_i_of fM32
    refine PW.cS q_74_11 (by decide) fun c36 hc36 => ?_
    refine PW.jc_ge q_74_14 rfl (fun h37 => ?_) (fun h37 => ?_)
    · skip
      refine PW.incN q_74_40 rfl (by decide) (by decide) (by omega) (by omega) fun x38 hx38 => ?_
      refine PW.goto q_74_43 rfl ?_
      refine PW.iload_n q_74_3 rfl ?_
      refine PW.jz_lt q_74_4 rfl (fun h39 => False.elim (by omega)) (fun h39 => ?_)
      refine PW.aload_n q_74_7 rfl ?_
      refine PW.gE q_74_8 (Or.inl t_ft_74_26) gF_1_1 kd_1 IM32.1 (by decide) fM32 ?_
      have tl40 := o_i_of fM32
      refine PW.cS q_74_11 (by decide) fun c41 hc41 => ?_
      refine PW.jc_ge q_74_14 rfl (fun h42 => ?_) (fun h42 => False.elim (by omega))
      refine PW.incN q_74_40 rfl (by decide) (by decide) (by omega) (by omega) fun x43 hx43 => ?_
      refine PW.goto q_74_43 rfl ?_
      refine PW.iload_n q_74_3 rfl ?_
      refine PW.jz_lt q_74_4 rfl (fun h44 => False.elim (by omega)) (fun h44 => ?_)
      refine PW.aload_n q_74_7 rfl ?_
      refine PW.gE q_74_8 (Or.inl t_ft_74_26) gF_1_1 kd_1 IM32.1 (by decide) fM32 ?_
      have tl45 := o_i_of fM32
      refine PW.cS q_74_11 (by decide) fun c46 hc46 => ?_
      refine PW.jc_ge q_74_14 rfl (fun h47 => ?_) (fun h47 => False.elim (by omega))
      refine PW.incN q_74_40 rfl (by decide) (by decide) (by omega) (by omega) fun x48 hx48 => ?_
      refine PW.goto q_74_43 rfl ?_
      refine PW.iload_n q_74_3 rfl ?_
      refine PW.jz_lt q_74_4 rfl (fun h49 => ?_) (fun h49 => False.elim (by omega))
      have tz50 := o_i_of fM32
      refine PW.vret q_74_46 rfl (by decide) (by decide) ?_
      exact hK M32 IM32 FM32 (by omega)
    · skip
      refine PW.aload_n q_74_17 rfl ?_
      refine PW.gR 2 q_74_18 (Or.inl t_ft_74_9) gF_1_0 kd_1 IM32.1 (by decide) rfl ?_
      refine PW.aload_n q_74_21 rfl ?_
      refine PW.gE q_74_22 (Or.inl t_ft_74_26) gF_1_1 kd_1 IM32.1 (by decide) fM32 ?_
      have tl51 := o_i_of fM32
      refine PW.iload_n q_74_25 rfl ?_
      refine PW.iload_n q_74_26 rfl ?_
      refine PW.shrH q_74_27 fun x52 => ?_
      refine PW.bH q_74_28 fun x53 => ?_
      refine PW.wY q_74_29 gA_2 kd_2 hV IM32 (by decide) rfl gC_2_0_939 (by omega) (by omega) fun M54 IM54 UM54 => ?_
      have FM54 := Fr.pu FM32 UM54.1 kd_2 (rfl : List.contains [1, 2] 2 = true)
      refine PW.aload_n q_74_30 rfl ?_
      refine PW.dup q_74_31 rfl ?_
      refine PW.gE q_74_32 (Or.inl t_ft_74_26) gF_1_1 kd_1 IM54.1 (by decide) ((congrArg (fun e => o_f e 1) (UM54.1 _ (g_ne kd_1 kd_2 (by decide)))).trans fM32) ?_
      have tl55 := o_i_of ((congrArg (fun e => o_f e 1) (UM54.1 _ (g_ne kd_1 kd_2 (by decide)))).trans fM32)
      refine PW.cI q_74_35 (by decide) fun c56 hc56 => ?_
      refine PW.addN q_74_36 (by omega) (by omega) fun x57 hx57 => ?_
      refine PW.pI q_74_37 (Or.inl t_ft_74_26) gF_1_1 gP_1_1 kd_1 hV IM54 (by decide) rfl (by omega) (by omega) fun M58 IM58 fM58 UM58 => ?_
      have FM58 := Fr.pu FM54 UM58.1 kd_1 (rfl : List.contains [1, 2] 1 = true)
      refine PW.incN q_74_40 rfl (by decide) (by decide) (by omega) (by omega) fun x59 hx59 => ?_
      refine PW.goto q_74_43 rfl ?_
      refine PW.iload_n q_74_3 rfl ?_
      refine PW.jz_lt q_74_4 rfl (fun h60 => False.elim (by omega)) (fun h60 => ?_)
      refine PW.aload_n q_74_7 rfl ?_
      refine PW.gE q_74_8 (Or.inl t_ft_74_26) gF_1_1 kd_1 IM58.1 (by decide) fM58 ?_
      have tl61 := o_i_of fM58
      refine PW.cS q_74_11 (by decide) fun c62 hc62 => ?_
      refine PW.jc_ge q_74_14 rfl (fun h63 => ?_) (fun h63 => ?_)
      · skip
        refine PW.incN q_74_40 rfl (by decide) (by decide) (by omega) (by omega) fun x64 hx64 => ?_
        refine PW.goto q_74_43 rfl ?_
        refine PW.iload_n q_74_3 rfl ?_
        refine PW.jz_lt q_74_4 rfl (fun h65 => False.elim (by omega)) (fun h65 => ?_)
        refine PW.aload_n q_74_7 rfl ?_
        refine PW.gE q_74_8 (Or.inl t_ft_74_26) gF_1_1 kd_1 IM58.1 (by decide) fM58 ?_
        have tl66 := o_i_of fM58
        refine PW.cS q_74_11 (by decide) fun c67 hc67 => ?_
        refine PW.jc_ge q_74_14 rfl (fun h68 => ?_) (fun h68 => False.elim (by omega))
        refine PW.incN q_74_40 rfl (by decide) (by decide) (by omega) (by omega) fun x69 hx69 => ?_
        refine PW.goto q_74_43 rfl ?_
        refine PW.iload_n q_74_3 rfl ?_
        refine PW.jz_lt q_74_4 rfl (fun h70 => ?_) (fun h70 => False.elim (by omega))
        have tz71 := o_i_of fM58
        refine PW.vret q_74_46 rfl (by decide) (by decide) ?_
        exact hK M58 IM58 FM58 (by omega)
      · skip
        refine PW.aload_n q_74_17 rfl ?_
        refine PW.gR 2 q_74_18 (Or.inl t_ft_74_9) gF_1_0 kd_1 IM58.1 (by decide) rfl ?_
        refine PW.aload_n q_74_21 rfl ?_
        refine PW.gE q_74_22 (Or.inl t_ft_74_26) gF_1_1 kd_1 IM58.1 (by decide) fM58 ?_
        have tl72 := o_i_of fM58
        refine PW.iload_n q_74_25 rfl ?_
        refine PW.iload_n q_74_26 rfl ?_
        refine PW.shrH q_74_27 fun x73 => ?_
        refine PW.bH q_74_28 fun x74 => ?_
        refine PW.wY q_74_29 gA_2 kd_2 hV IM58 (by decide) rfl gC_2_0_939 (by omega) (by omega) fun M75 IM75 UM75 => ?_
        have FM75 := Fr.pu FM58 UM75.1 kd_2 (rfl : List.contains [1, 2] 2 = true)
        refine PW.aload_n q_74_30 rfl ?_
        refine PW.dup q_74_31 rfl ?_
        refine PW.gE q_74_32 (Or.inl t_ft_74_26) gF_1_1 kd_1 IM75.1 (by decide) ((congrArg (fun e => o_f e 1) (UM75.1 _ (g_ne kd_1 kd_2 (by decide)))).trans fM58) ?_
        have tl76 := o_i_of ((congrArg (fun e => o_f e 1) (UM75.1 _ (g_ne kd_1 kd_2 (by decide)))).trans fM58)
        refine PW.cI q_74_35 (by decide) fun c77 hc77 => ?_
        refine PW.addN q_74_36 (by omega) (by omega) fun x78 hx78 => ?_
        refine PW.pI q_74_37 (Or.inl t_ft_74_26) gF_1_1 gP_1_1 kd_1 hV IM75 (by decide) rfl (by omega) (by omega) fun M79 IM79 fM79 UM79 => ?_
        have FM79 := Fr.pu FM75 UM79.1 kd_1 (rfl : List.contains [1, 2] 1 = true)
        refine PW.incN q_74_40 rfl (by decide) (by decide) (by omega) (by omega) fun x80 hx80 => ?_
        refine PW.goto q_74_43 rfl ?_
        refine PW.iload_n q_74_3 rfl ?_
        refine PW.jz_lt q_74_4 rfl (fun h81 => False.elim (by omega)) (fun h81 => ?_)
        refine PW.aload_n q_74_7 rfl ?_
        refine PW.gE q_74_8 (Or.inl t_ft_74_26) gF_1_1 kd_1 IM79.1 (by decide) fM79 ?_
        have tl82 := o_i_of fM79
        refine PW.cS q_74_11 (by decide) fun c83 hc83 => ?_
        refine PW.jc_ge q_74_14 rfl (fun h84 => ?_) (fun h84 => ?_)
        · skip
          refine PW.incN q_74_40 rfl (by decide) (by decide) (by omega) (by omega) fun x85 hx85 => ?_
          refine PW.goto q_74_43 rfl ?_
          refine PW.iload_n q_74_3 rfl ?_
          refine PW.jz_lt q_74_4 rfl (fun h86 => ?_) (fun h86 => False.elim (by omega))
          have tz87 := o_i_of fM79
          refine PW.vret q_74_46 rfl (by decide) (by decide) ?_
          exact hK M79 IM79 FM79 (by omega)
        · skip
          refine PW.aload_n q_74_17 rfl ?_
          refine PW.gR 2 q_74_18 (Or.inl t_ft_74_9) gF_1_0 kd_1 IM79.1 (by decide) rfl ?_
          refine PW.aload_n q_74_21 rfl ?_
          refine PW.gE q_74_22 (Or.inl t_ft_74_26) gF_1_1 kd_1 IM79.1 (by decide) fM79 ?_
          have tl88 := o_i_of fM79
          refine PW.iload_n q_74_25 rfl ?_
          refine PW.iload_n q_74_26 rfl ?_
          refine PW.shrH q_74_27 fun x89 => ?_
          refine PW.bH q_74_28 fun x90 => ?_
          refine PW.wY q_74_29 gA_2 kd_2 hV IM79 (by decide) rfl gC_2_0_939 (by omega) (by omega) fun M91 IM91 UM91 => ?_
          have FM91 := Fr.pu FM79 UM91.1 kd_2 (rfl : List.contains [1, 2] 2 = true)
          refine PW.aload_n q_74_30 rfl ?_
          refine PW.dup q_74_31 rfl ?_
          refine PW.gE q_74_32 (Or.inl t_ft_74_26) gF_1_1 kd_1 IM91.1 (by decide) ((congrArg (fun e => o_f e 1) (UM91.1 _ (g_ne kd_1 kd_2 (by decide)))).trans fM79) ?_
          have tl92 := o_i_of ((congrArg (fun e => o_f e 1) (UM91.1 _ (g_ne kd_1 kd_2 (by decide)))).trans fM79)
          refine PW.cI q_74_35 (by decide) fun c93 hc93 => ?_
          refine PW.addN q_74_36 (by omega) (by omega) fun x94 hx94 => ?_
          refine PW.pI q_74_37 (Or.inl t_ft_74_26) gF_1_1 gP_1_1 kd_1 hV IM91 (by decide) rfl (by omega) (by omega) fun M95 IM95 fM95 UM95 => ?_
          have FM95 := Fr.pu FM91 UM95.1 kd_1 (rfl : List.contains [1, 2] 1 = true)
          refine PW.incN q_74_40 rfl (by decide) (by decide) (by omega) (by omega) fun x96 hx96 => ?_
          refine PW.goto q_74_43 rfl ?_
          refine PW.iload_n q_74_3 rfl ?_
          refine PW.jz_lt q_74_4 rfl (fun h97 => ?_) (fun h97 => False.elim (by omega))
          have tz98 := o_i_of fM95
          refine PW.vret q_74_46 rfl (by decide) (by decide) ?_
          exact hK M95 IM95 FM95 (by omega)
theorem c_X11_feed_l (G : pG) (Kr : pK) (M : pM) (I : Iv gTT M) (a1 : Int32) (a2 : Int32) (a3 : Int32) (a4 : Int32) (a5 : Int32) (hK : ∀ (x : Int32) (M1 : pM), Iv gTT M1 → Fr [1, 2] M M1 → ((o_i (M 1) 1 + 20 ≤ 940 ∧ x.toInt = o_i (M 1) 1 + 20 ∧ o_i (M1 1) 1 = o_i (M 1) 1 + 20) ∨ (940 < o_i (M 1) 1 + 20 ∧ x.toInt = -1 ∧ o_i (M1 1) 1 = o_i (M 1) 1)) → Kr.1 (some (.int x)) 311 M1) : PW G false 1 100 (p_mc 100) (p_msl 100) Kr 0 (lv_args 0 [.ref 0, .int a1, .int a2, .int a3, .int a4, .int a5]) [] 311 M 0 0 := by
  have F : Fr [1, 2] M M := Fr.refl
  refine PW.aload_n q_100_0 rfl ?_
  refine PW.gR 1 q_100_1 (Or.inl t_ft_100_10) gF_0_0 kd_0 I.1 (by decide) rfl ?_
  refine PW.gI q_100_4 (Or.inr t_fN_100_73) gF_1_1 kd_1 I.1 (by decide) fun x1 fx1 hx1 kx1 => ?_
  have tl2 := o_i_of fx1
  refine PW.cB q_100_7 (by decide) fun c3 hc3 => ?_
  refine PW.addN q_100_9 (by omega) (by omega) fun x4 hx4 => ?_
  refine PW.cS q_100_10 (by decide) fun c5 hc5 => ?_
  refine PW.jc_le q_100_13 rfl (fun h6 => ?_) (fun h6 => ?_)
  · skip
    refine PW.aload_n q_100_18 rfl ?_
    refine PW.gR 1 q_100_19 (Or.inl t_ft_100_10) gF_0_0 kd_0 I.1 (by decide) rfl ?_
    refine PW.iload_n q_100_22 rfl ?_
    refine PW.cV (as := [_]) (rest := []) q_100_23 t_mv_100_77 kd_1 I.1 (by decide) rfl (by decide) rfl rfl (Nat.le_of_ble_eq_true rfl) (Nat.le_of_ble_eq_true rfl) (by decide) (by decide) ?_
    refine PW.up (by decide) (c_X7_append_l (gTT) (Stab0) G _ M I a1 (by omega) fun M7 IM7 GM7 PM7 => ?_)
    have FM7 := Fr.trans F GM7 (rfl)
    refine PW.aload_n q_100_26 rfl ?_
    refine PW.gR 1 q_100_27 (Or.inl t_ft_100_10) gF_0_0 kd_0 IM7.1 (by decide) rfl ?_
    refine PW.iload_n q_100_30 rfl ?_
    refine PW.cV (as := [_]) (rest := []) q_100_31 t_mv_100_77 kd_1 IM7.1 (by decide) rfl (by decide) rfl rfl (Nat.le_of_ble_eq_true rfl) (Nat.le_of_ble_eq_true rfl) (by decide) (by decide) ?_
    refine PW.up (by decide) (c_X7_append_l (gTT) (Stab0) G _ M7 IM7 a2 (by omega) fun M8 IM8 GM8 PM8 => ?_)
    have FM8 := Fr.trans FM7 GM8 (rfl)
    refine PW.aload_n q_100_34 rfl ?_
    refine PW.gR 1 q_100_35 (Or.inl t_ft_100_10) gF_0_0 kd_0 IM8.1 (by decide) rfl ?_
    refine PW.iload_n q_100_38 rfl ?_
    refine PW.cV (as := [_]) (rest := []) q_100_39 t_mv_100_77 kd_1 IM8.1 (by decide) rfl (by decide) rfl rfl (Nat.le_of_ble_eq_true rfl) (Nat.le_of_ble_eq_true rfl) (by decide) (by decide) ?_
    refine PW.up (by decide) (c_X7_append_l (gTT) (Stab0) G _ M8 IM8 a3 (by omega) fun M9 IM9 GM9 PM9 => ?_)
    have FM9 := Fr.trans FM8 GM9 (rfl)
    refine PW.aload_n q_100_42 rfl ?_
    refine PW.gR 1 q_100_43 (Or.inl t_ft_100_10) gF_0_0 kd_0 IM9.1 (by decide) rfl ?_
    refine PW.iload q_100_46 rfl ?_
    refine PW.cV (as := [_]) (rest := []) q_100_48 t_mv_100_77 kd_1 IM9.1 (by decide) rfl (by decide) rfl rfl (Nat.le_of_ble_eq_true rfl) (Nat.le_of_ble_eq_true rfl) (by decide) (by decide) ?_
    refine PW.up (by decide) (c_X7_append_l (gTT) (Stab0) G _ M9 IM9 a4 (by omega) fun M10 IM10 GM10 PM10 => ?_)
    have FM10 := Fr.trans FM9 GM10 (rfl)
    refine PW.aload_n q_100_51 rfl ?_
    refine PW.gR 1 q_100_52 (Or.inl t_ft_100_10) gF_0_0 kd_0 IM10.1 (by decide) rfl ?_
    refine PW.iload q_100_55 rfl ?_
    refine PW.cV (as := [_]) (rest := []) q_100_57 t_mv_100_77 kd_1 IM10.1 (by decide) rfl (by decide) rfl rfl (Nat.le_of_ble_eq_true rfl) (Nat.le_of_ble_eq_true rfl) (by decide) (by decide) ?_
    refine PW.up (by decide) (c_X7_append_l (gTT) (Stab0) G _ M10 IM10 a5 (by omega) fun M11 IM11 GM11 PM11 => ?_)
    have FM11 := Fr.trans FM10 GM11 (rfl)
    refine PW.aload_n q_100_60 rfl ?_
    refine PW.gR 1 q_100_61 (Or.inl t_ft_100_10) gF_0_0 kd_0 IM11.1 (by decide) rfl ?_
    refine PW.gI q_100_64 (Or.inr t_fN_100_73) gF_1_1 kd_1 IM11.1 (by decide) fun x12 fx12 hx12 kx12 => ?_
    have tl13 := o_i_of fx12
    have tz14 := o_i_of fx12
    refine PW.rI q_100_67 rfl (by decide) (by decide) ?_
    exact hK x12 M11 IM11 FM11 (by omega)
  · skip
    refine PW.cI q_100_16 (by decide) fun c15 hc15 => ?_
    have tz16 := o_i_of fx1
    refine PW.rI q_100_17 rfl (by decide) (by decide) ?_
    exact hK c15 M I F (by omega)
theorem c_X11_end_l (G : pG) (Kr : pK) (M : pM) (I : Iv gTT M) (a1 : Int32) (hK : ∀ (x : Int32) (M1 : pM), Iv gTT M1 → Fr [1] M M1 → 0 ≤ x.toInt → x.toInt ≤ 1 → ((0 ≤ a1.toInt ∧ a1.toInt ≤ o_i (M 1) 1 ∧ x.toInt = 1 ∧ o_i (M1 1) 1 = a1.toInt) ∨ ((a1.toInt < 0 ∨ o_i (M 1) 1 < a1.toInt) ∧ x.toInt = 0 ∧ o_i (M1 1) 1 = o_i (M 1) 1)) → Kr.1 (some (.int x)) 311 M1) : PW G false 0 101 (p_mc 101) (p_msl 101) Kr 0 (lv_args 0 [.ref 0, .int a1]) [] 311 M 0 0 := by
  have F : Fr [1] M M := Fr.refl
  refine PW.iload_n q_101_0 rfl ?_
  refine PW.jz_lt q_101_1 rfl (fun h1 => ?_) (fun h1 => ?_)
  · skip
    refine PW.cI q_101_15 (by decide) fun c2 hc2 => ?_
    refine PW.rZ q_101_16 rfl (by omega) (by omega) (by decide) (by decide) ?_
    exact hK c2 M I F (by omega) (by omega) (by omega)
  · skip
    refine PW.iload_n q_101_4 rfl ?_
    refine PW.aload_n q_101_5 rfl ?_
    refine PW.gR 1 q_101_6 (Or.inl t_ft_101_10) gF_0_0 kd_0 I.1 (by decide) rfl ?_
    refine PW.gI q_101_9 (Or.inr t_fN_101_73) gF_1_1 kd_1 I.1 (by decide) fun x3 fx3 hx3 kx3 => ?_
    have tl4 := o_i_of fx3
    refine PW.jc_le q_101_12 rfl (fun h5 => ?_) (fun h5 => ?_)
    · skip
      refine PW.aload_n q_101_17 rfl ?_
      refine PW.gR 1 q_101_18 (Or.inl t_ft_101_10) gF_0_0 kd_0 I.1 (by decide) rfl ?_
      refine PW.iload_n q_101_21 rfl ?_
      refine PW.pI q_101_22 (Or.inr t_fN_101_73) gF_1_1 gP_1_1 kd_1 Stab0 I (by decide) rfl (by omega) (by omega) fun M6 IM6 fM6 UM6 => ?_
      have FM6 := Fr.pu F UM6.1 kd_1 (rfl : List.contains [1] 1 = true)
      refine PW.cI q_101_25 (by decide) fun c7 hc7 => ?_
      have tz8 := o_i_of fM6
      refine PW.rZ q_101_26 rfl (by omega) (by omega) (by decide) (by decide) ?_
      exact hK c7 M6 IM6 FM6 (by omega) (by omega) (by omega)
    · skip
      refine PW.cI q_101_15 (by decide) fun c9 hc9 => ?_
      have tz10 := o_i_of fx3
      refine PW.rZ q_101_16 rfl (by omega) (by omega) (by decide) (by decide) ?_
      exact hK c9 M I F (by omega) (by omega) (by omega)
theorem c_X11_beach_l (G : pG) (Kr : pK) (M : pM) (I : Iv gTT M)  (hK : ∀ (x : Int32) (M1 : pM), Iv gTT M1 → Fr [0, 1, 4, 5, 7, 9, 10, 13, 14, 21, 27, 28, 29, 30, 31, 32, 33, 34, 35, 36] M M1 → (o_i (M1 1) 1 = 0) → Kr.1 (some (.int x)) 311 M1) : PW G false 7 102 (p_mc 102) (p_msl 102) Kr 0 (lv_args 0 [.ref 0]) [] 311 M 0 0 := by
  have F : Fr [0, 1, 4, 5, 7, 9, 10, 13, 14, 21, 27, 28, 29, 30, 31, 32, 33, 34, 35, 36] M M := Fr.refl
  refine PW.aload_n q_102_0 rfl ?_
  refine PW.gR 256 q_102_1 (Or.inl t_ft_102_41) gF_0_5 kd_0 I.1 (by decide) rfl ?_
  refine PW.aload_n q_102_4 rfl ?_
  refine PW.gR 1 q_102_5 (Or.inl t_ft_102_10) gF_0_0 kd_0 I.1 (by decide) rfl ?_
  refine PW.cV (as := [_]) (rest := []) q_102_8 t_mv_102_81 kd_256 I.1 (by decide) rfl (by decide) rfl rfl (Nat.le_of_ble_eq_true rfl) (Nat.le_of_ble_eq_true rfl) (by decide) (by decide) ?_
  refine PW.up (by decide) (c_X3_read G _ M I fun x2 M1 IM1 GM1 hx2 kx2 => ?_)
  have FM1 := Fr.trans F GM1 (rfl)
  refine PW.istore_n q_102_11 (by decide) ?_
  refine PW.aload_n q_102_12 rfl ?_
  refine PW.gR 1 q_102_13 (Or.inl t_ft_102_10) gF_0_0 kd_0 IM1.1 (by decide) rfl ?_
  refine PW.cI q_102_16 (by decide) fun c3 hc3 => ?_
  refine PW.pI q_102_17 (Or.inr t_fN_102_73) gF_1_1 gP_1_1 kd_1 StabS IM1 (by decide) rfl (by omega) (by omega) fun M4 IM4 fM4 UM4 => ?_
  have FM4 := Fr.pu FM1 UM4.1 kd_1 (rfl : List.contains [0, 1, 4, 5, 7, 9, 10, 13, 14, 21, 27, 28, 29, 30, 31, 32, 33, 34, 35, 36] 1 = true)
  refine PW.aload_n q_102_20 rfl ?_
  refine PW.aload_n q_102_21 rfl ?_
  refine PW.gR 1 q_102_22 (Or.inl t_ft_102_10) gF_0_0 kd_0 IM4.1 (by decide) rfl ?_
  refine PW.gI q_102_25 (Or.inr t_fN_102_85) gF_1_10 kd_1 IM4.1 (by decide) fun x5 fx5 hx5 kx5 => ?_
  clear hx5 kx5
  refine PW.pI q_102_28 (Or.inl t_ft_102_88) gF_0_10 gP_0_10 kd_0 StabS IM4 (by decide) rfl (n_lo _) (n_hi _) fun M6 IM6 fM6 UM6 => ?_
  have FM6 := Fr.pu FM4 UM6.1 kd_0 (rfl : List.contains [0, 1, 4, 5, 7, 9, 10, 13, 14, 21, 27, 28, 29, 30, 31, 32, 33, 34, 35, 36] 0 = true)
  refine PW.iload_n q_102_31 rfl ?_
  refine PW.jz_ne q_102_32 rfl (fun h7 => ?_) (fun h7 => ?_)
  · skip
    refine PW.aload_n q_102_45 rfl ?_
    refine PW.gR 3 q_102_46 (Or.inl t_ft_102_19) gF_0_1 kd_0 IM6.1 (by decide) rfl ?_
    refine PW.gR 4 q_102_49 (Or.inr t_fN_102_94) gF_3_0 kd_3 IM6.1 (by decide) rfl ?_
    refine PW.aload_n q_102_52 rfl ?_
    refine PW.gR 256 q_102_53 (Or.inl t_ft_102_41) gF_0_5 kd_0 IM6.1 (by decide) rfl ?_
    refine PW.cV (as := [_]) (rest := []) q_102_56 t_mv_102_97 kd_4 IM6.1 (by decide) rfl (by decide) rfl rfl (Nat.le_of_ble_eq_true rfl) (Nat.le_of_ble_eq_true rfl) (by decide) (by decide) ?_
    refine PW.up (by decide) (c_X3_copyFrom_w G _ M6 IM6  fun M8 IM8 GM8 => ?_)
    have FM8 := Fr.trans FM6 GM8 (rfl)
    refine PW.aload_n q_102_59 rfl ?_
    refine PW.gR 3 q_102_60 (Or.inl t_ft_102_19) gF_0_1 kd_0 IM8.1 (by decide) rfl ?_
    refine PW.gR 15 q_102_63 (Or.inr t_fN_102_101) gF_3_1 kd_3 IM8.1 (by decide) rfl ?_
    refine PW.aload_n q_102_66 rfl ?_
    refine PW.gR 256 q_102_67 (Or.inl t_ft_102_41) gF_0_5 kd_0 IM8.1 (by decide) rfl ?_
    refine PW.cV (as := [_]) (rest := []) q_102_70 t_mv_102_104 kd_15 IM8.1 (by decide) rfl (by decide) rfl rfl (Nat.le_of_ble_eq_true rfl) (Nat.le_of_ble_eq_true rfl) (by decide) (by decide) ?_
    refine PW.up (by decide) (c_X5_begin G _ M8 ⟨IM8.1, IM8.2.1⟩ 15 kd_15 256 kd_256 IM8.2.2 fun M9 IM9 GM9 => ?_)
    have FM9 := Fr.trans FM8 GM9 (rfl)
    refine PW.aload_n q_102_73 rfl ?_
    refine PW.gR 3 q_102_74 (Or.inl t_ft_102_19) gF_0_1 kd_0 IM9.1 (by decide) rfl ?_
    refine PW.gR 33 q_102_77 (Or.inr t_fN_102_107) gF_3_2 kd_3 IM9.1 (by decide) rfl ?_
    refine PW.cV (as := []) (rest := []) q_102_80 t_mv_102_110 kd_33 IM9.1 (by decide) rfl (by decide) rfl rfl (Nat.le_of_ble_eq_true rfl) (Nat.le_of_ble_eq_true rfl) (by decide) (by decide) ?_
    refine PW.up (by decide) (c_X4_forget (gTT) (Stab0) G _ M9 IM9 33 kd_33 fun M10 IM10 GM10 => ?_)
    have FM10 := Fr.trans FM9 GM10 (rfl)
    refine PW.aload_n q_102_83 rfl ?_
    refine PW.gR 110 q_102_84 (Or.inl t_ft_102_34) gF_0_4 kd_0 IM10.1 (by decide) rfl ?_
    refine PW.cV (as := []) (rest := []) q_102_87 t_mv_102_113 kd_110 IM10.1 (by decide) rfl (by decide) rfl rfl (Nat.le_of_ble_eq_true rfl) (Nat.le_of_ble_eq_true rfl) (by decide) (by decide) ?_
    refine PW.up (by decide) (c_X1_forget (gTT) (Stab0) G _ M10 IM10  fun M11 IM11 GM11 => ?_)
    have FM11 := Fr.trans FM10 GM11 (rfl)
    refine PW.aload_n q_102_90 rfl ?_
    refine PW.gR 256 q_102_91 (Or.inl t_ft_102_41) gF_0_5 kd_0 IM11.1 (by decide) rfl ?_
    refine PW.gI q_102_94 (Or.inr t_fN_102_114) gF_4_0 kd_256 IM11.1 (by decide) fun x12 fx12 hx12 kx12 => ?_
    clear hx12 kx12
    have tz13 := o_i_of ((congrArg (fun e => o_f e 1) (Fr.at GM11 kd_1 (by decide))).trans ((congrArg (fun e => o_f e 1) (Fr.at GM10 kd_1 (by decide))).trans ((congrArg (fun e => o_f e 1) (Fr.at GM9 kd_1 (by decide))).trans ((congrArg (fun e => o_f e 1) (Fr.at GM8 kd_1 (by decide))).trans ((UM6.f (Or.inl (g_ne kd_1 kd_0 (by decide)))).trans fM4)))))
    refine PW.rI q_102_97 rfl (by decide) (by decide) ?_
    exact hK x12 M11 IM11 FM11 (by omega)
  · skip
    refine PW.cI q_102_35 (by decide) fun c14 hc14 => ?_
    refine PW.aload_n q_102_36 rfl ?_
    refine PW.gR 1 q_102_37 (Or.inl t_ft_102_10) gF_0_0 kd_0 IM6.1 (by decide) rfl ?_
    refine PW.gI q_102_40 (Or.inr t_fN_102_91) gF_1_11 kd_1 IM6.1 (by decide) fun x15 fx15 hx15 kx15 => ?_
    clear hx15 kx15
    refine PW.subN q_102_43 (by have := n_lo x15; have := n_hi x15; omega) (by have := n_lo x15; have := n_hi x15; omega) fun x16 hx16 => ?_
    have tz17 := o_i_of ((UM6.f (Or.inl (g_ne kd_1 kd_0 (by decide)))).trans fM4)
    refine PW.rI q_102_44 rfl (by decide) (by decide) ?_
    exact hK x16 M6 ⟨IM6.1, IM6.2.1⟩ FM6 (by omega)
theorem c_X11_sentence_l (G : pG) (Kr : pK) (M : pM) (I : Iv gTT M)  (hK : ∀ (x : Int32) (M1 : pM), Iv gTT M1 → Fr [0, 1, 14, 15, 16, 17] M M1 → (o_i (M1 1) 1 = 0) → Kr.1 (some (.int x)) 311 M1) : PW G false 31 104 (p_mc 104) (p_msl 104) Kr 0 (lv_args 0 [.ref 0]) [] 311 M 0 0 := by
  have F : Fr [0, 1, 14, 15, 16, 17] M M := Fr.refl
  refine PW.aload_n q_104_0 rfl ?_
  refine PW.gR 267 q_104_1 (Or.inl t_ft_104_48) gF_0_6 kd_0 I.1 (by decide) rfl ?_
  refine PW.aload_n q_104_4 rfl ?_
  refine PW.gR 1 q_104_5 (Or.inl t_ft_104_10) gF_0_0 kd_0 I.1 (by decide) rfl ?_
  refine PW.aload_n q_104_8 rfl ?_
  refine PW.gR 3 q_104_9 (Or.inl t_ft_104_19) gF_0_1 kd_0 I.1 (by decide) rfl ?_
  refine PW.gR 4 q_104_12 (Or.inr t_fN_104_94) gF_3_0 kd_3 I.1 (by decide) rfl ?_
  refine PW.cV (as := [_, _]) (rest := []) q_104_15 t_mv_104_117 kd_267 I.1 (by decide) rfl (by decide) rfl rfl (Nat.le_of_ble_eq_true rfl) (Nat.le_of_ble_eq_true rfl) (by decide) (by decide) ?_
  refine PW.up (by decide) (c_X4_read (gTT) (Stab0) G _ M I 4 kd_4 fun x2 M1 IM1 GM1 hx2 kx2 => ?_)
  have FM1 := Fr.trans F GM1 (rfl)
  refine PW.istore_n q_104_18 (by decide) ?_
  refine PW.aload_n q_104_19 rfl ?_
  refine PW.gR 1 q_104_20 (Or.inl t_ft_104_10) gF_0_0 kd_0 IM1.1 (by decide) rfl ?_
  refine PW.cI q_104_23 (by decide) fun c3 hc3 => ?_
  refine PW.pI q_104_24 (Or.inr t_fN_104_73) gF_1_1 gP_1_1 kd_1 Stab0 IM1 (by decide) rfl (by omega) (by omega) fun M4 IM4 fM4 UM4 => ?_
  have FM4 := Fr.pu FM1 UM4.1 kd_1 (rfl : List.contains [0, 1, 14, 15, 16, 17] 1 = true)
  refine PW.aload_n q_104_27 rfl ?_
  refine PW.aload_n q_104_28 rfl ?_
  refine PW.gR 1 q_104_29 (Or.inl t_ft_104_10) gF_0_0 kd_0 IM4.1 (by decide) rfl ?_
  refine PW.gI q_104_32 (Or.inr t_fN_104_85) gF_1_10 kd_1 IM4.1 (by decide) fun x5 fx5 hx5 kx5 => ?_
  clear hx5 kx5
  refine PW.pI q_104_35 (Or.inl t_ft_104_88) gF_0_10 gP_0_10 kd_0 Stab0 IM4 (by decide) rfl (n_lo _) (n_hi _) fun M6 IM6 fM6 UM6 => ?_
  have FM6 := Fr.pu FM4 UM6.1 kd_0 (rfl : List.contains [0, 1, 14, 15, 16, 17] 0 = true)
  refine PW.iload_n q_104_38 rfl ?_
  refine PW.jz_ne q_104_39 rfl (fun h7 => ?_) (fun h7 => ?_)
  · skip
    refine PW.aload_n q_104_52 rfl ?_
    refine PW.gR 3 q_104_53 (Or.inl t_ft_104_19) gF_0_1 kd_0 IM6.1 (by decide) rfl ?_
    refine PW.gR 33 q_104_56 (Or.inr t_fN_104_107) gF_3_2 kd_3 IM6.1 (by decide) rfl ?_
    refine PW.aload_n q_104_59 rfl ?_
    refine PW.gR 267 q_104_60 (Or.inl t_ft_104_48) gF_0_6 kd_0 IM6.1 (by decide) rfl ?_
    refine PW.cV (as := [_]) (rest := []) q_104_63 t_mv_104_120 kd_33 IM6.1 (by decide) rfl (by decide) rfl rfl (Nat.le_of_ble_eq_true rfl) (Nat.le_of_ble_eq_true rfl) (by decide) (by decide) ?_
    refine PW.up (by decide) (c_X4_copyFrom (gTT) (Stab0) G _ M6 IM6 33 kd_33 267 kd_267 fun M8 IM8 GM8 => ?_)
    have FM8 := Fr.trans FM6 GM8 (rfl)
    refine PW.aload_n q_104_66 rfl ?_
    refine PW.gR 267 q_104_67 (Or.inl t_ft_104_48) gF_0_6 kd_0 IM8.1 (by decide) rfl ?_
    refine PW.gI q_104_70 (Or.inr t_fN_104_123) gF_14_0 kd_267 IM8.1 (by decide) fun x9 fx9 hx9 kx9 => ?_
    clear hx9 kx9
    have tz10 := o_i_of ((congrArg (fun e => o_f e 1) (Fr.at GM8 kd_1 (by decide))).trans ((UM6.f (Or.inl (g_ne kd_1 kd_0 (by decide)))).trans fM4))
    refine PW.rI q_104_73 rfl (by decide) (by decide) ?_
    exact hK x9 M8 IM8 FM8 (by omega)
  · skip
    refine PW.cI q_104_42 (by decide) fun c11 hc11 => ?_
    refine PW.aload_n q_104_43 rfl ?_
    refine PW.gR 1 q_104_44 (Or.inl t_ft_104_10) gF_0_0 kd_0 IM6.1 (by decide) rfl ?_
    refine PW.gI q_104_47 (Or.inr t_fN_104_91) gF_1_11 kd_1 IM6.1 (by decide) fun x12 fx12 hx12 kx12 => ?_
    clear hx12 kx12
    refine PW.subN q_104_50 (by have := n_lo x12; have := n_hi x12; omega) (by have := n_lo x12; have := n_hi x12; omega) fun x13 hx13 => ?_
    have tz14 := o_i_of ((UM6.f (Or.inl (g_ne kd_1 kd_0 (by decide)))).trans fM4)
    refine PW.rI q_104_51 rfl (by decide) (by decide) ?_
    exact hK x13 M6 IM6 FM6 (by omega)
theorem c_X11_prints_l (G : pG) (Kr : pK) (M : pM) (I : Iv gTT M)  (hK : ∀ (x : Int32) (M1 : pM), Iv gTT M1 → Fr [1, 5, 7, 9, 10, 11, 12, 13] M M1 → (o_i (M1 1) 1 = 0) → Kr.1 (some (.int x)) 311 M1) : PW G false 6 135 (p_mc 135) (p_msl 135) Kr 0 (lv_args 0 [.ref 0]) [] 311 M 0 0 := by
  have F : Fr [1, 5, 7, 9, 10, 11, 12, 13] M M := Fr.refl
  refine PW.aload_n q_135_0 rfl ?_
  refine PW.cV (as := []) (rest := []) q_135_1 t_mv_135_335 kd_0 I.1 (by decide) rfl (by decide) rfl rfl (Nat.le_of_ble_eq_true rfl) (Nat.le_of_ble_eq_true rfl) (by decide) (by decide) ?_
  refine PW.up (by decide) (c_X11_leftPrints G _ M I  fun x2 M1 IM1 GM1 => ?_)
  have FM1 := Fr.trans F GM1 (rfl)
  refine PW.istore_n q_135_4 (by decide) ?_
  refine PW.aload_n q_135_5 rfl ?_
  refine PW.gR 1 q_135_6 (Or.inl t_ft_135_10) gF_0_0 kd_0 IM1.1 (by decide) rfl ?_
  refine PW.cI q_135_9 (by decide) fun c3 hc3 => ?_
  refine PW.pI q_135_10 (Or.inr t_fN_135_73) gF_1_1 gP_1_1 kd_1 Stab0 IM1 (by decide) rfl (by omega) (by omega) fun M4 IM4 fM4 UM4 => ?_
  have FM4 := Fr.pu FM1 UM4.1 kd_1 (rfl : List.contains [1, 5, 7, 9, 10, 11, 12, 13] 1 = true)
  refine PW.iload_n q_135_13 rfl ?_
  have tz5 := o_i_of fM4
  refine PW.rI q_135_14 rfl (by decide) (by decide) ?_
  exact hK x2 M4 IM4 FM4 (by omega)
theorem c_X11_laws_l (G : pG) (Kr : pK) (M : pM) (I : Iv gTT M)  (hK : ∀ (x : Int32) (M1 : pM), Iv gTT M1 → Fr [1, 5, 7, 9, 10, 11, 12, 13] M M1 → (o_i (M1 1) 1 = 0) → Kr.1 (some (.int x)) 311 M1) : PW G false 8 137 (p_mc 137) (p_msl 137) Kr 0 (lv_args 0 [.ref 0]) [] 311 M 0 0 := by
  have F : Fr [1, 5, 7, 9, 10, 11, 12, 13] M M := Fr.refl
  refine PW.aload_n q_137_0 rfl ?_
  refine PW.cV (as := []) (rest := []) q_137_1 t_mv_137_341 kd_0 I.1 (by decide) rfl (by decide) rfl rfl (Nat.le_of_ble_eq_true rfl) (Nat.le_of_ble_eq_true rfl) (by decide) (by decide) ?_
  refine PW.up (by decide) (c_X11_areTurns G _ M I  fun x2 M1 IM1 GM1 hx2 kx2 PM1 => ?_)
  have FM1 := Fr.trans F GM1 (rfl)
  have tg3 : gta M1 0 = gta M 0 := gta_F GM1 rfl rfl 0
  refine PW.jz_eq q_137_4 rfl (fun h4 => ?_) (fun h4 => ?_)
  · skip
    refine PW.cI q_137_14 (by decide) fun c5 hc5 => ?_
    refine PW.istore_n q_137_15 (by decide) ?_
    refine PW.aload_n q_137_16 rfl ?_
    refine PW.gR 1 q_137_17 (Or.inl t_ft_137_10) gF_0_0 kd_0 IM1.1 (by decide) rfl ?_
    refine PW.cI q_137_20 (by decide) fun c6 hc6 => ?_
    refine PW.pI q_137_21 (Or.inr t_fN_137_73) gF_1_1 gP_1_1 kd_1 Stab0 IM1 (by decide) rfl (by omega) (by omega) fun M7 IM7 fM7 UM7 => ?_
    have FM7 := Fr.pu FM1 UM7.1 kd_1 (rfl : List.contains [1, 5, 7, 9, 10, 11, 12, 13] 1 = true)
    refine PW.iload_n q_137_24 rfl ?_
    have tz8 := o_i_of fM7
    refine PW.rI q_137_25 rfl (by decide) (by decide) ?_
    exact hK c5 M7 IM7 FM7 (by omega)
  · skip
    refine PW.aload_n q_137_7 rfl ?_
    refine PW.cV (as := []) (rest := []) q_137_8 t_mv_137_345 kd_0 IM1.1 (by decide) rfl (by decide) rfl rfl (Nat.le_of_ble_eq_true rfl) (Nat.le_of_ble_eq_true rfl) (by decide) (by decide) ?_
    refine PW.up (by decide) (c_X11_fittingLaws G _ M1 IM1 (by omega) (by omega) fun x10 M9 IM9 GM9 => ?_)
    have FM9 := Fr.trans FM1 GM9 (rfl)
    have tg11 : gta M9 0 = gta M1 0 := gta_F GM9 rfl rfl 0
    refine PW.goto q_137_11 rfl ?_
    refine PW.istore_n q_137_15 (by decide) ?_
    refine PW.aload_n q_137_16 rfl ?_
    refine PW.gR 1 q_137_17 (Or.inl t_ft_137_10) gF_0_0 kd_0 IM9.1 (by decide) rfl ?_
    refine PW.cI q_137_20 (by decide) fun c12 hc12 => ?_
    refine PW.pI q_137_21 (Or.inr t_fN_137_73) gF_1_1 gP_1_1 kd_1 Stab0 IM9 (by decide) rfl (by omega) (by omega) fun M13 IM13 fM13 UM13 => ?_
    have FM13 := Fr.pu FM9 UM13.1 kd_1 (rfl : List.contains [1, 5, 7, 9, 10, 11, 12, 13] 1 = true)
    refine PW.iload_n q_137_24 rfl ?_
    have tz14 := o_i_of fM13
    refine PW.rI q_137_25 rfl (by decide) (by decide) ?_
    exact hK x10 M13 IM13 FM13 (by omega)
theorem c_X11_judge_l (G : pG) (Kr : pK) (M : pM) (I : Iv gTT M) (a1 : Int32) (hK : ∀ (x : Int32) (M1 : pM), Iv gTT M1 → Fr [1, 5, 7, 9, 10, 11, 12, 13] M M1 → (o_i (M1 1) 1 = 0) → Kr.1 (some (.int x)) 311 M1) : PW G false 6 136 (p_mc 136) (p_msl 136) Kr 0 (lv_args 0 [.ref 0, .int a1]) [] 311 M 0 0 := by
  have F : Fr [1, 5, 7, 9, 10, 11, 12, 13] M M := Fr.refl
  refine PW.aload_n q_136_0 rfl ?_
  refine PW.iload_n q_136_1 rfl ?_
  refine PW.cV (as := [_]) (rest := []) q_136_2 t_mv_136_203 kd_0 I.1 (by decide) rfl (by decide) rfl rfl (Nat.le_of_ble_eq_true rfl) (Nat.le_of_ble_eq_true rfl) (by decide) (by decide) ?_
  refine PW.iload_n q_144_0 rfl ?_
  refine PW.jz_lt q_144_1 rfl (fun h1 => ?_) (fun h1 => ?_)
  · skip
    refine PW.cI q_144_22 (by decide) fun c2 hc2 => ?_
    refine PW.rZ q_144_23 rfl (by omega) (by omega) (by decide) (by decide) ?_
    refine PW.jz_eq q_136_5 rfl (fun h3 => ?_) (fun h3 => False.elim (by omega))
    refine PW.cB q_136_16 (by decide) fun c4 hc4 => ?_
    refine PW.istore_n q_136_18 (by decide) ?_
    refine PW.aload_n q_136_19 rfl ?_
    refine PW.gR 1 q_136_20 (Or.inl t_ft_136_10) gF_0_0 kd_0 I.1 (by decide) rfl ?_
    refine PW.cI q_136_23 (by decide) fun c5 hc5 => ?_
    refine PW.pI q_136_24 (Or.inr t_fN_136_73) gF_1_1 gP_1_1 kd_1 Stab0 I (by decide) rfl (by omega) (by omega) fun M6 IM6 fM6 UM6 => ?_
    have FM6 := Fr.pu F UM6.1 kd_1 (rfl : List.contains [1, 5, 7, 9, 10, 11, 12, 13] 1 = true)
    refine PW.iload_n q_136_27 rfl ?_
    have tz7 := o_i_of fM6
    refine PW.rI q_136_28 rfl (by decide) (by decide) ?_
    exact hK c4 M6 IM6 FM6 (by omega)
  · skip
    refine PW.iload_n q_144_4 rfl ?_
    refine PW.aload_n q_144_5 rfl ?_
    refine PW.gR 3 q_144_6 (Or.inl t_ft_144_19) gF_0_1 kd_0 I.1 (by decide) rfl ?_
    refine PW.gR 4 q_144_9 (Or.inr t_fN_144_94) gF_3_0 kd_3 I.1 (by decide) rfl ?_
    refine PW.gI q_144_12 (Or.inr t_fN_144_249) gF_4_7 kd_4 I.1 (by decide) fun x8 fx8 hx8 kx8 => ?_
    refine PW.jc_ge q_144_15 rfl (fun h9 => ?_) (fun h9 => ?_)
    · skip
      refine PW.cI q_144_22 (by decide) fun c10 hc10 => ?_
      refine PW.rZ q_144_23 rfl (by omega) (by omega) (by decide) (by decide) ?_
      refine PW.jz_eq q_136_5 rfl (fun h11 => ?_) (fun h11 => False.elim (by omega))
      refine PW.cB q_136_16 (by decide) fun c12 hc12 => ?_
      refine PW.istore_n q_136_18 (by decide) ?_
      refine PW.aload_n q_136_19 rfl ?_
      refine PW.gR 1 q_136_20 (Or.inl t_ft_136_10) gF_0_0 kd_0 I.1 (by decide) rfl ?_
      refine PW.cI q_136_23 (by decide) fun c13 hc13 => ?_
      refine PW.pI q_136_24 (Or.inr t_fN_136_73) gF_1_1 gP_1_1 kd_1 Stab0 I (by decide) rfl (by omega) (by omega) fun M14 IM14 fM14 UM14 => ?_
      have FM14 := Fr.pu F UM14.1 kd_1 (rfl : List.contains [1, 5, 7, 9, 10, 11, 12, 13] 1 = true)
      refine PW.iload_n q_136_27 rfl ?_
      have tz15 := o_i_of fM14
      refine PW.rI q_136_28 rfl (by decide) (by decide) ?_
      exact hK c12 M14 IM14 FM14 (by omega)
    · skip
      refine PW.cI q_144_18 (by decide) fun c16 hc16 => ?_
      refine PW.goto q_144_19 rfl ?_
      refine PW.rZ q_144_23 rfl (by omega) (by omega) (by decide) (by decide) ?_
      refine PW.jz_eq q_136_5 rfl (fun h17 => False.elim (by omega)) (fun h17 => ?_)
      refine PW.aload_n q_136_8 rfl ?_
      refine PW.iload_n q_136_9 rfl ?_
      refine PW.cV (as := [_]) (rest := []) q_136_10 t_mv_136_338 kd_0 I.1 (by decide) rfl (by decide) rfl rfl (Nat.le_of_ble_eq_true rfl) (Nat.le_of_ble_eq_true rfl) (by decide) (by decide) ?_
      refine PW.up (by decide) (c_X11_firstFalseTurn G _ M I a1 (by omega) (by omega) fun x19 M18 IM18 GM18 => ?_)
      have FM18 := Fr.trans F GM18 (rfl)
      refine PW.goto q_136_13 rfl ?_
      refine PW.istore_n q_136_18 (by decide) ?_
      refine PW.aload_n q_136_19 rfl ?_
      refine PW.gR 1 q_136_20 (Or.inl t_ft_136_10) gF_0_0 kd_0 IM18.1 (by decide) rfl ?_
      refine PW.cI q_136_23 (by decide) fun c20 hc20 => ?_
      refine PW.pI q_136_24 (Or.inr t_fN_136_73) gF_1_1 gP_1_1 kd_1 Stab0 IM18 (by decide) rfl (by omega) (by omega) fun M21 IM21 fM21 UM21 => ?_
      have FM21 := Fr.pu FM18 UM21.1 kd_1 (rfl : List.contains [1, 5, 7, 9, 10, 11, 12, 13] 1 = true)
      refine PW.iload_n q_136_27 rfl ?_
      have tz22 := o_i_of fM21
      refine PW.rI q_136_28 rfl (by decide) (by decide) ?_
      exact hK x19 M21 IM21 FM21 (by omega)
theorem c_X11_log_l (G : pG) (Kr : pK) (M : pM) (I : Iv gTT M) (a1 : Int32) (hK : ∀ (x : Int32) (M1 : pM), Iv gTT M1 → Fr [0, 1, 5, 7, 9, 10, 11, 12, 13, 21, 23, 24, 25] M M1 → ((0 ≤ a1.toInt ∧ a1.toInt ≤ 1 ∧ o_i (M1 1) 1 = 0) ∨ ((a1.toInt < 0 ∨ 1 < a1.toInt) ∧ o_i (M1 1) 1 = o_i (M 1) 1)) → Kr.1 (some (.int x)) 311 M1) : PW G false 7 106 (p_mc 106) (p_msl 106) Kr 0 (lv_args 0 [.ref 0, .int a1]) [] 311 M 0 0 := by
  have F : Fr [0, 1, 5, 7, 9, 10, 11, 12, 13, 21, 23, 24, 25] M M := Fr.refl
  refine PW.iload_n q_106_0 rfl ?_
  refine PW.jz_eq q_106_1 rfl (fun h1 => ?_) (fun h1 => ?_)
  · skip
    refine PW.aload_n q_106_13 rfl ?_
    refine PW.gR 272 q_106_14 (Or.inl t_ft_106_55) gF_0_7 kd_0 I.1 (by decide) rfl ?_
    refine PW.aload_n q_106_17 rfl ?_
    refine PW.gR 1 q_106_18 (Or.inl t_ft_106_10) gF_0_0 kd_0 I.1 (by decide) rfl ?_
    refine PW.aload_n q_106_21 rfl ?_
    refine PW.gR 3 q_106_22 (Or.inl t_ft_106_19) gF_0_1 kd_0 I.1 (by decide) rfl ?_
    refine PW.gR 4 q_106_25 (Or.inr t_fN_106_94) gF_3_0 kd_3 I.1 (by decide) rfl ?_
    refine PW.cV (as := [_, _]) (rest := []) q_106_28 t_mv_106_139 kd_272 I.1 (by decide) rfl (by decide) rfl rfl (Nat.le_of_ble_eq_true rfl) (Nat.le_of_ble_eq_true rfl) (by decide) (by decide) ?_
    refine PW.up (by decide) (c_X6_read G _ M I 4 kd_4 fun x3 M2 IM2 GM2 hx3 kx3 => ?_)
    have FM2 := Fr.trans F GM2 (rfl)
    refine PW.istore_n q_106_31 (by decide) ?_
    refine PW.aload_n q_106_32 rfl ?_
    refine PW.gR 1 q_106_33 (Or.inl t_ft_106_10) gF_0_0 kd_0 IM2.1 (by decide) rfl ?_
    refine PW.cI q_106_36 (by decide) fun c4 hc4 => ?_
    refine PW.pI q_106_37 (Or.inr t_fN_106_73) gF_1_1 gP_1_1 kd_1 (Stab6 G) IM2 (by decide) rfl (by omega) (by omega) fun M5 IM5 fM5 UM5 => ?_
    have FM5 := Fr.pu FM2 UM5.1 kd_1 (rfl : List.contains [0, 1, 5, 7, 9, 10, 11, 12, 13, 21, 23, 24, 25] 1 = true)
    refine PW.aload_n q_106_40 rfl ?_
    refine PW.aload_n q_106_41 rfl ?_
    refine PW.gR 1 q_106_42 (Or.inl t_ft_106_10) gF_0_0 kd_0 IM5.1 (by decide) rfl ?_
    refine PW.gI q_106_45 (Or.inr t_fN_106_85) gF_1_10 kd_1 IM5.1 (by decide) fun x6 fx6 hx6 kx6 => ?_
    clear hx6 kx6
    refine PW.pI q_106_48 (Or.inl t_ft_106_88) gF_0_10 gP_0_10 kd_0 (Stab6 G) IM5 (by decide) rfl (n_lo _) (n_hi _) fun M7 IM7 fM7 UM7 => ?_
    have FM7 := Fr.pu FM5 UM7.1 kd_0 (rfl : List.contains [0, 1, 5, 7, 9, 10, 11, 12, 13, 21, 23, 24, 25] 0 = true)
    refine PW.iload_n q_106_51 rfl ?_
    refine PW.jz_ne q_106_52 rfl (fun h8 => ?_) (fun h8 => ?_)
    · skip
      refine PW.aload_n q_106_66 rfl ?_
      refine PW.gR 272 q_106_67 (Or.inl t_ft_106_55) gF_0_7 kd_0 IM7.1 (by decide) rfl ?_
      refine PW.aload_n q_106_70 rfl ?_
      refine PW.gR 3 q_106_71 (Or.inl t_ft_106_19) gF_0_1 kd_0 IM7.1 (by decide) rfl ?_
      refine PW.gR 4 q_106_74 (Or.inr t_fN_106_94) gF_3_0 kd_3 IM7.1 (by decide) rfl ?_
      refine PW.aload_n q_106_77 rfl ?_
      refine PW.cV (as := []) (rest := [_, _]) q_106_78 t_mv_106_140 kd_0 IM7.1 (by decide) rfl (by decide) rfl rfl (Nat.le_of_ble_eq_true rfl) (Nat.le_of_ble_eq_true rfl) (by decide) (by decide) ?_
      refine PW.up (by decide) (c_X11_foreseen G _ M7 ⟨IM7.1, IM7.2.1⟩  fun M9 IM9 GM9 => ?_)
      have FM9 := Fr.trans FM7 GM9 (rfl)
      have LM9 : Iv (gT6 G) M9 := ⟨IM9.1, IM9.2, gS6.same IM7.2.2 (Fr.at GM9 kd_272 rfl) (Fr.at GM9 kd_273 rfl) (Fr.at GM9 kd_274 rfl)⟩
      refine PW.cV (as := [_, _]) (rest := []) q_106_81 t_mv_106_144 kd_272 LM9.1 (by decide) rfl (by decide) rfl rfl (Nat.le_of_ble_eq_true rfl) (Nat.le_of_ble_eq_true rfl) (by decide) (by decide) ?_
      refine PW.up (by decide) (c_X6_play G _ M9 LM9 4 kd_4 275 kd_275 fun x11 M10 IM10 GM10 => ?_)
      have FM10 := Fr.trans FM9 GM10 (rfl)
      refine PW.istore_n q_106_84 (by decide) ?_
      refine PW.iload_n q_106_85 rfl ?_
      refine PW.cI q_106_86 (by decide) fun c12 hc12 => ?_
      refine PW.jc_ne q_106_87 rfl (fun h13 => ?_) (fun h13 => False.elim (by omega))
      refine PW.iload_n q_106_118 rfl ?_
      have tz14 := o_i_of ((congrArg (fun e => o_f e 1) (Fr.at GM10 kd_1 (by decide))).trans ((congrArg (fun e => o_f e 1) (Fr.at GM9 kd_1 (by decide))).trans ((UM7.f (Or.inl (g_ne kd_1 kd_0 (by decide)))).trans fM5)))
      refine PW.rI q_106_119 rfl (by decide) (by decide) ?_
      exact hK x11 M10 ⟨IM10.1, IM10.2.1⟩ FM10 (by omega)
    · skip
      refine PW.cB q_106_55 (by decide) fun c15 hc15 => ?_
      refine PW.aload_n q_106_57 rfl ?_
      refine PW.gR 1 q_106_58 (Or.inl t_ft_106_10) gF_0_0 kd_0 IM7.1 (by decide) rfl ?_
      refine PW.gI q_106_61 (Or.inr t_fN_106_91) gF_1_11 kd_1 IM7.1 (by decide) fun x16 fx16 hx16 kx16 => ?_
      clear hx16 kx16
      refine PW.subH q_106_64 fun x17 => ?_
      have tz18 := o_i_of ((UM7.f (Or.inl (g_ne kd_1 kd_0 (by decide)))).trans fM5)
      refine PW.rI q_106_65 rfl (by decide) (by decide) ?_
      exact hK x17 M7 ⟨IM7.1, IM7.2.1⟩ FM7 (by omega)
  · skip
    refine PW.iload_n q_106_4 rfl ?_
    refine PW.cI q_106_5 (by decide) fun c19 hc19 => ?_
    refine PW.jc_eq q_106_6 rfl (fun h20 => ?_) (fun h20 => ?_)
    · skip
      refine PW.aload_n q_106_13 rfl ?_
      refine PW.gR 272 q_106_14 (Or.inl t_ft_106_55) gF_0_7 kd_0 I.1 (by decide) rfl ?_
      refine PW.aload_n q_106_17 rfl ?_
      refine PW.gR 1 q_106_18 (Or.inl t_ft_106_10) gF_0_0 kd_0 I.1 (by decide) rfl ?_
      refine PW.aload_n q_106_21 rfl ?_
      refine PW.gR 3 q_106_22 (Or.inl t_ft_106_19) gF_0_1 kd_0 I.1 (by decide) rfl ?_
      refine PW.gR 4 q_106_25 (Or.inr t_fN_106_94) gF_3_0 kd_3 I.1 (by decide) rfl ?_
      refine PW.cV (as := [_, _]) (rest := []) q_106_28 t_mv_106_139 kd_272 I.1 (by decide) rfl (by decide) rfl rfl (Nat.le_of_ble_eq_true rfl) (Nat.le_of_ble_eq_true rfl) (by decide) (by decide) ?_
      refine PW.up (by decide) (c_X6_read G _ M I 4 kd_4 fun x22 M21 IM21 GM21 hx22 kx22 => ?_)
      have FM21 := Fr.trans F GM21 (rfl)
      refine PW.istore_n q_106_31 (by decide) ?_
      refine PW.aload_n q_106_32 rfl ?_
      refine PW.gR 1 q_106_33 (Or.inl t_ft_106_10) gF_0_0 kd_0 IM21.1 (by decide) rfl ?_
      refine PW.cI q_106_36 (by decide) fun c23 hc23 => ?_
      refine PW.pI q_106_37 (Or.inr t_fN_106_73) gF_1_1 gP_1_1 kd_1 (Stab6 G) IM21 (by decide) rfl (by omega) (by omega) fun M24 IM24 fM24 UM24 => ?_
      have FM24 := Fr.pu FM21 UM24.1 kd_1 (rfl : List.contains [0, 1, 5, 7, 9, 10, 11, 12, 13, 21, 23, 24, 25] 1 = true)
      refine PW.aload_n q_106_40 rfl ?_
      refine PW.aload_n q_106_41 rfl ?_
      refine PW.gR 1 q_106_42 (Or.inl t_ft_106_10) gF_0_0 kd_0 IM24.1 (by decide) rfl ?_
      refine PW.gI q_106_45 (Or.inr t_fN_106_85) gF_1_10 kd_1 IM24.1 (by decide) fun x25 fx25 hx25 kx25 => ?_
      clear hx25 kx25
      refine PW.pI q_106_48 (Or.inl t_ft_106_88) gF_0_10 gP_0_10 kd_0 (Stab6 G) IM24 (by decide) rfl (n_lo _) (n_hi _) fun M26 IM26 fM26 UM26 => ?_
      have FM26 := Fr.pu FM24 UM26.1 kd_0 (rfl : List.contains [0, 1, 5, 7, 9, 10, 11, 12, 13, 21, 23, 24, 25] 0 = true)
      refine PW.iload_n q_106_51 rfl ?_
      refine PW.jz_ne q_106_52 rfl (fun h27 => ?_) (fun h27 => ?_)
      · skip
        refine PW.aload_n q_106_66 rfl ?_
        refine PW.gR 272 q_106_67 (Or.inl t_ft_106_55) gF_0_7 kd_0 IM26.1 (by decide) rfl ?_
        refine PW.aload_n q_106_70 rfl ?_
        refine PW.gR 3 q_106_71 (Or.inl t_ft_106_19) gF_0_1 kd_0 IM26.1 (by decide) rfl ?_
        refine PW.gR 4 q_106_74 (Or.inr t_fN_106_94) gF_3_0 kd_3 IM26.1 (by decide) rfl ?_
        refine PW.aload_n q_106_77 rfl ?_
        refine PW.cV (as := []) (rest := [_, _]) q_106_78 t_mv_106_140 kd_0 IM26.1 (by decide) rfl (by decide) rfl rfl (Nat.le_of_ble_eq_true rfl) (Nat.le_of_ble_eq_true rfl) (by decide) (by decide) ?_
        refine PW.up (by decide) (c_X11_foreseen G _ M26 ⟨IM26.1, IM26.2.1⟩  fun M28 IM28 GM28 => ?_)
        have FM28 := Fr.trans FM26 GM28 (rfl)
        have LM28 : Iv (gT6 G) M28 := ⟨IM28.1, IM28.2, gS6.same IM26.2.2 (Fr.at GM28 kd_272 rfl) (Fr.at GM28 kd_273 rfl) (Fr.at GM28 kd_274 rfl)⟩
        refine PW.cV (as := [_, _]) (rest := []) q_106_81 t_mv_106_144 kd_272 LM28.1 (by decide) rfl (by decide) rfl rfl (Nat.le_of_ble_eq_true rfl) (Nat.le_of_ble_eq_true rfl) (by decide) (by decide) ?_
        refine PW.up (by decide) (c_X6_play G _ M28 LM28 4 kd_4 275 kd_275 fun x30 M29 IM29 GM29 => ?_)
        have FM29 := Fr.trans FM28 GM29 (rfl)
        refine PW.istore_n q_106_84 (by decide) ?_
        refine PW.iload_n q_106_85 rfl ?_
        refine PW.cI q_106_86 (by decide) fun c31 hc31 => ?_
        refine PW.jc_ne q_106_87 rfl (fun h32 => False.elim (by omega)) (fun h32 => ?_)
        refine PW.aload_n q_106_90 rfl ?_
        refine PW.gR 110 q_106_91 (Or.inl t_ft_106_34) gF_0_4 kd_0 IM29.1 (by decide) rfl ?_
        refine PW.aload_n q_106_94 rfl ?_
        refine PW.gR 3 q_106_95 (Or.inl t_ft_106_19) gF_0_1 kd_0 IM29.1 (by decide) rfl ?_
        refine PW.gR 15 q_106_98 (Or.inr t_fN_106_101) gF_3_1 kd_3 IM29.1 (by decide) rfl ?_
        refine PW.cV (as := [_]) (rest := []) q_106_101 t_mv_106_147 kd_110 IM29.1 (by decide) rfl (by decide) rfl rfl (Nat.le_of_ble_eq_true rfl) (Nat.le_of_ble_eq_true rfl) (by decide) (by decide) ?_
        refine PW.up (by decide) (c_X1_keep G _ M29 ⟨IM29.1, IM29.2.1⟩ 15 kd_15 fun M33 IM33 GM33 => ?_)
        have FM33 := Fr.trans FM29 GM33 (rfl)
        have LM33 : Iv (gT6 G) M33 := ⟨IM33.1, IM33.2, gS6.same IM29.2.2 (Fr.at GM33 kd_272 rfl) (Fr.at GM33 kd_273 rfl) (Fr.at GM33 kd_274 rfl)⟩
        refine PW.aload_n q_106_104 rfl ?_
        refine PW.gR 3 q_106_105 (Or.inl t_ft_106_19) gF_0_1 kd_0 LM33.1 (by decide) rfl ?_
        refine PW.gR 15 q_106_108 (Or.inr t_fN_106_101) gF_3_1 kd_3 LM33.1 (by decide) rfl ?_
        refine PW.aload_n q_106_111 rfl ?_
        refine PW.gR 275 q_106_112 (Or.inl t_ft_106_62) gF_0_8 kd_0 LM33.1 (by decide) rfl ?_
        refine PW.cV (as := [_]) (rest := []) q_106_115 t_mv_106_151 kd_15 LM33.1 (by decide) rfl (by decide) rfl rfl (Nat.le_of_ble_eq_true rfl) (Nat.le_of_ble_eq_true rfl) (by decide) (by decide) ?_
        refine PW.up (by decide) (c_X5_copyFrom G _ M33 ⟨LM33.1, LM33.2.1⟩ 15 kd_15 275 kd_275 fun M34 IM34 GM34 => ?_)
        have FM34 := Fr.trans FM33 GM34 (rfl)
        have LM34 : Iv (gT6 G) M34 := ⟨IM34.1, IM34.2, gS6.same LM33.2.2 (Fr.at GM34 kd_272 rfl) (Fr.at GM34 kd_273 rfl) (Fr.at GM34 kd_274 rfl)⟩
        refine PW.iload_n q_106_118 rfl ?_
        have tz35 := o_i_of ((congrArg (fun e => o_f e 1) (Fr.at GM34 kd_1 (by decide))).trans ((congrArg (fun e => o_f e 1) (Fr.at GM33 kd_1 (by decide))).trans ((congrArg (fun e => o_f e 1) (Fr.at GM29 kd_1 (by decide))).trans ((congrArg (fun e => o_f e 1) (Fr.at GM28 kd_1 (by decide))).trans ((UM26.f (Or.inl (g_ne kd_1 kd_0 (by decide)))).trans fM24)))))
        refine PW.rI q_106_119 rfl (by decide) (by decide) ?_
        exact hK x30 M34 ⟨LM34.1, LM34.2.1⟩ FM34 (by omega)
      · skip
        refine PW.cB q_106_55 (by decide) fun c36 hc36 => ?_
        refine PW.aload_n q_106_57 rfl ?_
        refine PW.gR 1 q_106_58 (Or.inl t_ft_106_10) gF_0_0 kd_0 IM26.1 (by decide) rfl ?_
        refine PW.gI q_106_61 (Or.inr t_fN_106_91) gF_1_11 kd_1 IM26.1 (by decide) fun x37 fx37 hx37 kx37 => ?_
        clear hx37 kx37
        refine PW.subH q_106_64 fun x38 => ?_
        have tz39 := o_i_of ((UM26.f (Or.inl (g_ne kd_1 kd_0 (by decide)))).trans fM24)
        refine PW.rI q_106_65 rfl (by decide) (by decide) ?_
        exact hK x38 M26 ⟨IM26.1, IM26.2.1⟩ FM26 (by omega)
    · skip
      refine PW.cS q_106_9 (by decide) fun c40 hc40 => ?_
      refine PW.rI q_106_12 rfl (by decide) (by decide) ?_
      exact hK c40 M I F (by omega)
