theorem q_16_0 : p_tb 16 0 = some (.aload_n 0, 1) := by decide +kernel
theorem q_16_1 : p_tb 16 1 = some (.lload_n 1, 1) := by decide +kernel
theorem q_16_2 : p_tb 16 2 = some (.putfield 7, 3) := by decide +kernel
theorem q_16_5 : p_tb 16 5 = some (.aload_n 0, 1) := by decide +kernel
theorem q_16_6 : p_tb 16 6 = some (.lconst 1, 1) := by decide +kernel
theorem q_16_7 : p_tb 16 7 = some (.putfield 13, 3) := by decide +kernel
theorem q_16_10 : p_tb 16 10 = some (.return_, 1) := by decide +kernel
theorem t_ft_16_13 : p_f2 p_ft (p_mK 16) 13 = some (2, 1) := by decide +kernel
theorem t_ft_16_7 : p_f2 p_ft (p_mK 16) 7 = some (2, 0) := by decide +kernel
theorem q_18_0 : p_tb 18 0 = some (.iconst 0, 1) := by decide +kernel
theorem q_18_1 : p_tb 18 1 = some (.istore 4, 2) := by decide +kernel
theorem q_18_3 : p_tb 18 3 = some (.iload 4, 2) := by decide +kernel
theorem q_18_5 : p_tb 18 5 = some (.bipush 100, 2) := by decide +kernel
theorem q_18_7 : p_tb 18 7 = some (.if_icmp .ge 25, 3) := by decide +kernel
theorem q_18_10 : p_tb 18 10 = some (.lload_n 2, 1) := by decide +kernel
theorem q_18_11 : p_tb 18 11 = some (.lconst 0, 1) := by decide +kernel
theorem q_18_12 : p_tb 18 12 = some (.lcmp, 1) := by decide +kernel
theorem q_18_13 : p_tb 18 13 = some (.ifCond .eq 19, 3) := by decide +kernel
theorem q_18_16 : p_tb 18 16 = some (.lload_n 0, 1) := by decide +kernel
theorem q_18_17 : p_tb 18 17 = some (.lload_n 2, 1) := by decide +kernel
theorem q_18_18 : p_tb 18 18 = some (.lrem, 1) := by decide +kernel
theorem q_18_19 : p_tb 18 19 = some (.lstore 5, 2) := by decide +kernel
theorem q_18_21 : p_tb 18 21 = some (.lload_n 2, 1) := by decide +kernel
theorem q_18_22 : p_tb 18 22 = some (.lstore_n 0, 1) := by decide +kernel
theorem q_18_23 : p_tb 18 23 = some (.lload 5, 2) := by decide +kernel
theorem q_18_25 : p_tb 18 25 = some (.lstore_n 2, 1) := by decide +kernel
theorem q_18_26 : p_tb 18 26 = some (.iinc 4 1, 3) := by decide +kernel
theorem q_18_29 : p_tb 18 29 = some (.goto (-26), 3) := by decide +kernel
theorem q_18_32 : p_tb 18 32 = some (.lload_n 0, 1) := by decide +kernel
theorem q_18_33 : p_tb 18 33 = some (.lreturn, 1) := by decide +kernel
theorem q_17_0 : p_tb 17 0 = some (.aload_n 0, 1) := by decide +kernel
theorem q_17_1 : p_tb 17 1 = some (.dup, 1) := by decide +kernel
theorem q_17_2 : p_tb 17 2 = some (.getfield 7, 3) := by decide +kernel
theorem q_17_5 : p_tb 17 5 = some (.lload_n 1, 1) := by decide +kernel
theorem q_17_6 : p_tb 17 6 = some (.lmul, 1) := by decide +kernel
theorem q_17_7 : p_tb 17 7 = some (.putfield 7, 3) := by decide +kernel
theorem q_17_10 : p_tb 17 10 = some (.aload_n 0, 1) := by decide +kernel
theorem q_17_11 : p_tb 17 11 = some (.dup, 1) := by decide +kernel
theorem q_17_12 : p_tb 17 12 = some (.getfield 13, 3) := by decide +kernel
theorem q_17_15 : p_tb 17 15 = some (.lload_n 3, 1) := by decide +kernel
theorem q_17_16 : p_tb 17 16 = some (.lmul, 1) := by decide +kernel
theorem q_17_17 : p_tb 17 17 = some (.putfield 13, 3) := by decide +kernel
theorem q_17_20 : p_tb 17 20 = some (.aload_n 0, 1) := by decide +kernel
theorem q_17_21 : p_tb 17 21 = some (.getfield 7, 3) := by decide +kernel
theorem q_17_24 : p_tb 17 24 = some (.aload_n 0, 1) := by decide +kernel
theorem q_17_25 : p_tb 17 25 = some (.getfield 13, 3) := by decide +kernel
theorem q_17_28 : p_tb 17 28 = some (.invokestatic 16, 3) := by decide +kernel
theorem q_17_31 : p_tb 17 31 = some (.lstore 5, 2) := by decide +kernel
theorem q_17_33 : p_tb 17 33 = some (.lload 5, 2) := by decide +kernel
theorem q_17_35 : p_tb 17 35 = some (.lconst 1, 1) := by decide +kernel
theorem q_17_36 : p_tb 17 36 = some (.lcmp, 1) := by decide +kernel
theorem q_17_37 : p_tb 17 37 = some (.ifCond .le 25, 3) := by decide +kernel
theorem q_17_40 : p_tb 17 40 = some (.aload_n 0, 1) := by decide +kernel
theorem q_17_41 : p_tb 17 41 = some (.dup, 1) := by decide +kernel
theorem q_17_42 : p_tb 17 42 = some (.getfield 7, 3) := by decide +kernel
theorem q_17_45 : p_tb 17 45 = some (.lload 5, 2) := by decide +kernel
theorem q_17_47 : p_tb 17 47 = some (.ldiv, 1) := by decide +kernel
theorem q_17_48 : p_tb 17 48 = some (.putfield 7, 3) := by decide +kernel
theorem q_17_51 : p_tb 17 51 = some (.aload_n 0, 1) := by decide +kernel
theorem q_17_52 : p_tb 17 52 = some (.dup, 1) := by decide +kernel
theorem q_17_53 : p_tb 17 53 = some (.getfield 13, 3) := by decide +kernel
theorem q_17_56 : p_tb 17 56 = some (.lload 5, 2) := by decide +kernel
theorem q_17_58 : p_tb 17 58 = some (.ldiv, 1) := by decide +kernel
theorem q_17_59 : p_tb 17 59 = some (.putfield 13, 3) := by decide +kernel
theorem q_17_62 : p_tb 17 62 = some (.return_, 1) := by decide +kernel
theorem t_ft_17_13 : p_f2 p_ft (p_mK 17) 13 = some (2, 1) := by decide +kernel
theorem t_ft_17_7 : p_f2 p_ft (p_mK 17) 7 = some (2, 0) := by decide +kernel
theorem t_ms_17_16 : p_f2 p_ms (p_mK 17) 16 = some 18 := by decide +kernel
theorem c_X2_begin (V : pM → Prop) (hV : Stab V) (G : pG) (Kr : pK) (M : pM) (I : Iv V M) (a1 : Int64) (hK : ∀ (M1 : pM), Iv V M1 → Fr [26] M M1 → Kr.1 none 311 M1) : PW G false 0 16 (p_mc 16) (p_msl 16) Kr 0 (lv_args 0 [.ref 293, .long a1]) [] 311 M 0 0 := by
  have F : Fr [26] M M := Fr.refl
  refine PW.aload_n q_16_0 rfl ?_
  refine PW.lload_n q_16_1 rfl ?_
  refine PW.pL q_16_2 (Or.inl t_ft_16_7) gF_26_0 gP_26_0 kd_293 hV I (by decide) rfl fun M1 IM1 fM1 UM1 => ?_
  have FM1 := Fr.pu F UM1.1 kd_293 (rfl : List.contains [26] 26 = true)
  refine PW.aload_n q_16_5 rfl ?_
  refine PW.lconst q_16_6 ?_
  refine PW.pL q_16_7 (Or.inl t_ft_16_13) gF_26_1 gP_26_1 kd_293 hV IM1 (by decide) rfl fun M2 IM2 fM2 UM2 => ?_
  have FM2 := Fr.pu FM1 UM2.1 kd_293 (rfl : List.contains [26] 26 = true)
  refine PW.vret q_16_10 rfl (by decide) (by decide) ?_
  exact hK M2 IM2 FM2
theorem c_X2_commonDivisor (V : pM → Prop) (hV : Stab V) (G : pG) (Kr : pK) (M : pM) (I : Iv V M) (a0 : Int64) (a1 : Int64) (hK : ∀ (x : Int64) (M1 : pM), Iv V M1 → Fr [] M M1 → Kr.1 (some (.long x)) 311 M1) : PW G false 0 18 (p_mc 18) (p_msl 18) Kr 0 (lv_args 0 [.long a0, .long a1]) [] 311 M 0 0 := by
  have F : Fr [] M M := Fr.refl
  refine PW.cI q_18_0 (by decide) fun c1 hc1 => ?_
  refine PW.istore q_18_1 (by decide) ?_
  have L18_3_2 : ∀ (n : Nat) (ML18_3_2 : pM) (v3 : Int32) (l4 l5 : Int64), Iv (V) ML18_3_2 → Fr [] M ML18_3_2 → 0 ≤ v3.toInt → v3.toInt ≤ 100 → (100 - v3.toInt).toNat = n → PW G false 0 18 (p_mc 18) (p_msl 18) Kr 3 [(0, .long l4), (2, .long l5), (4, .int v3)] [] 311 ML18_3_2 0 0 := by
    intro n
    induction n using Nat.strongRecOn with
    | ind n ih_L18_3_2 =>
    intro ML18_3_2 v3 l4 l5 IML18_3_2 FML18_3_2 hbL18_3_20 hbL18_3_21 hmL18_3_2
    refine PW.iload q_18_3 rfl ?_
    refine PW.cB q_18_5 (by decide) fun c6 hc6 => ?_
    refine PW.jc_ge q_18_7 rfl (fun h7 => ?_) (fun h7 => ?_)
    · skip
      refine PW.lload_n q_18_32 rfl ?_
      refine PW.lret q_18_33 rfl (by decide) (by decide) ?_
      exact hK _ ML18_3_2 IML18_3_2 FML18_3_2
    · skip
      refine PW.lload_n q_18_10 rfl ?_
      refine PW.lconst q_18_11 ?_
      refine PW.lcmpN q_18_12 fun x8 lax8 lbx8 => ?_
      refine PW.jz_eq q_18_13 rfl (fun h9 => ?_) (fun h9 => ?_)
      · skip
        refine PW.lload_n q_18_32 rfl ?_
        refine PW.lret q_18_33 rfl (by decide) (by decide) ?_
        exact hK _ ML18_3_2 IML18_3_2 FML18_3_2
      · skip
        refine PW.lload_n q_18_16 rfl ?_
        refine PW.lload_n q_18_17 rfl ?_
        refine PW.lrem q_18_18 (fun e => lax8 h9 (e.trans (by decide))) ?_
        refine PW.lstore q_18_19 (by decide) ?_
        refine PW.lload_n q_18_21 rfl ?_
        refine PW.lstore_n q_18_22 (by decide) ?_
        refine PW.lload q_18_23 rfl ?_
        refine PW.lstore_n q_18_25 (by decide) ?_
        refine PW.incN q_18_26 rfl (by decide) (by decide) (by omega) (by omega) fun x10 hx10 => ?_
        refine PW.goto q_18_29 rfl ?_
        refine PW.lvS (lk1 rfl (lk1 rfl (lk1 rfl lk0))) (ih_L18_3_2 _ ?_ ML18_3_2 x10 _ _ IML18_3_2 FML18_3_2 (by omega) (by omega) rfl)
        omega
  exact PW.lvS (lk1 rfl (lk1 rfl (lk1 rfl lk0))) (L18_3_2 _ M c1 _ _ I F (by omega) (by omega) rfl)
theorem c_X2_times (V : pM → Prop) (hV : Stab V) (G : pG) (Kr : pK) (M : pM) (I : Iv V M) (a1 : Int64) (a2 : Int64) (hK : ∀ (M1 : pM), Iv V M1 → Fr [26] M M1 → Kr.1 none 311 M1) : PW G false 1 17 (p_mc 17) (p_msl 17) Kr 0 (lv_args 0 [.ref 293, .long a1, .long a2]) [] 311 M 0 0 := by
  have F : Fr [26] M M := Fr.refl
  refine PW.aload_n q_17_0 rfl ?_
  refine PW.dup q_17_1 rfl ?_
  refine PW.gL q_17_2 (Or.inl t_ft_17_7) gF_26_0 kd_293 I.1 (by decide) fun l1 fl1 => ?_
  refine PW.lload_n q_17_5 rfl ?_
  refine PW.lmul q_17_6 ?_
  refine PW.pL q_17_7 (Or.inl t_ft_17_7) gF_26_0 gP_26_0 kd_293 hV I (by decide) rfl fun M2 IM2 fM2 UM2 => ?_
  have FM2 := Fr.pu F UM2.1 kd_293 (rfl : List.contains [26] 26 = true)
  refine PW.aload_n q_17_10 rfl ?_
  refine PW.dup q_17_11 rfl ?_
  refine PW.gL q_17_12 (Or.inl t_ft_17_13) gF_26_1 kd_293 IM2.1 (by decide) fun l3 fl3 => ?_
  refine PW.lload_n q_17_15 rfl ?_
  refine PW.lmul q_17_16 ?_
  refine PW.pL q_17_17 (Or.inl t_ft_17_13) gF_26_1 gP_26_1 kd_293 hV IM2 (by decide) rfl fun M4 IM4 fM4 UM4 => ?_
  have FM4 := Fr.pu FM2 UM4.1 kd_293 (rfl : List.contains [26] 26 = true)
  refine PW.aload_n q_17_20 rfl ?_
  refine PW.gL q_17_21 (Or.inl t_ft_17_7) gF_26_0 kd_293 IM4.1 (by decide) fun l5 fl5 => ?_
  refine PW.aload_n q_17_24 rfl ?_
  refine PW.gL q_17_25 (Or.inl t_ft_17_13) gF_26_1 kd_293 IM4.1 (by decide) fun l6 fl6 => ?_
  refine PW.callS (as := [_, _]) (rest := []) q_17_28 t_ms_17_16 (by decide) rfl (Nat.le_of_ble_eq_true rfl) (Nat.le_of_ble_eq_true rfl) (by decide) (by decide) ?_
  refine PW.up (by decide) (c_X2_commonDivisor (V) (hV) G _ M4 IM4 _ _ fun l8 M7 IM7 GM7 => ?_)
  have FM7 := Fr.trans FM4 GM7 (rfl)
  refine PW.lstore q_17_31 (by decide) ?_
  refine PW.lload q_17_33 rfl ?_
  refine PW.lconst q_17_35 ?_
  refine PW.lcmpN q_17_36 fun x9 lax9 lbx9 => ?_
  refine PW.jz_le q_17_37 rfl (fun h10 => ?_) (fun h10 => ?_)
  · skip
    refine PW.vret q_17_62 rfl (by decide) (by decide) ?_
    exact hK M7 IM7 FM7
  · skip
    refine PW.aload_n q_17_40 rfl ?_
    refine PW.dup q_17_41 rfl ?_
    refine PW.gL q_17_42 (Or.inl t_ft_17_7) gF_26_0 kd_293 IM7.1 (by decide) fun l11 fl11 => ?_
    refine PW.lload q_17_45 rfl ?_
    refine PW.ldiv q_17_47 (fun e => by have w := lbx9 h10; rw [e] at w; exact absurd w (by decide)) ?_
    refine PW.pL q_17_48 (Or.inl t_ft_17_7) gF_26_0 gP_26_0 kd_293 hV IM7 (by decide) rfl fun M12 IM12 fM12 UM12 => ?_
    have FM12 := Fr.pu FM7 UM12.1 kd_293 (rfl : List.contains [26] 26 = true)
    refine PW.aload_n q_17_51 rfl ?_
    refine PW.dup q_17_52 rfl ?_
    refine PW.gL q_17_53 (Or.inl t_ft_17_13) gF_26_1 kd_293 IM12.1 (by decide) fun l13 fl13 => ?_
    refine PW.lload q_17_56 rfl ?_
    refine PW.ldiv q_17_58 (fun e => by have w := lbx9 h10; rw [e] at w; exact absurd w (by decide)) ?_
    refine PW.pL q_17_59 (Or.inl t_ft_17_13) gF_26_1 gP_26_1 kd_293 hV IM12 (by decide) rfl fun M14 IM14 fM14 UM14 => ?_
    have FM14 := Fr.pu FM12 UM14.1 kd_293 (rfl : List.contains [26] 26 = true)
    refine PW.vret q_17_62 rfl (by decide) (by decide) ?_
    exact hK M14 IM14 FM14
