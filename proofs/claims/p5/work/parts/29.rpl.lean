theorem q_186_0 : p_tb 186 0 = some (.aload_n 0, 1) := by decide +kernel
theorem q_186_1 : p_tb 186 1 = some (.invokevirtual 187, 3) := by decide +kernel
theorem q_186_4 : p_tb 186 4 = some (.ifCond .ne 9, 3) := by decide +kernel
theorem q_186_7 : p_tb 186 7 = some (.aload_n 0, 1) := by decide +kernel
theorem q_186_8 : p_tb 186 8 = some (.iconst 1, 1) := by decide +kernel
theorem q_186_9 : p_tb 186 9 = some (.invokevirtual 170, 3) := by decide +kernel
theorem q_186_12 : p_tb 186 12 = some (.ireturn, 1) := by decide +kernel
theorem q_186_13 : p_tb 186 13 = some (.aload_n 0, 1) := by decide +kernel
theorem q_186_14 : p_tb 186 14 = some (.bipush 8, 2) := by decide +kernel
theorem q_186_16 : p_tb 186 16 = some (.aload_n 0, 1) := by decide +kernel
theorem q_186_17 : p_tb 186 17 = some (.getfield 37, 3) := by decide +kernel
theorem q_186_20 : p_tb 186 20 = some (.iconst 0, 1) := by decide +kernel
theorem q_186_21 : p_tb 186 21 = some (.iaload, 1) := by decide +kernel
theorem q_186_22 : p_tb 186 22 = some (.invokevirtual 191, 3) := by decide +kernel
theorem q_186_25 : p_tb 186 25 = some (.ifCond .ge 18, 3) := by decide +kernel
theorem q_186_28 : p_tb 186 28 = some (.aload_n 0, 1) := by decide +kernel
theorem q_186_29 : p_tb 186 29 = some (.bipush 14, 2) := by decide +kernel
theorem q_186_31 : p_tb 186 31 = some (.aload_n 0, 1) := by decide +kernel
theorem q_186_32 : p_tb 186 32 = some (.getfield 37, 3) := by decide +kernel
theorem q_186_35 : p_tb 186 35 = some (.iconst 1, 1) := by decide +kernel
theorem q_186_36 : p_tb 186 36 = some (.iaload, 1) := by decide +kernel
theorem q_186_37 : p_tb 186 37 = some (.invokevirtual 191, 3) := by decide +kernel
theorem q_186_40 : p_tb 186 40 = some (.ifCond .lt 9, 3) := by decide +kernel
theorem q_186_43 : p_tb 186 43 = some (.aload_n 0, 1) := by decide +kernel
theorem q_186_44 : p_tb 186 44 = some (.iconst 3, 1) := by decide +kernel
theorem q_186_45 : p_tb 186 45 = some (.invokevirtual 170, 3) := by decide +kernel
theorem q_186_48 : p_tb 186 48 = some (.ireturn, 1) := by decide +kernel
theorem q_186_49 : p_tb 186 49 = some (.aload_n 0, 1) := by decide +kernel
theorem q_186_50 : p_tb 186 50 = some (.getfield 43, 3) := by decide +kernel
theorem q_186_53 : p_tb 186 53 = some (.iload_n 1, 1) := by decide +kernel
theorem q_186_54 : p_tb 186 54 = some (.aload_n 0, 1) := by decide +kernel
theorem q_186_55 : p_tb 186 55 = some (.getfield 157, 3) := by decide +kernel
theorem q_186_58 : p_tb 186 58 = some (.lastore, 1) := by decide +kernel
theorem q_186_59 : p_tb 186 59 = some (.aload_n 0, 1) := by decide +kernel
theorem q_186_60 : p_tb 186 60 = some (.invokevirtual 173, 3) := by decide +kernel
theorem q_186_63 : p_tb 186 63 = some (.iconst 1, 1) := by decide +kernel
theorem q_186_64 : p_tb 186 64 = some (.ireturn, 1) := by decide +kernel
theorem t_ft_186_157 : p_f2 p_ft (p_mK 186) 157 = some (11, 17) := by decide +kernel
theorem t_ft_186_37 : p_f2 p_ft (p_mK 186) 37 = some (11, 7) := by decide +kernel
theorem t_ft_186_43 : p_f2 p_ft (p_mK 186) 43 = some (11, 9) := by decide +kernel
theorem t_mv_186_170 : p_f2 p_mv (p_mK 186) 170 = some 178 := by decide +kernel
theorem t_mv_186_173 : p_f2 p_mv (p_mK 186) 173 = some 177 := by decide +kernel
theorem t_mv_186_187 : p_f2 p_mv (p_mK 186) 187 = some 182 := by decide +kernel
theorem t_mv_186_191 : p_f2 p_mv (p_mK 186) 191 = some 185 := by decide +kernel
theorem gB_43_0_0 : gB 43 0 0 0 6 := gB.of (by decide +kernel)
theorem gB_43_1_1 : gB 43 1 1 0 2 := gB.of (by decide +kernel)
theorem q_187_0 : p_tb 187 0 = some (.aload_n 0, 1) := by decide +kernel
theorem q_187_1 : p_tb 187 1 = some (.invokevirtual 187, 3) := by decide +kernel
theorem q_187_4 : p_tb 187 4 = some (.ifCond .ne 9, 3) := by decide +kernel
theorem q_187_7 : p_tb 187 7 = some (.aload_n 0, 1) := by decide +kernel
theorem q_187_8 : p_tb 187 8 = some (.iconst 1, 1) := by decide +kernel
theorem q_187_9 : p_tb 187 9 = some (.invokevirtual 170, 3) := by decide +kernel
theorem q_187_12 : p_tb 187 12 = some (.ireturn, 1) := by decide +kernel
theorem q_187_13 : p_tb 187 13 = some (.aload_n 0, 1) := by decide +kernel
theorem q_187_14 : p_tb 187 14 = some (.aload_n 0, 1) := by decide +kernel
theorem q_187_15 : p_tb 187 15 = some (.iload_n 1, 1) := by decide +kernel
theorem q_187_16 : p_tb 187 16 = some (.iload_n 2, 1) := by decide +kernel
theorem q_187_17 : p_tb 187 17 = some (.invokevirtual 191, 3) := by decide +kernel
theorem q_187_20 : p_tb 187 20 = some (.putfield 180, 3) := by decide +kernel
theorem q_187_23 : p_tb 187 23 = some (.aload_n 0, 1) := by decide +kernel
theorem q_187_24 : p_tb 187 24 = some (.getfield 180, 3) := by decide +kernel
theorem q_187_27 : p_tb 187 27 = some (.ifCond .ge 11, 3) := by decide +kernel
theorem q_187_30 : p_tb 187 30 = some (.aload_n 0, 1) := by decide +kernel
theorem q_187_31 : p_tb 187 31 = some (.iconst 3, 1) := by decide +kernel
theorem q_187_32 : p_tb 187 32 = some (.invokevirtual 170, 3) := by decide +kernel
theorem q_187_35 : p_tb 187 35 = some (.ifCond .eq 7, 3) := by decide +kernel
theorem q_187_38 : p_tb 187 38 = some (.iconst 1, 1) := by decide +kernel
theorem q_187_39 : p_tb 187 39 = some (.goto 4, 3) := by decide +kernel
theorem q_187_42 : p_tb 187 42 = some (.iconst 0, 1) := by decide +kernel
theorem q_187_43 : p_tb 187 43 = some (.ireturn, 1) := by decide +kernel
theorem t_ft_187_180 : p_f2 p_ft (p_mK 187) 180 = some (11, 18) := by decide +kernel
theorem t_mv_187_170 : p_f2 p_mv (p_mK 187) 170 = some 178 := by decide +kernel
theorem t_mv_187_187 : p_f2 p_mv (p_mK 187) 187 = some 182 := by decide +kernel
theorem t_mv_187_191 : p_f2 p_mv (p_mK 187) 191 = some 185 := by decide +kernel
theorem q_188_0 : p_tb 188 0 = some (.aload_n 0, 1) := by decide +kernel
theorem q_188_1 : p_tb 188 1 = some (.getfield 195, 3) := by decide +kernel
theorem q_188_4 : p_tb 188 4 = some (.iload_n 1, 1) := by decide +kernel
theorem q_188_5 : p_tb 188 5 = some (.invokestatic 198, 3) := by decide +kernel
theorem q_188_8 : p_tb 188 8 = some (.ifCond .eq 9, 3) := by decide +kernel
theorem q_188_11 : p_tb 188 11 = some (.aload_n 0, 1) := by decide +kernel
theorem q_188_12 : p_tb 188 12 = some (.iconst 3, 1) := by decide +kernel
theorem q_188_13 : p_tb 188 13 = some (.invokevirtual 170, 3) := by decide +kernel
theorem q_188_16 : p_tb 188 16 = some (.ireturn, 1) := by decide +kernel
theorem q_188_17 : p_tb 188 17 = some (.aload_n 0, 1) := by decide +kernel
theorem q_188_18 : p_tb 188 18 = some (.dup, 1) := by decide +kernel
theorem q_188_19 : p_tb 188 19 = some (.getfield 195, 3) := by decide +kernel
theorem q_188_22 : p_tb 188 22 = some (.iconst 1, 1) := by decide +kernel
theorem q_188_23 : p_tb 188 23 = some (.iload_n 1, 1) := by decide +kernel
theorem q_188_24 : p_tb 188 24 = some (.ishl, 1) := by decide +kernel
theorem q_188_25 : p_tb 188 25 = some (.ior, 1) := by decide +kernel
theorem q_188_26 : p_tb 188 26 = some (.putfield 195, 3) := by decide +kernel
theorem q_188_29 : p_tb 188 29 = some (.aload_n 0, 1) := by decide +kernel
theorem q_188_30 : p_tb 188 30 = some (.invokevirtual 173, 3) := by decide +kernel
theorem q_188_33 : p_tb 188 33 = some (.iconst 1, 1) := by decide +kernel
theorem q_188_34 : p_tb 188 34 = some (.ireturn, 1) := by decide +kernel
theorem t_ft_188_195 : p_f2 p_ft (p_mK 188) 195 = some (11, 20) := by decide +kernel
theorem t_ms_188_198 : p_f2 p_ms (p_mK 188) 198 = some 167 := by decide +kernel
theorem t_mv_188_170 : p_f2 p_mv (p_mK 188) 170 = some 178 := by decide +kernel
theorem t_mv_188_173 : p_f2 p_mv (p_mK 188) 173 = some 177 := by decide +kernel
theorem q_191_0 : p_tb 191 0 = some (.aload_n 0, 1) := by decide +kernel
theorem q_191_1 : p_tb 191 1 = some (.ldc2_w 90, 3) := by decide +kernel
theorem q_191_4 : p_tb 191 4 = some (.invokevirtual 201, 3) := by decide +kernel
theorem q_191_7 : p_tb 191 7 = some (.ifCond .eq 5, 3) := by decide +kernel
theorem q_191_10 : p_tb 191 10 = some (.iconst 0, 1) := by decide +kernel
theorem q_191_11 : p_tb 191 11 = some (.ireturn, 1) := by decide +kernel
theorem q_191_12 : p_tb 191 12 = some (.aload_n 0, 1) := by decide +kernel
theorem q_191_13 : p_tb 191 13 = some (.ldc2_w 92, 3) := by decide +kernel
theorem q_191_16 : p_tb 191 16 = some (.invokevirtual 201, 3) := by decide +kernel
theorem q_191_19 : p_tb 191 19 = some (.ifCond .eq 5, 3) := by decide +kernel
theorem q_191_22 : p_tb 191 22 = some (.iconst 1, 1) := by decide +kernel
theorem q_191_23 : p_tb 191 23 = some (.ireturn, 1) := by decide +kernel
theorem q_191_24 : p_tb 191 24 = some (.aload_n 0, 1) := by decide +kernel
theorem q_191_25 : p_tb 191 25 = some (.ldc2_w 94, 3) := by decide +kernel
theorem q_191_28 : p_tb 191 28 = some (.invokevirtual 201, 3) := by decide +kernel
theorem q_191_31 : p_tb 191 31 = some (.ifCond .eq 5, 3) := by decide +kernel
theorem q_191_34 : p_tb 191 34 = some (.iconst 2, 1) := by decide +kernel
theorem q_191_35 : p_tb 191 35 = some (.ireturn, 1) := by decide +kernel
theorem q_191_36 : p_tb 191 36 = some (.aload_n 0, 1) := by decide +kernel
theorem q_191_37 : p_tb 191 37 = some (.ldc2_w 96, 3) := by decide +kernel
theorem q_191_40 : p_tb 191 40 = some (.invokevirtual 201, 3) := by decide +kernel
theorem q_191_43 : p_tb 191 43 = some (.ifCond .eq 7, 3) := by decide +kernel
theorem q_191_46 : p_tb 191 46 = some (.iconst 3, 1) := by decide +kernel
theorem q_191_47 : p_tb 191 47 = some (.goto 4, 3) := by decide +kernel
theorem q_191_50 : p_tb 191 50 = some (.iconst (-1), 1) := by decide +kernel
theorem q_191_51 : p_tb 191 51 = some (.ireturn, 1) := by decide +kernel
theorem t_lt_191_90 : p_f2 p_lt (p_mK 191) 90 = some (478694368626) := by decide +kernel
theorem t_lt_191_92 : p_f2 p_lt (p_mK 191) 92 = some (1852137842) := by decide +kernel
theorem t_lt_191_94 : p_f2 p_lt (p_mK 191) 94 = some (1818325876) := by decide +kernel
theorem t_lt_191_96 : p_f2 p_lt (p_mK 191) 96 = some (1667329132) := by decide +kernel
theorem t_mv_191_201 : p_f2 p_mv (p_mK 191) 201 = some 179 := by decide +kernel
theorem c_X12_fresh_vk (V : pM → Prop) (hV : Stab V) (G : pG) (Kr : pK) (M : pM) (I : Iv V M) (a1 : Int32) (hl_a1 : 8 ≤ a1.toInt) (hh_a1 : a1.toInt ≤ 15) (y : k_X) (i : Nat) (A : k_A) (hp_0 : k_ra y M i) (hp_1 : k_rs M A) (hK : ∀ (x : Int32) (M1 : pM), Iv V M1 → Fr [40, 45] M M1 → 0 ≤ x.toInt → x.toInt ≤ 1 → (gKl [4, 11, 12, 13, 14, 15, 16, 17] M M1 ∧ ((x.toInt = 0 ∧ k_ni y i = 0 ∧ o_i (M1 294) 15 = 1 ∧ o_i (M1 294) 16 = kP y i) ∨ (x.toInt = 0 ∧ k_ni y i = 1 ∧ (k_fd A.2.1 (kV y i) (A.1 0).toNat ≠ -1 ∨ k_fd A.2.2.1 (kV y i) (A.1 1).toNat ≠ -1) ∧ o_i (M1 294) 15 = 3 ∧ o_i (M1 294) 16 = kP y i) ∨ (x.toInt = 1 ∧ k_ni y i = 1 ∧ kK y i = 2 ∧ k_fd A.2.1 (kV y i) (A.1 0).toNat = -1 ∧ k_fd A.2.2.1 (kV y i) (A.1 1).toNat = -1 ∧ ((o_l (M1 299) a1.toInt.toNat).toInt = k_wi (kV y i) ∧ 0 ≤ kV y i ∧ kV y i < 34359738368) ∧ k_ra y M1 (i + 1) ∧ ∀ z, z ≠ a1.toInt.toNat → o_l (M1 299) z = o_l (M 299) z))) → (gNl M M1) → Kr.1 (some (.int x)) 311 M1) : PW G false 2 186 (p_mc 186) (p_msl 186) Kr 0 (lv_args 0 [.ref 294, .int a1]) [] 311 M 0 0 := by
  have F : Fr [40, 45] M M := Fr.refl
  obtain ⟨kc0, kc1, kc11, kc12, kc16, kc17, kc18, kc19⟩ := id hp_1
  have w := k_rW hp_0
  refine PW.aload_n q_186_0 rfl ?_
  refine PW.cV (as := []) (rest := []) q_186_1 t_mv_186_187 kd_294 I.1 (by decide) rfl (by decide) rfl rfl (Nat.le_of_ble_eq_true rfl) (Nat.le_of_ble_eq_true rfl) (by decide) (by decide) ?_
  refine PW.up (by decide) (c_X12_isName_vk (V) (hV) G _ M I _ _ hp_0 fun x2  hx2 kx2 PM1 => ?_)
  rcases PM1 with ⟨PaM1, PbM1⟩ | ⟨PaM1, PbM1, PcM1⟩
  · skip
    refine PW.jz_ne q_186_4 rfl (fun h3 => False.elim (by omega)) (fun h3 => ?_)
    refine PW.aload_n q_186_7 rfl ?_
    refine PW.cI q_186_8 (by decide) fun c4 hc4 => ?_
    refine PW.cV (as := [_]) (rest := []) q_186_9 t_mv_186_170 kd_294 I.1 (by decide) rfl (by decide) rfl rfl (Nat.le_of_ble_eq_true rfl) (Nat.le_of_ble_eq_true rfl) (by decide) (by decide) ?_
    refine PW.up (by decide) (c_X12_bad_vk (V) (hV) G _ M I c4 _ _ hp_0 fun x6 M5 IM5 GM5 hx6 kx6 PM5 => ?_)
    have FM5 := Fr.trans F GM5 (rfl)
    rcases PM5 with ⟨QM5, ⟨PfM5, PgM5⟩⟩
    refine PW.rZ q_186_12 rfl (by omega) (by omega) (by decide) (by decide) ?_
    exact hK x6 M5 IM5 FM5 (by omega) (by omega) ⟨(gKl.refl.tr QM5 rfl), (Or.inl ⟨by omega, by omega, by omega, by omega⟩)⟩ (gNl.refl.cg (Fr.at GM5 kd_299 rfl))
  · skip
    refine PW.jz_ne q_186_4 rfl (fun h7 => ?_) (fun h7 => False.elim (by omega))
    refine PW.aload_n q_186_13 rfl ?_
    refine PW.cB q_186_14 (by decide) fun c8 hc8 => ?_
    refine PW.aload_n q_186_16 rfl ?_
    refine PW.gR 297 q_186_17 (Or.inl t_ft_186_37) gF_40_7 kd_294 I.1 (by decide) rfl ?_
    refine PW.cI q_186_20 (by decide) fun c9 hc9 => ?_
    refine PW.aI q_186_21 gA_43 kd_297 I.1 (by decide) gB_43_0_0 (by decide) (by omega) (by omega) fun x10 fx10 hx10 kx10 => ?_
    have eax10 : x10.toInt = A.1 0 := by rw [← fx10, show c9.toInt.toNat = 0 from by omega]; exact kc0
    refine PW.cV (as := [_, _]) (rest := []) q_186_22 t_mv_186_191 kd_294 I.1 (by decide) rfl (by decide) rfl rfl (Nat.le_of_ble_eq_true rfl) (Nat.le_of_ble_eq_true rfl) (by decide) (by decide) ?_
    refine PW.up (by decide) (c_X12_find_vk (V) (hV) G _ M I c8 x10 (by omega) (by omega) (by omega) (by omega) _ _ A.2.1 (A.1 0) hp_0 kc11 (by omega) (by omega) fun x12  hx12 kx12 PM11 => ?_)
    refine PW.jz_ge q_186_25 rfl (fun h13 => ?_) (fun h13 => ?_)
    · skip
      refine PW.aload_n q_186_43 rfl ?_
      refine PW.cI q_186_44 (by decide) fun c14 hc14 => ?_
      refine PW.cV (as := [_]) (rest := []) q_186_45 t_mv_186_170 kd_294 I.1 (by decide) rfl (by decide) rfl rfl (Nat.le_of_ble_eq_true rfl) (Nat.le_of_ble_eq_true rfl) (by decide) (by decide) ?_
      refine PW.up (by decide) (c_X12_bad_vk (V) (hV) G _ M I c14 _ _ hp_0 fun x16 M15 IM15 GM15 hx16 kx16 PM15 => ?_)
      have FM15 := Fr.trans F GM15 (rfl)
      rcases PM15 with ⟨QM15, ⟨PfM15, PgM15⟩⟩
      refine PW.rZ q_186_48 rfl (by omega) (by omega) (by decide) (by decide) ?_
      exact hK x16 M15 IM15 FM15 (by omega) (by omega) ⟨(gKl.refl.tr QM15 rfl), (Or.inr (Or.inl ⟨by omega, by omega, by omega, by omega, by omega⟩))⟩ (gNl.refl.cg (Fr.at GM15 kd_299 rfl))
    · skip
      refine PW.aload_n q_186_28 rfl ?_
      refine PW.cB q_186_29 (by decide) fun c17 hc17 => ?_
      refine PW.aload_n q_186_31 rfl ?_
      refine PW.gR 297 q_186_32 (Or.inl t_ft_186_37) gF_40_7 kd_294 I.1 (by decide) rfl ?_
      refine PW.cI q_186_35 (by decide) fun c18 hc18 => ?_
      refine PW.aI q_186_36 gA_43 kd_297 I.1 (by decide) gB_43_1_1 (by decide) (by omega) (by omega) fun x19 fx19 hx19 kx19 => ?_
      have eax19 : x19.toInt = A.1 1 := by rw [← fx19, show c18.toInt.toNat = 1 from by omega]; exact kc1
      refine PW.cV (as := [_, _]) (rest := []) q_186_37 t_mv_186_191 kd_294 I.1 (by decide) rfl (by decide) rfl rfl (Nat.le_of_ble_eq_true rfl) (Nat.le_of_ble_eq_true rfl) (by decide) (by decide) ?_
      refine PW.up (by decide) (c_X12_find_vkd (V) (hV) G _ M I c17 x19 (by omega) (by omega) (by omega) (by omega) _ _ A.2.2.1 (A.1 1) hp_0 kc12 (by omega) (by omega) fun x21  hx21 kx21 PM20 => ?_)
      refine PW.jz_lt q_186_40 rfl (fun h22 => ?_) (fun h22 => ?_)
      · skip
        refine PW.aload_n q_186_49 rfl ?_
        refine PW.gR 299 q_186_50 (Or.inl t_ft_186_43) gF_40_9 kd_294 I.1 (by decide) rfl ?_
        refine PW.iload_n q_186_53 rfl ?_
        refine PW.aload_n q_186_54 rfl ?_
        refine PW.gL q_186_55 (Or.inl t_ft_186_157) gF_40_17 kd_294 I.1 (by decide) fun l23 fl23 => ?_
        refine PW.wLX q_186_58 rfl kd_299 hV I (by decide) rfl (by omega) (by omega) fun M24 IM24 fM24 UM24 => ?_
        have FM24 := Fr.pu F UM24.1 kd_299 (rfl : List.contains [40, 45] 45 = true)
        refine PW.aload_n q_186_59 rfl ?_
        refine PW.cV (as := []) (rest := []) q_186_60 t_mv_186_173 kd_294 IM24.1 (by decide) rfl (by decide) rfl rfl (Nat.le_of_ble_eq_true rfl) (Nat.le_of_ble_eq_true rfl) (by decide) (by decide) ?_
        refine PW.up (by decide) (c_X12_go_vk (V) (hV) G _ M24 IM24 _ _ (k_ra.nx (hp_0.cg (UM24.1 294 (by decide)) (UM24.1 295 (by decide)) (UM24.1 300 (by decide))) (by omega)) fun M25 IM25 GM25 PM25 => ?_)
        have FM25 := Fr.trans FM24 GM25 (rfl)
        rcases PM25 with ⟨QM25, PtM25⟩
        refine PW.cI q_186_63 (by decide) fun c26 hc26 => ?_
        refine PW.rZ q_186_64 rfl (by omega) (by omega) (by decide) (by decide) ?_
        exact hK c26 M25 IM25 FM25 (by omega) (by omega) ⟨((gKl.refl.cg (UM24.1 294 (by decide))).tr QM25 rfl), (Or.inr (Or.inr ⟨by omega, by omega, by omega, by omega, by omega, by rw [(congrArg (fun e => o_l e a1.toInt.toNat) (Fr.at GM25 kd_299 (by decide))), fM24]; have w1 := o_J_of fl23; rcases w with q | q; (· exact ⟨w1.symm.trans q.2.2.1, q.2.2.2⟩); (· omega), PtM25, fun z hz => ((congrArg (fun e => o_l e z) (Fr.at GM25 kd_299 (by decide))).trans (UM24.2 z (by omega)))⟩))⟩ ((gNl.refl.st UM24 (by omega)).cg (Fr.at GM25 kd_299 rfl))
      · skip
        refine PW.aload_n q_186_43 rfl ?_
        refine PW.cI q_186_44 (by decide) fun c27 hc27 => ?_
        refine PW.cV (as := [_]) (rest := []) q_186_45 t_mv_186_170 kd_294 I.1 (by decide) rfl (by decide) rfl rfl (Nat.le_of_ble_eq_true rfl) (Nat.le_of_ble_eq_true rfl) (by decide) (by decide) ?_
        refine PW.up (by decide) (c_X12_bad_vk (V) (hV) G _ M I c27 _ _ hp_0 fun x29 M28 IM28 GM28 hx29 kx29 PM28 => ?_)
        have FM28 := Fr.trans F GM28 (rfl)
        rcases PM28 with ⟨QM28, ⟨PfM28, PgM28⟩⟩
        refine PW.rZ q_186_48 rfl (by omega) (by omega) (by decide) (by decide) ?_
        exact hK x29 M28 IM28 FM28 (by omega) (by omega) ⟨(gKl.refl.tr QM28 rfl), (Or.inr (Or.inl ⟨by omega, by omega, by omega, by omega, by omega⟩))⟩ (gNl.refl.cg (Fr.at GM28 kd_299 rfl))
theorem c_X12_looksAt_vk (V : pM → Prop) (hV : Stab V) (G : pG) (Kr : pK) (M : pM) (I : Iv V M) (a1 : Int32) (a2 : Int32) (hl_a1 : 8 ≤ a1.toInt) (hh_a1 : a1.toInt ≤ 8) (hl_a2 : 0 ≤ a2.toInt) (hh_a2 : a2.toInt ≤ 6) (y : k_X) (i : Nat) (A : k_A) (hp_0 : k_ra y M i) (hp_1 : k_rs M A) (hp_2 : a2.toInt = A.1 0) (hK : ∀ (x : Int32) (M1 : pM), Iv V M1 → Fr [40] M M1 → 0 ≤ x.toInt → x.toInt ≤ 1 → (gKl [15, 16, 18] M M1 ∧ ((x.toInt = 0 ∧ k_ni y i = 0 ∧ o_i (M1 294) 15 = 1 ∧ o_i (M1 294) 16 = kP y i) ∨ (x.toInt = 0 ∧ k_ni y i = 1 ∧ k_fd A.2.1 (kV y i) (A.1 0).toNat = -1 ∧ o_i (M1 294) 15 = 3 ∧ o_i (M1 294) 16 = kP y i) ∨ (x.toInt = 1 ∧ k_ni y i = 1 ∧ kK y i = 2 ∧ o_i (M1 294) 18 = k_fd A.2.1 (kV y i) (A.1 0).toNat ∧ k_fd A.2.1 (kV y i) (A.1 0).toNat ≠ -1 ∧ k_ra y M1 i))) → Kr.1 (some (.int x)) 311 M1) : PW G false 1 187 (p_mc 187) (p_msl 187) Kr 0 (lv_args 0 [.ref 294, .int a1, .int a2]) [] 311 M 0 0 := by
  have F : Fr [40] M M := Fr.refl
  obtain ⟨kc0, kc1, kc11, kc12, kc16, kc17, kc18, kc19⟩ := id hp_1
  refine PW.aload_n q_187_0 rfl ?_
  refine PW.cV (as := []) (rest := []) q_187_1 t_mv_187_187 kd_294 I.1 (by decide) rfl (by decide) rfl rfl (Nat.le_of_ble_eq_true rfl) (Nat.le_of_ble_eq_true rfl) (by decide) (by decide) ?_
  refine PW.up (by decide) (c_X12_isName_vk (V) (hV) G _ M I _ _ hp_0 fun x2  hx2 kx2 PM1 => ?_)
  rcases PM1 with ⟨PaM1, PbM1⟩ | ⟨PaM1, PbM1, PcM1⟩
  · skip
    refine PW.jz_ne q_187_4 rfl (fun h3 => False.elim (by omega)) (fun h3 => ?_)
    refine PW.aload_n q_187_7 rfl ?_
    refine PW.cI q_187_8 (by decide) fun c4 hc4 => ?_
    refine PW.cV (as := [_]) (rest := []) q_187_9 t_mv_187_170 kd_294 I.1 (by decide) rfl (by decide) rfl rfl (Nat.le_of_ble_eq_true rfl) (Nat.le_of_ble_eq_true rfl) (by decide) (by decide) ?_
    refine PW.up (by decide) (c_X12_bad_vk (V) (hV) G _ M I c4 _ _ hp_0 fun x6 M5 IM5 GM5 hx6 kx6 PM5 => ?_)
    have FM5 := Fr.trans F GM5 (rfl)
    rcases PM5 with ⟨QM5, ⟨PfM5, PgM5⟩⟩
    refine PW.rZ q_187_12 rfl (by omega) (by omega) (by decide) (by decide) ?_
    exact hK x6 M5 IM5 FM5 (by omega) (by omega) ⟨(gKl.refl.tr QM5 rfl), (Or.inl ⟨by omega, by omega, by omega, by omega⟩)⟩
  · skip
    refine PW.jz_ne q_187_4 rfl (fun h7 => ?_) (fun h7 => False.elim (by omega))
    refine PW.aload_n q_187_13 rfl ?_
    refine PW.aload_n q_187_14 rfl ?_
    refine PW.iload_n q_187_15 rfl ?_
    refine PW.iload_n q_187_16 rfl ?_
    refine PW.cV (as := [_, _]) (rest := [_]) q_187_17 t_mv_187_191 kd_294 I.1 (by decide) rfl (by decide) rfl rfl (Nat.le_of_ble_eq_true rfl) (Nat.le_of_ble_eq_true rfl) (by decide) (by decide) ?_
    refine PW.up (by decide) (c_X12_find_vk (V) (hV) G _ M I a1 a2 (by omega) (by omega) (by omega) (by omega) _ _ A.2.1 (A.1 0) hp_0 kc11 (by omega) (by omega) fun x9  hx9 kx9 PM8 => ?_)
    refine PW.pI q_187_20 (Or.inl t_ft_187_180) gF_40_18 gP_40_18 kd_294 hV I (by decide) rfl (n_lo _) (n_hi _) fun M10 IM10 fM10 UM10 => ?_
    have FM10 := Fr.pu F UM10.1 kd_294 (rfl : List.contains [40] 40 = true)
    refine PW.aload_n q_187_23 rfl ?_
    refine PW.gE q_187_24 (Or.inl t_ft_187_180) gF_40_18 kd_294 IM10.1 (by decide) fM10 ?_
    refine PW.jz_ge q_187_27 rfl (fun h11 => ?_) (fun h11 => ?_)
    · skip
      refine PW.cI q_187_38 (by decide) fun c12 hc12 => ?_
      refine PW.goto q_187_39 rfl ?_
      refine PW.rZ q_187_43 rfl (by omega) (by omega) (by decide) (by decide) ?_
      exact hK c12 M10 IM10 FM10 (by omega) (by omega) ⟨(gKl.refl.put UM10 rfl), (Or.inr (Or.inr ⟨by omega, by omega, by omega, by have w := (o_i_of fM10); omega, by omega, (hp_0.U UM10 rfl)⟩))⟩
    · skip
      refine PW.aload_n q_187_30 rfl ?_
      refine PW.cI q_187_31 (by decide) fun c13 hc13 => ?_
      refine PW.cV (as := [_]) (rest := []) q_187_32 t_mv_187_170 kd_294 IM10.1 (by decide) rfl (by decide) rfl rfl (Nat.le_of_ble_eq_true rfl) (Nat.le_of_ble_eq_true rfl) (by decide) (by decide) ?_
      refine PW.up (by decide) (c_X12_bad_vk (V) (hV) G _ M10 IM10 c13 _ _ (hp_0.U UM10 rfl) fun x15 M14 IM14 GM14 hx15 kx15 PM14 => ?_)
      have FM14 := Fr.trans FM10 GM14 (rfl)
      rcases PM14 with ⟨QM14, ⟨PfM14, PgM14⟩⟩
      refine PW.jz_eq q_187_35 rfl (fun h16 => ?_) (fun h16 => False.elim (by omega))
      refine PW.cI q_187_42 (by decide) fun c17 hc17 => ?_
      refine PW.rZ q_187_43 rfl (by omega) (by omega) (by decide) (by decide) ?_
      exact hK c17 M14 IM14 FM14 (by omega) (by omega) ⟨((gKl.refl.put UM10 rfl).tr QM14 rfl), (Or.inr (Or.inl ⟨by omega, by omega, by omega, by omega, by omega⟩))⟩
theorem c_X12_looksAt_vkd (V : pM → Prop) (hV : Stab V) (G : pG) (Kr : pK) (M : pM) (I : Iv V M) (a1 : Int32) (a2 : Int32) (hl_a1 : 14 ≤ a1.toInt) (hh_a1 : a1.toInt ≤ 14) (hl_a2 : 0 ≤ a2.toInt) (hh_a2 : a2.toInt ≤ 2) (y : k_X) (i : Nat) (A : k_A) (hp_0 : k_ra y M i) (hp_1 : k_rs M A) (hp_2 : a2.toInt = A.1 1) (hK : ∀ (x : Int32) (M1 : pM), Iv V M1 → Fr [40] M M1 → 0 ≤ x.toInt → x.toInt ≤ 1 → (gKl [15, 16, 18] M M1 ∧ ((x.toInt = 0 ∧ k_ni y i = 0 ∧ o_i (M1 294) 15 = 1 ∧ o_i (M1 294) 16 = kP y i) ∨ (x.toInt = 0 ∧ k_ni y i = 1 ∧ k_fd A.2.2.1 (kV y i) (A.1 1).toNat = -1 ∧ o_i (M1 294) 15 = 3 ∧ o_i (M1 294) 16 = kP y i) ∨ (x.toInt = 1 ∧ k_ni y i = 1 ∧ kK y i = 2 ∧ o_i (M1 294) 18 = k_fd A.2.2.1 (kV y i) (A.1 1).toNat ∧ k_fd A.2.2.1 (kV y i) (A.1 1).toNat ≠ -1 ∧ k_ra y M1 i))) → Kr.1 (some (.int x)) 311 M1) : PW G false 1 187 (p_mc 187) (p_msl 187) Kr 0 (lv_args 0 [.ref 294, .int a1, .int a2]) [] 311 M 0 0 := by
  have F : Fr [40] M M := Fr.refl
  obtain ⟨kc0, kc1, kc11, kc12, kc16, kc17, kc18, kc19⟩ := id hp_1
  refine PW.aload_n q_187_0 rfl ?_
  refine PW.cV (as := []) (rest := []) q_187_1 t_mv_187_187 kd_294 I.1 (by decide) rfl (by decide) rfl rfl (Nat.le_of_ble_eq_true rfl) (Nat.le_of_ble_eq_true rfl) (by decide) (by decide) ?_
  refine PW.up (by decide) (c_X12_isName_vk (V) (hV) G _ M I _ _ hp_0 fun x2  hx2 kx2 PM1 => ?_)
  rcases PM1 with ⟨PaM1, PbM1⟩ | ⟨PaM1, PbM1, PcM1⟩
  · skip
    refine PW.jz_ne q_187_4 rfl (fun h3 => False.elim (by omega)) (fun h3 => ?_)
    refine PW.aload_n q_187_7 rfl ?_
    refine PW.cI q_187_8 (by decide) fun c4 hc4 => ?_
    refine PW.cV (as := [_]) (rest := []) q_187_9 t_mv_187_170 kd_294 I.1 (by decide) rfl (by decide) rfl rfl (Nat.le_of_ble_eq_true rfl) (Nat.le_of_ble_eq_true rfl) (by decide) (by decide) ?_
    refine PW.up (by decide) (c_X12_bad_vk (V) (hV) G _ M I c4 _ _ hp_0 fun x6 M5 IM5 GM5 hx6 kx6 PM5 => ?_)
    have FM5 := Fr.trans F GM5 (rfl)
    rcases PM5 with ⟨QM5, ⟨PfM5, PgM5⟩⟩
    refine PW.rZ q_187_12 rfl (by omega) (by omega) (by decide) (by decide) ?_
    exact hK x6 M5 IM5 FM5 (by omega) (by omega) ⟨(gKl.refl.tr QM5 rfl), (Or.inl ⟨by omega, by omega, by omega, by omega⟩)⟩
  · skip
    refine PW.jz_ne q_187_4 rfl (fun h7 => ?_) (fun h7 => False.elim (by omega))
    refine PW.aload_n q_187_13 rfl ?_
    refine PW.aload_n q_187_14 rfl ?_
    refine PW.iload_n q_187_15 rfl ?_
    refine PW.iload_n q_187_16 rfl ?_
    refine PW.cV (as := [_, _]) (rest := [_]) q_187_17 t_mv_187_191 kd_294 I.1 (by decide) rfl (by decide) rfl rfl (Nat.le_of_ble_eq_true rfl) (Nat.le_of_ble_eq_true rfl) (by decide) (by decide) ?_
    refine PW.up (by decide) (c_X12_find_vkd (V) (hV) G _ M I a1 a2 (by omega) (by omega) (by omega) (by omega) _ _ A.2.2.1 (A.1 1) hp_0 kc12 (by omega) (by omega) fun x9  hx9 kx9 PM8 => ?_)
    refine PW.pI q_187_20 (Or.inl t_ft_187_180) gF_40_18 gP_40_18 kd_294 hV I (by decide) rfl (n_lo _) (n_hi _) fun M10 IM10 fM10 UM10 => ?_
    have FM10 := Fr.pu F UM10.1 kd_294 (rfl : List.contains [40] 40 = true)
    refine PW.aload_n q_187_23 rfl ?_
    refine PW.gE q_187_24 (Or.inl t_ft_187_180) gF_40_18 kd_294 IM10.1 (by decide) fM10 ?_
    refine PW.jz_ge q_187_27 rfl (fun h11 => ?_) (fun h11 => ?_)
    · skip
      refine PW.cI q_187_38 (by decide) fun c12 hc12 => ?_
      refine PW.goto q_187_39 rfl ?_
      refine PW.rZ q_187_43 rfl (by omega) (by omega) (by decide) (by decide) ?_
      exact hK c12 M10 IM10 FM10 (by omega) (by omega) ⟨(gKl.refl.put UM10 rfl), (Or.inr (Or.inr ⟨by omega, by omega, by omega, by have w := (o_i_of fM10); omega, by omega, (hp_0.U UM10 rfl)⟩))⟩
    · skip
      refine PW.aload_n q_187_30 rfl ?_
      refine PW.cI q_187_31 (by decide) fun c13 hc13 => ?_
      refine PW.cV (as := [_]) (rest := []) q_187_32 t_mv_187_170 kd_294 IM10.1 (by decide) rfl (by decide) rfl rfl (Nat.le_of_ble_eq_true rfl) (Nat.le_of_ble_eq_true rfl) (by decide) (by decide) ?_
      refine PW.up (by decide) (c_X12_bad_vk (V) (hV) G _ M10 IM10 c13 _ _ (hp_0.U UM10 rfl) fun x15 M14 IM14 GM14 hx15 kx15 PM14 => ?_)
      have FM14 := Fr.trans FM10 GM14 (rfl)
      rcases PM14 with ⟨QM14, ⟨PfM14, PgM14⟩⟩
      refine PW.jz_eq q_187_35 rfl (fun h16 => ?_) (fun h16 => False.elim (by omega))
      refine PW.cI q_187_42 (by decide) fun c17 hc17 => ?_
      refine PW.rZ q_187_43 rfl (by omega) (by omega) (by decide) (by decide) ?_
      exact hK c17 M14 IM14 FM14 (by omega) (by omega) ⟨((gKl.refl.put UM10 rfl).tr QM14 rfl), (Or.inr (Or.inl ⟨by omega, by omega, by omega, by omega, by omega⟩))⟩
theorem c_X12_isOnce_vk0 (V : pM → Prop) (hV : Stab V) (G : pG) (Kr : pK) (M : pM) (I : Iv V M) (a1 : Int32) (hl_a1 : 0 ≤ a1.toInt) (hh_a1 : a1.toInt ≤ 0) (y : k_X) (i : Nat) (hp_0 : k_ra y M i) (hp_1 : 0 ≤ o_i (M 294) 20) (hp_2 : o_i (M 294) 20 ≤ 7) (hp_3 : kK y i = 2) (hK : ∀ (x : Int32) (M1 : pM), Iv V M1 → Fr [40] M M1 → 0 ≤ x.toInt → x.toInt ≤ 1 → (gKl [4, 11, 12, 13, 14, 15, 16, 17, 20] M M1 ∧ ((x.toInt = 0 ∧ o_i (M 294) 20 % 2 = 1 ∧ o_i (M1 294) 15 = 3 ∧ o_i (M1 294) 16 = kP y i) ∨ (x.toInt = 1 ∧ o_i (M 294) 20 % 2 = 0 ∧ o_i (M1 294) 20 = o_i (M 294) 20 + 1 ∧ k_ra y M1 (i + 1)))) → Kr.1 (some (.int x)) 311 M1) : PW G false 2 188 (p_mc 188) (p_msl 188) Kr 0 (lv_args 0 [.ref 294, .int a1]) [] 311 M 0 0 := by
  have F : Fr [40] M M := Fr.refl
  obtain ⟨w294_20, fw294_20, hw294_20, kw294_20⟩ := gF_40_20.int kd_294 I.1 (by decide)
  have iw294_20 := o_i_of fw294_20
  have jw294_20 : w294_20.toInt = o_i (M 294) 20 := by have w := (rfl : o_i (M 294) 20 = o_i (M 294) 20); omega
  refine PW.aload_n q_188_0 rfl ?_
  refine PW.gE q_188_1 (Or.inl t_ft_188_195) gF_40_20 kd_294 I.1 (by decide) fw294_20 ?_
  refine PW.iload_n q_188_4 rfl ?_
  refine PW.callS (as := [_, _]) (rest := []) q_188_5 t_ms_188_198 (by decide) rfl (Nat.le_of_ble_eq_true rfl) (Nat.le_of_ble_eq_true rfl) (by decide) (by decide) ?_
  refine PW.up (by decide) (c_X12_bitOf_vk (V) (hV) G _ M I w294_20 a1 (by omega) (by omega) (by omega) (by omega) fun x2  hx2 kx2 PM1 => ?_)
  refine PW.jz_eq q_188_8 rfl (fun h3 => ?_) (fun h3 => ?_)
  · skip
    refine PW.aload_n q_188_17 rfl ?_
    refine PW.dup q_188_18 rfl ?_
    refine PW.gE q_188_19 (Or.inl t_ft_188_195) gF_40_20 kd_294 I.1 (by decide) fw294_20 ?_
    refine PW.cI q_188_22 (by decide) fun c4 hc4 => ?_
    refine PW.iload_n q_188_23 rfl ?_
    refine PW.ishl q_188_24 ?_
    refine PW.nmI ?_; intro x5 ex5
    refine PW.ior q_188_25 ?_
    refine PW.nmI ?_; intro x6 ex6
    have eo : x6.toInt = (w294_20 ||| (1 <<< (a1 &&& 31))).toInt := by rw [ex6, ex5, show c4 = 1 from n_eq.mpr (by rw [hc4]; decide)]
    have nb := n_bit (o := w294_20) (k := a1) (by omega) (by omega) (by omega) (by omega)
    refine PW.pI q_188_26 (Or.inl t_ft_188_195) gF_40_20 gP_40_20 kd_294 hV I (by decide) rfl (n_lo _) (n_hi _) fun M7 IM7 fM7 UM7 => ?_
    have FM7 := Fr.pu F UM7.1 kd_294 (rfl : List.contains [40] 40 = true)
    refine PW.aload_n q_188_29 rfl ?_
    refine PW.cV (as := []) (rest := []) q_188_30 t_mv_188_173 kd_294 IM7.1 (by decide) rfl (by decide) rfl rfl (Nat.le_of_ble_eq_true rfl) (Nat.le_of_ble_eq_true rfl) (by decide) (by decide) ?_
    refine PW.up (by decide) (c_X12_go_vk (V) (hV) G _ M7 IM7 _ _ (k_ra.nx (hp_0.U UM7 rfl) (by omega)) fun M8 IM8 GM8 PM8 => ?_)
    have FM8 := Fr.trans FM7 GM8 (rfl)
    rcases PM8 with ⟨QM8, PtM8⟩
    refine PW.cI q_188_33 (by decide) fun c9 hc9 => ?_
    refine PW.rZ q_188_34 rfl (by omega) (by omega) (by decide) (by decide) ?_
    exact hK c9 M8 IM8 FM8 (by omega) (by omega) ⟨((gKl.refl.put UM7 rfl).tr QM8 rfl), (Or.inr ⟨by omega, by omega, (by have w := (o_i_of ((QM8 20 rfl).trans fM7)); omega), PtM8⟩)⟩
  · skip
    refine PW.aload_n q_188_11 rfl ?_
    refine PW.cI q_188_12 (by decide) fun c10 hc10 => ?_
    refine PW.cV (as := [_]) (rest := []) q_188_13 t_mv_188_170 kd_294 I.1 (by decide) rfl (by decide) rfl rfl (Nat.le_of_ble_eq_true rfl) (Nat.le_of_ble_eq_true rfl) (by decide) (by decide) ?_
    refine PW.up (by decide) (c_X12_bad_vk (V) (hV) G _ M I c10 _ _ hp_0 fun x12 M11 IM11 GM11 hx12 kx12 PM11 => ?_)
    have FM11 := Fr.trans F GM11 (rfl)
    rcases PM11 with ⟨QM11, ⟨PfM11, PgM11⟩⟩
    refine PW.rZ q_188_16 rfl (by omega) (by omega) (by decide) (by decide) ?_
    exact hK x12 M11 IM11 FM11 (by omega) (by omega) ⟨(gKl.refl.tr QM11 rfl), (Or.inl ⟨by omega, by omega, by omega, by omega⟩)⟩
theorem c_X12_isOnce_vk1 (V : pM → Prop) (hV : Stab V) (G : pG) (Kr : pK) (M : pM) (I : Iv V M) (a1 : Int32) (hl_a1 : 1 ≤ a1.toInt) (hh_a1 : a1.toInt ≤ 1) (y : k_X) (i : Nat) (hp_0 : k_ra y M i) (hp_1 : 0 ≤ o_i (M 294) 20) (hp_2 : o_i (M 294) 20 ≤ 7) (hp_3 : kK y i = 2) (hK : ∀ (x : Int32) (M1 : pM), Iv V M1 → Fr [40] M M1 → 0 ≤ x.toInt → x.toInt ≤ 1 → (gKl [4, 11, 12, 13, 14, 15, 16, 17, 20] M M1 ∧ ((x.toInt = 0 ∧ o_i (M 294) 20 / 2 % 2 = 1 ∧ o_i (M1 294) 15 = 3 ∧ o_i (M1 294) 16 = kP y i) ∨ (x.toInt = 1 ∧ o_i (M 294) 20 / 2 % 2 = 0 ∧ o_i (M1 294) 20 = o_i (M 294) 20 + 2 ∧ k_ra y M1 (i + 1)))) → Kr.1 (some (.int x)) 311 M1) : PW G false 2 188 (p_mc 188) (p_msl 188) Kr 0 (lv_args 0 [.ref 294, .int a1]) [] 311 M 0 0 := by
  have F : Fr [40] M M := Fr.refl
  obtain ⟨w294_20, fw294_20, hw294_20, kw294_20⟩ := gF_40_20.int kd_294 I.1 (by decide)
  have iw294_20 := o_i_of fw294_20
  have jw294_20 : w294_20.toInt = o_i (M 294) 20 := by have w := (rfl : o_i (M 294) 20 = o_i (M 294) 20); omega
  refine PW.aload_n q_188_0 rfl ?_
  refine PW.gE q_188_1 (Or.inl t_ft_188_195) gF_40_20 kd_294 I.1 (by decide) fw294_20 ?_
  refine PW.iload_n q_188_4 rfl ?_
  refine PW.callS (as := [_, _]) (rest := []) q_188_5 t_ms_188_198 (by decide) rfl (Nat.le_of_ble_eq_true rfl) (Nat.le_of_ble_eq_true rfl) (by decide) (by decide) ?_
  refine PW.up (by decide) (c_X12_bitOf_vk (V) (hV) G _ M I w294_20 a1 (by omega) (by omega) (by omega) (by omega) fun x2  hx2 kx2 PM1 => ?_)
  refine PW.jz_eq q_188_8 rfl (fun h3 => ?_) (fun h3 => ?_)
  · skip
    refine PW.aload_n q_188_17 rfl ?_
    refine PW.dup q_188_18 rfl ?_
    refine PW.gE q_188_19 (Or.inl t_ft_188_195) gF_40_20 kd_294 I.1 (by decide) fw294_20 ?_
    refine PW.cI q_188_22 (by decide) fun c4 hc4 => ?_
    refine PW.iload_n q_188_23 rfl ?_
    refine PW.ishl q_188_24 ?_
    refine PW.nmI ?_; intro x5 ex5
    refine PW.ior q_188_25 ?_
    refine PW.nmI ?_; intro x6 ex6
    have eo : x6.toInt = (w294_20 ||| (1 <<< (a1 &&& 31))).toInt := by rw [ex6, ex5, show c4 = 1 from n_eq.mpr (by rw [hc4]; decide)]
    have nb := n_bit (o := w294_20) (k := a1) (by omega) (by omega) (by omega) (by omega)
    refine PW.pI q_188_26 (Or.inl t_ft_188_195) gF_40_20 gP_40_20 kd_294 hV I (by decide) rfl (n_lo _) (n_hi _) fun M7 IM7 fM7 UM7 => ?_
    have FM7 := Fr.pu F UM7.1 kd_294 (rfl : List.contains [40] 40 = true)
    refine PW.aload_n q_188_29 rfl ?_
    refine PW.cV (as := []) (rest := []) q_188_30 t_mv_188_173 kd_294 IM7.1 (by decide) rfl (by decide) rfl rfl (Nat.le_of_ble_eq_true rfl) (Nat.le_of_ble_eq_true rfl) (by decide) (by decide) ?_
    refine PW.up (by decide) (c_X12_go_vk (V) (hV) G _ M7 IM7 _ _ (k_ra.nx (hp_0.U UM7 rfl) (by omega)) fun M8 IM8 GM8 PM8 => ?_)
    have FM8 := Fr.trans FM7 GM8 (rfl)
    rcases PM8 with ⟨QM8, PtM8⟩
    refine PW.cI q_188_33 (by decide) fun c9 hc9 => ?_
    refine PW.rZ q_188_34 rfl (by omega) (by omega) (by decide) (by decide) ?_
    exact hK c9 M8 IM8 FM8 (by omega) (by omega) ⟨((gKl.refl.put UM7 rfl).tr QM8 rfl), (Or.inr ⟨by omega, by omega, (by have w := (o_i_of ((QM8 20 rfl).trans fM7)); omega), PtM8⟩)⟩
  · skip
    refine PW.aload_n q_188_11 rfl ?_
    refine PW.cI q_188_12 (by decide) fun c10 hc10 => ?_
    refine PW.cV (as := [_]) (rest := []) q_188_13 t_mv_188_170 kd_294 I.1 (by decide) rfl (by decide) rfl rfl (Nat.le_of_ble_eq_true rfl) (Nat.le_of_ble_eq_true rfl) (by decide) (by decide) ?_
    refine PW.up (by decide) (c_X12_bad_vk (V) (hV) G _ M I c10 _ _ hp_0 fun x12 M11 IM11 GM11 hx12 kx12 PM11 => ?_)
    have FM11 := Fr.trans F GM11 (rfl)
    rcases PM11 with ⟨QM11, ⟨PfM11, PgM11⟩⟩
    refine PW.rZ q_188_16 rfl (by omega) (by omega) (by decide) (by decide) ?_
    exact hK x12 M11 IM11 FM11 (by omega) (by omega) ⟨(gKl.refl.tr QM11 rfl), (Or.inl ⟨by omega, by omega, by omega, by omega⟩)⟩
theorem c_X12_isOnce_vk2 (V : pM → Prop) (hV : Stab V) (G : pG) (Kr : pK) (M : pM) (I : Iv V M) (a1 : Int32) (hl_a1 : 2 ≤ a1.toInt) (hh_a1 : a1.toInt ≤ 2) (y : k_X) (i : Nat) (hp_0 : k_ra y M i) (hp_1 : 0 ≤ o_i (M 294) 20) (hp_2 : o_i (M 294) 20 ≤ 7) (hp_3 : kK y i = 2) (hK : ∀ (x : Int32) (M1 : pM), Iv V M1 → Fr [40] M M1 → 0 ≤ x.toInt → x.toInt ≤ 1 → (gKl [4, 11, 12, 13, 14, 15, 16, 17, 20] M M1 ∧ ((x.toInt = 0 ∧ o_i (M 294) 20 / 4 % 2 = 1 ∧ o_i (M1 294) 15 = 3 ∧ o_i (M1 294) 16 = kP y i) ∨ (x.toInt = 1 ∧ o_i (M 294) 20 / 4 % 2 = 0 ∧ o_i (M1 294) 20 = o_i (M 294) 20 + 4 ∧ k_ra y M1 (i + 1)))) → Kr.1 (some (.int x)) 311 M1) : PW G false 2 188 (p_mc 188) (p_msl 188) Kr 0 (lv_args 0 [.ref 294, .int a1]) [] 311 M 0 0 := by
  have F : Fr [40] M M := Fr.refl
  obtain ⟨w294_20, fw294_20, hw294_20, kw294_20⟩ := gF_40_20.int kd_294 I.1 (by decide)
  have iw294_20 := o_i_of fw294_20
  have jw294_20 : w294_20.toInt = o_i (M 294) 20 := by have w := (rfl : o_i (M 294) 20 = o_i (M 294) 20); omega
  refine PW.aload_n q_188_0 rfl ?_
  refine PW.gE q_188_1 (Or.inl t_ft_188_195) gF_40_20 kd_294 I.1 (by decide) fw294_20 ?_
  refine PW.iload_n q_188_4 rfl ?_
  refine PW.callS (as := [_, _]) (rest := []) q_188_5 t_ms_188_198 (by decide) rfl (Nat.le_of_ble_eq_true rfl) (Nat.le_of_ble_eq_true rfl) (by decide) (by decide) ?_
  refine PW.up (by decide) (c_X12_bitOf_vk (V) (hV) G _ M I w294_20 a1 (by omega) (by omega) (by omega) (by omega) fun x2  hx2 kx2 PM1 => ?_)
  refine PW.jz_eq q_188_8 rfl (fun h3 => ?_) (fun h3 => ?_)
  · skip
    refine PW.aload_n q_188_17 rfl ?_
    refine PW.dup q_188_18 rfl ?_
    refine PW.gE q_188_19 (Or.inl t_ft_188_195) gF_40_20 kd_294 I.1 (by decide) fw294_20 ?_
    refine PW.cI q_188_22 (by decide) fun c4 hc4 => ?_
    refine PW.iload_n q_188_23 rfl ?_
    refine PW.ishl q_188_24 ?_
    refine PW.nmI ?_; intro x5 ex5
    refine PW.ior q_188_25 ?_
    refine PW.nmI ?_; intro x6 ex6
    have eo : x6.toInt = (w294_20 ||| (1 <<< (a1 &&& 31))).toInt := by rw [ex6, ex5, show c4 = 1 from n_eq.mpr (by rw [hc4]; decide)]
    have nb := n_bit (o := w294_20) (k := a1) (by omega) (by omega) (by omega) (by omega)
    refine PW.pI q_188_26 (Or.inl t_ft_188_195) gF_40_20 gP_40_20 kd_294 hV I (by decide) rfl (n_lo _) (n_hi _) fun M7 IM7 fM7 UM7 => ?_
    have FM7 := Fr.pu F UM7.1 kd_294 (rfl : List.contains [40] 40 = true)
    refine PW.aload_n q_188_29 rfl ?_
    refine PW.cV (as := []) (rest := []) q_188_30 t_mv_188_173 kd_294 IM7.1 (by decide) rfl (by decide) rfl rfl (Nat.le_of_ble_eq_true rfl) (Nat.le_of_ble_eq_true rfl) (by decide) (by decide) ?_
    refine PW.up (by decide) (c_X12_go_vk (V) (hV) G _ M7 IM7 _ _ (k_ra.nx (hp_0.U UM7 rfl) (by omega)) fun M8 IM8 GM8 PM8 => ?_)
    have FM8 := Fr.trans FM7 GM8 (rfl)
    rcases PM8 with ⟨QM8, PtM8⟩
    refine PW.cI q_188_33 (by decide) fun c9 hc9 => ?_
    refine PW.rZ q_188_34 rfl (by omega) (by omega) (by decide) (by decide) ?_
    exact hK c9 M8 IM8 FM8 (by omega) (by omega) ⟨((gKl.refl.put UM7 rfl).tr QM8 rfl), (Or.inr ⟨by omega, by omega, (by have w := (o_i_of ((QM8 20 rfl).trans fM7)); omega), PtM8⟩)⟩
  · skip
    refine PW.aload_n q_188_11 rfl ?_
    refine PW.cI q_188_12 (by decide) fun c10 hc10 => ?_
    refine PW.cV (as := [_]) (rest := []) q_188_13 t_mv_188_170 kd_294 I.1 (by decide) rfl (by decide) rfl rfl (Nat.le_of_ble_eq_true rfl) (Nat.le_of_ble_eq_true rfl) (by decide) (by decide) ?_
    refine PW.up (by decide) (c_X12_bad_vk (V) (hV) G _ M I c10 _ _ hp_0 fun x12 M11 IM11 GM11 hx12 kx12 PM11 => ?_)
    have FM11 := Fr.trans F GM11 (rfl)
    rcases PM11 with ⟨QM11, ⟨PfM11, PgM11⟩⟩
    refine PW.rZ q_188_16 rfl (by omega) (by omega) (by decide) (by decide) ?_
    exact hK x12 M11 IM11 FM11 (by omega) (by omega) ⟨(gKl.refl.tr QM11 rfl), (Or.inl ⟨by omega, by omega, by omega, by omega⟩)⟩
theorem c_X12_lawOf_vk (V : pM → Prop) (hV : Stab V) (G : pG) (Kr : pK) (M : pM) (I : Iv V M) (y : k_X) (i : Nat) (hp_0 : k_ra y M i) (hK : ∀ (x : Int32), -1 ≤ x.toInt → x.toInt ≤ 3 → (x.toInt = k_lw y i ∧ (x.toInt = -1 ∨ kK y i = 2)) → Kr.1 (some (.int x)) 311 M) : PW G false 1 191 (p_mc 191) (p_msl 191) Kr 0 (lv_args 0 [.ref 294]) [] 311 M 0 0 := by
  have F : Fr [] M M := Fr.refl
  refine PW.aload_n q_191_0 rfl ?_
  refine PW.ldc2 q_191_1 t_lt_191_90 ?_
  refine PW.nmLk fun l1 el1 => ?_
  refine PW.cV (as := [_]) (rest := []) q_191_4 t_mv_191_201 kd_294 I.1 (by decide) rfl (by decide) rfl rfl (Nat.le_of_ble_eq_true rfl) (Nat.le_of_ble_eq_true rfl) (by decide) (by decide) ?_
  refine PW.up (by decide) (c_X12_isWord_vk (V) (hV) G _ M I l1 _ _ 6 hp_0 (by rw [el1]; decide +kernel) (by decide) fun x3  hx3 kx3 PM2 => ?_)
  rcases PM2 with ⟨PaM2, PbM2, PcM2⟩ | ⟨PaM2, PnM2⟩
  · skip
    refine PW.jz_eq q_191_7 rfl (fun h4 => False.elim (by omega)) (fun h4 => ?_)
    refine PW.cI q_191_10 (by decide) fun c5 hc5 => ?_
    refine PW.rI q_191_11 rfl (by decide) (by decide) ?_
    exact hK c5 (by omega) (by omega) ⟨by unfold k_lw; rw [if_pos ⟨PbM2, PcM2⟩]; omega, by omega⟩
  · skip
    refine PW.jz_eq q_191_7 rfl (fun h6 => ?_) (fun h6 => False.elim (by omega))
    refine PW.aload_n q_191_12 rfl ?_
    refine PW.ldc2 q_191_13 t_lt_191_92 ?_
    refine PW.nmLk fun l7 el7 => ?_
    refine PW.cV (as := [_]) (rest := []) q_191_16 t_mv_191_201 kd_294 I.1 (by decide) rfl (by decide) rfl rfl (Nat.le_of_ble_eq_true rfl) (Nat.le_of_ble_eq_true rfl) (by decide) (by decide) ?_
    refine PW.up (by decide) (c_X12_isWord_vk (V) (hV) G _ M I l7 _ _ 7 hp_0 (by rw [el7]; decide +kernel) (by decide) fun x9  hx9 kx9 PM8 => ?_)
    rcases PM8 with ⟨PaM8, PbM8, PcM8⟩ | ⟨PaM8, PnM8⟩
    · skip
      refine PW.jz_eq q_191_19 rfl (fun h10 => False.elim (by omega)) (fun h10 => ?_)
      refine PW.cI q_191_22 (by decide) fun c11 hc11 => ?_
      refine PW.rI q_191_23 rfl (by decide) (by decide) ?_
      exact hK c11 (by omega) (by omega) ⟨by unfold k_lw; rw [if_neg PnM2, if_pos ⟨PbM8, PcM8⟩]; omega, by omega⟩
    · skip
      refine PW.jz_eq q_191_19 rfl (fun h12 => ?_) (fun h12 => False.elim (by omega))
      refine PW.aload_n q_191_24 rfl ?_
      refine PW.ldc2 q_191_25 t_lt_191_94 ?_
      refine PW.nmLk fun l13 el13 => ?_
      refine PW.cV (as := [_]) (rest := []) q_191_28 t_mv_191_201 kd_294 I.1 (by decide) rfl (by decide) rfl rfl (Nat.le_of_ble_eq_true rfl) (Nat.le_of_ble_eq_true rfl) (by decide) (by decide) ?_
      refine PW.up (by decide) (c_X12_isWord_vk (V) (hV) G _ M I l13 _ _ 8 hp_0 (by rw [el13]; decide +kernel) (by decide) fun x15  hx15 kx15 PM14 => ?_)
      rcases PM14 with ⟨PaM14, PbM14, PcM14⟩ | ⟨PaM14, PnM14⟩
      · skip
        refine PW.jz_eq q_191_31 rfl (fun h16 => False.elim (by omega)) (fun h16 => ?_)
        refine PW.cI q_191_34 (by decide) fun c17 hc17 => ?_
        refine PW.rI q_191_35 rfl (by decide) (by decide) ?_
        exact hK c17 (by omega) (by omega) ⟨by unfold k_lw; rw [if_neg PnM2, if_neg PnM8, if_pos ⟨PbM14, PcM14⟩]; omega, by omega⟩
      · skip
        refine PW.jz_eq q_191_31 rfl (fun h18 => ?_) (fun h18 => False.elim (by omega))
        refine PW.aload_n q_191_36 rfl ?_
        refine PW.ldc2 q_191_37 t_lt_191_96 ?_
        refine PW.nmLk fun l19 el19 => ?_
        refine PW.cV (as := [_]) (rest := []) q_191_40 t_mv_191_201 kd_294 I.1 (by decide) rfl (by decide) rfl rfl (Nat.le_of_ble_eq_true rfl) (Nat.le_of_ble_eq_true rfl) (by decide) (by decide) ?_
        refine PW.up (by decide) (c_X12_isWord_vk (V) (hV) G _ M I l19 _ _ 9 hp_0 (by rw [el19]; decide +kernel) (by decide) fun x21  hx21 kx21 PM20 => ?_)
        rcases PM20 with ⟨PaM20, PbM20, PcM20⟩ | ⟨PaM20, PnM20⟩
        · skip
          refine PW.jz_eq q_191_43 rfl (fun h22 => False.elim (by omega)) (fun h22 => ?_)
          refine PW.cI q_191_46 (by decide) fun c23 hc23 => ?_
          refine PW.goto q_191_47 rfl ?_
          refine PW.rI q_191_51 rfl (by decide) (by decide) ?_
          exact hK c23 (by omega) (by omega) ⟨by unfold k_lw; rw [if_neg PnM2, if_neg PnM8, if_neg PnM14, if_pos ⟨PbM20, PcM20⟩]; omega, by omega⟩
        · skip
          refine PW.jz_eq q_191_43 rfl (fun h24 => ?_) (fun h24 => False.elim (by omega))
          refine PW.cI q_191_50 (by decide) fun c25 hc25 => ?_
          refine PW.rI q_191_51 rfl (by decide) (by decide) ?_
          exact hK c25 (by omega) (by omega) ⟨by unfold k_lw; rw [if_neg PnM2, if_neg PnM8, if_neg PnM14, if_neg PnM20]; omega, by omega⟩
theorem n_or1 {o : Int32} (h0 : 0 ≤ o.toInt) (h1 : o.toInt ≤ 7) : (o ||| 1).toInt = o.toInt + 1 - o.toInt % 2 := by
  rcases n_bit (o := o) (k := 0) h0 h1 (by decide) (by decide) with w | w | w
  · exact w.2.2
  · exact absurd w.1 (by decide)
  · exact absurd w.1 (by decide)
theorem k_upq {e0 e1 : va_E} {f : Nat → Int} {w v : Int} {q b : Nat} (h : ∀ j : Nat, (j : Int) < w → (o_a e0 (b + j)).toInt = f j ∧ 0 ≤ f j) (hv : (o_a e1 (b + q)).toInt = v) (hv0 : 0 ≤ v) (hn : ∀ j : Nat, j ≠ q → (j : Int) < w → o_a e1 (b + j) = o_a e0 (b + j)) : ∀ j : Nat, (j : Int) < w → (o_a e1 (b + j)).toInt = va_up f q v j ∧ 0 ≤ va_up f q v j := by
  intro j hj
  by_cases e : j = q
  · subst e; rw [p_up_eq]; exact ⟨hv, hv0⟩
  · rw [va_up_ne _ _ e, hn j e hj]; exact h j hj
theorem k_upz {e0 e1 : va_E} {f : Nat → Int} {w v : Int} {b : Nat} (h : ∀ j : Nat, (j : Int) < w → (o_a e0 (b + j)).toInt = f j ∧ 0 ≤ f j) (h0 : 0 ≤ w) (hv : (o_a e1 (b + w.toNat)).toInt = v) (hv0 : 0 ≤ v) (hn : ∀ j : Nat, (j : Int) < w → o_a e1 (b + j) = o_a e0 (b + j)) : ∀ j : Nat, (j : Int) < w + 1 → (o_a e1 (b + j)).toInt = va_up f w.toNat v j ∧ 0 ≤ va_up f w.toNat v j := by
  intro j hj
  by_cases e : j = w.toNat
  · subst e; rw [p_up_eq]; exact ⟨hv, hv0⟩
  · rw [va_up_ne _ _ e, hn j (by omega)]; exact h j (by omega)
theorem k_upw {e0 e1 : va_E} {f : Nat → Int} {w v : Int} {b : Nat} (h : ∀ j : Nat, (j : Int) < w → (o_a e0 (b + j)).toInt = f j) (h0 : 0 ≤ w) (hv : (o_a e1 (b + w.toNat)).toInt = v) (hn : ∀ j : Nat, (j : Int) < w → o_a e1 (b + j) = o_a e0 (b + j)) : ∀ j : Nat, (j : Int) < w + 1 → (o_a e1 (b + j)).toInt = va_up f w.toNat v j := by
  intro j hj
  by_cases e : j = w.toNat
  · subst e; rw [p_up_eq]; exact hv
  · rw [va_up_ne _ _ e, hn j (by omega)]; exact h j (by omega)
