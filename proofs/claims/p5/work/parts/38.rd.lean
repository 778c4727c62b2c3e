theorem c_X6_seesDeed_vk (V : pM → Prop) (hV : Stab V) (G : pG) (Kr : pK) (M : pM) (I : Iv V M) (y : k_X) (i : Nat) (hp_0 : k_at y M i) (hK : ∀ (x : Int32), 0 ≤ x.toInt → x.toInt ≤ 1 → ((x.toInt = 1 ∧ kK y i = 2 ∧ 11 ≤ s_wn y i ∧ s_wn y i ≤ 15) ∨ (x.toInt = 0 ∧ ¬ (kK y i = 2 ∧ 11 ≤ s_wn y i ∧ s_wn y i ≤ 15))) → Kr.1 (some (.int x)) 311 M) : PW G false 1 69 (p_mc 69) (p_msl 69) Kr 0 (lv_args 0 [.ref 1]) [] 311 M 0 0 := by
  have F : Fr [] M M := Fr.refl
  refine PW.aload_n q_69_0 rfl ?_
  refine PW.gets q_69_1 t_st_69_87 ?_
  refine PW.cV (as := [_]) (rest := []) q_69_4 t_mv_69_39 kd_1 I.1 (by decide) rfl (by decide) rfl rfl (Nat.le_of_ble_eq_true rfl) (Nat.le_of_ble_eq_true rfl) (by decide) (by decide) ?_
  refine PW.up (by decide) (c_X7_sees_vk (V) (hV) G _ M I 11 (by decide) _ _ hp_0 fun x2  hx2 kx2 PM1 => ?_)
  rcases PM1 with ⟨PaM1, PbM1, PcM1⟩ | ⟨PaM1, PnM1⟩
  · skip
    have swM1 := (s_wn_iff (x := y) (i := i) (show 11 < 28 by decide)).mp PcM1
    refine PW.jz_ne q_69_7 rfl (fun h3 => ?_) (fun h3 => False.elim (by omega))
    refine PW.cI q_69_50 (by decide) fun c4 hc4 => ?_
    refine PW.goto q_69_51 rfl ?_
    refine PW.rZ q_69_55 rfl (by omega) (by omega) (by decide) (by decide) ?_
    exact hK c4 (by omega) (by omega) (Or.inl ⟨by omega, PbM1, by omega, by omega⟩)
  · skip
    have snM1 : kK y (i) = 2 → s_wn y (i) ≠ 11 := fun h q => PnM1 ⟨h, (s_wn_iff (show 11 < 28 by decide)).mpr q⟩
    refine PW.jz_ne q_69_7 rfl (fun h5 => False.elim (by omega)) (fun h5 => ?_)
    refine PW.aload_n q_69_10 rfl ?_
    refine PW.gets q_69_11 t_st_69_90 ?_
    refine PW.cV (as := [_]) (rest := []) q_69_14 t_mv_69_39 kd_1 I.1 (by decide) rfl (by decide) rfl rfl (Nat.le_of_ble_eq_true rfl) (Nat.le_of_ble_eq_true rfl) (by decide) (by decide) ?_
    refine PW.up (by decide) (c_X7_sees_vk (V) (hV) G _ M I 12 (by decide) _ _ hp_0 fun x7  hx7 kx7 PM6 => ?_)
    rcases PM6 with ⟨PaM6, PbM6, PcM6⟩ | ⟨PaM6, PnM6⟩
    · skip
      have swM6 := (s_wn_iff (x := y) (i := i) (show 12 < 28 by decide)).mp PcM6
      refine PW.jz_ne q_69_17 rfl (fun h8 => ?_) (fun h8 => False.elim (by omega))
      refine PW.cI q_69_50 (by decide) fun c9 hc9 => ?_
      refine PW.goto q_69_51 rfl ?_
      refine PW.rZ q_69_55 rfl (by omega) (by omega) (by decide) (by decide) ?_
      exact hK c9 (by omega) (by omega) (Or.inl ⟨by omega, PbM6, by omega, by omega⟩)
    · skip
      have snM6 : kK y (i) = 2 → s_wn y (i) ≠ 12 := fun h q => PnM6 ⟨h, (s_wn_iff (show 12 < 28 by decide)).mpr q⟩
      refine PW.jz_ne q_69_17 rfl (fun h10 => False.elim (by omega)) (fun h10 => ?_)
      refine PW.aload_n q_69_20 rfl ?_
      refine PW.gets q_69_21 t_st_69_93 ?_
      refine PW.cV (as := [_]) (rest := []) q_69_24 t_mv_69_39 kd_1 I.1 (by decide) rfl (by decide) rfl rfl (Nat.le_of_ble_eq_true rfl) (Nat.le_of_ble_eq_true rfl) (by decide) (by decide) ?_
      refine PW.up (by decide) (c_X7_sees_vk (V) (hV) G _ M I 13 (by decide) _ _ hp_0 fun x12  hx12 kx12 PM11 => ?_)
      rcases PM11 with ⟨PaM11, PbM11, PcM11⟩ | ⟨PaM11, PnM11⟩
      · skip
        have swM11 := (s_wn_iff (x := y) (i := i) (show 13 < 28 by decide)).mp PcM11
        refine PW.jz_ne q_69_27 rfl (fun h13 => ?_) (fun h13 => False.elim (by omega))
        refine PW.cI q_69_50 (by decide) fun c14 hc14 => ?_
        refine PW.goto q_69_51 rfl ?_
        refine PW.rZ q_69_55 rfl (by omega) (by omega) (by decide) (by decide) ?_
        exact hK c14 (by omega) (by omega) (Or.inl ⟨by omega, PbM11, by omega, by omega⟩)
      · skip
        have snM11 : kK y (i) = 2 → s_wn y (i) ≠ 13 := fun h q => PnM11 ⟨h, (s_wn_iff (show 13 < 28 by decide)).mpr q⟩
        refine PW.jz_ne q_69_27 rfl (fun h15 => False.elim (by omega)) (fun h15 => ?_)
        refine PW.aload_n q_69_30 rfl ?_
        refine PW.gets q_69_31 t_st_69_96 ?_
        refine PW.cV (as := [_]) (rest := []) q_69_34 t_mv_69_39 kd_1 I.1 (by decide) rfl (by decide) rfl rfl (Nat.le_of_ble_eq_true rfl) (Nat.le_of_ble_eq_true rfl) (by decide) (by decide) ?_
        refine PW.up (by decide) (c_X7_sees_vk (V) (hV) G _ M I 14 (by decide) _ _ hp_0 fun x17  hx17 kx17 PM16 => ?_)
        rcases PM16 with ⟨PaM16, PbM16, PcM16⟩ | ⟨PaM16, PnM16⟩
        · skip
          have swM16 := (s_wn_iff (x := y) (i := i) (show 14 < 28 by decide)).mp PcM16
          refine PW.jz_ne q_69_37 rfl (fun h18 => ?_) (fun h18 => False.elim (by omega))
          refine PW.cI q_69_50 (by decide) fun c19 hc19 => ?_
          refine PW.goto q_69_51 rfl ?_
          refine PW.rZ q_69_55 rfl (by omega) (by omega) (by decide) (by decide) ?_
          exact hK c19 (by omega) (by omega) (Or.inl ⟨by omega, PbM16, by omega, by omega⟩)
        · skip
          have snM16 : kK y (i) = 2 → s_wn y (i) ≠ 14 := fun h q => PnM16 ⟨h, (s_wn_iff (show 14 < 28 by decide)).mpr q⟩
          refine PW.jz_ne q_69_37 rfl (fun h20 => False.elim (by omega)) (fun h20 => ?_)
          refine PW.aload_n q_69_40 rfl ?_
          refine PW.gets q_69_41 t_st_69_99 ?_
          refine PW.cV (as := [_]) (rest := []) q_69_44 t_mv_69_39 kd_1 I.1 (by decide) rfl (by decide) rfl rfl (Nat.le_of_ble_eq_true rfl) (Nat.le_of_ble_eq_true rfl) (by decide) (by decide) ?_
          refine PW.up (by decide) (c_X7_sees_vk (V) (hV) G _ M I 15 (by decide) _ _ hp_0 fun x22  hx22 kx22 PM21 => ?_)
          rcases PM21 with ⟨PaM21, PbM21, PcM21⟩ | ⟨PaM21, PnM21⟩
          · skip
            have swM21 := (s_wn_iff (x := y) (i := i) (show 15 < 28 by decide)).mp PcM21
            refine PW.jz_eq q_69_47 rfl (fun h23 => False.elim (by omega)) (fun h23 => ?_)
            refine PW.cI q_69_50 (by decide) fun c24 hc24 => ?_
            refine PW.goto q_69_51 rfl ?_
            refine PW.rZ q_69_55 rfl (by omega) (by omega) (by decide) (by decide) ?_
            exact hK c24 (by omega) (by omega) (Or.inl ⟨by omega, PbM21, by omega, by omega⟩)
          · skip
            have snM21 : kK y (i) = 2 → s_wn y (i) ≠ 15 := fun h q => PnM21 ⟨h, (s_wn_iff (show 15 < 28 by decide)).mpr q⟩
            refine PW.jz_eq q_69_47 rfl (fun h25 => ?_) (fun h25 => False.elim (by omega))
            refine PW.cI q_69_54 (by decide) fun c26 hc26 => ?_
            refine PW.rZ q_69_55 rfl (by omega) (by omega) (by decide) (by decide) ?_
            exact hK c26 (by omega) (by omega) (Or.inr ⟨by omega, fun h => by have hk := h.1; have uM1 := snM1 hk; have uM6 := snM6 hk; have uM11 := snM11 hk; have uM16 := snM16 hk; have uM21 := snM21 hk; omega⟩)
theorem l_z41 {x : k_X} {f : Nat → Int} {m n : Int} {k i : Nat} (hk : k = 0) (h : kK x i ≠ 0) : l_lines x f m k n i = (1, kP x i) := by
  subst hk
  show (if kK x i = 0 then _ else _) = _
  rw [if_neg h]
theorem c_X6_read_vk (G : pG) (Kr : pK) (M : pM) (I : Iv gTT M) (y : k_X) (f : Nat → Int) (m : Int) (hp_0 : k_tp y M) (hp_1 : y.2.2 = 400) (hp_2 : s_nm M f m) (hK : ∀ (x : Int32) (M1 : pM), Iv (gT6 G) M1 → Fr [1, 23, 24, 25] M M1 → 0 ≤ x.toInt → x.toInt ≤ 1 → l_q y f m x M1 → Kr.1 (some (.int x)) 311 M1) : PW G false 5 66 (p_mc 66) (p_msl 66) Kr 0 (lv_args 0 [.ref 272, .ref 1, .ref 4]) [] 311 M 0 0 := by
  have F : Fr [1, 23, 24, 25] M M := Fr.refl
  refine PW.aload_n q_66_0 rfl ?_
  refine PW.cI q_66_1 (by decide) fun c1 hc1 => ?_
  refine PW.pT q_66_2 (Or.inl t_ft_66_21) gF_23_0 gP_23_0 kd_272 I (by decide) rfl (by omega) (by omega) fun M2 IM2 fM2 UM2 => ?_
  have FM2 := Fr.pu F UM2.1 kd_272 (rfl : List.contains [1, 23, 24, 25] 23 = true)
  have L3 : Iv (gT6 G) M2 := ⟨IM2.1, IM2.2, fun i hi => by rw [o_i_of fM2] at hi; omega⟩
  refine PW.aload_n q_66_5 rfl ?_
  refine PW.cS q_66_6 (by decide) fun c4 hc4 => ?_
  refine PW.cV (as := [_]) (rest := []) q_66_9 t_mv_66_25 kd_1 L3.1 (by decide) rfl (by decide) rfl rfl (Nat.le_of_ble_eq_true rfl) (Nat.le_of_ble_eq_true rfl) (by decide) (by decide) ?_
  refine PW.up (by decide) (c_X7_startText_vk (gT6 G) ((Stab6 G)) G _ M2 L3 c4 y ⟨(congrArg (fun e => o_i e 1) (UM2.1 1 (by decide))).trans hp_0.1, fun i hi => by rw [(UM2.1 _ (g_ne kd_2 kd_272 (by decide)))]; exact hp_0.2 i hi⟩ (by omega) fun M5 IM5 GM5 PM5 => ?_)
  have FM5 := Fr.trans FM2 GM5 (rfl)
  have PtM5 := PM5
  refine PW.cI q_66_12 (by decide) fun c6 hc6 => ?_
  refine PW.istore_n q_66_13 (by decide) ?_
  have L66_14_7 : ∀ (n : Nat) (ML66_14_7 : pM) (v8 : Int32), Iv (gT6 G) ML66_14_7 → Fr [1, 23, 24, 25] M ML66_14_7 → 0 ≤ v8.toInt → v8.toInt ≤ 41 → l_li y f m ML66_14_7 v8.toInt → o_i (ML66_14_7 272) 0 = v8.toInt → ML66_14_7 4 = M 4 → ML66_14_7 5 = M 5 → (41 - v8.toInt).toNat = n → PW G false 5 66 (p_mc 66) (p_msl 66) Kr 14 [(0, .ref 272), (1, .ref 1), (2, .ref 4), (3, .int v8)] [] 311 ML66_14_7 0 0 := by
    intro n
    induction n using Nat.strongRecOn with
    | ind n ih_L66_14_7 =>
    intro ML66_14_7 v8 IML66_14_7 FML66_14_7 hbL66_14_70 hbL66_14_71 hbL66_14_72 hbL66_14_73 hbL66_14_74 hbL66_14_75 hmL66_14_7
    refine PW.iload_n q_66_14 rfl ?_
    obtain ⟨i, T, E⟩ := hbL66_14_72
    have lc := hbL66_14_73
    refine PW.cB q_66_15 (by decide) fun c9 hc9 => ?_
    refine PW.jc_gt q_66_17 rfl (fun h10 => ?_) (fun h10 => ?_)
    · skip
      refine PW.aload_n q_66_85 rfl ?_
      refine PW.cV (as := []) (rest := []) q_66_86 t_mv_66_55 kd_1 IML66_14_7.1 (by decide) rfl (by decide) rfl rfl (Nat.le_of_ble_eq_true rfl) (Nat.le_of_ble_eq_true rfl) (by decide) (by decide) ?_
      refine PW.up (by decide) (c_X7_closes_vk (gT6 G) ((Stab6 G)) G _ ML66_14_7 IML66_14_7 y (i) T fun x12 M11 IM11 GM11 hx12 kx12 PM11 => ?_)
      have FM11 := Fr.trans FML66_14_7 GM11 (rfl)
      rcases PM11 with ⟨PaM11, PbM11, PtM11⟩ | ⟨PaM11, PbM11, PfM11, PgM11⟩
      · skip
        refine PW.rZ q_66_89 rfl (by omega) (by omega) (by decide) (by decide) ?_
        exact hK x12 M11 IM11 FM11 (by omega) (by omega) (by unfold l_q; rw [E, l_ls_end PbM11]; exact Or.inl ⟨by omega, rfl, PtM11.1.2.2.1⟩)
      · skip
        refine PW.rZ q_66_89 rfl (by omega) (by omega) (by decide) (by decide) ?_
        exact hK x12 M11 IM11 FM11 (by omega) (by omega) (by unfold l_q; rw [E, l_z41 (by omega) (by omega)]; exact Or.inr ⟨by omega, (by omega : (1 : Int) ≠ 0), (by omega : o_i (M11 1) 10 = 1), (by omega : o_i (M11 1) 11 = kP y i)⟩)
    · skip
      refine PW.aload_n q_66_20 rfl ?_
      refine PW.cV (as := []) (rest := []) q_66_21 t_mv_66_31 kd_1 IML66_14_7.1 (by decide) rfl (by decide) rfl rfl (Nat.le_of_ble_eq_true rfl) (Nat.le_of_ble_eq_true rfl) (by decide) (by decide) ?_
      refine PW.up (by decide) (c_X7_atEnd_vk (gT6 G) ((Stab6 G)) G _ ML66_14_7 IML66_14_7 y (i) T fun x14  hx14 kx14 PM13 => ?_)
      rcases PM13 with ⟨PaM13, PbM13⟩ | ⟨PaM13, PbM13⟩ | ⟨PaM13, PbM13⟩
      · skip
        refine PW.jz_ne q_66_24 rfl (fun h15 => ?_) (fun h15 => False.elim (by omega))
        refine PW.aload_n q_66_85 rfl ?_
        refine PW.cV (as := []) (rest := []) q_66_86 t_mv_66_55 kd_1 IML66_14_7.1 (by decide) rfl (by decide) rfl rfl (Nat.le_of_ble_eq_true rfl) (Nat.le_of_ble_eq_true rfl) (by decide) (by decide) ?_
        refine PW.up (by decide) (c_X7_closes_vk (gT6 G) ((Stab6 G)) G _ ML66_14_7 IML66_14_7 y (i) T fun x17 M16 IM16 GM16 hx17 kx17 PM16 => ?_)
        have FM16 := Fr.trans FML66_14_7 GM16 (rfl)
        rcases PM16 with ⟨PaM16, PbM16, PtM16⟩ | ⟨PaM16, PbM16, PfM16, PgM16⟩
        · skip
          refine PW.rZ q_66_89 rfl (by omega) (by omega) (by decide) (by decide) ?_
          exact hK x17 M16 IM16 FM16 (by omega) (by omega) (by unfold l_q; rw [E, l_ls_end PbM16]; exact Or.inl ⟨by omega, rfl, PtM16.1.2.2.1⟩)
        · skip
          refine PW.rZ q_66_89 rfl (by omega) (by omega) (by decide) (by decide) ?_
          exact hK x17 M16 IM16 FM16 (by omega) (by omega) (by unfold l_q; rw [E, l_z41 (by omega) (by omega)]; exact Or.inr ⟨by omega, (by omega : (1 : Int) ≠ 0), (by omega : o_i (M16 1) 10 = 1), (by omega : o_i (M16 1) 11 = kP y i)⟩)
      · skip
        refine PW.jz_ne q_66_24 rfl (fun h18 => ?_) (fun h18 => False.elim (by omega))
        refine PW.aload_n q_66_85 rfl ?_
        refine PW.cV (as := []) (rest := []) q_66_86 t_mv_66_55 kd_1 IML66_14_7.1 (by decide) rfl (by decide) rfl rfl (Nat.le_of_ble_eq_true rfl) (Nat.le_of_ble_eq_true rfl) (by decide) (by decide) ?_
        refine PW.up (by decide) (c_X7_closes_vk (gT6 G) ((Stab6 G)) G _ ML66_14_7 IML66_14_7 y (i) T fun x20 M19 IM19 GM19 hx20 kx20 PM19 => ?_)
        have FM19 := Fr.trans FML66_14_7 GM19 (rfl)
        rcases PM19 with ⟨PaM19, PbM19, PtM19⟩ | ⟨PaM19, PbM19, PfM19, PgM19⟩
        · skip
          refine PW.rZ q_66_89 rfl (by omega) (by omega) (by decide) (by decide) ?_
          exact hK x20 M19 IM19 FM19 (by omega) (by omega) (by unfold l_q; rw [E, l_ls_end PbM19]; exact Or.inl ⟨by omega, rfl, PtM19.1.2.2.1⟩)
        · skip
          refine PW.rZ q_66_89 rfl (by omega) (by omega) (by decide) (by decide) ?_
          exact hK x20 M19 IM19 FM19 (by omega) (by omega) (by unfold l_q; rw [E, l_ls_bad (by omega) (by omega)]; exact Or.inr ⟨by omega, (by omega : (1 : Int) ≠ 0), (by omega : o_i (M19 1) 10 = 1), (by omega : o_i (M19 1) 11 = kP y i)⟩)
      · skip
        refine PW.jz_ne q_66_24 rfl (fun h21 => False.elim (by omega)) (fun h21 => ?_)
        refine PW.aload_n q_66_27 rfl ?_
        refine PW.gets q_66_28 t_st_66_35 ?_
        refine PW.cV (as := [_]) (rest := []) q_66_31 t_mv_66_39 kd_1 IML66_14_7.1 (by decide) rfl (by decide) rfl rfl (Nat.le_of_ble_eq_true rfl) (Nat.le_of_ble_eq_true rfl) (by decide) (by decide) ?_
        refine PW.up (by decide) (c_X7_sees_vk (gT6 G) ((Stab6 G)) G _ ML66_14_7 IML66_14_7 16 (by decide) y (i) T fun x23  hx23 kx23 PM22 => ?_)
        rcases PM22 with ⟨PaM22, PbM22, PcM22⟩ | ⟨PaM22, PnM22⟩
        · skip
          have swM22 := (s_wn_iff (x := y) (i := i) (show 16 < 28 by decide)).mp PcM22
          refine PW.jz_eq q_66_34 rfl (fun h24 => False.elim (by omega)) (fun h24 => ?_)
          refine PW.aload_n q_66_37 rfl ?_
          refine PW.aload_n q_66_38 rfl ?_
          refine PW.cV (as := [_]) (rest := []) q_66_39 t_mv_66_43 kd_272 IML66_14_7.1 (by decide) rfl (by decide) rfl rfl (Nat.le_of_ble_eq_true rfl) (Nat.le_of_ble_eq_true rfl) (by decide) (by decide) ?_
          refine PW.aload_n q_67_0 rfl ?_
          refine PW.gI q_67_1 (Or.inl t_ft_67_21) gF_23_0 kd_272 IML66_14_7.1 (by decide) fun x25 fx25 hx25 kx25 => ?_
          have ix25 := o_i_of fx25
          refine PW.cB q_67_4 (by decide) fun c26 hc26 => ?_
          refine PW.jc_lt q_67_6 rfl (fun h27 => ?_) (fun h27 => ?_)
          · skip
            refine PW.aload_n q_67_15 rfl ?_
            refine PW.cV (as := []) (rest := []) q_67_16 t_mv_67_61 kd_1 IML66_14_7.1 (by decide) rfl (by decide) rfl rfl (Nat.le_of_ble_eq_true rfl) (Nat.le_of_ble_eq_true rfl) (by decide) (by decide) ?_
            refine PW.up (by decide) (c_X7_advance_vk (gT6 G) ((Stab6 G)) G _ ML66_14_7 IML66_14_7 y (i + 1) (k_at.nx T (by omega)) fun M28 IM28 GM28 PM28 => ?_)
            have FM28 := Fr.trans FML66_14_7 GM28 (rfl)
            have PtM28 := PM28
            refine PW.aload_n q_67_19 rfl ?_
            refine PW.gR 273 q_67_20 (Or.inl t_ft_67_11) gF_23_1 kd_272 IM28.1 (by decide) rfl ?_
            refine PW.aload_n q_67_23 rfl ?_
            refine PW.gE q_67_24 (Or.inl t_ft_67_21) gF_23_0 kd_272 IM28.1 (by decide) ((congrArg (fun e => o_f e 0) (Fr.at GM28 kd_272 (by decide))).trans fx25) ?_
            refine PW.gets q_67_27 t_st_67_35 ?_
            have hdM29 := o_i_of ((congrArg (fun e => o_f e 0) (Fr.at GM28 kd_272 (by decide))).trans fx25)
            refine PW.wWB (r := some (65536 + 16)) q_67_30 (rfl : g_sh 24 = (4, 8, 40)) kd_273 IM28.1 (by decide) (by omega) (by omega) (Or.inr ⟨16, (by decide), rfl⟩) fun M29 JM29 UM29 fM29 gM29 => ?_
            have IM29 : Iv (gT6 G) M29 := ⟨JM29, gAT UM29 kd_273 (by decide) rfl IM28.2.1, gS6.w (q := x25.toInt.toNat) IM28.2.2 (UM29 272 (by decide)) gM29 (fun z _ => by rw [UM29 274 (by decide)]) (by omega)⟩
            have FM29 := Fr.pu FM28 UM29 kd_273 (rfl : List.contains [1, 23, 24, 25] 24 = true)
            refine PW.aload_n q_67_31 rfl ?_
            refine PW.gR 274 q_67_32 (Or.inl t_ft_67_17) gF_23_2 kd_272 IM29.1 (by decide) rfl ?_
            refine PW.aload_n q_67_35 rfl ?_
            refine PW.gE q_67_36 (Or.inl t_ft_67_21) gF_23_0 kd_272 IM29.1 (by decide) ((congrArg (fun e => o_f e 0) (UM29 _ (g_ne kd_272 kd_273 (by decide)))).trans ((congrArg (fun e => o_f e 0) (Fr.at GM28 kd_272 (by decide))).trans fx25)) ?_
            refine PW.aload_n q_67_39 rfl ?_
            refine PW.cI q_67_40 (by decide) fun c30 hc30 => ?_
            refine PW.cB q_67_41 (by decide) fun c31 hc31 => ?_
            refine PW.cV (as := [_, _]) (rest := [_, _]) q_67_43 t_mv_67_64 kd_1 IM29.1 (by decide) rfl (by decide) rfl rfl (Nat.le_of_ble_eq_true rfl) (Nat.le_of_ble_eq_true rfl) (by decide) (by decide) ?_
            refine PW.up (by decide) (c_X7_needsNumber_vk (gT6 G) ((Stab6 G)) G _ M29 IM29 c30 c31 y (i + 1) 1 60 (PtM28.cg (UM29 _ (g_ne kd_1 kd_273 (by decide))) (UM29 _ (g_ne kd_2 kd_273 (by decide)))) (by omega) (by omega) fun x33 M32 IM32 GM32 PM32 => ?_)
            have FM32 := Fr.trans FM29 GM32 (rfl)
            rcases PM32 with ⟨PzM32, PvM32, PlM32, PhM32, PtM32⟩ | ⟨PzM32, PvM32, PfM32, PgM32⟩
            · skip
              have el : l_line y f m v8.toInt i = (0, 0, i + 2) := by unfold l_line; rw [if_pos ⟨by omega, by omega⟩, if_neg (by omega), if_neg (not_not_intro PzM32)]
              have hdM34 := o_i_of ((congrArg (fun e => o_f e 0) (Fr.at GM32 kd_272 (by decide))).trans ((congrArg (fun e => o_f e 0) (UM29 _ (g_ne kd_272 kd_273 (by decide)))).trans ((congrArg (fun e => o_f e 0) (Fr.at GM28 kd_272 (by decide))).trans fx25)))
              refine PW.wB q_67_46 gA_25 kd_274 IM32.1 (by decide) (by omega) (by omega) ⟨n_lo _, n_hi _⟩ fun M34 JM34 fM34 UM34 => ?_
              have IM34 : Iv (gT6 G) M34 := ⟨JM34, gAT UM34.1 kd_274 (by decide) rfl IM32.2.1, gS6.w (q := x25.toInt.toNat) IM32.2.2 (UM34.1 272 (by decide)) (fun z _ => by rw [UM34.1 273 (by decide)]) UM34.2 (by omega)⟩
              have FM34 := Fr.pu FM32 UM34.1 kd_274 (rfl : List.contains [1, 23, 24, 25] 25 = true)
              refine PW.aload_n q_67_47 rfl ?_
              refine PW.gR 274 q_67_48 (Or.inl t_ft_67_17) gF_23_2 kd_272 IM34.1 (by decide) rfl ?_
              refine PW.aload_n q_67_51 rfl ?_
              refine PW.gE q_67_52 (Or.inl t_ft_67_21) gF_23_0 kd_272 IM34.1 (by decide) ((congrArg (fun e => o_f e 0) (UM34.1 _ (g_ne kd_272 kd_274 (by decide)))).trans ((congrArg (fun e => o_f e 0) (Fr.at GM32 kd_272 (by decide))).trans ((congrArg (fun e => o_f e 0) (UM29 _ (g_ne kd_272 kd_273 (by decide)))).trans ((congrArg (fun e => o_f e 0) (Fr.at GM28 kd_272 (by decide))).trans fx25)))) ?_
              refine PW.aH q_67_55 gA_25 kd_274 IM34.1 (by decide) (by omega) (by omega) fun x35 fx35 => ?_
              have ezx35 : x35.toInt = x33.toInt := by rw [← fx35, fM34]
              refine PW.cI q_67_56 (by decide) fun c36 hc36 => ?_
              refine PW.jc_eq q_67_57 rfl (fun h37 => False.elim (by omega)) (fun h37 => ?_)
              refine PW.cI q_67_60 (by decide) fun c38 hc38 => ?_
              refine PW.goto q_67_61 rfl ?_
              refine PW.rZ q_67_65 rfl (by omega) (by omega) (by decide) (by decide) ?_
              refine PW.goto q_66_42 rfl ?_
              refine PW.istore q_66_51 (by decide) ?_
              refine PW.iload q_66_53 rfl ?_
              refine PW.jz_eq q_66_55 rfl (fun h39 => False.elim (by omega)) (fun h39 => ?_)
              refine PW.aload_n q_66_58 rfl ?_
              refine PW.cB q_66_59 (by decide) fun c40 hc40 => ?_
              refine PW.cV (as := [_]) (rest := []) q_66_61 t_mv_66_51 kd_1 IM34.1 (by decide) rfl (by decide) rfl rfl (Nat.le_of_ble_eq_true rfl) (Nat.le_of_ble_eq_true rfl) (by decide) (by decide) ?_
              refine PW.up (by decide) (c_X7_needsSign_vk (gT6 G) ((Stab6 G)) G _ M34 IM34 c40 y (i + 2) (PtM32.cg (UM34.1 _ (g_ne kd_1 kd_274 (by decide))) (UM34.1 _ (g_ne kd_2 kd_274 (by decide)))) fun x42 M41 IM41 GM41 hx42 kx42 PM41 => ?_)
              have FM41 := Fr.trans FM34 GM41 (rfl)
              rcases PM41 with ⟨PaM41, PbM41, PcM41, PtM41⟩ | ⟨PaM41, PnM41, PfM41, PgM41⟩
              · skip
                refine PW.jz_ne q_66_64 rfl (fun h43 => ?_) (fun h43 => False.elim (by omega))
                refine PW.aload_n q_66_69 rfl ?_
                refine PW.dup q_66_70 rfl ?_
                refine PW.gE q_66_71 (Or.inl t_ft_66_21) gF_23_0 kd_272 IM41.1 (by decide) ((congrArg (fun e => o_f e 0) (Fr.at GM41 kd_272 (by decide))).trans ((congrArg (fun e => o_f e 0) (UM34.1 _ (g_ne kd_272 kd_274 (by decide)))).trans ((congrArg (fun e => o_f e 0) (Fr.at GM32 kd_272 (by decide))).trans ((congrArg (fun e => o_f e 0) (UM29 _ (g_ne kd_272 kd_273 (by decide)))).trans ((congrArg (fun e => o_f e 0) (Fr.at GM28 kd_272 (by decide))).trans fx25))))) ?_
                refine PW.cI q_66_74 (by decide) fun c44 hc44 => ?_
                refine PW.addN q_66_75 (by omega) (by omega) fun x45 hx45 => ?_
                have hdM46 := o_i_of ((congrArg (fun e => o_f e 0) (Fr.at GM41 kd_272 (by decide))).trans ((congrArg (fun e => o_f e 0) (UM34.1 _ (g_ne kd_272 kd_274 (by decide)))).trans ((congrArg (fun e => o_f e 0) (Fr.at GM32 kd_272 (by decide))).trans ((congrArg (fun e => o_f e 0) (UM29 _ (g_ne kd_272 kd_273 (by decide)))).trans ((congrArg (fun e => o_f e 0) (Fr.at GM28 kd_272 (by decide))).trans fx25)))))
                refine PW.pB q_66_76 (Or.inl t_ft_66_21) gF_23_0 gP_23_0 kd_272 IM41.1 (by decide) (by omega) (by omega) fun M46 JM46 fM46 UM46 => ?_
                have IM46 : Iv (gT6 G) M46 := ⟨JM46, UM46.TT kd_272 rfl rfl IM41.2.1, gS6.inc IM41.2.2 UM46 fM46 hdM46 (by omega) (by omega) ⟨16, (by decide), by rw [((Fr.at GM41 kd_273 (by decide)).trans ((UM34.1 _ (g_ne kd_273 kd_274 (by decide))).trans (Fr.at GM32 kd_273 (by decide))))]; exact fM29, Or.inl rfl⟩⟩
                have FM46 := Fr.pu FM41 UM46.1 kd_272 (rfl : List.contains [1, 23, 24, 25] 23 = true)
                refine PW.incN q_66_79 rfl (by decide) (by decide) (by omega) (by omega) fun x47 hx47 => ?_
                refine PW.goto q_66_82 rfl ?_
                have e0 : (l_line y f m v8.toInt i).1 = 0 := by rw [el]
                have e2 : (l_line y f m v8.toInt i).2.2 = i + 2 := by rw [el]
                refine PW.lvS (lk1 rfl (lk1 rfl (lk1 rfl (lk1 rfl lk0)))) (ih_L66_14_7 _ ?_ M46 x47 IM46 FM46 (by omega) (by omega) ⟨(l_line y f m v8.toInt i).2.2 + 1, (by rw [e2]; exact (PtM41.cg (UM46.1 _ (g_ne kd_1 kd_272 (by decide))) (UM46.1 _ (g_ne kd_2 kd_272 (by decide))))), by rw [E, show (41 - v8.toInt).toNat = (41 - x47.toInt).toNat + 1 from by omega, show x47.toInt = v8.toInt + 1 from by omega]; exact l_ls_s PbM13 e0 (by rw [e2]; exact ⟨PbM41, PcM41.trans (by omega)⟩)⟩ (by have w := o_i_of fM46; omega) (((UM46.1 _ (g_ne kd_4 kd_272 (by decide))).trans ((Fr.at GM41 kd_4 (by decide)).trans ((UM34.1 _ (g_ne kd_4 kd_274 (by decide))).trans ((Fr.at GM32 kd_4 (by decide)).trans ((UM29 _ (g_ne kd_4 kd_273 (by decide))).trans (Fr.at GM28 kd_4 (by decide))))))).trans hbL66_14_74) (((UM46.1 _ (g_ne kd_5 kd_272 (by decide))).trans ((Fr.at GM41 kd_5 (by decide)).trans ((UM34.1 _ (g_ne kd_5 kd_274 (by decide))).trans ((Fr.at GM32 kd_5 (by decide)).trans ((UM29 _ (g_ne kd_5 kd_273 (by decide))).trans (Fr.at GM28 kd_5 (by decide))))))).trans hbL66_14_75) rfl)
                omega
              · skip
                refine PW.jz_ne q_66_64 rfl (fun h48 => False.elim (by omega)) (fun h48 => ?_)
                refine PW.cI q_66_67 (by decide) fun c49 hc49 => ?_
                refine PW.rZ q_66_68 rfl (by omega) (by omega) (by decide) (by decide) ?_
                have e0 : (l_line y f m v8.toInt i).1 = 0 := by rw [el]
                have e2 : (l_line y f m v8.toInt i).2.2 = i + 2 := by rw [el]
                exact hK c49 M41 IM41 FM41 (by omega) (by omega) (by unfold l_q; rw [E, l_ls_g (by omega) PbM13 e0 (by rw [e2]; exact fun q => PnM41 ⟨q.1, q.2.trans (by omega)⟩), e2]; exact Or.inr ⟨by omega, (by omega : (1 : Int) ≠ 0), (by omega : o_i (M41 1) 10 = 1), (by omega : o_i (M41 1) 11 = kP y (i + 2))⟩)
            · skip
              have el : l_line y f m v8.toInt i = (k_nr y (i + 1) 1 60, kP y (i + 1), 0) := by unfold l_line; rw [if_pos ⟨by omega, by omega⟩, if_neg (by omega), if_pos PzM32]
              have hdM50 := o_i_of ((congrArg (fun e => o_f e 0) (Fr.at GM32 kd_272 (by decide))).trans ((congrArg (fun e => o_f e 0) (UM29 _ (g_ne kd_272 kd_273 (by decide)))).trans ((congrArg (fun e => o_f e 0) (Fr.at GM28 kd_272 (by decide))).trans fx25)))
              refine PW.wB q_67_46 gA_25 kd_274 IM32.1 (by decide) (by omega) (by omega) ⟨n_lo _, n_hi _⟩ fun M50 JM50 fM50 UM50 => ?_
              have IM50 : Iv (gT6 G) M50 := ⟨JM50, gAT UM50.1 kd_274 (by decide) rfl IM32.2.1, gS6.w (q := x25.toInt.toNat) IM32.2.2 (UM50.1 272 (by decide)) (fun z _ => by rw [UM50.1 273 (by decide)]) UM50.2 (by omega)⟩
              have FM50 := Fr.pu FM32 UM50.1 kd_274 (rfl : List.contains [1, 23, 24, 25] 25 = true)
              refine PW.aload_n q_67_47 rfl ?_
              refine PW.gR 274 q_67_48 (Or.inl t_ft_67_17) gF_23_2 kd_272 IM50.1 (by decide) rfl ?_
              refine PW.aload_n q_67_51 rfl ?_
              refine PW.gE q_67_52 (Or.inl t_ft_67_21) gF_23_0 kd_272 IM50.1 (by decide) ((congrArg (fun e => o_f e 0) (UM50.1 _ (g_ne kd_272 kd_274 (by decide)))).trans ((congrArg (fun e => o_f e 0) (Fr.at GM32 kd_272 (by decide))).trans ((congrArg (fun e => o_f e 0) (UM29 _ (g_ne kd_272 kd_273 (by decide)))).trans ((congrArg (fun e => o_f e 0) (Fr.at GM28 kd_272 (by decide))).trans fx25)))) ?_
              refine PW.aH q_67_55 gA_25 kd_274 IM50.1 (by decide) (by omega) (by omega) fun x51 fx51 => ?_
              have ezx51 : x51.toInt = x33.toInt := by rw [← fx51, fM50]
              refine PW.cI q_67_56 (by decide) fun c52 hc52 => ?_
              refine PW.jc_eq q_67_57 rfl (fun h53 => ?_) (fun h53 => False.elim (by omega))
              refine PW.cI q_67_64 (by decide) fun c54 hc54 => ?_
              refine PW.rZ q_67_65 rfl (by omega) (by omega) (by decide) (by decide) ?_
              refine PW.goto q_66_42 rfl ?_
              refine PW.istore q_66_51 (by decide) ?_
              refine PW.iload q_66_53 rfl ?_
              refine PW.jz_eq q_66_55 rfl (fun h55 => ?_) (fun h55 => False.elim (by omega))
              refine PW.cI q_66_67 (by decide) fun c56 hc56 => ?_
              refine PW.rZ q_66_68 rfl (by omega) (by omega) (by decide) (by decide) ?_
              have kb4 := k_nr_b4 y (i + 1) 1 60
              have g10 : o_i (M50 1) 10 = o_i (M32 1) 10 := (congrArg (fun e => o_i e 10) (UM50.1 1 (by decide)))
              have g11 : o_i (M50 1) 11 = o_i (M32 1) 11 := (congrArg (fun e => o_i e 11) (UM50.1 1 (by decide)))
              have e0 : (l_line y f m v8.toInt i).1 ≠ 0 := by rw [el]; exact (by omega : (k_nr y (i + 1) 1 60 : Int) ≠ 0)
              exact hK c56 M50 IM50 FM50 (by omega) (by omega) (by unfold l_q; rw [E, l_ls_f (by omega) PbM13 e0, el]; exact Or.inr ⟨by omega, (by omega : (k_nr y (i + 1) 1 60 : Int) ≠ 0), (by omega : o_i (M50 1) 10 = k_nr y (i + 1) 1 60), (by omega : o_i (M50 1) 11 = kP y (i + 1))⟩)
          · skip
            refine PW.aload_n q_67_9 rfl ?_
            refine PW.cI q_67_10 (by decide) fun c57 hc57 => ?_
            refine PW.cV (as := [_]) (rest := []) q_67_11 t_mv_67_58 kd_1 IML66_14_7.1 (by decide) rfl (by decide) rfl rfl (Nat.le_of_ble_eq_true rfl) (Nat.le_of_ble_eq_true rfl) (by decide) (by decide) ?_
            refine PW.up (by decide) (c_X7_fail_vk (gT6 G) ((Stab6 G)) G _ ML66_14_7 IML66_14_7 c57 y (i) T fun x59 M58 IM58 GM58 hx59 kx59 PM58 => ?_)
            have FM58 := Fr.trans FML66_14_7 GM58 (rfl)
            rcases PM58 with ⟨PfM58, PgM58⟩
            have el : l_line y f m v8.toInt i = (4, kP y i, 0) := by unfold l_line; rw [if_pos ⟨by omega, by omega⟩, if_pos (by omega)]
            refine PW.rZ q_67_14 rfl (by omega) (by omega) (by decide) (by decide) ?_
            refine PW.goto q_66_42 rfl ?_
            refine PW.istore q_66_51 (by decide) ?_
            refine PW.iload q_66_53 rfl ?_
            refine PW.jz_eq q_66_55 rfl (fun h60 => ?_) (fun h60 => False.elim (by omega))
            refine PW.cI q_66_67 (by decide) fun c61 hc61 => ?_
            refine PW.rZ q_66_68 rfl (by omega) (by omega) (by decide) (by decide) ?_
            have kb4 := k_nr_b4 y (i + 1) 1 60
            have g10 : o_i (M58 1) 10 = o_i (M58 1) 10 := rfl
            have g11 : o_i (M58 1) 11 = o_i (M58 1) 11 := rfl
            have e0 : (l_line y f m v8.toInt i).1 ≠ 0 := by rw [el]; exact (by omega : (4 : Int) ≠ 0)
            exact hK c61 M58 IM58 FM58 (by omega) (by omega) (by unfold l_q; rw [E, l_ls_f (by omega) PbM13 e0, el]; exact Or.inr ⟨by omega, (by omega : (4 : Int) ≠ 0), (by omega : o_i (M58 1) 10 = 4), (by omega : o_i (M58 1) 11 = kP y i)⟩)
        · skip
          have snM22 : kK y (i) = 2 → s_wn y (i) ≠ 16 := fun h q => PnM22 ⟨h, (s_wn_iff (show 16 < 28 by decide)).mpr q⟩
          refine PW.jz_eq q_66_34 rfl (fun h62 => ?_) (fun h62 => False.elim (by omega))
          refine PW.aload_n q_66_45 rfl ?_
          refine PW.aload_n q_66_46 rfl ?_
          refine PW.aload_n q_66_47 rfl ?_
          refine PW.cV (as := [_, _]) (rest := []) q_66_48 t_mv_66_47 kd_272 IML66_14_7.1 (by decide) rfl (by decide) rfl rfl (Nat.le_of_ble_eq_true rfl) (Nat.le_of_ble_eq_true rfl) (by decide) (by decide) ?_
          refine PW.aload_n q_68_0 rfl ?_
          refine PW.aload_n q_68_1 rfl ?_
          refine PW.gR 5 q_68_2 (Or.inr t_fN_68_68) gF_4_8 kd_4 IML66_14_7.1 (by decide) rfl ?_
          refine PW.aload_n q_68_5 rfl ?_
          refine PW.gI q_68_6 (Or.inr t_fN_68_74) gF_4_6 kd_4 IML66_14_7.1 (by decide) fun x63 fx63 hx63 kx63 => ?_
          have ix63 := o_i_of fx63
          refine PW.cV (as := [_, _]) (rest := []) q_68_9 t_mv_68_77 kd_1 IML66_14_7.1 (by decide) rfl (by decide) rfl rfl (Nat.le_of_ble_eq_true rfl) (Nat.le_of_ble_eq_true rfl) (by decide) (by decide) ?_
          refine PW.up (by decide) (c_X7_needsKnown_vk (gT6 G) ((Stab6 G)) G _ ML66_14_7 IML66_14_7 5 kd_5 x63 (by omega) (by omega) y (i) f m T (hp_2.cg hbL66_14_74 hbL66_14_75).2 (by have w := (hp_2.cg hbL66_14_74 hbL66_14_75).1; omega) fun x65 M64 IM64 GM64 hx65 kx65 PM64 => ?_)
          have FM64 := Fr.trans FML66_14_7 GM64 (rfl)
          rcases PM64 with ⟨PaM64, PbM64, PfM64, PgM64⟩ | ⟨PaM64, PbM64, PcM64, PfM64, PgM64⟩ | ⟨PaM64, PbM64, PcM64, PtM64⟩
          · skip
            have el : l_line y f m v8.toInt i = (1, kP y i, 0) := by unfold l_line; rw [if_neg (by omega), if_pos PaM64]
            refine PW.istore_n q_68_12 (by decide) ?_
            refine PW.iload_n q_68_13 rfl ?_
            refine PW.cI q_68_14 (by decide) fun c66 hc66 => ?_
            refine PW.jc_ne q_68_15 rfl (fun h67 => False.elim (by omega)) (fun h67 => ?_)
            refine PW.cI q_68_18 (by decide) fun c68 hc68 => ?_
            refine PW.rZ q_68_19 rfl (by omega) (by omega) (by decide) (by decide) ?_
            refine PW.istore q_66_51 (by decide) ?_
            refine PW.iload q_66_53 rfl ?_
            refine PW.jz_eq q_66_55 rfl (fun h69 => ?_) (fun h69 => False.elim (by omega))
            refine PW.cI q_66_67 (by decide) fun c70 hc70 => ?_
            refine PW.rZ q_66_68 rfl (by omega) (by omega) (by decide) (by decide) ?_
            have kb4 := k_nr_b4 y (i + 1) 1 60
            have g10 : o_i (M64 1) 10 = o_i (M64 1) 10 := rfl
            have g11 : o_i (M64 1) 11 = o_i (M64 1) 11 := rfl
            have e0 : (l_line y f m v8.toInt i).1 ≠ 0 := by rw [el]; exact (by omega : (1 : Int) ≠ 0)
            exact hK c70 M64 IM64 FM64 (by omega) (by omega) (by unfold l_q; rw [E, l_ls_f (by omega) PbM13 e0, el]; exact Or.inr ⟨by omega, (by omega : (1 : Int) ≠ 0), (by omega : o_i (M64 1) 10 = 1), (by omega : o_i (M64 1) 11 = kP y i)⟩)
          · skip
            have el : l_line y f m v8.toInt i = (3, kP y i, 0) := by unfold l_line; rw [if_neg (by omega), if_neg (by omega), if_pos PbM64]
            refine PW.istore_n q_68_12 (by decide) ?_
            refine PW.iload_n q_68_13 rfl ?_
            refine PW.cI q_68_14 (by decide) fun c71 hc71 => ?_
            refine PW.jc_ne q_68_15 rfl (fun h72 => False.elim (by omega)) (fun h72 => ?_)
            refine PW.cI q_68_18 (by decide) fun c73 hc73 => ?_
            refine PW.rZ q_68_19 rfl (by omega) (by omega) (by decide) (by decide) ?_
            refine PW.istore q_66_51 (by decide) ?_
            refine PW.iload q_66_53 rfl ?_
            refine PW.jz_eq q_66_55 rfl (fun h74 => ?_) (fun h74 => False.elim (by omega))
            refine PW.cI q_66_67 (by decide) fun c75 hc75 => ?_
            refine PW.rZ q_66_68 rfl (by omega) (by omega) (by decide) (by decide) ?_
            have kb4 := k_nr_b4 y (i + 1) 1 60
            have g10 : o_i (M64 1) 10 = o_i (M64 1) 10 := rfl
            have g11 : o_i (M64 1) 11 = o_i (M64 1) 11 := rfl
            have e0 : (l_line y f m v8.toInt i).1 ≠ 0 := by rw [el]; exact (by omega : (3 : Int) ≠ 0)
            exact hK c75 M64 IM64 FM64 (by omega) (by omega) (by unfold l_q; rw [E, l_ls_f (by omega) PbM13 e0, el]; exact Or.inr ⟨by omega, (by omega : (3 : Int) ≠ 0), (by omega : o_i (M64 1) 10 = 3), (by omega : o_i (M64 1) 11 = kP y i)⟩)
          · skip
            have knM64 := s_ni_K PaM64
            have lkM64 : o_i (M64 272) 0 = v8.toInt := ((congrArg (fun e => o_i e 0) (Fr.at GM64 kd_272 (by decide)))).trans lc
            refine PW.istore_n q_68_12 (by decide) ?_
            refine PW.iload_n q_68_13 rfl ?_
            refine PW.cI q_68_14 (by decide) fun c76 hc76 => ?_
            refine PW.jc_ne q_68_15 rfl (fun h77 => ?_) (fun h77 => False.elim (by omega))
            refine PW.aload_n q_68_20 rfl ?_
            refine PW.gI q_68_21 (Or.inl t_ft_68_21) gF_23_0 kd_272 IM64.1 (by decide) fun x78 fx78 hx78 kx78 => ?_
            have ix78 := o_i_of fx78
            refine PW.cB q_68_24 (by decide) fun c79 hc79 => ?_
            refine PW.jc_lt q_68_26 rfl (fun h80 => ?_) (fun h80 => ?_)
            · skip
              refine PW.aload_n q_68_35 rfl ?_
              refine PW.cV (as := []) (rest := []) q_68_36 t_mv_68_61 kd_1 IM64.1 (by decide) rfl (by decide) rfl rfl (Nat.le_of_ble_eq_true rfl) (Nat.le_of_ble_eq_true rfl) (by decide) (by decide) ?_
              refine PW.up (by decide) (c_X7_advance_vk (gT6 G) ((Stab6 G)) G _ M64 IM64 y (i + 1) (k_at.nx PtM64 (by omega)) fun M81 IM81 GM81 PM81 => ?_)
              have FM81 := Fr.trans FM64 GM81 (rfl)
              have PtM81 := PM81
              refine PW.aload_n q_68_39 rfl ?_
              refine PW.callS (as := [_]) (rest := []) q_68_40 t_ms_68_81 (by decide) rfl (Nat.le_of_ble_eq_true rfl) (Nat.le_of_ble_eq_true rfl) (by decide) (by decide) ?_
              refine PW.up (by decide) (c_X6_seesDeed_vk (gT6 G) ((Stab6 G)) G _ M81 IM81 y (i + 1) PtM81 fun x83  hx83 kx83 PM82 => ?_)
              rcases PM82 with ⟨PaM82, PbM82, PcM82, PdM82⟩ | ⟨PaM82, PnM82⟩
              · skip
                refine PW.jz_ne q_68_43 rfl (fun h84 => ?_) (fun h84 => False.elim (by omega))
                refine PW.aload_n q_68_52 rfl ?_
                refine PW.gR 273 q_68_53 (Or.inl t_ft_68_11) gF_23_1 kd_272 IM81.1 (by decide) rfl ?_
                refine PW.aload_n q_68_56 rfl ?_
                refine PW.gE q_68_57 (Or.inl t_ft_68_21) gF_23_0 kd_272 IM81.1 (by decide) ((congrArg (fun e => o_f e 0) (Fr.at GM81 kd_272 (by decide))).trans fx78) ?_
                refine PW.aload_n q_68_60 rfl ?_
                refine PW.gW q_68_61 (Or.inr t_fN_68_84) gF_1_6 kd_1 IM81.1 (by decide) fun r85 hr85 fr85 => ?_
                have el : l_line y f m v8.toInt i = (0, 0, i + 2) := by unfold l_line; rw [if_neg (by omega), if_neg (by omega), if_neg (by omega), if_neg (by omega), if_neg (not_not_intro ⟨PbM82, PcM82, PdM82⟩)]
                have hdM86 := o_i_of ((congrArg (fun e => o_f e 0) (Fr.at GM81 kd_272 (by decide))).trans fx78)
                refine PW.wWB (r := some (65536 + r85)) q_68_64 (rfl : g_sh 24 = (4, 8, 40)) kd_273 IM81.1 (by decide) (by omega) (by omega) (Or.inr ⟨r85, hr85, rfl⟩) fun M86 JM86 UM86 fM86 gM86 => ?_
                have IM86 : Iv (gT6 G) M86 := ⟨JM86, gAT UM86 kd_273 (by decide) rfl IM81.2.1, gS6.w (q := x78.toInt.toNat) IM81.2.2 (UM86 272 (by decide)) gM86 (fun z _ => by rw [UM86 274 (by decide)]) (by omega)⟩
                have FM86 := Fr.pu FM81 UM86 kd_273 (rfl : List.contains [1, 23, 24, 25] 24 = true)
                refine PW.aload_n q_68_65 rfl ?_
                refine PW.gR 274 q_68_66 (Or.inl t_ft_68_17) gF_23_2 kd_272 IM86.1 (by decide) rfl ?_
                refine PW.aload_n q_68_69 rfl ?_
                refine PW.gE q_68_70 (Or.inl t_ft_68_21) gF_23_0 kd_272 IM86.1 (by decide) ((congrArg (fun e => o_f e 0) (UM86 _ (g_ne kd_272 kd_273 (by decide)))).trans ((congrArg (fun e => o_f e 0) (Fr.at GM81 kd_272 (by decide))).trans fx78)) ?_
                refine PW.iload_n q_68_73 rfl ?_
                have hdM87 := o_i_of ((congrArg (fun e => o_f e 0) (UM86 _ (g_ne kd_272 kd_273 (by decide)))).trans ((congrArg (fun e => o_f e 0) (Fr.at GM81 kd_272 (by decide))).trans fx78))
                refine PW.wB q_68_74 gA_25 kd_274 IM86.1 (by decide) (by omega) (by omega) ⟨n_lo _, n_hi _⟩ fun M87 JM87 fM87 UM87 => ?_
                have IM87 : Iv (gT6 G) M87 := ⟨JM87, gAT UM87.1 kd_274 (by decide) rfl IM86.2.1, gS6.w (q := x78.toInt.toNat) IM86.2.2 (UM87.1 272 (by decide)) (fun z _ => by rw [UM87.1 273 (by decide)]) UM87.2 (by omega)⟩
                have FM87 := Fr.pu FM86 UM87.1 kd_274 (rfl : List.contains [1, 23, 24, 25] 25 = true)
                refine PW.aload_n q_68_75 rfl ?_
                refine PW.cV (as := []) (rest := []) q_68_76 t_mv_68_61 kd_1 IM87.1 (by decide) rfl (by decide) rfl rfl (Nat.le_of_ble_eq_true rfl) (Nat.le_of_ble_eq_true rfl) (by decide) (by decide) ?_
                refine PW.up (by decide) (c_X7_advance_vk (gT6 G) ((Stab6 G)) G _ M87 IM87 y (i + 1 + 1) (k_at.nx (PtM81.cg ((UM87.1 _ (g_ne kd_1 kd_274 (by decide))).trans (UM86 _ (g_ne kd_1 kd_273 (by decide)))) ((UM87.1 _ (g_ne kd_2 kd_274 (by decide))).trans (UM86 _ (g_ne kd_2 kd_273 (by decide))))) (by omega)) fun M88 IM88 GM88 PM88 => ?_)
                have FM88 := Fr.trans FM87 GM88 (rfl)
                have PtM88 := PM88
                refine PW.cI q_68_79 (by decide) fun c89 hc89 => ?_
                refine PW.rZ q_68_80 rfl (by omega) (by omega) (by decide) (by decide) ?_
                refine PW.istore q_66_51 (by decide) ?_
                refine PW.iload q_66_53 rfl ?_
                refine PW.jz_eq q_66_55 rfl (fun h90 => False.elim (by omega)) (fun h90 => ?_)
                refine PW.aload_n q_66_58 rfl ?_
                refine PW.cB q_66_59 (by decide) fun c91 hc91 => ?_
                refine PW.cV (as := [_]) (rest := []) q_66_61 t_mv_66_51 kd_1 IM88.1 (by decide) rfl (by decide) rfl rfl (Nat.le_of_ble_eq_true rfl) (Nat.le_of_ble_eq_true rfl) (by decide) (by decide) ?_
                refine PW.up (by decide) (c_X7_needsSign_vk (gT6 G) ((Stab6 G)) G _ M88 IM88 c91 y (i + 2) PtM88 fun x93 M92 IM92 GM92 hx93 kx93 PM92 => ?_)
                have FM92 := Fr.trans FM88 GM92 (rfl)
                rcases PM92 with ⟨PaM92, PbM92, PcM92, PtM92⟩ | ⟨PaM92, PnM92, PfM92, PgM92⟩
                · skip
                  refine PW.jz_ne q_66_64 rfl (fun h94 => ?_) (fun h94 => False.elim (by omega))
                  refine PW.aload_n q_66_69 rfl ?_
                  refine PW.dup q_66_70 rfl ?_
                  refine PW.gE q_66_71 (Or.inl t_ft_66_21) gF_23_0 kd_272 IM92.1 (by decide) ((congrArg (fun e => o_f e 0) (Fr.at GM92 kd_272 (by decide))).trans ((congrArg (fun e => o_f e 0) (Fr.at GM88 kd_272 (by decide))).trans ((congrArg (fun e => o_f e 0) (UM87.1 _ (g_ne kd_272 kd_274 (by decide)))).trans ((congrArg (fun e => o_f e 0) (UM86 _ (g_ne kd_272 kd_273 (by decide)))).trans ((congrArg (fun e => o_f e 0) (Fr.at GM81 kd_272 (by decide))).trans fx78))))) ?_
                  refine PW.cI q_66_74 (by decide) fun c95 hc95 => ?_
                  refine PW.addN q_66_75 (by omega) (by omega) fun x96 hx96 => ?_
                  have hdM97 := o_i_of ((congrArg (fun e => o_f e 0) (Fr.at GM92 kd_272 (by decide))).trans ((congrArg (fun e => o_f e 0) (Fr.at GM88 kd_272 (by decide))).trans ((congrArg (fun e => o_f e 0) (UM87.1 _ (g_ne kd_272 kd_274 (by decide)))).trans ((congrArg (fun e => o_f e 0) (UM86 _ (g_ne kd_272 kd_273 (by decide)))).trans ((congrArg (fun e => o_f e 0) (Fr.at GM81 kd_272 (by decide))).trans fx78)))))
                  refine PW.pB q_66_76 (Or.inl t_ft_66_21) gF_23_0 gP_23_0 kd_272 IM92.1 (by decide) (by omega) (by omega) fun M97 JM97 fM97 UM97 => ?_
                  have IM97 : Iv (gT6 G) M97 := ⟨JM97, UM97.TT kd_272 rfl rfl IM92.2.1, gS6.inc IM92.2.2 UM97 fM97 hdM97 (by omega) (by omega) ⟨r85, hr85, by rw [((Fr.at GM92 kd_273 (by decide)).trans ((Fr.at GM88 kd_273 (by decide)).trans (UM87.1 _ (g_ne kd_273 kd_274 (by decide)))))]; exact fM86, Or.inr (by rw [((Fr.at GM92 kd_274 (by decide)).trans (Fr.at GM88 kd_274 (by decide))), fM87]; exact ⟨by omega, by omega⟩)⟩⟩
                  have FM97 := Fr.pu FM92 UM97.1 kd_272 (rfl : List.contains [1, 23, 24, 25] 23 = true)
                  refine PW.incN q_66_79 rfl (by decide) (by decide) (by omega) (by omega) fun x98 hx98 => ?_
                  refine PW.goto q_66_82 rfl ?_
                  have e0 : (l_line y f m v8.toInt i).1 = 0 := by rw [el]
                  have e2 : (l_line y f m v8.toInt i).2.2 = i + 2 := by rw [el]
                  refine PW.lvS (lk1 rfl (lk1 rfl (lk1 rfl (lk1 rfl lk0)))) (ih_L66_14_7 _ ?_ M97 x98 IM97 FM97 (by omega) (by omega) ⟨(l_line y f m v8.toInt i).2.2 + 1, (by rw [e2]; exact (PtM92.cg (UM97.1 _ (g_ne kd_1 kd_272 (by decide))) (UM97.1 _ (g_ne kd_2 kd_272 (by decide))))), by rw [E, show (41 - v8.toInt).toNat = (41 - x98.toInt).toNat + 1 from by omega, show x98.toInt = v8.toInt + 1 from by omega]; exact l_ls_s PbM13 e0 (by rw [e2]; exact ⟨PbM92, PcM92.trans (by omega)⟩)⟩ (by have w := o_i_of fM97; omega) (((UM97.1 _ (g_ne kd_4 kd_272 (by decide))).trans ((Fr.at GM92 kd_4 (by decide)).trans ((Fr.at GM88 kd_4 (by decide)).trans ((UM87.1 _ (g_ne kd_4 kd_274 (by decide))).trans ((UM86 _ (g_ne kd_4 kd_273 (by decide))).trans ((Fr.at GM81 kd_4 (by decide)).trans (Fr.at GM64 kd_4 (by decide)))))))).trans hbL66_14_74) (((UM97.1 _ (g_ne kd_5 kd_272 (by decide))).trans ((Fr.at GM92 kd_5 (by decide)).trans ((Fr.at GM88 kd_5 (by decide)).trans ((UM87.1 _ (g_ne kd_5 kd_274 (by decide))).trans ((UM86 _ (g_ne kd_5 kd_273 (by decide))).trans ((Fr.at GM81 kd_5 (by decide)).trans (Fr.at GM64 kd_5 (by decide)))))))).trans hbL66_14_75) rfl)
                  omega
                · skip
                  refine PW.jz_ne q_66_64 rfl (fun h99 => False.elim (by omega)) (fun h99 => ?_)
                  refine PW.cI q_66_67 (by decide) fun c100 hc100 => ?_
                  refine PW.rZ q_66_68 rfl (by omega) (by omega) (by decide) (by decide) ?_
                  have e0 : (l_line y f m v8.toInt i).1 = 0 := by rw [el]
                  have e2 : (l_line y f m v8.toInt i).2.2 = i + 2 := by rw [el]
                  exact hK c100 M92 IM92 FM92 (by omega) (by omega) (by unfold l_q; rw [E, l_ls_g (by omega) PbM13 e0 (by rw [e2]; exact fun q => PnM92 ⟨q.1, q.2.trans (by omega)⟩), e2]; exact Or.inr ⟨by omega, (by omega : (1 : Int) ≠ 0), (by omega : o_i (M92 1) 10 = 1), (by omega : o_i (M92 1) 11 = kP y (i + 2))⟩)
              · skip
                refine PW.jz_ne q_68_43 rfl (fun h101 => False.elim (by omega)) (fun h101 => ?_)
                refine PW.aload_n q_68_46 rfl ?_
                refine PW.cI q_68_47 (by decide) fun c102 hc102 => ?_
                refine PW.cV (as := [_]) (rest := []) q_68_48 t_mv_68_58 kd_1 IM81.1 (by decide) rfl (by decide) rfl rfl (Nat.le_of_ble_eq_true rfl) (Nat.le_of_ble_eq_true rfl) (by decide) (by decide) ?_
                refine PW.up (by decide) (c_X7_fail_vk (gT6 G) ((Stab6 G)) G _ M81 IM81 c102 y (i + 1) PtM81 fun x104 M103 IM103 GM103 hx104 kx104 PM103 => ?_)
                have FM103 := Fr.trans FM81 GM103 (rfl)
                rcases PM103 with ⟨PfM103, PgM103⟩
                have el : l_line y f m v8.toInt i = (1, kP y (i + 1), 0) := by unfold l_line; rw [if_neg (by omega), if_neg (by omega), if_neg (by omega), if_neg (by omega), if_pos PnM82]
                refine PW.rZ q_68_51 rfl (by omega) (by omega) (by decide) (by decide) ?_
                refine PW.istore q_66_51 (by decide) ?_
                refine PW.iload q_66_53 rfl ?_
                refine PW.jz_eq q_66_55 rfl (fun h105 => ?_) (fun h105 => False.elim (by omega))
                refine PW.cI q_66_67 (by decide) fun c106 hc106 => ?_
                refine PW.rZ q_66_68 rfl (by omega) (by omega) (by decide) (by decide) ?_
                have kb4 := k_nr_b4 y (i + 1) 1 60
                have g10 : o_i (M103 1) 10 = o_i (M103 1) 10 := rfl
                have g11 : o_i (M103 1) 11 = o_i (M103 1) 11 := rfl
                have e0 : (l_line y f m v8.toInt i).1 ≠ 0 := by rw [el]; exact (by omega : (1 : Int) ≠ 0)
                exact hK c106 M103 IM103 FM103 (by omega) (by omega) (by unfold l_q; rw [E, l_ls_f (by omega) PbM13 e0, el]; exact Or.inr ⟨by omega, (by omega : (1 : Int) ≠ 0), (by omega : o_i (M103 1) 10 = 1), (by omega : o_i (M103 1) 11 = kP y (i + 1))⟩)
            · skip
              refine PW.aload_n q_68_29 rfl ?_
              refine PW.cI q_68_30 (by decide) fun c107 hc107 => ?_
              refine PW.cV (as := [_]) (rest := []) q_68_31 t_mv_68_58 kd_1 IM64.1 (by decide) rfl (by decide) rfl rfl (Nat.le_of_ble_eq_true rfl) (Nat.le_of_ble_eq_true rfl) (by decide) (by decide) ?_
              refine PW.up (by decide) (c_X7_fail_vk (gT6 G) ((Stab6 G)) G _ M64 IM64 c107 y (i) PtM64 fun x109 M108 IM108 GM108 hx109 kx109 PM108 => ?_)
              have FM108 := Fr.trans FM64 GM108 (rfl)
              rcases PM108 with ⟨PfM108, PgM108⟩
              have el : l_line y f m v8.toInt i = (4, kP y i, 0) := by unfold l_line; rw [if_neg (by omega), if_neg (by omega), if_neg (by omega), if_pos (by omega)]
              refine PW.rZ q_68_34 rfl (by omega) (by omega) (by decide) (by decide) ?_
              refine PW.istore q_66_51 (by decide) ?_
              refine PW.iload q_66_53 rfl ?_
              refine PW.jz_eq q_66_55 rfl (fun h110 => ?_) (fun h110 => False.elim (by omega))
              refine PW.cI q_66_67 (by decide) fun c111 hc111 => ?_
              refine PW.rZ q_66_68 rfl (by omega) (by omega) (by decide) (by decide) ?_
              have kb4 := k_nr_b4 y (i + 1) 1 60
              have g10 : o_i (M108 1) 10 = o_i (M108 1) 10 := rfl
              have g11 : o_i (M108 1) 11 = o_i (M108 1) 11 := rfl
              have e0 : (l_line y f m v8.toInt i).1 ≠ 0 := by rw [el]; exact (by omega : (4 : Int) ≠ 0)
              exact hK c111 M108 IM108 FM108 (by omega) (by omega) (by unfold l_q; rw [E, l_ls_f (by omega) PbM13 e0, el]; exact Or.inr ⟨by omega, (by omega : (4 : Int) ≠ 0), (by omega : o_i (M108 1) 10 = 4), (by omega : o_i (M108 1) 11 = kP y i)⟩)
  exact PW.lvS (lk1 rfl (lk1 rfl (lk1 rfl (lk1 rfl lk0)))) (L66_14_7 _ M5 c6 IM5 FM5 (by omega) (by omega) ⟨0, PtM5, by rw [show (41 - c6.toInt).toNat = 41 from by omega, show c6.toInt = 0 from by omega]⟩ (by have w := o_i_of ((congrArg (fun e => o_f e 0) (Fr.at GM5 kd_272 (by decide))).trans fM2); omega) ((Fr.at GM5 kd_4 (by decide)).trans (UM2.1 _ (g_ne kd_4 kd_272 (by decide)))) ((Fr.at GM5 kd_5 (by decide)).trans (UM2.1 _ (g_ne kd_5 kd_272 (by decide)))) rfl)
