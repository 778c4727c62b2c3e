/-- a word that a token is not, closed to omega -/
def s_nw (x : k_X) (i r : Nat) : Prop := kK x i = 2 → s_wn x i ≠ r
theorem s_nw.n {x : k_X} {i r : Nat} (h : s_nw x i r) : ¬ (kK x i = 2 ∧ s_wn x i = r) := fun q => h q.1 q.2
set_option maxHeartbeats 10000000 in
theorem c_X12_logLine_vk (G : pG) (Kr : pK) (M : pM) (I : Iv gTT M) (y : k_X) (i : Nat) (f : Nat → Int) (m : Int) (n : Int) (hp_0 : k_ra y M i) (hp_1 : r_nm M f m) (hp_2 : gLl M n) (hp_3 : o_i (M 294) 29 = n) (hp_4 : 0 ≤ n) (hp_5 : n ≤ 40) (hK : ∀ (x : Int32) (M1 : pM), Iv gTT M1 → Fr [40, 44] M M1 → 0 ≤ x.toInt → x.toInt ≤ 1 → (gKl [4, 11, 12, 13, 14, 15, 16, 17, 18] M M1 ∧ ((x.toInt = 1 ∧ (l_line y f m n i).1 = 0 ∧ n ≤ 39 ∧ k_ra y M1 (l_line y f m n i).2.2 ∧ gLl M1 (n + 1)) ∨ (x.toInt = 0 ∧ (l_line y f m n i).1 ≠ 0 ∧ o_i (M1 294) 15 = (l_line y f m n i).1 ∧ o_i (M1 294) 16 = (l_line y f m n i).2.1))) → Kr.1 (some (.int x)) 311 M1) : PW G false 3 257 (p_mc 257) (p_msl 257) Kr 0 (lv_args 0 [.ref 294]) [] 311 M 0 0 := by
  have F : Fr [40, 44] M M := Fr.refl
  refine PW.cI q_257_0 (by decide) fun c1 hc1 => ?_
  refine PW.aload_n q_257_1 rfl ?_
  refine PW.gI q_257_2 (Or.inl t_ft_257_369) gF_40_29 kd_294 I.1 (by decide) fun x2 fx2 hx2 kx2 => ?_
  have ix2 := o_i_of fx2
  have trx2 := o_i_of fx2
  refine PW.mulN q_257_5 (2) (by omega) x2 (fun h => n_eq.mpr (by omega)) (fun h => n_eq.mpr (by omega)) (by omega) (by omega) fun x3 hx3 => ?_
  refine PW.istore_n q_257_6 (by decide) ?_
  refine PW.aload_n q_257_7 rfl ?_
  refine PW.ldc2 q_257_8 t_lt_257_110 ?_
  refine PW.nmLk fun l4 el4 => ?_
  refine PW.cV (as := [_]) (rest := []) q_257_11 t_mv_257_201 kd_294 I.1 (by decide) rfl (by decide) rfl rfl (Nat.le_of_ble_eq_true rfl) (Nat.le_of_ble_eq_true rfl) (by decide) (by decide) ?_
  refine PW.up (by decide) (c_X12_isWord_vk (gTT) (Stab0) G _ M I l4 y (i) 16 hp_0 (by rw [el4]; decide +kernel) (by decide) fun x6  hx6 kx6 PM5 => ?_)
  rcases PM5 with ⟨PaM5, PbM5, PcM5⟩ | ⟨PaM5, PnM5⟩
  · skip
    have swM5 := (s_wn_iff (x := y) (i := i) (show 16 < 28 by decide)).mp PcM5
    refine PW.istore_n q_257_14 (by decide) ?_
    refine PW.iload_n q_257_15 rfl ?_
    refine PW.jz_ne q_257_16 rfl (fun h7 => ?_) (fun h7 => False.elim (by omega))
    refine PW.aload_n q_257_35 rfl ?_
    refine PW.gE q_257_36 (Or.inl t_ft_257_369) gF_40_29 kd_294 I.1 (by decide) fx2 ?_
    have tr8 := o_i_of fx2
    refine PW.cB q_257_39 (by decide) fun c9 hc9 => ?_
    refine PW.jc_ne q_257_41 rfl (fun h10 => ?_) (fun h10 => ?_)
    · skip
      refine PW.aload_n q_257_50 rfl ?_
      refine PW.gR 298 q_257_51 (Or.inl t_ft_257_40) gF_40_8 kd_294 I.1 (by decide) rfl ?_
      refine PW.iload_n q_257_54 rfl ?_
      refine PW.cI q_257_55 (by decide) fun c11 hc11 => ?_
      refine PW.addN q_257_56 (by omega) (by omega) fun x12 hx12 => ?_
      refine PW.aload_n q_257_57 rfl ?_
      refine PW.gI q_257_58 (Or.inl t_ft_257_180) gF_40_18 kd_294 I.1 (by decide) fun x13 fx13 hx13 kx13 => ?_
      have ix13 := o_i_of fx13
      have trx13 := o_i_of fx13
      clear hx13 kx13
      refine PW.wT q_257_61 gA_44 kd_298 I (by decide) rfl gC_44_1_81 (by decide) (by omega) (by omega) (n_lo _) (n_hi _) fun M14 IM14 fM14 UM14 => ?_
      have FM14 := Fr.pu F UM14.1 kd_298 (rfl : List.contains [40, 44] 44 = true)
      have tr15 : o_i (M14 294) 29 = o_i (M 294) 29 := by rw [UM14.1 294 (g_ne kd_294 kd_298 (by decide))]
      have tr16 : o_i (M14 294) 18 = o_i (M 294) 18 := by rw [UM14.1 294 (g_ne kd_294 kd_298 (by decide))]
      refine PW.aload_n q_257_62 rfl ?_
      refine PW.cV (as := []) (rest := []) q_257_63 t_mv_257_173 kd_294 IM14.1 (by decide) rfl (by decide) rfl rfl (Nat.le_of_ble_eq_true rfl) (Nat.le_of_ble_eq_true rfl) (by decide) (by decide) ?_
      refine PW.up (by decide) (c_X12_go_vk (gTT) (Stab0) G _ M14 IM14 y (i + 1) (k_ra.nx (hp_0.cg (UM14.1 294 (by decide)) (UM14.1 295 (by decide)) (UM14.1 300 (by decide))) (by omega)) fun M17 IM17 GM17 PM17 => ?_)
      have FM17 := Fr.trans FM14 GM17 (rfl)
      rcases PM17 with ⟨QM17, PtM17⟩
      have tr18 := QM17.i 29 rfl
      have tr19 := QM17.i 18 rfl
      refine PW.iload_n q_257_66 rfl ?_
      refine PW.jz_eq q_257_67 rfl (fun h20 => False.elim (by omega)) (fun h20 => ?_)
      refine PW.aload_n q_257_70 rfl ?_
      refine PW.gR 298 q_257_71 (Or.inl t_ft_257_40) gF_40_8 kd_294 IM17.1 (by decide) rfl ?_
      refine PW.iload_n q_257_74 rfl ?_
      refine PW.cI q_257_75 (by decide) fun c21 hc21 => ?_
      refine PW.wT q_257_76 gA_44 kd_298 IM17 (by decide) rfl gC_44_0_80 (by decide) (by omega) (by omega) (n_lo _) (n_hi _) fun M22 IM22 fM22 UM22 => ?_
      have FM22 := Fr.pu FM17 UM22.1 kd_298 (rfl : List.contains [40, 44] 44 = true)
      have tr23 : o_i (M22 294) 29 = o_i (M17 294) 29 := by rw [UM22.1 294 (g_ne kd_294 kd_298 (by decide))]
      have tr24 : o_i (M22 294) 18 = o_i (M17 294) 18 := by rw [UM22.1 294 (g_ne kd_294 kd_298 (by decide))]
      refine PW.aload_n q_257_77 rfl ?_
      refine PW.cI q_257_78 (by decide) fun c25 hc25 => ?_
      refine PW.cB q_257_79 (by decide) fun c26 hc26 => ?_
      refine PW.cV (as := [_, _]) (rest := []) q_257_81 t_mv_257_183 kd_294 IM22.1 (by decide) rfl (by decide) rfl rfl (Nat.le_of_ble_eq_true rfl) (Nat.le_of_ble_eq_true rfl) (by decide) (by decide) ?_
      refine PW.up (by decide) (c_X12_takes_vk (gTT) (Stab0) G _ M22 IM22 c25 c26 y (i + 1) 1 60 (PtM17.cg (UM22.1 294 (by decide)) (UM22.1 295 (by decide)) (UM22.1 300 (by decide))) (by omega) (by omega) fun x28 M27 IM27 GM27 hx28 kx28 PM27 => ?_)
      have FM27 := Fr.trans FM22 GM27 (rfl)
      rcases PM27 with ⟨QM27, ⟨PaM27, PzM27, PvM27, PlM27, PmM27, PtM27⟩ | ⟨PaM27, PzM27, PfM27, PgM27⟩⟩
      · skip
        have tr29 := QM27.i 29 rfl
        refine PW.jz_ne q_257_84 rfl (fun h30 => ?_) (fun h30 => False.elim (by omega))
        refine PW.aload_n q_257_89 rfl ?_
        refine PW.gR 298 q_257_90 (Or.inl t_ft_257_40) gF_40_8 kd_294 IM27.1 (by decide) rfl ?_
        refine PW.iload_n q_257_93 rfl ?_
        refine PW.cI q_257_94 (by decide) fun c31 hc31 => ?_
        refine PW.addN q_257_95 (by omega) (by omega) fun x32 hx32 => ?_
        refine PW.aload_n q_257_96 rfl ?_
        refine PW.gI q_257_97 (Or.inl t_ft_257_180) gF_40_18 kd_294 IM27.1 (by decide) fun x33 fx33 hx33 kx33 => ?_
        have ix33 := o_i_of fx33
        have trx33 := o_i_of fx33
        clear hx33 kx33
        refine PW.wT q_257_100 gA_44 kd_298 IM27 (by decide) rfl gC_44_1_81 (by decide) (by omega) (by omega) (n_lo _) (n_hi _) fun M34 IM34 fM34 UM34 => ?_
        have FM34 := Fr.pu FM27 UM34.1 kd_298 (rfl : List.contains [40, 44] 44 = true)
        have tr35 : o_i (M34 294) 29 = o_i (M27 294) 29 := by rw [UM34.1 294 (g_ne kd_294 kd_298 (by decide))]
        have tr36 : o_i (M34 294) 18 = o_i (M27 294) 18 := by rw [UM34.1 294 (g_ne kd_294 kd_298 (by decide))]
        refine PW.cI q_257_101 (by decide) fun c37 hc37 => ?_
        refine PW.rZ q_257_102 rfl (by omega) (by omega) (by decide) (by decide) ?_
        have el : l_line y f m n i = (0, 0, i + 2) := by unfold l_line; rw [if_pos ⟨by omega, by omega⟩, if_neg (by omega), if_neg (not_not_intro PzM27)]
        exact hK c37 M34 IM34 FM34 (by omega) (by omega) ⟨(((((gKl.refl.cg (UM14.1 294 (by decide))).tr QM17 rfl).cg (UM22.1 294 (by decide))).tr QM27 rfl).cg (UM34.1 294 (by decide))), (Or.inl ⟨by omega, by rw [el], by omega, by rw [el]; exact (PtM27.cg (UM34.1 294 (by decide)) (UM34.1 295 (by decide)) (UM34.1 300 (by decide))), gLl.add hp_2 (by omega) (fun z hz => ((UM34.2 z (by omega)).trans ((congrFun (congrArg o_a (Fr.at GM27 kd_298 rfl)) z).trans ((UM22.2 z (by omega)).trans ((congrFun (congrArg o_a (Fr.at GM17 kd_298 rfl)) z).trans (UM14.2 z (by omega))))))) rfl (Or.inl (by rw [show (2 * n).toNat = x3.toInt.toNat from by omega, ((UM34.2 x3.toInt.toNat (by omega)).trans (congrFun (congrArg o_a (Fr.at GM27 kd_298 rfl)) x3.toInt.toNat)), fM22]; omega))⟩)⟩
      · skip
        have tr38 := QM27.i 29 rfl
        refine PW.jz_ne q_257_84 rfl (fun h39 => False.elim (by omega)) (fun h39 => ?_)
        refine PW.cI q_257_87 (by decide) fun c40 hc40 => ?_
        refine PW.rZ q_257_88 rfl (by omega) (by omega) (by decide) (by decide) ?_
        have el : l_line y f m n i = (k_nr y (i + 1) 1 60, kP y (i + 1), 0) := by unfold l_line; rw [if_pos ⟨by omega, by omega⟩, if_neg (by omega), if_pos PzM27]
        exact hK c40 M27 IM27 FM27 (by omega) (by omega) ⟨((((gKl.refl.cg (UM14.1 294 (by decide))).tr QM17 rfl).cg (UM22.1 294 (by decide))).tr QM27 rfl), (Or.inr ⟨by omega, by rw [el]; exact (by omega : (k_nr y (i + 1) 1 60 : Int) ≠ 0), by rw [el]; exact (by omega : o_i (M27 294) 15 = k_nr y (i + 1) 1 60), by rw [el]; exact (by omega : o_i (M27 294) 16 = kP y (i + 1))⟩)⟩
    · skip
      refine PW.aload_n q_257_44 rfl ?_
      refine PW.cI q_257_45 (by decide) fun c41 hc41 => ?_
      refine PW.cV (as := [_]) (rest := []) q_257_46 t_mv_257_170 kd_294 I.1 (by decide) rfl (by decide) rfl rfl (Nat.le_of_ble_eq_true rfl) (Nat.le_of_ble_eq_true rfl) (by decide) (by decide) ?_
      refine PW.up (by decide) (c_X12_bad_vk (gTT) (Stab0) G _ M I c41 y (i) hp_0 fun x43 M42 IM42 GM42 hx43 kx43 PM42 => ?_)
      have FM42 := Fr.trans F GM42 (rfl)
      rcases PM42 with ⟨QM42, ⟨PfM42, PgM42⟩⟩
      refine PW.rZ q_257_49 rfl (by omega) (by omega) (by decide) (by decide) ?_
      have el : l_line y f m n i = (4, kP y i, 0) := by unfold l_line; rw [if_pos ⟨by omega, by omega⟩, if_pos (by omega)]
      exact hK x43 M42 IM42 FM42 (by omega) (by omega) ⟨(gKl.refl.tr QM42 rfl), (Or.inr ⟨by omega, by rw [el]; exact (by omega : (4 : Int) ≠ 0), by rw [el]; exact (by omega : o_i (M42 294) 15 = 4), by rw [el]; exact (by omega : o_i (M42 294) 16 = kP y i)⟩)⟩
  · skip
    have snM5 : s_nw y (i) 16 := fun h q => PnM5 ⟨h, (s_wn_iff (show 16 < 28 by decide)).mpr q⟩
    clear PnM5
    refine PW.istore_n q_257_14 (by decide) ?_
    refine PW.iload_n q_257_15 rfl ?_
    refine PW.jz_ne q_257_16 rfl (fun h44 => False.elim (by omega)) (fun h44 => ?_)
    refine PW.aload_n q_257_19 rfl ?_
    refine PW.cI q_257_20 (by decide) fun c45 hc45 => ?_
    refine PW.aload_n q_257_21 rfl ?_
    refine PW.gR 296 q_257_22 (Or.inl t_ft_257_33) gF_40_6 kd_294 I.1 (by decide) rfl ?_
    refine PW.cI q_257_25 (by decide) fun c46 hc46 => ?_
    refine PW.aI q_257_26 gA_42 kd_296 I.1 (by decide) gB_42_0_0 (by decide) (by omega) (by omega) fun x47 fx47 hx47 kx47 => ?_
    have sm : x47.toInt = m := by rw [← fx47, show c46.toInt.toNat = 0 from by omega]; exact hp_1.1
    have sm6 := hp_1.2.1
    have sm7 := hp_1.2.2.1
    refine PW.cV (as := [_, _]) (rest := []) q_257_27 t_mv_257_217 kd_294 I.1 (by decide) rfl (by decide) rfl rfl (Nat.le_of_ble_eq_true rfl) (Nat.le_of_ble_eq_true rfl) (by decide) (by decide) ?_
    refine PW.up (by decide) (c_X12_looksAt_vk0 (gTT) (Stab0) G _ M I c45 x47 (by omega) (by omega) (by omega) (by omega) y (i) f m hp_0 hp_1 (by omega) fun x49 M48 IM48 GM48 hx49 kx49 PM48 => ?_)
    have FM48 := Fr.trans F GM48 (rfl)
    rcases PM48 with ⟨QM48, ⟨PaM48, PbM48, PfM48, PgM48⟩ | ⟨PaM48, PbM48, PcM48, PfM48, PgM48⟩ | ⟨PaM48, PbM48, PkM48, PvM48, PnM48, PtM48, P5M48⟩⟩
    · skip
      have tr50 := QM48.i 29 rfl
      refine PW.jz_ne q_257_30 rfl (fun h51 => False.elim (by omega)) (fun h51 => ?_)
      refine PW.cI q_257_33 (by decide) fun c52 hc52 => ?_
      refine PW.rZ q_257_34 rfl (by omega) (by omega) (by decide) (by decide) ?_
      have el : l_line y f m n i = (1, kP y i, 0) := by unfold l_line; rw [if_neg snM5.n, if_pos PbM48]
      exact hK c52 M48 IM48 FM48 (by omega) (by omega) ⟨(gKl.refl.tr QM48 rfl), (Or.inr ⟨by omega, by rw [el]; exact (by omega : (1 : Int) ≠ 0), by rw [el]; exact (by omega : o_i (M48 294) 15 = 1), by rw [el]; exact (by omega : o_i (M48 294) 16 = kP y i)⟩)⟩
    · skip
      have tr53 := QM48.i 29 rfl
      refine PW.jz_ne q_257_30 rfl (fun h54 => False.elim (by omega)) (fun h54 => ?_)
      refine PW.cI q_257_33 (by decide) fun c55 hc55 => ?_
      refine PW.rZ q_257_34 rfl (by omega) (by omega) (by decide) (by decide) ?_
      have el : l_line y f m n i = (3, kP y i, 0) := by unfold l_line; rw [if_neg snM5.n, if_neg (by omega), if_pos PcM48]
      exact hK c55 M48 IM48 FM48 (by omega) (by omega) ⟨(gKl.refl.tr QM48 rfl), (Or.inr ⟨by omega, by rw [el]; exact (by omega : (3 : Int) ≠ 0), by rw [el]; exact (by omega : o_i (M48 294) 15 = 3), by rw [el]; exact (by omega : o_i (M48 294) 16 = kP y i)⟩)⟩
    · skip
      have tr56 := QM48.i 29 rfl
      refine PW.jz_ne q_257_30 rfl (fun h57 => ?_) (fun h57 => False.elim (by omega))
      refine PW.aload_n q_257_35 rfl ?_
      refine PW.gE q_257_36 (Or.inl t_ft_257_369) gF_40_29 kd_294 IM48.1 (by decide) ((QM48 29 rfl).trans fx2) ?_
      have tr58 := o_i_of ((QM48 29 rfl).trans fx2)
      refine PW.cB q_257_39 (by decide) fun c59 hc59 => ?_
      refine PW.jc_ne q_257_41 rfl (fun h60 => ?_) (fun h60 => ?_)
      · skip
        refine PW.aload_n q_257_50 rfl ?_
        refine PW.gR 298 q_257_51 (Or.inl t_ft_257_40) gF_40_8 kd_294 IM48.1 (by decide) rfl ?_
        refine PW.iload_n q_257_54 rfl ?_
        refine PW.cI q_257_55 (by decide) fun c61 hc61 => ?_
        refine PW.addN q_257_56 (by omega) (by omega) fun x62 hx62 => ?_
        refine PW.aload_n q_257_57 rfl ?_
        refine PW.gI q_257_58 (Or.inl t_ft_257_180) gF_40_18 kd_294 IM48.1 (by decide) fun x63 fx63 hx63 kx63 => ?_
        have ix63 := o_i_of fx63
        have trx63 := o_i_of fx63
        clear hx63 kx63
        have kb := k_fd_b f (kV y i) m.toNat
        refine PW.wT q_257_61 gA_44 kd_298 IM48 (by decide) rfl gC_44_1_81 (by decide) (by omega) (by omega) (n_lo _) (n_hi _) fun M64 IM64 fM64 UM64 => ?_
        have FM64 := Fr.pu FM48 UM64.1 kd_298 (rfl : List.contains [40, 44] 44 = true)
        have tr65 : o_i (M64 294) 29 = o_i (M48 294) 29 := by rw [UM64.1 294 (g_ne kd_294 kd_298 (by decide))]
        have tr66 : o_i (M64 294) 18 = o_i (M48 294) 18 := by rw [UM64.1 294 (g_ne kd_294 kd_298 (by decide))]
        refine PW.aload_n q_257_62 rfl ?_
        refine PW.cV (as := []) (rest := []) q_257_63 t_mv_257_173 kd_294 IM64.1 (by decide) rfl (by decide) rfl rfl (Nat.le_of_ble_eq_true rfl) (Nat.le_of_ble_eq_true rfl) (by decide) (by decide) ?_
        refine PW.up (by decide) (c_X12_go_vk (gTT) (Stab0) G _ M64 IM64 y (i + 1) (k_ra.nx (PtM48.cg (UM64.1 294 (by decide)) (UM64.1 295 (by decide)) (UM64.1 300 (by decide))) (by omega)) fun M67 IM67 GM67 PM67 => ?_)
        have FM67 := Fr.trans FM64 GM67 (rfl)
        rcases PM67 with ⟨QM67, PtM67⟩
        have tr68 := QM67.i 29 rfl
        have tr69 := QM67.i 18 rfl
        refine PW.iload_n q_257_66 rfl ?_
        refine PW.jz_eq q_257_67 rfl (fun h70 => ?_) (fun h70 => False.elim (by omega))
        refine PW.aload_n q_257_103 rfl ?_
        refine PW.ldc2 q_257_104 t_lt_257_100 ?_
        refine PW.nmLk fun l71 el71 => ?_
        refine PW.cV (as := [_]) (rest := []) q_257_107 t_mv_257_201 kd_294 IM67.1 (by decide) rfl (by decide) rfl rfl (Nat.le_of_ble_eq_true rfl) (Nat.le_of_ble_eq_true rfl) (by decide) (by decide) ?_
        refine PW.up (by decide) (c_X12_isWord_vk (gTT) (Stab0) G _ M67 IM67 l71 y (i + 1) 11 PtM67 (by rw [el71]; decide +kernel) (by decide) fun x73  hx73 kx73 PM72 => ?_)
        rcases PM72 with ⟨PaM72, PbM72, PcM72⟩ | ⟨PaM72, PnM72⟩
        · skip
          have swM72 := (s_wn_iff (x := y) (i := i + 1) (show 11 < 28 by decide)).mp PcM72
          refine PW.jz_eq q_257_110 rfl (fun h74 => False.elim (by omega)) (fun h74 => ?_)
          refine PW.cI q_257_113 (by decide) fun c75 hc75 => ?_
          refine PW.goto q_257_114 rfl ?_
          refine PW.istore_n q_257_174 (by decide) ?_
          refine PW.iload_n q_257_175 rfl ?_
          refine PW.jz_ge q_257_176 rfl (fun h76 => ?_) (fun h76 => False.elim (by omega))
          refine PW.aload_n q_257_185 rfl ?_
          refine PW.gR 298 q_257_186 (Or.inl t_ft_257_40) gF_40_8 kd_294 IM67.1 (by decide) rfl ?_
          refine PW.iload_n q_257_189 rfl ?_
          refine PW.iload_n q_257_190 rfl ?_
          refine PW.wT q_257_191 gA_44 kd_298 IM67 (by decide) rfl gC_44_0_80 (by decide) (by omega) (by omega) (n_lo _) (n_hi _) fun M77 IM77 fM77 UM77 => ?_
          have FM77 := Fr.pu FM67 UM77.1 kd_298 (rfl : List.contains [40, 44] 44 = true)
          have tr78 : o_i (M77 294) 29 = o_i (M67 294) 29 := by rw [UM77.1 294 (g_ne kd_294 kd_298 (by decide))]
          have tr79 : o_i (M77 294) 18 = o_i (M67 294) 18 := by rw [UM77.1 294 (g_ne kd_294 kd_298 (by decide))]
          refine PW.aload_n q_257_192 rfl ?_
          refine PW.cV (as := []) (rest := []) q_257_193 t_mv_257_173 kd_294 IM77.1 (by decide) rfl (by decide) rfl rfl (Nat.le_of_ble_eq_true rfl) (Nat.le_of_ble_eq_true rfl) (by decide) (by decide) ?_
          refine PW.up (by decide) (c_X12_go_vk (gTT) (Stab0) G _ M77 IM77 y (i + 2) (k_ra.nx (PtM67.cg (UM77.1 294 (by decide)) (UM77.1 295 (by decide)) (UM77.1 300 (by decide))) (by omega)) fun M80 IM80 GM80 PM80 => ?_)
          have FM80 := Fr.trans FM77 GM80 (rfl)
          rcases PM80 with ⟨QM80, PtM80⟩
          have tr81 := QM80.i 29 rfl
          have tr82 := QM80.i 18 rfl
          refine PW.cI q_257_196 (by decide) fun c83 hc83 => ?_
          refine PW.rZ q_257_197 rfl (by omega) (by omega) (by decide) (by decide) ?_
          have el : l_line y f m n i = (0, 0, i + 2) := by unfold l_line; rw [if_neg snM5.n, if_neg (by omega), if_neg (by omega), if_neg (by omega), if_neg (not_not_intro ⟨PbM72, by omega, by omega⟩)]
          exact hK c83 M80 IM80 FM80 (by omega) (by omega) ⟨(((((gKl.refl.tr QM48 rfl).cg (UM64.1 294 (by decide))).tr QM67 rfl).cg (UM77.1 294 (by decide))).tr QM80 rfl), (Or.inl ⟨by omega, by rw [el], by omega, by rw [el]; exact PtM80, gLl.add hp_2 (by omega) (fun z hz => ((congrFun (congrArg o_a (Fr.at GM80 kd_298 rfl)) z).trans ((UM77.2 z (by omega)).trans ((congrFun (congrArg o_a (Fr.at GM67 kd_298 rfl)) z).trans ((UM64.2 z (by omega)).trans (congrFun (congrArg o_a (Fr.at GM48 kd_298 rfl)) z)))))) rfl (Or.inr (by rw [show (2 * n + 1).toNat = x62.toInt.toNat from by omega, ((congrFun (congrArg o_a (Fr.at GM80 kd_298 rfl)) x62.toInt.toNat).trans ((UM77.2 x62.toInt.toNat (by omega)).trans (congrFun (congrArg o_a (Fr.at GM67 kd_298 rfl)) x62.toInt.toNat))), fM64]; exact ⟨by omega, by omega⟩))⟩)⟩
        · skip
          have snM72 : s_nw y (i + 1) 11 := fun h q => PnM72 ⟨h, (s_wn_iff (show 11 < 28 by decide)).mpr q⟩
          clear PnM72
          refine PW.jz_eq q_257_110 rfl (fun h84 => ?_) (fun h84 => False.elim (by omega))
          refine PW.aload_n q_257_117 rfl ?_
          refine PW.ldc2 q_257_118 t_lt_257_102 ?_
          refine PW.nmLk fun l85 el85 => ?_
          refine PW.cV (as := [_]) (rest := []) q_257_121 t_mv_257_201 kd_294 IM67.1 (by decide) rfl (by decide) rfl rfl (Nat.le_of_ble_eq_true rfl) (Nat.le_of_ble_eq_true rfl) (by decide) (by decide) ?_
          refine PW.up (by decide) (c_X12_isWord_vk (gTT) (Stab0) G _ M67 IM67 l85 y (i + 1) 12 PtM67 (by rw [el85]; decide +kernel) (by decide) fun x87  hx87 kx87 PM86 => ?_)
          rcases PM86 with ⟨PaM86, PbM86, PcM86⟩ | ⟨PaM86, PnM86⟩
          · skip
            have swM86 := (s_wn_iff (x := y) (i := i + 1) (show 12 < 28 by decide)).mp PcM86
            refine PW.jz_eq q_257_124 rfl (fun h88 => False.elim (by omega)) (fun h88 => ?_)
            refine PW.cI q_257_127 (by decide) fun c89 hc89 => ?_
            refine PW.goto q_257_128 rfl ?_
            refine PW.istore_n q_257_174 (by decide) ?_
            refine PW.iload_n q_257_175 rfl ?_
            refine PW.jz_ge q_257_176 rfl (fun h90 => ?_) (fun h90 => False.elim (by omega))
            refine PW.aload_n q_257_185 rfl ?_
            refine PW.gR 298 q_257_186 (Or.inl t_ft_257_40) gF_40_8 kd_294 IM67.1 (by decide) rfl ?_
            refine PW.iload_n q_257_189 rfl ?_
            refine PW.iload_n q_257_190 rfl ?_
            refine PW.wT q_257_191 gA_44 kd_298 IM67 (by decide) rfl gC_44_0_80 (by decide) (by omega) (by omega) (n_lo _) (n_hi _) fun M91 IM91 fM91 UM91 => ?_
            have FM91 := Fr.pu FM67 UM91.1 kd_298 (rfl : List.contains [40, 44] 44 = true)
            have tr92 : o_i (M91 294) 29 = o_i (M67 294) 29 := by rw [UM91.1 294 (g_ne kd_294 kd_298 (by decide))]
            have tr93 : o_i (M91 294) 18 = o_i (M67 294) 18 := by rw [UM91.1 294 (g_ne kd_294 kd_298 (by decide))]
            refine PW.aload_n q_257_192 rfl ?_
            refine PW.cV (as := []) (rest := []) q_257_193 t_mv_257_173 kd_294 IM91.1 (by decide) rfl (by decide) rfl rfl (Nat.le_of_ble_eq_true rfl) (Nat.le_of_ble_eq_true rfl) (by decide) (by decide) ?_
            refine PW.up (by decide) (c_X12_go_vk (gTT) (Stab0) G _ M91 IM91 y (i + 2) (k_ra.nx (PtM67.cg (UM91.1 294 (by decide)) (UM91.1 295 (by decide)) (UM91.1 300 (by decide))) (by omega)) fun M94 IM94 GM94 PM94 => ?_)
            have FM94 := Fr.trans FM91 GM94 (rfl)
            rcases PM94 with ⟨QM94, PtM94⟩
            have tr95 := QM94.i 29 rfl
            have tr96 := QM94.i 18 rfl
            refine PW.cI q_257_196 (by decide) fun c97 hc97 => ?_
            refine PW.rZ q_257_197 rfl (by omega) (by omega) (by decide) (by decide) ?_
            have el : l_line y f m n i = (0, 0, i + 2) := by unfold l_line; rw [if_neg snM5.n, if_neg (by omega), if_neg (by omega), if_neg (by omega), if_neg (not_not_intro ⟨PbM86, by omega, by omega⟩)]
            exact hK c97 M94 IM94 FM94 (by omega) (by omega) ⟨(((((gKl.refl.tr QM48 rfl).cg (UM64.1 294 (by decide))).tr QM67 rfl).cg (UM91.1 294 (by decide))).tr QM94 rfl), (Or.inl ⟨by omega, by rw [el], by omega, by rw [el]; exact PtM94, gLl.add hp_2 (by omega) (fun z hz => ((congrFun (congrArg o_a (Fr.at GM94 kd_298 rfl)) z).trans ((UM91.2 z (by omega)).trans ((congrFun (congrArg o_a (Fr.at GM67 kd_298 rfl)) z).trans ((UM64.2 z (by omega)).trans (congrFun (congrArg o_a (Fr.at GM48 kd_298 rfl)) z)))))) rfl (Or.inr (by rw [show (2 * n + 1).toNat = x62.toInt.toNat from by omega, ((congrFun (congrArg o_a (Fr.at GM94 kd_298 rfl)) x62.toInt.toNat).trans ((UM91.2 x62.toInt.toNat (by omega)).trans (congrFun (congrArg o_a (Fr.at GM67 kd_298 rfl)) x62.toInt.toNat))), fM64]; exact ⟨by omega, by omega⟩))⟩)⟩
          · skip
            have snM86 : s_nw y (i + 1) 12 := fun h q => PnM86 ⟨h, (s_wn_iff (show 12 < 28 by decide)).mpr q⟩
            clear PnM86
            refine PW.jz_eq q_257_124 rfl (fun h98 => ?_) (fun h98 => False.elim (by omega))
            refine PW.aload_n q_257_131 rfl ?_
            refine PW.ldc2 q_257_132 t_lt_257_108 ?_
            refine PW.nmLk fun l99 el99 => ?_
            refine PW.cV (as := [_]) (rest := []) q_257_135 t_mv_257_201 kd_294 IM67.1 (by decide) rfl (by decide) rfl rfl (Nat.le_of_ble_eq_true rfl) (Nat.le_of_ble_eq_true rfl) (by decide) (by decide) ?_
            refine PW.up (by decide) (c_X12_isWord_vk (gTT) (Stab0) G _ M67 IM67 l99 y (i + 1) 15 PtM67 (by rw [el99]; decide +kernel) (by decide) fun x101  hx101 kx101 PM100 => ?_)
            rcases PM100 with ⟨PaM100, PbM100, PcM100⟩ | ⟨PaM100, PnM100⟩
            · skip
              have swM100 := (s_wn_iff (x := y) (i := i + 1) (show 15 < 28 by decide)).mp PcM100
              refine PW.jz_eq q_257_138 rfl (fun h102 => False.elim (by omega)) (fun h102 => ?_)
              refine PW.cI q_257_141 (by decide) fun c103 hc103 => ?_
              refine PW.goto q_257_142 rfl ?_
              refine PW.istore_n q_257_174 (by decide) ?_
              refine PW.iload_n q_257_175 rfl ?_
              refine PW.jz_ge q_257_176 rfl (fun h104 => ?_) (fun h104 => False.elim (by omega))
              refine PW.aload_n q_257_185 rfl ?_
              refine PW.gR 298 q_257_186 (Or.inl t_ft_257_40) gF_40_8 kd_294 IM67.1 (by decide) rfl ?_
              refine PW.iload_n q_257_189 rfl ?_
              refine PW.iload_n q_257_190 rfl ?_
              refine PW.wT q_257_191 gA_44 kd_298 IM67 (by decide) rfl gC_44_0_80 (by decide) (by omega) (by omega) (n_lo _) (n_hi _) fun M105 IM105 fM105 UM105 => ?_
              have FM105 := Fr.pu FM67 UM105.1 kd_298 (rfl : List.contains [40, 44] 44 = true)
              have tr106 : o_i (M105 294) 29 = o_i (M67 294) 29 := by rw [UM105.1 294 (g_ne kd_294 kd_298 (by decide))]
              have tr107 : o_i (M105 294) 18 = o_i (M67 294) 18 := by rw [UM105.1 294 (g_ne kd_294 kd_298 (by decide))]
              refine PW.aload_n q_257_192 rfl ?_
              refine PW.cV (as := []) (rest := []) q_257_193 t_mv_257_173 kd_294 IM105.1 (by decide) rfl (by decide) rfl rfl (Nat.le_of_ble_eq_true rfl) (Nat.le_of_ble_eq_true rfl) (by decide) (by decide) ?_
              refine PW.up (by decide) (c_X12_go_vk (gTT) (Stab0) G _ M105 IM105 y (i + 2) (k_ra.nx (PtM67.cg (UM105.1 294 (by decide)) (UM105.1 295 (by decide)) (UM105.1 300 (by decide))) (by omega)) fun M108 IM108 GM108 PM108 => ?_)
              have FM108 := Fr.trans FM105 GM108 (rfl)
              rcases PM108 with ⟨QM108, PtM108⟩
              have tr109 := QM108.i 29 rfl
              have tr110 := QM108.i 18 rfl
              refine PW.cI q_257_196 (by decide) fun c111 hc111 => ?_
              refine PW.rZ q_257_197 rfl (by omega) (by omega) (by decide) (by decide) ?_
              have el : l_line y f m n i = (0, 0, i + 2) := by unfold l_line; rw [if_neg snM5.n, if_neg (by omega), if_neg (by omega), if_neg (by omega), if_neg (not_not_intro ⟨PbM100, by omega, by omega⟩)]
              exact hK c111 M108 IM108 FM108 (by omega) (by omega) ⟨(((((gKl.refl.tr QM48 rfl).cg (UM64.1 294 (by decide))).tr QM67 rfl).cg (UM105.1 294 (by decide))).tr QM108 rfl), (Or.inl ⟨by omega, by rw [el], by omega, by rw [el]; exact PtM108, gLl.add hp_2 (by omega) (fun z hz => ((congrFun (congrArg o_a (Fr.at GM108 kd_298 rfl)) z).trans ((UM105.2 z (by omega)).trans ((congrFun (congrArg o_a (Fr.at GM67 kd_298 rfl)) z).trans ((UM64.2 z (by omega)).trans (congrFun (congrArg o_a (Fr.at GM48 kd_298 rfl)) z)))))) rfl (Or.inr (by rw [show (2 * n + 1).toNat = x62.toInt.toNat from by omega, ((congrFun (congrArg o_a (Fr.at GM108 kd_298 rfl)) x62.toInt.toNat).trans ((UM105.2 x62.toInt.toNat (by omega)).trans (congrFun (congrArg o_a (Fr.at GM67 kd_298 rfl)) x62.toInt.toNat))), fM64]; exact ⟨by omega, by omega⟩))⟩)⟩
            · skip
              have snM100 : s_nw y (i + 1) 15 := fun h q => PnM100 ⟨h, (s_wn_iff (show 15 < 28 by decide)).mpr q⟩
              clear PnM100
              refine PW.jz_eq q_257_138 rfl (fun h112 => ?_) (fun h112 => False.elim (by omega))
              refine PW.aload_n q_257_145 rfl ?_
              refine PW.ldc2 q_257_146 t_lt_257_104 ?_
              refine PW.nmLk fun l113 el113 => ?_
              refine PW.cV (as := [_]) (rest := []) q_257_149 t_mv_257_201 kd_294 IM67.1 (by decide) rfl (by decide) rfl rfl (Nat.le_of_ble_eq_true rfl) (Nat.le_of_ble_eq_true rfl) (by decide) (by decide) ?_
              refine PW.up (by decide) (c_X12_isWord_vk (gTT) (Stab0) G _ M67 IM67 l113 y (i + 1) 13 PtM67 (by rw [el113]; decide +kernel) (by decide) fun x115  hx115 kx115 PM114 => ?_)
              rcases PM114 with ⟨PaM114, PbM114, PcM114⟩ | ⟨PaM114, PnM114⟩
              · skip
                have swM114 := (s_wn_iff (x := y) (i := i + 1) (show 13 < 28 by decide)).mp PcM114
                refine PW.jz_eq q_257_152 rfl (fun h116 => False.elim (by omega)) (fun h116 => ?_)
                refine PW.cI q_257_155 (by decide) fun c117 hc117 => ?_
                refine PW.goto q_257_156 rfl ?_
                refine PW.istore_n q_257_174 (by decide) ?_
                refine PW.iload_n q_257_175 rfl ?_
                refine PW.jz_ge q_257_176 rfl (fun h118 => ?_) (fun h118 => False.elim (by omega))
                refine PW.aload_n q_257_185 rfl ?_
                refine PW.gR 298 q_257_186 (Or.inl t_ft_257_40) gF_40_8 kd_294 IM67.1 (by decide) rfl ?_
                refine PW.iload_n q_257_189 rfl ?_
                refine PW.iload_n q_257_190 rfl ?_
                refine PW.wT q_257_191 gA_44 kd_298 IM67 (by decide) rfl gC_44_0_80 (by decide) (by omega) (by omega) (n_lo _) (n_hi _) fun M119 IM119 fM119 UM119 => ?_
                have FM119 := Fr.pu FM67 UM119.1 kd_298 (rfl : List.contains [40, 44] 44 = true)
                have tr120 : o_i (M119 294) 29 = o_i (M67 294) 29 := by rw [UM119.1 294 (g_ne kd_294 kd_298 (by decide))]
                have tr121 : o_i (M119 294) 18 = o_i (M67 294) 18 := by rw [UM119.1 294 (g_ne kd_294 kd_298 (by decide))]
                refine PW.aload_n q_257_192 rfl ?_
                refine PW.cV (as := []) (rest := []) q_257_193 t_mv_257_173 kd_294 IM119.1 (by decide) rfl (by decide) rfl rfl (Nat.le_of_ble_eq_true rfl) (Nat.le_of_ble_eq_true rfl) (by decide) (by decide) ?_
                refine PW.up (by decide) (c_X12_go_vk (gTT) (Stab0) G _ M119 IM119 y (i + 2) (k_ra.nx (PtM67.cg (UM119.1 294 (by decide)) (UM119.1 295 (by decide)) (UM119.1 300 (by decide))) (by omega)) fun M122 IM122 GM122 PM122 => ?_)
                have FM122 := Fr.trans FM119 GM122 (rfl)
                rcases PM122 with ⟨QM122, PtM122⟩
                have tr123 := QM122.i 29 rfl
                have tr124 := QM122.i 18 rfl
                refine PW.cI q_257_196 (by decide) fun c125 hc125 => ?_
                refine PW.rZ q_257_197 rfl (by omega) (by omega) (by decide) (by decide) ?_
                have el : l_line y f m n i = (0, 0, i + 2) := by unfold l_line; rw [if_neg snM5.n, if_neg (by omega), if_neg (by omega), if_neg (by omega), if_neg (not_not_intro ⟨PbM114, by omega, by omega⟩)]
                exact hK c125 M122 IM122 FM122 (by omega) (by omega) ⟨(((((gKl.refl.tr QM48 rfl).cg (UM64.1 294 (by decide))).tr QM67 rfl).cg (UM119.1 294 (by decide))).tr QM122 rfl), (Or.inl ⟨by omega, by rw [el], by omega, by rw [el]; exact PtM122, gLl.add hp_2 (by omega) (fun z hz => ((congrFun (congrArg o_a (Fr.at GM122 kd_298 rfl)) z).trans ((UM119.2 z (by omega)).trans ((congrFun (congrArg o_a (Fr.at GM67 kd_298 rfl)) z).trans ((UM64.2 z (by omega)).trans (congrFun (congrArg o_a (Fr.at GM48 kd_298 rfl)) z)))))) rfl (Or.inr (by rw [show (2 * n + 1).toNat = x62.toInt.toNat from by omega, ((congrFun (congrArg o_a (Fr.at GM122 kd_298 rfl)) x62.toInt.toNat).trans ((UM119.2 x62.toInt.toNat (by omega)).trans (congrFun (congrArg o_a (Fr.at GM67 kd_298 rfl)) x62.toInt.toNat))), fM64]; exact ⟨by omega, by omega⟩))⟩)⟩
              · skip
                have snM114 : s_nw y (i + 1) 13 := fun h q => PnM114 ⟨h, (s_wn_iff (show 13 < 28 by decide)).mpr q⟩
                clear PnM114
                refine PW.jz_eq q_257_152 rfl (fun h126 => ?_) (fun h126 => False.elim (by omega))
                refine PW.aload_n q_257_159 rfl ?_
                refine PW.ldc2 q_257_160 t_lt_257_106 ?_
                refine PW.nmLk fun l127 el127 => ?_
                refine PW.cV (as := [_]) (rest := []) q_257_163 t_mv_257_201 kd_294 IM67.1 (by decide) rfl (by decide) rfl rfl (Nat.le_of_ble_eq_true rfl) (Nat.le_of_ble_eq_true rfl) (by decide) (by decide) ?_
                refine PW.up (by decide) (c_X12_isWord_vk (gTT) (Stab0) G _ M67 IM67 l127 y (i + 1) 14 PtM67 (by rw [el127]; decide +kernel) (by decide) fun x129  hx129 kx129 PM128 => ?_)
                rcases PM128 with ⟨PaM128, PbM128, PcM128⟩ | ⟨PaM128, PnM128⟩
                · skip
                  have swM128 := (s_wn_iff (x := y) (i := i + 1) (show 14 < 28 by decide)).mp PcM128
                  refine PW.jz_eq q_257_166 rfl (fun h130 => False.elim (by omega)) (fun h130 => ?_)
                  refine PW.cI q_257_169 (by decide) fun c131 hc131 => ?_
                  refine PW.goto q_257_170 rfl ?_
                  refine PW.istore_n q_257_174 (by decide) ?_
                  refine PW.iload_n q_257_175 rfl ?_
                  refine PW.jz_ge q_257_176 rfl (fun h132 => ?_) (fun h132 => False.elim (by omega))
                  refine PW.aload_n q_257_185 rfl ?_
                  refine PW.gR 298 q_257_186 (Or.inl t_ft_257_40) gF_40_8 kd_294 IM67.1 (by decide) rfl ?_
                  refine PW.iload_n q_257_189 rfl ?_
                  refine PW.iload_n q_257_190 rfl ?_
                  refine PW.wT q_257_191 gA_44 kd_298 IM67 (by decide) rfl gC_44_0_80 (by decide) (by omega) (by omega) (n_lo _) (n_hi _) fun M133 IM133 fM133 UM133 => ?_
                  have FM133 := Fr.pu FM67 UM133.1 kd_298 (rfl : List.contains [40, 44] 44 = true)
                  have tr134 : o_i (M133 294) 29 = o_i (M67 294) 29 := by rw [UM133.1 294 (g_ne kd_294 kd_298 (by decide))]
                  have tr135 : o_i (M133 294) 18 = o_i (M67 294) 18 := by rw [UM133.1 294 (g_ne kd_294 kd_298 (by decide))]
                  refine PW.aload_n q_257_192 rfl ?_
                  refine PW.cV (as := []) (rest := []) q_257_193 t_mv_257_173 kd_294 IM133.1 (by decide) rfl (by decide) rfl rfl (Nat.le_of_ble_eq_true rfl) (Nat.le_of_ble_eq_true rfl) (by decide) (by decide) ?_
                  refine PW.up (by decide) (c_X12_go_vk (gTT) (Stab0) G _ M133 IM133 y (i + 2) (k_ra.nx (PtM67.cg (UM133.1 294 (by decide)) (UM133.1 295 (by decide)) (UM133.1 300 (by decide))) (by omega)) fun M136 IM136 GM136 PM136 => ?_)
                  have FM136 := Fr.trans FM133 GM136 (rfl)
                  rcases PM136 with ⟨QM136, PtM136⟩
                  have tr137 := QM136.i 29 rfl
                  have tr138 := QM136.i 18 rfl
                  refine PW.cI q_257_196 (by decide) fun c139 hc139 => ?_
                  refine PW.rZ q_257_197 rfl (by omega) (by omega) (by decide) (by decide) ?_
                  have el : l_line y f m n i = (0, 0, i + 2) := by unfold l_line; rw [if_neg snM5.n, if_neg (by omega), if_neg (by omega), if_neg (by omega), if_neg (not_not_intro ⟨PbM128, by omega, by omega⟩)]
                  exact hK c139 M136 IM136 FM136 (by omega) (by omega) ⟨(((((gKl.refl.tr QM48 rfl).cg (UM64.1 294 (by decide))).tr QM67 rfl).cg (UM133.1 294 (by decide))).tr QM136 rfl), (Or.inl ⟨by omega, by rw [el], by omega, by rw [el]; exact PtM136, gLl.add hp_2 (by omega) (fun z hz => ((congrFun (congrArg o_a (Fr.at GM136 kd_298 rfl)) z).trans ((UM133.2 z (by omega)).trans ((congrFun (congrArg o_a (Fr.at GM67 kd_298 rfl)) z).trans ((UM64.2 z (by omega)).trans (congrFun (congrArg o_a (Fr.at GM48 kd_298 rfl)) z)))))) rfl (Or.inr (by rw [show (2 * n + 1).toNat = x62.toInt.toNat from by omega, ((congrFun (congrArg o_a (Fr.at GM136 kd_298 rfl)) x62.toInt.toNat).trans ((UM133.2 x62.toInt.toNat (by omega)).trans (congrFun (congrArg o_a (Fr.at GM67 kd_298 rfl)) x62.toInt.toNat))), fM64]; exact ⟨by omega, by omega⟩))⟩)⟩
                · skip
                  have snM128 : s_nw y (i + 1) 14 := fun h q => PnM128 ⟨h, (s_wn_iff (show 14 < 28 by decide)).mpr q⟩
                  clear PnM128
                  refine PW.jz_eq q_257_166 rfl (fun h140 => ?_) (fun h140 => False.elim (by omega))
                  refine PW.cI q_257_173 (by decide) fun c141 hc141 => ?_
                  refine PW.istore_n q_257_174 (by decide) ?_
                  refine PW.iload_n q_257_175 rfl ?_
                  refine PW.jz_ge q_257_176 rfl (fun h142 => False.elim (by omega)) (fun h142 => ?_)
                  refine PW.aload_n q_257_179 rfl ?_
                  refine PW.cI q_257_180 (by decide) fun c143 hc143 => ?_
                  refine PW.cV (as := [_]) (rest := []) q_257_181 t_mv_257_170 kd_294 IM67.1 (by decide) rfl (by decide) rfl rfl (Nat.le_of_ble_eq_true rfl) (Nat.le_of_ble_eq_true rfl) (by decide) (by decide) ?_
                  refine PW.up (by decide) (c_X12_bad_vk (gTT) (Stab0) G _ M67 IM67 c143 y (i + 1) PtM67 fun x145 M144 IM144 GM144 hx145 kx145 PM144 => ?_)
                  have FM144 := Fr.trans FM67 GM144 (rfl)
                  rcases PM144 with ⟨QM144, ⟨PfM144, PgM144⟩⟩
                  refine PW.rZ q_257_184 rfl (by omega) (by omega) (by decide) (by decide) ?_
                  have el : l_line y f m n i = (1, kP y (i + 1), 0) := by unfold l_line; rw [if_neg snM5.n, if_neg (by omega), if_neg (by omega), if_neg (by omega), if_pos (fun h => by have hk := h.1; have uM72 := snM72 hk; have uM86 := snM86 hk; have uM100 := snM100 hk; have uM114 := snM114 hk; have uM128 := snM128 hk; omega)]
                  exact hK x145 M144 IM144 FM144 (by omega) (by omega) ⟨((((gKl.refl.tr QM48 rfl).cg (UM64.1 294 (by decide))).tr QM67 rfl).tr QM144 rfl), (Or.inr ⟨by omega, by rw [el]; exact (by omega : (1 : Int) ≠ 0), by rw [el]; exact (by omega : o_i (M144 294) 15 = 1), by rw [el]; exact (by omega : o_i (M144 294) 16 = kP y (i + 1))⟩)⟩
      · skip
        refine PW.aload_n q_257_44 rfl ?_
        refine PW.cI q_257_45 (by decide) fun c146 hc146 => ?_
        refine PW.cV (as := [_]) (rest := []) q_257_46 t_mv_257_170 kd_294 IM48.1 (by decide) rfl (by decide) rfl rfl (Nat.le_of_ble_eq_true rfl) (Nat.le_of_ble_eq_true rfl) (by decide) (by decide) ?_
        refine PW.up (by decide) (c_X12_bad_vk (gTT) (Stab0) G _ M48 IM48 c146 y (i) PtM48 fun x148 M147 IM147 GM147 hx148 kx148 PM147 => ?_)
        have FM147 := Fr.trans FM48 GM147 (rfl)
        rcases PM147 with ⟨QM147, ⟨PfM147, PgM147⟩⟩
        refine PW.rZ q_257_49 rfl (by omega) (by omega) (by decide) (by decide) ?_
        have el : l_line y f m n i = (4, kP y i, 0) := by unfold l_line; rw [if_neg snM5.n, if_neg (by omega), if_neg (by omega), if_pos (by omega)]
        exact hK x148 M147 IM147 FM147 (by omega) (by omega) ⟨((gKl.refl.tr QM48 rfl).tr QM147 rfl), (Or.inr ⟨by omega, by rw [el]; exact (by omega : (4 : Int) ≠ 0), by rw [el]; exact (by omega : o_i (M147 294) 15 = 4), by rw [el]; exact (by omega : o_i (M147 294) 16 = kP y i)⟩)⟩
