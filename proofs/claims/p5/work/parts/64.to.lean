theorem c_X11_fault_vk (G : pG) (Kr : pK) (M : pM) (I : Iv gTT M)  (hK : ∀ (x : Int32) (M1 : pM), Iv gTT M1 → Fr [] M M1 → (x.toInt = o_i (M 0) 10 ∧ M1 = M) → Kr.1 (some (.int x)) 311 M1) : PW G false 0 103 (p_mc 103) (p_msl 103) Kr 0 (lv_args 0 [.ref 0]) [] 311 M 0 0 := by
  have F : Fr [] M M := Fr.refl
  refine PW.aload_n q_103_0 rfl ?_
  refine PW.gI q_103_1 (Or.inl t_ft_103_88) gF_0_10 kd_0 I.1 (by decide) fun x1 fx1 hx1 kx1 => ?_
  have ix1 := o_i_of fx1
  clear hx1 kx1
  refine PW.rI q_103_4 rfl (by decide) (by decide) ?_
  exact hK x1 M I F ⟨by omega, rfl⟩
theorem c_X12_fault_vk (G : pG) (Kr : pK) (M : pM) (I : Iv gTT M)  (hK : ∀ (x : Int32) (M1 : pM), Iv gTT M1 → Fr [40] M M1 → (gKl [0] M M1 ∧ (x.toInt = o_i (M 294) 15)) → Kr.1 (some (.int x)) 311 M1) : PW G false 0 194 (p_mc 194) (p_msl 194) Kr 0 (lv_args 0 [.ref 294]) [] 311 M 0 0 := by
  have F : Fr [40] M M := Fr.refl
  refine PW.aload_n q_194_0 rfl ?_
  refine PW.cI q_194_1 (by decide) fun c1 hc1 => ?_
  refine PW.pI q_194_2 (Or.inl t_ft_194_1) gF_40_0 gP_40_0 kd_294 Stab0 I (by decide) rfl (n_lo _) (n_hi _) fun M2 IM2 fM2 UM2 => ?_
  have FM2 := Fr.pu F UM2.1 kd_294 (rfl : List.contains [40] 40 = true)
  refine PW.aload_n q_194_5 rfl ?_
  refine PW.gI q_194_6 (Or.inl t_ft_194_161) gF_40_15 kd_294 IM2.1 (by decide) fun x3 fx3 hx3 kx3 => ?_
  have ix3 := o_i_of fx3
  clear hx3 kx3
  refine PW.rI q_194_9 rfl (by decide) (by decide) ?_
  exact hK x3 M2 IM2 FM2 ⟨(gKl.refl.put UM2 rfl), (by have w := (UM2.i (c := 294) (k := 15) (Or.inr (by decide))); omega)⟩
