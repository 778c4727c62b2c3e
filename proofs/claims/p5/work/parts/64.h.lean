/-- the bytes of an int, and of five -/
def k_b4 (v : Int32) (t : Nat) : Int32 := vp_nar .byte ((v >>> ((Int32.ofInt (24 - 8 * (t : Int))) &&& 31)).toInt8.toInt32)
def k_b20 (a b c d e : Int32) (t : Nat) : Int32 := if t < 4 then k_b4 a t else if t < 8 then k_b4 b (t - 4) else if t < 12 then k_b4 c (t - 8) else if t < 16 then k_b4 d (t - 12) else k_b4 e (t - 16)
theorem c_X7_append_vk (V : pM → Prop) (hV : Stab V) (G : pG) (Kr : pK) (M : pM) (I : Iv V M) (a1 : Int32) (hp_0 : o_i (M 1) 1 ≤ 936) (hK : ∀ (M1 : pM), Iv V M1 → Fr [1, 2] M M1 → (o_i (M1 1) 1 = o_i (M 1) 1 + 4 ∧ (∀ z : Nat, (z : Int) < o_i (M 1) 1 → o_a (M1 2) z = o_a (M 2) z) ∧ ∀ t : Nat, t < 4 → o_a (M1 2) ((o_i (M 1) 1).toNat + t) = k_b4 a1 t) → Kr.1 none 311 M1) : PW G false 0 74 (p_mc 74) (p_msl 74) Kr 0 (lv_args 0 [.ref 1, .int a1]) [] 311 M 0 0 := by
  have F : Fr [1, 2] M M := Fr.refl
  obtain ⟨w1_1, fw1_1, hw1_1, kw1_1⟩ := gF_1_1.int kd_1 I.1 (by decide)
  have iw1_1 := o_i_of fw1_1
  have jw1_1 : w1_1.toInt = o_i (M 1) 1 := by have w := (rfl : o_i (M 1) 1 = o_i (M 1) 1); omega
  refine PW.cB q_74_0 (by decide) fun c1 hc1 => ?_
  refine PW.istore_n q_74_2 (by decide) ?_
  refine PW.iload_n q_74_3 rfl ?_
  refine PW.jz_lt q_74_4 rfl (fun h2 => False.elim (by omega)) (fun h2 => ?_)
  refine PW.aload_n q_74_7 rfl ?_
  refine PW.gE q_74_8 (Or.inl t_ft_74_26) gF_1_1 kd_1 I.1 (by decide) fw1_1 ?_
  refine PW.cS q_74_11 (by decide) fun c3 hc3 => ?_
  refine PW.jc_ge q_74_14 rfl (fun h4 => False.elim (by omega)) (fun h4 => ?_)
  refine PW.aload_n q_74_17 rfl ?_
  refine PW.gR 2 q_74_18 (Or.inl t_ft_74_9) gF_1_0 kd_1 I.1 (by decide) rfl ?_
  refine PW.aload_n q_74_21 rfl ?_
  refine PW.gE q_74_22 (Or.inl t_ft_74_26) gF_1_1 kd_1 I.1 (by decide) fw1_1 ?_
  refine PW.iload_n q_74_25 rfl ?_
  refine PW.iload_n q_74_26 rfl ?_
  refine PW.ishr q_74_27 ?_
  refine PW.nmI ?_; intro x5 ex5
  refine PW.i2b q_74_28 ?_
  refine PW.nmI ?_; intro x6 ex6
  refine PW.wYX q_74_29 gA_2 kd_2 hV I (by decide) rfl gC_2_0_939 (by omega) (by omega) fun M7 IM7 fM7 UM7 => ?_
  have FM7 := Fr.pu F UM7.1 kd_2 (rfl : List.contains [1, 2] 2 = true)
  refine PW.aload_n q_74_30 rfl ?_
  refine PW.dup q_74_31 rfl ?_
  refine PW.gE q_74_32 (Or.inl t_ft_74_26) gF_1_1 kd_1 IM7.1 (by decide) ((congrArg (fun e => o_f e 1) (UM7.1 _ (g_ne kd_1 kd_2 (by decide)))).trans fw1_1) ?_
  refine PW.cI q_74_35 (by decide) fun c8 hc8 => ?_
  refine PW.addN q_74_36 (by omega) (by omega) fun x9 hx9 => ?_
  refine PW.pI q_74_37 (Or.inl t_ft_74_26) gF_1_1 gP_1_1 kd_1 hV IM7 (by decide) rfl (by omega) (by omega) fun M10 IM10 fM10 UM10 => ?_
  have FM10 := Fr.pu FM7 UM10.1 kd_1 (rfl : List.contains [1, 2] 1 = true)
  refine PW.incN q_74_40 rfl (by decide) (by decide) (by omega) (by omega) fun x11 hx11 => ?_
  refine PW.goto q_74_43 rfl ?_
  refine PW.iload_n q_74_3 rfl ?_
  refine PW.jz_lt q_74_4 rfl (fun h12 => False.elim (by omega)) (fun h12 => ?_)
  refine PW.aload_n q_74_7 rfl ?_
  refine PW.gE q_74_8 (Or.inl t_ft_74_26) gF_1_1 kd_1 IM10.1 (by decide) fM10 ?_
  refine PW.cS q_74_11 (by decide) fun c13 hc13 => ?_
  refine PW.jc_ge q_74_14 rfl (fun h14 => False.elim (by omega)) (fun h14 => ?_)
  refine PW.aload_n q_74_17 rfl ?_
  refine PW.gR 2 q_74_18 (Or.inl t_ft_74_9) gF_1_0 kd_1 IM10.1 (by decide) rfl ?_
  refine PW.aload_n q_74_21 rfl ?_
  refine PW.gE q_74_22 (Or.inl t_ft_74_26) gF_1_1 kd_1 IM10.1 (by decide) fM10 ?_
  refine PW.iload_n q_74_25 rfl ?_
  refine PW.iload_n q_74_26 rfl ?_
  refine PW.ishr q_74_27 ?_
  refine PW.nmI ?_; intro x15 ex15
  refine PW.i2b q_74_28 ?_
  refine PW.nmI ?_; intro x16 ex16
  refine PW.wYX q_74_29 gA_2 kd_2 hV IM10 (by decide) rfl gC_2_0_939 (by omega) (by omega) fun M17 IM17 fM17 UM17 => ?_
  have FM17 := Fr.pu FM10 UM17.1 kd_2 (rfl : List.contains [1, 2] 2 = true)
  refine PW.aload_n q_74_30 rfl ?_
  refine PW.dup q_74_31 rfl ?_
  refine PW.gE q_74_32 (Or.inl t_ft_74_26) gF_1_1 kd_1 IM17.1 (by decide) ((congrArg (fun e => o_f e 1) (UM17.1 _ (g_ne kd_1 kd_2 (by decide)))).trans fM10) ?_
  refine PW.cI q_74_35 (by decide) fun c18 hc18 => ?_
  refine PW.addN q_74_36 (by omega) (by omega) fun x19 hx19 => ?_
  refine PW.pI q_74_37 (Or.inl t_ft_74_26) gF_1_1 gP_1_1 kd_1 hV IM17 (by decide) rfl (by omega) (by omega) fun M20 IM20 fM20 UM20 => ?_
  have FM20 := Fr.pu FM17 UM20.1 kd_1 (rfl : List.contains [1, 2] 1 = true)
  refine PW.incN q_74_40 rfl (by decide) (by decide) (by omega) (by omega) fun x21 hx21 => ?_
  refine PW.goto q_74_43 rfl ?_
  refine PW.iload_n q_74_3 rfl ?_
  refine PW.jz_lt q_74_4 rfl (fun h22 => False.elim (by omega)) (fun h22 => ?_)
  refine PW.aload_n q_74_7 rfl ?_
  refine PW.gE q_74_8 (Or.inl t_ft_74_26) gF_1_1 kd_1 IM20.1 (by decide) fM20 ?_
  refine PW.cS q_74_11 (by decide) fun c23 hc23 => ?_
  refine PW.jc_ge q_74_14 rfl (fun h24 => False.elim (by omega)) (fun h24 => ?_)
  refine PW.aload_n q_74_17 rfl ?_
  refine PW.gR 2 q_74_18 (Or.inl t_ft_74_9) gF_1_0 kd_1 IM20.1 (by decide) rfl ?_
  refine PW.aload_n q_74_21 rfl ?_
  refine PW.gE q_74_22 (Or.inl t_ft_74_26) gF_1_1 kd_1 IM20.1 (by decide) fM20 ?_
  refine PW.iload_n q_74_25 rfl ?_
  refine PW.iload_n q_74_26 rfl ?_
  refine PW.ishr q_74_27 ?_
  refine PW.nmI ?_; intro x25 ex25
  refine PW.i2b q_74_28 ?_
  refine PW.nmI ?_; intro x26 ex26
  refine PW.wYX q_74_29 gA_2 kd_2 hV IM20 (by decide) rfl gC_2_0_939 (by omega) (by omega) fun M27 IM27 fM27 UM27 => ?_
  have FM27 := Fr.pu FM20 UM27.1 kd_2 (rfl : List.contains [1, 2] 2 = true)
  refine PW.aload_n q_74_30 rfl ?_
  refine PW.dup q_74_31 rfl ?_
  refine PW.gE q_74_32 (Or.inl t_ft_74_26) gF_1_1 kd_1 IM27.1 (by decide) ((congrArg (fun e => o_f e 1) (UM27.1 _ (g_ne kd_1 kd_2 (by decide)))).trans fM20) ?_
  refine PW.cI q_74_35 (by decide) fun c28 hc28 => ?_
  refine PW.addN q_74_36 (by omega) (by omega) fun x29 hx29 => ?_
  refine PW.pI q_74_37 (Or.inl t_ft_74_26) gF_1_1 gP_1_1 kd_1 hV IM27 (by decide) rfl (by omega) (by omega) fun M30 IM30 fM30 UM30 => ?_
  have FM30 := Fr.pu FM27 UM30.1 kd_1 (rfl : List.contains [1, 2] 1 = true)
  refine PW.incN q_74_40 rfl (by decide) (by decide) (by omega) (by omega) fun x31 hx31 => ?_
  refine PW.goto q_74_43 rfl ?_
  refine PW.iload_n q_74_3 rfl ?_
  refine PW.jz_lt q_74_4 rfl (fun h32 => False.elim (by omega)) (fun h32 => ?_)
  refine PW.aload_n q_74_7 rfl ?_
  refine PW.gE q_74_8 (Or.inl t_ft_74_26) gF_1_1 kd_1 IM30.1 (by decide) fM30 ?_
  refine PW.cS q_74_11 (by decide) fun c33 hc33 => ?_
  refine PW.jc_ge q_74_14 rfl (fun h34 => False.elim (by omega)) (fun h34 => ?_)
  refine PW.aload_n q_74_17 rfl ?_
  refine PW.gR 2 q_74_18 (Or.inl t_ft_74_9) gF_1_0 kd_1 IM30.1 (by decide) rfl ?_
  refine PW.aload_n q_74_21 rfl ?_
  refine PW.gE q_74_22 (Or.inl t_ft_74_26) gF_1_1 kd_1 IM30.1 (by decide) fM30 ?_
  refine PW.iload_n q_74_25 rfl ?_
  refine PW.iload_n q_74_26 rfl ?_
  refine PW.ishr q_74_27 ?_
  refine PW.nmI ?_; intro x35 ex35
  refine PW.i2b q_74_28 ?_
  refine PW.nmI ?_; intro x36 ex36
  refine PW.wYX q_74_29 gA_2 kd_2 hV IM30 (by decide) rfl gC_2_0_939 (by omega) (by omega) fun M37 IM37 fM37 UM37 => ?_
  have FM37 := Fr.pu FM30 UM37.1 kd_2 (rfl : List.contains [1, 2] 2 = true)
  refine PW.aload_n q_74_30 rfl ?_
  refine PW.dup q_74_31 rfl ?_
  refine PW.gE q_74_32 (Or.inl t_ft_74_26) gF_1_1 kd_1 IM37.1 (by decide) ((congrArg (fun e => o_f e 1) (UM37.1 _ (g_ne kd_1 kd_2 (by decide)))).trans fM30) ?_
  refine PW.cI q_74_35 (by decide) fun c38 hc38 => ?_
  refine PW.addN q_74_36 (by omega) (by omega) fun x39 hx39 => ?_
  refine PW.pI q_74_37 (Or.inl t_ft_74_26) gF_1_1 gP_1_1 kd_1 hV IM37 (by decide) rfl (by omega) (by omega) fun M40 IM40 fM40 UM40 => ?_
  have FM40 := Fr.pu FM37 UM40.1 kd_1 (rfl : List.contains [1, 2] 1 = true)
  refine PW.incN q_74_40 rfl (by decide) (by decide) (by omega) (by omega) fun x41 hx41 => ?_
  refine PW.goto q_74_43 rfl ?_
  refine PW.iload_n q_74_3 rfl ?_
  refine PW.jz_lt q_74_4 rfl (fun h42 => ?_) (fun h42 => False.elim (by omega))
  refine PW.vret q_74_46 rfl (by decide) (by decide) ?_
  exact hK M40 IM40 FM40 ⟨(by have w := (o_i_of fM40); omega), fun z hz => ((congrArg (fun e => o_a e z) (UM40.1 2 (by decide))).trans ((UM37.2 z (by omega)).trans ((congrArg (fun e => o_a e z) (UM30.1 2 (by decide))).trans ((UM27.2 z (by omega)).trans ((congrArg (fun e => o_a e z) (UM20.1 2 (by decide))).trans ((UM17.2 z (by omega)).trans ((congrArg (fun e => o_a e z) (UM10.1 2 (by decide))).trans (UM7.2 z (by omega))))))))), fun t ht => by rcases (show t = 0 ∨ t = 1 ∨ t = 2 ∨ t = 3 by omega) with rfl | rfl | rfl | rfl; (· rw [show (o_i (M 1) 1).toNat + 0 = w1_1.toInt.toNat from by omega, ((congrArg (fun e => o_a e w1_1.toInt.toNat) (UM40.1 2 (by decide))).trans ((UM37.2 w1_1.toInt.toNat (by omega)).trans ((congrArg (fun e => o_a e w1_1.toInt.toNat) (UM30.1 2 (by decide))).trans ((UM27.2 w1_1.toInt.toNat (by omega)).trans ((congrArg (fun e => o_a e w1_1.toInt.toNat) (UM20.1 2 (by decide))).trans ((UM17.2 w1_1.toInt.toNat (by omega)).trans (congrArg (fun e => o_a e w1_1.toInt.toNat) (UM10.1 2 (by decide))))))))), fM7, ex6, ex5, show c1 = Int32.ofInt (24 - 8 * ((0 : Nat) : Int)) from n_eq.mpr (by rw [show (Int32.ofInt (24 - 8 * ((0 : Nat) : Int))).toInt = 24 from by decide]; omega)]; rfl); (· rw [show (o_i (M 1) 1).toNat + 1 = x9.toInt.toNat from by omega, ((congrArg (fun e => o_a e x9.toInt.toNat) (UM40.1 2 (by decide))).trans ((UM37.2 x9.toInt.toNat (by omega)).trans ((congrArg (fun e => o_a e x9.toInt.toNat) (UM30.1 2 (by decide))).trans ((UM27.2 x9.toInt.toNat (by omega)).trans (congrArg (fun e => o_a e x9.toInt.toNat) (UM20.1 2 (by decide))))))), fM17, ex16, ex15, show x11 = Int32.ofInt (24 - 8 * ((1 : Nat) : Int)) from n_eq.mpr (by rw [show (Int32.ofInt (24 - 8 * ((1 : Nat) : Int))).toInt = 16 from by decide]; omega)]; rfl); (· rw [show (o_i (M 1) 1).toNat + 2 = x19.toInt.toNat from by omega, ((congrArg (fun e => o_a e x19.toInt.toNat) (UM40.1 2 (by decide))).trans ((UM37.2 x19.toInt.toNat (by omega)).trans (congrArg (fun e => o_a e x19.toInt.toNat) (UM30.1 2 (by decide))))), fM27, ex26, ex25, show x21 = Int32.ofInt (24 - 8 * ((2 : Nat) : Int)) from n_eq.mpr (by rw [show (Int32.ofInt (24 - 8 * ((2 : Nat) : Int))).toInt = 8 from by decide]; omega)]; rfl); (· rw [show (o_i (M 1) 1).toNat + 3 = x29.toInt.toNat from by omega, (congrArg (fun e => o_a e x29.toInt.toNat) (UM40.1 2 (by decide))), fM37, ex36, ex35, show x31 = Int32.ofInt (24 - 8 * ((3 : Nat) : Int)) from n_eq.mpr (by rw [show (Int32.ofInt (24 - 8 * ((3 : Nat) : Int))).toInt = 0 from by decide]; omega)]; rfl)⟩
theorem c_X12_four_vk (V : pM → Prop) (hV : Stab V) (G : pG) (Kr : pK) (M : pM) (I : Iv V M) (a1 : Int32) (hp_0 : o_i (M 294) 2 ≤ 936) (hK : ∀ (M1 : pM), Iv V M1 → Fr [40, 41] M M1 → (gKl [2] M M1 ∧ (o_i (M1 294) 2 = o_i (M 294) 2 + 4 ∧ (∀ z : Nat, (z : Int) < o_i (M 294) 2 → o_a (M1 295) z = o_a (M 295) z) ∧ ∀ t : Nat, t < 4 → o_a (M1 295) ((o_i (M 294) 2).toNat + t) = k_b4 a1 t)) → Kr.1 none 311 M1) : PW G false 0 163 (p_mc 163) (p_msl 163) Kr 0 (lv_args 0 [.ref 294, .int a1]) [] 311 M 0 0 := by
  have F : Fr [40, 41] M M := Fr.refl
  obtain ⟨w294_2, fw294_2, hw294_2, kw294_2⟩ := gF_40_2.int kd_294 I.1 (by decide)
  have iw294_2 := o_i_of fw294_2
  have jw294_2 : w294_2.toInt = o_i (M 294) 2 := by have w := (rfl : o_i (M 294) 2 = o_i (M 294) 2); omega
  refine PW.cB q_163_0 (by decide) fun c1 hc1 => ?_
  refine PW.istore_n q_163_2 (by decide) ?_
  refine PW.iload_n q_163_3 rfl ?_
  refine PW.jz_lt q_163_4 rfl (fun h2 => False.elim (by omega)) (fun h2 => ?_)
  refine PW.aload_n q_163_7 rfl ?_
  refine PW.gR 295 q_163_8 (Or.inl t_ft_163_14) gF_40_1 kd_294 I.1 (by decide) rfl ?_
  refine PW.aload_n q_163_11 rfl ?_
  refine PW.gE q_163_12 (Or.inl t_ft_163_7) gF_40_2 kd_294 I.1 (by decide) fw294_2 ?_
  refine PW.iload_n q_163_15 rfl ?_
  refine PW.iload_n q_163_16 rfl ?_
  refine PW.ishr q_163_17 ?_
  refine PW.nmI ?_; intro x3 ex3
  refine PW.i2b q_163_18 ?_
  refine PW.nmI ?_; intro x4 ex4
  refine PW.wYX q_163_19 gA_41 kd_295 hV I (by decide) rfl gC_41_0_939 (by omega) (by omega) fun M5 IM5 fM5 UM5 => ?_
  have FM5 := Fr.pu F UM5.1 kd_295 (rfl : List.contains [40, 41] 41 = true)
  refine PW.aload_n q_163_20 rfl ?_
  refine PW.dup q_163_21 rfl ?_
  refine PW.gE q_163_22 (Or.inl t_ft_163_7) gF_40_2 kd_294 IM5.1 (by decide) ((congrArg (fun e => o_f e 2) (UM5.1 _ (g_ne kd_294 kd_295 (by decide)))).trans fw294_2) ?_
  refine PW.cI q_163_25 (by decide) fun c6 hc6 => ?_
  refine PW.addN q_163_26 (by omega) (by omega) fun x7 hx7 => ?_
  refine PW.pI q_163_27 (Or.inl t_ft_163_7) gF_40_2 gP_40_2 kd_294 hV IM5 (by decide) rfl (by omega) (by omega) fun M8 IM8 fM8 UM8 => ?_
  have FM8 := Fr.pu FM5 UM8.1 kd_294 (rfl : List.contains [40, 41] 40 = true)
  refine PW.incN q_163_30 rfl (by decide) (by decide) (by omega) (by omega) fun x9 hx9 => ?_
  refine PW.goto q_163_33 rfl ?_
  refine PW.iload_n q_163_3 rfl ?_
  refine PW.jz_lt q_163_4 rfl (fun h10 => False.elim (by omega)) (fun h10 => ?_)
  refine PW.aload_n q_163_7 rfl ?_
  refine PW.gR 295 q_163_8 (Or.inl t_ft_163_14) gF_40_1 kd_294 IM8.1 (by decide) rfl ?_
  refine PW.aload_n q_163_11 rfl ?_
  refine PW.gE q_163_12 (Or.inl t_ft_163_7) gF_40_2 kd_294 IM8.1 (by decide) fM8 ?_
  refine PW.iload_n q_163_15 rfl ?_
  refine PW.iload_n q_163_16 rfl ?_
  refine PW.ishr q_163_17 ?_
  refine PW.nmI ?_; intro x11 ex11
  refine PW.i2b q_163_18 ?_
  refine PW.nmI ?_; intro x12 ex12
  refine PW.wYX q_163_19 gA_41 kd_295 hV IM8 (by decide) rfl gC_41_0_939 (by omega) (by omega) fun M13 IM13 fM13 UM13 => ?_
  have FM13 := Fr.pu FM8 UM13.1 kd_295 (rfl : List.contains [40, 41] 41 = true)
  refine PW.aload_n q_163_20 rfl ?_
  refine PW.dup q_163_21 rfl ?_
  refine PW.gE q_163_22 (Or.inl t_ft_163_7) gF_40_2 kd_294 IM13.1 (by decide) ((congrArg (fun e => o_f e 2) (UM13.1 _ (g_ne kd_294 kd_295 (by decide)))).trans fM8) ?_
  refine PW.cI q_163_25 (by decide) fun c14 hc14 => ?_
  refine PW.addN q_163_26 (by omega) (by omega) fun x15 hx15 => ?_
  refine PW.pI q_163_27 (Or.inl t_ft_163_7) gF_40_2 gP_40_2 kd_294 hV IM13 (by decide) rfl (by omega) (by omega) fun M16 IM16 fM16 UM16 => ?_
  have FM16 := Fr.pu FM13 UM16.1 kd_294 (rfl : List.contains [40, 41] 40 = true)
  refine PW.incN q_163_30 rfl (by decide) (by decide) (by omega) (by omega) fun x17 hx17 => ?_
  refine PW.goto q_163_33 rfl ?_
  refine PW.iload_n q_163_3 rfl ?_
  refine PW.jz_lt q_163_4 rfl (fun h18 => False.elim (by omega)) (fun h18 => ?_)
  refine PW.aload_n q_163_7 rfl ?_
  refine PW.gR 295 q_163_8 (Or.inl t_ft_163_14) gF_40_1 kd_294 IM16.1 (by decide) rfl ?_
  refine PW.aload_n q_163_11 rfl ?_
  refine PW.gE q_163_12 (Or.inl t_ft_163_7) gF_40_2 kd_294 IM16.1 (by decide) fM16 ?_
  refine PW.iload_n q_163_15 rfl ?_
  refine PW.iload_n q_163_16 rfl ?_
  refine PW.ishr q_163_17 ?_
  refine PW.nmI ?_; intro x19 ex19
  refine PW.i2b q_163_18 ?_
  refine PW.nmI ?_; intro x20 ex20
  refine PW.wYX q_163_19 gA_41 kd_295 hV IM16 (by decide) rfl gC_41_0_939 (by omega) (by omega) fun M21 IM21 fM21 UM21 => ?_
  have FM21 := Fr.pu FM16 UM21.1 kd_295 (rfl : List.contains [40, 41] 41 = true)
  refine PW.aload_n q_163_20 rfl ?_
  refine PW.dup q_163_21 rfl ?_
  refine PW.gE q_163_22 (Or.inl t_ft_163_7) gF_40_2 kd_294 IM21.1 (by decide) ((congrArg (fun e => o_f e 2) (UM21.1 _ (g_ne kd_294 kd_295 (by decide)))).trans fM16) ?_
  refine PW.cI q_163_25 (by decide) fun c22 hc22 => ?_
  refine PW.addN q_163_26 (by omega) (by omega) fun x23 hx23 => ?_
  refine PW.pI q_163_27 (Or.inl t_ft_163_7) gF_40_2 gP_40_2 kd_294 hV IM21 (by decide) rfl (by omega) (by omega) fun M24 IM24 fM24 UM24 => ?_
  have FM24 := Fr.pu FM21 UM24.1 kd_294 (rfl : List.contains [40, 41] 40 = true)
  refine PW.incN q_163_30 rfl (by decide) (by decide) (by omega) (by omega) fun x25 hx25 => ?_
  refine PW.goto q_163_33 rfl ?_
  refine PW.iload_n q_163_3 rfl ?_
  refine PW.jz_lt q_163_4 rfl (fun h26 => False.elim (by omega)) (fun h26 => ?_)
  refine PW.aload_n q_163_7 rfl ?_
  refine PW.gR 295 q_163_8 (Or.inl t_ft_163_14) gF_40_1 kd_294 IM24.1 (by decide) rfl ?_
  refine PW.aload_n q_163_11 rfl ?_
  refine PW.gE q_163_12 (Or.inl t_ft_163_7) gF_40_2 kd_294 IM24.1 (by decide) fM24 ?_
  refine PW.iload_n q_163_15 rfl ?_
  refine PW.iload_n q_163_16 rfl ?_
  refine PW.ishr q_163_17 ?_
  refine PW.nmI ?_; intro x27 ex27
  refine PW.i2b q_163_18 ?_
  refine PW.nmI ?_; intro x28 ex28
  refine PW.wYX q_163_19 gA_41 kd_295 hV IM24 (by decide) rfl gC_41_0_939 (by omega) (by omega) fun M29 IM29 fM29 UM29 => ?_
  have FM29 := Fr.pu FM24 UM29.1 kd_295 (rfl : List.contains [40, 41] 41 = true)
  refine PW.aload_n q_163_20 rfl ?_
  refine PW.dup q_163_21 rfl ?_
  refine PW.gE q_163_22 (Or.inl t_ft_163_7) gF_40_2 kd_294 IM29.1 (by decide) ((congrArg (fun e => o_f e 2) (UM29.1 _ (g_ne kd_294 kd_295 (by decide)))).trans fM24) ?_
  refine PW.cI q_163_25 (by decide) fun c30 hc30 => ?_
  refine PW.addN q_163_26 (by omega) (by omega) fun x31 hx31 => ?_
  refine PW.pI q_163_27 (Or.inl t_ft_163_7) gF_40_2 gP_40_2 kd_294 hV IM29 (by decide) rfl (by omega) (by omega) fun M32 IM32 fM32 UM32 => ?_
  have FM32 := Fr.pu FM29 UM32.1 kd_294 (rfl : List.contains [40, 41] 40 = true)
  refine PW.incN q_163_30 rfl (by decide) (by decide) (by omega) (by omega) fun x33 hx33 => ?_
  refine PW.goto q_163_33 rfl ?_
  refine PW.iload_n q_163_3 rfl ?_
  refine PW.jz_lt q_163_4 rfl (fun h34 => ?_) (fun h34 => False.elim (by omega))
  refine PW.vret q_163_36 rfl (by decide) (by decide) ?_
  exact hK M32 IM32 FM32 ⟨((((((((gKl.refl.cg (UM5.1 294 (by decide))).put UM8 rfl).cg (UM13.1 294 (by decide))).put UM16 rfl).cg (UM21.1 294 (by decide))).put UM24 rfl).cg (UM29.1 294 (by decide))).put UM32 rfl), ⟨(by have w := (o_i_of fM32); omega), fun z hz => ((congrArg (fun e => o_a e z) (UM32.1 295 (by decide))).trans ((UM29.2 z (by omega)).trans ((congrArg (fun e => o_a e z) (UM24.1 295 (by decide))).trans ((UM21.2 z (by omega)).trans ((congrArg (fun e => o_a e z) (UM16.1 295 (by decide))).trans ((UM13.2 z (by omega)).trans ((congrArg (fun e => o_a e z) (UM8.1 295 (by decide))).trans (UM5.2 z (by omega))))))))), fun t ht => by rcases (show t = 0 ∨ t = 1 ∨ t = 2 ∨ t = 3 by omega) with rfl | rfl | rfl | rfl; (· rw [show (o_i (M 294) 2).toNat + 0 = w294_2.toInt.toNat from by omega, ((congrArg (fun e => o_a e w294_2.toInt.toNat) (UM32.1 295 (by decide))).trans ((UM29.2 w294_2.toInt.toNat (by omega)).trans ((congrArg (fun e => o_a e w294_2.toInt.toNat) (UM24.1 295 (by decide))).trans ((UM21.2 w294_2.toInt.toNat (by omega)).trans ((congrArg (fun e => o_a e w294_2.toInt.toNat) (UM16.1 295 (by decide))).trans ((UM13.2 w294_2.toInt.toNat (by omega)).trans (congrArg (fun e => o_a e w294_2.toInt.toNat) (UM8.1 295 (by decide))))))))), fM5, ex4, ex3, show c1 = Int32.ofInt (24 - 8 * ((0 : Nat) : Int)) from n_eq.mpr (by rw [show (Int32.ofInt (24 - 8 * ((0 : Nat) : Int))).toInt = 24 from by decide]; omega)]; rfl); (· rw [show (o_i (M 294) 2).toNat + 1 = x7.toInt.toNat from by omega, ((congrArg (fun e => o_a e x7.toInt.toNat) (UM32.1 295 (by decide))).trans ((UM29.2 x7.toInt.toNat (by omega)).trans ((congrArg (fun e => o_a e x7.toInt.toNat) (UM24.1 295 (by decide))).trans ((UM21.2 x7.toInt.toNat (by omega)).trans (congrArg (fun e => o_a e x7.toInt.toNat) (UM16.1 295 (by decide))))))), fM13, ex12, ex11, show x9 = Int32.ofInt (24 - 8 * ((1 : Nat) : Int)) from n_eq.mpr (by rw [show (Int32.ofInt (24 - 8 * ((1 : Nat) : Int))).toInt = 16 from by decide]; omega)]; rfl); (· rw [show (o_i (M 294) 2).toNat + 2 = x15.toInt.toNat from by omega, ((congrArg (fun e => o_a e x15.toInt.toNat) (UM32.1 295 (by decide))).trans ((UM29.2 x15.toInt.toNat (by omega)).trans (congrArg (fun e => o_a e x15.toInt.toNat) (UM24.1 295 (by decide))))), fM21, ex20, ex19, show x17 = Int32.ofInt (24 - 8 * ((2 : Nat) : Int)) from n_eq.mpr (by rw [show (Int32.ofInt (24 - 8 * ((2 : Nat) : Int))).toInt = 8 from by decide]; omega)]; rfl); (· rw [show (o_i (M 294) 2).toNat + 3 = x23.toInt.toNat from by omega, (congrArg (fun e => o_a e x23.toInt.toNat) (UM32.1 295 (by decide))), fM29, ex28, ex27, show x25 = Int32.ofInt (24 - 8 * ((3 : Nat) : Int)) from n_eq.mpr (by rw [show (Int32.ofInt (24 - 8 * ((3 : Nat) : Int))).toInt = 0 from by decide]; omega)]; rfl)⟩⟩
theorem c_X11_feed_vk (G : pG) (Kr : pK) (M : pM) (I : Iv gTT M) (a1 : Int32) (a2 : Int32) (a3 : Int32) (a4 : Int32) (a5 : Int32) (hK : ∀ (x : Int32) (M1 : pM), Iv gTT M1 → Fr [1, 2] M M1 → ((o_i (M 1) 1 + 20 ≤ 940 ∧ x.toInt = o_i (M 1) 1 + 20 ∧ o_i (M1 1) 1 = o_i (M 1) 1 + 20 ∧ (∀ z : Nat, (z : Int) < o_i (M 1) 1 → o_a (M1 2) z = o_a (M 2) z) ∧ ∀ t : Nat, t < 20 → o_a (M1 2) ((o_i (M 1) 1).toNat + t) = k_b20 a1 a2 a3 a4 a5 t) ∨ (940 < o_i (M 1) 1 + 20 ∧ x.toInt = -1 ∧ o_i (M1 1) 1 = o_i (M 1) 1 ∧ o_a (M1 2) = o_a (M 2))) → Kr.1 (some (.int x)) 311 M1) : PW G false 1 100 (p_mc 100) (p_msl 100) Kr 0 (lv_args 0 [.ref 0, .int a1, .int a2, .int a3, .int a4, .int a5]) [] 311 M 0 0 := by
  have F : Fr [1, 2] M M := Fr.refl
  refine PW.aload_n q_100_0 rfl ?_
  refine PW.gR 1 q_100_1 (Or.inl t_ft_100_10) gF_0_0 kd_0 I.1 (by decide) rfl ?_
  refine PW.gI q_100_4 (Or.inr t_fN_100_73) gF_1_1 kd_1 I.1 (by decide) fun x1 fx1 hx1 kx1 => ?_
  have ix1 := o_i_of fx1
  refine PW.cB q_100_7 (by decide) fun c2 hc2 => ?_
  refine PW.addN q_100_9 (by omega) (by omega) fun x3 hx3 => ?_
  refine PW.cS q_100_10 (by decide) fun c4 hc4 => ?_
  refine PW.jc_le q_100_13 rfl (fun h5 => ?_) (fun h5 => ?_)
  · skip
    refine PW.aload_n q_100_18 rfl ?_
    refine PW.gR 1 q_100_19 (Or.inl t_ft_100_10) gF_0_0 kd_0 I.1 (by decide) rfl ?_
    refine PW.iload_n q_100_22 rfl ?_
    refine PW.cV (as := [_]) (rest := []) q_100_23 t_mv_100_77 kd_1 I.1 (by decide) rfl (by decide) rfl rfl (Nat.le_of_ble_eq_true rfl) (Nat.le_of_ble_eq_true rfl) (by decide) (by decide) ?_
    refine PW.up (by decide) (c_X7_append_vk (gTT) (Stab0) G _ M I a1 (by omega) fun M6 IM6 GM6 PM6 => ?_)
    have FM6 := Fr.trans F GM6 (rfl)
    rcases PM6 with ⟨PlM6, PsM6, PbM6⟩
    refine PW.aload_n q_100_26 rfl ?_
    refine PW.gR 1 q_100_27 (Or.inl t_ft_100_10) gF_0_0 kd_0 IM6.1 (by decide) rfl ?_
    refine PW.iload_n q_100_30 rfl ?_
    refine PW.cV (as := [_]) (rest := []) q_100_31 t_mv_100_77 kd_1 IM6.1 (by decide) rfl (by decide) rfl rfl (Nat.le_of_ble_eq_true rfl) (Nat.le_of_ble_eq_true rfl) (by decide) (by decide) ?_
    refine PW.up (by decide) (c_X7_append_vk (gTT) (Stab0) G _ M6 IM6 a2 (by omega) fun M7 IM7 GM7 PM7 => ?_)
    have FM7 := Fr.trans FM6 GM7 (rfl)
    rcases PM7 with ⟨PlM7, PsM7, PbM7⟩
    refine PW.aload_n q_100_34 rfl ?_
    refine PW.gR 1 q_100_35 (Or.inl t_ft_100_10) gF_0_0 kd_0 IM7.1 (by decide) rfl ?_
    refine PW.iload_n q_100_38 rfl ?_
    refine PW.cV (as := [_]) (rest := []) q_100_39 t_mv_100_77 kd_1 IM7.1 (by decide) rfl (by decide) rfl rfl (Nat.le_of_ble_eq_true rfl) (Nat.le_of_ble_eq_true rfl) (by decide) (by decide) ?_
    refine PW.up (by decide) (c_X7_append_vk (gTT) (Stab0) G _ M7 IM7 a3 (by omega) fun M8 IM8 GM8 PM8 => ?_)
    have FM8 := Fr.trans FM7 GM8 (rfl)
    rcases PM8 with ⟨PlM8, PsM8, PbM8⟩
    refine PW.aload_n q_100_42 rfl ?_
    refine PW.gR 1 q_100_43 (Or.inl t_ft_100_10) gF_0_0 kd_0 IM8.1 (by decide) rfl ?_
    refine PW.iload q_100_46 rfl ?_
    refine PW.cV (as := [_]) (rest := []) q_100_48 t_mv_100_77 kd_1 IM8.1 (by decide) rfl (by decide) rfl rfl (Nat.le_of_ble_eq_true rfl) (Nat.le_of_ble_eq_true rfl) (by decide) (by decide) ?_
    refine PW.up (by decide) (c_X7_append_vk (gTT) (Stab0) G _ M8 IM8 a4 (by omega) fun M9 IM9 GM9 PM9 => ?_)
    have FM9 := Fr.trans FM8 GM9 (rfl)
    rcases PM9 with ⟨PlM9, PsM9, PbM9⟩
    refine PW.aload_n q_100_51 rfl ?_
    refine PW.gR 1 q_100_52 (Or.inl t_ft_100_10) gF_0_0 kd_0 IM9.1 (by decide) rfl ?_
    refine PW.iload q_100_55 rfl ?_
    refine PW.cV (as := [_]) (rest := []) q_100_57 t_mv_100_77 kd_1 IM9.1 (by decide) rfl (by decide) rfl rfl (Nat.le_of_ble_eq_true rfl) (Nat.le_of_ble_eq_true rfl) (by decide) (by decide) ?_
    refine PW.up (by decide) (c_X7_append_vk (gTT) (Stab0) G _ M9 IM9 a5 (by omega) fun M10 IM10 GM10 PM10 => ?_)
    have FM10 := Fr.trans FM9 GM10 (rfl)
    rcases PM10 with ⟨PlM10, PsM10, PbM10⟩
    refine PW.aload_n q_100_60 rfl ?_
    refine PW.gR 1 q_100_61 (Or.inl t_ft_100_10) gF_0_0 kd_0 IM10.1 (by decide) rfl ?_
    refine PW.gI q_100_64 (Or.inr t_fN_100_73) gF_1_1 kd_1 IM10.1 (by decide) fun x11 fx11 hx11 kx11 => ?_
    have ix11 := o_i_of fx11
    refine PW.rI q_100_67 rfl (by decide) (by decide) ?_
    exact hK x11 M10 IM10 FM10 (Or.inl ⟨by omega, by omega, by omega, fun z hz => by rw [PsM10 z (by omega), PsM9 z (by omega), PsM8 z (by omega), PsM7 z (by omega), PsM6 z (by omega)], fun t ht => by unfold k_b20; rcases (show t < 4 ∨ (4 ≤ t ∧ t < 8) ∨ (8 ≤ t ∧ t < 12) ∨ (12 ≤ t ∧ t < 16) ∨ 16 ≤ t by omega) with h | h | h | h | h; (· rw [if_pos (by omega)]; rw [PsM10 ((o_i (M 1) 1).toNat + t) (by omega), PsM9 ((o_i (M 1) 1).toNat + t) (by omega), PsM8 ((o_i (M 1) 1).toNat + t) (by omega), PsM7 ((o_i (M 1) 1).toNat + t) (by omega)]; rw [show (o_i (M 1) 1).toNat + t = (o_i (M 1) 1).toNat + (t - 0) from by omega]; exact PbM6 (t - 0) (by omega)); (· rw [if_neg (by omega), if_pos (by omega)]; rw [PsM10 ((o_i (M 1) 1).toNat + t) (by omega), PsM9 ((o_i (M 1) 1).toNat + t) (by omega), PsM8 ((o_i (M 1) 1).toNat + t) (by omega)]; rw [show (o_i (M 1) 1).toNat + t = (o_i (M6 1) 1).toNat + (t - 4) from by omega]; exact PbM7 (t - 4) (by omega)); (· rw [if_neg (by omega), if_neg (by omega), if_pos (by omega)]; rw [PsM10 ((o_i (M 1) 1).toNat + t) (by omega), PsM9 ((o_i (M 1) 1).toNat + t) (by omega)]; rw [show (o_i (M 1) 1).toNat + t = (o_i (M7 1) 1).toNat + (t - 8) from by omega]; exact PbM8 (t - 8) (by omega)); (· rw [if_neg (by omega), if_neg (by omega), if_neg (by omega), if_pos (by omega)]; rw [PsM10 ((o_i (M 1) 1).toNat + t) (by omega)]; rw [show (o_i (M 1) 1).toNat + t = (o_i (M8 1) 1).toNat + (t - 12) from by omega]; exact PbM9 (t - 12) (by omega)); (· rw [if_neg (by omega), if_neg (by omega), if_neg (by omega), if_neg (by omega)]; rw [show (o_i (M 1) 1).toNat + t = (o_i (M9 1) 1).toNat + (t - 16) from by omega]; exact PbM10 (t - 16) (by omega))⟩)
  · skip
    refine PW.cI q_100_16 (by decide) fun c12 hc12 => ?_
    refine PW.rI q_100_17 rfl (by decide) (by decide) ?_
    exact hK c12 M I F (Or.inr ⟨by omega, by omega, by omega, rfl⟩)
theorem c_X12_feed_vk (G : pG) (Kr : pK) (M : pM) (I : Iv gTT M) (a1 : Int32) (a2 : Int32) (a3 : Int32) (a4 : Int32) (a5 : Int32) (hK : ∀ (x : Int32) (M1 : pM), Iv gTT M1 → Fr [40, 41] M M1 → (gKl [0, 2] M M1 ∧ ((o_i (M 294) 2 + 20 ≤ 940 ∧ x.toInt = o_i (M 294) 2 + 20 ∧ o_i (M1 294) 2 = o_i (M 294) 2 + 20 ∧ (∀ z : Nat, (z : Int) < o_i (M 294) 2 → o_a (M1 295) z = o_a (M 295) z) ∧ ∀ t : Nat, t < 20 → o_a (M1 295) ((o_i (M 294) 2).toNat + t) = k_b20 a1 a2 a3 a4 a5 t) ∨ (940 < o_i (M 294) 2 + 20 ∧ x.toInt = -1 ∧ o_i (M1 294) 2 = o_i (M 294) 2 ∧ o_a (M1 295) = o_a (M 295)))) → Kr.1 (some (.int x)) 311 M1) : PW G false 1 162 (p_mc 162) (p_msl 162) Kr 0 (lv_args 0 [.ref 294, .int a1, .int a2, .int a3, .int a4, .int a5]) [] 311 M 0 0 := by
  have F : Fr [40, 41] M M := Fr.refl
  refine PW.aload_n q_162_0 rfl ?_
  refine PW.cI q_162_1 (by decide) fun c1 hc1 => ?_
  refine PW.pI q_162_2 (Or.inl t_ft_162_1) gF_40_0 gP_40_0 kd_294 Stab0 I (by decide) rfl (n_lo _) (n_hi _) fun M2 IM2 fM2 UM2 => ?_
  have FM2 := Fr.pu F UM2.1 kd_294 (rfl : List.contains [40, 41] 40 = true)
  have r0 : o_i (M2 294) 2 = o_i (M 294) 2 := (UM2.i (c := 294) (k := 2) (Or.inr (by decide)))
  refine PW.aload_n q_162_5 rfl ?_
  refine PW.gI q_162_6 (Or.inl t_ft_162_7) gF_40_2 kd_294 IM2.1 (by decide) fun x3 fx3 hx3 kx3 => ?_
  have ix3 := o_i_of fx3
  refine PW.cB q_162_9 (by decide) fun c4 hc4 => ?_
  refine PW.addN q_162_11 (by omega) (by omega) fun x5 hx5 => ?_
  refine PW.cS q_162_12 (by decide) fun c6 hc6 => ?_
  refine PW.jc_le q_162_15 rfl (fun h7 => ?_) (fun h7 => ?_)
  · skip
    refine PW.aload_n q_162_20 rfl ?_
    refine PW.iload_n q_162_21 rfl ?_
    refine PW.cV (as := [_]) (rest := []) q_162_22 t_mv_162_10 kd_294 IM2.1 (by decide) rfl (by decide) rfl rfl (Nat.le_of_ble_eq_true rfl) (Nat.le_of_ble_eq_true rfl) (by decide) (by decide) ?_
    refine PW.up (by decide) (c_X12_four_vk (gTT) (Stab0) G _ M2 IM2 a1 (by omega) fun M8 IM8 GM8 PM8 => ?_)
    have FM8 := Fr.trans FM2 GM8 (rfl)
    rcases PM8 with ⟨QM8, ⟨PlM8, PsM8, PbM8⟩⟩
    refine PW.aload_n q_162_25 rfl ?_
    refine PW.iload_n q_162_26 rfl ?_
    refine PW.cV (as := [_]) (rest := []) q_162_27 t_mv_162_10 kd_294 IM8.1 (by decide) rfl (by decide) rfl rfl (Nat.le_of_ble_eq_true rfl) (Nat.le_of_ble_eq_true rfl) (by decide) (by decide) ?_
    refine PW.up (by decide) (c_X12_four_vk (gTT) (Stab0) G _ M8 IM8 a2 (by omega) fun M9 IM9 GM9 PM9 => ?_)
    have FM9 := Fr.trans FM8 GM9 (rfl)
    rcases PM9 with ⟨QM9, ⟨PlM9, PsM9, PbM9⟩⟩
    refine PW.aload_n q_162_30 rfl ?_
    refine PW.iload_n q_162_31 rfl ?_
    refine PW.cV (as := [_]) (rest := []) q_162_32 t_mv_162_10 kd_294 IM9.1 (by decide) rfl (by decide) rfl rfl (Nat.le_of_ble_eq_true rfl) (Nat.le_of_ble_eq_true rfl) (by decide) (by decide) ?_
    refine PW.up (by decide) (c_X12_four_vk (gTT) (Stab0) G _ M9 IM9 a3 (by omega) fun M10 IM10 GM10 PM10 => ?_)
    have FM10 := Fr.trans FM9 GM10 (rfl)
    rcases PM10 with ⟨QM10, ⟨PlM10, PsM10, PbM10⟩⟩
    refine PW.aload_n q_162_35 rfl ?_
    refine PW.iload q_162_36 rfl ?_
    refine PW.cV (as := [_]) (rest := []) q_162_38 t_mv_162_10 kd_294 IM10.1 (by decide) rfl (by decide) rfl rfl (Nat.le_of_ble_eq_true rfl) (Nat.le_of_ble_eq_true rfl) (by decide) (by decide) ?_
    refine PW.up (by decide) (c_X12_four_vk (gTT) (Stab0) G _ M10 IM10 a4 (by omega) fun M11 IM11 GM11 PM11 => ?_)
    have FM11 := Fr.trans FM10 GM11 (rfl)
    rcases PM11 with ⟨QM11, ⟨PlM11, PsM11, PbM11⟩⟩
    refine PW.aload_n q_162_41 rfl ?_
    refine PW.iload q_162_42 rfl ?_
    refine PW.cV (as := [_]) (rest := []) q_162_44 t_mv_162_10 kd_294 IM11.1 (by decide) rfl (by decide) rfl rfl (Nat.le_of_ble_eq_true rfl) (Nat.le_of_ble_eq_true rfl) (by decide) (by decide) ?_
    refine PW.up (by decide) (c_X12_four_vk (gTT) (Stab0) G _ M11 IM11 a5 (by omega) fun M12 IM12 GM12 PM12 => ?_)
    have FM12 := Fr.trans FM11 GM12 (rfl)
    rcases PM12 with ⟨QM12, ⟨PlM12, PsM12, PbM12⟩⟩
    refine PW.aload_n q_162_47 rfl ?_
    refine PW.gI q_162_48 (Or.inl t_ft_162_7) gF_40_2 kd_294 IM12.1 (by decide) fun x13 fx13 hx13 kx13 => ?_
    have ix13 := o_i_of fx13
    refine PW.rI q_162_51 rfl (by decide) (by decide) ?_
    exact hK x13 M12 IM12 FM12 ⟨((((((gKl.refl.put UM2 rfl).tr QM8 rfl).tr QM9 rfl).tr QM10 rfl).tr QM11 rfl).tr QM12 rfl), (Or.inl ⟨by omega, by omega, by omega, fun z hz => by rw [PsM12 z (by omega), PsM11 z (by omega), PsM10 z (by omega), PsM9 z (by omega), PsM8 z (by omega), UM2.1 295 (by decide)], fun t ht => by unfold k_b20; rcases (show t < 4 ∨ (4 ≤ t ∧ t < 8) ∨ (8 ≤ t ∧ t < 12) ∨ (12 ≤ t ∧ t < 16) ∨ 16 ≤ t by omega) with h | h | h | h | h; (· rw [if_pos (by omega)]; rw [PsM12 ((o_i (M 294) 2).toNat + t) (by omega), PsM11 ((o_i (M 294) 2).toNat + t) (by omega), PsM10 ((o_i (M 294) 2).toNat + t) (by omega), PsM9 ((o_i (M 294) 2).toNat + t) (by omega)]; rw [show (o_i (M 294) 2).toNat + t = (o_i (M2 294) 2).toNat + (t - 0) from by omega]; exact PbM8 (t - 0) (by omega)); (· rw [if_neg (by omega), if_pos (by omega)]; rw [PsM12 ((o_i (M 294) 2).toNat + t) (by omega), PsM11 ((o_i (M 294) 2).toNat + t) (by omega), PsM10 ((o_i (M 294) 2).toNat + t) (by omega)]; rw [show (o_i (M 294) 2).toNat + t = (o_i (M8 294) 2).toNat + (t - 4) from by omega]; exact PbM9 (t - 4) (by omega)); (· rw [if_neg (by omega), if_neg (by omega), if_pos (by omega)]; rw [PsM12 ((o_i (M 294) 2).toNat + t) (by omega), PsM11 ((o_i (M 294) 2).toNat + t) (by omega)]; rw [show (o_i (M 294) 2).toNat + t = (o_i (M9 294) 2).toNat + (t - 8) from by omega]; exact PbM10 (t - 8) (by omega)); (· rw [if_neg (by omega), if_neg (by omega), if_neg (by omega), if_pos (by omega)]; rw [PsM12 ((o_i (M 294) 2).toNat + t) (by omega)]; rw [show (o_i (M 294) 2).toNat + t = (o_i (M10 294) 2).toNat + (t - 12) from by omega]; exact PbM11 (t - 12) (by omega)); (· rw [if_neg (by omega), if_neg (by omega), if_neg (by omega), if_neg (by omega)]; rw [show (o_i (M 294) 2).toNat + t = (o_i (M11 294) 2).toNat + (t - 16) from by omega]; exact PbM12 (t - 16) (by omega))⟩)⟩
  · skip
    refine PW.cI q_162_18 (by decide) fun c14 hc14 => ?_
    refine PW.rI q_162_19 rfl (by decide) (by decide) ?_
    exact hK c14 M2 IM2 FM2 ⟨(gKl.refl.put UM2 rfl), (Or.inr ⟨by omega, by omega, (UM2.i (c := 294) (k := 2) (Or.inr (by decide))), congrArg o_a (UM2.1 _ (g_ne kd_295 kd_294 (by decide)))⟩)⟩
