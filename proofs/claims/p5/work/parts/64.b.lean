theorem c_X3_readLength_vk (V : pM → Prop) (hV : Stab V) (G : pG) (Kr : pK) (M : pM) (I : Iv V M) (y : k_X) (i : Nat) (A : k_A) (hp_0 : k_at y M i) (hp_1 : k_cp M A) (hp_2 : kK y i = 2) (hK : ∀ (x : Int32) (M1 : pM), Iv V M1 → Fr [1, 4] M M1 → 0 ≤ x.toInt → x.toInt ≤ 1 → (k_cq y (k_len y A i) x M1) → (gWk M M1) → Kr.1 (some (.int x)) 311 M1) : PW G false 4 24 (p_mc 24) (p_msl 24) Kr 0 (lv_args 0 [.ref 256, .ref 1]) [] 311 M 0 0 := by
  have F : Fr [1, 4] M M := Fr.refl
  obtain ⟨kc0, kc1, kc2, kc3, kc4, kc5, kc6, kc7, kc8, kc9, kc10, kc11⟩ := id hp_1
  obtain ⟨w256_0, fw256_0, hw256_0, kw256_0⟩ := gF_4_0.int kd_256 I.1 (by decide)
  have iw256_0 := o_i_of fw256_0
  have jw256_0 : w256_0.toInt = A.1 5 := by have w := kc0; omega
  obtain ⟨w256_1, fw256_1, hw256_1, kw256_1⟩ := gF_4_1.int kd_256 I.1 (by decide)
  have iw256_1 := o_i_of fw256_1
  have jw256_1 : w256_1.toInt = A.1 2 := by have w := kc1; omega
  obtain ⟨w256_2, fw256_2, hw256_2, kw256_2⟩ := gF_4_2.int kd_256 I.1 (by decide)
  have iw256_2 := o_i_of fw256_2
  have jw256_2 : w256_2.toInt = A.1 3 := by have w := kc2; omega
  obtain ⟨w256_3, fw256_3, hw256_3, kw256_3⟩ := gF_4_3.int kd_256 I.1 (by decide)
  have iw256_3 := o_i_of fw256_3
  have jw256_3 : w256_3.toInt = A.1 4 := by have w := kc3; omega
  obtain ⟨w256_4, fw256_4, hw256_4, kw256_4⟩ := gF_4_4.int kd_256 I.1 (by decide)
  have iw256_4 := o_i_of fw256_4
  have jw256_4 : w256_4.toInt = A.1 6 := by have w := kc4; omega
  obtain ⟨w256_5, fw256_5, hw256_5, kw256_5⟩ := gF_4_5.int kd_256 I.1 (by decide)
  have iw256_5 := o_i_of fw256_5
  have jw256_5 : w256_5.toInt = A.1 7 := by have w := kc5; omega
  obtain ⟨w256_6, fw256_6, hw256_6, kw256_6⟩ := gF_4_6.int kd_256 I.1 (by decide)
  have iw256_6 := o_i_of fw256_6
  have jw256_6 : w256_6.toInt = A.1 0 := by have w := kc6; omega
  obtain ⟨w256_7, fw256_7, hw256_7, kw256_7⟩ := gF_4_7.int kd_256 I.1 (by decide)
  have iw256_7 := o_i_of fw256_7
  have jw256_7 : w256_7.toInt = A.1 1 := by have w := kc7; omega
  refine PW.aload_n q_24_0 rfl ?_
  refine PW.gE q_24_1 (Or.inl t_ft_24_60) gF_4_4 kd_256 I.1 (by decide) fw256_4 ?_
  refine PW.jz_ne q_24_4 rfl (fun h1 => ?_) (fun h1 => ?_)
  · skip
    refine PW.aload_n q_24_14 rfl ?_
    refine PW.cI q_24_15 (by decide) fun c2 hc2 => ?_
    refine PW.cV (as := [_]) (rest := []) q_24_16 t_mv_24_137 kd_1 I.1 (by decide) rfl (by decide) rfl rfl (Nat.le_of_ble_eq_true rfl) (Nat.le_of_ble_eq_true rfl) (by decide) (by decide) ?_
    refine PW.up (by decide) (c_X7_fail_vk (V) (hV) G _ M I c2 _ i hp_0 fun x4 M3 IM3 GM3 hx4 kx4 PM3 => ?_)
    have FM3 := Fr.trans F GM3 (rfl)
    rcases PM3 with ⟨PfM3, PgM3⟩
    refine PW.rZ q_24_19 rfl (by omega) (by omega) (by decide) (by decide) ?_
    have e : k_len y A i = (3, kP y i, A, i) := by unfold k_len; rw [if_pos (by omega)]
    exact hK x4 M3 IM3 FM3 (by omega) (by omega) (by rw [e]; exact Or.inr ⟨by omega, (by omega : (3 : Int) ≠ 0), (by omega : o_i (M3 1) 10 = 3), (by omega : o_i (M3 1) 11 = kP y i)⟩) (gWk.refl.fr GM3 (by decide))
  · skip
    refine PW.aload_n q_24_7 rfl ?_
    refine PW.gE q_24_8 (Or.inl t_ft_24_67) gF_4_6 kd_256 I.1 (by decide) fw256_6 ?_
    refine PW.jz_le q_24_11 rfl (fun h5 => ?_) (fun h5 => ?_)
    · skip
      refine PW.aload_n q_24_20 rfl ?_
      refine PW.cI q_24_21 (by decide) fun c6 hc6 => ?_
      refine PW.pI q_24_22 (Or.inl t_ft_24_60) gF_4_4 gP_4_4 kd_256 hV I (by decide) rfl (by omega) (by omega) fun M7 IM7 fM7 UM7 => ?_
      have FM7 := Fr.pu F UM7.1 kd_256 (rfl : List.contains [1, 4] 4 = true)
      refine PW.aload_n q_24_25 rfl ?_
      refine PW.cV (as := []) (rest := []) q_24_26 t_mv_24_140 kd_1 IM7.1 (by decide) rfl (by decide) rfl rfl (Nat.le_of_ble_eq_true rfl) (Nat.le_of_ble_eq_true rfl) (by decide) (by decide) ?_
      refine PW.up (by decide) (c_X7_advance_vk (V) (hV) G _ M7 IM7 _ (i + 1) (k_at.nx (hp_0.cg (UM7.1 _ (g_ne kd_1 kd_256 (by decide))) (UM7.1 _ (g_ne kd_2 kd_256 (by decide)))) (by omega)) fun M8 IM8 GM8 PM8 => ?_)
      have FM8 := Fr.trans FM7 GM8 (rfl)
      have PtM8 := PM8
      refine PW.aload_n q_24_29 rfl ?_
      refine PW.aload_n q_24_30 rfl ?_
      refine PW.cI q_24_31 (by decide) fun c9 hc9 => ?_
      refine PW.cS q_24_32 (by decide) fun c10 hc10 => ?_
      refine PW.cV (as := [_, _]) (rest := [_]) q_24_35 t_mv_24_143 kd_1 IM8.1 (by decide) rfl (by decide) rfl rfl (Nat.le_of_ble_eq_true rfl) (Nat.le_of_ble_eq_true rfl) (by decide) (by decide) ?_
      refine PW.up (by decide) (c_X7_needsNumber_vk (V) (hV) G _ M8 IM8 c9 c10 _ (i + 1) 1 900 PtM8 (by omega) (by omega) fun x12 M11 IM11 GM11 PM11 => ?_)
      have FM11 := Fr.trans FM8 GM11 (rfl)
      rcases PM11 with ⟨PzM11, PvM11, PlM11, PhM11, PtM11⟩ | ⟨PzM11, PvM11, PfM11, PgM11⟩
      · skip
        refine PW.pI q_24_38 (Or.inl t_ft_24_51) gF_4_1 gP_4_1 kd_256 hV IM11 (by decide) rfl (n_lo _) (n_hi _) fun M13 IM13 fM13 UM13 => ?_
        have FM13 := Fr.pu FM11 UM13.1 kd_256 (rfl : List.contains [1, 4] 4 = true)
        refine PW.aload_n q_24_41 rfl ?_
        refine PW.gE q_24_42 (Or.inl t_ft_24_51) gF_4_1 kd_256 IM13.1 (by decide) fM13 ?_
        refine PW.cI q_24_45 (by decide) fun c14 hc14 => ?_
        refine PW.jc_eq q_24_46 rfl (fun h15 => False.elim (by omega)) (fun h15 => ?_)
        refine PW.cI q_24_49 (by decide) fun c16 hc16 => ?_
        refine PW.goto q_24_50 rfl ?_
        refine PW.rZ q_24_54 rfl (by omega) (by omega) (by decide) (by decide) ?_
        have e : k_len y A i = (0, 0, (va_up (va_up A.1 6 1) 2 (kV y (i + 1)), A.2), i + 2) := by unfold k_len; rw [if_neg (by omega), if_neg (by omega)]
        exact hK c16 M13 IM13 FM13 (by omega) (by omega) (by rw [e]; exact Or.inl ⟨by omega, rfl, (PtM11.cg (UM13.1 _ (g_ne kd_1 kd_256 (by decide))) (UM13.1 _ (g_ne kd_2 kd_256 (by decide)))), ⟨(by have w := (o_i_of ((UM13.f (Or.inr (by decide))).trans ((congrArg (fun e => o_f e 0) (Fr.at GM11 kd_256 (by decide))).trans ((congrArg (fun e => o_f e 0) (Fr.at GM8 kd_256 (by decide))).trans ((UM7.f (Or.inr (by decide))).trans fw256_0))))); show o_i (M13 256) 0 = A.1 5; omega), (by have w := (o_i_of fM13); show o_i (M13 256) 1 = kV y (i + 1); omega), (by have w := (o_i_of ((UM13.f (Or.inr (by decide))).trans ((congrArg (fun e => o_f e 2) (Fr.at GM11 kd_256 (by decide))).trans ((congrArg (fun e => o_f e 2) (Fr.at GM8 kd_256 (by decide))).trans ((UM7.f (Or.inr (by decide))).trans fw256_2))))); show o_i (M13 256) 2 = A.1 3; omega), (by have w := (o_i_of ((UM13.f (Or.inr (by decide))).trans ((congrArg (fun e => o_f e 3) (Fr.at GM11 kd_256 (by decide))).trans ((congrArg (fun e => o_f e 3) (Fr.at GM8 kd_256 (by decide))).trans ((UM7.f (Or.inr (by decide))).trans fw256_3))))); show o_i (M13 256) 3 = A.1 4; omega), (by have w := (o_i_of ((UM13.f (Or.inr (by decide))).trans ((congrArg (fun e => o_f e 4) (Fr.at GM11 kd_256 (by decide))).trans ((congrArg (fun e => o_f e 4) (Fr.at GM8 kd_256 (by decide))).trans fM7)))); show o_i (M13 256) 4 = 1; omega), (by have w := (o_i_of ((UM13.f (Or.inr (by decide))).trans ((congrArg (fun e => o_f e 5) (Fr.at GM11 kd_256 (by decide))).trans ((congrArg (fun e => o_f e 5) (Fr.at GM8 kd_256 (by decide))).trans ((UM7.f (Or.inr (by decide))).trans fw256_5))))); show o_i (M13 256) 5 = A.1 7; omega), (by have w := (o_i_of ((UM13.f (Or.inr (by decide))).trans ((congrArg (fun e => o_f e 6) (Fr.at GM11 kd_256 (by decide))).trans ((congrArg (fun e => o_f e 6) (Fr.at GM8 kd_256 (by decide))).trans ((UM7.f (Or.inr (by decide))).trans fw256_6))))); show o_i (M13 256) 6 = A.1 0; omega), (by have w := (o_i_of ((UM13.f (Or.inr (by decide))).trans ((congrArg (fun e => o_f e 7) (Fr.at GM11 kd_256 (by decide))).trans ((congrArg (fun e => o_f e 7) (Fr.at GM8 kd_256 (by decide))).trans ((UM7.f (Or.inr (by decide))).trans fw256_7))))); show o_i (M13 256) 7 = A.1 1; omega), (fun j hj => by rw [((UM13.1 _ (g_ne kd_257 kd_256 (by decide))).trans ((Fr.at GM11 kd_257 (by decide)).trans ((Fr.at GM8 kd_257 (by decide)).trans (UM7.1 _ (g_ne kd_257 kd_256 (by decide))))))]; exact kc8 j hj), (fun j hj => by rw [((UM13.1 _ (g_ne kd_261 kd_256 (by decide))).trans ((Fr.at GM11 kd_261 (by decide)).trans ((Fr.at GM8 kd_261 (by decide)).trans (UM7.1 _ (g_ne kd_261 kd_256 (by decide))))))]; exact kc9 j hj), (fun j hj => by rw [((UM13.1 _ (g_ne kd_266 kd_256 (by decide))).trans ((Fr.at GM11 kd_266 (by decide)).trans ((Fr.at GM8 kd_266 (by decide)).trans (UM7.1 _ (g_ne kd_266 kd_256 (by decide))))))]; exact kc10 j hj), (fun j hj => by rw [((UM13.1 _ (g_ne kd_265 kd_256 (by decide))).trans ((Fr.at GM11 kd_265 (by decide)).trans ((Fr.at GM8 kd_265 (by decide)).trans (UM7.1 _ (g_ne kd_265 kd_256 (by decide))))))]; exact kc11 j hj)⟩⟩) ((((gWk.refl.put UM7 (by decide)).fr GM8 (by decide)).fr GM11 (by decide)).put UM13 (by decide))
      · skip
        refine PW.pI q_24_38 (Or.inl t_ft_24_51) gF_4_1 gP_4_1 kd_256 hV IM11 (by decide) rfl (n_lo _) (n_hi _) fun M17 IM17 fM17 UM17 => ?_
        have FM17 := Fr.pu FM11 UM17.1 kd_256 (rfl : List.contains [1, 4] 4 = true)
        refine PW.aload_n q_24_41 rfl ?_
        refine PW.gE q_24_42 (Or.inl t_ft_24_51) gF_4_1 kd_256 IM17.1 (by decide) fM17 ?_
        refine PW.cI q_24_45 (by decide) fun c18 hc18 => ?_
        refine PW.jc_eq q_24_46 rfl (fun h19 => ?_) (fun h19 => False.elim (by omega))
        refine PW.cI q_24_53 (by decide) fun c20 hc20 => ?_
        refine PW.rZ q_24_54 rfl (by omega) (by omega) (by decide) (by decide) ?_
        have e : k_len y A i = (k_nr y (i + 1) 1 900, kP y (i + 1), A, i) := by unfold k_len; rw [if_neg (by omega), if_pos (by omega)]
        have g10 : o_i (M17 1) 10 = o_i (M11 1) 10 := congrArg (fun e => o_i e 10) (UM17.1 _ (g_ne kd_1 kd_256 (by decide)))
        have g11 : o_i (M17 1) 11 = o_i (M11 1) 11 := congrArg (fun e => o_i e 11) (UM17.1 _ (g_ne kd_1 kd_256 (by decide)))
        exact hK c20 M17 IM17 FM17 (by omega) (by omega) (by rw [e]; exact Or.inr ⟨by omega, (by omega : (k_nr y (i + 1) 1 900 : Int) ≠ 0), (by omega : o_i (M17 1) 10 = k_nr y (i + 1) 1 900), (by omega : o_i (M17 1) 11 = kP y (i + 1))⟩) ((((gWk.refl.put UM7 (by decide)).fr GM8 (by decide)).fr GM11 (by decide)).put UM17 (by decide))
    · skip
      refine PW.aload_n q_24_14 rfl ?_
      refine PW.cI q_24_15 (by decide) fun c21 hc21 => ?_
      refine PW.cV (as := [_]) (rest := []) q_24_16 t_mv_24_137 kd_1 I.1 (by decide) rfl (by decide) rfl rfl (Nat.le_of_ble_eq_true rfl) (Nat.le_of_ble_eq_true rfl) (by decide) (by decide) ?_
      refine PW.up (by decide) (c_X7_fail_vk (V) (hV) G _ M I c21 _ i hp_0 fun x23 M22 IM22 GM22 hx23 kx23 PM22 => ?_)
      have FM22 := Fr.trans F GM22 (rfl)
      rcases PM22 with ⟨PfM22, PgM22⟩
      refine PW.rZ q_24_19 rfl (by omega) (by omega) (by decide) (by decide) ?_
      have e : k_len y A i = (3, kP y i, A, i) := by unfold k_len; rw [if_pos (by omega)]
      exact hK x23 M22 IM22 FM22 (by omega) (by omega) (by rw [e]; exact Or.inr ⟨by omega, (by omega : (3 : Int) ≠ 0), (by omega : o_i (M22 1) 10 = 3), (by omega : o_i (M22 1) 11 = kP y i)⟩) (gWk.refl.fr GM22 (by decide))
theorem c_X3_readBody_vk (V : pM → Prop) (hV : Stab V) (G : pG) (Kr : pK) (M : pM) (I : Iv V M) (y : k_X) (i : Nat) (A : k_A) (hp_0 : k_at y M i) (hp_1 : k_cp M A) (hp_2 : kK y i = 2) (hK : ∀ (x : Int32) (M1 : pM), Iv V M1 → Fr [1, 4] M M1 → 0 ≤ x.toInt → x.toInt ≤ 1 → (k_cq y (k_body y A i) x M1) → (gWk M M1) → Kr.1 (some (.int x)) 311 M1) : PW G false 4 25 (p_mc 25) (p_msl 25) Kr 0 (lv_args 0 [.ref 256, .ref 1]) [] 311 M 0 0 := by
  have F : Fr [1, 4] M M := Fr.refl
  obtain ⟨kc0, kc1, kc2, kc3, kc4, kc5, kc6, kc7, kc8, kc9, kc10, kc11⟩ := id hp_1
  obtain ⟨w256_0, fw256_0, hw256_0, kw256_0⟩ := gF_4_0.int kd_256 I.1 (by decide)
  have iw256_0 := o_i_of fw256_0
  have jw256_0 : w256_0.toInt = A.1 5 := by have w := kc0; omega
  obtain ⟨w256_1, fw256_1, hw256_1, kw256_1⟩ := gF_4_1.int kd_256 I.1 (by decide)
  have iw256_1 := o_i_of fw256_1
  have jw256_1 : w256_1.toInt = A.1 2 := by have w := kc1; omega
  obtain ⟨w256_2, fw256_2, hw256_2, kw256_2⟩ := gF_4_2.int kd_256 I.1 (by decide)
  have iw256_2 := o_i_of fw256_2
  have jw256_2 : w256_2.toInt = A.1 3 := by have w := kc2; omega
  obtain ⟨w256_3, fw256_3, hw256_3, kw256_3⟩ := gF_4_3.int kd_256 I.1 (by decide)
  have iw256_3 := o_i_of fw256_3
  have jw256_3 : w256_3.toInt = A.1 4 := by have w := kc3; omega
  obtain ⟨w256_4, fw256_4, hw256_4, kw256_4⟩ := gF_4_4.int kd_256 I.1 (by decide)
  have iw256_4 := o_i_of fw256_4
  have jw256_4 : w256_4.toInt = A.1 6 := by have w := kc4; omega
  obtain ⟨w256_5, fw256_5, hw256_5, kw256_5⟩ := gF_4_5.int kd_256 I.1 (by decide)
  have iw256_5 := o_i_of fw256_5
  have jw256_5 : w256_5.toInt = A.1 7 := by have w := kc5; omega
  obtain ⟨w256_6, fw256_6, hw256_6, kw256_6⟩ := gF_4_6.int kd_256 I.1 (by decide)
  have iw256_6 := o_i_of fw256_6
  have jw256_6 : w256_6.toInt = A.1 0 := by have w := kc6; omega
  obtain ⟨w256_7, fw256_7, hw256_7, kw256_7⟩ := gF_4_7.int kd_256 I.1 (by decide)
  have iw256_7 := o_i_of fw256_7
  have jw256_7 : w256_7.toInt = A.1 1 := by have w := kc7; omega
  refine PW.aload_n q_25_0 rfl ?_
  refine PW.gE q_25_1 (Or.inl t_ft_25_64) gF_4_5 kd_256 I.1 (by decide) fw256_5 ?_
  refine PW.jz_eq q_25_4 rfl (fun h1 => ?_) (fun h1 => ?_)
  · skip
    refine PW.aload_n q_25_13 rfl ?_
    refine PW.cI q_25_14 (by decide) fun c2 hc2 => ?_
    refine PW.pI q_25_15 (Or.inl t_ft_25_64) gF_4_5 gP_4_5 kd_256 hV I (by decide) rfl (by omega) (by omega) fun M3 IM3 fM3 UM3 => ?_
    have FM3 := Fr.pu F UM3.1 kd_256 (rfl : List.contains [1, 4] 4 = true)
    refine PW.aload_n q_25_18 rfl ?_
    refine PW.cV (as := []) (rest := []) q_25_19 t_mv_25_140 kd_1 IM3.1 (by decide) rfl (by decide) rfl rfl (Nat.le_of_ble_eq_true rfl) (Nat.le_of_ble_eq_true rfl) (by decide) (by decide) ?_
    refine PW.up (by decide) (c_X7_advance_vk (V) (hV) G _ M3 IM3 _ (i + 1) (k_at.nx (hp_0.cg (UM3.1 _ (g_ne kd_1 kd_256 (by decide))) (UM3.1 _ (g_ne kd_2 kd_256 (by decide)))) (by omega)) fun M4 IM4 GM4 PM4 => ?_)
    have FM4 := Fr.trans FM3 GM4 (rfl)
    have PtM4 := PM4
    refine PW.aload_n q_25_22 rfl ?_
    refine PW.aload_n q_25_23 rfl ?_
    refine PW.cI q_25_24 (by decide) fun c5 hc5 => ?_
    refine PW.cB q_25_25 (by decide) fun c6 hc6 => ?_
    refine PW.cV (as := [_, _]) (rest := [_]) q_25_27 t_mv_25_143 kd_1 IM4.1 (by decide) rfl (by decide) rfl rfl (Nat.le_of_ble_eq_true rfl) (Nat.le_of_ble_eq_true rfl) (by decide) (by decide) ?_
    refine PW.up (by decide) (c_X7_needsNumber_vk (V) (hV) G _ M4 IM4 c5 c6 _ (i + 1) 0 9 PtM4 (by omega) (by omega) fun x8 M7 IM7 GM7 PM7 => ?_)
    have FM7 := Fr.trans FM4 GM7 (rfl)
    rcases PM7 with ⟨PzM7, PvM7, PlM7, PhM7, PtM7⟩ | ⟨PzM7, PvM7, PfM7, PgM7⟩
    · skip
      refine PW.pI q_25_30 (Or.inl t_ft_25_54) gF_4_2 gP_4_2 kd_256 hV IM7 (by decide) rfl (n_lo _) (n_hi _) fun M9 IM9 fM9 UM9 => ?_
      have FM9 := Fr.pu FM7 UM9.1 kd_256 (rfl : List.contains [1, 4] 4 = true)
      refine PW.aload_n q_25_33 rfl ?_
      refine PW.gE q_25_34 (Or.inl t_ft_25_54) gF_4_2 kd_256 IM9.1 (by decide) fM9 ?_
      refine PW.cI q_25_37 (by decide) fun c10 hc10 => ?_
      refine PW.jc_eq q_25_38 rfl (fun h11 => False.elim (by omega)) (fun h11 => ?_)
      refine PW.cI q_25_41 (by decide) fun c12 hc12 => ?_
      refine PW.goto q_25_42 rfl ?_
      refine PW.rZ q_25_46 rfl (by omega) (by omega) (by decide) (by decide) ?_
      have e : k_body y A i = (0, 0, (va_up (va_up A.1 7 1) 3 (kV y (i + 1)), A.2), i + 2) := by unfold k_body; rw [if_neg (by omega), if_neg (by omega)]
      exact hK c12 M9 IM9 FM9 (by omega) (by omega) (by rw [e]; exact Or.inl ⟨by omega, rfl, (PtM7.cg (UM9.1 _ (g_ne kd_1 kd_256 (by decide))) (UM9.1 _ (g_ne kd_2 kd_256 (by decide)))), ⟨(by have w := (o_i_of ((UM9.f (Or.inr (by decide))).trans ((congrArg (fun e => o_f e 0) (Fr.at GM7 kd_256 (by decide))).trans ((congrArg (fun e => o_f e 0) (Fr.at GM4 kd_256 (by decide))).trans ((UM3.f (Or.inr (by decide))).trans fw256_0))))); show o_i (M9 256) 0 = A.1 5; omega), (by have w := (o_i_of ((UM9.f (Or.inr (by decide))).trans ((congrArg (fun e => o_f e 1) (Fr.at GM7 kd_256 (by decide))).trans ((congrArg (fun e => o_f e 1) (Fr.at GM4 kd_256 (by decide))).trans ((UM3.f (Or.inr (by decide))).trans fw256_1))))); show o_i (M9 256) 1 = A.1 2; omega), (by have w := (o_i_of fM9); show o_i (M9 256) 2 = kV y (i + 1); omega), (by have w := (o_i_of ((UM9.f (Or.inr (by decide))).trans ((congrArg (fun e => o_f e 3) (Fr.at GM7 kd_256 (by decide))).trans ((congrArg (fun e => o_f e 3) (Fr.at GM4 kd_256 (by decide))).trans ((UM3.f (Or.inr (by decide))).trans fw256_3))))); show o_i (M9 256) 3 = A.1 4; omega), (by have w := (o_i_of ((UM9.f (Or.inr (by decide))).trans ((congrArg (fun e => o_f e 4) (Fr.at GM7 kd_256 (by decide))).trans ((congrArg (fun e => o_f e 4) (Fr.at GM4 kd_256 (by decide))).trans ((UM3.f (Or.inr (by decide))).trans fw256_4))))); show o_i (M9 256) 4 = A.1 6; omega), (by have w := (o_i_of ((UM9.f (Or.inr (by decide))).trans ((congrArg (fun e => o_f e 5) (Fr.at GM7 kd_256 (by decide))).trans ((congrArg (fun e => o_f e 5) (Fr.at GM4 kd_256 (by decide))).trans fM3)))); show o_i (M9 256) 5 = 1; omega), (by have w := (o_i_of ((UM9.f (Or.inr (by decide))).trans ((congrArg (fun e => o_f e 6) (Fr.at GM7 kd_256 (by decide))).trans ((congrArg (fun e => o_f e 6) (Fr.at GM4 kd_256 (by decide))).trans ((UM3.f (Or.inr (by decide))).trans fw256_6))))); show o_i (M9 256) 6 = A.1 0; omega), (by have w := (o_i_of ((UM9.f (Or.inr (by decide))).trans ((congrArg (fun e => o_f e 7) (Fr.at GM7 kd_256 (by decide))).trans ((congrArg (fun e => o_f e 7) (Fr.at GM4 kd_256 (by decide))).trans ((UM3.f (Or.inr (by decide))).trans fw256_7))))); show o_i (M9 256) 7 = A.1 1; omega), (fun j hj => by rw [((UM9.1 _ (g_ne kd_257 kd_256 (by decide))).trans ((Fr.at GM7 kd_257 (by decide)).trans ((Fr.at GM4 kd_257 (by decide)).trans (UM3.1 _ (g_ne kd_257 kd_256 (by decide))))))]; exact kc8 j hj), (fun j hj => by rw [((UM9.1 _ (g_ne kd_261 kd_256 (by decide))).trans ((Fr.at GM7 kd_261 (by decide)).trans ((Fr.at GM4 kd_261 (by decide)).trans (UM3.1 _ (g_ne kd_261 kd_256 (by decide))))))]; exact kc9 j hj), (fun j hj => by rw [((UM9.1 _ (g_ne kd_266 kd_256 (by decide))).trans ((Fr.at GM7 kd_266 (by decide)).trans ((Fr.at GM4 kd_266 (by decide)).trans (UM3.1 _ (g_ne kd_266 kd_256 (by decide))))))]; exact kc10 j hj), (fun j hj => by rw [((UM9.1 _ (g_ne kd_265 kd_256 (by decide))).trans ((Fr.at GM7 kd_265 (by decide)).trans ((Fr.at GM4 kd_265 (by decide)).trans (UM3.1 _ (g_ne kd_265 kd_256 (by decide))))))]; exact kc11 j hj)⟩⟩) ((((gWk.refl.put UM3 (by decide)).fr GM4 (by decide)).fr GM7 (by decide)).put UM9 (by decide))
    · skip
      refine PW.pI q_25_30 (Or.inl t_ft_25_54) gF_4_2 gP_4_2 kd_256 hV IM7 (by decide) rfl (n_lo _) (n_hi _) fun M13 IM13 fM13 UM13 => ?_
      have FM13 := Fr.pu FM7 UM13.1 kd_256 (rfl : List.contains [1, 4] 4 = true)
      refine PW.aload_n q_25_33 rfl ?_
      refine PW.gE q_25_34 (Or.inl t_ft_25_54) gF_4_2 kd_256 IM13.1 (by decide) fM13 ?_
      refine PW.cI q_25_37 (by decide) fun c14 hc14 => ?_
      refine PW.jc_eq q_25_38 rfl (fun h15 => ?_) (fun h15 => False.elim (by omega))
      refine PW.cI q_25_45 (by decide) fun c16 hc16 => ?_
      refine PW.rZ q_25_46 rfl (by omega) (by omega) (by decide) (by decide) ?_
      have e : k_body y A i = (k_nr y (i + 1) 0 9, kP y (i + 1), A, i) := by unfold k_body; rw [if_neg (by omega), if_pos (by omega)]
      have g10 : o_i (M13 1) 10 = o_i (M7 1) 10 := congrArg (fun e => o_i e 10) (UM13.1 _ (g_ne kd_1 kd_256 (by decide)))
      have g11 : o_i (M13 1) 11 = o_i (M7 1) 11 := congrArg (fun e => o_i e 11) (UM13.1 _ (g_ne kd_1 kd_256 (by decide)))
      exact hK c16 M13 IM13 FM13 (by omega) (by omega) (by rw [e]; exact Or.inr ⟨by omega, (by omega : (k_nr y (i + 1) 0 9 : Int) ≠ 0), (by omega : o_i (M13 1) 10 = k_nr y (i + 1) 0 9), (by omega : o_i (M13 1) 11 = kP y (i + 1))⟩) ((((gWk.refl.put UM3 (by decide)).fr GM4 (by decide)).fr GM7 (by decide)).put UM13 (by decide))
  · skip
    refine PW.aload_n q_25_7 rfl ?_
    refine PW.cI q_25_8 (by decide) fun c17 hc17 => ?_
    refine PW.cV (as := [_]) (rest := []) q_25_9 t_mv_25_137 kd_1 I.1 (by decide) rfl (by decide) rfl rfl (Nat.le_of_ble_eq_true rfl) (Nat.le_of_ble_eq_true rfl) (by decide) (by decide) ?_
    refine PW.up (by decide) (c_X7_fail_vk (V) (hV) G _ M I c17 _ i hp_0 fun x19 M18 IM18 GM18 hx19 kx19 PM18 => ?_)
    have FM18 := Fr.trans F GM18 (rfl)
    rcases PM18 with ⟨PfM18, PgM18⟩
    refine PW.rZ q_25_12 rfl (by omega) (by omega) (by decide) (by decide) ?_
    have e : k_body y A i = (3, kP y i, A, i) := by unfold k_body; rw [if_pos (by omega)]
    exact hK x19 M18 IM18 FM18 (by omega) (by omega) (by rw [e]; exact Or.inr ⟨by omega, (by omega : (3 : Int) ≠ 0), (by omega : o_i (M18 1) 10 = 3), (by omega : o_i (M18 1) 11 = kP y i)⟩) (gWk.refl.fr GM18 (by decide))
theorem c_X3_readKeeps_vk (V : pM → Prop) (hV : Stab V) (G : pG) (Kr : pK) (M : pM) (I : Iv V M) (y : k_X) (i : Nat) (A : k_A) (hp_0 : k_at y M i) (hp_1 : k_cp M A) (hp_2 : kK y i = 2) (hK : ∀ (x : Int32) (M1 : pM), Iv V M1 → Fr [1, 4] M M1 → 0 ≤ x.toInt → x.toInt ≤ 1 → (k_cq y (k_keeps y A i) x M1) → (gWk M M1) → Kr.1 (some (.int x)) 311 M1) : PW G false 4 26 (p_mc 26) (p_msl 26) Kr 0 (lv_args 0 [.ref 256, .ref 1]) [] 311 M 0 0 := by
  have F : Fr [1, 4] M M := Fr.refl
  obtain ⟨kc0, kc1, kc2, kc3, kc4, kc5, kc6, kc7, kc8, kc9, kc10, kc11⟩ := id hp_1
  obtain ⟨w256_0, fw256_0, hw256_0, kw256_0⟩ := gF_4_0.int kd_256 I.1 (by decide)
  have iw256_0 := o_i_of fw256_0
  have jw256_0 : w256_0.toInt = A.1 5 := by have w := kc0; omega
  obtain ⟨w256_1, fw256_1, hw256_1, kw256_1⟩ := gF_4_1.int kd_256 I.1 (by decide)
  have iw256_1 := o_i_of fw256_1
  have jw256_1 : w256_1.toInt = A.1 2 := by have w := kc1; omega
  obtain ⟨w256_2, fw256_2, hw256_2, kw256_2⟩ := gF_4_2.int kd_256 I.1 (by decide)
  have iw256_2 := o_i_of fw256_2
  have jw256_2 : w256_2.toInt = A.1 3 := by have w := kc2; omega
  obtain ⟨w256_3, fw256_3, hw256_3, kw256_3⟩ := gF_4_3.int kd_256 I.1 (by decide)
  have iw256_3 := o_i_of fw256_3
  have jw256_3 : w256_3.toInt = A.1 4 := by have w := kc3; omega
  obtain ⟨w256_4, fw256_4, hw256_4, kw256_4⟩ := gF_4_4.int kd_256 I.1 (by decide)
  have iw256_4 := o_i_of fw256_4
  have jw256_4 : w256_4.toInt = A.1 6 := by have w := kc4; omega
  obtain ⟨w256_5, fw256_5, hw256_5, kw256_5⟩ := gF_4_5.int kd_256 I.1 (by decide)
  have iw256_5 := o_i_of fw256_5
  have jw256_5 : w256_5.toInt = A.1 7 := by have w := kc5; omega
  obtain ⟨w256_6, fw256_6, hw256_6, kw256_6⟩ := gF_4_6.int kd_256 I.1 (by decide)
  have iw256_6 := o_i_of fw256_6
  have jw256_6 : w256_6.toInt = A.1 0 := by have w := kc6; omega
  obtain ⟨w256_7, fw256_7, hw256_7, kw256_7⟩ := gF_4_7.int kd_256 I.1 (by decide)
  have iw256_7 := o_i_of fw256_7
  have jw256_7 : w256_7.toInt = A.1 1 := by have w := kc7; omega
  refine PW.aload_n q_26_0 rfl ?_
  refine PW.gE q_26_1 (Or.inl t_ft_26_57) gF_4_3 kd_256 I.1 (by decide) fw256_3 ?_
  refine PW.cI q_26_4 (by decide) fun c1 hc1 => ?_
  refine PW.jc_eq q_26_5 rfl (fun h2 => ?_) (fun h2 => ?_)
  · skip
    refine PW.aload_n q_26_14 rfl ?_
    refine PW.cV (as := []) (rest := []) q_26_15 t_mv_26_140 kd_1 I.1 (by decide) rfl (by decide) rfl rfl (Nat.le_of_ble_eq_true rfl) (Nat.le_of_ble_eq_true rfl) (by decide) (by decide) ?_
    refine PW.up (by decide) (c_X7_advance_vk (V) (hV) G _ M I _ (i + 1) (k_at.nx hp_0 (by omega)) fun M3 IM3 GM3 PM3 => ?_)
    have FM3 := Fr.trans F GM3 (rfl)
    have PtM3 := PM3
    refine PW.aload_n q_26_18 rfl ?_
    refine PW.aload_n q_26_19 rfl ?_
    refine PW.cI q_26_20 (by decide) fun c4 hc4 => ?_
    refine PW.cB q_26_21 (by decide) fun c5 hc5 => ?_
    refine PW.cV (as := [_, _]) (rest := [_]) q_26_23 t_mv_26_143 kd_1 IM3.1 (by decide) rfl (by decide) rfl rfl (Nat.le_of_ble_eq_true rfl) (Nat.le_of_ble_eq_true rfl) (by decide) (by decide) ?_
    refine PW.up (by decide) (c_X7_needsNumber_vk (V) (hV) G _ M3 IM3 c4 c5 _ (i + 1) 1 99 PtM3 (by omega) (by omega) fun x7 M6 IM6 GM6 PM6 => ?_)
    have FM6 := Fr.trans FM3 GM6 (rfl)
    rcases PM6 with ⟨PzM6, PvM6, PlM6, PhM6, PtM6⟩ | ⟨PzM6, PvM6, PfM6, PgM6⟩
    · skip
      refine PW.pI q_26_26 (Or.inl t_ft_26_57) gF_4_3 gP_4_3 kd_256 hV IM6 (by decide) rfl (n_lo _) (n_hi _) fun M8 IM8 fM8 UM8 => ?_
      have FM8 := Fr.pu FM6 UM8.1 kd_256 (rfl : List.contains [1, 4] 4 = true)
      refine PW.aload_n q_26_29 rfl ?_
      refine PW.gE q_26_30 (Or.inl t_ft_26_57) gF_4_3 kd_256 IM8.1 (by decide) fM8 ?_
      refine PW.cI q_26_33 (by decide) fun c9 hc9 => ?_
      refine PW.jc_eq q_26_34 rfl (fun h10 => False.elim (by omega)) (fun h10 => ?_)
      refine PW.cI q_26_37 (by decide) fun c11 hc11 => ?_
      refine PW.goto q_26_38 rfl ?_
      refine PW.rZ q_26_42 rfl (by omega) (by omega) (by decide) (by decide) ?_
      have e : k_keeps y A i = (0, 0, (va_up A.1 4 (kV y (i + 1)), A.2), i + 2) := by unfold k_keeps; rw [if_neg (by omega), if_neg (by omega)]
      exact hK c11 M8 IM8 FM8 (by omega) (by omega) (by rw [e]; exact Or.inl ⟨by omega, rfl, (PtM6.cg (UM8.1 _ (g_ne kd_1 kd_256 (by decide))) (UM8.1 _ (g_ne kd_2 kd_256 (by decide)))), ⟨(by have w := (o_i_of ((UM8.f (Or.inr (by decide))).trans ((congrArg (fun e => o_f e 0) (Fr.at GM6 kd_256 (by decide))).trans ((congrArg (fun e => o_f e 0) (Fr.at GM3 kd_256 (by decide))).trans fw256_0)))); show o_i (M8 256) 0 = A.1 5; omega), (by have w := (o_i_of ((UM8.f (Or.inr (by decide))).trans ((congrArg (fun e => o_f e 1) (Fr.at GM6 kd_256 (by decide))).trans ((congrArg (fun e => o_f e 1) (Fr.at GM3 kd_256 (by decide))).trans fw256_1)))); show o_i (M8 256) 1 = A.1 2; omega), (by have w := (o_i_of ((UM8.f (Or.inr (by decide))).trans ((congrArg (fun e => o_f e 2) (Fr.at GM6 kd_256 (by decide))).trans ((congrArg (fun e => o_f e 2) (Fr.at GM3 kd_256 (by decide))).trans fw256_2)))); show o_i (M8 256) 2 = A.1 3; omega), (by have w := (o_i_of fM8); show o_i (M8 256) 3 = kV y (i + 1); omega), (by have w := (o_i_of ((UM8.f (Or.inr (by decide))).trans ((congrArg (fun e => o_f e 4) (Fr.at GM6 kd_256 (by decide))).trans ((congrArg (fun e => o_f e 4) (Fr.at GM3 kd_256 (by decide))).trans fw256_4)))); show o_i (M8 256) 4 = A.1 6; omega), (by have w := (o_i_of ((UM8.f (Or.inr (by decide))).trans ((congrArg (fun e => o_f e 5) (Fr.at GM6 kd_256 (by decide))).trans ((congrArg (fun e => o_f e 5) (Fr.at GM3 kd_256 (by decide))).trans fw256_5)))); show o_i (M8 256) 5 = A.1 7; omega), (by have w := (o_i_of ((UM8.f (Or.inr (by decide))).trans ((congrArg (fun e => o_f e 6) (Fr.at GM6 kd_256 (by decide))).trans ((congrArg (fun e => o_f e 6) (Fr.at GM3 kd_256 (by decide))).trans fw256_6)))); show o_i (M8 256) 6 = A.1 0; omega), (by have w := (o_i_of ((UM8.f (Or.inr (by decide))).trans ((congrArg (fun e => o_f e 7) (Fr.at GM6 kd_256 (by decide))).trans ((congrArg (fun e => o_f e 7) (Fr.at GM3 kd_256 (by decide))).trans fw256_7)))); show o_i (M8 256) 7 = A.1 1; omega), (fun j hj => by rw [((UM8.1 _ (g_ne kd_257 kd_256 (by decide))).trans ((Fr.at GM6 kd_257 (by decide)).trans (Fr.at GM3 kd_257 (by decide))))]; exact kc8 j hj), (fun j hj => by rw [((UM8.1 _ (g_ne kd_261 kd_256 (by decide))).trans ((Fr.at GM6 kd_261 (by decide)).trans (Fr.at GM3 kd_261 (by decide))))]; exact kc9 j hj), (fun j hj => by rw [((UM8.1 _ (g_ne kd_266 kd_256 (by decide))).trans ((Fr.at GM6 kd_266 (by decide)).trans (Fr.at GM3 kd_266 (by decide))))]; exact kc10 j hj), (fun j hj => by rw [((UM8.1 _ (g_ne kd_265 kd_256 (by decide))).trans ((Fr.at GM6 kd_265 (by decide)).trans (Fr.at GM3 kd_265 (by decide))))]; exact kc11 j hj)⟩⟩) (((gWk.refl.fr GM3 (by decide)).fr GM6 (by decide)).put UM8 (by decide))
    · skip
      refine PW.pI q_26_26 (Or.inl t_ft_26_57) gF_4_3 gP_4_3 kd_256 hV IM6 (by decide) rfl (n_lo _) (n_hi _) fun M12 IM12 fM12 UM12 => ?_
      have FM12 := Fr.pu FM6 UM12.1 kd_256 (rfl : List.contains [1, 4] 4 = true)
      refine PW.aload_n q_26_29 rfl ?_
      refine PW.gE q_26_30 (Or.inl t_ft_26_57) gF_4_3 kd_256 IM12.1 (by decide) fM12 ?_
      refine PW.cI q_26_33 (by decide) fun c13 hc13 => ?_
      refine PW.jc_eq q_26_34 rfl (fun h14 => ?_) (fun h14 => False.elim (by omega))
      refine PW.cI q_26_41 (by decide) fun c15 hc15 => ?_
      refine PW.rZ q_26_42 rfl (by omega) (by omega) (by decide) (by decide) ?_
      have e : k_keeps y A i = (k_nr y (i + 1) 1 99, kP y (i + 1), A, i) := by unfold k_keeps; rw [if_neg (by omega), if_pos (by omega)]
      have g10 : o_i (M12 1) 10 = o_i (M6 1) 10 := congrArg (fun e => o_i e 10) (UM12.1 _ (g_ne kd_1 kd_256 (by decide)))
      have g11 : o_i (M12 1) 11 = o_i (M6 1) 11 := congrArg (fun e => o_i e 11) (UM12.1 _ (g_ne kd_1 kd_256 (by decide)))
      exact hK c15 M12 IM12 FM12 (by omega) (by omega) (by rw [e]; exact Or.inr ⟨by omega, (by omega : (k_nr y (i + 1) 1 99 : Int) ≠ 0), (by omega : o_i (M12 1) 10 = k_nr y (i + 1) 1 99), (by omega : o_i (M12 1) 11 = kP y (i + 1))⟩) (((gWk.refl.fr GM3 (by decide)).fr GM6 (by decide)).put UM12 (by decide))
  · skip
    refine PW.aload_n q_26_8 rfl ?_
    refine PW.cI q_26_9 (by decide) fun c16 hc16 => ?_
    refine PW.cV (as := [_]) (rest := []) q_26_10 t_mv_26_137 kd_1 I.1 (by decide) rfl (by decide) rfl rfl (Nat.le_of_ble_eq_true rfl) (Nat.le_of_ble_eq_true rfl) (by decide) (by decide) ?_
    refine PW.up (by decide) (c_X7_fail_vk (V) (hV) G _ M I c16 _ i hp_0 fun x18 M17 IM17 GM17 hx18 kx18 PM17 => ?_)
    have FM17 := Fr.trans F GM17 (rfl)
    rcases PM17 with ⟨PfM17, PgM17⟩
    refine PW.rZ q_26_13 rfl (by omega) (by omega) (by decide) (by decide) ?_
    have e : k_keeps y A i = (3, kP y i, A, i) := by unfold k_keeps; rw [if_pos (by omega)]
    exact hK x18 M17 IM17 FM17 (by omega) (by omega) (by rw [e]; exact Or.inr ⟨by omega, (by omega : (3 : Int) ≠ 0), (by omega : o_i (M17 1) 10 = 3), (by omega : o_i (M17 1) 11 = kP y i)⟩) (gWk.refl.fr GM17 (by decide))
theorem c_X3_seesNewName_vk (V : pM → Prop) (hV : Stab V) (G : pG) (Kr : pK) (M : pM) (I : Iv V M) (y : k_X) (i : Nat) (A : k_A) (hp_0 : k_at y M i) (hp_1 : k_cp M A) (hK : ∀ (x : Int32) (M1 : pM), Iv V M1 → Fr [1] M M1 → 0 ≤ x.toInt → x.toInt ≤ 1 → ((x.toInt = 0 ∧ k_ni y i = 0 ∧ o_i (M1 1) 10 = 1 ∧ o_i (M1 1) 11 = kP y i) ∨ (x.toInt = 0 ∧ k_ni y i = 1 ∧ (k_fd A.2.1 (kV y i) (A.1 0).toNat ≠ -1 ∨ k_fd A.2.2.1 (kV y i) (A.1 1).toNat ≠ -1) ∧ o_i (M1 1) 10 = 3 ∧ o_i (M1 1) 11 = kP y i) ∨ (x.toInt = 1 ∧ k_ni y i = 1 ∧ k_fd A.2.1 (kV y i) (A.1 0).toNat = -1 ∧ k_fd A.2.2.1 (kV y i) (A.1 1).toNat = -1 ∧ k_at y M1 i)) → (gWk M M1) → Kr.1 (some (.int x)) 311 M1) : PW G false 1 28 (p_mc 28) (p_msl 28) Kr 0 (lv_args 0 [.ref 256, .ref 1]) [] 311 M 0 0 := by
  have F : Fr [1] M M := Fr.refl
  obtain ⟨kc0, kc1, kc2, kc3, kc4, kc5, kc6, kc7, kc8, kc9, kc10, kc11⟩ := id hp_1
  obtain ⟨w256_0, fw256_0, hw256_0, kw256_0⟩ := gF_4_0.int kd_256 I.1 (by decide)
  have iw256_0 := o_i_of fw256_0
  have jw256_0 : w256_0.toInt = A.1 5 := by have w := kc0; omega
  obtain ⟨w256_1, fw256_1, hw256_1, kw256_1⟩ := gF_4_1.int kd_256 I.1 (by decide)
  have iw256_1 := o_i_of fw256_1
  have jw256_1 : w256_1.toInt = A.1 2 := by have w := kc1; omega
  obtain ⟨w256_2, fw256_2, hw256_2, kw256_2⟩ := gF_4_2.int kd_256 I.1 (by decide)
  have iw256_2 := o_i_of fw256_2
  have jw256_2 : w256_2.toInt = A.1 3 := by have w := kc2; omega
  obtain ⟨w256_3, fw256_3, hw256_3, kw256_3⟩ := gF_4_3.int kd_256 I.1 (by decide)
  have iw256_3 := o_i_of fw256_3
  have jw256_3 : w256_3.toInt = A.1 4 := by have w := kc3; omega
  obtain ⟨w256_4, fw256_4, hw256_4, kw256_4⟩ := gF_4_4.int kd_256 I.1 (by decide)
  have iw256_4 := o_i_of fw256_4
  have jw256_4 : w256_4.toInt = A.1 6 := by have w := kc4; omega
  obtain ⟨w256_5, fw256_5, hw256_5, kw256_5⟩ := gF_4_5.int kd_256 I.1 (by decide)
  have iw256_5 := o_i_of fw256_5
  have jw256_5 : w256_5.toInt = A.1 7 := by have w := kc5; omega
  obtain ⟨w256_6, fw256_6, hw256_6, kw256_6⟩ := gF_4_6.int kd_256 I.1 (by decide)
  have iw256_6 := o_i_of fw256_6
  have jw256_6 : w256_6.toInt = A.1 0 := by have w := kc6; omega
  obtain ⟨w256_7, fw256_7, hw256_7, kw256_7⟩ := gF_4_7.int kd_256 I.1 (by decide)
  have iw256_7 := o_i_of fw256_7
  have jw256_7 : w256_7.toInt = A.1 1 := by have w := kc7; omega
  have w := k_nam hp_0
  refine PW.aload_n q_28_0 rfl ?_
  refine PW.gI q_28_1 (Or.inr t_fN_28_160) gF_1_5 kd_1 I.1 (by decide) fun x1 fx1 hx1 kx1 => ?_
  have ix1 := o_i_of fx1
  clear hx1 kx1
  refine PW.cI q_28_4 (by decide) fun c2 hc2 => ?_
  refine PW.jc_eq q_28_5 rfl (fun h3 => ?_) (fun h3 => ?_)
  · skip
    refine PW.aload_n q_28_14 rfl ?_
    refine PW.gR 257 q_28_15 (Or.inl t_ft_28_9) gF_4_8 kd_256 I.1 (by decide) rfl ?_
    refine PW.aload_n q_28_18 rfl ?_
    refine PW.gE q_28_19 (Or.inl t_ft_28_67) gF_4_6 kd_256 I.1 (by decide) fw256_6 ?_
    refine PW.aload_n q_28_22 rfl ?_
    refine PW.gL q_28_23 (Or.inr t_fN_28_150) gF_1_7 kd_1 I.1 (by decide) fun l4 fl4 => ?_
    have eV : l4.toInt = kV y i := by have w2 := o_J_of fl4; omega
    refine PW.callS (as := [_, _, _]) (rest := []) q_28_26 t_ms_28_163 (by decide) rfl (Nat.le_of_ble_eq_true rfl) (Nat.le_of_ble_eq_true rfl) (by decide) (by decide) ?_
    refine PW.up (by decide) (c_X7_indexOf_vk (V) (hV) G _ M I 257 kd_257 w256_6 l4 (by omega) (by omega) A.2.1 (A.1 0) kc8 (by omega) fun x6  hx6 kx6 PM5 => ?_)
    rw [eV] at PM5
    refine PW.cI q_28_29 (by decide) fun c7 hc7 => ?_
    refine PW.jc_ne q_28_30 rfl (fun h8 => ?_) (fun h8 => ?_)
    · skip
      refine PW.cI q_28_52 (by decide) fun c9 hc9 => ?_
      refine PW.goto q_28_53 rfl ?_
      refine PW.istore_n q_28_57 (by decide) ?_
      refine PW.iload_n q_28_58 rfl ?_
      refine PW.jz_eq q_28_59 rfl (fun h10 => False.elim (by omega)) (fun h10 => ?_)
      refine PW.aload_n q_28_62 rfl ?_
      refine PW.cI q_28_63 (by decide) fun c11 hc11 => ?_
      refine PW.cV (as := [_]) (rest := []) q_28_64 t_mv_28_137 kd_1 I.1 (by decide) rfl (by decide) rfl rfl (Nat.le_of_ble_eq_true rfl) (Nat.le_of_ble_eq_true rfl) (by decide) (by decide) ?_
      refine PW.up (by decide) (c_X7_fail_vk (V) (hV) G _ M I c11 _ i hp_0 fun x13 M12 IM12 GM12 hx13 kx13 PM12 => ?_)
      have FM12 := Fr.trans F GM12 (rfl)
      rcases PM12 with ⟨PfM12, PgM12⟩
      refine PW.jz_eq q_28_67 rfl (fun h14 => ?_) (fun h14 => False.elim (by omega))
      refine PW.cI q_28_74 (by decide) fun c15 hc15 => ?_
      refine PW.rZ q_28_75 rfl (by omega) (by omega) (by decide) (by decide) ?_
      exact hK c15 M12 IM12 FM12 (by omega) (by omega) (Or.inr (Or.inl ⟨by omega, by omega, by omega, by omega, by omega⟩)) (gWk.refl.fr GM12 (by decide))
    · skip
      refine PW.aload_n q_28_33 rfl ?_
      refine PW.gR 261 q_28_34 (Or.inl t_ft_28_26) gF_4_12 kd_256 I.1 (by decide) rfl ?_
      refine PW.aload_n q_28_37 rfl ?_
      refine PW.gE q_28_38 (Or.inl t_ft_28_70) gF_4_7 kd_256 I.1 (by decide) fw256_7 ?_
      refine PW.aload_n q_28_41 rfl ?_
      refine PW.gE q_28_42 (Or.inr t_fN_28_150) gF_1_7 kd_1 I.1 (by decide) fl4 ?_
      refine PW.callS (as := [_, _, _]) (rest := []) q_28_45 t_ms_28_163 (by decide) rfl (Nat.le_of_ble_eq_true rfl) (Nat.le_of_ble_eq_true rfl) (by decide) (by decide) ?_
      refine PW.up (by decide) (c_X7_indexOf_vkd (V) (hV) G _ M I 261 kd_261 w256_7 l4 (by omega) (by omega) A.2.2.1 (A.1 1) kc9 (by omega) fun x17  hx17 kx17 PM16 => ?_)
      rw [eV] at PM16
      refine PW.cI q_28_48 (by decide) fun c18 hc18 => ?_
      refine PW.jc_eq q_28_49 rfl (fun h19 => ?_) (fun h19 => ?_)
      · skip
        refine PW.cI q_28_56 (by decide) fun c20 hc20 => ?_
        refine PW.istore_n q_28_57 (by decide) ?_
        refine PW.iload_n q_28_58 rfl ?_
        refine PW.jz_eq q_28_59 rfl (fun h21 => ?_) (fun h21 => False.elim (by omega))
        refine PW.cI q_28_70 (by decide) fun c22 hc22 => ?_
        refine PW.goto q_28_71 rfl ?_
        refine PW.rZ q_28_75 rfl (by omega) (by omega) (by decide) (by decide) ?_
        exact hK c22 M I F (by omega) (by omega) (Or.inr (Or.inr ⟨by omega, by omega, by omega, by omega, hp_0⟩)) gWk.refl
      · skip
        refine PW.cI q_28_52 (by decide) fun c23 hc23 => ?_
        refine PW.goto q_28_53 rfl ?_
        refine PW.istore_n q_28_57 (by decide) ?_
        refine PW.iload_n q_28_58 rfl ?_
        refine PW.jz_eq q_28_59 rfl (fun h24 => False.elim (by omega)) (fun h24 => ?_)
        refine PW.aload_n q_28_62 rfl ?_
        refine PW.cI q_28_63 (by decide) fun c25 hc25 => ?_
        refine PW.cV (as := [_]) (rest := []) q_28_64 t_mv_28_137 kd_1 I.1 (by decide) rfl (by decide) rfl rfl (Nat.le_of_ble_eq_true rfl) (Nat.le_of_ble_eq_true rfl) (by decide) (by decide) ?_
        refine PW.up (by decide) (c_X7_fail_vk (V) (hV) G _ M I c25 _ i hp_0 fun x27 M26 IM26 GM26 hx27 kx27 PM26 => ?_)
        have FM26 := Fr.trans F GM26 (rfl)
        rcases PM26 with ⟨PfM26, PgM26⟩
        refine PW.jz_eq q_28_67 rfl (fun h28 => ?_) (fun h28 => False.elim (by omega))
        refine PW.cI q_28_74 (by decide) fun c29 hc29 => ?_
        refine PW.rZ q_28_75 rfl (by omega) (by omega) (by decide) (by decide) ?_
        exact hK c29 M26 IM26 FM26 (by omega) (by omega) (Or.inr (Or.inl ⟨by omega, by omega, by omega, by omega, by omega⟩)) (gWk.refl.fr GM26 (by decide))
  · skip
    refine PW.aload_n q_28_8 rfl ?_
    refine PW.cI q_28_9 (by decide) fun c30 hc30 => ?_
    refine PW.cV (as := [_]) (rest := []) q_28_10 t_mv_28_137 kd_1 I.1 (by decide) rfl (by decide) rfl rfl (Nat.le_of_ble_eq_true rfl) (Nat.le_of_ble_eq_true rfl) (by decide) (by decide) ?_
    refine PW.up (by decide) (c_X7_fail_vk (V) (hV) G _ M I c30 _ i hp_0 fun x32 M31 IM31 GM31 hx32 kx32 PM31 => ?_)
    have FM31 := Fr.trans F GM31 (rfl)
    rcases PM31 with ⟨PfM31, PgM31⟩
    refine PW.rZ q_28_13 rfl (by omega) (by omega) (by decide) (by decide) ?_
    exact hK x32 M31 IM31 FM31 (by omega) (by omega) (Or.inl ⟨by omega, by omega, by omega, by omega⟩) (gWk.refl.fr GM31 (by decide))
set_option maxHeartbeats 10000000 in
theorem c_X3_readWalker_vk (V : pM → Prop) (hV : Stab V) (G : pG) (Kr : pK) (M : pM) (I : Iv V M) (y : k_X) (i : Nat) (A : k_A) (hp_0 : k_at y M i) (hp_1 : k_cp M A) (hp_2 : kK y i = 2) (hK : ∀ (x : Int32) (M1 : pM), Iv V M1 → Fr [1, 4, 27, 28, 29, 30] M M1 → 0 ≤ x.toInt → x.toInt ≤ 1 → (k_cq y (k_walker y A i) x M1) → (gWk M M1) → Kr.1 (some (.int x)) 311 M1) : PW G false 4 27 (p_mc 27) (p_msl 27) Kr 0 (lv_args 0 [.ref 256, .ref 1]) [] 311 M 0 0 := by
  have F : Fr [1, 4, 27, 28, 29, 30] M M := Fr.refl
  obtain ⟨kc0, kc1, kc2, kc3, kc4, kc5, kc6, kc7, kc8, kc9, kc10, kc11⟩ := id hp_1
  obtain ⟨w256_0, fw256_0, hw256_0, kw256_0⟩ := gF_4_0.int kd_256 I.1 (by decide)
  have iw256_0 := o_i_of fw256_0
  have jw256_0 : w256_0.toInt = A.1 5 := by have w := kc0; omega
  obtain ⟨w256_1, fw256_1, hw256_1, kw256_1⟩ := gF_4_1.int kd_256 I.1 (by decide)
  have iw256_1 := o_i_of fw256_1
  have jw256_1 : w256_1.toInt = A.1 2 := by have w := kc1; omega
  obtain ⟨w256_2, fw256_2, hw256_2, kw256_2⟩ := gF_4_2.int kd_256 I.1 (by decide)
  have iw256_2 := o_i_of fw256_2
  have jw256_2 : w256_2.toInt = A.1 3 := by have w := kc2; omega
  obtain ⟨w256_3, fw256_3, hw256_3, kw256_3⟩ := gF_4_3.int kd_256 I.1 (by decide)
  have iw256_3 := o_i_of fw256_3
  have jw256_3 : w256_3.toInt = A.1 4 := by have w := kc3; omega
  obtain ⟨w256_4, fw256_4, hw256_4, kw256_4⟩ := gF_4_4.int kd_256 I.1 (by decide)
  have iw256_4 := o_i_of fw256_4
  have jw256_4 : w256_4.toInt = A.1 6 := by have w := kc4; omega
  obtain ⟨w256_5, fw256_5, hw256_5, kw256_5⟩ := gF_4_5.int kd_256 I.1 (by decide)
  have iw256_5 := o_i_of fw256_5
  have jw256_5 : w256_5.toInt = A.1 7 := by have w := kc5; omega
  obtain ⟨w256_6, fw256_6, hw256_6, kw256_6⟩ := gF_4_6.int kd_256 I.1 (by decide)
  have iw256_6 := o_i_of fw256_6
  have jw256_6 : w256_6.toInt = A.1 0 := by have w := kc6; omega
  obtain ⟨w256_7, fw256_7, hw256_7, kw256_7⟩ := gF_4_7.int kd_256 I.1 (by decide)
  have iw256_7 := o_i_of fw256_7
  have jw256_7 : w256_7.toInt = A.1 1 := by have w := kc7; omega
  refine PW.aload_n q_27_0 rfl ?_
  refine PW.gE q_27_1 (Or.inl t_ft_27_67) gF_4_6 kd_256 I.1 (by decide) fw256_6 ?_
  refine PW.cB q_27_4 (by decide) fun c1 hc1 => ?_
  refine PW.jc_lt q_27_6 rfl (fun h2 => ?_) (fun h2 => ?_)
  · skip
    refine PW.aload_n q_27_15 rfl ?_
    refine PW.cV (as := []) (rest := []) q_27_16 t_mv_27_140 kd_1 I.1 (by decide) rfl (by decide) rfl rfl (Nat.le_of_ble_eq_true rfl) (Nat.le_of_ble_eq_true rfl) (by decide) (by decide) ?_
    refine PW.up (by decide) (c_X7_advance_vk (V) (hV) G _ M I _ (i + 1) (k_at.nx hp_0 (by omega)) fun M3 IM3 GM3 PM3 => ?_)
    have FM3 := Fr.trans F GM3 (rfl)
    have PtM3 := PM3
    refine PW.aload_n q_27_19 rfl ?_
    refine PW.aload_n q_27_20 rfl ?_
    refine PW.cV (as := [_]) (rest := []) q_27_21 t_mv_27_147 kd_256 IM3.1 (by decide) rfl (by decide) rfl rfl (Nat.le_of_ble_eq_true rfl) (Nat.le_of_ble_eq_true rfl) (by decide) (by decide) ?_
    refine PW.up (by decide) (c_X3_seesNewName_vk (V) (hV) G _ M3 IM3 _ (i + 1) _ PtM3 (hp_1.cg (Fr.at GM3 kd_256 (by decide)) (Fr.at GM3 kd_257 (by decide)) (Fr.at GM3 kd_261 (by decide)) (Fr.at GM3 kd_266 (by decide)) (Fr.at GM3 kd_265 (by decide))) fun x5 M4 IM4 GM4 hx5 kx5 PM4 TM4 => ?_)
    have FM4 := Fr.trans FM3 GM4 (rfl)
    rcases PM4 with ⟨PaM4, PbM4, PfM4, PgM4⟩ | ⟨PaM4, PbM4, PcM4, PfM4, PgM4⟩ | ⟨PaM4, PbM4, PcM4, PdM4, PtM4⟩
    · skip
      refine PW.jz_ne q_27_24 rfl (fun h6 => False.elim (by omega)) (fun h6 => ?_)
      refine PW.cI q_27_27 (by decide) fun c7 hc7 => ?_
      refine PW.rZ q_27_28 rfl (by omega) (by omega) (by decide) (by decide) ?_
      have e : k_walker y A i = (1, kP y (i + 1), A, i) := by unfold k_walker; rw [if_neg (by omega), if_pos (by omega)]
      exact hK c7 M4 IM4 FM4 (by omega) (by omega) (by rw [e]; exact Or.inr ⟨by omega, (by omega : (1 : Int) ≠ 0), (by omega : o_i (M4 1) 10 = 1), (by omega : o_i (M4 1) 11 = kP y (i + 1))⟩) ((gWk.refl.fr GM3 (by decide)).tr TM4)
    · skip
      refine PW.jz_ne q_27_24 rfl (fun h8 => False.elim (by omega)) (fun h8 => ?_)
      refine PW.cI q_27_27 (by decide) fun c9 hc9 => ?_
      refine PW.rZ q_27_28 rfl (by omega) (by omega) (by decide) (by decide) ?_
      have e : k_walker y A i = (3, kP y (i + 1), A, i) := by unfold k_walker; rw [if_neg (by omega), if_neg (by omega), if_pos (by omega)]
      exact hK c9 M4 IM4 FM4 (by omega) (by omega) (by rw [e]; exact Or.inr ⟨by omega, (by omega : (3 : Int) ≠ 0), (by omega : o_i (M4 1) 10 = 3), (by omega : o_i (M4 1) 11 = kP y (i + 1))⟩) ((gWk.refl.fr GM3 (by decide)).tr TM4)
    · skip
      have nM4 := k_nam PtM4
      refine PW.jz_ne q_27_24 rfl (fun h10 => ?_) (fun h10 => False.elim (by omega))
      refine PW.aload_n q_27_29 rfl ?_
      refine PW.gR 257 q_27_30 (Or.inl t_ft_27_9) gF_4_8 kd_256 IM4.1 (by decide) rfl ?_
      refine PW.aload_n q_27_33 rfl ?_
      refine PW.gE q_27_34 (Or.inl t_ft_27_67) gF_4_6 kd_256 IM4.1 (by decide) ((congrArg (fun e => o_f e 6) (Fr.at GM4 kd_256 (by decide))).trans ((congrArg (fun e => o_f e 6) (Fr.at GM3 kd_256 (by decide))).trans fw256_6)) ?_
      refine PW.aload_n q_27_37 rfl ?_
      refine PW.gL q_27_38 (Or.inr t_fN_27_150) gF_1_7 kd_1 IM4.1 (by decide) fun l11 fl11 => ?_
      have eJ := o_J_of fl11
      refine PW.wLX q_27_41 rfl kd_257 hV IM4 (by decide) rfl (by omega) (by omega) fun M12 IM12 fM12 UM12 => ?_
      have FM12 := Fr.pu FM4 UM12.1 kd_257 (rfl : List.contains [1, 4, 27, 28, 29, 30] 27 = true)
      refine PW.aload_n q_27_42 rfl ?_
      refine PW.cV (as := []) (rest := []) q_27_43 t_mv_27_140 kd_1 IM12.1 (by decide) rfl (by decide) rfl rfl (Nat.le_of_ble_eq_true rfl) (Nat.le_of_ble_eq_true rfl) (by decide) (by decide) ?_
      refine PW.up (by decide) (c_X7_advance_vk (V) (hV) G _ M12 IM12 _ (i + 2) (k_at.nx (PtM4.cg (UM12.1 _ (g_ne kd_1 kd_257 (by decide))) (UM12.1 _ (g_ne kd_2 kd_257 (by decide)))) (by omega)) fun M13 IM13 GM13 PM13 => ?_)
      have FM13 := Fr.trans FM12 GM13 (rfl)
      have PtM13 := PM13
      refine PW.aload_n q_27_46 rfl ?_
      refine PW.gR 258 q_27_47 (Or.inl t_ft_27_15) gF_4_9 kd_256 IM13.1 (by decide) rfl ?_
      refine PW.aload_n q_27_50 rfl ?_
      refine PW.gE q_27_51 (Or.inl t_ft_27_67) gF_4_6 kd_256 IM13.1 (by decide) ((congrArg (fun e => o_f e 6) (Fr.at GM13 kd_256 (by decide))).trans ((congrArg (fun e => o_f e 6) (UM12.1 _ (g_ne kd_256 kd_257 (by decide)))).trans ((congrArg (fun e => o_f e 6) (Fr.at GM4 kd_256 (by decide))).trans ((congrArg (fun e => o_f e 6) (Fr.at GM3 kd_256 (by decide))).trans fw256_6)))) ?_
      refine PW.aload_n q_27_54 rfl ?_
      refine PW.cI q_27_55 (by decide) fun c14 hc14 => ?_
      refine PW.aload_n q_27_56 rfl ?_
      refine PW.gE q_27_57 (Or.inl t_ft_27_51) gF_4_1 kd_256 IM13.1 (by decide) ((congrArg (fun e => o_f e 1) (Fr.at GM13 kd_256 (by decide))).trans ((congrArg (fun e => o_f e 1) (UM12.1 _ (g_ne kd_256 kd_257 (by decide)))).trans ((congrArg (fun e => o_f e 1) (Fr.at GM4 kd_256 (by decide))).trans ((congrArg (fun e => o_f e 1) (Fr.at GM3 kd_256 (by decide))).trans fw256_1)))) ?_
      refine PW.cV (as := [_, _]) (rest := [_, _]) q_27_60 t_mv_27_143 kd_1 IM13.1 (by decide) rfl (by decide) rfl rfl (Nat.le_of_ble_eq_true rfl) (Nat.le_of_ble_eq_true rfl) (by decide) (by decide) ?_
      refine PW.up (by decide) (c_X7_needsNumber_vk (V) (hV) G _ M13 IM13 c14 w256_1 _ (i + 2) 0 (A.1 2) PtM13 (by omega) (by omega) fun x16 M15 IM15 GM15 PM15 => ?_)
      have FM15 := Fr.trans FM13 GM15 (rfl)
      rcases PM15 with ⟨PzM15, PvM15, PlM15, PhM15, PtM15⟩ | ⟨PzM15, PvM15, PfM15, PgM15⟩
      · skip
        refine PW.wI q_27_63 gA_28 kd_258 hV IM15 (by decide) rfl gC_28_0_5 (by decide) (by omega) (by omega) (n_lo _) (n_hi _) fun M17 IM17 fM17 UM17 => ?_
        have FM17 := Fr.pu FM15 UM17.1 kd_258 (rfl : List.contains [1, 4, 27, 28, 29, 30] 28 = true)
        refine PW.aload_n q_27_64 rfl ?_
        refine PW.gR 258 q_27_65 (Or.inl t_ft_27_15) gF_4_9 kd_256 IM17.1 (by decide) rfl ?_
        refine PW.aload_n q_27_68 rfl ?_
        refine PW.gE q_27_69 (Or.inl t_ft_27_67) gF_4_6 kd_256 IM17.1 (by decide) ((congrArg (fun e => o_f e 6) (UM17.1 _ (g_ne kd_256 kd_258 (by decide)))).trans ((congrArg (fun e => o_f e 6) (Fr.at GM15 kd_256 (by decide))).trans ((congrArg (fun e => o_f e 6) (Fr.at GM13 kd_256 (by decide))).trans ((congrArg (fun e => o_f e 6) (UM12.1 _ (g_ne kd_256 kd_257 (by decide)))).trans ((congrArg (fun e => o_f e 6) (Fr.at GM4 kd_256 (by decide))).trans ((congrArg (fun e => o_f e 6) (Fr.at GM3 kd_256 (by decide))).trans fw256_6)))))) ?_
        refine PW.aH q_27_72 gA_28 kd_258 IM17.1 (by decide) (by omega) (by omega) fun x18 fx18 => ?_
        have ezx18 : x18.toInt = x16.toInt := by rw [← fx18, fM17]
        refine PW.cI q_27_73 (by decide) fun c19 hc19 => ?_
        refine PW.jc_ne q_27_74 rfl (fun h20 => ?_) (fun h20 => False.elim (by omega))
        refine PW.aload_n q_27_79 rfl ?_
        refine PW.gR 259 q_27_80 (Or.inl t_ft_27_19) gF_4_10 kd_256 IM17.1 (by decide) rfl ?_
        refine PW.aload_n q_27_83 rfl ?_
        refine PW.gE q_27_84 (Or.inl t_ft_27_67) gF_4_6 kd_256 IM17.1 (by decide) ((congrArg (fun e => o_f e 6) (UM17.1 _ (g_ne kd_256 kd_258 (by decide)))).trans ((congrArg (fun e => o_f e 6) (Fr.at GM15 kd_256 (by decide))).trans ((congrArg (fun e => o_f e 6) (Fr.at GM13 kd_256 (by decide))).trans ((congrArg (fun e => o_f e 6) (UM12.1 _ (g_ne kd_256 kd_257 (by decide)))).trans ((congrArg (fun e => o_f e 6) (Fr.at GM4 kd_256 (by decide))).trans ((congrArg (fun e => o_f e 6) (Fr.at GM3 kd_256 (by decide))).trans fw256_6)))))) ?_
        refine PW.aload_n q_27_87 rfl ?_
        refine PW.cI q_27_88 (by decide) fun c21 hc21 => ?_
        refine PW.cB q_27_89 (by decide) fun c22 hc22 => ?_
        refine PW.cV (as := [_, _]) (rest := [_, _]) q_27_91 t_mv_27_143 kd_1 IM17.1 (by decide) rfl (by decide) rfl rfl (Nat.le_of_ble_eq_true rfl) (Nat.le_of_ble_eq_true rfl) (by decide) (by decide) ?_
        refine PW.up (by decide) (c_X7_needsNumber_vk (V) (hV) G _ M17 IM17 c21 c22 _ (i + 3) 0 9 (PtM15.cg (UM17.1 _ (g_ne kd_1 kd_258 (by decide))) (UM17.1 _ (g_ne kd_2 kd_258 (by decide)))) (by omega) (by omega) fun x24 M23 IM23 GM23 PM23 => ?_)
        have FM23 := Fr.trans FM17 GM23 (rfl)
        rcases PM23 with ⟨PzM23, PvM23, PlM23, PhM23, PtM23⟩ | ⟨PzM23, PvM23, PfM23, PgM23⟩
        · skip
          refine PW.wI q_27_94 gA_29 kd_259 hV IM23 (by decide) rfl gC_29_0_5 (by decide) (by omega) (by omega) (n_lo _) (n_hi _) fun M25 IM25 fM25 UM25 => ?_
          have FM25 := Fr.pu FM23 UM25.1 kd_259 (rfl : List.contains [1, 4, 27, 28, 29, 30] 29 = true)
          refine PW.aload_n q_27_95 rfl ?_
          refine PW.gR 259 q_27_96 (Or.inl t_ft_27_19) gF_4_10 kd_256 IM25.1 (by decide) rfl ?_
          refine PW.aload_n q_27_99 rfl ?_
          refine PW.gE q_27_100 (Or.inl t_ft_27_67) gF_4_6 kd_256 IM25.1 (by decide) ((congrArg (fun e => o_f e 6) (UM25.1 _ (g_ne kd_256 kd_259 (by decide)))).trans ((congrArg (fun e => o_f e 6) (Fr.at GM23 kd_256 (by decide))).trans ((congrArg (fun e => o_f e 6) (UM17.1 _ (g_ne kd_256 kd_258 (by decide)))).trans ((congrArg (fun e => o_f e 6) (Fr.at GM15 kd_256 (by decide))).trans ((congrArg (fun e => o_f e 6) (Fr.at GM13 kd_256 (by decide))).trans ((congrArg (fun e => o_f e 6) (UM12.1 _ (g_ne kd_256 kd_257 (by decide)))).trans ((congrArg (fun e => o_f e 6) (Fr.at GM4 kd_256 (by decide))).trans ((congrArg (fun e => o_f e 6) (Fr.at GM3 kd_256 (by decide))).trans fw256_6)))))))) ?_
          refine PW.aH q_27_103 gA_29 kd_259 IM25.1 (by decide) (by omega) (by omega) fun x26 fx26 => ?_
          have ezx26 : x26.toInt = x24.toInt := by rw [← fx26, fM25]
          refine PW.cI q_27_104 (by decide) fun c27 hc27 => ?_
          refine PW.jc_ne q_27_105 rfl (fun h28 => ?_) (fun h28 => False.elim (by omega))
          refine PW.aload_n q_27_110 rfl ?_
          refine PW.gR 260 q_27_111 (Or.inl t_ft_27_22) gF_4_11 kd_256 IM25.1 (by decide) rfl ?_
          refine PW.aload_n q_27_114 rfl ?_
          refine PW.gE q_27_115 (Or.inl t_ft_27_67) gF_4_6 kd_256 IM25.1 (by decide) ((congrArg (fun e => o_f e 6) (UM25.1 _ (g_ne kd_256 kd_259 (by decide)))).trans ((congrArg (fun e => o_f e 6) (Fr.at GM23 kd_256 (by decide))).trans ((congrArg (fun e => o_f e 6) (UM17.1 _ (g_ne kd_256 kd_258 (by decide)))).trans ((congrArg (fun e => o_f e 6) (Fr.at GM15 kd_256 (by decide))).trans ((congrArg (fun e => o_f e 6) (Fr.at GM13 kd_256 (by decide))).trans ((congrArg (fun e => o_f e 6) (UM12.1 _ (g_ne kd_256 kd_257 (by decide)))).trans ((congrArg (fun e => o_f e 6) (Fr.at GM4 kd_256 (by decide))).trans ((congrArg (fun e => o_f e 6) (Fr.at GM3 kd_256 (by decide))).trans fw256_6)))))))) ?_
          refine PW.aload_n q_27_118 rfl ?_
          refine PW.gets q_27_119 t_st_27_154 ?_
          refine PW.cV (as := [_]) (rest := [_, _]) q_27_122 t_mv_27_157 kd_1 IM25.1 (by decide) rfl (by decide) rfl rfl (Nat.le_of_ble_eq_true rfl) (Nat.le_of_ble_eq_true rfl) (by decide) (by decide) ?_
          refine PW.up (by decide) (c_X7_takes_vk (V) (hV) G _ M25 IM25 4 (by decide) _ (i + 4) (PtM23.cg (UM25.1 _ (g_ne kd_1 kd_259 (by decide))) (UM25.1 _ (g_ne kd_2 kd_259 (by decide)))) fun x30 M29 IM29 GM29 hx30 kx30 PM29 => ?_)
          have FM29 := Fr.trans FM25 GM29 (rfl)
          rcases PM29 with ⟨PaM29, PbM29, PcM29, PtM29⟩ | ⟨PaM29, PnM29, PtM29⟩
          · skip
            refine PW.wZ q_27_125 gA_30 kd_260 hV IM29 (by decide) rfl gC_30_0_5 (by omega) (by omega) (by omega) (by omega) fun M31 IM31 fM31 UM31 => ?_
            have FM31 := Fr.pu FM29 UM31.1 kd_260 (rfl : List.contains [1, 4, 27, 28, 29, 30] 30 = true)
            refine PW.aload_n q_27_126 rfl ?_
            refine PW.dup q_27_127 rfl ?_
            refine PW.gE q_27_128 (Or.inl t_ft_27_67) gF_4_6 kd_256 IM31.1 (by decide) ((congrArg (fun e => o_f e 6) (UM31.1 _ (g_ne kd_256 kd_260 (by decide)))).trans ((congrArg (fun e => o_f e 6) (Fr.at GM29 kd_256 (by decide))).trans ((congrArg (fun e => o_f e 6) (UM25.1 _ (g_ne kd_256 kd_259 (by decide)))).trans ((congrArg (fun e => o_f e 6) (Fr.at GM23 kd_256 (by decide))).trans ((congrArg (fun e => o_f e 6) (UM17.1 _ (g_ne kd_256 kd_258 (by decide)))).trans ((congrArg (fun e => o_f e 6) (Fr.at GM15 kd_256 (by decide))).trans ((congrArg (fun e => o_f e 6) (Fr.at GM13 kd_256 (by decide))).trans ((congrArg (fun e => o_f e 6) (UM12.1 _ (g_ne kd_256 kd_257 (by decide)))).trans ((congrArg (fun e => o_f e 6) (Fr.at GM4 kd_256 (by decide))).trans ((congrArg (fun e => o_f e 6) (Fr.at GM3 kd_256 (by decide))).trans fw256_6)))))))))) ?_
            refine PW.cI q_27_131 (by decide) fun c32 hc32 => ?_
            refine PW.addN q_27_132 (by omega) (by omega) fun x33 hx33 => ?_
            refine PW.pI q_27_133 (Or.inl t_ft_27_67) gF_4_6 gP_4_6 kd_256 hV IM31 (by decide) rfl (by omega) (by omega) fun M34 IM34 fM34 UM34 => ?_
            have FM34 := Fr.pu FM31 UM34.1 kd_256 (rfl : List.contains [1, 4, 27, 28, 29, 30] 4 = true)
            refine PW.cI q_27_136 (by decide) fun c35 hc35 => ?_
            refine PW.rZ q_27_137 rfl (by omega) (by omega) (by decide) (by decide) ?_
            have e : k_walker y A i = (0, 0, (va_up A.1 0 (A.1 0 + 1), va_up A.2.1 (A.1 0).toNat (kV y (i + 1)), A.2.2), i + 5) := by unfold k_walker; rw [if_neg (by omega), if_neg (by omega), if_neg (by omega), if_neg (by omega), if_neg (by omega), if_pos ⟨PbM29, PcM29⟩]
            exact hK c35 M34 IM34 FM34 (by omega) (by omega) (by rw [e]; exact Or.inl ⟨by omega, rfl, (PtM29.cg ((UM34.1 _ (g_ne kd_1 kd_256 (by decide))).trans (UM31.1 _ (g_ne kd_1 kd_260 (by decide)))) ((UM34.1 _ (g_ne kd_2 kd_256 (by decide))).trans (UM31.1 _ (g_ne kd_2 kd_260 (by decide))))), ⟨(by have w := (o_i_of ((UM34.f (Or.inr (by decide))).trans ((congrArg (fun e => o_f e 0) (UM31.1 _ (g_ne kd_256 kd_260 (by decide)))).trans ((congrArg (fun e => o_f e 0) (Fr.at GM29 kd_256 (by decide))).trans ((congrArg (fun e => o_f e 0) (UM25.1 _ (g_ne kd_256 kd_259 (by decide)))).trans ((congrArg (fun e => o_f e 0) (Fr.at GM23 kd_256 (by decide))).trans ((congrArg (fun e => o_f e 0) (UM17.1 _ (g_ne kd_256 kd_258 (by decide)))).trans ((congrArg (fun e => o_f e 0) (Fr.at GM15 kd_256 (by decide))).trans ((congrArg (fun e => o_f e 0) (Fr.at GM13 kd_256 (by decide))).trans ((congrArg (fun e => o_f e 0) (UM12.1 _ (g_ne kd_256 kd_257 (by decide)))).trans ((congrArg (fun e => o_f e 0) (Fr.at GM4 kd_256 (by decide))).trans ((congrArg (fun e => o_f e 0) (Fr.at GM3 kd_256 (by decide))).trans fw256_0)))))))))))); show o_i (M34 256) 0 = A.1 5; omega), (by have w := (o_i_of ((UM34.f (Or.inr (by decide))).trans ((congrArg (fun e => o_f e 1) (UM31.1 _ (g_ne kd_256 kd_260 (by decide)))).trans ((congrArg (fun e => o_f e 1) (Fr.at GM29 kd_256 (by decide))).trans ((congrArg (fun e => o_f e 1) (UM25.1 _ (g_ne kd_256 kd_259 (by decide)))).trans ((congrArg (fun e => o_f e 1) (Fr.at GM23 kd_256 (by decide))).trans ((congrArg (fun e => o_f e 1) (UM17.1 _ (g_ne kd_256 kd_258 (by decide)))).trans ((congrArg (fun e => o_f e 1) (Fr.at GM15 kd_256 (by decide))).trans ((congrArg (fun e => o_f e 1) (Fr.at GM13 kd_256 (by decide))).trans ((congrArg (fun e => o_f e 1) (UM12.1 _ (g_ne kd_256 kd_257 (by decide)))).trans ((congrArg (fun e => o_f e 1) (Fr.at GM4 kd_256 (by decide))).trans ((congrArg (fun e => o_f e 1) (Fr.at GM3 kd_256 (by decide))).trans fw256_1)))))))))))); show o_i (M34 256) 1 = A.1 2; omega), (by have w := (o_i_of ((UM34.f (Or.inr (by decide))).trans ((congrArg (fun e => o_f e 2) (UM31.1 _ (g_ne kd_256 kd_260 (by decide)))).trans ((congrArg (fun e => o_f e 2) (Fr.at GM29 kd_256 (by decide))).trans ((congrArg (fun e => o_f e 2) (UM25.1 _ (g_ne kd_256 kd_259 (by decide)))).trans ((congrArg (fun e => o_f e 2) (Fr.at GM23 kd_256 (by decide))).trans ((congrArg (fun e => o_f e 2) (UM17.1 _ (g_ne kd_256 kd_258 (by decide)))).trans ((congrArg (fun e => o_f e 2) (Fr.at GM15 kd_256 (by decide))).trans ((congrArg (fun e => o_f e 2) (Fr.at GM13 kd_256 (by decide))).trans ((congrArg (fun e => o_f e 2) (UM12.1 _ (g_ne kd_256 kd_257 (by decide)))).trans ((congrArg (fun e => o_f e 2) (Fr.at GM4 kd_256 (by decide))).trans ((congrArg (fun e => o_f e 2) (Fr.at GM3 kd_256 (by decide))).trans fw256_2)))))))))))); show o_i (M34 256) 2 = A.1 3; omega), (by have w := (o_i_of ((UM34.f (Or.inr (by decide))).trans ((congrArg (fun e => o_f e 3) (UM31.1 _ (g_ne kd_256 kd_260 (by decide)))).trans ((congrArg (fun e => o_f e 3) (Fr.at GM29 kd_256 (by decide))).trans ((congrArg (fun e => o_f e 3) (UM25.1 _ (g_ne kd_256 kd_259 (by decide)))).trans ((congrArg (fun e => o_f e 3) (Fr.at GM23 kd_256 (by decide))).trans ((congrArg (fun e => o_f e 3) (UM17.1 _ (g_ne kd_256 kd_258 (by decide)))).trans ((congrArg (fun e => o_f e 3) (Fr.at GM15 kd_256 (by decide))).trans ((congrArg (fun e => o_f e 3) (Fr.at GM13 kd_256 (by decide))).trans ((congrArg (fun e => o_f e 3) (UM12.1 _ (g_ne kd_256 kd_257 (by decide)))).trans ((congrArg (fun e => o_f e 3) (Fr.at GM4 kd_256 (by decide))).trans ((congrArg (fun e => o_f e 3) (Fr.at GM3 kd_256 (by decide))).trans fw256_3)))))))))))); show o_i (M34 256) 3 = A.1 4; omega), (by have w := (o_i_of ((UM34.f (Or.inr (by decide))).trans ((congrArg (fun e => o_f e 4) (UM31.1 _ (g_ne kd_256 kd_260 (by decide)))).trans ((congrArg (fun e => o_f e 4) (Fr.at GM29 kd_256 (by decide))).trans ((congrArg (fun e => o_f e 4) (UM25.1 _ (g_ne kd_256 kd_259 (by decide)))).trans ((congrArg (fun e => o_f e 4) (Fr.at GM23 kd_256 (by decide))).trans ((congrArg (fun e => o_f e 4) (UM17.1 _ (g_ne kd_256 kd_258 (by decide)))).trans ((congrArg (fun e => o_f e 4) (Fr.at GM15 kd_256 (by decide))).trans ((congrArg (fun e => o_f e 4) (Fr.at GM13 kd_256 (by decide))).trans ((congrArg (fun e => o_f e 4) (UM12.1 _ (g_ne kd_256 kd_257 (by decide)))).trans ((congrArg (fun e => o_f e 4) (Fr.at GM4 kd_256 (by decide))).trans ((congrArg (fun e => o_f e 4) (Fr.at GM3 kd_256 (by decide))).trans fw256_4)))))))))))); show o_i (M34 256) 4 = A.1 6; omega), (by have w := (o_i_of ((UM34.f (Or.inr (by decide))).trans ((congrArg (fun e => o_f e 5) (UM31.1 _ (g_ne kd_256 kd_260 (by decide)))).trans ((congrArg (fun e => o_f e 5) (Fr.at GM29 kd_256 (by decide))).trans ((congrArg (fun e => o_f e 5) (UM25.1 _ (g_ne kd_256 kd_259 (by decide)))).trans ((congrArg (fun e => o_f e 5) (Fr.at GM23 kd_256 (by decide))).trans ((congrArg (fun e => o_f e 5) (UM17.1 _ (g_ne kd_256 kd_258 (by decide)))).trans ((congrArg (fun e => o_f e 5) (Fr.at GM15 kd_256 (by decide))).trans ((congrArg (fun e => o_f e 5) (Fr.at GM13 kd_256 (by decide))).trans ((congrArg (fun e => o_f e 5) (UM12.1 _ (g_ne kd_256 kd_257 (by decide)))).trans ((congrArg (fun e => o_f e 5) (Fr.at GM4 kd_256 (by decide))).trans ((congrArg (fun e => o_f e 5) (Fr.at GM3 kd_256 (by decide))).trans fw256_5)))))))))))); show o_i (M34 256) 5 = A.1 7; omega), (by have w := (o_i_of fM34); show o_i (M34 256) 6 = A.1 0 + 1; omega), (by have w := (o_i_of ((UM34.f (Or.inr (by decide))).trans ((congrArg (fun e => o_f e 7) (UM31.1 _ (g_ne kd_256 kd_260 (by decide)))).trans ((congrArg (fun e => o_f e 7) (Fr.at GM29 kd_256 (by decide))).trans ((congrArg (fun e => o_f e 7) (UM25.1 _ (g_ne kd_256 kd_259 (by decide)))).trans ((congrArg (fun e => o_f e 7) (Fr.at GM23 kd_256 (by decide))).trans ((congrArg (fun e => o_f e 7) (UM17.1 _ (g_ne kd_256 kd_258 (by decide)))).trans ((congrArg (fun e => o_f e 7) (Fr.at GM15 kd_256 (by decide))).trans ((congrArg (fun e => o_f e 7) (Fr.at GM13 kd_256 (by decide))).trans ((congrArg (fun e => o_f e 7) (UM12.1 _ (g_ne kd_256 kd_257 (by decide)))).trans ((congrArg (fun e => o_f e 7) (Fr.at GM4 kd_256 (by decide))).trans ((congrArg (fun e => o_f e 7) (Fr.at GM3 kd_256 (by decide))).trans fw256_7)))))))))))); show o_i (M34 256) 7 = A.1 1; omega), (k_upl (e0 := M4 257) (fun j hj => by rw [((Fr.at GM4 kd_257 (by decide)).trans (Fr.at GM3 kd_257 (by decide)))]; exact kc8 j hj) (by omega) (by rw [((UM34.1 _ (g_ne kd_257 kd_256 (by decide))).trans ((UM31.1 _ (g_ne kd_257 kd_260 (by decide))).trans ((Fr.at GM29 kd_257 (by decide)).trans ((UM25.1 _ (g_ne kd_257 kd_259 (by decide))).trans ((Fr.at GM23 kd_257 (by decide)).trans ((UM17.1 _ (g_ne kd_257 kd_258 (by decide))).trans ((Fr.at GM15 kd_257 (by decide)).trans (Fr.at GM13 kd_257 (by decide)))))))))]; rw [show (A.1 0).toNat = w256_6.toInt.toNat from by omega]; rw [fM12]; omega) (fun z hz => by rw [((UM34.1 _ (g_ne kd_257 kd_256 (by decide))).trans ((UM31.1 _ (g_ne kd_257 kd_260 (by decide))).trans ((Fr.at GM29 kd_257 (by decide)).trans ((UM25.1 _ (g_ne kd_257 kd_259 (by decide))).trans ((Fr.at GM23 kd_257 (by decide)).trans ((UM17.1 _ (g_ne kd_257 kd_258 (by decide))).trans ((Fr.at GM15 kd_257 (by decide)).trans (Fr.at GM13 kd_257 (by decide)))))))))]; exact UM12.2 z (by omega))), (fun j hj => by rw [((UM34.1 _ (g_ne kd_261 kd_256 (by decide))).trans ((UM31.1 _ (g_ne kd_261 kd_260 (by decide))).trans ((Fr.at GM29 kd_261 (by decide)).trans ((UM25.1 _ (g_ne kd_261 kd_259 (by decide))).trans ((Fr.at GM23 kd_261 (by decide)).trans ((UM17.1 _ (g_ne kd_261 kd_258 (by decide))).trans ((Fr.at GM15 kd_261 (by decide)).trans ((Fr.at GM13 kd_261 (by decide)).trans ((UM12.1 _ (g_ne kd_261 kd_257 (by decide))).trans ((Fr.at GM4 kd_261 (by decide)).trans (Fr.at GM3 kd_261 (by decide))))))))))))]; exact kc9 j hj), (fun j hj => by rw [((UM34.1 _ (g_ne kd_266 kd_256 (by decide))).trans ((UM31.1 _ (g_ne kd_266 kd_260 (by decide))).trans ((Fr.at GM29 kd_266 (by decide)).trans ((UM25.1 _ (g_ne kd_266 kd_259 (by decide))).trans ((Fr.at GM23 kd_266 (by decide)).trans ((UM17.1 _ (g_ne kd_266 kd_258 (by decide))).trans ((Fr.at GM15 kd_266 (by decide)).trans ((Fr.at GM13 kd_266 (by decide)).trans ((UM12.1 _ (g_ne kd_266 kd_257 (by decide))).trans ((Fr.at GM4 kd_266 (by decide)).trans (Fr.at GM3 kd_266 (by decide))))))))))))]; exact kc10 j hj), (fun j hj => by rw [((UM34.1 _ (g_ne kd_265 kd_256 (by decide))).trans ((UM31.1 _ (g_ne kd_265 kd_260 (by decide))).trans ((Fr.at GM29 kd_265 (by decide)).trans ((UM25.1 _ (g_ne kd_265 kd_259 (by decide))).trans ((Fr.at GM23 kd_265 (by decide)).trans ((UM17.1 _ (g_ne kd_265 kd_258 (by decide))).trans ((Fr.at GM15 kd_265 (by decide)).trans ((Fr.at GM13 kd_265 (by decide)).trans ((UM12.1 _ (g_ne kd_265 kd_257 (by decide))).trans ((Fr.at GM4 kd_265 (by decide)).trans (Fr.at GM3 kd_265 (by decide))))))))))))]; exact kc11 j hj)⟩⟩) (((((((((((gWk.refl.fr GM3 (by decide)).tr TM4).ar UM12.1 (by decide)).fr GM13 (by decide)).fr GM15 (by decide)).ar UM17.1 (by decide)).fr GM23 (by decide)).ar UM25.1 (by decide)).fr GM29 (by decide)).ar UM31.1 (by decide)).put UM34 (by decide))
          · skip
            refine PW.wZ q_27_125 gA_30 kd_260 hV IM29 (by decide) rfl gC_30_0_5 (by omega) (by omega) (by omega) (by omega) fun M36 IM36 fM36 UM36 => ?_
            have FM36 := Fr.pu FM29 UM36.1 kd_260 (rfl : List.contains [1, 4, 27, 28, 29, 30] 30 = true)
            refine PW.aload_n q_27_126 rfl ?_
            refine PW.dup q_27_127 rfl ?_
            refine PW.gE q_27_128 (Or.inl t_ft_27_67) gF_4_6 kd_256 IM36.1 (by decide) ((congrArg (fun e => o_f e 6) (UM36.1 _ (g_ne kd_256 kd_260 (by decide)))).trans ((congrArg (fun e => o_f e 6) (Fr.at GM29 kd_256 (by decide))).trans ((congrArg (fun e => o_f e 6) (UM25.1 _ (g_ne kd_256 kd_259 (by decide)))).trans ((congrArg (fun e => o_f e 6) (Fr.at GM23 kd_256 (by decide))).trans ((congrArg (fun e => o_f e 6) (UM17.1 _ (g_ne kd_256 kd_258 (by decide)))).trans ((congrArg (fun e => o_f e 6) (Fr.at GM15 kd_256 (by decide))).trans ((congrArg (fun e => o_f e 6) (Fr.at GM13 kd_256 (by decide))).trans ((congrArg (fun e => o_f e 6) (UM12.1 _ (g_ne kd_256 kd_257 (by decide)))).trans ((congrArg (fun e => o_f e 6) (Fr.at GM4 kd_256 (by decide))).trans ((congrArg (fun e => o_f e 6) (Fr.at GM3 kd_256 (by decide))).trans fw256_6)))))))))) ?_
            refine PW.cI q_27_131 (by decide) fun c37 hc37 => ?_
            refine PW.addN q_27_132 (by omega) (by omega) fun x38 hx38 => ?_
            refine PW.pI q_27_133 (Or.inl t_ft_27_67) gF_4_6 gP_4_6 kd_256 hV IM36 (by decide) rfl (by omega) (by omega) fun M39 IM39 fM39 UM39 => ?_
            have FM39 := Fr.pu FM36 UM39.1 kd_256 (rfl : List.contains [1, 4, 27, 28, 29, 30] 4 = true)
            refine PW.cI q_27_136 (by decide) fun c40 hc40 => ?_
            refine PW.rZ q_27_137 rfl (by omega) (by omega) (by decide) (by decide) ?_
            have e : k_walker y A i = (0, 0, (va_up A.1 0 (A.1 0 + 1), va_up A.2.1 (A.1 0).toNat (kV y (i + 1)), A.2.2), i + 4) := by unfold k_walker; rw [if_neg (by omega), if_neg (by omega), if_neg (by omega), if_neg (by omega), if_neg (by omega), if_neg PnM29]
            exact hK c40 M39 IM39 FM39 (by omega) (by omega) (by rw [e]; exact Or.inl ⟨by omega, rfl, (PtM29.cg ((UM39.1 _ (g_ne kd_1 kd_256 (by decide))).trans (UM36.1 _ (g_ne kd_1 kd_260 (by decide)))) ((UM39.1 _ (g_ne kd_2 kd_256 (by decide))).trans (UM36.1 _ (g_ne kd_2 kd_260 (by decide))))), ⟨(by have w := (o_i_of ((UM39.f (Or.inr (by decide))).trans ((congrArg (fun e => o_f e 0) (UM36.1 _ (g_ne kd_256 kd_260 (by decide)))).trans ((congrArg (fun e => o_f e 0) (Fr.at GM29 kd_256 (by decide))).trans ((congrArg (fun e => o_f e 0) (UM25.1 _ (g_ne kd_256 kd_259 (by decide)))).trans ((congrArg (fun e => o_f e 0) (Fr.at GM23 kd_256 (by decide))).trans ((congrArg (fun e => o_f e 0) (UM17.1 _ (g_ne kd_256 kd_258 (by decide)))).trans ((congrArg (fun e => o_f e 0) (Fr.at GM15 kd_256 (by decide))).trans ((congrArg (fun e => o_f e 0) (Fr.at GM13 kd_256 (by decide))).trans ((congrArg (fun e => o_f e 0) (UM12.1 _ (g_ne kd_256 kd_257 (by decide)))).trans ((congrArg (fun e => o_f e 0) (Fr.at GM4 kd_256 (by decide))).trans ((congrArg (fun e => o_f e 0) (Fr.at GM3 kd_256 (by decide))).trans fw256_0)))))))))))); show o_i (M39 256) 0 = A.1 5; omega), (by have w := (o_i_of ((UM39.f (Or.inr (by decide))).trans ((congrArg (fun e => o_f e 1) (UM36.1 _ (g_ne kd_256 kd_260 (by decide)))).trans ((congrArg (fun e => o_f e 1) (Fr.at GM29 kd_256 (by decide))).trans ((congrArg (fun e => o_f e 1) (UM25.1 _ (g_ne kd_256 kd_259 (by decide)))).trans ((congrArg (fun e => o_f e 1) (Fr.at GM23 kd_256 (by decide))).trans ((congrArg (fun e => o_f e 1) (UM17.1 _ (g_ne kd_256 kd_258 (by decide)))).trans ((congrArg (fun e => o_f e 1) (Fr.at GM15 kd_256 (by decide))).trans ((congrArg (fun e => o_f e 1) (Fr.at GM13 kd_256 (by decide))).trans ((congrArg (fun e => o_f e 1) (UM12.1 _ (g_ne kd_256 kd_257 (by decide)))).trans ((congrArg (fun e => o_f e 1) (Fr.at GM4 kd_256 (by decide))).trans ((congrArg (fun e => o_f e 1) (Fr.at GM3 kd_256 (by decide))).trans fw256_1)))))))))))); show o_i (M39 256) 1 = A.1 2; omega), (by have w := (o_i_of ((UM39.f (Or.inr (by decide))).trans ((congrArg (fun e => o_f e 2) (UM36.1 _ (g_ne kd_256 kd_260 (by decide)))).trans ((congrArg (fun e => o_f e 2) (Fr.at GM29 kd_256 (by decide))).trans ((congrArg (fun e => o_f e 2) (UM25.1 _ (g_ne kd_256 kd_259 (by decide)))).trans ((congrArg (fun e => o_f e 2) (Fr.at GM23 kd_256 (by decide))).trans ((congrArg (fun e => o_f e 2) (UM17.1 _ (g_ne kd_256 kd_258 (by decide)))).trans ((congrArg (fun e => o_f e 2) (Fr.at GM15 kd_256 (by decide))).trans ((congrArg (fun e => o_f e 2) (Fr.at GM13 kd_256 (by decide))).trans ((congrArg (fun e => o_f e 2) (UM12.1 _ (g_ne kd_256 kd_257 (by decide)))).trans ((congrArg (fun e => o_f e 2) (Fr.at GM4 kd_256 (by decide))).trans ((congrArg (fun e => o_f e 2) (Fr.at GM3 kd_256 (by decide))).trans fw256_2)))))))))))); show o_i (M39 256) 2 = A.1 3; omega), (by have w := (o_i_of ((UM39.f (Or.inr (by decide))).trans ((congrArg (fun e => o_f e 3) (UM36.1 _ (g_ne kd_256 kd_260 (by decide)))).trans ((congrArg (fun e => o_f e 3) (Fr.at GM29 kd_256 (by decide))).trans ((congrArg (fun e => o_f e 3) (UM25.1 _ (g_ne kd_256 kd_259 (by decide)))).trans ((congrArg (fun e => o_f e 3) (Fr.at GM23 kd_256 (by decide))).trans ((congrArg (fun e => o_f e 3) (UM17.1 _ (g_ne kd_256 kd_258 (by decide)))).trans ((congrArg (fun e => o_f e 3) (Fr.at GM15 kd_256 (by decide))).trans ((congrArg (fun e => o_f e 3) (Fr.at GM13 kd_256 (by decide))).trans ((congrArg (fun e => o_f e 3) (UM12.1 _ (g_ne kd_256 kd_257 (by decide)))).trans ((congrArg (fun e => o_f e 3) (Fr.at GM4 kd_256 (by decide))).trans ((congrArg (fun e => o_f e 3) (Fr.at GM3 kd_256 (by decide))).trans fw256_3)))))))))))); show o_i (M39 256) 3 = A.1 4; omega), (by have w := (o_i_of ((UM39.f (Or.inr (by decide))).trans ((congrArg (fun e => o_f e 4) (UM36.1 _ (g_ne kd_256 kd_260 (by decide)))).trans ((congrArg (fun e => o_f e 4) (Fr.at GM29 kd_256 (by decide))).trans ((congrArg (fun e => o_f e 4) (UM25.1 _ (g_ne kd_256 kd_259 (by decide)))).trans ((congrArg (fun e => o_f e 4) (Fr.at GM23 kd_256 (by decide))).trans ((congrArg (fun e => o_f e 4) (UM17.1 _ (g_ne kd_256 kd_258 (by decide)))).trans ((congrArg (fun e => o_f e 4) (Fr.at GM15 kd_256 (by decide))).trans ((congrArg (fun e => o_f e 4) (Fr.at GM13 kd_256 (by decide))).trans ((congrArg (fun e => o_f e 4) (UM12.1 _ (g_ne kd_256 kd_257 (by decide)))).trans ((congrArg (fun e => o_f e 4) (Fr.at GM4 kd_256 (by decide))).trans ((congrArg (fun e => o_f e 4) (Fr.at GM3 kd_256 (by decide))).trans fw256_4)))))))))))); show o_i (M39 256) 4 = A.1 6; omega), (by have w := (o_i_of ((UM39.f (Or.inr (by decide))).trans ((congrArg (fun e => o_f e 5) (UM36.1 _ (g_ne kd_256 kd_260 (by decide)))).trans ((congrArg (fun e => o_f e 5) (Fr.at GM29 kd_256 (by decide))).trans ((congrArg (fun e => o_f e 5) (UM25.1 _ (g_ne kd_256 kd_259 (by decide)))).trans ((congrArg (fun e => o_f e 5) (Fr.at GM23 kd_256 (by decide))).trans ((congrArg (fun e => o_f e 5) (UM17.1 _ (g_ne kd_256 kd_258 (by decide)))).trans ((congrArg (fun e => o_f e 5) (Fr.at GM15 kd_256 (by decide))).trans ((congrArg (fun e => o_f e 5) (Fr.at GM13 kd_256 (by decide))).trans ((congrArg (fun e => o_f e 5) (UM12.1 _ (g_ne kd_256 kd_257 (by decide)))).trans ((congrArg (fun e => o_f e 5) (Fr.at GM4 kd_256 (by decide))).trans ((congrArg (fun e => o_f e 5) (Fr.at GM3 kd_256 (by decide))).trans fw256_5)))))))))))); show o_i (M39 256) 5 = A.1 7; omega), (by have w := (o_i_of fM39); show o_i (M39 256) 6 = A.1 0 + 1; omega), (by have w := (o_i_of ((UM39.f (Or.inr (by decide))).trans ((congrArg (fun e => o_f e 7) (UM36.1 _ (g_ne kd_256 kd_260 (by decide)))).trans ((congrArg (fun e => o_f e 7) (Fr.at GM29 kd_256 (by decide))).trans ((congrArg (fun e => o_f e 7) (UM25.1 _ (g_ne kd_256 kd_259 (by decide)))).trans ((congrArg (fun e => o_f e 7) (Fr.at GM23 kd_256 (by decide))).trans ((congrArg (fun e => o_f e 7) (UM17.1 _ (g_ne kd_256 kd_258 (by decide)))).trans ((congrArg (fun e => o_f e 7) (Fr.at GM15 kd_256 (by decide))).trans ((congrArg (fun e => o_f e 7) (Fr.at GM13 kd_256 (by decide))).trans ((congrArg (fun e => o_f e 7) (UM12.1 _ (g_ne kd_256 kd_257 (by decide)))).trans ((congrArg (fun e => o_f e 7) (Fr.at GM4 kd_256 (by decide))).trans ((congrArg (fun e => o_f e 7) (Fr.at GM3 kd_256 (by decide))).trans fw256_7)))))))))))); show o_i (M39 256) 7 = A.1 1; omega), (k_upl (e0 := M4 257) (fun j hj => by rw [((Fr.at GM4 kd_257 (by decide)).trans (Fr.at GM3 kd_257 (by decide)))]; exact kc8 j hj) (by omega) (by rw [((UM39.1 _ (g_ne kd_257 kd_256 (by decide))).trans ((UM36.1 _ (g_ne kd_257 kd_260 (by decide))).trans ((Fr.at GM29 kd_257 (by decide)).trans ((UM25.1 _ (g_ne kd_257 kd_259 (by decide))).trans ((Fr.at GM23 kd_257 (by decide)).trans ((UM17.1 _ (g_ne kd_257 kd_258 (by decide))).trans ((Fr.at GM15 kd_257 (by decide)).trans (Fr.at GM13 kd_257 (by decide)))))))))]; rw [show (A.1 0).toNat = w256_6.toInt.toNat from by omega]; rw [fM12]; omega) (fun z hz => by rw [((UM39.1 _ (g_ne kd_257 kd_256 (by decide))).trans ((UM36.1 _ (g_ne kd_257 kd_260 (by decide))).trans ((Fr.at GM29 kd_257 (by decide)).trans ((UM25.1 _ (g_ne kd_257 kd_259 (by decide))).trans ((Fr.at GM23 kd_257 (by decide)).trans ((UM17.1 _ (g_ne kd_257 kd_258 (by decide))).trans ((Fr.at GM15 kd_257 (by decide)).trans (Fr.at GM13 kd_257 (by decide)))))))))]; exact UM12.2 z (by omega))), (fun j hj => by rw [((UM39.1 _ (g_ne kd_261 kd_256 (by decide))).trans ((UM36.1 _ (g_ne kd_261 kd_260 (by decide))).trans ((Fr.at GM29 kd_261 (by decide)).trans ((UM25.1 _ (g_ne kd_261 kd_259 (by decide))).trans ((Fr.at GM23 kd_261 (by decide)).trans ((UM17.1 _ (g_ne kd_261 kd_258 (by decide))).trans ((Fr.at GM15 kd_261 (by decide)).trans ((Fr.at GM13 kd_261 (by decide)).trans ((UM12.1 _ (g_ne kd_261 kd_257 (by decide))).trans ((Fr.at GM4 kd_261 (by decide)).trans (Fr.at GM3 kd_261 (by decide))))))))))))]; exact kc9 j hj), (fun j hj => by rw [((UM39.1 _ (g_ne kd_266 kd_256 (by decide))).trans ((UM36.1 _ (g_ne kd_266 kd_260 (by decide))).trans ((Fr.at GM29 kd_266 (by decide)).trans ((UM25.1 _ (g_ne kd_266 kd_259 (by decide))).trans ((Fr.at GM23 kd_266 (by decide)).trans ((UM17.1 _ (g_ne kd_266 kd_258 (by decide))).trans ((Fr.at GM15 kd_266 (by decide)).trans ((Fr.at GM13 kd_266 (by decide)).trans ((UM12.1 _ (g_ne kd_266 kd_257 (by decide))).trans ((Fr.at GM4 kd_266 (by decide)).trans (Fr.at GM3 kd_266 (by decide))))))))))))]; exact kc10 j hj), (fun j hj => by rw [((UM39.1 _ (g_ne kd_265 kd_256 (by decide))).trans ((UM36.1 _ (g_ne kd_265 kd_260 (by decide))).trans ((Fr.at GM29 kd_265 (by decide)).trans ((UM25.1 _ (g_ne kd_265 kd_259 (by decide))).trans ((Fr.at GM23 kd_265 (by decide)).trans ((UM17.1 _ (g_ne kd_265 kd_258 (by decide))).trans ((Fr.at GM15 kd_265 (by decide)).trans ((Fr.at GM13 kd_265 (by decide)).trans ((UM12.1 _ (g_ne kd_265 kd_257 (by decide))).trans ((Fr.at GM4 kd_265 (by decide)).trans (Fr.at GM3 kd_265 (by decide))))))))))))]; exact kc11 j hj)⟩⟩) (((((((((((gWk.refl.fr GM3 (by decide)).tr TM4).ar UM12.1 (by decide)).fr GM13 (by decide)).fr GM15 (by decide)).ar UM17.1 (by decide)).fr GM23 (by decide)).ar UM25.1 (by decide)).fr GM29 (by decide)).ar UM36.1 (by decide)).put UM39 (by decide))
        · skip
          refine PW.wI q_27_94 gA_29 kd_259 hV IM23 (by decide) rfl gC_29_0_5 (by decide) (by omega) (by omega) (n_lo _) (n_hi _) fun M41 IM41 fM41 UM41 => ?_
          have FM41 := Fr.pu FM23 UM41.1 kd_259 (rfl : List.contains [1, 4, 27, 28, 29, 30] 29 = true)
          refine PW.aload_n q_27_95 rfl ?_
          refine PW.gR 259 q_27_96 (Or.inl t_ft_27_19) gF_4_10 kd_256 IM41.1 (by decide) rfl ?_
          refine PW.aload_n q_27_99 rfl ?_
          refine PW.gE q_27_100 (Or.inl t_ft_27_67) gF_4_6 kd_256 IM41.1 (by decide) ((congrArg (fun e => o_f e 6) (UM41.1 _ (g_ne kd_256 kd_259 (by decide)))).trans ((congrArg (fun e => o_f e 6) (Fr.at GM23 kd_256 (by decide))).trans ((congrArg (fun e => o_f e 6) (UM17.1 _ (g_ne kd_256 kd_258 (by decide)))).trans ((congrArg (fun e => o_f e 6) (Fr.at GM15 kd_256 (by decide))).trans ((congrArg (fun e => o_f e 6) (Fr.at GM13 kd_256 (by decide))).trans ((congrArg (fun e => o_f e 6) (UM12.1 _ (g_ne kd_256 kd_257 (by decide)))).trans ((congrArg (fun e => o_f e 6) (Fr.at GM4 kd_256 (by decide))).trans ((congrArg (fun e => o_f e 6) (Fr.at GM3 kd_256 (by decide))).trans fw256_6)))))))) ?_
          refine PW.aH q_27_103 gA_29 kd_259 IM41.1 (by decide) (by omega) (by omega) fun x42 fx42 => ?_
          have ezx42 : x42.toInt = x24.toInt := by rw [← fx42, fM41]
          refine PW.cI q_27_104 (by decide) fun c43 hc43 => ?_
          refine PW.jc_ne q_27_105 rfl (fun h44 => False.elim (by omega)) (fun h44 => ?_)
          refine PW.cI q_27_108 (by decide) fun c45 hc45 => ?_
          refine PW.rZ q_27_109 rfl (by omega) (by omega) (by decide) (by decide) ?_
          have e : k_walker y A i = (k_nr y (i + 3) 0 9, kP y (i + 3), A, i) := by unfold k_walker; rw [if_neg (by omega), if_neg (by omega), if_neg (by omega), if_neg (by omega), if_pos (by omega)]
          have g10 : o_i (M41 1) 10 = o_i (M23 1) 10 := congrArg (fun e => o_i e 10) (UM41.1 _ (g_ne kd_1 kd_259 (by decide)))
          have g11 : o_i (M41 1) 11 = o_i (M23 1) 11 := congrArg (fun e => o_i e 11) (UM41.1 _ (g_ne kd_1 kd_259 (by decide)))
          exact hK c45 M41 IM41 FM41 (by omega) (by omega) (by rw [e]; exact Or.inr ⟨by omega, (by omega : (k_nr y (i + 3) 0 9 : Int) ≠ 0), (by omega : o_i (M41 1) 10 = k_nr y (i + 3) 0 9), (by omega : o_i (M41 1) 11 = kP y (i + 3))⟩) ((((((((gWk.refl.fr GM3 (by decide)).tr TM4).ar UM12.1 (by decide)).fr GM13 (by decide)).fr GM15 (by decide)).ar UM17.1 (by decide)).fr GM23 (by decide)).ar UM41.1 (by decide))
      · skip
        refine PW.wI q_27_63 gA_28 kd_258 hV IM15 (by decide) rfl gC_28_0_5 (by decide) (by omega) (by omega) (n_lo _) (n_hi _) fun M46 IM46 fM46 UM46 => ?_
        have FM46 := Fr.pu FM15 UM46.1 kd_258 (rfl : List.contains [1, 4, 27, 28, 29, 30] 28 = true)
        refine PW.aload_n q_27_64 rfl ?_
        refine PW.gR 258 q_27_65 (Or.inl t_ft_27_15) gF_4_9 kd_256 IM46.1 (by decide) rfl ?_
        refine PW.aload_n q_27_68 rfl ?_
        refine PW.gE q_27_69 (Or.inl t_ft_27_67) gF_4_6 kd_256 IM46.1 (by decide) ((congrArg (fun e => o_f e 6) (UM46.1 _ (g_ne kd_256 kd_258 (by decide)))).trans ((congrArg (fun e => o_f e 6) (Fr.at GM15 kd_256 (by decide))).trans ((congrArg (fun e => o_f e 6) (Fr.at GM13 kd_256 (by decide))).trans ((congrArg (fun e => o_f e 6) (UM12.1 _ (g_ne kd_256 kd_257 (by decide)))).trans ((congrArg (fun e => o_f e 6) (Fr.at GM4 kd_256 (by decide))).trans ((congrArg (fun e => o_f e 6) (Fr.at GM3 kd_256 (by decide))).trans fw256_6)))))) ?_
        refine PW.aH q_27_72 gA_28 kd_258 IM46.1 (by decide) (by omega) (by omega) fun x47 fx47 => ?_
        have ezx47 : x47.toInt = x16.toInt := by rw [← fx47, fM46]
        refine PW.cI q_27_73 (by decide) fun c48 hc48 => ?_
        refine PW.jc_ne q_27_74 rfl (fun h49 => False.elim (by omega)) (fun h49 => ?_)
        refine PW.cI q_27_77 (by decide) fun c50 hc50 => ?_
        refine PW.rZ q_27_78 rfl (by omega) (by omega) (by decide) (by decide) ?_
        have e : k_walker y A i = (k_nr y (i + 2) 0 (A.1 2), kP y (i + 2), A, i) := by unfold k_walker; rw [if_neg (by omega), if_neg (by omega), if_neg (by omega), if_pos (by omega)]
        have g10 : o_i (M46 1) 10 = o_i (M15 1) 10 := congrArg (fun e => o_i e 10) (UM46.1 _ (g_ne kd_1 kd_258 (by decide)))
        have g11 : o_i (M46 1) 11 = o_i (M15 1) 11 := congrArg (fun e => o_i e 11) (UM46.1 _ (g_ne kd_1 kd_258 (by decide)))
        exact hK c50 M46 IM46 FM46 (by omega) (by omega) (by rw [e]; exact Or.inr ⟨by omega, (by omega : (k_nr y (i + 2) 0 (A.1 2) : Int) ≠ 0), (by omega : o_i (M46 1) 10 = k_nr y (i + 2) 0 (A.1 2)), (by omega : o_i (M46 1) 11 = kP y (i + 2))⟩) ((((((gWk.refl.fr GM3 (by decide)).tr TM4).ar UM12.1 (by decide)).fr GM13 (by decide)).fr GM15 (by decide)).ar UM46.1 (by decide))
  · skip
    refine PW.aload_n q_27_9 rfl ?_
    refine PW.cI q_27_10 (by decide) fun c51 hc51 => ?_
    refine PW.cV (as := [_]) (rest := []) q_27_11 t_mv_27_137 kd_1 I.1 (by decide) rfl (by decide) rfl rfl (Nat.le_of_ble_eq_true rfl) (Nat.le_of_ble_eq_true rfl) (by decide) (by decide) ?_
    refine PW.up (by decide) (c_X7_fail_vk (V) (hV) G _ M I c51 _ i hp_0 fun x53 M52 IM52 GM52 hx53 kx53 PM52 => ?_)
    have FM52 := Fr.trans F GM52 (rfl)
    rcases PM52 with ⟨PfM52, PgM52⟩
    refine PW.rZ q_27_14 rfl (by omega) (by omega) (by decide) (by decide) ?_
    have e : k_walker y A i = (4, kP y i, A, i) := by unfold k_walker; rw [if_pos (by omega)]
    exact hK x53 M52 IM52 FM52 (by omega) (by omega) (by rw [e]; exact Or.inr ⟨by omega, (by omega : (4 : Int) ≠ 0), (by omega : o_i (M52 1) 10 = 4), (by omega : o_i (M52 1) 11 = kP y i)⟩) (gWk.refl.fr GM52 (by decide))
theorem c_X3_seenLaw_vk (V : pM → Prop) (hV : Stab V) (G : pG) (Kr : pK) (M : pM) (I : Iv V M) (y : k_X) (i : Nat) (hp_0 : k_at y M i) (hK : ∀ (x : Int32), -1 ≤ x.toInt → x.toInt ≤ 3 → (x.toInt = k_lw y i ∧ (x.toInt = -1 ∨ kK y i = 2)) → Kr.1 (some (.int x)) 311 M) : PW G false 1 30 (p_mc 30) (p_msl 30) Kr 0 (lv_args 0 [.ref 1]) [] 311 M 0 0 := by
  have F : Fr [] M M := Fr.refl
  refine PW.aload_n q_30_0 rfl ?_
  refine PW.gets q_30_1 t_st_30_175 ?_
  refine PW.cV (as := [_]) (rest := []) q_30_4 t_mv_30_100 kd_1 I.1 (by decide) rfl (by decide) rfl rfl (Nat.le_of_ble_eq_true rfl) (Nat.le_of_ble_eq_true rfl) (by decide) (by decide) ?_
  refine PW.up (by decide) (c_X7_sees_vk (V) (hV) G _ M I 6 (by decide) _ _ hp_0 fun x2  hx2 kx2 PM1 => ?_)
  rcases PM1 with ⟨PaM1, PbM1, PcM1⟩ | ⟨PaM1, PnM1⟩
  · skip
    refine PW.jz_eq q_30_7 rfl (fun h3 => False.elim (by omega)) (fun h3 => ?_)
    refine PW.cI q_30_10 (by decide) fun c4 hc4 => ?_
    refine PW.rI q_30_11 rfl (by decide) (by decide) ?_
    exact hK c4 (by omega) (by omega) ⟨by unfold k_lw; rw [if_pos ⟨PbM1, PcM1⟩]; omega, by omega⟩
  · skip
    refine PW.jz_eq q_30_7 rfl (fun h5 => ?_) (fun h5 => False.elim (by omega))
    refine PW.aload_n q_30_12 rfl ?_
    refine PW.gets q_30_13 t_st_30_178 ?_
    refine PW.cV (as := [_]) (rest := []) q_30_16 t_mv_30_100 kd_1 I.1 (by decide) rfl (by decide) rfl rfl (Nat.le_of_ble_eq_true rfl) (Nat.le_of_ble_eq_true rfl) (by decide) (by decide) ?_
    refine PW.up (by decide) (c_X7_sees_vk (V) (hV) G _ M I 7 (by decide) _ _ hp_0 fun x7  hx7 kx7 PM6 => ?_)
    rcases PM6 with ⟨PaM6, PbM6, PcM6⟩ | ⟨PaM6, PnM6⟩
    · skip
      refine PW.jz_eq q_30_19 rfl (fun h8 => False.elim (by omega)) (fun h8 => ?_)
      refine PW.cI q_30_22 (by decide) fun c9 hc9 => ?_
      refine PW.rI q_30_23 rfl (by decide) (by decide) ?_
      exact hK c9 (by omega) (by omega) ⟨by unfold k_lw; rw [if_neg PnM1, if_pos ⟨PbM6, PcM6⟩]; omega, by omega⟩
    · skip
      refine PW.jz_eq q_30_19 rfl (fun h10 => ?_) (fun h10 => False.elim (by omega))
      refine PW.aload_n q_30_24 rfl ?_
      refine PW.gets q_30_25 t_st_30_181 ?_
      refine PW.cV (as := [_]) (rest := []) q_30_28 t_mv_30_100 kd_1 I.1 (by decide) rfl (by decide) rfl rfl (Nat.le_of_ble_eq_true rfl) (Nat.le_of_ble_eq_true rfl) (by decide) (by decide) ?_
      refine PW.up (by decide) (c_X7_sees_vk (V) (hV) G _ M I 8 (by decide) _ _ hp_0 fun x12  hx12 kx12 PM11 => ?_)
      rcases PM11 with ⟨PaM11, PbM11, PcM11⟩ | ⟨PaM11, PnM11⟩
      · skip
        refine PW.jz_eq q_30_31 rfl (fun h13 => False.elim (by omega)) (fun h13 => ?_)
        refine PW.cI q_30_34 (by decide) fun c14 hc14 => ?_
        refine PW.rI q_30_35 rfl (by decide) (by decide) ?_
        exact hK c14 (by omega) (by omega) ⟨by unfold k_lw; rw [if_neg PnM1, if_neg PnM6, if_pos ⟨PbM11, PcM11⟩]; omega, by omega⟩
      · skip
        refine PW.jz_eq q_30_31 rfl (fun h15 => ?_) (fun h15 => False.elim (by omega))
        refine PW.aload_n q_30_36 rfl ?_
        refine PW.gets q_30_37 t_st_30_184 ?_
        refine PW.cV (as := [_]) (rest := []) q_30_40 t_mv_30_100 kd_1 I.1 (by decide) rfl (by decide) rfl rfl (Nat.le_of_ble_eq_true rfl) (Nat.le_of_ble_eq_true rfl) (by decide) (by decide) ?_
        refine PW.up (by decide) (c_X7_sees_vk (V) (hV) G _ M I 9 (by decide) _ _ hp_0 fun x17  hx17 kx17 PM16 => ?_)
        rcases PM16 with ⟨PaM16, PbM16, PcM16⟩ | ⟨PaM16, PnM16⟩
        · skip
          refine PW.jz_eq q_30_43 rfl (fun h18 => False.elim (by omega)) (fun h18 => ?_)
          refine PW.cI q_30_46 (by decide) fun c19 hc19 => ?_
          refine PW.goto q_30_47 rfl ?_
          refine PW.rI q_30_51 rfl (by decide) (by decide) ?_
          exact hK c19 (by omega) (by omega) ⟨by unfold k_lw; rw [if_neg PnM1, if_neg PnM6, if_neg PnM11, if_pos ⟨PbM16, PcM16⟩]; omega, by omega⟩
        · skip
          refine PW.jz_eq q_30_43 rfl (fun h20 => ?_) (fun h20 => False.elim (by omega))
          refine PW.cI q_30_50 (by decide) fun c21 hc21 => ?_
          refine PW.rI q_30_51 rfl (by decide) (by decide) ?_
          exact hK c21 (by omega) (by omega) ⟨by unfold k_lw; rw [if_neg PnM1, if_neg PnM6, if_neg PnM11, if_neg PnM16]; omega, by omega⟩
set_option maxHeartbeats 10000000 in
theorem c_X3_readDog_vk (G : pG) (Kr : pK) (M : pM) (I : Iv gTS M) (y : k_X) (i : Nat) (A : k_A) (hp_0 : k_at y M i) (hp_1 : k_cp M A) (hp_2 : kK y i = 2) (hK : ∀ (x : Int32) (M1 : pM), Iv gTS M1 → Fr [1, 4, 31, 32, 33, 34, 35, 36] M M1 → 0 ≤ x.toInt → x.toInt ≤ 1 → (k_cq y (k_dog y A i) x M1) → (gWk M M1) → Kr.1 (some (.int x)) 311 M1) : PW G false 4 29 (p_mc 29) (p_msl 29) Kr 0 (lv_args 0 [.ref 256, .ref 1]) [] 311 M 0 0 := by
  have F : Fr [1, 4, 31, 32, 33, 34, 35, 36] M M := Fr.refl
  obtain ⟨kc0, kc1, kc2, kc3, kc4, kc5, kc6, kc7, kc8, kc9, kc10, kc11⟩ := id hp_1
  obtain ⟨w256_0, fw256_0, hw256_0, kw256_0⟩ := gF_4_0.int kd_256 I.1 (by decide)
  have iw256_0 := o_i_of fw256_0
  have jw256_0 : w256_0.toInt = A.1 5 := by have w := kc0; omega
  obtain ⟨w256_1, fw256_1, hw256_1, kw256_1⟩ := gF_4_1.int kd_256 I.1 (by decide)
  have iw256_1 := o_i_of fw256_1
  have jw256_1 : w256_1.toInt = A.1 2 := by have w := kc1; omega
  obtain ⟨w256_2, fw256_2, hw256_2, kw256_2⟩ := gF_4_2.int kd_256 I.1 (by decide)
  have iw256_2 := o_i_of fw256_2
  have jw256_2 : w256_2.toInt = A.1 3 := by have w := kc2; omega
  obtain ⟨w256_3, fw256_3, hw256_3, kw256_3⟩ := gF_4_3.int kd_256 I.1 (by decide)
  have iw256_3 := o_i_of fw256_3
  have jw256_3 : w256_3.toInt = A.1 4 := by have w := kc3; omega
  obtain ⟨w256_4, fw256_4, hw256_4, kw256_4⟩ := gF_4_4.int kd_256 I.1 (by decide)
  have iw256_4 := o_i_of fw256_4
  have jw256_4 : w256_4.toInt = A.1 6 := by have w := kc4; omega
  obtain ⟨w256_5, fw256_5, hw256_5, kw256_5⟩ := gF_4_5.int kd_256 I.1 (by decide)
  have iw256_5 := o_i_of fw256_5
  have jw256_5 : w256_5.toInt = A.1 7 := by have w := kc5; omega
  obtain ⟨w256_6, fw256_6, hw256_6, kw256_6⟩ := gF_4_6.int kd_256 I.1 (by decide)
  have iw256_6 := o_i_of fw256_6
  have jw256_6 : w256_6.toInt = A.1 0 := by have w := kc6; omega
  obtain ⟨w256_7, fw256_7, hw256_7, kw256_7⟩ := gF_4_7.int kd_256 I.1 (by decide)
  have iw256_7 := o_i_of fw256_7
  have jw256_7 : w256_7.toInt = A.1 1 := by have w := kc7; omega
  refine PW.aload_n q_29_0 rfl ?_
  refine PW.gE q_29_1 (Or.inl t_ft_29_70) gF_4_7 kd_256 I.1 (by decide) fw256_7 ?_
  refine PW.cI q_29_4 (by decide) fun c1 hc1 => ?_
  refine PW.jc_lt q_29_5 rfl (fun h2 => ?_) (fun h2 => ?_)
  · skip
    refine PW.aload_n q_29_14 rfl ?_
    refine PW.cV (as := []) (rest := []) q_29_15 t_mv_29_140 kd_1 I.1 (by decide) rfl (by decide) rfl rfl (Nat.le_of_ble_eq_true rfl) (Nat.le_of_ble_eq_true rfl) (by decide) (by decide) ?_
    refine PW.up (by decide) (c_X7_advance_vk (gTS) (StabS) G _ M I _ (i + 1) (k_at.nx hp_0 (by omega)) fun M3 IM3 GM3 PM3 => ?_)
    have FM3 := Fr.trans F GM3 (rfl)
    have PtM3 := PM3
    refine PW.aload_n q_29_18 rfl ?_
    refine PW.aload_n q_29_19 rfl ?_
    refine PW.cV (as := [_]) (rest := []) q_29_20 t_mv_29_147 kd_256 IM3.1 (by decide) rfl (by decide) rfl rfl (Nat.le_of_ble_eq_true rfl) (Nat.le_of_ble_eq_true rfl) (by decide) (by decide) ?_
    refine PW.up (by decide) (c_X3_seesNewName_vk (gTS) (StabS) G _ M3 IM3 _ (i + 1) _ PtM3 (hp_1.cg (Fr.at GM3 kd_256 (by decide)) (Fr.at GM3 kd_257 (by decide)) (Fr.at GM3 kd_261 (by decide)) (Fr.at GM3 kd_266 (by decide)) (Fr.at GM3 kd_265 (by decide))) fun x5 M4 IM4 GM4 hx5 kx5 PM4 TM4 => ?_)
    have FM4 := Fr.trans FM3 GM4 (rfl)
    rcases PM4 with ⟨PaM4, PbM4, PfM4, PgM4⟩ | ⟨PaM4, PbM4, PcM4, PfM4, PgM4⟩ | ⟨PaM4, PbM4, PcM4, PdM4, PtM4⟩
    · skip
      refine PW.jz_ne q_29_23 rfl (fun h6 => False.elim (by omega)) (fun h6 => ?_)
      refine PW.cI q_29_26 (by decide) fun c7 hc7 => ?_
      refine PW.rZ q_29_27 rfl (by omega) (by omega) (by decide) (by decide) ?_
      have e : k_dog y A i = (1, kP y (i + 1), A, i) := by unfold k_dog; rw [if_neg (by omega), if_pos (by omega)]
      exact hK c7 M4 IM4 FM4 (by omega) (by omega) (by rw [e]; exact Or.inr ⟨by omega, (by omega : (1 : Int) ≠ 0), (by omega : o_i (M4 1) 10 = 1), (by omega : o_i (M4 1) 11 = kP y (i + 1))⟩) ((gWk.refl.fr GM3 (by decide)).tr TM4)
    · skip
      refine PW.jz_ne q_29_23 rfl (fun h8 => False.elim (by omega)) (fun h8 => ?_)
      refine PW.cI q_29_26 (by decide) fun c9 hc9 => ?_
      refine PW.rZ q_29_27 rfl (by omega) (by omega) (by decide) (by decide) ?_
      have e : k_dog y A i = (3, kP y (i + 1), A, i) := by unfold k_dog; rw [if_neg (by omega), if_neg (by omega), if_pos (by omega)]
      exact hK c9 M4 IM4 FM4 (by omega) (by omega) (by rw [e]; exact Or.inr ⟨by omega, (by omega : (3 : Int) ≠ 0), (by omega : o_i (M4 1) 10 = 3), (by omega : o_i (M4 1) 11 = kP y (i + 1))⟩) ((gWk.refl.fr GM3 (by decide)).tr TM4)
    · skip
      have nkM4 := k_nam PtM4
      have nM4 := k_nam PtM4
      refine PW.jz_ne q_29_23 rfl (fun h10 => ?_) (fun h10 => False.elim (by omega))
      refine PW.aload_n q_29_28 rfl ?_
      refine PW.gR 261 q_29_29 (Or.inl t_ft_29_26) gF_4_12 kd_256 IM4.1 (by decide) rfl ?_
      refine PW.aload_n q_29_32 rfl ?_
      refine PW.gE q_29_33 (Or.inl t_ft_29_70) gF_4_7 kd_256 IM4.1 (by decide) ((congrArg (fun e => o_f e 7) (Fr.at GM4 kd_256 (by decide))).trans ((congrArg (fun e => o_f e 7) (Fr.at GM3 kd_256 (by decide))).trans fw256_7)) ?_
      refine PW.aload_n q_29_36 rfl ?_
      refine PW.gL q_29_37 (Or.inr t_fN_29_150) gF_1_7 kd_1 IM4.1 (by decide) fun l11 fl11 => ?_
      have eJ := o_J_of fl11
      refine PW.wLX q_29_40 rfl kd_261 StabS IM4 (by decide) rfl (by omega) (by omega) fun M12 IM12 fM12 UM12 => ?_
      have FM12 := Fr.pu FM4 UM12.1 kd_261 (rfl : List.contains [1, 4, 31, 32, 33, 34, 35, 36] 31 = true)
      refine PW.aload_n q_29_41 rfl ?_
      refine PW.cV (as := []) (rest := []) q_29_42 t_mv_29_140 kd_1 IM12.1 (by decide) rfl (by decide) rfl rfl (Nat.le_of_ble_eq_true rfl) (Nat.le_of_ble_eq_true rfl) (by decide) (by decide) ?_
      refine PW.up (by decide) (c_X7_advance_vk (gTS) (StabS) G _ M12 IM12 _ (i + 2) (k_at.nx (PtM4.cg (UM12.1 _ (g_ne kd_1 kd_261 (by decide))) (UM12.1 _ (g_ne kd_2 kd_261 (by decide)))) (by omega)) fun M13 IM13 GM13 PM13 => ?_)
      have FM13 := Fr.trans FM12 GM13 (rfl)
      have PtM13 := PM13
      refine PW.aload_n q_29_45 rfl ?_
      refine PW.gR 262 q_29_46 (Or.inl t_ft_29_29) gF_4_13 kd_256 IM13.1 (by decide) rfl ?_
      refine PW.aload_n q_29_49 rfl ?_
      refine PW.gE q_29_50 (Or.inl t_ft_29_70) gF_4_7 kd_256 IM13.1 (by decide) ((congrArg (fun e => o_f e 7) (Fr.at GM13 kd_256 (by decide))).trans ((congrArg (fun e => o_f e 7) (UM12.1 _ (g_ne kd_256 kd_261 (by decide)))).trans ((congrArg (fun e => o_f e 7) (Fr.at GM4 kd_256 (by decide))).trans ((congrArg (fun e => o_f e 7) (Fr.at GM3 kd_256 (by decide))).trans fw256_7)))) ?_
      refine PW.aload_n q_29_53 rfl ?_
      refine PW.aload_n q_29_54 rfl ?_
      refine PW.gR 257 q_29_55 (Or.inl t_ft_29_9) gF_4_8 kd_256 IM13.1 (by decide) rfl ?_
      refine PW.aload_n q_29_58 rfl ?_
      refine PW.gE q_29_59 (Or.inl t_ft_29_67) gF_4_6 kd_256 IM13.1 (by decide) ((congrArg (fun e => o_f e 6) (Fr.at GM13 kd_256 (by decide))).trans ((congrArg (fun e => o_f e 6) (UM12.1 _ (g_ne kd_256 kd_261 (by decide)))).trans ((congrArg (fun e => o_f e 6) (Fr.at GM4 kd_256 (by decide))).trans ((congrArg (fun e => o_f e 6) (Fr.at GM3 kd_256 (by decide))).trans fw256_6)))) ?_
      refine PW.cV (as := [_, _]) (rest := [_, _]) q_29_62 t_mv_29_167 kd_1 IM13.1 (by decide) rfl (by decide) rfl rfl (Nat.le_of_ble_eq_true rfl) (Nat.le_of_ble_eq_true rfl) (by decide) (by decide) ?_
      refine PW.up (by decide) (c_X7_needsKnown_vk (gTS) (StabS) G _ M13 IM13 257 kd_257 w256_6 (by omega) (by omega) _ (i + 2) A.2.1 (A.1 0) PtM13 (fun j hj => by rw [((Fr.at GM13 kd_257 (by decide)).trans ((UM12.1 _ (g_ne kd_257 kd_261 (by decide))).trans ((Fr.at GM4 kd_257 (by decide)).trans (Fr.at GM3 kd_257 (by decide)))))]; exact kc8 j hj) (by omega) fun x15 M14 IM14 GM14 hx15 kx15 PM14 => ?_)
      have FM14 := Fr.trans FM13 GM14 (rfl)
      rcases PM14 with ⟨PaM14, PbM14, PfM14, PgM14⟩ | ⟨PaM14, PbM14, PcM14, PfM14, PgM14⟩ | ⟨PaM14, PbM14, PcM14, PtM14⟩
      · skip
        have hdM16 := o_i_of ((congrArg (fun e => o_f e 7) (Fr.at GM14 kd_256 (by decide))).trans ((congrArg (fun e => o_f e 7) (Fr.at GM13 kd_256 (by decide))).trans ((congrArg (fun e => o_f e 7) (UM12.1 _ (g_ne kd_256 kd_261 (by decide)))).trans ((congrArg (fun e => o_f e 7) (Fr.at GM4 kd_256 (by decide))).trans ((congrArg (fun e => o_f e 7) (Fr.at GM3 kd_256 (by decide))).trans fw256_7)))))
        refine PW.wB q_29_65 gA_32 kd_262 IM14.1 (by decide) (by omega) (by omega) ⟨by show (-1 : Int) ≤ _; omega, by show _ ≤ (5 : Int); omega⟩ fun M16 JM16 fM16 UM16 => ?_
        have IM16 : Iv gTS M16 := ⟨JM16, gAT UM16.1 kd_262 (by decide) rfl IM14.2.1, gS1.arr IM14.2.2 UM16 (by omega)⟩
        have FM16 := Fr.pu FM14 UM16.1 kd_262 (rfl : List.contains [1, 4, 31, 32, 33, 34, 35, 36] 32 = true)
        refine PW.aload_n q_29_66 rfl ?_
        refine PW.gR 262 q_29_67 (Or.inl t_ft_29_29) gF_4_13 kd_256 IM16.1 (by decide) rfl ?_
        refine PW.aload_n q_29_70 rfl ?_
        refine PW.gE q_29_71 (Or.inl t_ft_29_70) gF_4_7 kd_256 IM16.1 (by decide) ((congrArg (fun e => o_f e 7) (UM16.1 _ (g_ne kd_256 kd_262 (by decide)))).trans ((congrArg (fun e => o_f e 7) (Fr.at GM14 kd_256 (by decide))).trans ((congrArg (fun e => o_f e 7) (Fr.at GM13 kd_256 (by decide))).trans ((congrArg (fun e => o_f e 7) (UM12.1 _ (g_ne kd_256 kd_261 (by decide)))).trans ((congrArg (fun e => o_f e 7) (Fr.at GM4 kd_256 (by decide))).trans ((congrArg (fun e => o_f e 7) (Fr.at GM3 kd_256 (by decide))).trans fw256_7)))))) ?_
        refine PW.aI q_29_74 gA_32 kd_262 IM16.1 (by decide) gB_32_0_1 (by decide) (by omega) (by omega) fun x17 fx17 hx17 kx17 => ?_
        have ezx17 : x17.toInt = x15.toInt := by rw [← fx17, fM16]
        refine PW.cI q_29_75 (by decide) fun c18 hc18 => ?_
        refine PW.jc_ne q_29_76 rfl (fun h19 => False.elim (by omega)) (fun h19 => ?_)
        refine PW.cI q_29_79 (by decide) fun c20 hc20 => ?_
        refine PW.rZ q_29_80 rfl (by omega) (by omega) (by decide) (by decide) ?_
        have e : k_dog y A i = (1, kP y (i + 2), A, i) := by unfold k_dog; rw [if_neg (by omega), if_neg (by omega), if_neg (by omega), if_pos (by omega)]
        have g10 : o_i (M16 1) 10 = o_i (M14 1) 10 := congrArg (fun e => o_i e 10) (UM16.1 _ (g_ne kd_1 kd_262 (by decide)))
        have g11 : o_i (M16 1) 11 = o_i (M14 1) 11 := congrArg (fun e => o_i e 11) (UM16.1 _ (g_ne kd_1 kd_262 (by decide)))
        exact hK c20 M16 IM16 FM16 (by omega) (by omega) (by rw [e]; exact Or.inr ⟨by omega, (by omega : (1 : Int) ≠ 0), (by omega : o_i (M16 1) 10 = 1), (by omega : o_i (M16 1) 11 = kP y (i + 2))⟩) ((((((gWk.refl.fr GM3 (by decide)).tr TM4).ar UM12.1 (by decide)).fr GM13 (by decide)).fr GM14 (by decide)).ar UM16.1 (by decide))
      · skip
        have hdM21 := o_i_of ((congrArg (fun e => o_f e 7) (Fr.at GM14 kd_256 (by decide))).trans ((congrArg (fun e => o_f e 7) (Fr.at GM13 kd_256 (by decide))).trans ((congrArg (fun e => o_f e 7) (UM12.1 _ (g_ne kd_256 kd_261 (by decide)))).trans ((congrArg (fun e => o_f e 7) (Fr.at GM4 kd_256 (by decide))).trans ((congrArg (fun e => o_f e 7) (Fr.at GM3 kd_256 (by decide))).trans fw256_7)))))
        refine PW.wB q_29_65 gA_32 kd_262 IM14.1 (by decide) (by omega) (by omega) ⟨by show (-1 : Int) ≤ _; omega, by show _ ≤ (5 : Int); omega⟩ fun M21 JM21 fM21 UM21 => ?_
        have IM21 : Iv gTS M21 := ⟨JM21, gAT UM21.1 kd_262 (by decide) rfl IM14.2.1, gS1.arr IM14.2.2 UM21 (by omega)⟩
        have FM21 := Fr.pu FM14 UM21.1 kd_262 (rfl : List.contains [1, 4, 31, 32, 33, 34, 35, 36] 32 = true)
        refine PW.aload_n q_29_66 rfl ?_
        refine PW.gR 262 q_29_67 (Or.inl t_ft_29_29) gF_4_13 kd_256 IM21.1 (by decide) rfl ?_
        refine PW.aload_n q_29_70 rfl ?_
        refine PW.gE q_29_71 (Or.inl t_ft_29_70) gF_4_7 kd_256 IM21.1 (by decide) ((congrArg (fun e => o_f e 7) (UM21.1 _ (g_ne kd_256 kd_262 (by decide)))).trans ((congrArg (fun e => o_f e 7) (Fr.at GM14 kd_256 (by decide))).trans ((congrArg (fun e => o_f e 7) (Fr.at GM13 kd_256 (by decide))).trans ((congrArg (fun e => o_f e 7) (UM12.1 _ (g_ne kd_256 kd_261 (by decide)))).trans ((congrArg (fun e => o_f e 7) (Fr.at GM4 kd_256 (by decide))).trans ((congrArg (fun e => o_f e 7) (Fr.at GM3 kd_256 (by decide))).trans fw256_7)))))) ?_
        refine PW.aI q_29_74 gA_32 kd_262 IM21.1 (by decide) gB_32_0_1 (by decide) (by omega) (by omega) fun x22 fx22 hx22 kx22 => ?_
        have ezx22 : x22.toInt = x15.toInt := by rw [← fx22, fM21]
        refine PW.cI q_29_75 (by decide) fun c23 hc23 => ?_
        refine PW.jc_ne q_29_76 rfl (fun h24 => False.elim (by omega)) (fun h24 => ?_)
        refine PW.cI q_29_79 (by decide) fun c25 hc25 => ?_
        refine PW.rZ q_29_80 rfl (by omega) (by omega) (by decide) (by decide) ?_
        have e : k_dog y A i = (3, kP y (i + 2), A, i) := by unfold k_dog; rw [if_neg (by omega), if_neg (by omega), if_neg (by omega), if_neg (by omega), if_pos (by omega)]
        have g10 : o_i (M21 1) 10 = o_i (M14 1) 10 := congrArg (fun e => o_i e 10) (UM21.1 _ (g_ne kd_1 kd_262 (by decide)))
        have g11 : o_i (M21 1) 11 = o_i (M14 1) 11 := congrArg (fun e => o_i e 11) (UM21.1 _ (g_ne kd_1 kd_262 (by decide)))
        exact hK c25 M21 IM21 FM21 (by omega) (by omega) (by rw [e]; exact Or.inr ⟨by omega, (by omega : (3 : Int) ≠ 0), (by omega : o_i (M21 1) 10 = 3), (by omega : o_i (M21 1) 11 = kP y (i + 2))⟩) ((((((gWk.refl.fr GM3 (by decide)).tr TM4).ar UM12.1 (by decide)).fr GM13 (by decide)).fr GM14 (by decide)).ar UM21.1 (by decide))
      · skip
        have nkM14 := k_nam PtM14
        have hdM26 := o_i_of ((congrArg (fun e => o_f e 7) (Fr.at GM14 kd_256 (by decide))).trans ((congrArg (fun e => o_f e 7) (Fr.at GM13 kd_256 (by decide))).trans ((congrArg (fun e => o_f e 7) (UM12.1 _ (g_ne kd_256 kd_261 (by decide)))).trans ((congrArg (fun e => o_f e 7) (Fr.at GM4 kd_256 (by decide))).trans ((congrArg (fun e => o_f e 7) (Fr.at GM3 kd_256 (by decide))).trans fw256_7)))))
        refine PW.wB q_29_65 gA_32 kd_262 IM14.1 (by decide) (by omega) (by omega) ⟨by show (-1 : Int) ≤ _; omega, by show _ ≤ (5 : Int); omega⟩ fun M26 JM26 fM26 UM26 => ?_
        have IM26 : Iv gTS M26 := ⟨JM26, gAT UM26.1 kd_262 (by decide) rfl IM14.2.1, gS1.arr IM14.2.2 UM26 (by omega)⟩
        have FM26 := Fr.pu FM14 UM26.1 kd_262 (rfl : List.contains [1, 4, 31, 32, 33, 34, 35, 36] 32 = true)
        refine PW.aload_n q_29_66 rfl ?_
        refine PW.gR 262 q_29_67 (Or.inl t_ft_29_29) gF_4_13 kd_256 IM26.1 (by decide) rfl ?_
        refine PW.aload_n q_29_70 rfl ?_
        refine PW.gE q_29_71 (Or.inl t_ft_29_70) gF_4_7 kd_256 IM26.1 (by decide) ((congrArg (fun e => o_f e 7) (UM26.1 _ (g_ne kd_256 kd_262 (by decide)))).trans ((congrArg (fun e => o_f e 7) (Fr.at GM14 kd_256 (by decide))).trans ((congrArg (fun e => o_f e 7) (Fr.at GM13 kd_256 (by decide))).trans ((congrArg (fun e => o_f e 7) (UM12.1 _ (g_ne kd_256 kd_261 (by decide)))).trans ((congrArg (fun e => o_f e 7) (Fr.at GM4 kd_256 (by decide))).trans ((congrArg (fun e => o_f e 7) (Fr.at GM3 kd_256 (by decide))).trans fw256_7)))))) ?_
        refine PW.aI q_29_74 gA_32 kd_262 IM26.1 (by decide) gB_32_0_1 (by decide) (by omega) (by omega) fun x27 fx27 hx27 kx27 => ?_
        have ezx27 : x27.toInt = x15.toInt := by rw [← fx27, fM26]
        refine PW.cI q_29_75 (by decide) fun c28 hc28 => ?_
        refine PW.jc_ne q_29_76 rfl (fun h29 => ?_) (fun h29 => False.elim (by omega))
        refine PW.aload_n q_29_81 rfl ?_
        refine PW.cV (as := []) (rest := []) q_29_82 t_mv_29_140 kd_1 IM26.1 (by decide) rfl (by decide) rfl rfl (Nat.le_of_ble_eq_true rfl) (Nat.le_of_ble_eq_true rfl) (by decide) (by decide) ?_
        refine PW.up (by decide) (c_X7_advance_vk (gTS) (StabS) G _ M26 IM26 _ (i + 3) (k_at.nx (PtM14.cg (UM26.1 _ (g_ne kd_1 kd_262 (by decide))) (UM26.1 _ (g_ne kd_2 kd_262 (by decide)))) (by omega)) fun M30 IM30 GM30 PM30 => ?_)
        have FM30 := Fr.trans FM26 GM30 (rfl)
        have PtM30 := PM30
        refine PW.aload_n q_29_85 rfl ?_
        refine PW.gR 263 q_29_86 (Or.inl t_ft_29_32) gF_4_14 kd_256 IM30.1 (by decide) rfl ?_
        refine PW.aload_n q_29_89 rfl ?_
        refine PW.gE q_29_90 (Or.inl t_ft_29_70) gF_4_7 kd_256 IM30.1 (by decide) ((congrArg (fun e => o_f e 7) (Fr.at GM30 kd_256 (by decide))).trans ((congrArg (fun e => o_f e 7) (UM26.1 _ (g_ne kd_256 kd_262 (by decide)))).trans ((congrArg (fun e => o_f e 7) (Fr.at GM14 kd_256 (by decide))).trans ((congrArg (fun e => o_f e 7) (Fr.at GM13 kd_256 (by decide))).trans ((congrArg (fun e => o_f e 7) (UM12.1 _ (g_ne kd_256 kd_261 (by decide)))).trans ((congrArg (fun e => o_f e 7) (Fr.at GM4 kd_256 (by decide))).trans ((congrArg (fun e => o_f e 7) (Fr.at GM3 kd_256 (by decide))).trans fw256_7))))))) ?_
        refine PW.aload_n q_29_93 rfl ?_
        refine PW.cI q_29_94 (by decide) fun c31 hc31 => ?_
        refine PW.cB q_29_95 (by decide) fun c32 hc32 => ?_
        refine PW.cV (as := [_, _]) (rest := [_, _]) q_29_97 t_mv_29_143 kd_1 IM30.1 (by decide) rfl (by decide) rfl rfl (Nat.le_of_ble_eq_true rfl) (Nat.le_of_ble_eq_true rfl) (by decide) (by decide) ?_
        refine PW.up (by decide) (c_X7_needsNumber_vk (gTS) (StabS) G _ M30 IM30 c31 c32 _ (i + 3) 1 30 PtM30 (by omega) (by omega) fun x34 M33 IM33 GM33 PM33 => ?_)
        have FM33 := Fr.trans FM30 GM33 (rfl)
        rcases PM33 with ⟨PzM33, PvM33, PlM33, PhM33, PtM33⟩ | ⟨PzM33, PvM33, PfM33, PgM33⟩
        · skip
          refine PW.wI q_29_100 gA_33 kd_263 StabS IM33 (by decide) rfl gC_33_0_1 (by decide) (by omega) (by omega) (n_lo _) (n_hi _) fun M35 IM35 fM35 UM35 => ?_
          have FM35 := Fr.pu FM33 UM35.1 kd_263 (rfl : List.contains [1, 4, 31, 32, 33, 34, 35, 36] 33 = true)
          refine PW.aload_n q_29_101 rfl ?_
          refine PW.gR 263 q_29_102 (Or.inl t_ft_29_32) gF_4_14 kd_256 IM35.1 (by decide) rfl ?_
          refine PW.aload_n q_29_105 rfl ?_
          refine PW.gE q_29_106 (Or.inl t_ft_29_70) gF_4_7 kd_256 IM35.1 (by decide) ((congrArg (fun e => o_f e 7) (UM35.1 _ (g_ne kd_256 kd_263 (by decide)))).trans ((congrArg (fun e => o_f e 7) (Fr.at GM33 kd_256 (by decide))).trans ((congrArg (fun e => o_f e 7) (Fr.at GM30 kd_256 (by decide))).trans ((congrArg (fun e => o_f e 7) (UM26.1 _ (g_ne kd_256 kd_262 (by decide)))).trans ((congrArg (fun e => o_f e 7) (Fr.at GM14 kd_256 (by decide))).trans ((congrArg (fun e => o_f e 7) (Fr.at GM13 kd_256 (by decide))).trans ((congrArg (fun e => o_f e 7) (UM12.1 _ (g_ne kd_256 kd_261 (by decide)))).trans ((congrArg (fun e => o_f e 7) (Fr.at GM4 kd_256 (by decide))).trans ((congrArg (fun e => o_f e 7) (Fr.at GM3 kd_256 (by decide))).trans fw256_7))))))))) ?_
          refine PW.aH q_29_109 gA_33 kd_263 IM35.1 (by decide) (by omega) (by omega) fun x36 fx36 => ?_
          have ezx36 : x36.toInt = x34.toInt := by rw [← fx36, fM35]
          refine PW.cI q_29_110 (by decide) fun c37 hc37 => ?_
          refine PW.jc_ne q_29_111 rfl (fun h38 => ?_) (fun h38 => False.elim (by omega))
          refine PW.aload_n q_29_116 rfl ?_
          refine PW.gR 264 q_29_117 (Or.inl t_ft_29_35) gF_4_15 kd_256 IM35.1 (by decide) rfl ?_
          refine PW.aload_n q_29_120 rfl ?_
          refine PW.gE q_29_121 (Or.inl t_ft_29_70) gF_4_7 kd_256 IM35.1 (by decide) ((congrArg (fun e => o_f e 7) (UM35.1 _ (g_ne kd_256 kd_263 (by decide)))).trans ((congrArg (fun e => o_f e 7) (Fr.at GM33 kd_256 (by decide))).trans ((congrArg (fun e => o_f e 7) (Fr.at GM30 kd_256 (by decide))).trans ((congrArg (fun e => o_f e 7) (UM26.1 _ (g_ne kd_256 kd_262 (by decide)))).trans ((congrArg (fun e => o_f e 7) (Fr.at GM14 kd_256 (by decide))).trans ((congrArg (fun e => o_f e 7) (Fr.at GM13 kd_256 (by decide))).trans ((congrArg (fun e => o_f e 7) (UM12.1 _ (g_ne kd_256 kd_261 (by decide)))).trans ((congrArg (fun e => o_f e 7) (Fr.at GM4 kd_256 (by decide))).trans ((congrArg (fun e => o_f e 7) (Fr.at GM3 kd_256 (by decide))).trans fw256_7))))))))) ?_
          refine PW.aload_n q_29_124 rfl ?_
          refine PW.cI q_29_125 (by decide) fun c39 hc39 => ?_
          refine PW.cB q_29_126 (by decide) fun c40 hc40 => ?_
          refine PW.cV (as := [_, _]) (rest := [_, _]) q_29_128 t_mv_29_143 kd_1 IM35.1 (by decide) rfl (by decide) rfl rfl (Nat.le_of_ble_eq_true rfl) (Nat.le_of_ble_eq_true rfl) (by decide) (by decide) ?_
          refine PW.up (by decide) (c_X7_needsNumber_vk (gTS) (StabS) G _ M35 IM35 c39 c40 _ (i + 4) 0 9 (PtM33.cg (UM35.1 _ (g_ne kd_1 kd_263 (by decide))) (UM35.1 _ (g_ne kd_2 kd_263 (by decide)))) (by omega) (by omega) fun x42 M41 IM41 GM41 PM41 => ?_)
          have FM41 := Fr.trans FM35 GM41 (rfl)
          rcases PM41 with ⟨PzM41, PvM41, PlM41, PhM41, PtM41⟩ | ⟨PzM41, PvM41, PfM41, PgM41⟩
          · skip
            refine PW.wI q_29_131 gA_34 kd_264 StabS IM41 (by decide) rfl gC_34_0_1 (by decide) (by omega) (by omega) (n_lo _) (n_hi _) fun M43 IM43 fM43 UM43 => ?_
            have FM43 := Fr.pu FM41 UM43.1 kd_264 (rfl : List.contains [1, 4, 31, 32, 33, 34, 35, 36] 34 = true)
            refine PW.aload_n q_29_132 rfl ?_
            refine PW.gR 264 q_29_133 (Or.inl t_ft_29_35) gF_4_15 kd_256 IM43.1 (by decide) rfl ?_
            refine PW.aload_n q_29_136 rfl ?_
            refine PW.gE q_29_137 (Or.inl t_ft_29_70) gF_4_7 kd_256 IM43.1 (by decide) ((congrArg (fun e => o_f e 7) (UM43.1 _ (g_ne kd_256 kd_264 (by decide)))).trans ((congrArg (fun e => o_f e 7) (Fr.at GM41 kd_256 (by decide))).trans ((congrArg (fun e => o_f e 7) (UM35.1 _ (g_ne kd_256 kd_263 (by decide)))).trans ((congrArg (fun e => o_f e 7) (Fr.at GM33 kd_256 (by decide))).trans ((congrArg (fun e => o_f e 7) (Fr.at GM30 kd_256 (by decide))).trans ((congrArg (fun e => o_f e 7) (UM26.1 _ (g_ne kd_256 kd_262 (by decide)))).trans ((congrArg (fun e => o_f e 7) (Fr.at GM14 kd_256 (by decide))).trans ((congrArg (fun e => o_f e 7) (Fr.at GM13 kd_256 (by decide))).trans ((congrArg (fun e => o_f e 7) (UM12.1 _ (g_ne kd_256 kd_261 (by decide)))).trans ((congrArg (fun e => o_f e 7) (Fr.at GM4 kd_256 (by decide))).trans ((congrArg (fun e => o_f e 7) (Fr.at GM3 kd_256 (by decide))).trans fw256_7))))))))))) ?_
            refine PW.aH q_29_140 gA_34 kd_264 IM43.1 (by decide) (by omega) (by omega) fun x44 fx44 => ?_
            have ezx44 : x44.toInt = x42.toInt := by rw [← fx44, fM43]
            refine PW.cI q_29_141 (by decide) fun c45 hc45 => ?_
            refine PW.jc_ne q_29_142 rfl (fun h46 => ?_) (fun h46 => False.elim (by omega))
            refine PW.aload_n q_29_147 rfl ?_
            refine PW.gR 265 q_29_148 (Or.inl t_ft_29_38) gF_4_16 kd_256 IM43.1 (by decide) rfl ?_
            refine PW.aload_n q_29_151 rfl ?_
            refine PW.gE q_29_152 (Or.inl t_ft_29_70) gF_4_7 kd_256 IM43.1 (by decide) ((congrArg (fun e => o_f e 7) (UM43.1 _ (g_ne kd_256 kd_264 (by decide)))).trans ((congrArg (fun e => o_f e 7) (Fr.at GM41 kd_256 (by decide))).trans ((congrArg (fun e => o_f e 7) (UM35.1 _ (g_ne kd_256 kd_263 (by decide)))).trans ((congrArg (fun e => o_f e 7) (Fr.at GM33 kd_256 (by decide))).trans ((congrArg (fun e => o_f e 7) (Fr.at GM30 kd_256 (by decide))).trans ((congrArg (fun e => o_f e 7) (UM26.1 _ (g_ne kd_256 kd_262 (by decide)))).trans ((congrArg (fun e => o_f e 7) (Fr.at GM14 kd_256 (by decide))).trans ((congrArg (fun e => o_f e 7) (Fr.at GM13 kd_256 (by decide))).trans ((congrArg (fun e => o_f e 7) (UM12.1 _ (g_ne kd_256 kd_261 (by decide)))).trans ((congrArg (fun e => o_f e 7) (Fr.at GM4 kd_256 (by decide))).trans ((congrArg (fun e => o_f e 7) (Fr.at GM3 kd_256 (by decide))).trans fw256_7))))))))))) ?_
            refine PW.aload_n q_29_155 rfl ?_
            refine PW.callS (as := [_]) (rest := [_, _]) q_29_156 t_ms_29_171 (by decide) rfl (Nat.le_of_ble_eq_true rfl) (Nat.le_of_ble_eq_true rfl) (by decide) (by decide) ?_
            refine PW.up (by decide) (c_X3_seenLaw_vk (gTS) (StabS) G _ M43 IM43 _ (i + 5) (PtM41.cg (UM43.1 _ (g_ne kd_1 kd_264 (by decide))) (UM43.1 _ (g_ne kd_2 kd_264 (by decide)))) fun x48  hx48 kx48 PM47 => ?_)
            rcases PM47 with ⟨PlM47, PmM47⟩
            refine PW.wI q_29_159 gA_35 kd_265 StabS IM43 (by decide) rfl gC_35_0_1 (by decide) (by omega) (by omega) (n_lo _) (n_hi _) fun M49 IM49 fM49 UM49 => ?_
            have FM49 := Fr.pu FM43 UM49.1 kd_265 (rfl : List.contains [1, 4, 31, 32, 33, 34, 35, 36] 35 = true)
            refine PW.aload_n q_29_160 rfl ?_
            refine PW.gR 265 q_29_161 (Or.inl t_ft_29_38) gF_4_16 kd_256 IM49.1 (by decide) rfl ?_
            refine PW.aload_n q_29_164 rfl ?_
            refine PW.gE q_29_165 (Or.inl t_ft_29_70) gF_4_7 kd_256 IM49.1 (by decide) ((congrArg (fun e => o_f e 7) (UM49.1 _ (g_ne kd_256 kd_265 (by decide)))).trans ((congrArg (fun e => o_f e 7) (UM43.1 _ (g_ne kd_256 kd_264 (by decide)))).trans ((congrArg (fun e => o_f e 7) (Fr.at GM41 kd_256 (by decide))).trans ((congrArg (fun e => o_f e 7) (UM35.1 _ (g_ne kd_256 kd_263 (by decide)))).trans ((congrArg (fun e => o_f e 7) (Fr.at GM33 kd_256 (by decide))).trans ((congrArg (fun e => o_f e 7) (Fr.at GM30 kd_256 (by decide))).trans ((congrArg (fun e => o_f e 7) (UM26.1 _ (g_ne kd_256 kd_262 (by decide)))).trans ((congrArg (fun e => o_f e 7) (Fr.at GM14 kd_256 (by decide))).trans ((congrArg (fun e => o_f e 7) (Fr.at GM13 kd_256 (by decide))).trans ((congrArg (fun e => o_f e 7) (UM12.1 _ (g_ne kd_256 kd_261 (by decide)))).trans ((congrArg (fun e => o_f e 7) (Fr.at GM4 kd_256 (by decide))).trans ((congrArg (fun e => o_f e 7) (Fr.at GM3 kd_256 (by decide))).trans fw256_7)))))))))))) ?_
            refine PW.aH q_29_168 gA_35 kd_265 IM49.1 (by decide) (by omega) (by omega) fun x50 fx50 => ?_
            have ezx50 : x50.toInt = x48.toInt := by rw [← fx50, fM49]
            refine PW.cI q_29_169 (by decide) fun c51 hc51 => ?_
            refine PW.jc_ne q_29_170 rfl (fun h52 => ?_) (fun h52 => ?_)
            · skip
              refine PW.aload_n q_29_179 rfl ?_
              refine PW.cV (as := []) (rest := []) q_29_180 t_mv_29_140 kd_1 IM49.1 (by decide) rfl (by decide) rfl rfl (Nat.le_of_ble_eq_true rfl) (Nat.le_of_ble_eq_true rfl) (by decide) (by decide) ?_
              refine PW.up (by decide) (c_X7_advance_vk (gTS) (StabS) G _ M49 IM49 _ (i + 6) (k_at.nx (PtM41.cg ((UM49.1 _ (g_ne kd_1 kd_265 (by decide))).trans (UM43.1 _ (g_ne kd_1 kd_264 (by decide)))) ((UM49.1 _ (g_ne kd_2 kd_265 (by decide))).trans (UM43.1 _ (g_ne kd_2 kd_264 (by decide))))) (by omega)) fun M53 IM53 GM53 PM53 => ?_)
              have FM53 := Fr.trans FM49 GM53 (rfl)
              have PtM53 := PM53
              refine PW.aload_n q_29_183 rfl ?_
              refine PW.gR 266 q_29_184 (Or.inl t_ft_29_41) gF_4_17 kd_256 IM53.1 (by decide) rfl ?_
              refine PW.aload_n q_29_187 rfl ?_
              refine PW.gE q_29_188 (Or.inl t_ft_29_70) gF_4_7 kd_256 IM53.1 (by decide) ((congrArg (fun e => o_f e 7) (Fr.at GM53 kd_256 (by decide))).trans ((congrArg (fun e => o_f e 7) (UM49.1 _ (g_ne kd_256 kd_265 (by decide)))).trans ((congrArg (fun e => o_f e 7) (UM43.1 _ (g_ne kd_256 kd_264 (by decide)))).trans ((congrArg (fun e => o_f e 7) (Fr.at GM41 kd_256 (by decide))).trans ((congrArg (fun e => o_f e 7) (UM35.1 _ (g_ne kd_256 kd_263 (by decide)))).trans ((congrArg (fun e => o_f e 7) (Fr.at GM33 kd_256 (by decide))).trans ((congrArg (fun e => o_f e 7) (Fr.at GM30 kd_256 (by decide))).trans ((congrArg (fun e => o_f e 7) (UM26.1 _ (g_ne kd_256 kd_262 (by decide)))).trans ((congrArg (fun e => o_f e 7) (Fr.at GM14 kd_256 (by decide))).trans ((congrArg (fun e => o_f e 7) (Fr.at GM13 kd_256 (by decide))).trans ((congrArg (fun e => o_f e 7) (UM12.1 _ (g_ne kd_256 kd_261 (by decide)))).trans ((congrArg (fun e => o_f e 7) (Fr.at GM4 kd_256 (by decide))).trans ((congrArg (fun e => o_f e 7) (Fr.at GM3 kd_256 (by decide))).trans fw256_7))))))))))))) ?_
              refine PW.cI q_29_191 (by decide) fun c54 hc54 => ?_
              refine PW.wI q_29_192 gA_36 kd_266 StabS IM53 (by decide) rfl gC_36_0_1 (by decide) (by omega) (by omega) (n_lo _) (n_hi _) fun M55 IM55 fM55 UM55 => ?_
              have FM55 := Fr.pu FM53 UM55.1 kd_266 (rfl : List.contains [1, 4, 31, 32, 33, 34, 35, 36] 36 = true)
              refine PW.aload_n q_29_193 rfl ?_
              refine PW.dup q_29_194 rfl ?_
              refine PW.gE q_29_195 (Or.inl t_ft_29_70) gF_4_7 kd_256 IM55.1 (by decide) ((congrArg (fun e => o_f e 7) (UM55.1 _ (g_ne kd_256 kd_266 (by decide)))).trans ((congrArg (fun e => o_f e 7) (Fr.at GM53 kd_256 (by decide))).trans ((congrArg (fun e => o_f e 7) (UM49.1 _ (g_ne kd_256 kd_265 (by decide)))).trans ((congrArg (fun e => o_f e 7) (UM43.1 _ (g_ne kd_256 kd_264 (by decide)))).trans ((congrArg (fun e => o_f e 7) (Fr.at GM41 kd_256 (by decide))).trans ((congrArg (fun e => o_f e 7) (UM35.1 _ (g_ne kd_256 kd_263 (by decide)))).trans ((congrArg (fun e => o_f e 7) (Fr.at GM33 kd_256 (by decide))).trans ((congrArg (fun e => o_f e 7) (Fr.at GM30 kd_256 (by decide))).trans ((congrArg (fun e => o_f e 7) (UM26.1 _ (g_ne kd_256 kd_262 (by decide)))).trans ((congrArg (fun e => o_f e 7) (Fr.at GM14 kd_256 (by decide))).trans ((congrArg (fun e => o_f e 7) (Fr.at GM13 kd_256 (by decide))).trans ((congrArg (fun e => o_f e 7) (UM12.1 _ (g_ne kd_256 kd_261 (by decide)))).trans ((congrArg (fun e => o_f e 7) (Fr.at GM4 kd_256 (by decide))).trans ((congrArg (fun e => o_f e 7) (Fr.at GM3 kd_256 (by decide))).trans fw256_7)))))))))))))) ?_
              refine PW.cI q_29_198 (by decide) fun c56 hc56 => ?_
              refine PW.addN q_29_199 (by omega) (by omega) fun x57 hx57 => ?_
              have hdM58 := o_i_of ((congrArg (fun e => o_f e 7) (UM55.1 _ (g_ne kd_256 kd_266 (by decide)))).trans ((congrArg (fun e => o_f e 7) (Fr.at GM53 kd_256 (by decide))).trans ((congrArg (fun e => o_f e 7) (UM49.1 _ (g_ne kd_256 kd_265 (by decide)))).trans ((congrArg (fun e => o_f e 7) (UM43.1 _ (g_ne kd_256 kd_264 (by decide)))).trans ((congrArg (fun e => o_f e 7) (Fr.at GM41 kd_256 (by decide))).trans ((congrArg (fun e => o_f e 7) (UM35.1 _ (g_ne kd_256 kd_263 (by decide)))).trans ((congrArg (fun e => o_f e 7) (Fr.at GM33 kd_256 (by decide))).trans ((congrArg (fun e => o_f e 7) (Fr.at GM30 kd_256 (by decide))).trans ((congrArg (fun e => o_f e 7) (UM26.1 _ (g_ne kd_256 kd_262 (by decide)))).trans ((congrArg (fun e => o_f e 7) (Fr.at GM14 kd_256 (by decide))).trans ((congrArg (fun e => o_f e 7) (Fr.at GM13 kd_256 (by decide))).trans ((congrArg (fun e => o_f e 7) (UM12.1 _ (g_ne kd_256 kd_261 (by decide)))).trans ((congrArg (fun e => o_f e 7) (Fr.at GM4 kd_256 (by decide))).trans ((congrArg (fun e => o_f e 7) (Fr.at GM3 kd_256 (by decide))).trans fw256_7))))))))))))))
              have heM58 : 0 ≤ (o_a (M55 262) w256_7.toInt.toNat).toInt := by rw [((UM55.1 _ (g_ne kd_262 kd_266 (by decide))).trans ((Fr.at GM53 kd_262 (by decide)).trans ((UM49.1 _ (g_ne kd_262 kd_265 (by decide))).trans ((UM43.1 _ (g_ne kd_262 kd_264 (by decide))).trans ((Fr.at GM41 kd_262 (by decide)).trans ((UM35.1 _ (g_ne kd_262 kd_263 (by decide))).trans ((Fr.at GM33 kd_262 (by decide)).trans (Fr.at GM30 kd_262 (by decide))))))))), fx27]; omega
              refine PW.pB q_29_200 (Or.inl t_ft_29_70) gF_4_7 gP_4_7 kd_256 IM55.1 (by decide) (by omega) (by omega) fun M58 JM58 fM58 UM58 => ?_
              have IM58 : Iv gTS M58 := ⟨JM58, UM58.TT kd_256 rfl rfl IM55.2.1, gS1.inc IM55.2.2 UM58 fM58 hdM58 (by omega) (by omega) heM58⟩
              have FM58 := Fr.pu FM55 UM58.1 kd_256 (rfl : List.contains [1, 4, 31, 32, 33, 34, 35, 36] 4 = true)
              refine PW.cI q_29_203 (by decide) fun c59 hc59 => ?_
              refine PW.rZ q_29_204 rfl (by omega) (by omega) (by decide) (by decide) ?_
              have e : k_dog y A i = (0, 0, (va_up A.1 1 (A.1 1 + 1), A.2.1, va_up A.2.2.1 (A.1 1).toNat (kV y (i + 1)), va_up A.2.2.2.1 (A.1 1).toNat 0, va_up A.2.2.2.2 (A.1 1).toNat (k_lw y (i + 5))), i + 6) := by unfold k_dog; rw [if_neg (by omega), if_neg (by omega), if_neg (by omega), if_neg (by omega), if_neg (by omega), if_neg (by omega), if_neg (by omega), if_neg (by omega)]
              exact hK c59 M58 IM58 FM58 (by omega) (by omega) (by rw [e]; exact Or.inl ⟨by omega, rfl, (PtM53.cg ((UM58.1 _ (g_ne kd_1 kd_256 (by decide))).trans (UM55.1 _ (g_ne kd_1 kd_266 (by decide)))) ((UM58.1 _ (g_ne kd_2 kd_256 (by decide))).trans (UM55.1 _ (g_ne kd_2 kd_266 (by decide))))), ⟨(by have w := (o_i_of ((UM58.f (Or.inr (by decide))).trans ((congrArg (fun e => o_f e 0) (UM55.1 _ (g_ne kd_256 kd_266 (by decide)))).trans ((congrArg (fun e => o_f e 0) (Fr.at GM53 kd_256 (by decide))).trans ((congrArg (fun e => o_f e 0) (UM49.1 _ (g_ne kd_256 kd_265 (by decide)))).trans ((congrArg (fun e => o_f e 0) (UM43.1 _ (g_ne kd_256 kd_264 (by decide)))).trans ((congrArg (fun e => o_f e 0) (Fr.at GM41 kd_256 (by decide))).trans ((congrArg (fun e => o_f e 0) (UM35.1 _ (g_ne kd_256 kd_263 (by decide)))).trans ((congrArg (fun e => o_f e 0) (Fr.at GM33 kd_256 (by decide))).trans ((congrArg (fun e => o_f e 0) (Fr.at GM30 kd_256 (by decide))).trans ((congrArg (fun e => o_f e 0) (UM26.1 _ (g_ne kd_256 kd_262 (by decide)))).trans ((congrArg (fun e => o_f e 0) (Fr.at GM14 kd_256 (by decide))).trans ((congrArg (fun e => o_f e 0) (Fr.at GM13 kd_256 (by decide))).trans ((congrArg (fun e => o_f e 0) (UM12.1 _ (g_ne kd_256 kd_261 (by decide)))).trans ((congrArg (fun e => o_f e 0) (Fr.at GM4 kd_256 (by decide))).trans ((congrArg (fun e => o_f e 0) (Fr.at GM3 kd_256 (by decide))).trans fw256_0)))))))))))))))); show o_i (M58 256) 0 = A.1 5; omega), (by have w := (o_i_of ((UM58.f (Or.inr (by decide))).trans ((congrArg (fun e => o_f e 1) (UM55.1 _ (g_ne kd_256 kd_266 (by decide)))).trans ((congrArg (fun e => o_f e 1) (Fr.at GM53 kd_256 (by decide))).trans ((congrArg (fun e => o_f e 1) (UM49.1 _ (g_ne kd_256 kd_265 (by decide)))).trans ((congrArg (fun e => o_f e 1) (UM43.1 _ (g_ne kd_256 kd_264 (by decide)))).trans ((congrArg (fun e => o_f e 1) (Fr.at GM41 kd_256 (by decide))).trans ((congrArg (fun e => o_f e 1) (UM35.1 _ (g_ne kd_256 kd_263 (by decide)))).trans ((congrArg (fun e => o_f e 1) (Fr.at GM33 kd_256 (by decide))).trans ((congrArg (fun e => o_f e 1) (Fr.at GM30 kd_256 (by decide))).trans ((congrArg (fun e => o_f e 1) (UM26.1 _ (g_ne kd_256 kd_262 (by decide)))).trans ((congrArg (fun e => o_f e 1) (Fr.at GM14 kd_256 (by decide))).trans ((congrArg (fun e => o_f e 1) (Fr.at GM13 kd_256 (by decide))).trans ((congrArg (fun e => o_f e 1) (UM12.1 _ (g_ne kd_256 kd_261 (by decide)))).trans ((congrArg (fun e => o_f e 1) (Fr.at GM4 kd_256 (by decide))).trans ((congrArg (fun e => o_f e 1) (Fr.at GM3 kd_256 (by decide))).trans fw256_1)))))))))))))))); show o_i (M58 256) 1 = A.1 2; omega), (by have w := (o_i_of ((UM58.f (Or.inr (by decide))).trans ((congrArg (fun e => o_f e 2) (UM55.1 _ (g_ne kd_256 kd_266 (by decide)))).trans ((congrArg (fun e => o_f e 2) (Fr.at GM53 kd_256 (by decide))).trans ((congrArg (fun e => o_f e 2) (UM49.1 _ (g_ne kd_256 kd_265 (by decide)))).trans ((congrArg (fun e => o_f e 2) (UM43.1 _ (g_ne kd_256 kd_264 (by decide)))).trans ((congrArg (fun e => o_f e 2) (Fr.at GM41 kd_256 (by decide))).trans ((congrArg (fun e => o_f e 2) (UM35.1 _ (g_ne kd_256 kd_263 (by decide)))).trans ((congrArg (fun e => o_f e 2) (Fr.at GM33 kd_256 (by decide))).trans ((congrArg (fun e => o_f e 2) (Fr.at GM30 kd_256 (by decide))).trans ((congrArg (fun e => o_f e 2) (UM26.1 _ (g_ne kd_256 kd_262 (by decide)))).trans ((congrArg (fun e => o_f e 2) (Fr.at GM14 kd_256 (by decide))).trans ((congrArg (fun e => o_f e 2) (Fr.at GM13 kd_256 (by decide))).trans ((congrArg (fun e => o_f e 2) (UM12.1 _ (g_ne kd_256 kd_261 (by decide)))).trans ((congrArg (fun e => o_f e 2) (Fr.at GM4 kd_256 (by decide))).trans ((congrArg (fun e => o_f e 2) (Fr.at GM3 kd_256 (by decide))).trans fw256_2)))))))))))))))); show o_i (M58 256) 2 = A.1 3; omega), (by have w := (o_i_of ((UM58.f (Or.inr (by decide))).trans ((congrArg (fun e => o_f e 3) (UM55.1 _ (g_ne kd_256 kd_266 (by decide)))).trans ((congrArg (fun e => o_f e 3) (Fr.at GM53 kd_256 (by decide))).trans ((congrArg (fun e => o_f e 3) (UM49.1 _ (g_ne kd_256 kd_265 (by decide)))).trans ((congrArg (fun e => o_f e 3) (UM43.1 _ (g_ne kd_256 kd_264 (by decide)))).trans ((congrArg (fun e => o_f e 3) (Fr.at GM41 kd_256 (by decide))).trans ((congrArg (fun e => o_f e 3) (UM35.1 _ (g_ne kd_256 kd_263 (by decide)))).trans ((congrArg (fun e => o_f e 3) (Fr.at GM33 kd_256 (by decide))).trans ((congrArg (fun e => o_f e 3) (Fr.at GM30 kd_256 (by decide))).trans ((congrArg (fun e => o_f e 3) (UM26.1 _ (g_ne kd_256 kd_262 (by decide)))).trans ((congrArg (fun e => o_f e 3) (Fr.at GM14 kd_256 (by decide))).trans ((congrArg (fun e => o_f e 3) (Fr.at GM13 kd_256 (by decide))).trans ((congrArg (fun e => o_f e 3) (UM12.1 _ (g_ne kd_256 kd_261 (by decide)))).trans ((congrArg (fun e => o_f e 3) (Fr.at GM4 kd_256 (by decide))).trans ((congrArg (fun e => o_f e 3) (Fr.at GM3 kd_256 (by decide))).trans fw256_3)))))))))))))))); show o_i (M58 256) 3 = A.1 4; omega), (by have w := (o_i_of ((UM58.f (Or.inr (by decide))).trans ((congrArg (fun e => o_f e 4) (UM55.1 _ (g_ne kd_256 kd_266 (by decide)))).trans ((congrArg (fun e => o_f e 4) (Fr.at GM53 kd_256 (by decide))).trans ((congrArg (fun e => o_f e 4) (UM49.1 _ (g_ne kd_256 kd_265 (by decide)))).trans ((congrArg (fun e => o_f e 4) (UM43.1 _ (g_ne kd_256 kd_264 (by decide)))).trans ((congrArg (fun e => o_f e 4) (Fr.at GM41 kd_256 (by decide))).trans ((congrArg (fun e => o_f e 4) (UM35.1 _ (g_ne kd_256 kd_263 (by decide)))).trans ((congrArg (fun e => o_f e 4) (Fr.at GM33 kd_256 (by decide))).trans ((congrArg (fun e => o_f e 4) (Fr.at GM30 kd_256 (by decide))).trans ((congrArg (fun e => o_f e 4) (UM26.1 _ (g_ne kd_256 kd_262 (by decide)))).trans ((congrArg (fun e => o_f e 4) (Fr.at GM14 kd_256 (by decide))).trans ((congrArg (fun e => o_f e 4) (Fr.at GM13 kd_256 (by decide))).trans ((congrArg (fun e => o_f e 4) (UM12.1 _ (g_ne kd_256 kd_261 (by decide)))).trans ((congrArg (fun e => o_f e 4) (Fr.at GM4 kd_256 (by decide))).trans ((congrArg (fun e => o_f e 4) (Fr.at GM3 kd_256 (by decide))).trans fw256_4)))))))))))))))); show o_i (M58 256) 4 = A.1 6; omega), (by have w := (o_i_of ((UM58.f (Or.inr (by decide))).trans ((congrArg (fun e => o_f e 5) (UM55.1 _ (g_ne kd_256 kd_266 (by decide)))).trans ((congrArg (fun e => o_f e 5) (Fr.at GM53 kd_256 (by decide))).trans ((congrArg (fun e => o_f e 5) (UM49.1 _ (g_ne kd_256 kd_265 (by decide)))).trans ((congrArg (fun e => o_f e 5) (UM43.1 _ (g_ne kd_256 kd_264 (by decide)))).trans ((congrArg (fun e => o_f e 5) (Fr.at GM41 kd_256 (by decide))).trans ((congrArg (fun e => o_f e 5) (UM35.1 _ (g_ne kd_256 kd_263 (by decide)))).trans ((congrArg (fun e => o_f e 5) (Fr.at GM33 kd_256 (by decide))).trans ((congrArg (fun e => o_f e 5) (Fr.at GM30 kd_256 (by decide))).trans ((congrArg (fun e => o_f e 5) (UM26.1 _ (g_ne kd_256 kd_262 (by decide)))).trans ((congrArg (fun e => o_f e 5) (Fr.at GM14 kd_256 (by decide))).trans ((congrArg (fun e => o_f e 5) (Fr.at GM13 kd_256 (by decide))).trans ((congrArg (fun e => o_f e 5) (UM12.1 _ (g_ne kd_256 kd_261 (by decide)))).trans ((congrArg (fun e => o_f e 5) (Fr.at GM4 kd_256 (by decide))).trans ((congrArg (fun e => o_f e 5) (Fr.at GM3 kd_256 (by decide))).trans fw256_5)))))))))))))))); show o_i (M58 256) 5 = A.1 7; omega), (by have w := (o_i_of ((UM58.f (Or.inr (by decide))).trans ((congrArg (fun e => o_f e 6) (UM55.1 _ (g_ne kd_256 kd_266 (by decide)))).trans ((congrArg (fun e => o_f e 6) (Fr.at GM53 kd_256 (by decide))).trans ((congrArg (fun e => o_f e 6) (UM49.1 _ (g_ne kd_256 kd_265 (by decide)))).trans ((congrArg (fun e => o_f e 6) (UM43.1 _ (g_ne kd_256 kd_264 (by decide)))).trans ((congrArg (fun e => o_f e 6) (Fr.at GM41 kd_256 (by decide))).trans ((congrArg (fun e => o_f e 6) (UM35.1 _ (g_ne kd_256 kd_263 (by decide)))).trans ((congrArg (fun e => o_f e 6) (Fr.at GM33 kd_256 (by decide))).trans ((congrArg (fun e => o_f e 6) (Fr.at GM30 kd_256 (by decide))).trans ((congrArg (fun e => o_f e 6) (UM26.1 _ (g_ne kd_256 kd_262 (by decide)))).trans ((congrArg (fun e => o_f e 6) (Fr.at GM14 kd_256 (by decide))).trans ((congrArg (fun e => o_f e 6) (Fr.at GM13 kd_256 (by decide))).trans ((congrArg (fun e => o_f e 6) (UM12.1 _ (g_ne kd_256 kd_261 (by decide)))).trans ((congrArg (fun e => o_f e 6) (Fr.at GM4 kd_256 (by decide))).trans ((congrArg (fun e => o_f e 6) (Fr.at GM3 kd_256 (by decide))).trans fw256_6)))))))))))))))); show o_i (M58 256) 6 = A.1 0; omega), (by have w := (o_i_of fM58); show o_i (M58 256) 7 = A.1 1 + 1; omega), (fun j hj => by rw [((UM58.1 _ (g_ne kd_257 kd_256 (by decide))).trans ((UM55.1 _ (g_ne kd_257 kd_266 (by decide))).trans ((Fr.at GM53 kd_257 (by decide)).trans ((UM49.1 _ (g_ne kd_257 kd_265 (by decide))).trans ((UM43.1 _ (g_ne kd_257 kd_264 (by decide))).trans ((Fr.at GM41 kd_257 (by decide)).trans ((UM35.1 _ (g_ne kd_257 kd_263 (by decide))).trans ((Fr.at GM33 kd_257 (by decide)).trans ((Fr.at GM30 kd_257 (by decide)).trans ((UM26.1 _ (g_ne kd_257 kd_262 (by decide))).trans ((Fr.at GM14 kd_257 (by decide)).trans ((Fr.at GM13 kd_257 (by decide)).trans ((UM12.1 _ (g_ne kd_257 kd_261 (by decide))).trans ((Fr.at GM4 kd_257 (by decide)).trans (Fr.at GM3 kd_257 (by decide))))))))))))))))]; exact kc8 j hj), (k_upl (e0 := M4 261) (fun j hj => by rw [((Fr.at GM4 kd_261 (by decide)).trans (Fr.at GM3 kd_261 (by decide)))]; exact kc9 j hj) (by omega) (by rw [((UM58.1 _ (g_ne kd_261 kd_256 (by decide))).trans ((UM55.1 _ (g_ne kd_261 kd_266 (by decide))).trans ((Fr.at GM53 kd_261 (by decide)).trans ((UM49.1 _ (g_ne kd_261 kd_265 (by decide))).trans ((UM43.1 _ (g_ne kd_261 kd_264 (by decide))).trans ((Fr.at GM41 kd_261 (by decide)).trans ((UM35.1 _ (g_ne kd_261 kd_263 (by decide))).trans ((Fr.at GM33 kd_261 (by decide)).trans ((Fr.at GM30 kd_261 (by decide)).trans ((UM26.1 _ (g_ne kd_261 kd_262 (by decide))).trans ((Fr.at GM14 kd_261 (by decide)).trans (Fr.at GM13 kd_261 (by decide)))))))))))))]; rw [show (A.1 1).toNat = w256_7.toInt.toNat from by omega]; rw [fM12]; omega) (fun z hz => by rw [((UM58.1 _ (g_ne kd_261 kd_256 (by decide))).trans ((UM55.1 _ (g_ne kd_261 kd_266 (by decide))).trans ((Fr.at GM53 kd_261 (by decide)).trans ((UM49.1 _ (g_ne kd_261 kd_265 (by decide))).trans ((UM43.1 _ (g_ne kd_261 kd_264 (by decide))).trans ((Fr.at GM41 kd_261 (by decide)).trans ((UM35.1 _ (g_ne kd_261 kd_263 (by decide))).trans ((Fr.at GM33 kd_261 (by decide)).trans ((Fr.at GM30 kd_261 (by decide)).trans ((UM26.1 _ (g_ne kd_261 kd_262 (by decide))).trans ((Fr.at GM14 kd_261 (by decide)).trans (Fr.at GM13 kd_261 (by decide)))))))))))))]; exact UM12.2 z (by omega))), (k_upa (e0 := M53 266) (fun j hj => by rw [((Fr.at GM53 kd_266 (by decide)).trans ((UM49.1 _ (g_ne kd_266 kd_265 (by decide))).trans ((UM43.1 _ (g_ne kd_266 kd_264 (by decide))).trans ((Fr.at GM41 kd_266 (by decide)).trans ((UM35.1 _ (g_ne kd_266 kd_263 (by decide))).trans ((Fr.at GM33 kd_266 (by decide)).trans ((Fr.at GM30 kd_266 (by decide)).trans ((UM26.1 _ (g_ne kd_266 kd_262 (by decide))).trans ((Fr.at GM14 kd_266 (by decide)).trans ((Fr.at GM13 kd_266 (by decide)).trans ((UM12.1 _ (g_ne kd_266 kd_261 (by decide))).trans ((Fr.at GM4 kd_266 (by decide)).trans (Fr.at GM3 kd_266 (by decide))))))))))))))]; exact kc10 j hj) (by omega) (by rw [(UM58.1 _ (g_ne kd_266 kd_256 (by decide)))]; rw [show (A.1 1).toNat = w256_7.toInt.toNat from by omega]; rw [fM55]; omega) (fun z hz => by rw [(UM58.1 _ (g_ne kd_266 kd_256 (by decide)))]; exact UM55.2 z (by omega))), (k_upa (e0 := M43 265) (fun j hj => by rw [((UM43.1 _ (g_ne kd_265 kd_264 (by decide))).trans ((Fr.at GM41 kd_265 (by decide)).trans ((UM35.1 _ (g_ne kd_265 kd_263 (by decide))).trans ((Fr.at GM33 kd_265 (by decide)).trans ((Fr.at GM30 kd_265 (by decide)).trans ((UM26.1 _ (g_ne kd_265 kd_262 (by decide))).trans ((Fr.at GM14 kd_265 (by decide)).trans ((Fr.at GM13 kd_265 (by decide)).trans ((UM12.1 _ (g_ne kd_265 kd_261 (by decide))).trans ((Fr.at GM4 kd_265 (by decide)).trans (Fr.at GM3 kd_265 (by decide))))))))))))]; exact kc11 j hj) (by omega) (by rw [((UM58.1 _ (g_ne kd_265 kd_256 (by decide))).trans ((UM55.1 _ (g_ne kd_265 kd_266 (by decide))).trans (Fr.at GM53 kd_265 (by decide))))]; rw [show (A.1 1).toNat = w256_7.toInt.toNat from by omega]; rw [fM49]; omega) (fun z hz => by rw [((UM58.1 _ (g_ne kd_265 kd_256 (by decide))).trans ((UM55.1 _ (g_ne kd_265 kd_266 (by decide))).trans (Fr.at GM53 kd_265 (by decide))))]; exact UM49.2 z (by omega)))⟩⟩) (((((((((((((((gWk.refl.fr GM3 (by decide)).tr TM4).ar UM12.1 (by decide)).fr GM13 (by decide)).fr GM14 (by decide)).ar UM26.1 (by decide)).fr GM30 (by decide)).fr GM33 (by decide)).ar UM35.1 (by decide)).fr GM41 (by decide)).ar UM43.1 (by decide)).ar UM49.1 (by decide)).fr GM53 (by decide)).ar UM55.1 (by decide)).put UM58 (by decide))
            · skip
              refine PW.aload_n q_29_173 rfl ?_
              refine PW.cI q_29_174 (by decide) fun c60 hc60 => ?_
              refine PW.cV (as := [_]) (rest := []) q_29_175 t_mv_29_137 kd_1 IM49.1 (by decide) rfl (by decide) rfl rfl (Nat.le_of_ble_eq_true rfl) (Nat.le_of_ble_eq_true rfl) (by decide) (by decide) ?_
              refine PW.up (by decide) (c_X7_fail_vk (gTS) (StabS) G _ M49 IM49 c60 _ (i + 5) (PtM41.cg ((UM49.1 _ (g_ne kd_1 kd_265 (by decide))).trans (UM43.1 _ (g_ne kd_1 kd_264 (by decide)))) ((UM49.1 _ (g_ne kd_2 kd_265 (by decide))).trans (UM43.1 _ (g_ne kd_2 kd_264 (by decide))))) fun x62 M61 IM61 GM61 hx62 kx62 PM61 => ?_)
              have FM61 := Fr.trans FM49 GM61 (rfl)
              rcases PM61 with ⟨PfM61, PgM61⟩
              refine PW.rZ q_29_178 rfl (by omega) (by omega) (by decide) (by decide) ?_
              have e : k_dog y A i = (1, kP y (i + 5), A, i) := by unfold k_dog; rw [if_neg (by omega), if_neg (by omega), if_neg (by omega), if_neg (by omega), if_neg (by omega), if_neg (by omega), if_neg (by omega), if_pos (by omega)]
              exact hK x62 M61 IM61 FM61 (by omega) (by omega) (by rw [e]; exact Or.inr ⟨by omega, (by omega : (1 : Int) ≠ 0), (by omega : o_i (M61 1) 10 = 1), (by omega : o_i (M61 1) 11 = kP y (i + 5))⟩) (((((((((((((gWk.refl.fr GM3 (by decide)).tr TM4).ar UM12.1 (by decide)).fr GM13 (by decide)).fr GM14 (by decide)).ar UM26.1 (by decide)).fr GM30 (by decide)).fr GM33 (by decide)).ar UM35.1 (by decide)).fr GM41 (by decide)).ar UM43.1 (by decide)).ar UM49.1 (by decide)).fr GM61 (by decide))
          · skip
            refine PW.wI q_29_131 gA_34 kd_264 StabS IM41 (by decide) rfl gC_34_0_1 (by decide) (by omega) (by omega) (n_lo _) (n_hi _) fun M63 IM63 fM63 UM63 => ?_
            have FM63 := Fr.pu FM41 UM63.1 kd_264 (rfl : List.contains [1, 4, 31, 32, 33, 34, 35, 36] 34 = true)
            refine PW.aload_n q_29_132 rfl ?_
            refine PW.gR 264 q_29_133 (Or.inl t_ft_29_35) gF_4_15 kd_256 IM63.1 (by decide) rfl ?_
            refine PW.aload_n q_29_136 rfl ?_
            refine PW.gE q_29_137 (Or.inl t_ft_29_70) gF_4_7 kd_256 IM63.1 (by decide) ((congrArg (fun e => o_f e 7) (UM63.1 _ (g_ne kd_256 kd_264 (by decide)))).trans ((congrArg (fun e => o_f e 7) (Fr.at GM41 kd_256 (by decide))).trans ((congrArg (fun e => o_f e 7) (UM35.1 _ (g_ne kd_256 kd_263 (by decide)))).trans ((congrArg (fun e => o_f e 7) (Fr.at GM33 kd_256 (by decide))).trans ((congrArg (fun e => o_f e 7) (Fr.at GM30 kd_256 (by decide))).trans ((congrArg (fun e => o_f e 7) (UM26.1 _ (g_ne kd_256 kd_262 (by decide)))).trans ((congrArg (fun e => o_f e 7) (Fr.at GM14 kd_256 (by decide))).trans ((congrArg (fun e => o_f e 7) (Fr.at GM13 kd_256 (by decide))).trans ((congrArg (fun e => o_f e 7) (UM12.1 _ (g_ne kd_256 kd_261 (by decide)))).trans ((congrArg (fun e => o_f e 7) (Fr.at GM4 kd_256 (by decide))).trans ((congrArg (fun e => o_f e 7) (Fr.at GM3 kd_256 (by decide))).trans fw256_7))))))))))) ?_
            refine PW.aH q_29_140 gA_34 kd_264 IM63.1 (by decide) (by omega) (by omega) fun x64 fx64 => ?_
            have ezx64 : x64.toInt = x42.toInt := by rw [← fx64, fM63]
            refine PW.cI q_29_141 (by decide) fun c65 hc65 => ?_
            refine PW.jc_ne q_29_142 rfl (fun h66 => False.elim (by omega)) (fun h66 => ?_)
            refine PW.cI q_29_145 (by decide) fun c67 hc67 => ?_
            refine PW.rZ q_29_146 rfl (by omega) (by omega) (by decide) (by decide) ?_
            have e : k_dog y A i = (k_nr y (i + 4) 0 9, kP y (i + 4), A, i) := by unfold k_dog; rw [if_neg (by omega), if_neg (by omega), if_neg (by omega), if_neg (by omega), if_neg (by omega), if_neg (by omega), if_pos (by omega)]
            have g10 : o_i (M63 1) 10 = o_i (M41 1) 10 := congrArg (fun e => o_i e 10) (UM63.1 _ (g_ne kd_1 kd_264 (by decide)))
            have g11 : o_i (M63 1) 11 = o_i (M41 1) 11 := congrArg (fun e => o_i e 11) (UM63.1 _ (g_ne kd_1 kd_264 (by decide)))
            exact hK c67 M63 IM63 FM63 (by omega) (by omega) (by rw [e]; exact Or.inr ⟨by omega, (by omega : (k_nr y (i + 4) 0 9 : Int) ≠ 0), (by omega : o_i (M63 1) 10 = k_nr y (i + 4) 0 9), (by omega : o_i (M63 1) 11 = kP y (i + 4))⟩) (((((((((((gWk.refl.fr GM3 (by decide)).tr TM4).ar UM12.1 (by decide)).fr GM13 (by decide)).fr GM14 (by decide)).ar UM26.1 (by decide)).fr GM30 (by decide)).fr GM33 (by decide)).ar UM35.1 (by decide)).fr GM41 (by decide)).ar UM63.1 (by decide))
        · skip
          refine PW.wI q_29_100 gA_33 kd_263 StabS IM33 (by decide) rfl gC_33_0_1 (by decide) (by omega) (by omega) (n_lo _) (n_hi _) fun M68 IM68 fM68 UM68 => ?_
          have FM68 := Fr.pu FM33 UM68.1 kd_263 (rfl : List.contains [1, 4, 31, 32, 33, 34, 35, 36] 33 = true)
          refine PW.aload_n q_29_101 rfl ?_
          refine PW.gR 263 q_29_102 (Or.inl t_ft_29_32) gF_4_14 kd_256 IM68.1 (by decide) rfl ?_
          refine PW.aload_n q_29_105 rfl ?_
          refine PW.gE q_29_106 (Or.inl t_ft_29_70) gF_4_7 kd_256 IM68.1 (by decide) ((congrArg (fun e => o_f e 7) (UM68.1 _ (g_ne kd_256 kd_263 (by decide)))).trans ((congrArg (fun e => o_f e 7) (Fr.at GM33 kd_256 (by decide))).trans ((congrArg (fun e => o_f e 7) (Fr.at GM30 kd_256 (by decide))).trans ((congrArg (fun e => o_f e 7) (UM26.1 _ (g_ne kd_256 kd_262 (by decide)))).trans ((congrArg (fun e => o_f e 7) (Fr.at GM14 kd_256 (by decide))).trans ((congrArg (fun e => o_f e 7) (Fr.at GM13 kd_256 (by decide))).trans ((congrArg (fun e => o_f e 7) (UM12.1 _ (g_ne kd_256 kd_261 (by decide)))).trans ((congrArg (fun e => o_f e 7) (Fr.at GM4 kd_256 (by decide))).trans ((congrArg (fun e => o_f e 7) (Fr.at GM3 kd_256 (by decide))).trans fw256_7))))))))) ?_
          refine PW.aH q_29_109 gA_33 kd_263 IM68.1 (by decide) (by omega) (by omega) fun x69 fx69 => ?_
          have ezx69 : x69.toInt = x34.toInt := by rw [← fx69, fM68]
          refine PW.cI q_29_110 (by decide) fun c70 hc70 => ?_
          refine PW.jc_ne q_29_111 rfl (fun h71 => False.elim (by omega)) (fun h71 => ?_)
          refine PW.cI q_29_114 (by decide) fun c72 hc72 => ?_
          refine PW.rZ q_29_115 rfl (by omega) (by omega) (by decide) (by decide) ?_
          have e : k_dog y A i = (k_nr y (i + 3) 1 30, kP y (i + 3), A, i) := by unfold k_dog; rw [if_neg (by omega), if_neg (by omega), if_neg (by omega), if_neg (by omega), if_neg (by omega), if_pos (by omega)]
          have g10 : o_i (M68 1) 10 = o_i (M33 1) 10 := congrArg (fun e => o_i e 10) (UM68.1 _ (g_ne kd_1 kd_263 (by decide)))
          have g11 : o_i (M68 1) 11 = o_i (M33 1) 11 := congrArg (fun e => o_i e 11) (UM68.1 _ (g_ne kd_1 kd_263 (by decide)))
          exact hK c72 M68 IM68 FM68 (by omega) (by omega) (by rw [e]; exact Or.inr ⟨by omega, (by omega : (k_nr y (i + 3) 1 30 : Int) ≠ 0), (by omega : o_i (M68 1) 10 = k_nr y (i + 3) 1 30), (by omega : o_i (M68 1) 11 = kP y (i + 3))⟩) (((((((((gWk.refl.fr GM3 (by decide)).tr TM4).ar UM12.1 (by decide)).fr GM13 (by decide)).fr GM14 (by decide)).ar UM26.1 (by decide)).fr GM30 (by decide)).fr GM33 (by decide)).ar UM68.1 (by decide))
  · skip
    refine PW.aload_n q_29_8 rfl ?_
    refine PW.cI q_29_9 (by decide) fun c73 hc73 => ?_
    refine PW.cV (as := [_]) (rest := []) q_29_10 t_mv_29_137 kd_1 I.1 (by decide) rfl (by decide) rfl rfl (Nat.le_of_ble_eq_true rfl) (Nat.le_of_ble_eq_true rfl) (by decide) (by decide) ?_
    refine PW.up (by decide) (c_X7_fail_vk (gTS) (StabS) G _ M I c73 _ i hp_0 fun x75 M74 IM74 GM74 hx75 kx75 PM74 => ?_)
    have FM74 := Fr.trans F GM74 (rfl)
    rcases PM74 with ⟨PfM74, PgM74⟩
    refine PW.rZ q_29_13 rfl (by omega) (by omega) (by decide) (by decide) ?_
    have e : k_dog y A i = (4, kP y i, A, i) := by unfold k_dog; rw [if_pos (by omega)]
    exact hK x75 M74 IM74 FM74 (by omega) (by omega) (by rw [e]; exact Or.inr ⟨by omega, (by omega : (4 : Int) ≠ 0), (by omega : o_i (M74 1) 10 = 4), (by omega : o_i (M74 1) 11 = kP y i)⟩) (gWk.refl.fr GM74 (by decide))
theorem c_X3_readTires_vk (V : pM → Prop) (hV : Stab V) (G : pG) (Kr : pK) (M : pM) (I : Iv V M) (y : k_X) (i : Nat) (A : k_A) (hp_0 : k_at y M i) (hp_1 : k_cp M A) (hp_2 : kK y i = 2) (hK : ∀ (x : Int32) (M1 : pM), Iv V M1 → Fr [1, 36] M M1 → 0 ≤ x.toInt → x.toInt ≤ 1 → (k_cq y (k_tires y A i) x M1) → (gWk M M1) → Kr.1 (some (.int x)) 311 M1) : PW G false 4 31 (p_mc 31) (p_msl 31) Kr 0 (lv_args 0 [.ref 256, .ref 1]) [] 311 M 0 0 := by
  have F : Fr [1, 36] M M := Fr.refl
  obtain ⟨kc0, kc1, kc2, kc3, kc4, kc5, kc6, kc7, kc8, kc9, kc10, kc11⟩ := id hp_1
  obtain ⟨w256_0, fw256_0, hw256_0, kw256_0⟩ := gF_4_0.int kd_256 I.1 (by decide)
  have iw256_0 := o_i_of fw256_0
  have jw256_0 : w256_0.toInt = A.1 5 := by have w := kc0; omega
  obtain ⟨w256_1, fw256_1, hw256_1, kw256_1⟩ := gF_4_1.int kd_256 I.1 (by decide)
  have iw256_1 := o_i_of fw256_1
  have jw256_1 : w256_1.toInt = A.1 2 := by have w := kc1; omega
  obtain ⟨w256_2, fw256_2, hw256_2, kw256_2⟩ := gF_4_2.int kd_256 I.1 (by decide)
  have iw256_2 := o_i_of fw256_2
  have jw256_2 : w256_2.toInt = A.1 3 := by have w := kc2; omega
  obtain ⟨w256_3, fw256_3, hw256_3, kw256_3⟩ := gF_4_3.int kd_256 I.1 (by decide)
  have iw256_3 := o_i_of fw256_3
  have jw256_3 : w256_3.toInt = A.1 4 := by have w := kc3; omega
  obtain ⟨w256_4, fw256_4, hw256_4, kw256_4⟩ := gF_4_4.int kd_256 I.1 (by decide)
  have iw256_4 := o_i_of fw256_4
  have jw256_4 : w256_4.toInt = A.1 6 := by have w := kc4; omega
  obtain ⟨w256_5, fw256_5, hw256_5, kw256_5⟩ := gF_4_5.int kd_256 I.1 (by decide)
  have iw256_5 := o_i_of fw256_5
  have jw256_5 : w256_5.toInt = A.1 7 := by have w := kc5; omega
  obtain ⟨w256_6, fw256_6, hw256_6, kw256_6⟩ := gF_4_6.int kd_256 I.1 (by decide)
  have iw256_6 := o_i_of fw256_6
  have jw256_6 : w256_6.toInt = A.1 0 := by have w := kc6; omega
  obtain ⟨w256_7, fw256_7, hw256_7, kw256_7⟩ := gF_4_7.int kd_256 I.1 (by decide)
  have iw256_7 := o_i_of fw256_7
  have jw256_7 : w256_7.toInt = A.1 1 := by have w := kc7; omega
  refine PW.aload_n q_31_0 rfl ?_
  refine PW.cV (as := []) (rest := []) q_31_1 t_mv_31_140 kd_1 I.1 (by decide) rfl (by decide) rfl rfl (Nat.le_of_ble_eq_true rfl) (Nat.le_of_ble_eq_true rfl) (by decide) (by decide) ?_
  refine PW.up (by decide) (c_X7_advance_vk (V) (hV) G _ M I _ (i + 1) (k_at.nx hp_0 (by omega)) fun M1 IM1 GM1 PM1 => ?_)
  have FM1 := Fr.trans F GM1 (rfl)
  have PtM1 := PM1
  refine PW.aload_n q_31_4 rfl ?_
  refine PW.aload_n q_31_5 rfl ?_
  refine PW.gR 261 q_31_6 (Or.inl t_ft_31_26) gF_4_12 kd_256 IM1.1 (by decide) rfl ?_
  refine PW.aload_n q_31_9 rfl ?_
  refine PW.gE q_31_10 (Or.inl t_ft_31_70) gF_4_7 kd_256 IM1.1 (by decide) ((congrArg (fun e => o_f e 7) (Fr.at GM1 kd_256 (by decide))).trans fw256_7) ?_
  refine PW.cV (as := [_, _]) (rest := []) q_31_13 t_mv_31_167 kd_1 IM1.1 (by decide) rfl (by decide) rfl rfl (Nat.le_of_ble_eq_true rfl) (Nat.le_of_ble_eq_true rfl) (by decide) (by decide) ?_
  refine PW.up (by decide) (c_X7_needsKnown_vkd (V) (hV) G _ M1 IM1 261 kd_261 w256_7 (by omega) (by omega) _ (i + 1) A.2.2.1 (A.1 1) PtM1 (fun j hj => by rw [(Fr.at GM1 kd_261 (by decide))]; exact kc9 j hj) (by omega) fun x3 M2 IM2 GM2 hx3 kx3 PM2 => ?_)
  have FM2 := Fr.trans FM1 GM2 (rfl)
  rcases PM2 with ⟨PaM2, PbM2, PfM2, PgM2⟩ | ⟨PaM2, PbM2, PcM2, PfM2, PgM2⟩ | ⟨PaM2, PbM2, PcM2, PtM2⟩
  · skip
    refine PW.istore_n q_31_16 (by decide) ?_
    refine PW.iload_n q_31_17 rfl ?_
    refine PW.cI q_31_18 (by decide) fun c4 hc4 => ?_
    refine PW.jc_ne q_31_19 rfl (fun h5 => False.elim (by omega)) (fun h5 => ?_)
    refine PW.cI q_31_22 (by decide) fun c6 hc6 => ?_
    refine PW.rZ q_31_23 rfl (by omega) (by omega) (by decide) (by decide) ?_
    have e : k_tires y A i = (1, kP y (i + 1), A, i) := by unfold k_tires; rw [if_pos (by omega)]
    exact hK c6 M2 IM2 FM2 (by omega) (by omega) (by rw [e]; exact Or.inr ⟨by omega, (by omega : (1 : Int) ≠ 0), (by omega : o_i (M2 1) 10 = 1), (by omega : o_i (M2 1) 11 = kP y (i + 1))⟩) ((gWk.refl.fr GM1 (by decide)).fr GM2 (by decide))
  · skip
    refine PW.istore_n q_31_16 (by decide) ?_
    refine PW.iload_n q_31_17 rfl ?_
    refine PW.cI q_31_18 (by decide) fun c7 hc7 => ?_
    refine PW.jc_ne q_31_19 rfl (fun h8 => False.elim (by omega)) (fun h8 => ?_)
    refine PW.cI q_31_22 (by decide) fun c9 hc9 => ?_
    refine PW.rZ q_31_23 rfl (by omega) (by omega) (by decide) (by decide) ?_
    have e : k_tires y A i = (3, kP y (i + 1), A, i) := by unfold k_tires; rw [if_neg (by omega), if_pos (by omega)]
    exact hK c9 M2 IM2 FM2 (by omega) (by omega) (by rw [e]; exact Or.inr ⟨by omega, (by omega : (3 : Int) ≠ 0), (by omega : o_i (M2 1) 10 = 3), (by omega : o_i (M2 1) 11 = kP y (i + 1))⟩) ((gWk.refl.fr GM1 (by decide)).fr GM2 (by decide))
  · skip
    have nkM2 := k_nam PtM2
    refine PW.istore_n q_31_16 (by decide) ?_
    refine PW.iload_n q_31_17 rfl ?_
    refine PW.cI q_31_18 (by decide) fun c10 hc10 => ?_
    refine PW.jc_ne q_31_19 rfl (fun h11 => ?_) (fun h11 => False.elim (by omega))
    refine PW.aload_n q_31_24 rfl ?_
    refine PW.gR 266 q_31_25 (Or.inl t_ft_31_41) gF_4_17 kd_256 IM2.1 (by decide) rfl ?_
    refine PW.iload_n q_31_28 rfl ?_
    refine PW.aH q_31_29 gA_36 kd_266 IM2.1 (by decide) (by omega) (by omega) fun x12 fx12 => ?_
    have kb := k_fd_b A.2.2.1 (kV y (i + 1)) (A.1 1).toNat
    have et : x12.toInt = A.2.2.2.1 (k_fd A.2.2.1 (kV y (i + 1)) (A.1 1).toNat).toNat := by rw [← fx12, ((Fr.at GM2 kd_266 (by decide)).trans (Fr.at GM1 kd_266 (by decide))), show x3.toInt.toNat = (k_fd A.2.2.1 (kV y (i + 1)) (A.1 1).toNat).toNat from by omega]; exact kc10 _ (by omega)
    refine PW.jz_eq q_31_30 rfl (fun h13 => ?_) (fun h13 => ?_)
    · skip
      refine PW.aload_n q_31_39 rfl ?_
      refine PW.cV (as := []) (rest := []) q_31_40 t_mv_31_140 kd_1 IM2.1 (by decide) rfl (by decide) rfl rfl (Nat.le_of_ble_eq_true rfl) (Nat.le_of_ble_eq_true rfl) (by decide) (by decide) ?_
      refine PW.up (by decide) (c_X7_advance_vk (V) (hV) G _ M2 IM2 _ (i + 2) (k_at.nx PtM2 (by omega)) fun M14 IM14 GM14 PM14 => ?_)
      have FM14 := Fr.trans FM2 GM14 (rfl)
      have PtM14 := PM14
      refine PW.aload_n q_31_43 rfl ?_
      refine PW.gR 266 q_31_44 (Or.inl t_ft_31_41) gF_4_17 kd_256 IM14.1 (by decide) rfl ?_
      refine PW.iload_n q_31_47 rfl ?_
      refine PW.aload_n q_31_48 rfl ?_
      refine PW.cI q_31_49 (by decide) fun c15 hc15 => ?_
      refine PW.cB q_31_50 (by decide) fun c16 hc16 => ?_
      refine PW.cV (as := [_, _]) (rest := [_, _]) q_31_52 t_mv_31_143 kd_1 IM14.1 (by decide) rfl (by decide) rfl rfl (Nat.le_of_ble_eq_true rfl) (Nat.le_of_ble_eq_true rfl) (by decide) (by decide) ?_
      refine PW.up (by decide) (c_X7_needsNumber_vk (V) (hV) G _ M14 IM14 c15 c16 _ (i + 2) 1 20 PtM14 (by omega) (by omega) fun x18 M17 IM17 GM17 PM17 => ?_)
      have FM17 := Fr.trans FM14 GM17 (rfl)
      rcases PM17 with ⟨PzM17, PvM17, PlM17, PhM17, PtM17⟩ | ⟨PzM17, PvM17, PfM17, PgM17⟩
      · skip
        refine PW.wI q_31_55 gA_36 kd_266 hV IM17 (by decide) rfl gC_36_0_1 (by decide) (by omega) (by omega) (n_lo _) (n_hi _) fun M19 IM19 fM19 UM19 => ?_
        have FM19 := Fr.pu FM17 UM19.1 kd_266 (rfl : List.contains [1, 36] 36 = true)
        refine PW.aload_n q_31_56 rfl ?_
        refine PW.gR 266 q_31_57 (Or.inl t_ft_31_41) gF_4_17 kd_256 IM19.1 (by decide) rfl ?_
        refine PW.iload_n q_31_60 rfl ?_
        refine PW.aH q_31_61 gA_36 kd_266 IM19.1 (by decide) (by omega) (by omega) fun x20 fx20 => ?_
        have ezx20 : x20.toInt = x18.toInt := by rw [← fx20, fM19]
        refine PW.cI q_31_62 (by decide) fun c21 hc21 => ?_
        refine PW.jc_eq q_31_63 rfl (fun h22 => False.elim (by omega)) (fun h22 => ?_)
        refine PW.cI q_31_66 (by decide) fun c23 hc23 => ?_
        refine PW.goto q_31_67 rfl ?_
        refine PW.rZ q_31_71 rfl (by omega) (by omega) (by decide) (by decide) ?_
        have e : k_tires y A i = (0, 0, (A.1, A.2.1, A.2.2.1, va_up A.2.2.2.1 (k_fd A.2.2.1 (kV y (i + 1)) (A.1 1).toNat).toNat (kV y (i + 2)), A.2.2.2.2), i + 3) := by unfold k_tires; rw [if_neg (by omega), if_neg (by omega), if_neg (by omega), if_neg (by omega)]
        exact hK c23 M19 IM19 FM19 (by omega) (by omega) (by rw [e]; exact Or.inl ⟨by omega, rfl, (PtM17.cg (UM19.1 _ (g_ne kd_1 kd_266 (by decide))) (UM19.1 _ (g_ne kd_2 kd_266 (by decide)))), ⟨(by have w := (o_i_of ((congrArg (fun e => o_f e 0) (UM19.1 _ (g_ne kd_256 kd_266 (by decide)))).trans ((congrArg (fun e => o_f e 0) (Fr.at GM17 kd_256 (by decide))).trans ((congrArg (fun e => o_f e 0) (Fr.at GM14 kd_256 (by decide))).trans ((congrArg (fun e => o_f e 0) (Fr.at GM2 kd_256 (by decide))).trans ((congrArg (fun e => o_f e 0) (Fr.at GM1 kd_256 (by decide))).trans fw256_0)))))); show o_i (M19 256) 0 = A.1 5; omega), (by have w := (o_i_of ((congrArg (fun e => o_f e 1) (UM19.1 _ (g_ne kd_256 kd_266 (by decide)))).trans ((congrArg (fun e => o_f e 1) (Fr.at GM17 kd_256 (by decide))).trans ((congrArg (fun e => o_f e 1) (Fr.at GM14 kd_256 (by decide))).trans ((congrArg (fun e => o_f e 1) (Fr.at GM2 kd_256 (by decide))).trans ((congrArg (fun e => o_f e 1) (Fr.at GM1 kd_256 (by decide))).trans fw256_1)))))); show o_i (M19 256) 1 = A.1 2; omega), (by have w := (o_i_of ((congrArg (fun e => o_f e 2) (UM19.1 _ (g_ne kd_256 kd_266 (by decide)))).trans ((congrArg (fun e => o_f e 2) (Fr.at GM17 kd_256 (by decide))).trans ((congrArg (fun e => o_f e 2) (Fr.at GM14 kd_256 (by decide))).trans ((congrArg (fun e => o_f e 2) (Fr.at GM2 kd_256 (by decide))).trans ((congrArg (fun e => o_f e 2) (Fr.at GM1 kd_256 (by decide))).trans fw256_2)))))); show o_i (M19 256) 2 = A.1 3; omega), (by have w := (o_i_of ((congrArg (fun e => o_f e 3) (UM19.1 _ (g_ne kd_256 kd_266 (by decide)))).trans ((congrArg (fun e => o_f e 3) (Fr.at GM17 kd_256 (by decide))).trans ((congrArg (fun e => o_f e 3) (Fr.at GM14 kd_256 (by decide))).trans ((congrArg (fun e => o_f e 3) (Fr.at GM2 kd_256 (by decide))).trans ((congrArg (fun e => o_f e 3) (Fr.at GM1 kd_256 (by decide))).trans fw256_3)))))); show o_i (M19 256) 3 = A.1 4; omega), (by have w := (o_i_of ((congrArg (fun e => o_f e 4) (UM19.1 _ (g_ne kd_256 kd_266 (by decide)))).trans ((congrArg (fun e => o_f e 4) (Fr.at GM17 kd_256 (by decide))).trans ((congrArg (fun e => o_f e 4) (Fr.at GM14 kd_256 (by decide))).trans ((congrArg (fun e => o_f e 4) (Fr.at GM2 kd_256 (by decide))).trans ((congrArg (fun e => o_f e 4) (Fr.at GM1 kd_256 (by decide))).trans fw256_4)))))); show o_i (M19 256) 4 = A.1 6; omega), (by have w := (o_i_of ((congrArg (fun e => o_f e 5) (UM19.1 _ (g_ne kd_256 kd_266 (by decide)))).trans ((congrArg (fun e => o_f e 5) (Fr.at GM17 kd_256 (by decide))).trans ((congrArg (fun e => o_f e 5) (Fr.at GM14 kd_256 (by decide))).trans ((congrArg (fun e => o_f e 5) (Fr.at GM2 kd_256 (by decide))).trans ((congrArg (fun e => o_f e 5) (Fr.at GM1 kd_256 (by decide))).trans fw256_5)))))); show o_i (M19 256) 5 = A.1 7; omega), (by have w := (o_i_of ((congrArg (fun e => o_f e 6) (UM19.1 _ (g_ne kd_256 kd_266 (by decide)))).trans ((congrArg (fun e => o_f e 6) (Fr.at GM17 kd_256 (by decide))).trans ((congrArg (fun e => o_f e 6) (Fr.at GM14 kd_256 (by decide))).trans ((congrArg (fun e => o_f e 6) (Fr.at GM2 kd_256 (by decide))).trans ((congrArg (fun e => o_f e 6) (Fr.at GM1 kd_256 (by decide))).trans fw256_6)))))); show o_i (M19 256) 6 = A.1 0; omega), (by have w := (o_i_of ((congrArg (fun e => o_f e 7) (UM19.1 _ (g_ne kd_256 kd_266 (by decide)))).trans ((congrArg (fun e => o_f e 7) (Fr.at GM17 kd_256 (by decide))).trans ((congrArg (fun e => o_f e 7) (Fr.at GM14 kd_256 (by decide))).trans ((congrArg (fun e => o_f e 7) (Fr.at GM2 kd_256 (by decide))).trans ((congrArg (fun e => o_f e 7) (Fr.at GM1 kd_256 (by decide))).trans fw256_7)))))); show o_i (M19 256) 7 = A.1 1; omega), (fun j hj => by rw [((UM19.1 _ (g_ne kd_257 kd_266 (by decide))).trans ((Fr.at GM17 kd_257 (by decide)).trans ((Fr.at GM14 kd_257 (by decide)).trans ((Fr.at GM2 kd_257 (by decide)).trans (Fr.at GM1 kd_257 (by decide))))))]; exact kc8 j hj), (fun j hj => by rw [((UM19.1 _ (g_ne kd_261 kd_266 (by decide))).trans ((Fr.at GM17 kd_261 (by decide)).trans ((Fr.at GM14 kd_261 (by decide)).trans ((Fr.at GM2 kd_261 (by decide)).trans (Fr.at GM1 kd_261 (by decide))))))]; exact kc9 j hj), (k_upt (e0 := M17 266) (fun j hj => by rw [((Fr.at GM17 kd_266 (by decide)).trans ((Fr.at GM14 kd_266 (by decide)).trans ((Fr.at GM2 kd_266 (by decide)).trans (Fr.at GM1 kd_266 (by decide)))))]; exact kc10 j hj) (by rw [show (k_fd A.2.2.1 (kV y (i + 1)) (A.1 1).toNat).toNat = x3.toInt.toNat from by omega]; rw [fM19]; omega) (fun z hz => by exact UM19.2 z (by omega))), (fun j hj => by rw [((UM19.1 _ (g_ne kd_265 kd_266 (by decide))).trans ((Fr.at GM17 kd_265 (by decide)).trans ((Fr.at GM14 kd_265 (by decide)).trans ((Fr.at GM2 kd_265 (by decide)).trans (Fr.at GM1 kd_265 (by decide))))))]; exact kc11 j hj)⟩⟩) (((((gWk.refl.fr GM1 (by decide)).fr GM2 (by decide)).fr GM14 (by decide)).fr GM17 (by decide)).ar UM19.1 (by decide))
      · skip
        refine PW.wI q_31_55 gA_36 kd_266 hV IM17 (by decide) rfl gC_36_0_1 (by decide) (by omega) (by omega) (n_lo _) (n_hi _) fun M24 IM24 fM24 UM24 => ?_
        have FM24 := Fr.pu FM17 UM24.1 kd_266 (rfl : List.contains [1, 36] 36 = true)
        refine PW.aload_n q_31_56 rfl ?_
        refine PW.gR 266 q_31_57 (Or.inl t_ft_31_41) gF_4_17 kd_256 IM24.1 (by decide) rfl ?_
        refine PW.iload_n q_31_60 rfl ?_
        refine PW.aH q_31_61 gA_36 kd_266 IM24.1 (by decide) (by omega) (by omega) fun x25 fx25 => ?_
        have ezx25 : x25.toInt = x18.toInt := by rw [← fx25, fM24]
        refine PW.cI q_31_62 (by decide) fun c26 hc26 => ?_
        refine PW.jc_eq q_31_63 rfl (fun h27 => ?_) (fun h27 => False.elim (by omega))
        refine PW.cI q_31_70 (by decide) fun c28 hc28 => ?_
        refine PW.rZ q_31_71 rfl (by omega) (by omega) (by decide) (by decide) ?_
        have e : k_tires y A i = (k_nr y (i + 2) 1 20, kP y (i + 2), A, i) := by unfold k_tires; rw [if_neg (by omega), if_neg (by omega), if_neg (by omega), if_pos (by omega)]
        have g10 : o_i (M24 1) 10 = o_i (M17 1) 10 := congrArg (fun e => o_i e 10) (UM24.1 _ (g_ne kd_1 kd_266 (by decide)))
        have g11 : o_i (M24 1) 11 = o_i (M17 1) 11 := congrArg (fun e => o_i e 11) (UM24.1 _ (g_ne kd_1 kd_266 (by decide)))
        exact hK c28 M24 IM24 FM24 (by omega) (by omega) (by rw [e]; exact Or.inr ⟨by omega, (by omega : (k_nr y (i + 2) 1 20 : Int) ≠ 0), (by omega : o_i (M24 1) 10 = k_nr y (i + 2) 1 20), (by omega : o_i (M24 1) 11 = kP y (i + 2))⟩) (((((gWk.refl.fr GM1 (by decide)).fr GM2 (by decide)).fr GM14 (by decide)).fr GM17 (by decide)).ar UM24.1 (by decide))
    · skip
      refine PW.aload_n q_31_33 rfl ?_
      refine PW.cI q_31_34 (by decide) fun c29 hc29 => ?_
      refine PW.cV (as := [_]) (rest := []) q_31_35 t_mv_31_137 kd_1 IM2.1 (by decide) rfl (by decide) rfl rfl (Nat.le_of_ble_eq_true rfl) (Nat.le_of_ble_eq_true rfl) (by decide) (by decide) ?_
      refine PW.up (by decide) (c_X7_fail_vk (V) (hV) G _ M2 IM2 c29 _ (i + 1) PtM2 fun x31 M30 IM30 GM30 hx31 kx31 PM30 => ?_)
      have FM30 := Fr.trans FM2 GM30 (rfl)
      rcases PM30 with ⟨PfM30, PgM30⟩
      refine PW.rZ q_31_38 rfl (by omega) (by omega) (by decide) (by decide) ?_
      have e : k_tires y A i = (3, kP y (i + 1), A, i) := by unfold k_tires; rw [if_neg (by omega), if_neg (by omega), if_pos (by omega)]
      exact hK x31 M30 IM30 FM30 (by omega) (by omega) (by rw [e]; exact Or.inr ⟨by omega, (by omega : (3 : Int) ≠ 0), (by omega : o_i (M30 1) 10 = 3), (by omega : o_i (M30 1) 11 = kP y (i + 1))⟩) (((gWk.refl.fr GM1 (by decide)).fr GM2 (by decide)).fr GM30 (by decide))
theorem c_X3_readLine_vk (G : pG) (Kr : pK) (M : pM) (I : Iv gTS M) (y : k_X) (i : Nat) (A : k_A) (hp_0 : k_at y M i) (hp_1 : k_cp M A) (hK : ∀ (x : Int32) (M1 : pM), Iv gTS M1 → Fr [1, 4, 27, 28, 29, 30, 31, 32, 33, 34, 35, 36] M M1 → 0 ≤ x.toInt → x.toInt ≤ 1 → (k_cq y (k_line y A i) x M1) → (gWk M M1) → Kr.1 (some (.int x)) 311 M1) : PW G false 5 23 (p_mc 23) (p_msl 23) Kr 0 (lv_args 0 [.ref 256, .ref 1]) [] 311 M 0 0 := by
  have F : Fr [1, 4, 27, 28, 29, 30, 31, 32, 33, 34, 35, 36] M M := Fr.refl
  refine PW.aload_n q_23_0 rfl ?_
  refine PW.gets q_23_1 t_st_23_94 ?_
  refine PW.cV (as := [_]) (rest := []) q_23_4 t_mv_23_100 kd_1 I.1 (by decide) rfl (by decide) rfl rfl (Nat.le_of_ble_eq_true rfl) (Nat.le_of_ble_eq_true rfl) (by decide) (by decide) ?_
  refine PW.up (by decide) (c_X7_sees_vk (gTS) (StabS) G _ M I 0 (by decide) _ _ hp_0 fun x2  hx2 kx2 PM1 => ?_)
  rcases PM1 with ⟨PaM1, PbM1, PcM1⟩ | ⟨PaM1, PnM1⟩
  · skip
    refine PW.jz_eq q_23_7 rfl (fun h3 => False.elim (by omega)) (fun h3 => ?_)
    refine PW.aload_n q_23_10 rfl ?_
    refine PW.aload_n q_23_11 rfl ?_
    refine PW.cV (as := [_]) (rest := []) q_23_12 t_mv_23_104 kd_256 I.1 (by decide) rfl (by decide) rfl rfl (Nat.le_of_ble_eq_true rfl) (Nat.le_of_ble_eq_true rfl) (by decide) (by decide) ?_
    refine PW.up (by decide) (c_X3_readLength_vk (gTS) (StabS) G _ M I _ _ _ hp_0 hp_1 (by omega) fun x5 M4 IM4 GM4 hx5 kx5 PM4 TM4 => ?_)
    have FM4 := Fr.trans F GM4 (rfl)
    refine PW.rZ q_23_15 rfl (by omega) (by omega) (by decide) (by decide) ?_
    have e : k_line y A i = k_len y A i := by unfold k_line; rw [if_pos ⟨PbM1, PcM1⟩]
    exact hK x5 M4 IM4 FM4 (by omega) (by omega) (by rw [e]; exact PM4) (gWk.refl.tr TM4)
  · skip
    refine PW.jz_eq q_23_7 rfl (fun h6 => ?_) (fun h6 => False.elim (by omega))
    refine PW.aload_n q_23_16 rfl ?_
    refine PW.gets q_23_17 t_st_23_107 ?_
    refine PW.cV (as := [_]) (rest := []) q_23_20 t_mv_23_100 kd_1 I.1 (by decide) rfl (by decide) rfl rfl (Nat.le_of_ble_eq_true rfl) (Nat.le_of_ble_eq_true rfl) (by decide) (by decide) ?_
    refine PW.up (by decide) (c_X7_sees_vk (gTS) (StabS) G _ M I 1 (by decide) _ _ hp_0 fun x8  hx8 kx8 PM7 => ?_)
    rcases PM7 with ⟨PaM7, PbM7, PcM7⟩ | ⟨PaM7, PnM7⟩
    · skip
      refine PW.jz_eq q_23_23 rfl (fun h9 => False.elim (by omega)) (fun h9 => ?_)
      refine PW.aload_n q_23_26 rfl ?_
      refine PW.aload_n q_23_27 rfl ?_
      refine PW.cV (as := [_]) (rest := []) q_23_28 t_mv_23_110 kd_256 I.1 (by decide) rfl (by decide) rfl rfl (Nat.le_of_ble_eq_true rfl) (Nat.le_of_ble_eq_true rfl) (by decide) (by decide) ?_
      refine PW.up (by decide) (c_X3_readBody_vk (gTS) (StabS) G _ M I _ _ _ hp_0 hp_1 (by omega) fun x11 M10 IM10 GM10 hx11 kx11 PM10 TM10 => ?_)
      have FM10 := Fr.trans F GM10 (rfl)
      refine PW.rZ q_23_31 rfl (by omega) (by omega) (by decide) (by decide) ?_
      have e : k_line y A i = k_body y A i := by unfold k_line; rw [if_neg PnM1, if_pos ⟨PbM7, PcM7⟩]
      exact hK x11 M10 IM10 FM10 (by omega) (by omega) (by rw [e]; exact PM10) (gWk.refl.tr TM10)
    · skip
      refine PW.jz_eq q_23_23 rfl (fun h12 => ?_) (fun h12 => False.elim (by omega))
      refine PW.aload_n q_23_32 rfl ?_
      refine PW.gets q_23_33 t_st_23_113 ?_
      refine PW.cV (as := [_]) (rest := []) q_23_36 t_mv_23_100 kd_1 I.1 (by decide) rfl (by decide) rfl rfl (Nat.le_of_ble_eq_true rfl) (Nat.le_of_ble_eq_true rfl) (by decide) (by decide) ?_
      refine PW.up (by decide) (c_X7_sees_vk (gTS) (StabS) G _ M I 2 (by decide) _ _ hp_0 fun x14  hx14 kx14 PM13 => ?_)
      rcases PM13 with ⟨PaM13, PbM13, PcM13⟩ | ⟨PaM13, PnM13⟩
      · skip
        refine PW.jz_eq q_23_39 rfl (fun h15 => False.elim (by omega)) (fun h15 => ?_)
        refine PW.aload_n q_23_42 rfl ?_
        refine PW.aload_n q_23_43 rfl ?_
        refine PW.cV (as := [_]) (rest := []) q_23_44 t_mv_23_116 kd_256 I.1 (by decide) rfl (by decide) rfl rfl (Nat.le_of_ble_eq_true rfl) (Nat.le_of_ble_eq_true rfl) (by decide) (by decide) ?_
        refine PW.up (by decide) (c_X3_readKeeps_vk (gTS) (StabS) G _ M I _ _ _ hp_0 hp_1 (by omega) fun x17 M16 IM16 GM16 hx17 kx17 PM16 TM16 => ?_)
        have FM16 := Fr.trans F GM16 (rfl)
        refine PW.rZ q_23_47 rfl (by omega) (by omega) (by decide) (by decide) ?_
        have e : k_line y A i = k_keeps y A i := by unfold k_line; rw [if_neg PnM1, if_neg PnM7, if_pos ⟨PbM13, PcM13⟩]
        exact hK x17 M16 IM16 FM16 (by omega) (by omega) (by rw [e]; exact PM16) (gWk.refl.tr TM16)
      · skip
        refine PW.jz_eq q_23_39 rfl (fun h18 => ?_) (fun h18 => False.elim (by omega))
        refine PW.aload_n q_23_48 rfl ?_
        refine PW.gets q_23_49 t_st_23_119 ?_
        refine PW.cV (as := [_]) (rest := []) q_23_52 t_mv_23_100 kd_1 I.1 (by decide) rfl (by decide) rfl rfl (Nat.le_of_ble_eq_true rfl) (Nat.le_of_ble_eq_true rfl) (by decide) (by decide) ?_
        refine PW.up (by decide) (c_X7_sees_vk (gTS) (StabS) G _ M I 3 (by decide) _ _ hp_0 fun x20  hx20 kx20 PM19 => ?_)
        rcases PM19 with ⟨PaM19, PbM19, PcM19⟩ | ⟨PaM19, PnM19⟩
        · skip
          refine PW.jz_eq q_23_55 rfl (fun h21 => False.elim (by omega)) (fun h21 => ?_)
          refine PW.aload_n q_23_58 rfl ?_
          refine PW.aload_n q_23_59 rfl ?_
          refine PW.cV (as := [_]) (rest := []) q_23_60 t_mv_23_122 kd_256 I.1 (by decide) rfl (by decide) rfl rfl (Nat.le_of_ble_eq_true rfl) (Nat.le_of_ble_eq_true rfl) (by decide) (by decide) ?_
          refine PW.up (by decide) (c_X3_readWalker_vk (gTS) (StabS) G _ M I _ _ _ hp_0 hp_1 (by omega) fun x23 M22 IM22 GM22 hx23 kx23 PM22 TM22 => ?_)
          have FM22 := Fr.trans F GM22 (rfl)
          refine PW.rZ q_23_63 rfl (by omega) (by omega) (by decide) (by decide) ?_
          have e : k_line y A i = k_walker y A i := by unfold k_line; rw [if_neg PnM1, if_neg PnM7, if_neg PnM13, if_pos ⟨PbM19, PcM19⟩]
          exact hK x23 M22 IM22 FM22 (by omega) (by omega) (by rw [e]; exact PM22) (gWk.refl.tr TM22)
        · skip
          refine PW.jz_eq q_23_55 rfl (fun h24 => ?_) (fun h24 => False.elim (by omega))
          refine PW.aload_n q_23_64 rfl ?_
          refine PW.gets q_23_65 t_st_23_125 ?_
          refine PW.cV (as := [_]) (rest := []) q_23_68 t_mv_23_100 kd_1 I.1 (by decide) rfl (by decide) rfl rfl (Nat.le_of_ble_eq_true rfl) (Nat.le_of_ble_eq_true rfl) (by decide) (by decide) ?_
          refine PW.up (by decide) (c_X7_sees_vk (gTS) (StabS) G _ M I 5 (by decide) _ _ hp_0 fun x26  hx26 kx26 PM25 => ?_)
          rcases PM25 with ⟨PaM25, PbM25, PcM25⟩ | ⟨PaM25, PnM25⟩
          · skip
            refine PW.jz_eq q_23_71 rfl (fun h27 => False.elim (by omega)) (fun h27 => ?_)
            refine PW.aload_n q_23_74 rfl ?_
            refine PW.aload_n q_23_75 rfl ?_
            refine PW.cV (as := [_]) (rest := []) q_23_76 t_mv_23_128 kd_256 I.1 (by decide) rfl (by decide) rfl rfl (Nat.le_of_ble_eq_true rfl) (Nat.le_of_ble_eq_true rfl) (by decide) (by decide) ?_
            refine PW.up (by decide) (c_X3_readDog_vk G _ M I _ _ _ hp_0 hp_1 (by omega) fun x29 M28 IM28 GM28 hx29 kx29 PM28 TM28 => ?_)
            have FM28 := Fr.trans F GM28 (rfl)
            refine PW.rZ q_23_79 rfl (by omega) (by omega) (by decide) (by decide) ?_
            have e : k_line y A i = k_dog y A i := by unfold k_line; rw [if_neg PnM1, if_neg PnM7, if_neg PnM13, if_neg PnM19, if_pos ⟨PbM25, PcM25⟩]
            exact hK x29 M28 IM28 FM28 (by omega) (by omega) (by rw [e]; exact PM28) (gWk.refl.tr TM28)
          · skip
            refine PW.jz_eq q_23_71 rfl (fun h30 => ?_) (fun h30 => False.elim (by omega))
            refine PW.aload_n q_23_80 rfl ?_
            refine PW.gets q_23_81 t_st_23_131 ?_
            refine PW.cV (as := [_]) (rest := []) q_23_84 t_mv_23_100 kd_1 I.1 (by decide) rfl (by decide) rfl rfl (Nat.le_of_ble_eq_true rfl) (Nat.le_of_ble_eq_true rfl) (by decide) (by decide) ?_
            refine PW.up (by decide) (c_X7_sees_vk (gTS) (StabS) G _ M I 10 (by decide) _ _ hp_0 fun x32  hx32 kx32 PM31 => ?_)
            rcases PM31 with ⟨PaM31, PbM31, PcM31⟩ | ⟨PaM31, PnM31⟩
            · skip
              refine PW.jz_eq q_23_87 rfl (fun h33 => False.elim (by omega)) (fun h33 => ?_)
              refine PW.aload_n q_23_90 rfl ?_
              refine PW.aload_n q_23_91 rfl ?_
              refine PW.cV (as := [_]) (rest := []) q_23_92 t_mv_23_134 kd_256 I.1 (by decide) rfl (by decide) rfl rfl (Nat.le_of_ble_eq_true rfl) (Nat.le_of_ble_eq_true rfl) (by decide) (by decide) ?_
              refine PW.up (by decide) (c_X3_readTires_vk (gTS) (StabS) G _ M I _ _ _ hp_0 hp_1 (by omega) fun x35 M34 IM34 GM34 hx35 kx35 PM34 TM34 => ?_)
              have FM34 := Fr.trans F GM34 (rfl)
              refine PW.rZ q_23_95 rfl (by omega) (by omega) (by decide) (by decide) ?_
              have e : k_line y A i = k_tires y A i := by unfold k_line; rw [if_neg PnM1, if_neg PnM7, if_neg PnM13, if_neg PnM19, if_neg PnM25, if_pos ⟨PbM31, PcM31⟩]
              exact hK x35 M34 IM34 FM34 (by omega) (by omega) (by rw [e]; exact PM34) (gWk.refl.tr TM34)
            · skip
              refine PW.jz_eq q_23_87 rfl (fun h36 => ?_) (fun h36 => False.elim (by omega))
              refine PW.aload_n q_23_96 rfl ?_
              refine PW.cI q_23_97 (by decide) fun c37 hc37 => ?_
              refine PW.cV (as := [_]) (rest := []) q_23_98 t_mv_23_137 kd_1 I.1 (by decide) rfl (by decide) rfl rfl (Nat.le_of_ble_eq_true rfl) (Nat.le_of_ble_eq_true rfl) (by decide) (by decide) ?_
              refine PW.up (by decide) (c_X7_fail_vk (gTS) (StabS) G _ M I c37 _ _ hp_0 fun x39 M38 IM38 GM38 hx39 kx39 PM38 => ?_)
              have FM38 := Fr.trans F GM38 (rfl)
              rcases PM38 with ⟨PfM38, PgM38⟩
              refine PW.rZ q_23_101 rfl (by omega) (by omega) (by decide) (by decide) ?_
              have e : k_line y A i = (1, kP y i, A, i) := by unfold k_line; rw [if_neg PnM1, if_neg PnM7, if_neg PnM13, if_neg PnM19, if_neg PnM25, if_neg PnM31]
              exact hK x39 M38 IM38 FM38 (by omega) (by omega) (by rw [e]; exact Or.inr ⟨by omega, (by omega : (1 : Int) ≠ 0), (by omega : o_i (M38 1) 10 = 1), (by omega : o_i (M38 1) 11 = kP y i)⟩) (gWk.refl.fr GM38 (by decide))
theorem c_X3_forget_vk (G : pG) (Kr : pK) (M : pM) (I : Iv gTT M)  (hK : ∀ (M1 : pM), Iv gTS M1 → Fr [4] M M1 → k_cp M1 k_A0 → gWk M M1 → Kr.1 none 311 M1) : PW G false 0 20 (p_mc 20) (p_msl 20) Kr 0 (lv_args 0 [.ref 256]) [] 311 M 0 0 := by
  have F : Fr [4] M M := Fr.refl
  refine PW.aload_n q_20_0 rfl ?_
  refine PW.cI q_20_1 (by decide) fun c1 hc1 => ?_
  refine PW.pI q_20_2 (Or.inl t_ft_20_47) gF_4_0 gP_4_0 kd_256 Stab0 I (by decide) rfl (n_lo _) (n_hi _) fun M2 IM2 fM2 UM2 => ?_
  have FM2 := Fr.pu F UM2.1 kd_256 (rfl : List.contains [4] 4 = true)
  refine PW.aload_n q_20_5 rfl ?_
  refine PW.cS q_20_6 (by decide) fun c3 hc3 => ?_
  refine PW.pI q_20_9 (Or.inl t_ft_20_51) gF_4_1 gP_4_1 kd_256 Stab0 IM2 (by decide) rfl (n_lo _) (n_hi _) fun M4 IM4 fM4 UM4 => ?_
  have FM4 := Fr.pu FM2 UM4.1 kd_256 (rfl : List.contains [4] 4 = true)
  refine PW.aload_n q_20_12 rfl ?_
  refine PW.cI q_20_13 (by decide) fun c5 hc5 => ?_
  refine PW.pI q_20_14 (Or.inl t_ft_20_54) gF_4_2 gP_4_2 kd_256 Stab0 IM4 (by decide) rfl (n_lo _) (n_hi _) fun M6 IM6 fM6 UM6 => ?_
  have FM6 := Fr.pu FM4 UM6.1 kd_256 (rfl : List.contains [4] 4 = true)
  refine PW.aload_n q_20_17 rfl ?_
  refine PW.cI q_20_18 (by decide) fun c7 hc7 => ?_
  refine PW.pI q_20_19 (Or.inl t_ft_20_57) gF_4_3 gP_4_3 kd_256 Stab0 IM6 (by decide) rfl (n_lo _) (n_hi _) fun M8 IM8 fM8 UM8 => ?_
  have FM8 := Fr.pu FM6 UM8.1 kd_256 (rfl : List.contains [4] 4 = true)
  refine PW.aload_n q_20_22 rfl ?_
  refine PW.cI q_20_23 (by decide) fun c9 hc9 => ?_
  refine PW.pI q_20_24 (Or.inl t_ft_20_60) gF_4_4 gP_4_4 kd_256 Stab0 IM8 (by decide) rfl (by omega) (by omega) fun M10 IM10 fM10 UM10 => ?_
  have FM10 := Fr.pu FM8 UM10.1 kd_256 (rfl : List.contains [4] 4 = true)
  refine PW.aload_n q_20_27 rfl ?_
  refine PW.cI q_20_28 (by decide) fun c11 hc11 => ?_
  refine PW.pI q_20_29 (Or.inl t_ft_20_64) gF_4_5 gP_4_5 kd_256 Stab0 IM10 (by decide) rfl (by omega) (by omega) fun M12 IM12 fM12 UM12 => ?_
  have FM12 := Fr.pu FM10 UM12.1 kd_256 (rfl : List.contains [4] 4 = true)
  refine PW.aload_n q_20_32 rfl ?_
  refine PW.cI q_20_33 (by decide) fun c13 hc13 => ?_
  refine PW.pI q_20_34 (Or.inl t_ft_20_67) gF_4_6 gP_4_6 kd_256 Stab0 IM12 (by decide) rfl (by omega) (by omega) fun M14 IM14 fM14 UM14 => ?_
  have FM14 := Fr.pu FM12 UM14.1 kd_256 (rfl : List.contains [4] 4 = true)
  refine PW.aload_n q_20_37 rfl ?_
  refine PW.cI q_20_38 (by decide) fun c15 hc15 => ?_
  refine PW.pT q_20_39 (Or.inl t_ft_20_70) gF_4_7 gP_4_7 kd_256 IM14 (by decide) rfl (by omega) (by omega) fun M16 IM16 fM16 UM16 => ?_
  have FM16 := Fr.pu FM14 UM16.1 kd_256 (rfl : List.contains [4] 4 = true)
  refine PW.vret q_20_42 rfl (by decide) (by decide) ?_
  exact hK M16 ⟨IM16.1, IM16.2, fun i hi => by rw [o_i_of fM16] at hi; omega⟩ FM16 ⟨(by have w := (o_i_of ((UM16.f (Or.inr (by decide))).trans ((UM14.f (Or.inr (by decide))).trans ((UM12.f (Or.inr (by decide))).trans ((UM10.f (Or.inr (by decide))).trans ((UM8.f (Or.inr (by decide))).trans ((UM6.f (Or.inr (by decide))).trans ((UM4.f (Or.inr (by decide))).trans fM2)))))))); show o_i (M16 256) 0 = 0; omega), (by have w := (o_i_of ((UM16.f (Or.inr (by decide))).trans ((UM14.f (Or.inr (by decide))).trans ((UM12.f (Or.inr (by decide))).trans ((UM10.f (Or.inr (by decide))).trans ((UM8.f (Or.inr (by decide))).trans ((UM6.f (Or.inr (by decide))).trans fM4))))))); show o_i (M16 256) 1 = 400; omega), (by have w := (o_i_of ((UM16.f (Or.inr (by decide))).trans ((UM14.f (Or.inr (by decide))).trans ((UM12.f (Or.inr (by decide))).trans ((UM10.f (Or.inr (by decide))).trans ((UM8.f (Or.inr (by decide))).trans fM6)))))); show o_i (M16 256) 2 = 1; omega), (by have w := (o_i_of ((UM16.f (Or.inr (by decide))).trans ((UM14.f (Or.inr (by decide))).trans ((UM12.f (Or.inr (by decide))).trans ((UM10.f (Or.inr (by decide))).trans fM8))))); show o_i (M16 256) 3 = -1; omega), (by have w := (o_i_of ((UM16.f (Or.inr (by decide))).trans ((UM14.f (Or.inr (by decide))).trans ((UM12.f (Or.inr (by decide))).trans fM10)))); show o_i (M16 256) 4 = 0; omega), (by have w := (o_i_of ((UM16.f (Or.inr (by decide))).trans ((UM14.f (Or.inr (by decide))).trans fM12))); show o_i (M16 256) 5 = 0; omega), (by have w := (o_i_of ((UM16.f (Or.inr (by decide))).trans fM14)); show o_i (M16 256) 6 = 0; omega), (by have w := (o_i_of fM16); show o_i (M16 256) 7 = 0; omega), (fun j hj => by exfalso; have w : (j : Int) < 0 := hj; omega), (fun j hj => by exfalso; have w : (j : Int) < 0 := hj; omega), (fun j hj => by exfalso; have w : (j : Int) < 0 := hj; omega), (fun j hj => by exfalso; have w : (j : Int) < 0 := hj; omega)⟩ ((((((((gWk.refl.put UM2 (by decide)).put UM4 (by decide)).put UM6 (by decide)).put UM8 (by decide)).put UM10 (by decide)).put UM12 (by decide)).put UM14 (by decide)).put UM16 (by decide))
theorem k_ls_end {x : k_X} {A : k_A} {i : Nat} (h : kK x i = 0) : ∀ f, k_lines x f A i = (0, 0, A, i) := by
  intro f
  cases f with
  | zero => show (if kK x i = 0 then _ else _) = _; rw [if_pos h]
  | succ f => show (if kK x i = 0 then _ else _) = _; rw [if_pos h]
theorem k_line_bad {x : k_X} {A : k_A} {i : Nat} (h : kK x i ≠ 2) : k_line x A i = (1, kP x i, A, i) := by
  have hn : ∀ v : Int, ¬ (kK x i = 2 ∧ kV x i = v) := fun v q => h q.1
  unfold k_line
  rw [if_neg (hn _), if_neg (hn _), if_neg (hn _), if_neg (hn _), if_neg (hn _), if_neg (hn _)]
theorem k_ls_bad {x : k_X} {A : k_A} {i f : Nat} (h : kK x i ≠ 0) (h1 : f = 0 ∨ kK x i = 1) : k_lines x f A i = (1, kP x i, A, i) := by
  cases f with
  | zero => show (if kK x i = 0 then _ else _) = _; rw [if_neg h]
  | succ f =>
    have e := k_line_bad (x := x) (A := A) (i := i) (by omega)
    show (if kK x i = 0 then _ else if (k_line x A i).1 ≠ 0 then _ else _) = _
    rw [if_neg h, e, if_pos (show ¬ (1 : Int) = 0 by decide)]
theorem k_ls_f {x : k_X} {A : k_A} {i f : Nat} (h : kK x i ≠ 0) (h1 : (k_line x A i).1 ≠ 0) (hf : f ≠ 0) : k_lines x f A i = k_line x A i := by
  cases f with
  | zero => exact absurd rfl hf
  | succ f =>
    show (if kK x i = 0 then _ else if (k_line x A i).1 ≠ 0 then _ else _) = _
    rw [if_neg h, if_pos h1]
theorem k_ls_g {x : k_X} {A : k_A} {i f : Nat} (h : kK x i ≠ 0) (h1 : (k_line x A i).1 = 0) (hf : f ≠ 0) (h2 : ¬ (kK x (k_line x A i).2.2.2 = 5 ∧ kV x (k_line x A i).2.2.2 = 59)) : k_lines x f A i = (1, kP x (k_line x A i).2.2.2, A, i) := by
  cases f with
  | zero => exact absurd rfl hf
  | succ f =>
    show (if kK x i = 0 then _ else if (k_line x A i).1 ≠ 0 then _ else if _ then _ else _) = _
    rw [if_neg h, if_neg (fun q => q h1), if_neg h2]
theorem k_ls_s {x : k_X} {A : k_A} {i f : Nat} (h : kK x i ≠ 0) (h1 : (k_line x A i).1 = 0) (h2 : kK x (k_line x A i).2.2.2 = 5) (h3 : kV x (k_line x A i).2.2.2 = 59) : k_lines x (f + 1) A i = k_lines x f (va_up (k_line x A i).2.2.1.1 5 ((k_line x A i).2.2.1.1 5 + 1), (k_line x A i).2.2.1.2) ((k_line x A i).2.2.2 + 1) := by
  show (if kK x i = 0 then _ else if (k_line x A i).1 ≠ 0 then _ else if _ then _ else _) = _
  rw [if_neg h, if_neg (fun q => q h1), if_pos ⟨h2, h3⟩]
theorem k_len_5 (x : k_X) (A : k_A) (i : Nat) : (k_len x A i).2.2.1.1 5 = A.1 5 := by unfold k_len; split <;> (try split) <;> rfl
theorem k_body_5 (x : k_X) (A : k_A) (i : Nat) : (k_body x A i).2.2.1.1 5 = A.1 5 := by unfold k_body; split <;> (try split) <;> rfl
theorem k_keeps_5 (x : k_X) (A : k_A) (i : Nat) : (k_keeps x A i).2.2.1.1 5 = A.1 5 := by unfold k_keeps; split <;> (try split) <;> rfl
theorem k_walker_5 (x : k_X) (A : k_A) (i : Nat) : (k_walker x A i).2.2.1.1 5 = A.1 5 := by unfold k_walker; split <;> (try split) <;> (try split) <;> (try split) <;> (try split) <;> rfl
theorem k_dog_5 (x : k_X) (A : k_A) (i : Nat) : (k_dog x A i).2.2.1.1 5 = A.1 5 := by unfold k_dog; split <;> (try split) <;> (try split) <;> (try split) <;> (try split) <;> (try split) <;> (try split) <;> (try split) <;> rfl
theorem k_tires_5 (x : k_X) (A : k_A) (i : Nat) : (k_tires x A i).2.2.1.1 5 = A.1 5 := by unfold k_tires; split <;> (try split) <;> (try split) <;> (try split) <;> rfl
theorem k_line_5 (x : k_X) (A : k_A) (i : Nat) : (k_line x A i).2.2.1.1 5 = A.1 5 := by
  unfold k_line
  split
  · exact k_len_5 x A i
  split
  · exact k_body_5 x A i
  split
  · exact k_keeps_5 x A i
  split
  · exact k_walker_5 x A i
  split
  · exact k_dog_5 x A i
  split
  · exact k_tires_5 x A i
  · rfl
/-- between the lines -/
def k_li (x : k_X) (M : pM) (c : Int) : Prop := ∃ (A : k_A) (i : Nat), k_at x M i ∧ k_cp M A ∧ k_lines x 901 k_A0 0 = k_lines x (901 - c).toNat A i ∧ A.1 5 = c
theorem k_cp.ln {M M1 : pM} {A : k_A} (h : k_cp M A) (U : gU M M1 256 0) (e : o_i (M1 256) 0 = A.1 5 + 1) : k_cp M1 (va_up A.1 5 (A.1 5 + 1), A.2) := by
  obtain ⟨c0, c1, c2, c3, c4, c5, c6, c7, c8, c9, c10, c11⟩ := h
  exact ⟨e, (U.i (c := 256) (Or.inr (by decide))).trans c1, (U.i (c := 256) (Or.inr (by decide))).trans c2, (U.i (c := 256) (Or.inr (by decide))).trans c3, (U.i (c := 256) (Or.inr (by decide))).trans c4, (U.i (c := 256) (Or.inr (by decide))).trans c5, (U.i (c := 256) (Or.inr (by decide))).trans c6, (U.i (c := 256) (Or.inr (by decide))).trans c7,
    fun j hj => by rw [U.1 257 (by decide)]; exact c8 j hj, fun j hj => by rw [U.1 261 (by decide)]; exact c9 j hj, fun j hj => by rw [U.1 266 (by decide)]; exact c10 j hj, fun j hj => by rw [U.1 265 (by decide)]; exact c11 j hj⟩
theorem c_X3_read_vk (G : pG) (Kr : pK) (M : pM) (I : Iv gTT M) (y : k_X) (hp_0 : k_tp y M) (hp_1 : y.2.2 = 900) (hK : ∀ (x : Int32) (M1 : pM), Iv gTS M1 → Fr [1, 4, 27, 28, 29, 30, 31, 32, 33, 34, 35, 36] M M1 → 0 ≤ x.toInt → x.toInt ≤ 1 → k_cq y (k_lines y 901 k_A0 0) x M1 → gWk M M1 → Kr.1 (some (.int x)) 311 M1) : PW G false 6 22 (p_mc 22) (p_msl 22) Kr 0 (lv_args 0 [.ref 256, .ref 1]) [] 311 M 0 0 := by
  have F : Fr [1, 4, 27, 28, 29, 30, 31, 32, 33, 34, 35, 36] M M := Fr.refl
  refine PW.aload_n q_22_0 rfl ?_
  refine PW.cV (as := []) (rest := []) q_22_1 t_mv_22_44 kd_256 I.1 (by decide) rfl (by decide) rfl rfl (Nat.le_of_ble_eq_true rfl) (Nat.le_of_ble_eq_true rfl) (by decide) (by decide) ?_
  refine PW.up (by decide) (c_X3_forget_vk G _ M I fun M1 IM1 GM1 PqM1 TM1 => ?_)
  have FM1 := Fr.trans F GM1 (rfl)
  refine PW.aload_n q_22_4 rfl ?_
  refine PW.cS q_22_5 (by decide) fun c2 hc2 => ?_
  refine PW.cV (as := [_]) (rest := []) q_22_8 t_mv_22_73 kd_1 IM1.1 (by decide) rfl (by decide) rfl rfl (Nat.le_of_ble_eq_true rfl) (Nat.le_of_ble_eq_true rfl) (by decide) (by decide) ?_
  refine PW.up (by decide) (c_X7_startText_vk (gTS) (StabS) G _ M1 IM1 c2 _ ⟨(congrArg (fun e => o_i e 1) (Fr.at GM1 kd_1 (by decide))).trans hp_0.1, fun i hi => by rw [(Fr.at GM1 kd_2 (by decide))]; exact hp_0.2 i hi⟩ (by omega) fun M3 IM3 GM3 PM3 => ?_)
  have FM3 := Fr.trans FM1 GM3 (rfl)
  have PtM3 := PM3
  refine PW.cI q_22_11 (by decide) fun c4 hc4 => ?_
  refine PW.istore_n q_22_12 (by decide) ?_
  have L22_13_5 : ∀ (n : Nat) (ML22_13_5 : pM) (v6 : Int32), Iv (gTS) ML22_13_5 → Fr [1, 4, 27, 28, 29, 30, 31, 32, 33, 34, 35, 36] M ML22_13_5 → 0 ≤ v6.toInt → v6.toInt ≤ 901 → k_li y ML22_13_5 v6.toInt → gWk M ML22_13_5 → (901 - v6.toInt).toNat = n → PW G false 6 22 (p_mc 22) (p_msl 22) Kr 13 [(0, .ref 256), (1, .ref 1), (2, .int v6)] [] 311 ML22_13_5 0 0 := by
    intro n
    induction n using Nat.strongRecOn with
    | ind n ih_L22_13_5 =>
    intro ML22_13_5 v6 IML22_13_5 FML22_13_5 hbL22_13_50 hbL22_13_51 hbL22_13_52 hbL22_13_53 hmL22_13_5
    refine PW.iload_n q_22_13 rfl ?_
    obtain ⟨A, i, T, C, E, E5⟩ := hbL22_13_52
    refine PW.cS q_22_14 (by decide) fun c7 hc7 => ?_
    refine PW.jc_gt q_22_17 rfl (fun h8 => ?_) (fun h8 => ?_)
    · skip
      refine PW.aload_n q_22_62 rfl ?_
      refine PW.cV (as := []) (rest := []) q_22_63 t_mv_22_91 kd_1 IML22_13_5.1 (by decide) rfl (by decide) rfl rfl (Nat.le_of_ble_eq_true rfl) (Nat.le_of_ble_eq_true rfl) (by decide) (by decide) ?_
      refine PW.up (by decide) (c_X7_closes_vk (gTS) (StabS) G _ ML22_13_5 IML22_13_5 _ _ T fun x10 M9 IM9 GM9 hx10 kx10 PM9 => ?_)
      have FM9 := Fr.trans FML22_13_5 GM9 (rfl)
      rcases PM9 with ⟨PaM9, PbM9, PtM9⟩ | ⟨PaM9, PbM9, PfM9, PgM9⟩
      · skip
        refine PW.rZ q_22_66 rfl (by omega) (by omega) (by decide) (by decide) ?_
        exact hK x10 M9 IM9 FM9 (by omega) (by omega) (by rw [E, k_ls_end PbM9]; exact Or.inl ⟨by omega, rfl, PtM9, (C.cg (Fr.at GM9 kd_256 (by decide)) (Fr.at GM9 kd_257 (by decide)) (Fr.at GM9 kd_261 (by decide)) (Fr.at GM9 kd_266 (by decide)) (Fr.at GM9 kd_265 (by decide)))⟩) (hbL22_13_53.fr GM9 (by decide))
      · skip
        refine PW.rZ q_22_66 rfl (by omega) (by omega) (by decide) (by decide) ?_
        exact hK x10 M9 IM9 FM9 (by omega) (by omega) (by rw [E, k_ls_bad (by omega) (by omega)]; exact Or.inr ⟨by omega, (by omega : (1 : Int) ≠ 0), PfM9, PgM9⟩) (hbL22_13_53.fr GM9 (by decide))
    · skip
      refine PW.aload_n q_22_20 rfl ?_
      refine PW.cV (as := []) (rest := []) q_22_21 t_mv_22_79 kd_1 IML22_13_5.1 (by decide) rfl (by decide) rfl rfl (Nat.le_of_ble_eq_true rfl) (Nat.le_of_ble_eq_true rfl) (by decide) (by decide) ?_
      refine PW.up (by decide) (c_X7_atEnd_vk (gTS) (StabS) G _ ML22_13_5 IML22_13_5 _ _ T fun x12  hx12 kx12 PM11 => ?_)
      rcases PM11 with ⟨PaM11, PbM11⟩ | ⟨PaM11, PbM11⟩ | ⟨PaM11, PbM11⟩
      · skip
        refine PW.jz_ne q_22_24 rfl (fun h13 => ?_) (fun h13 => False.elim (by omega))
        refine PW.aload_n q_22_62 rfl ?_
        refine PW.cV (as := []) (rest := []) q_22_63 t_mv_22_91 kd_1 IML22_13_5.1 (by decide) rfl (by decide) rfl rfl (Nat.le_of_ble_eq_true rfl) (Nat.le_of_ble_eq_true rfl) (by decide) (by decide) ?_
        refine PW.up (by decide) (c_X7_closes_vk (gTS) (StabS) G _ ML22_13_5 IML22_13_5 _ _ T fun x15 M14 IM14 GM14 hx15 kx15 PM14 => ?_)
        have FM14 := Fr.trans FML22_13_5 GM14 (rfl)
        rcases PM14 with ⟨PaM14, PbM14, PtM14⟩ | ⟨PaM14, PbM14, PfM14, PgM14⟩
        · skip
          refine PW.rZ q_22_66 rfl (by omega) (by omega) (by decide) (by decide) ?_
          exact hK x15 M14 IM14 FM14 (by omega) (by omega) (by rw [E, k_ls_end PbM14]; exact Or.inl ⟨by omega, rfl, PtM14, (C.cg (Fr.at GM14 kd_256 (by decide)) (Fr.at GM14 kd_257 (by decide)) (Fr.at GM14 kd_261 (by decide)) (Fr.at GM14 kd_266 (by decide)) (Fr.at GM14 kd_265 (by decide)))⟩) (hbL22_13_53.fr GM14 (by decide))
        · skip
          refine PW.rZ q_22_66 rfl (by omega) (by omega) (by decide) (by decide) ?_
          exact hK x15 M14 IM14 FM14 (by omega) (by omega) (by rw [E, k_ls_bad (by omega) (by omega)]; exact Or.inr ⟨by omega, (by omega : (1 : Int) ≠ 0), PfM14, PgM14⟩) (hbL22_13_53.fr GM14 (by decide))
      · skip
        refine PW.jz_ne q_22_24 rfl (fun h16 => ?_) (fun h16 => False.elim (by omega))
        refine PW.aload_n q_22_62 rfl ?_
        refine PW.cV (as := []) (rest := []) q_22_63 t_mv_22_91 kd_1 IML22_13_5.1 (by decide) rfl (by decide) rfl rfl (Nat.le_of_ble_eq_true rfl) (Nat.le_of_ble_eq_true rfl) (by decide) (by decide) ?_
        refine PW.up (by decide) (c_X7_closes_vk (gTS) (StabS) G _ ML22_13_5 IML22_13_5 _ _ T fun x18 M17 IM17 GM17 hx18 kx18 PM17 => ?_)
        have FM17 := Fr.trans FML22_13_5 GM17 (rfl)
        rcases PM17 with ⟨PaM17, PbM17, PtM17⟩ | ⟨PaM17, PbM17, PfM17, PgM17⟩
        · skip
          refine PW.rZ q_22_66 rfl (by omega) (by omega) (by decide) (by decide) ?_
          exact hK x18 M17 IM17 FM17 (by omega) (by omega) (by rw [E, k_ls_end PbM17]; exact Or.inl ⟨by omega, rfl, PtM17, (C.cg (Fr.at GM17 kd_256 (by decide)) (Fr.at GM17 kd_257 (by decide)) (Fr.at GM17 kd_261 (by decide)) (Fr.at GM17 kd_266 (by decide)) (Fr.at GM17 kd_265 (by decide)))⟩) (hbL22_13_53.fr GM17 (by decide))
        · skip
          refine PW.rZ q_22_66 rfl (by omega) (by omega) (by decide) (by decide) ?_
          exact hK x18 M17 IM17 FM17 (by omega) (by omega) (by rw [E, k_ls_bad (by omega) (by omega)]; exact Or.inr ⟨by omega, (by omega : (1 : Int) ≠ 0), PfM17, PgM17⟩) (hbL22_13_53.fr GM17 (by decide))
      · skip
        refine PW.jz_ne q_22_24 rfl (fun h19 => False.elim (by omega)) (fun h19 => ?_)
        refine PW.aload_n q_22_27 rfl ?_
        refine PW.aload_n q_22_28 rfl ?_
        refine PW.cV (as := [_]) (rest := []) q_22_29 t_mv_22_83 kd_256 IML22_13_5.1 (by decide) rfl (by decide) rfl rfl (Nat.le_of_ble_eq_true rfl) (Nat.le_of_ble_eq_true rfl) (by decide) (by decide) ?_
        refine PW.up (by decide) (c_X3_readLine_vk G _ ML22_13_5 IML22_13_5 _ _ _ T C fun x21 M20 IM20 GM20 hx21 kx21 PM20 TM20 => ?_)
        have FM20 := Fr.trans FML22_13_5 GM20 (rfl)
        rcases PM20 with ⟨PaM20, PbM20, PtM20, PqM20⟩ | ⟨PaM20, PbM20, PfM20, PgM20⟩
        · skip
          refine PW.jz_eq q_22_32 rfl (fun h22 => False.elim (by omega)) (fun h22 => ?_)
          refine PW.aload_n q_22_35 rfl ?_
          refine PW.cB q_22_36 (by decide) fun c23 hc23 => ?_
          refine PW.cV (as := [_]) (rest := []) q_22_38 t_mv_22_87 kd_1 IM20.1 (by decide) rfl (by decide) rfl rfl (Nat.le_of_ble_eq_true rfl) (Nat.le_of_ble_eq_true rfl) (by decide) (by decide) ?_
          refine PW.up (by decide) (c_X7_needsSign_vk (gTS) (StabS) G _ M20 IM20 c23 _ _ PtM20 fun x25 M24 IM24 GM24 hx25 kx25 PM24 => ?_)
          have FM24 := Fr.trans FM20 GM24 (rfl)
          rcases PM24 with ⟨PaM24, PbM24, PcM24, PtM24⟩ | ⟨PaM24, PnM24, PfM24, PgM24⟩
          · skip
            refine PW.jz_ne q_22_41 rfl (fun h26 => ?_) (fun h26 => False.elim (by omega))
            refine PW.aload_n q_22_46 rfl ?_
            refine PW.dup q_22_47 rfl ?_
            refine PW.gI q_22_48 (Or.inl t_ft_22_47) gF_4_0 kd_256 IM24.1 (by decide) fun x27 fx27 hx27 kx27 => ?_
            have ix27 := o_i_of fx27
            clear hx27 kx27
            refine PW.cI q_22_51 (by decide) fun c28 hc28 => ?_
            refine PW.addX q_22_52 fun x29 hx29 => ?_
            refine PW.pI q_22_53 (Or.inl t_ft_22_47) gF_4_0 gP_4_0 kd_256 StabS IM24 (by decide) rfl (n_lo _) (n_hi _) fun M30 IM30 fM30 UM30 => ?_
            have FM30 := Fr.pu FM24 UM30.1 kd_256 (rfl : List.contains [1, 4, 27, 28, 29, 30, 31, 32, 33, 34, 35, 36] 4 = true)
            refine PW.incN q_22_56 rfl (by decide) (by decide) (by omega) (by omega) fun x31 hx31 => ?_
            refine PW.goto q_22_59 rfl ?_
            have l5 := k_line_5 y A i
            refine PW.lvS (lk1 rfl (lk1 rfl (lk1 rfl lk0))) (ih_L22_13_5 _ ?_ M30 x31 IM30 FM30 (by omega) (by omega) ⟨_, _, (k_at.cg PtM24 (UM30.1 1 (by decide)) (UM30.1 2 (by decide))), (k_cp.ln (PqM20.cg (Fr.at GM24 kd_256 (by decide)) (Fr.at GM24 kd_257 (by decide)) (Fr.at GM24 kd_261 (by decide)) (Fr.at GM24 kd_266 (by decide)) (Fr.at GM24 kd_265 (by decide))) UM30 (by have w := (o_i_of fM30); have w2 := (PqM20.cg (Fr.at GM24 kd_256 (by decide)) (Fr.at GM24 kd_257 (by decide)) (Fr.at GM24 kd_261 (by decide)) (Fr.at GM24 kd_266 (by decide)) (Fr.at GM24 kd_265 (by decide))).1; omega)), by rw [E, show (901 - v6.toInt).toNat = (901 - x31.toInt).toNat + 1 from by omega]; exact k_ls_s (by omega) PbM20 PbM24 (by omega), by show (k_line y A i).2.2.1.1 5 + 1 = x31.toInt; omega⟩ (((hbL22_13_53.tr TM20).fr GM24 (by decide)).put UM30 (by decide)) rfl)
            omega
          · skip
            refine PW.jz_ne q_22_41 rfl (fun h32 => False.elim (by omega)) (fun h32 => ?_)
            refine PW.cI q_22_44 (by decide) fun c33 hc33 => ?_
            refine PW.rZ q_22_45 rfl (by omega) (by omega) (by decide) (by decide) ?_
            exact hK c33 M24 IM24 FM24 (by omega) (by omega) (by rw [E, k_ls_g (by omega) PbM20 (by omega) (fun q => PnM24 ⟨q.1, q.2.trans (by omega)⟩)]; exact Or.inr ⟨by omega, (by omega : (1 : Int) ≠ 0), PfM24, PgM24⟩) ((hbL22_13_53.tr TM20).fr GM24 (by decide))
        · skip
          refine PW.jz_eq q_22_32 rfl (fun h34 => ?_) (fun h34 => False.elim (by omega))
          refine PW.cI q_22_44 (by decide) fun c35 hc35 => ?_
          refine PW.rZ q_22_45 rfl (by omega) (by omega) (by decide) (by decide) ?_
          exact hK c35 M20 IM20 FM20 (by omega) (by omega) (by rw [E, k_ls_f (by omega) PbM20 (by omega)]; exact Or.inr ⟨by omega, PbM20, PfM20, PgM20⟩) (hbL22_13_53.tr TM20)
  exact PW.lvS (lk1 rfl (lk1 rfl (lk1 rfl lk0))) (L22_13_5 _ M3 c4 IM3 FM3 (by omega) (by omega) ⟨k_A0, 0, PtM3, (PqM1.cg (Fr.at GM3 kd_256 (by decide)) (Fr.at GM3 kd_257 (by decide)) (Fr.at GM3 kd_261 (by decide)) (Fr.at GM3 kd_266 (by decide)) (Fr.at GM3 kd_265 (by decide))), by rw [show (901 - c4.toInt).toNat = 901 from by omega], by show (0 : Int) = c4.toInt; omega⟩ ((gWk.refl.tr TM1).fr GM3 (by decide)) rfl)
