theorem q_162_0 : p_tb 162 0 = some (.aload_n 0, 1) := by decide +kernel
theorem q_162_1 : p_tb 162 1 = some (.iconst 0, 1) := by decide +kernel
theorem q_162_2 : p_tb 162 2 = some (.putfield 1, 3) := by decide +kernel
theorem q_162_5 : p_tb 162 5 = some (.aload_n 0, 1) := by decide +kernel
theorem q_162_6 : p_tb 162 6 = some (.getfield 7, 3) := by decide +kernel
theorem q_162_9 : p_tb 162 9 = some (.bipush 20, 2) := by decide +kernel
theorem q_162_11 : p_tb 162 11 = some (.iadd, 1) := by decide +kernel
theorem q_162_12 : p_tb 162 12 = some (.sipush 940, 3) := by decide +kernel
theorem q_162_15 : p_tb 162 15 = some (.if_icmp .le 5, 3) := by decide +kernel
theorem q_162_18 : p_tb 162 18 = some (.iconst (-1), 1) := by decide +kernel
theorem q_162_19 : p_tb 162 19 = some (.ireturn, 1) := by decide +kernel
theorem q_162_20 : p_tb 162 20 = some (.aload_n 0, 1) := by decide +kernel
theorem q_162_21 : p_tb 162 21 = some (.iload_n 1, 1) := by decide +kernel
theorem q_162_22 : p_tb 162 22 = some (.invokevirtual 10, 3) := by decide +kernel
theorem q_162_25 : p_tb 162 25 = some (.aload_n 0, 1) := by decide +kernel
theorem q_162_26 : p_tb 162 26 = some (.iload_n 2, 1) := by decide +kernel
theorem q_162_27 : p_tb 162 27 = some (.invokevirtual 10, 3) := by decide +kernel
theorem q_162_30 : p_tb 162 30 = some (.aload_n 0, 1) := by decide +kernel
theorem q_162_31 : p_tb 162 31 = some (.iload_n 3, 1) := by decide +kernel
theorem q_162_32 : p_tb 162 32 = some (.invokevirtual 10, 3) := by decide +kernel
theorem q_162_35 : p_tb 162 35 = some (.aload_n 0, 1) := by decide +kernel
theorem q_162_36 : p_tb 162 36 = some (.iload 4, 2) := by decide +kernel
theorem q_162_38 : p_tb 162 38 = some (.invokevirtual 10, 3) := by decide +kernel
theorem q_162_41 : p_tb 162 41 = some (.aload_n 0, 1) := by decide +kernel
theorem q_162_42 : p_tb 162 42 = some (.iload 5, 2) := by decide +kernel
theorem q_162_44 : p_tb 162 44 = some (.invokevirtual 10, 3) := by decide +kernel
theorem q_162_47 : p_tb 162 47 = some (.aload_n 0, 1) := by decide +kernel
theorem q_162_48 : p_tb 162 48 = some (.getfield 7, 3) := by decide +kernel
theorem q_162_51 : p_tb 162 51 = some (.ireturn, 1) := by decide +kernel
theorem q_163_0 : p_tb 163 0 = some (.bipush 24, 2) := by decide +kernel
theorem q_163_2 : p_tb 163 2 = some (.istore_n 2, 1) := by decide +kernel
theorem q_163_3 : p_tb 163 3 = some (.iload_n 2, 1) := by decide +kernel
theorem q_163_4 : p_tb 163 4 = some (.ifCond .lt 32, 3) := by decide +kernel
theorem q_163_7 : p_tb 163 7 = some (.aload_n 0, 1) := by decide +kernel
theorem q_163_8 : p_tb 163 8 = some (.getfield 14, 3) := by decide +kernel
theorem q_163_11 : p_tb 163 11 = some (.aload_n 0, 1) := by decide +kernel
theorem q_163_12 : p_tb 163 12 = some (.getfield 7, 3) := by decide +kernel
theorem q_163_15 : p_tb 163 15 = some (.iload_n 1, 1) := by decide +kernel
theorem q_163_16 : p_tb 163 16 = some (.iload_n 2, 1) := by decide +kernel
theorem q_163_17 : p_tb 163 17 = some (.ishr, 1) := by decide +kernel
theorem q_163_18 : p_tb 163 18 = some (.i2b, 1) := by decide +kernel
theorem q_163_19 : p_tb 163 19 = some (.bastore, 1) := by decide +kernel
theorem q_163_20 : p_tb 163 20 = some (.aload_n 0, 1) := by decide +kernel
theorem q_163_21 : p_tb 163 21 = some (.dup, 1) := by decide +kernel
theorem q_163_22 : p_tb 163 22 = some (.getfield 7, 3) := by decide +kernel
theorem q_163_25 : p_tb 163 25 = some (.iconst 1, 1) := by decide +kernel
theorem q_163_26 : p_tb 163 26 = some (.iadd, 1) := by decide +kernel
theorem q_163_27 : p_tb 163 27 = some (.putfield 7, 3) := by decide +kernel
theorem q_163_30 : p_tb 163 30 = some (.iinc 2 (-8), 3) := by decide +kernel
theorem q_163_33 : p_tb 163 33 = some (.goto (-30), 3) := by decide +kernel
theorem q_163_36 : p_tb 163 36 = some (.return_, 1) := by decide +kernel
theorem t_ft_162_1 : p_f2 p_ft (p_mK 162) 1 = some (11, 0) := by decide +kernel
theorem t_ft_162_7 : p_f2 p_ft (p_mK 162) 7 = some (11, 2) := by decide +kernel
theorem t_ft_163_14 : p_f2 p_ft (p_mK 163) 14 = some (11, 1) := by decide +kernel
theorem t_ft_163_7 : p_f2 p_ft (p_mK 163) 7 = some (11, 2) := by decide +kernel
theorem t_mv_162_10 : p_f2 p_mv (p_mK 162) 10 = some 163 := by decide +kernel
theorem gC_41_0_939 : gC 41 0 939 (-128) 127 := gC.of (by decide +kernel)
theorem q_164_0 : p_tb 164 0 = some (.aload_n 0, 1) := by decide +kernel
theorem q_164_1 : p_tb 164 1 = some (.iconst 0, 1) := by decide +kernel
theorem q_164_2 : p_tb 164 2 = some (.putfield 1, 3) := by decide +kernel
theorem q_164_5 : p_tb 164 5 = some (.iload_n 1, 1) := by decide +kernel
theorem q_164_6 : p_tb 164 6 = some (.ifCond .lt 11, 3) := by decide +kernel
theorem q_164_9 : p_tb 164 9 = some (.iload_n 1, 1) := by decide +kernel
theorem q_164_10 : p_tb 164 10 = some (.aload_n 0, 1) := by decide +kernel
theorem q_164_11 : p_tb 164 11 = some (.getfield 7, 3) := by decide +kernel
theorem q_164_14 : p_tb 164 14 = some (.if_icmp .le 5, 3) := by decide +kernel
theorem q_164_17 : p_tb 164 17 = some (.iconst 0, 1) := by decide +kernel
theorem q_164_18 : p_tb 164 18 = some (.ireturn, 1) := by decide +kernel
theorem q_164_19 : p_tb 164 19 = some (.aload_n 0, 1) := by decide +kernel
theorem q_164_20 : p_tb 164 20 = some (.iload_n 1, 1) := by decide +kernel
theorem q_164_21 : p_tb 164 21 = some (.putfield 7, 3) := by decide +kernel
theorem q_164_24 : p_tb 164 24 = some (.iconst 1, 1) := by decide +kernel
theorem q_164_25 : p_tb 164 25 = some (.ireturn, 1) := by decide +kernel
theorem t_ft_164_1 : p_f2 p_ft (p_mK 164) 1 = some (11, 0) := by decide +kernel
theorem t_ft_164_7 : p_f2 p_ft (p_mK 164) 7 = some (11, 2) := by decide +kernel
theorem q_161_0 : p_tb 161 0 = some (.aload_n 0, 1) := by decide +kernel
theorem q_161_1 : p_tb 161 1 = some (.iload_n 1, 1) := by decide +kernel
theorem q_161_2 : p_tb 161 2 = some (.ifCond .eq 7, 3) := by decide +kernel
theorem q_161_5 : p_tb 161 5 = some (.iconst 1, 1) := by decide +kernel
theorem q_161_6 : p_tb 161 6 = some (.goto 4, 3) := by decide +kernel
theorem q_161_9 : p_tb 161 9 = some (.iconst 0, 1) := by decide +kernel
theorem q_161_10 : p_tb 161 10 = some (.putfield 1, 3) := by decide +kernel
theorem q_161_13 : p_tb 161 13 = some (.iload_n 1, 1) := by decide +kernel
theorem q_161_14 : p_tb 161 14 = some (.ireturn, 1) := by decide +kernel
theorem t_ft_161_1 : p_f2 p_ft (p_mK 161) 1 = some (11, 0) := by decide +kernel
theorem q_172_0 : p_tb 172 0 = some (.aload_n 0, 1) := by decide +kernel
theorem q_172_1 : p_tb 172 1 = some (.getfield 14, 3) := by decide +kernel
theorem q_172_4 : p_tb 172 4 = some (.iload_n 1, 1) := by decide +kernel
theorem q_172_5 : p_tb 172 5 = some (.baload, 1) := by decide +kernel
theorem q_172_6 : p_tb 172 6 = some (.sipush 255, 3) := by decide +kernel
theorem q_172_9 : p_tb 172 9 = some (.iand, 1) := by decide +kernel
theorem q_172_10 : p_tb 172 10 = some (.ireturn, 1) := by decide +kernel
theorem t_ft_172_14 : p_f2 p_ft (p_mK 172) 14 = some (11, 1) := by decide +kernel
/-- the reference's length stayed; is 0 (words that omega doesn't look into) -/
def gLq (M1 M : pM) : Prop := o_i (M1 294) 2 = o_i (M 294) 2
def gLz (M1 : pM) : Prop := o_i (M1 294) 2 = 0
theorem gLq.trans {M1 M2 : pM} {x : Int} (h : gLq M1 M2) (k : o_i (M2 294) 2 = x) : o_i (M1 294) 2 = x := Eq.trans h k
/-- the head of s stayed -/
def gHs (M1 M : pM) : Prop := ∀ z : Nat, z < 33 → o_a (M1 296) z = o_a (M 296) z
theorem gHs.refl {M : pM} : gHs M M := fun _ _ => rfl
theorem gHs.cg {M M1 M2 : pM} (h : gHs M1 M) (e : M2 296 = M1 296) : gHs M2 M := fun z hz => by rw [e]; exact h z hz
theorem gHs.st {M M1 M2 : pM} {q : Nat} (h : gHs M1 M) (U : gVv M1 M2 296 q) (hq : 33 ≤ q) : gHs M2 M := fun z hz => by rw [U.2 z (by omega)]; exact h z hz
theorem gHs.tr {M M1 M2 : pM} (h : gHs M1 M) (k : gHs M2 M1) : gHs M2 M := fun z hz => (k z hz).trans (h z hz)
/-- and the fault -/
def gHq (M1 M : pM) : Prop := gHs M1 M ∧ o_i (M1 294) 15 = o_i (M 294) 15
theorem gHq.refl {M : pM} : gHq M M := ⟨gHs.refl, rfl⟩
theorem gHq.cg {M M1 M2 : pM} (h : gHq M1 M) (e : M2 296 = M1 296) (e2 : M2 294 = M1 294) : gHq M2 M := ⟨h.1.cg e, by rw [e2]; exact h.2⟩
theorem gHq.pu {M M1 M2 : pM} {f : Nat} (h : gHq M1 M) (U : gU M1 M2 294 f) (hf : (15 : Nat) ≠ f) : gHq M2 M := ⟨h.1.cg (U.1 296 (by decide)), (U.i (c := 294) (k := 15) (Or.inr hf)).trans h.2⟩
theorem gHq.st {M M1 M2 : pM} {q : Nat} (h : gHq M1 M) (U : gVv M1 M2 296 q) (hq : 33 ≤ q) : gHq M2 M := ⟨h.1.st U hq, by rw [U.1 294 (by decide)]; exact h.2⟩
theorem gHq.tr {M M1 M2 : pM} (h : gHq M1 M) (k : gHq M2 M1) : gHq M2 M := ⟨h.1.tr k.1, k.2.trans h.2⟩
theorem c_X12_feed (V : pM → Prop) (hV : Stab V) (G : pG) (Kr : pK) (M : pM) (I : Iv V M) (a1 : Int32) (a2 : Int32) (a3 : Int32) (a4 : Int32) (a5 : Int32) (hK : ∀ (x : Int32) (M1 : pM), Iv V M1 → Fr [40, 41] M M1 → ((o_i (M 294) 2 + 20 ≤ 940 ∧ x.toInt = o_i (M 294) 2 + 20 ∧ o_i (M1 294) 2 = o_i (M 294) 2 + 20) ∨ (940 < o_i (M 294) 2 + 20 ∧ x.toInt = -1 ∧ o_i (M1 294) 2 = o_i (M 294) 2)) → Kr.1 (some (.int x)) 311 M1) : PW G false 1 162 (p_mc 162) (p_msl 162) Kr 0 (lv_args 0 [.ref 294, .int a1, .int a2, .int a3, .int a4, .int a5]) [] 311 M 0 0 := by
  have F : Fr [40, 41] M M := Fr.refl
  refine PW.aload_n q_162_0 rfl ?_
  refine PW.cI q_162_1 (by decide) fun c1 hc1 => ?_
  refine PW.pI q_162_2 (Or.inl t_ft_162_1) gF_40_0 gP_40_0 kd_294 hV I (by decide) rfl (n_lo _) (n_hi _) fun M2 IM2 fM2 UM2 => ?_
  have FM2 := Fr.pu F UM2.1 kd_294 (rfl : List.contains [40, 41] 40 = true)
  have tr3 := UM2.i (c := 294) (k := 2) (Or.inr (by decide))
  refine PW.aload_n q_162_5 rfl ?_
  refine PW.gI q_162_6 (Or.inl t_ft_162_7) gF_40_2 kd_294 IM2.1 (by decide) fun x4 fx4 hx4 kx4 => ?_
  have trx4 := o_i_of fx4
  refine PW.cB q_162_9 (by decide) fun c5 hc5 => ?_
  refine PW.addN q_162_11 (by omega) (by omega) fun x6 hx6 => ?_
  refine PW.cS q_162_12 (by decide) fun c7 hc7 => ?_
  refine PW.jc_le q_162_15 rfl (fun h8 => ?_) (fun h8 => ?_)
  · skip
    refine PW.aload_n q_162_20 rfl ?_
    refine PW.iload_n q_162_21 rfl ?_
    refine PW.cV (as := [_]) (rest := []) q_162_22 t_mv_162_10 kd_294 IM2.1 (by decide) rfl (by decide) rfl rfl (Nat.le_of_ble_eq_true rfl) (Nat.le_of_ble_eq_true rfl) (by decide) (by decide) ?_
    refine PW.cB q_163_0 (by decide) fun c9 hc9 => ?_
    refine PW.istore_n q_163_2 (by decide) ?_
    refine PW.iload_n q_163_3 rfl ?_
    refine PW.jz_lt q_163_4 rfl (fun h10 => False.elim (by omega)) (fun h10 => ?_)
    refine PW.aload_n q_163_7 rfl ?_
    refine PW.gR 295 q_163_8 (Or.inl t_ft_163_14) gF_40_1 kd_294 IM2.1 (by decide) rfl ?_
    refine PW.aload_n q_163_11 rfl ?_
    refine PW.gE q_163_12 (Or.inl t_ft_163_7) gF_40_2 kd_294 IM2.1 (by decide) fx4 ?_
    have tr11 := o_i_of fx4
    refine PW.iload_n q_163_15 rfl ?_
    refine PW.iload_n q_163_16 rfl ?_
    refine PW.shrH q_163_17 fun x12 => ?_
    refine PW.bH q_163_18 fun x13 => ?_
    -- index (0, 940) of 940 at X12_four 19
    refine PW.wY q_163_19 gA_41 kd_295 hV IM2 (by decide) rfl gC_41_0_939 (by omega) (by omega) fun M14 IM14 UM14 => ?_
    have FM14 := Fr.pu FM2 UM14.1 kd_295 (rfl : List.contains [40, 41] 41 = true)
    have tr15 : o_i (M14 294) 2 = o_i (M2 294) 2 := by rw [UM14.1 294 (g_ne kd_294 kd_295 (by decide))]
    refine PW.aload_n q_163_20 rfl ?_
    refine PW.dup q_163_21 rfl ?_
    refine PW.gE q_163_22 (Or.inl t_ft_163_7) gF_40_2 kd_294 IM14.1 (by decide) ((congrArg (fun e => o_f e 2) (UM14.1 _ (g_ne kd_294 kd_295 (by decide)))).trans fx4) ?_
    have tr16 := o_i_of ((congrArg (fun e => o_f e 2) (UM14.1 _ (g_ne kd_294 kd_295 (by decide)))).trans fx4)
    refine PW.cI q_163_25 (by decide) fun c17 hc17 => ?_
    refine PW.addN q_163_26 (by omega) (by omega) fun x18 hx18 => ?_
    refine PW.pI q_163_27 (Or.inl t_ft_163_7) gF_40_2 gP_40_2 kd_294 hV IM14 (by decide) rfl (by omega) (by omega) fun M19 IM19 fM19 UM19 => ?_
    have FM19 := Fr.pu FM14 UM19.1 kd_294 (rfl : List.contains [40, 41] 40 = true)
    have tr20 := o_i_of fM19
    refine PW.incN q_163_30 rfl (by decide) (by decide) (by omega) (by omega) fun x21 hx21 => ?_
    refine PW.goto q_163_33 rfl ?_
    refine PW.iload_n q_163_3 rfl ?_
    refine PW.jz_lt q_163_4 rfl (fun h22 => False.elim (by omega)) (fun h22 => ?_)
    refine PW.aload_n q_163_7 rfl ?_
    refine PW.gR 295 q_163_8 (Or.inl t_ft_163_14) gF_40_1 kd_294 IM19.1 (by decide) rfl ?_
    refine PW.aload_n q_163_11 rfl ?_
    refine PW.gE q_163_12 (Or.inl t_ft_163_7) gF_40_2 kd_294 IM19.1 (by decide) fM19 ?_
    have tr23 := o_i_of fM19
    refine PW.iload_n q_163_15 rfl ?_
    refine PW.iload_n q_163_16 rfl ?_
    refine PW.shrH q_163_17 fun x24 => ?_
    refine PW.bH q_163_18 fun x25 => ?_
    -- index (1, 941) of 940 at X12_four 19
    refine PW.wY q_163_19 gA_41 kd_295 hV IM19 (by decide) rfl gC_41_0_939 (by omega) (by omega) fun M26 IM26 UM26 => ?_
    have FM26 := Fr.pu FM19 UM26.1 kd_295 (rfl : List.contains [40, 41] 41 = true)
    have tr27 : o_i (M26 294) 2 = o_i (M19 294) 2 := by rw [UM26.1 294 (g_ne kd_294 kd_295 (by decide))]
    refine PW.aload_n q_163_20 rfl ?_
    refine PW.dup q_163_21 rfl ?_
    refine PW.gE q_163_22 (Or.inl t_ft_163_7) gF_40_2 kd_294 IM26.1 (by decide) ((congrArg (fun e => o_f e 2) (UM26.1 _ (g_ne kd_294 kd_295 (by decide)))).trans fM19) ?_
    have tr28 := o_i_of ((congrArg (fun e => o_f e 2) (UM26.1 _ (g_ne kd_294 kd_295 (by decide)))).trans fM19)
    refine PW.cI q_163_25 (by decide) fun c29 hc29 => ?_
    refine PW.addN q_163_26 (by omega) (by omega) fun x30 hx30 => ?_
    refine PW.pI q_163_27 (Or.inl t_ft_163_7) gF_40_2 gP_40_2 kd_294 hV IM26 (by decide) rfl (by omega) (by omega) fun M31 IM31 fM31 UM31 => ?_
    have FM31 := Fr.pu FM26 UM31.1 kd_294 (rfl : List.contains [40, 41] 40 = true)
    have tr32 := o_i_of fM31
    refine PW.incN q_163_30 rfl (by decide) (by decide) (by omega) (by omega) fun x33 hx33 => ?_
    refine PW.goto q_163_33 rfl ?_
    refine PW.iload_n q_163_3 rfl ?_
    refine PW.jz_lt q_163_4 rfl (fun h34 => False.elim (by omega)) (fun h34 => ?_)
    refine PW.aload_n q_163_7 rfl ?_
    refine PW.gR 295 q_163_8 (Or.inl t_ft_163_14) gF_40_1 kd_294 IM31.1 (by decide) rfl ?_
    refine PW.aload_n q_163_11 rfl ?_
    refine PW.gE q_163_12 (Or.inl t_ft_163_7) gF_40_2 kd_294 IM31.1 (by decide) fM31 ?_
    have tr35 := o_i_of fM31
    refine PW.iload_n q_163_15 rfl ?_
    refine PW.iload_n q_163_16 rfl ?_
    refine PW.shrH q_163_17 fun x36 => ?_
    refine PW.bH q_163_18 fun x37 => ?_
    -- index (2, 942) of 940 at X12_four 19
    refine PW.wY q_163_19 gA_41 kd_295 hV IM31 (by decide) rfl gC_41_0_939 (by omega) (by omega) fun M38 IM38 UM38 => ?_
    have FM38 := Fr.pu FM31 UM38.1 kd_295 (rfl : List.contains [40, 41] 41 = true)
    have tr39 : o_i (M38 294) 2 = o_i (M31 294) 2 := by rw [UM38.1 294 (g_ne kd_294 kd_295 (by decide))]
    refine PW.aload_n q_163_20 rfl ?_
    refine PW.dup q_163_21 rfl ?_
    refine PW.gE q_163_22 (Or.inl t_ft_163_7) gF_40_2 kd_294 IM38.1 (by decide) ((congrArg (fun e => o_f e 2) (UM38.1 _ (g_ne kd_294 kd_295 (by decide)))).trans fM31) ?_
    have tr40 := o_i_of ((congrArg (fun e => o_f e 2) (UM38.1 _ (g_ne kd_294 kd_295 (by decide)))).trans fM31)
    refine PW.cI q_163_25 (by decide) fun c41 hc41 => ?_
    refine PW.addN q_163_26 (by omega) (by omega) fun x42 hx42 => ?_
    refine PW.pI q_163_27 (Or.inl t_ft_163_7) gF_40_2 gP_40_2 kd_294 hV IM38 (by decide) rfl (by omega) (by omega) fun M43 IM43 fM43 UM43 => ?_
    have FM43 := Fr.pu FM38 UM43.1 kd_294 (rfl : List.contains [40, 41] 40 = true)
    have tr44 := o_i_of fM43
    refine PW.incN q_163_30 rfl (by decide) (by decide) (by omega) (by omega) fun x45 hx45 => ?_
    refine PW.goto q_163_33 rfl ?_
    refine PW.iload_n q_163_3 rfl ?_
    refine PW.jz_lt q_163_4 rfl (fun h46 => False.elim (by omega)) (fun h46 => ?_)
    refine PW.aload_n q_163_7 rfl ?_
    refine PW.gR 295 q_163_8 (Or.inl t_ft_163_14) gF_40_1 kd_294 IM43.1 (by decide) rfl ?_
    refine PW.aload_n q_163_11 rfl ?_
    refine PW.gE q_163_12 (Or.inl t_ft_163_7) gF_40_2 kd_294 IM43.1 (by decide) fM43 ?_
    have tr47 := o_i_of fM43
    refine PW.iload_n q_163_15 rfl ?_
    refine PW.iload_n q_163_16 rfl ?_
    refine PW.shrH q_163_17 fun x48 => ?_
    refine PW.bH q_163_18 fun x49 => ?_
    -- index (3, 943) of 940 at X12_four 19
    refine PW.wY q_163_19 gA_41 kd_295 hV IM43 (by decide) rfl gC_41_0_939 (by omega) (by omega) fun M50 IM50 UM50 => ?_
    have FM50 := Fr.pu FM43 UM50.1 kd_295 (rfl : List.contains [40, 41] 41 = true)
    have tr51 : o_i (M50 294) 2 = o_i (M43 294) 2 := by rw [UM50.1 294 (g_ne kd_294 kd_295 (by decide))]
    refine PW.aload_n q_163_20 rfl ?_
    refine PW.dup q_163_21 rfl ?_
    refine PW.gE q_163_22 (Or.inl t_ft_163_7) gF_40_2 kd_294 IM50.1 (by decide) ((congrArg (fun e => o_f e 2) (UM50.1 _ (g_ne kd_294 kd_295 (by decide)))).trans fM43) ?_
    have tr52 := o_i_of ((congrArg (fun e => o_f e 2) (UM50.1 _ (g_ne kd_294 kd_295 (by decide)))).trans fM43)
    refine PW.cI q_163_25 (by decide) fun c53 hc53 => ?_
    refine PW.addN q_163_26 (by omega) (by omega) fun x54 hx54 => ?_
    refine PW.pI q_163_27 (Or.inl t_ft_163_7) gF_40_2 gP_40_2 kd_294 hV IM50 (by decide) rfl (by omega) (by omega) fun M55 IM55 fM55 UM55 => ?_
    have FM55 := Fr.pu FM50 UM55.1 kd_294 (rfl : List.contains [40, 41] 40 = true)
    have tr56 := o_i_of fM55
    refine PW.incN q_163_30 rfl (by decide) (by decide) (by omega) (by omega) fun x57 hx57 => ?_
    refine PW.goto q_163_33 rfl ?_
    refine PW.iload_n q_163_3 rfl ?_
    refine PW.jz_lt q_163_4 rfl (fun h58 => ?_) (fun h58 => False.elim (by omega))
    refine PW.vret q_163_36 rfl (by decide) (by decide) ?_
    refine PW.aload_n q_162_25 rfl ?_
    refine PW.iload_n q_162_26 rfl ?_
    refine PW.cV (as := [_]) (rest := []) q_162_27 t_mv_162_10 kd_294 IM55.1 (by decide) rfl (by decide) rfl rfl (Nat.le_of_ble_eq_true rfl) (Nat.le_of_ble_eq_true rfl) (by decide) (by decide) ?_
    refine PW.cB q_163_0 (by decide) fun c59 hc59 => ?_
    refine PW.istore_n q_163_2 (by decide) ?_
    refine PW.iload_n q_163_3 rfl ?_
    refine PW.jz_lt q_163_4 rfl (fun h60 => False.elim (by omega)) (fun h60 => ?_)
    refine PW.aload_n q_163_7 rfl ?_
    refine PW.gR 295 q_163_8 (Or.inl t_ft_163_14) gF_40_1 kd_294 IM55.1 (by decide) rfl ?_
    refine PW.aload_n q_163_11 rfl ?_
    refine PW.gE q_163_12 (Or.inl t_ft_163_7) gF_40_2 kd_294 IM55.1 (by decide) fM55 ?_
    have tr61 := o_i_of fM55
    refine PW.iload_n q_163_15 rfl ?_
    refine PW.iload_n q_163_16 rfl ?_
    refine PW.shrH q_163_17 fun x62 => ?_
    refine PW.bH q_163_18 fun x63 => ?_
    -- index (4, 944) of 940 at X12_four 19
    refine PW.wY q_163_19 gA_41 kd_295 hV IM55 (by decide) rfl gC_41_0_939 (by omega) (by omega) fun M64 IM64 UM64 => ?_
    have FM64 := Fr.pu FM55 UM64.1 kd_295 (rfl : List.contains [40, 41] 41 = true)
    have tr65 : o_i (M64 294) 2 = o_i (M55 294) 2 := by rw [UM64.1 294 (g_ne kd_294 kd_295 (by decide))]
    refine PW.aload_n q_163_20 rfl ?_
    refine PW.dup q_163_21 rfl ?_
    refine PW.gE q_163_22 (Or.inl t_ft_163_7) gF_40_2 kd_294 IM64.1 (by decide) ((congrArg (fun e => o_f e 2) (UM64.1 _ (g_ne kd_294 kd_295 (by decide)))).trans fM55) ?_
    have tr66 := o_i_of ((congrArg (fun e => o_f e 2) (UM64.1 _ (g_ne kd_294 kd_295 (by decide)))).trans fM55)
    refine PW.cI q_163_25 (by decide) fun c67 hc67 => ?_
    refine PW.addN q_163_26 (by omega) (by omega) fun x68 hx68 => ?_
    refine PW.pI q_163_27 (Or.inl t_ft_163_7) gF_40_2 gP_40_2 kd_294 hV IM64 (by decide) rfl (by omega) (by omega) fun M69 IM69 fM69 UM69 => ?_
    have FM69 := Fr.pu FM64 UM69.1 kd_294 (rfl : List.contains [40, 41] 40 = true)
    have tr70 := o_i_of fM69
    refine PW.incN q_163_30 rfl (by decide) (by decide) (by omega) (by omega) fun x71 hx71 => ?_
    refine PW.goto q_163_33 rfl ?_
    refine PW.iload_n q_163_3 rfl ?_
    refine PW.jz_lt q_163_4 rfl (fun h72 => False.elim (by omega)) (fun h72 => ?_)
    refine PW.aload_n q_163_7 rfl ?_
    refine PW.gR 295 q_163_8 (Or.inl t_ft_163_14) gF_40_1 kd_294 IM69.1 (by decide) rfl ?_
    refine PW.aload_n q_163_11 rfl ?_
    refine PW.gE q_163_12 (Or.inl t_ft_163_7) gF_40_2 kd_294 IM69.1 (by decide) fM69 ?_
    have tr73 := o_i_of fM69
    refine PW.iload_n q_163_15 rfl ?_
    refine PW.iload_n q_163_16 rfl ?_
    refine PW.shrH q_163_17 fun x74 => ?_
    refine PW.bH q_163_18 fun x75 => ?_
    -- index (5, 945) of 940 at X12_four 19
    refine PW.wY q_163_19 gA_41 kd_295 hV IM69 (by decide) rfl gC_41_0_939 (by omega) (by omega) fun M76 IM76 UM76 => ?_
    have FM76 := Fr.pu FM69 UM76.1 kd_295 (rfl : List.contains [40, 41] 41 = true)
    have tr77 : o_i (M76 294) 2 = o_i (M69 294) 2 := by rw [UM76.1 294 (g_ne kd_294 kd_295 (by decide))]
    refine PW.aload_n q_163_20 rfl ?_
    refine PW.dup q_163_21 rfl ?_
    refine PW.gE q_163_22 (Or.inl t_ft_163_7) gF_40_2 kd_294 IM76.1 (by decide) ((congrArg (fun e => o_f e 2) (UM76.1 _ (g_ne kd_294 kd_295 (by decide)))).trans fM69) ?_
    have tr78 := o_i_of ((congrArg (fun e => o_f e 2) (UM76.1 _ (g_ne kd_294 kd_295 (by decide)))).trans fM69)
    refine PW.cI q_163_25 (by decide) fun c79 hc79 => ?_
    refine PW.addN q_163_26 (by omega) (by omega) fun x80 hx80 => ?_
    refine PW.pI q_163_27 (Or.inl t_ft_163_7) gF_40_2 gP_40_2 kd_294 hV IM76 (by decide) rfl (by omega) (by omega) fun M81 IM81 fM81 UM81 => ?_
    have FM81 := Fr.pu FM76 UM81.1 kd_294 (rfl : List.contains [40, 41] 40 = true)
    have tr82 := o_i_of fM81
    refine PW.incN q_163_30 rfl (by decide) (by decide) (by omega) (by omega) fun x83 hx83 => ?_
    refine PW.goto q_163_33 rfl ?_
    refine PW.iload_n q_163_3 rfl ?_
    refine PW.jz_lt q_163_4 rfl (fun h84 => False.elim (by omega)) (fun h84 => ?_)
    refine PW.aload_n q_163_7 rfl ?_
    refine PW.gR 295 q_163_8 (Or.inl t_ft_163_14) gF_40_1 kd_294 IM81.1 (by decide) rfl ?_
    refine PW.aload_n q_163_11 rfl ?_
    refine PW.gE q_163_12 (Or.inl t_ft_163_7) gF_40_2 kd_294 IM81.1 (by decide) fM81 ?_
    have tr85 := o_i_of fM81
    refine PW.iload_n q_163_15 rfl ?_
    refine PW.iload_n q_163_16 rfl ?_
    refine PW.shrH q_163_17 fun x86 => ?_
    refine PW.bH q_163_18 fun x87 => ?_
    -- index (6, 946) of 940 at X12_four 19
    refine PW.wY q_163_19 gA_41 kd_295 hV IM81 (by decide) rfl gC_41_0_939 (by omega) (by omega) fun M88 IM88 UM88 => ?_
    have FM88 := Fr.pu FM81 UM88.1 kd_295 (rfl : List.contains [40, 41] 41 = true)
    have tr89 : o_i (M88 294) 2 = o_i (M81 294) 2 := by rw [UM88.1 294 (g_ne kd_294 kd_295 (by decide))]
    refine PW.aload_n q_163_20 rfl ?_
    refine PW.dup q_163_21 rfl ?_
    refine PW.gE q_163_22 (Or.inl t_ft_163_7) gF_40_2 kd_294 IM88.1 (by decide) ((congrArg (fun e => o_f e 2) (UM88.1 _ (g_ne kd_294 kd_295 (by decide)))).trans fM81) ?_
    have tr90 := o_i_of ((congrArg (fun e => o_f e 2) (UM88.1 _ (g_ne kd_294 kd_295 (by decide)))).trans fM81)
    refine PW.cI q_163_25 (by decide) fun c91 hc91 => ?_
    refine PW.addN q_163_26 (by omega) (by omega) fun x92 hx92 => ?_
    refine PW.pI q_163_27 (Or.inl t_ft_163_7) gF_40_2 gP_40_2 kd_294 hV IM88 (by decide) rfl (by omega) (by omega) fun M93 IM93 fM93 UM93 => ?_
    have FM93 := Fr.pu FM88 UM93.1 kd_294 (rfl : List.contains [40, 41] 40 = true)
    have tr94 := o_i_of fM93
    refine PW.incN q_163_30 rfl (by decide) (by decide) (by omega) (by omega) fun x95 hx95 => ?_
    refine PW.goto q_163_33 rfl ?_
    refine PW.iload_n q_163_3 rfl ?_
    refine PW.jz_lt q_163_4 rfl (fun h96 => False.elim (by omega)) (fun h96 => ?_)
    refine PW.aload_n q_163_7 rfl ?_
    refine PW.gR 295 q_163_8 (Or.inl t_ft_163_14) gF_40_1 kd_294 IM93.1 (by decide) rfl ?_
    refine PW.aload_n q_163_11 rfl ?_
    refine PW.gE q_163_12 (Or.inl t_ft_163_7) gF_40_2 kd_294 IM93.1 (by decide) fM93 ?_
    have tr97 := o_i_of fM93
    refine PW.iload_n q_163_15 rfl ?_
    refine PW.iload_n q_163_16 rfl ?_
    refine PW.shrH q_163_17 fun x98 => ?_
    refine PW.bH q_163_18 fun x99 => ?_
    -- index (7, 947) of 940 at X12_four 19
    refine PW.wY q_163_19 gA_41 kd_295 hV IM93 (by decide) rfl gC_41_0_939 (by omega) (by omega) fun M100 IM100 UM100 => ?_
    have FM100 := Fr.pu FM93 UM100.1 kd_295 (rfl : List.contains [40, 41] 41 = true)
    have tr101 : o_i (M100 294) 2 = o_i (M93 294) 2 := by rw [UM100.1 294 (g_ne kd_294 kd_295 (by decide))]
    refine PW.aload_n q_163_20 rfl ?_
    refine PW.dup q_163_21 rfl ?_
    refine PW.gE q_163_22 (Or.inl t_ft_163_7) gF_40_2 kd_294 IM100.1 (by decide) ((congrArg (fun e => o_f e 2) (UM100.1 _ (g_ne kd_294 kd_295 (by decide)))).trans fM93) ?_
    have tr102 := o_i_of ((congrArg (fun e => o_f e 2) (UM100.1 _ (g_ne kd_294 kd_295 (by decide)))).trans fM93)
    refine PW.cI q_163_25 (by decide) fun c103 hc103 => ?_
    refine PW.addN q_163_26 (by omega) (by omega) fun x104 hx104 => ?_
    refine PW.pI q_163_27 (Or.inl t_ft_163_7) gF_40_2 gP_40_2 kd_294 hV IM100 (by decide) rfl (by omega) (by omega) fun M105 IM105 fM105 UM105 => ?_
    have FM105 := Fr.pu FM100 UM105.1 kd_294 (rfl : List.contains [40, 41] 40 = true)
    have tr106 := o_i_of fM105
    refine PW.incN q_163_30 rfl (by decide) (by decide) (by omega) (by omega) fun x107 hx107 => ?_
    refine PW.goto q_163_33 rfl ?_
    refine PW.iload_n q_163_3 rfl ?_
    refine PW.jz_lt q_163_4 rfl (fun h108 => ?_) (fun h108 => False.elim (by omega))
    refine PW.vret q_163_36 rfl (by decide) (by decide) ?_
    refine PW.aload_n q_162_30 rfl ?_
    refine PW.iload_n q_162_31 rfl ?_
    refine PW.cV (as := [_]) (rest := []) q_162_32 t_mv_162_10 kd_294 IM105.1 (by decide) rfl (by decide) rfl rfl (Nat.le_of_ble_eq_true rfl) (Nat.le_of_ble_eq_true rfl) (by decide) (by decide) ?_
    refine PW.cB q_163_0 (by decide) fun c109 hc109 => ?_
    refine PW.istore_n q_163_2 (by decide) ?_
    refine PW.iload_n q_163_3 rfl ?_
    refine PW.jz_lt q_163_4 rfl (fun h110 => False.elim (by omega)) (fun h110 => ?_)
    refine PW.aload_n q_163_7 rfl ?_
    refine PW.gR 295 q_163_8 (Or.inl t_ft_163_14) gF_40_1 kd_294 IM105.1 (by decide) rfl ?_
    refine PW.aload_n q_163_11 rfl ?_
    refine PW.gE q_163_12 (Or.inl t_ft_163_7) gF_40_2 kd_294 IM105.1 (by decide) fM105 ?_
    have tr111 := o_i_of fM105
    refine PW.iload_n q_163_15 rfl ?_
    refine PW.iload_n q_163_16 rfl ?_
    refine PW.shrH q_163_17 fun x112 => ?_
    refine PW.bH q_163_18 fun x113 => ?_
    -- index (8, 948) of 940 at X12_four 19
    refine PW.wY q_163_19 gA_41 kd_295 hV IM105 (by decide) rfl gC_41_0_939 (by omega) (by omega) fun M114 IM114 UM114 => ?_
    have FM114 := Fr.pu FM105 UM114.1 kd_295 (rfl : List.contains [40, 41] 41 = true)
    have tr115 : o_i (M114 294) 2 = o_i (M105 294) 2 := by rw [UM114.1 294 (g_ne kd_294 kd_295 (by decide))]
    refine PW.aload_n q_163_20 rfl ?_
    refine PW.dup q_163_21 rfl ?_
    refine PW.gE q_163_22 (Or.inl t_ft_163_7) gF_40_2 kd_294 IM114.1 (by decide) ((congrArg (fun e => o_f e 2) (UM114.1 _ (g_ne kd_294 kd_295 (by decide)))).trans fM105) ?_
    have tr116 := o_i_of ((congrArg (fun e => o_f e 2) (UM114.1 _ (g_ne kd_294 kd_295 (by decide)))).trans fM105)
    refine PW.cI q_163_25 (by decide) fun c117 hc117 => ?_
    refine PW.addN q_163_26 (by omega) (by omega) fun x118 hx118 => ?_
    refine PW.pI q_163_27 (Or.inl t_ft_163_7) gF_40_2 gP_40_2 kd_294 hV IM114 (by decide) rfl (by omega) (by omega) fun M119 IM119 fM119 UM119 => ?_
    have FM119 := Fr.pu FM114 UM119.1 kd_294 (rfl : List.contains [40, 41] 40 = true)
    have tr120 := o_i_of fM119
    refine PW.incN q_163_30 rfl (by decide) (by decide) (by omega) (by omega) fun x121 hx121 => ?_
    refine PW.goto q_163_33 rfl ?_
    refine PW.iload_n q_163_3 rfl ?_
    refine PW.jz_lt q_163_4 rfl (fun h122 => False.elim (by omega)) (fun h122 => ?_)
    refine PW.aload_n q_163_7 rfl ?_
    refine PW.gR 295 q_163_8 (Or.inl t_ft_163_14) gF_40_1 kd_294 IM119.1 (by decide) rfl ?_
    refine PW.aload_n q_163_11 rfl ?_
    refine PW.gE q_163_12 (Or.inl t_ft_163_7) gF_40_2 kd_294 IM119.1 (by decide) fM119 ?_
    have tr123 := o_i_of fM119
    refine PW.iload_n q_163_15 rfl ?_
    refine PW.iload_n q_163_16 rfl ?_
    refine PW.shrH q_163_17 fun x124 => ?_
    refine PW.bH q_163_18 fun x125 => ?_
    -- index (9, 949) of 940 at X12_four 19
    refine PW.wY q_163_19 gA_41 kd_295 hV IM119 (by decide) rfl gC_41_0_939 (by omega) (by omega) fun M126 IM126 UM126 => ?_
    have FM126 := Fr.pu FM119 UM126.1 kd_295 (rfl : List.contains [40, 41] 41 = true)
    have tr127 : o_i (M126 294) 2 = o_i (M119 294) 2 := by rw [UM126.1 294 (g_ne kd_294 kd_295 (by decide))]
    refine PW.aload_n q_163_20 rfl ?_
    refine PW.dup q_163_21 rfl ?_
    refine PW.gE q_163_22 (Or.inl t_ft_163_7) gF_40_2 kd_294 IM126.1 (by decide) ((congrArg (fun e => o_f e 2) (UM126.1 _ (g_ne kd_294 kd_295 (by decide)))).trans fM119) ?_
    have tr128 := o_i_of ((congrArg (fun e => o_f e 2) (UM126.1 _ (g_ne kd_294 kd_295 (by decide)))).trans fM119)
    refine PW.cI q_163_25 (by decide) fun c129 hc129 => ?_
    refine PW.addN q_163_26 (by omega) (by omega) fun x130 hx130 => ?_
    refine PW.pI q_163_27 (Or.inl t_ft_163_7) gF_40_2 gP_40_2 kd_294 hV IM126 (by decide) rfl (by omega) (by omega) fun M131 IM131 fM131 UM131 => ?_
    have FM131 := Fr.pu FM126 UM131.1 kd_294 (rfl : List.contains [40, 41] 40 = true)
    have tr132 := o_i_of fM131
    refine PW.incN q_163_30 rfl (by decide) (by decide) (by omega) (by omega) fun x133 hx133 => ?_
    refine PW.goto q_163_33 rfl ?_
    refine PW.iload_n q_163_3 rfl ?_
    refine PW.jz_lt q_163_4 rfl (fun h134 => False.elim (by omega)) (fun h134 => ?_)
    refine PW.aload_n q_163_7 rfl ?_
    refine PW.gR 295 q_163_8 (Or.inl t_ft_163_14) gF_40_1 kd_294 IM131.1 (by decide) rfl ?_
    refine PW.aload_n q_163_11 rfl ?_
    refine PW.gE q_163_12 (Or.inl t_ft_163_7) gF_40_2 kd_294 IM131.1 (by decide) fM131 ?_
    have tr135 := o_i_of fM131
    refine PW.iload_n q_163_15 rfl ?_
    refine PW.iload_n q_163_16 rfl ?_
    refine PW.shrH q_163_17 fun x136 => ?_
    refine PW.bH q_163_18 fun x137 => ?_
    -- index (10, 950) of 940 at X12_four 19
    refine PW.wY q_163_19 gA_41 kd_295 hV IM131 (by decide) rfl gC_41_0_939 (by omega) (by omega) fun M138 IM138 UM138 => ?_
    have FM138 := Fr.pu FM131 UM138.1 kd_295 (rfl : List.contains [40, 41] 41 = true)
    have tr139 : o_i (M138 294) 2 = o_i (M131 294) 2 := by rw [UM138.1 294 (g_ne kd_294 kd_295 (by decide))]
    refine PW.aload_n q_163_20 rfl ?_
    refine PW.dup q_163_21 rfl ?_
    refine PW.gE q_163_22 (Or.inl t_ft_163_7) gF_40_2 kd_294 IM138.1 (by decide) ((congrArg (fun e => o_f e 2) (UM138.1 _ (g_ne kd_294 kd_295 (by decide)))).trans fM131) ?_
    have tr140 := o_i_of ((congrArg (fun e => o_f e 2) (UM138.1 _ (g_ne kd_294 kd_295 (by decide)))).trans fM131)
    refine PW.cI q_163_25 (by decide) fun c141 hc141 => ?_
    refine PW.addN q_163_26 (by omega) (by omega) fun x142 hx142 => ?_
    refine PW.pI q_163_27 (Or.inl t_ft_163_7) gF_40_2 gP_40_2 kd_294 hV IM138 (by decide) rfl (by omega) (by omega) fun M143 IM143 fM143 UM143 => ?_
    have FM143 := Fr.pu FM138 UM143.1 kd_294 (rfl : List.contains [40, 41] 40 = true)
    have tr144 := o_i_of fM143
    refine PW.incN q_163_30 rfl (by decide) (by decide) (by omega) (by omega) fun x145 hx145 => ?_
    refine PW.goto q_163_33 rfl ?_
    refine PW.iload_n q_163_3 rfl ?_
    refine PW.jz_lt q_163_4 rfl (fun h146 => False.elim (by omega)) (fun h146 => ?_)
    refine PW.aload_n q_163_7 rfl ?_
    refine PW.gR 295 q_163_8 (Or.inl t_ft_163_14) gF_40_1 kd_294 IM143.1 (by decide) rfl ?_
    refine PW.aload_n q_163_11 rfl ?_
    refine PW.gE q_163_12 (Or.inl t_ft_163_7) gF_40_2 kd_294 IM143.1 (by decide) fM143 ?_
    have tr147 := o_i_of fM143
    refine PW.iload_n q_163_15 rfl ?_
    refine PW.iload_n q_163_16 rfl ?_
    refine PW.shrH q_163_17 fun x148 => ?_
    refine PW.bH q_163_18 fun x149 => ?_
    -- index (11, 951) of 940 at X12_four 19
    refine PW.wY q_163_19 gA_41 kd_295 hV IM143 (by decide) rfl gC_41_0_939 (by omega) (by omega) fun M150 IM150 UM150 => ?_
    have FM150 := Fr.pu FM143 UM150.1 kd_295 (rfl : List.contains [40, 41] 41 = true)
    have tr151 : o_i (M150 294) 2 = o_i (M143 294) 2 := by rw [UM150.1 294 (g_ne kd_294 kd_295 (by decide))]
    refine PW.aload_n q_163_20 rfl ?_
    refine PW.dup q_163_21 rfl ?_
    refine PW.gE q_163_22 (Or.inl t_ft_163_7) gF_40_2 kd_294 IM150.1 (by decide) ((congrArg (fun e => o_f e 2) (UM150.1 _ (g_ne kd_294 kd_295 (by decide)))).trans fM143) ?_
    have tr152 := o_i_of ((congrArg (fun e => o_f e 2) (UM150.1 _ (g_ne kd_294 kd_295 (by decide)))).trans fM143)
    refine PW.cI q_163_25 (by decide) fun c153 hc153 => ?_
    refine PW.addN q_163_26 (by omega) (by omega) fun x154 hx154 => ?_
    refine PW.pI q_163_27 (Or.inl t_ft_163_7) gF_40_2 gP_40_2 kd_294 hV IM150 (by decide) rfl (by omega) (by omega) fun M155 IM155 fM155 UM155 => ?_
    have FM155 := Fr.pu FM150 UM155.1 kd_294 (rfl : List.contains [40, 41] 40 = true)
    have tr156 := o_i_of fM155
    refine PW.incN q_163_30 rfl (by decide) (by decide) (by omega) (by omega) fun x157 hx157 => ?_
    refine PW.goto q_163_33 rfl ?_
    refine PW.iload_n q_163_3 rfl ?_
    refine PW.jz_lt q_163_4 rfl (fun h158 => ?_) (fun h158 => False.elim (by omega))
    refine PW.vret q_163_36 rfl (by decide) (by decide) ?_
    refine PW.aload_n q_162_35 rfl ?_
    refine PW.iload q_162_36 rfl ?_
    refine PW.cV (as := [_]) (rest := []) q_162_38 t_mv_162_10 kd_294 IM155.1 (by decide) rfl (by decide) rfl rfl (Nat.le_of_ble_eq_true rfl) (Nat.le_of_ble_eq_true rfl) (by decide) (by decide) ?_
    refine PW.cB q_163_0 (by decide) fun c159 hc159 => ?_
    refine PW.istore_n q_163_2 (by decide) ?_
    refine PW.iload_n q_163_3 rfl ?_
    refine PW.jz_lt q_163_4 rfl (fun h160 => False.elim (by omega)) (fun h160 => ?_)
    refine PW.aload_n q_163_7 rfl ?_
    refine PW.gR 295 q_163_8 (Or.inl t_ft_163_14) gF_40_1 kd_294 IM155.1 (by decide) rfl ?_
    refine PW.aload_n q_163_11 rfl ?_
    refine PW.gE q_163_12 (Or.inl t_ft_163_7) gF_40_2 kd_294 IM155.1 (by decide) fM155 ?_
    have tr161 := o_i_of fM155
    refine PW.iload_n q_163_15 rfl ?_
    refine PW.iload_n q_163_16 rfl ?_
    refine PW.shrH q_163_17 fun x162 => ?_
    refine PW.bH q_163_18 fun x163 => ?_
    -- index (12, 952) of 940 at X12_four 19
    refine PW.wY q_163_19 gA_41 kd_295 hV IM155 (by decide) rfl gC_41_0_939 (by omega) (by omega) fun M164 IM164 UM164 => ?_
    have FM164 := Fr.pu FM155 UM164.1 kd_295 (rfl : List.contains [40, 41] 41 = true)
    have tr165 : o_i (M164 294) 2 = o_i (M155 294) 2 := by rw [UM164.1 294 (g_ne kd_294 kd_295 (by decide))]
    refine PW.aload_n q_163_20 rfl ?_
    refine PW.dup q_163_21 rfl ?_
    refine PW.gE q_163_22 (Or.inl t_ft_163_7) gF_40_2 kd_294 IM164.1 (by decide) ((congrArg (fun e => o_f e 2) (UM164.1 _ (g_ne kd_294 kd_295 (by decide)))).trans fM155) ?_
    have tr166 := o_i_of ((congrArg (fun e => o_f e 2) (UM164.1 _ (g_ne kd_294 kd_295 (by decide)))).trans fM155)
    refine PW.cI q_163_25 (by decide) fun c167 hc167 => ?_
    refine PW.addN q_163_26 (by omega) (by omega) fun x168 hx168 => ?_
    refine PW.pI q_163_27 (Or.inl t_ft_163_7) gF_40_2 gP_40_2 kd_294 hV IM164 (by decide) rfl (by omega) (by omega) fun M169 IM169 fM169 UM169 => ?_
    have FM169 := Fr.pu FM164 UM169.1 kd_294 (rfl : List.contains [40, 41] 40 = true)
    have tr170 := o_i_of fM169
    refine PW.incN q_163_30 rfl (by decide) (by decide) (by omega) (by omega) fun x171 hx171 => ?_
    refine PW.goto q_163_33 rfl ?_
    refine PW.iload_n q_163_3 rfl ?_
    refine PW.jz_lt q_163_4 rfl (fun h172 => False.elim (by omega)) (fun h172 => ?_)
    refine PW.aload_n q_163_7 rfl ?_
    refine PW.gR 295 q_163_8 (Or.inl t_ft_163_14) gF_40_1 kd_294 IM169.1 (by decide) rfl ?_
    refine PW.aload_n q_163_11 rfl ?_
    refine PW.gE q_163_12 (Or.inl t_ft_163_7) gF_40_2 kd_294 IM169.1 (by decide) fM169 ?_
    have tr173 := o_i_of fM169
    refine PW.iload_n q_163_15 rfl ?_
    refine PW.iload_n q_163_16 rfl ?_
    refine PW.shrH q_163_17 fun x174 => ?_
    refine PW.bH q_163_18 fun x175 => ?_
    -- index (13, 953) of 940 at X12_four 19
    refine PW.wY q_163_19 gA_41 kd_295 hV IM169 (by decide) rfl gC_41_0_939 (by omega) (by omega) fun M176 IM176 UM176 => ?_
    have FM176 := Fr.pu FM169 UM176.1 kd_295 (rfl : List.contains [40, 41] 41 = true)
    have tr177 : o_i (M176 294) 2 = o_i (M169 294) 2 := by rw [UM176.1 294 (g_ne kd_294 kd_295 (by decide))]
    refine PW.aload_n q_163_20 rfl ?_
    refine PW.dup q_163_21 rfl ?_
    refine PW.gE q_163_22 (Or.inl t_ft_163_7) gF_40_2 kd_294 IM176.1 (by decide) ((congrArg (fun e => o_f e 2) (UM176.1 _ (g_ne kd_294 kd_295 (by decide)))).trans fM169) ?_
    have tr178 := o_i_of ((congrArg (fun e => o_f e 2) (UM176.1 _ (g_ne kd_294 kd_295 (by decide)))).trans fM169)
    refine PW.cI q_163_25 (by decide) fun c179 hc179 => ?_
    refine PW.addN q_163_26 (by omega) (by omega) fun x180 hx180 => ?_
    refine PW.pI q_163_27 (Or.inl t_ft_163_7) gF_40_2 gP_40_2 kd_294 hV IM176 (by decide) rfl (by omega) (by omega) fun M181 IM181 fM181 UM181 => ?_
    have FM181 := Fr.pu FM176 UM181.1 kd_294 (rfl : List.contains [40, 41] 40 = true)
    have tr182 := o_i_of fM181
    refine PW.incN q_163_30 rfl (by decide) (by decide) (by omega) (by omega) fun x183 hx183 => ?_
    refine PW.goto q_163_33 rfl ?_
    refine PW.iload_n q_163_3 rfl ?_
    refine PW.jz_lt q_163_4 rfl (fun h184 => False.elim (by omega)) (fun h184 => ?_)
    refine PW.aload_n q_163_7 rfl ?_
    refine PW.gR 295 q_163_8 (Or.inl t_ft_163_14) gF_40_1 kd_294 IM181.1 (by decide) rfl ?_
    refine PW.aload_n q_163_11 rfl ?_
    refine PW.gE q_163_12 (Or.inl t_ft_163_7) gF_40_2 kd_294 IM181.1 (by decide) fM181 ?_
    have tr185 := o_i_of fM181
    refine PW.iload_n q_163_15 rfl ?_
    refine PW.iload_n q_163_16 rfl ?_
    refine PW.shrH q_163_17 fun x186 => ?_
    refine PW.bH q_163_18 fun x187 => ?_
    -- index (14, 954) of 940 at X12_four 19
    refine PW.wY q_163_19 gA_41 kd_295 hV IM181 (by decide) rfl gC_41_0_939 (by omega) (by omega) fun M188 IM188 UM188 => ?_
    have FM188 := Fr.pu FM181 UM188.1 kd_295 (rfl : List.contains [40, 41] 41 = true)
    have tr189 : o_i (M188 294) 2 = o_i (M181 294) 2 := by rw [UM188.1 294 (g_ne kd_294 kd_295 (by decide))]
    refine PW.aload_n q_163_20 rfl ?_
    refine PW.dup q_163_21 rfl ?_
    refine PW.gE q_163_22 (Or.inl t_ft_163_7) gF_40_2 kd_294 IM188.1 (by decide) ((congrArg (fun e => o_f e 2) (UM188.1 _ (g_ne kd_294 kd_295 (by decide)))).trans fM181) ?_
    have tr190 := o_i_of ((congrArg (fun e => o_f e 2) (UM188.1 _ (g_ne kd_294 kd_295 (by decide)))).trans fM181)
    refine PW.cI q_163_25 (by decide) fun c191 hc191 => ?_
    refine PW.addN q_163_26 (by omega) (by omega) fun x192 hx192 => ?_
    refine PW.pI q_163_27 (Or.inl t_ft_163_7) gF_40_2 gP_40_2 kd_294 hV IM188 (by decide) rfl (by omega) (by omega) fun M193 IM193 fM193 UM193 => ?_
    have FM193 := Fr.pu FM188 UM193.1 kd_294 (rfl : List.contains [40, 41] 40 = true)
    have tr194 := o_i_of fM193
    refine PW.incN q_163_30 rfl (by decide) (by decide) (by omega) (by omega) fun x195 hx195 => ?_
    refine PW.goto q_163_33 rfl ?_
    refine PW.iload_n q_163_3 rfl ?_
    refine PW.jz_lt q_163_4 rfl (fun h196 => False.elim (by omega)) (fun h196 => ?_)
    refine PW.aload_n q_163_7 rfl ?_
    refine PW.gR 295 q_163_8 (Or.inl t_ft_163_14) gF_40_1 kd_294 IM193.1 (by decide) rfl ?_
    refine PW.aload_n q_163_11 rfl ?_
    refine PW.gE q_163_12 (Or.inl t_ft_163_7) gF_40_2 kd_294 IM193.1 (by decide) fM193 ?_
    have tr197 := o_i_of fM193
    refine PW.iload_n q_163_15 rfl ?_
    refine PW.iload_n q_163_16 rfl ?_
    refine PW.shrH q_163_17 fun x198 => ?_
    refine PW.bH q_163_18 fun x199 => ?_
    -- index (15, 955) of 940 at X12_four 19
    refine PW.wY q_163_19 gA_41 kd_295 hV IM193 (by decide) rfl gC_41_0_939 (by omega) (by omega) fun M200 IM200 UM200 => ?_
    have FM200 := Fr.pu FM193 UM200.1 kd_295 (rfl : List.contains [40, 41] 41 = true)
    have tr201 : o_i (M200 294) 2 = o_i (M193 294) 2 := by rw [UM200.1 294 (g_ne kd_294 kd_295 (by decide))]
    refine PW.aload_n q_163_20 rfl ?_
    refine PW.dup q_163_21 rfl ?_
    refine PW.gE q_163_22 (Or.inl t_ft_163_7) gF_40_2 kd_294 IM200.1 (by decide) ((congrArg (fun e => o_f e 2) (UM200.1 _ (g_ne kd_294 kd_295 (by decide)))).trans fM193) ?_
    have tr202 := o_i_of ((congrArg (fun e => o_f e 2) (UM200.1 _ (g_ne kd_294 kd_295 (by decide)))).trans fM193)
    refine PW.cI q_163_25 (by decide) fun c203 hc203 => ?_
    refine PW.addN q_163_26 (by omega) (by omega) fun x204 hx204 => ?_
    refine PW.pI q_163_27 (Or.inl t_ft_163_7) gF_40_2 gP_40_2 kd_294 hV IM200 (by decide) rfl (by omega) (by omega) fun M205 IM205 fM205 UM205 => ?_
    have FM205 := Fr.pu FM200 UM205.1 kd_294 (rfl : List.contains [40, 41] 40 = true)
    have tr206 := o_i_of fM205
    refine PW.incN q_163_30 rfl (by decide) (by decide) (by omega) (by omega) fun x207 hx207 => ?_
    refine PW.goto q_163_33 rfl ?_
    refine PW.iload_n q_163_3 rfl ?_
    refine PW.jz_lt q_163_4 rfl (fun h208 => ?_) (fun h208 => False.elim (by omega))
    refine PW.vret q_163_36 rfl (by decide) (by decide) ?_
    refine PW.aload_n q_162_41 rfl ?_
    refine PW.iload q_162_42 rfl ?_
    refine PW.cV (as := [_]) (rest := []) q_162_44 t_mv_162_10 kd_294 IM205.1 (by decide) rfl (by decide) rfl rfl (Nat.le_of_ble_eq_true rfl) (Nat.le_of_ble_eq_true rfl) (by decide) (by decide) ?_
    refine PW.cB q_163_0 (by decide) fun c209 hc209 => ?_
    refine PW.istore_n q_163_2 (by decide) ?_
    refine PW.iload_n q_163_3 rfl ?_
    refine PW.jz_lt q_163_4 rfl (fun h210 => False.elim (by omega)) (fun h210 => ?_)
    refine PW.aload_n q_163_7 rfl ?_
    refine PW.gR 295 q_163_8 (Or.inl t_ft_163_14) gF_40_1 kd_294 IM205.1 (by decide) rfl ?_
    refine PW.aload_n q_163_11 rfl ?_
    refine PW.gE q_163_12 (Or.inl t_ft_163_7) gF_40_2 kd_294 IM205.1 (by decide) fM205 ?_
    have tr211 := o_i_of fM205
    refine PW.iload_n q_163_15 rfl ?_
    refine PW.iload_n q_163_16 rfl ?_
    refine PW.shrH q_163_17 fun x212 => ?_
    refine PW.bH q_163_18 fun x213 => ?_
    -- index (16, 956) of 940 at X12_four 19
    refine PW.wY q_163_19 gA_41 kd_295 hV IM205 (by decide) rfl gC_41_0_939 (by omega) (by omega) fun M214 IM214 UM214 => ?_
    have FM214 := Fr.pu FM205 UM214.1 kd_295 (rfl : List.contains [40, 41] 41 = true)
    have tr215 : o_i (M214 294) 2 = o_i (M205 294) 2 := by rw [UM214.1 294 (g_ne kd_294 kd_295 (by decide))]
    refine PW.aload_n q_163_20 rfl ?_
    refine PW.dup q_163_21 rfl ?_
    refine PW.gE q_163_22 (Or.inl t_ft_163_7) gF_40_2 kd_294 IM214.1 (by decide) ((congrArg (fun e => o_f e 2) (UM214.1 _ (g_ne kd_294 kd_295 (by decide)))).trans fM205) ?_
    have tr216 := o_i_of ((congrArg (fun e => o_f e 2) (UM214.1 _ (g_ne kd_294 kd_295 (by decide)))).trans fM205)
    refine PW.cI q_163_25 (by decide) fun c217 hc217 => ?_
    refine PW.addN q_163_26 (by omega) (by omega) fun x218 hx218 => ?_
    refine PW.pI q_163_27 (Or.inl t_ft_163_7) gF_40_2 gP_40_2 kd_294 hV IM214 (by decide) rfl (by omega) (by omega) fun M219 IM219 fM219 UM219 => ?_
    have FM219 := Fr.pu FM214 UM219.1 kd_294 (rfl : List.contains [40, 41] 40 = true)
    have tr220 := o_i_of fM219
    refine PW.incN q_163_30 rfl (by decide) (by decide) (by omega) (by omega) fun x221 hx221 => ?_
    refine PW.goto q_163_33 rfl ?_
    refine PW.iload_n q_163_3 rfl ?_
    refine PW.jz_lt q_163_4 rfl (fun h222 => False.elim (by omega)) (fun h222 => ?_)
    refine PW.aload_n q_163_7 rfl ?_
    refine PW.gR 295 q_163_8 (Or.inl t_ft_163_14) gF_40_1 kd_294 IM219.1 (by decide) rfl ?_
    refine PW.aload_n q_163_11 rfl ?_
    refine PW.gE q_163_12 (Or.inl t_ft_163_7) gF_40_2 kd_294 IM219.1 (by decide) fM219 ?_
    have tr223 := o_i_of fM219
    refine PW.iload_n q_163_15 rfl ?_
    refine PW.iload_n q_163_16 rfl ?_
    refine PW.shrH q_163_17 fun x224 => ?_
    refine PW.bH q_163_18 fun x225 => ?_
    -- index (17, 957) of 940 at X12_four 19
    refine PW.wY q_163_19 gA_41 kd_295 hV IM219 (by decide) rfl gC_41_0_939 (by omega) (by omega) fun M226 IM226 UM226 => ?_
    have FM226 := Fr.pu FM219 UM226.1 kd_295 (rfl : List.contains [40, 41] 41 = true)
    have tr227 : o_i (M226 294) 2 = o_i (M219 294) 2 := by rw [UM226.1 294 (g_ne kd_294 kd_295 (by decide))]
    refine PW.aload_n q_163_20 rfl ?_
    refine PW.dup q_163_21 rfl ?_
    refine PW.gE q_163_22 (Or.inl t_ft_163_7) gF_40_2 kd_294 IM226.1 (by decide) ((congrArg (fun e => o_f e 2) (UM226.1 _ (g_ne kd_294 kd_295 (by decide)))).trans fM219) ?_
    have tr228 := o_i_of ((congrArg (fun e => o_f e 2) (UM226.1 _ (g_ne kd_294 kd_295 (by decide)))).trans fM219)
    refine PW.cI q_163_25 (by decide) fun c229 hc229 => ?_
    refine PW.addN q_163_26 (by omega) (by omega) fun x230 hx230 => ?_
    refine PW.pI q_163_27 (Or.inl t_ft_163_7) gF_40_2 gP_40_2 kd_294 hV IM226 (by decide) rfl (by omega) (by omega) fun M231 IM231 fM231 UM231 => ?_
    have FM231 := Fr.pu FM226 UM231.1 kd_294 (rfl : List.contains [40, 41] 40 = true)
    have tr232 := o_i_of fM231
    refine PW.incN q_163_30 rfl (by decide) (by decide) (by omega) (by omega) fun x233 hx233 => ?_
    refine PW.goto q_163_33 rfl ?_
    refine PW.iload_n q_163_3 rfl ?_
    refine PW.jz_lt q_163_4 rfl (fun h234 => False.elim (by omega)) (fun h234 => ?_)
    refine PW.aload_n q_163_7 rfl ?_
    refine PW.gR 295 q_163_8 (Or.inl t_ft_163_14) gF_40_1 kd_294 IM231.1 (by decide) rfl ?_
    refine PW.aload_n q_163_11 rfl ?_
    refine PW.gE q_163_12 (Or.inl t_ft_163_7) gF_40_2 kd_294 IM231.1 (by decide) fM231 ?_
    have tr235 := o_i_of fM231
    refine PW.iload_n q_163_15 rfl ?_
    refine PW.iload_n q_163_16 rfl ?_
    refine PW.shrH q_163_17 fun x236 => ?_
    refine PW.bH q_163_18 fun x237 => ?_
    -- index (18, 958) of 940 at X12_four 19
    refine PW.wY q_163_19 gA_41 kd_295 hV IM231 (by decide) rfl gC_41_0_939 (by omega) (by omega) fun M238 IM238 UM238 => ?_
    have FM238 := Fr.pu FM231 UM238.1 kd_295 (rfl : List.contains [40, 41] 41 = true)
    have tr239 : o_i (M238 294) 2 = o_i (M231 294) 2 := by rw [UM238.1 294 (g_ne kd_294 kd_295 (by decide))]
    refine PW.aload_n q_163_20 rfl ?_
    refine PW.dup q_163_21 rfl ?_
    refine PW.gE q_163_22 (Or.inl t_ft_163_7) gF_40_2 kd_294 IM238.1 (by decide) ((congrArg (fun e => o_f e 2) (UM238.1 _ (g_ne kd_294 kd_295 (by decide)))).trans fM231) ?_
    have tr240 := o_i_of ((congrArg (fun e => o_f e 2) (UM238.1 _ (g_ne kd_294 kd_295 (by decide)))).trans fM231)
    refine PW.cI q_163_25 (by decide) fun c241 hc241 => ?_
    refine PW.addN q_163_26 (by omega) (by omega) fun x242 hx242 => ?_
    refine PW.pI q_163_27 (Or.inl t_ft_163_7) gF_40_2 gP_40_2 kd_294 hV IM238 (by decide) rfl (by omega) (by omega) fun M243 IM243 fM243 UM243 => ?_
    have FM243 := Fr.pu FM238 UM243.1 kd_294 (rfl : List.contains [40, 41] 40 = true)
    have tr244 := o_i_of fM243
    refine PW.incN q_163_30 rfl (by decide) (by decide) (by omega) (by omega) fun x245 hx245 => ?_
    refine PW.goto q_163_33 rfl ?_
    refine PW.iload_n q_163_3 rfl ?_
    refine PW.jz_lt q_163_4 rfl (fun h246 => False.elim (by omega)) (fun h246 => ?_)
    refine PW.aload_n q_163_7 rfl ?_
    refine PW.gR 295 q_163_8 (Or.inl t_ft_163_14) gF_40_1 kd_294 IM243.1 (by decide) rfl ?_
    refine PW.aload_n q_163_11 rfl ?_
    refine PW.gE q_163_12 (Or.inl t_ft_163_7) gF_40_2 kd_294 IM243.1 (by decide) fM243 ?_
    have tr247 := o_i_of fM243
    refine PW.iload_n q_163_15 rfl ?_
    refine PW.iload_n q_163_16 rfl ?_
    refine PW.shrH q_163_17 fun x248 => ?_
    refine PW.bH q_163_18 fun x249 => ?_
    -- index (19, 959) of 940 at X12_four 19
    refine PW.wY q_163_19 gA_41 kd_295 hV IM243 (by decide) rfl gC_41_0_939 (by omega) (by omega) fun M250 IM250 UM250 => ?_
    have FM250 := Fr.pu FM243 UM250.1 kd_295 (rfl : List.contains [40, 41] 41 = true)
    have tr251 : o_i (M250 294) 2 = o_i (M243 294) 2 := by rw [UM250.1 294 (g_ne kd_294 kd_295 (by decide))]
    refine PW.aload_n q_163_20 rfl ?_
    refine PW.dup q_163_21 rfl ?_
    refine PW.gE q_163_22 (Or.inl t_ft_163_7) gF_40_2 kd_294 IM250.1 (by decide) ((congrArg (fun e => o_f e 2) (UM250.1 _ (g_ne kd_294 kd_295 (by decide)))).trans fM243) ?_
    have tr252 := o_i_of ((congrArg (fun e => o_f e 2) (UM250.1 _ (g_ne kd_294 kd_295 (by decide)))).trans fM243)
    refine PW.cI q_163_25 (by decide) fun c253 hc253 => ?_
    refine PW.addN q_163_26 (by omega) (by omega) fun x254 hx254 => ?_
    refine PW.pI q_163_27 (Or.inl t_ft_163_7) gF_40_2 gP_40_2 kd_294 hV IM250 (by decide) rfl (by omega) (by omega) fun M255 IM255 fM255 UM255 => ?_
    have FM255 := Fr.pu FM250 UM255.1 kd_294 (rfl : List.contains [40, 41] 40 = true)
    have tr256 := o_i_of fM255
    refine PW.incN q_163_30 rfl (by decide) (by decide) (by omega) (by omega) fun x257 hx257 => ?_
    refine PW.goto q_163_33 rfl ?_
    refine PW.iload_n q_163_3 rfl ?_
    refine PW.jz_lt q_163_4 rfl (fun h258 => ?_) (fun h258 => False.elim (by omega))
    refine PW.vret q_163_36 rfl (by decide) (by decide) ?_
    refine PW.aload_n q_162_47 rfl ?_
    refine PW.gE q_162_48 (Or.inl t_ft_162_7) gF_40_2 kd_294 IM255.1 (by decide) fM255 ?_
    have tr259 := o_i_of fM255
    refine PW.rI q_162_51 rfl (by decide) (by decide) ?_
    exact hK x254 M255 IM255 FM255 (by omega)
  · skip
    refine PW.cI q_162_18 (by decide) fun c260 hc260 => ?_
    refine PW.rI q_162_19 rfl (by decide) (by decide) ?_
    exact hK c260 M2 IM2 FM2 (by omega)
theorem c_X12_end (V : pM → Prop) (hV : Stab V) (G : pG) (Kr : pK) (M : pM) (I : Iv V M) (a1 : Int32) (hK : ∀ (x : Int32) (M1 : pM), Iv V M1 → Fr [40] M M1 → 0 ≤ x.toInt → x.toInt ≤ 1 → ((0 ≤ a1.toInt ∧ a1.toInt ≤ o_i (M 294) 2 ∧ x.toInt = 1 ∧ o_i (M1 294) 2 = a1.toInt) ∨ ((a1.toInt < 0 ∨ o_i (M 294) 2 < a1.toInt) ∧ x.toInt = 0 ∧ o_i (M1 294) 2 = o_i (M 294) 2)) → ((True) ∧ gHq M1 M) → Kr.1 (some (.int x)) 311 M1) : PW G false 0 164 (p_mc 164) (p_msl 164) Kr 0 (lv_args 0 [.ref 294, .int a1]) [] 311 M 0 0 := by
  have F : Fr [40] M M := Fr.refl
  refine PW.aload_n q_164_0 rfl ?_
  refine PW.cI q_164_1 (by decide) fun c1 hc1 => ?_
  refine PW.pI q_164_2 (Or.inl t_ft_164_1) gF_40_0 gP_40_0 kd_294 hV I (by decide) rfl (n_lo _) (n_hi _) fun M2 IM2 fM2 UM2 => ?_
  have FM2 := Fr.pu F UM2.1 kd_294 (rfl : List.contains [40] 40 = true)
  have tr3 := UM2.i (c := 294) (k := 2) (Or.inr (by decide))
  refine PW.iload_n q_164_5 rfl ?_
  refine PW.jz_lt q_164_6 rfl (fun h4 => ?_) (fun h4 => ?_)
  · skip
    refine PW.cI q_164_17 (by decide) fun c5 hc5 => ?_
    refine PW.rZ q_164_18 rfl (by omega) (by omega) (by decide) (by decide) ?_
    exact hK c5 M2 IM2 FM2 (by omega) (by omega) (by omega) ⟨trivial, (gHq.refl.pu UM2 (by decide))⟩
  · skip
    refine PW.iload_n q_164_9 rfl ?_
    refine PW.aload_n q_164_10 rfl ?_
    refine PW.gI q_164_11 (Or.inl t_ft_164_7) gF_40_2 kd_294 IM2.1 (by decide) fun x6 fx6 hx6 kx6 => ?_
    have trx6 := o_i_of fx6
    refine PW.jc_le q_164_14 rfl (fun h7 => ?_) (fun h7 => ?_)
    · skip
      refine PW.aload_n q_164_19 rfl ?_
      refine PW.iload_n q_164_20 rfl ?_
      refine PW.pI q_164_21 (Or.inl t_ft_164_7) gF_40_2 gP_40_2 kd_294 hV IM2 (by decide) rfl (by omega) (by omega) fun M8 IM8 fM8 UM8 => ?_
      have FM8 := Fr.pu FM2 UM8.1 kd_294 (rfl : List.contains [40] 40 = true)
      have tr9 := o_i_of fM8
      refine PW.cI q_164_24 (by decide) fun c10 hc10 => ?_
      refine PW.rZ q_164_25 rfl (by omega) (by omega) (by decide) (by decide) ?_
      exact hK c10 M8 IM8 FM8 (by omega) (by omega) (by omega) ⟨trivial, ((gHq.refl.pu UM2 (by decide)).pu UM8 (by decide))⟩
    · skip
      refine PW.cI q_164_17 (by decide) fun c11 hc11 => ?_
      refine PW.rZ q_164_18 rfl (by omega) (by omega) (by decide) (by decide) ?_
      exact hK c11 M2 IM2 FM2 (by omega) (by omega) (by omega) ⟨trivial, (gHq.refl.pu UM2 (by decide))⟩
theorem c_X12_throwsIf (V : pM → Prop) (hV : Stab V) (G : pG) (Kr : pK) (M : pM) (I : Iv V M) (a1 : Int32) (hl_a1 : 0 ≤ a1.toInt) (hh_a1 : a1.toInt ≤ 1) (hK : ∀ (x : Int32) (M1 : pM), Iv V M1 → Fr [40] M M1 → 0 ≤ x.toInt → x.toInt ≤ 1 → (x.toInt = a1.toInt) → ((gLq M1 M) ∧ gHq M1 M) → Kr.1 (some (.int x)) 311 M1) : PW G false 0 161 (p_mc 161) (p_msl 161) Kr 0 (lv_args 0 [.ref 294, .int a1]) [] 311 M 0 0 := by
  have F : Fr [40] M M := Fr.refl
  refine PW.aload_n q_161_0 rfl ?_
  refine PW.iload_n q_161_1 rfl ?_
  refine PW.jz_eq q_161_2 rfl (fun h1 => ?_) (fun h1 => ?_)
  · skip
    refine PW.cI q_161_9 (by decide) fun c2 hc2 => ?_
    refine PW.pI q_161_10 (Or.inl t_ft_161_1) gF_40_0 gP_40_0 kd_294 hV I (by decide) rfl (n_lo _) (n_hi _) fun M3 IM3 fM3 UM3 => ?_
    have FM3 := Fr.pu F UM3.1 kd_294 (rfl : List.contains [40] 40 = true)
    refine PW.iload_n q_161_13 rfl ?_
    refine PW.rZ q_161_14 rfl (by omega) (by omega) (by decide) (by decide) ?_
    exact hK a1 M3 IM3 FM3 (by omega) (by omega) (by omega) ⟨(UM3.i (c := 294) (k := 2) (Or.inr (by decide))), (gHq.refl.pu UM3 (by decide))⟩
  · skip
    refine PW.cI q_161_5 (by decide) fun c4 hc4 => ?_
    refine PW.goto q_161_6 rfl ?_
    refine PW.pI q_161_10 (Or.inl t_ft_161_1) gF_40_0 gP_40_0 kd_294 hV I (by decide) rfl (n_lo _) (n_hi _) fun M5 IM5 fM5 UM5 => ?_
    have FM5 := Fr.pu F UM5.1 kd_294 (rfl : List.contains [40] 40 = true)
    refine PW.iload_n q_161_13 rfl ?_
    refine PW.rZ q_161_14 rfl (by omega) (by omega) (by decide) (by decide) ?_
    exact hK a1 M5 IM5 FM5 (by omega) (by omega) (by omega) ⟨(UM5.i (c := 294) (k := 2) (Or.inr (by decide))), (gHq.refl.pu UM5 (by decide))⟩
theorem c_X12_taken (V : pM → Prop) (hV : Stab V) (G : pG) (Kr : pK) (M : pM) (I : Iv V M) (a1 : Int32) (hK : ∀ (M1 : pM), Iv V M1 → Fr [40] M M1 → ((gLz M1) ∧ gHq M1 M) → Kr.1 none 311 M1) : PW G false 0 165 (p_mc 165) (p_msl 165) Kr 0 (lv_args 0 [.ref 294, .int a1]) [] 311 M 0 0 := by
  have F : Fr [40] M M := Fr.refl
  refine PW.aload_n q_165_0 rfl ?_
  refine PW.aload_n q_165_1 rfl ?_
  refine PW.gI q_165_2 (Or.inl t_ft_165_7) gF_40_2 kd_294 I.1 (by decide) fun x1 fx1 hx1 kx1 => ?_
  refine PW.pI q_165_5 (Or.inl t_ft_165_18) gF_40_3 gP_40_3 kd_294 hV I (by decide) rfl (by omega) (by omega) fun M2 IM2 fM2 UM2 => ?_
  have FM2 := Fr.pu F UM2.1 kd_294 (rfl : List.contains [40] 40 = true)
  refine PW.aload_n q_165_8 rfl ?_
  refine PW.cI q_165_9 (by decide) fun c3 hc3 => ?_
  refine PW.pI q_165_10 (Or.inl t_ft_165_7) gF_40_2 gP_40_2 kd_294 hV IM2 (by decide) rfl (by omega) (by omega) fun M4 IM4 fM4 UM4 => ?_
  have FM4 := Fr.pu FM2 UM4.1 kd_294 (rfl : List.contains [40] 40 = true)
  refine PW.aload_n q_165_13 rfl ?_
  refine PW.cI q_165_14 (by decide) fun c5 hc5 => ?_
  refine PW.pI q_165_15 (Or.inl t_ft_165_21) gF_40_4 gP_40_4 kd_294 hV IM4 (by decide) rfl (by omega) (by omega) fun M6 IM6 fM6 UM6 => ?_
  have FM6 := Fr.pu FM4 UM6.1 kd_294 (rfl : List.contains [40] 40 = true)
  refine PW.aload_n q_165_18 rfl ?_
  refine PW.iload_n q_165_19 rfl ?_
  refine PW.pI q_165_20 (Or.inl t_ft_165_24) gF_40_5 gP_40_5 kd_294 hV IM6 (by decide) rfl (n_lo _) (n_hi _) fun M7 IM7 fM7 UM7 => ?_
  have FM7 := Fr.pu FM6 UM7.1 kd_294 (rfl : List.contains [40] 40 = true)
  refine PW.vret q_165_23 rfl (by decide) (by decide) ?_
  exact hK M7 IM7 FM7 ⟨(by show o_i _ 2 = 0; rw [o_i_of ((UM7.f (Or.inr (by decide))).trans ((UM6.f (Or.inr (by decide))).trans fM4))]; omega), ((((gHq.refl.pu UM2 (by decide)).pu UM4 (by decide)).pu UM6 (by decide)).pu UM7 (by decide))⟩
theorem c_X12_octet (V : pM → Prop) (hV : Stab V) (G : pG) (Kr : pK) (M : pM) (I : Iv V M) (a1 : Int32) (hl_a1 : 0 ≤ a1.toInt) (hh_a1 : a1.toInt ≤ 939) (hK : ∀ (x : Int32) (M1 : pM), Iv V M1 → Fr [] M M1 → 0 ≤ x.toInt → x.toInt ≤ 255 → ((gLq M1 M) ∧ gHq M1 M) → Kr.1 (some (.int x)) 311 M1) : PW G false 0 172 (p_mc 172) (p_msl 172) Kr 0 (lv_args 0 [.ref 294, .int a1]) [] 311 M 0 0 := by
  have F : Fr [] M M := Fr.refl
  refine PW.aload_n q_172_0 rfl ?_
  refine PW.gR 295 q_172_1 (Or.inl t_ft_172_14) gF_40_1 kd_294 I.1 (by decide) rfl ?_
  refine PW.iload_n q_172_4 rfl ?_
  refine PW.aY q_172_5 gA_41 kd_295 I.1 (by decide) (by omega) (by omega) fun x1 fx1 => ?_
  refine PW.cS q_172_6 (by decide) fun c2 hc2 => ?_
  refine PW.andP q_172_9 (by omega) fun x3 hx3 kx3 => ?_
  refine PW.rI q_172_10 rfl (by decide) (by decide) ?_
  exact hK x3 M I F (by omega) (by omega) ⟨rfl, gHq.refl⟩
/-- the byte that the reference reads next -/
def gpk (M : pM) : Int := if o_i (M 294) 4 < o_i (M 294) 3 then (o_a (M 295) (o_i (M 294) 4).toNat &&& 255).toInt else -1
theorem gpk_U {M M1 : pM} {k : Nat} (U : gU M M1 294 k) (h1 : 4 ≠ k) (h2 : 3 ≠ k) : gpk M1 = gpk M := by
  unfold gpk
  rw [U.i (Or.inr h1), U.i (Or.inr h2), U.1 295 (by decide)]
theorem gpk_F {l : List Nat} {M M1 : pM} (F : Fr l M M1) (h1 : l.contains 40 = false) (h2 : l.contains 41 = false) : gpk M1 = gpk M := by
  unfold gpk
  rw [F.at kd_294 h1, F.at kd_295 h2]
theorem c_X12_peek (V : pM → Prop) (hV : Stab V) (G : pG) (Kr : pK) (M : pM) (I : Iv V M)  (hK : ∀ (x : Int32) (M1 : pM), Iv V M1 → Fr [] M M1 → -1 ≤ x.toInt → x.toInt ≤ 255 → (x.toInt = gpk M1 ∧ (x.toInt = -1 ∨ (o_i (M1 294) 4 + 1 ≤ o_i (M1 294) 3 ∧ o_i (M1 294) 3 ≤ 940))) → ((gLq M1 M) ∧ gHq M1 M) → Kr.1 (some (.int x)) 311 M1) : PW G false 0 174 (p_mc 174) (p_msl 174) Kr 0 (lv_args 0 [.ref 294]) [] 311 M 0 0 := by
  have F : Fr [] M M := Fr.refl
  refine PW.aload_n q_174_0 rfl ?_
  refine PW.gI q_174_1 (Or.inl t_ft_174_21) gF_40_4 kd_294 I.1 (by decide) fun x1 fx1 hx1 kx1 => ?_
  refine PW.aload_n q_174_4 rfl ?_
  refine PW.gI q_174_5 (Or.inl t_ft_174_18) gF_40_3 kd_294 I.1 (by decide) fun x2 fx2 hx2 kx2 => ?_
  refine PW.jc_ge q_174_8 rfl (fun h3 => ?_) (fun h3 => ?_)
  · skip
    refine PW.cI q_174_27 (by decide) fun c4 hc4 => ?_
    refine PW.rI q_174_28 rfl (by decide) (by decide) ?_
    exact hK c4 M I F (by omega) (by omega) ⟨by unfold gpk; rw [o_i_of fx1, o_i_of fx2, if_neg (by omega)]; omega, Or.inl (by omega)⟩ ⟨rfl, gHq.refl⟩
  · skip
    refine PW.aload_n q_174_11 rfl ?_
    refine PW.gR 295 q_174_12 (Or.inl t_ft_174_14) gF_40_1 kd_294 I.1 (by decide) rfl ?_
    refine PW.aload_n q_174_15 rfl ?_
    refine PW.gE q_174_16 (Or.inl t_ft_174_21) gF_40_4 kd_294 I.1 (by decide) fx1 ?_
    refine PW.aY q_174_19 gA_41 kd_295 I.1 (by decide) (by omega) (by omega) fun x5 fx5 => ?_
    refine PW.cS q_174_20 (by decide) fun c6 hc6 => ?_
    refine PW.andE q_174_23 (by omega) fun x7 zx7 hx7 kx7 => ?_
    refine PW.goto q_174_24 rfl ?_
    refine PW.rI q_174_28 rfl (by decide) (by decide) ?_
    exact hK x7 M I F (by omega) (by omega) ⟨by unfold gpk; rw [o_i_of fx1, o_i_of fx2, if_pos (by omega), fx5, zx7, n_255 hc6], Or.inr (by rw [o_i_of fx1, o_i_of fx2]; omega)⟩ ⟨rfl, gHq.refl⟩
theorem c_X12_isSmall (V : pM → Prop) (hV : Stab V) (G : pG) (Kr : pK) (M : pM) (I : Iv V M) (a0 : Int32) (hK : ∀ (x : Int32) (M1 : pM), Iv V M1 → Fr [] M M1 → 0 ≤ x.toInt → x.toInt ≤ 1 → ((x.toInt = 1 ∧ 97 ≤ a0.toInt ∧ a0.toInt ≤ 122) ∨ (x.toInt = 0 ∧ (a0.toInt < 97 ∨ 122 < a0.toInt))) → Kr.1 (some (.int x)) 311 M1) : PW G false 0 175 (p_mc 175) (p_msl 175) Kr 0 (lv_args 0 [.int a0]) [] 311 M 0 0 := by
  have F : Fr [] M M := Fr.refl
  refine PW.iload_n q_175_0 rfl ?_
  refine PW.cB q_175_1 (by decide) fun c1 hc1 => ?_
  refine PW.jc_lt q_175_3 rfl (fun h2 => ?_) (fun h2 => ?_)
  · skip
    refine PW.cI q_175_16 (by decide) fun c3 hc3 => ?_
    refine PW.rZ q_175_17 rfl (by omega) (by omega) (by decide) (by decide) ?_
    exact hK c3 M I F (by omega) (by omega) (by omega)
  · skip
    refine PW.iload_n q_175_6 rfl ?_
    refine PW.cB q_175_7 (by decide) fun c4 hc4 => ?_
    refine PW.jc_gt q_175_9 rfl (fun h5 => ?_) (fun h5 => ?_)
    · skip
      refine PW.cI q_175_16 (by decide) fun c6 hc6 => ?_
      refine PW.rZ q_175_17 rfl (by omega) (by omega) (by decide) (by decide) ?_
      exact hK c6 M I F (by omega) (by omega) (by omega)
    · skip
      refine PW.cI q_175_12 (by decide) fun c7 hc7 => ?_
      refine PW.goto q_175_13 rfl ?_
      refine PW.rZ q_175_17 rfl (by omega) (by omega) (by decide) (by decide) ?_
      exact hK c7 M I F (by omega) (by omega) (by omega)
theorem c_X12_isDigit (V : pM → Prop) (hV : Stab V) (G : pG) (Kr : pK) (M : pM) (I : Iv V M) (a0 : Int32) (hK : ∀ (x : Int32) (M1 : pM), Iv V M1 → Fr [] M M1 → 0 ≤ x.toInt → x.toInt ≤ 1 → ((x.toInt = 1 ∧ 48 ≤ a0.toInt ∧ a0.toInt ≤ 57) ∨ (x.toInt = 0 ∧ (a0.toInt < 48 ∨ 57 < a0.toInt))) → Kr.1 (some (.int x)) 311 M1) : PW G false 0 176 (p_mc 176) (p_msl 176) Kr 0 (lv_args 0 [.int a0]) [] 311 M 0 0 := by
  have F : Fr [] M M := Fr.refl
  refine PW.iload_n q_176_0 rfl ?_
  refine PW.cB q_176_1 (by decide) fun c1 hc1 => ?_
  refine PW.jc_lt q_176_3 rfl (fun h2 => ?_) (fun h2 => ?_)
  · skip
    refine PW.cI q_176_16 (by decide) fun c3 hc3 => ?_
    refine PW.rZ q_176_17 rfl (by omega) (by omega) (by decide) (by decide) ?_
    exact hK c3 M I F (by omega) (by omega) (by omega)
  · skip
    refine PW.iload_n q_176_6 rfl ?_
    refine PW.cB q_176_7 (by decide) fun c4 hc4 => ?_
    refine PW.jc_gt q_176_9 rfl (fun h5 => ?_) (fun h5 => ?_)
    · skip
      refine PW.cI q_176_16 (by decide) fun c6 hc6 => ?_
      refine PW.rZ q_176_17 rfl (by omega) (by omega) (by decide) (by decide) ?_
      exact hK c6 M I F (by omega) (by omega) (by omega)
    · skip
      refine PW.cI q_176_12 (by decide) fun c7 hc7 => ?_
      refine PW.goto q_176_13 rfl ?_
      refine PW.rZ q_176_17 rfl (by omega) (by omega) (by decide) (by decide) ?_
      exact hK c7 M I F (by omega) (by omega) (by omega)
theorem c_X12_go (V : pM → Prop) (hV : Stab V) (G : pG) (Kr : pK) (M : pM) (I : Iv V M)  (hK : ∀ (M1 : pM), Iv V M1 → Fr [40] M M1 → (o_i (M 294) 4 ≤ o_i (M1 294) 4 ∧ (o_i (M1 294) 11 = 0 ∨ o_i (M1 294) 11 = 4 ∨ o_i (M 294) 4 + 1 ≤ o_i (M1 294) 4) ∧ o_i (M1 294) 18 = o_i (M 294) 18 ∧ o_i (M1 294) 34 = o_i (M 294) 34) → ((gLq M1 M) ∧ gHq M1 M) → Kr.1 none 311 M1) : PW G false 1 177 (p_mc 177) (p_msl 177) Kr 0 (lv_args 0 [.ref 294]) [] 311 M 0 0 := by
  have F : Fr [40] M M := Fr.refl
  have L177_0_1 : ∀ (n : Nat) (ML177_0_1 : pM), Iv (V) ML177_0_1 → Fr [40] M ML177_0_1 → o_i (M 294) 4 ≤ o_i (ML177_0_1 294) 4 → o_i (ML177_0_1 294) 18 = o_i (M 294) 18 → o_i (ML177_0_1 294) 34 = o_i (M 294) 34 → (gLq ML177_0_1 M ∧ gHq ML177_0_1 M) → (940 - o_i (ML177_0_1 294) 4).toNat = n → PW G false 1 177 (p_mc 177) (p_msl 177) Kr 0 [(0, .ref 294)] [] 311 ML177_0_1 0 0 := by
    intro n
    induction n using Nat.strongRecOn with
    | ind n ih_L177_0_1 =>
    intro ML177_0_1  IML177_0_1 FML177_0_1 hbL177_0_10 hbL177_0_11 hbL177_0_12 hbL177_0_13 hmL177_0_1
    refine PW.aload_n q_177_0 rfl ?_
    refine PW.cV (as := []) (rest := []) q_177_1 t_mv_177_134 kd_294 IML177_0_1.1 (by decide) rfl (by decide) rfl rfl (Nat.le_of_ble_eq_true rfl) (Nat.le_of_ble_eq_true rfl) (by decide) (by decide) ?_
    refine PW.up (by decide) (c_X12_peek (V) (hV) G _ ML177_0_1 IML177_0_1  fun x3 M2 IM2 GM2 hx3 kx3 PM2 TM2 => ?_)
    have FM2 := Fr.trans FML177_0_1 GM2 (rfl)
    have tg4 := gpk_F GM2 (by decide) (by decide)
    have tr5 : o_i (M2 294) 4 = o_i (ML177_0_1 294) 4 := by rw [Fr.at GM2 kd_294 (by decide)]
    have tr6 : o_i (M2 294) 3 = o_i (ML177_0_1 294) 3 := by rw [Fr.at GM2 kd_294 (by decide)]
    have tr7 : o_i (M2 294) 11 = o_i (ML177_0_1 294) 11 := by rw [Fr.at GM2 kd_294 (by decide)]
    have tr8 : o_i (M2 294) 18 = o_i (ML177_0_1 294) 18 := by rw [Fr.at GM2 kd_294 (by decide)]
    have tr9 : o_i (M2 294) 34 = o_i (ML177_0_1 294) 34 := by rw [Fr.at GM2 kd_294 (by decide)]
    refine PW.cB q_177_4 (by decide) fun c10 hc10 => ?_
    refine PW.jc_eq q_177_6 rfl (fun h11 => ?_) (fun h11 => ?_)
    · skip
      refine PW.aload_n q_177_18 rfl ?_
      refine PW.dup q_177_19 rfl ?_
      refine PW.gI q_177_20 (Or.inl t_ft_177_21) gF_40_4 kd_294 IM2.1 (by decide) fun x12 fx12 hx12 kx12 => ?_
      have trx12 := o_i_of fx12
      refine PW.cI q_177_23 (by decide) fun c13 hc13 => ?_
      refine PW.addN q_177_24 (by omega) (by omega) fun x14 hx14 => ?_
      refine PW.pI q_177_25 (Or.inl t_ft_177_21) gF_40_4 gP_40_4 kd_294 hV IM2 (by decide) rfl (by omega) (by omega) fun M15 IM15 fM15 UM15 => ?_
      have FM15 := Fr.pu FM2 UM15.1 kd_294 (rfl : List.contains [40] 40 = true)
      have tr16 := o_i_of fM15
      have tr17 := UM15.i (c := 294) (k := 3) (Or.inr (by decide))
      have tr18 := UM15.i (c := 294) (k := 11) (Or.inr (by decide))
      have tr19 := UM15.i (c := 294) (k := 18) (Or.inr (by decide))
      have tr20 := UM15.i (c := 294) (k := 34) (Or.inr (by decide))
      refine PW.goto q_177_28 rfl ?_
      refine PW.lvS (lk1 rfl lk0) (ih_L177_0_1 _ ?_ M15  IM15 FM15 (by omega) (by omega) (by omega) ⟨((UM15.i (c := 294) (k := 2) (Or.inr (by decide))).trans ((congrArg (fun e => o_i e 2) (Fr.at GM2 kd_294 rfl)).trans hbL177_0_13.1)), ((hbL177_0_13.2.cg (Fr.at GM2 kd_296 rfl) (Fr.at GM2 kd_294 rfl)).pu UM15 (by decide))⟩ rfl)
      omega
    · skip
      refine PW.aload_n q_177_9 rfl ?_
      refine PW.cV (as := []) (rest := []) q_177_10 t_mv_177_134 kd_294 IM2.1 (by decide) rfl (by decide) rfl rfl (Nat.le_of_ble_eq_true rfl) (Nat.le_of_ble_eq_true rfl) (by decide) (by decide) ?_
      refine PW.up (by decide) (c_X12_peek (V) (hV) G _ M2 IM2  fun x22 M21 IM21 GM21 hx22 kx22 PM21 TM21 => ?_)
      have FM21 := Fr.trans FM2 GM21 (rfl)
      have tg23 := gpk_F GM21 (by decide) (by decide)
      have tr24 : o_i (M21 294) 4 = o_i (M2 294) 4 := by rw [Fr.at GM21 kd_294 (by decide)]
      have tr25 : o_i (M21 294) 3 = o_i (M2 294) 3 := by rw [Fr.at GM21 kd_294 (by decide)]
      have tr26 : o_i (M21 294) 11 = o_i (M2 294) 11 := by rw [Fr.at GM21 kd_294 (by decide)]
      have tr27 : o_i (M21 294) 18 = o_i (M2 294) 18 := by rw [Fr.at GM21 kd_294 (by decide)]
      have tr28 : o_i (M21 294) 34 = o_i (M2 294) 34 := by rw [Fr.at GM21 kd_294 (by decide)]
      refine PW.cB q_177_13 (by decide) fun c29 hc29 => ?_
      refine PW.jc_ne q_177_15 rfl (fun h30 => ?_) (fun h30 => ?_)
      · skip
        refine PW.aload_n q_177_31 rfl ?_
        refine PW.aload_n q_177_32 rfl ?_
        refine PW.gI q_177_33 (Or.inl t_ft_177_21) gF_40_4 kd_294 IM21.1 (by decide) fun x31 fx31 hx31 kx31 => ?_
        have trx31 := o_i_of fx31
        refine PW.pI q_177_36 (Or.inl t_ft_177_138) gF_40_12 gP_40_12 kd_294 hV IM21 (by decide) rfl (n_lo _) (n_hi _) fun M32 IM32 fM32 UM32 => ?_
        have FM32 := Fr.pu FM21 UM32.1 kd_294 (rfl : List.contains [40] 40 = true)
        have tg33 := gpk_U UM32 (by decide) (by decide)
        have tr34 := UM32.i (c := 294) (k := 4) (Or.inr (by decide))
        have tr35 := UM32.i (c := 294) (k := 3) (Or.inr (by decide))
        have tr36 := UM32.i (c := 294) (k := 11) (Or.inr (by decide))
        have tr37 := UM32.i (c := 294) (k := 18) (Or.inr (by decide))
        have tr38 := UM32.i (c := 294) (k := 34) (Or.inr (by decide))
        refine PW.aload_n q_177_39 rfl ?_
        refine PW.cI q_177_40 (by decide) fun c39 hc39 => ?_
        refine PW.pI q_177_41 (Or.inl t_ft_177_141) gF_40_13 gP_40_13 kd_294 hV IM32 (by decide) rfl (n_lo _) (n_hi _) fun M40 IM40 fM40 UM40 => ?_
        have FM40 := Fr.pu FM32 UM40.1 kd_294 (rfl : List.contains [40] 40 = true)
        have tg41 := gpk_U UM40 (by decide) (by decide)
        have tr42 := UM40.i (c := 294) (k := 4) (Or.inr (by decide))
        have tr43 := UM40.i (c := 294) (k := 3) (Or.inr (by decide))
        have tr44 := UM40.i (c := 294) (k := 11) (Or.inr (by decide))
        have tr45 := UM40.i (c := 294) (k := 18) (Or.inr (by decide))
        have tr46 := UM40.i (c := 294) (k := 34) (Or.inr (by decide))
        refine PW.aload_n q_177_44 rfl ?_
        refine PW.gI q_177_45 (Or.inl t_ft_177_18) gF_40_3 kd_294 IM40.1 (by decide) fun x47 fx47 hx47 kx47 => ?_
        have trx47 := o_i_of fx47
        refine PW.aload_n q_177_48 rfl ?_
        refine PW.gI q_177_49 (Or.inl t_ft_177_24) gF_40_5 kd_294 IM40.1 (by decide) fun x48 fx48 hx48 kx48 => ?_
        clear hx48 kx48
        have J80_50 : ∀ (MJ80_50 : pM), Iv (V) MJ80_50 → Fr [40] M MJ80_50 → o_i (MJ80_50 294) 4 = o_i (M40 294) 4 → o_i (MJ80_50 294) 3 = o_i (M40 294) 3 → o_i (MJ80_50 294) 11 = o_i (M40 294) 11 → o_i (MJ80_50 294) 18 = o_i (M40 294) 18 → o_i (MJ80_50 294) 34 = o_i (M40 294) 34 → gpk MJ80_50 = gpk M40 → o_f (MJ80_50 294) 4 = .int x31 → o_f (MJ80_50 294) 12 = .int x31 → o_f (MJ80_50 294) 13 = .int c39 → o_f (MJ80_50 294) 3 = .int x47 → o_f (MJ80_50 294) 5 = .int x48 → (gLq MJ80_50 M ∧ gHq MJ80_50 M) → PW G false 1 177 (p_mc 177) (p_msl 177) Kr 80 [(0, .ref 294)] [] 311 MJ80_50 0 0 := by
          intro MJ80_50  IMJ80_50 FMJ80_50 hbJ80_500 hbJ80_501 hbJ80_502 hbJ80_503 hbJ80_504 hbJ80_505 hbJ80_506 hbJ80_507 hbJ80_508 hbJ80_509 hbJ80_5010 hbJ80_5011
          refine PW.aload_n q_177_80 rfl ?_
          refine PW.cV (as := []) (rest := []) q_177_81 t_mv_177_134 kd_294 IMJ80_50.1 (by decide) rfl (by decide) rfl rfl (Nat.le_of_ble_eq_true rfl) (Nat.le_of_ble_eq_true rfl) (by decide) (by decide) ?_
          refine PW.up (by decide) (c_X12_peek (V) (hV) G _ MJ80_50 IMJ80_50  fun x52 M51 IM51 GM51 hx52 kx52 PM51 TM51 => ?_)
          have FM51 := Fr.trans FMJ80_50 GM51 (rfl)
          have tg53 := gpk_F GM51 (by decide) (by decide)
          have tr54 : o_i (M51 294) 4 = o_i (MJ80_50 294) 4 := by rw [Fr.at GM51 kd_294 (by decide)]
          have tr55 : o_i (M51 294) 3 = o_i (MJ80_50 294) 3 := by rw [Fr.at GM51 kd_294 (by decide)]
          have tr56 : o_i (M51 294) 11 = o_i (MJ80_50 294) 11 := by rw [Fr.at GM51 kd_294 (by decide)]
          have tr57 : o_i (M51 294) 18 = o_i (MJ80_50 294) 18 := by rw [Fr.at GM51 kd_294 (by decide)]
          have tr58 : o_i (M51 294) 34 = o_i (MJ80_50 294) 34 := by rw [Fr.at GM51 kd_294 (by decide)]
          refine PW.istore_n q_177_84 (by decide) ?_
          refine PW.iload_n q_177_85 rfl ?_
          refine PW.jz_ge q_177_86 rfl (fun h59 => ?_) (fun h59 => ?_)
          · skip
            refine PW.iload_n q_177_95 rfl ?_
            refine PW.callS (as := [_]) (rest := []) q_177_96 t_ms_177_147 (by decide) rfl (Nat.le_of_ble_eq_true rfl) (Nat.le_of_ble_eq_true rfl) (by decide) (by decide) ?_
            refine PW.up (by decide) (c_X12_isSmall (V) (hV) G _ M51 IM51 x52 fun x61 M60 IM60 GM60 hx61 kx61 PM60 => ?_)
            have FM60 := Fr.trans FM51 GM60 (rfl)
            have tg62 := gpk_F GM60 (by decide) (by decide)
            have tr63 : o_i (M60 294) 4 = o_i (M51 294) 4 := by rw [Fr.at GM60 kd_294 (by decide)]
            have tr64 : o_i (M60 294) 3 = o_i (M51 294) 3 := by rw [Fr.at GM60 kd_294 (by decide)]
            have tr65 : o_i (M60 294) 11 = o_i (M51 294) 11 := by rw [Fr.at GM60 kd_294 (by decide)]
            have tr66 : o_i (M60 294) 18 = o_i (M51 294) 18 := by rw [Fr.at GM60 kd_294 (by decide)]
            have tr67 : o_i (M60 294) 34 = o_i (M51 294) 34 := by rw [Fr.at GM60 kd_294 (by decide)]
            have J164_69 : ∀ (MJ164_69 : pM), Iv (V) MJ164_69 → Fr [40] M MJ164_69 → (97 ≤ x52.toInt ∧ x52.toInt ≤ 122) ∨ (48 ≤ x52.toInt ∧ x52.toInt ≤ 57) → o_i (MJ164_69 294) 4 = o_i (M60 294) 4 → o_i (MJ164_69 294) 3 = o_i (M60 294) 3 → o_i (MJ164_69 294) 11 = o_i (M60 294) 11 → o_i (MJ164_69 294) 18 = o_i (M60 294) 18 → o_i (MJ164_69 294) 34 = o_i (M60 294) 34 → gpk MJ164_69 = gpk M60 → o_f (MJ164_69 294) 4 = .int x31 → o_f (MJ164_69 294) 12 = .int x31 → o_f (MJ164_69 294) 13 = .int c39 → o_f (MJ164_69 294) 3 = .int x47 → o_f (MJ164_69 294) 5 = .int x48 → (gLq MJ164_69 M ∧ gHq MJ164_69 M) → PW G false 1 177 (p_mc 177) (p_msl 177) Kr 164 [(0, .ref 294), (1, .int x52)] [] 311 MJ164_69 0 0 := by
              intro MJ164_69  IMJ164_69 FMJ164_69 hbJ164_690 hbJ164_691 hbJ164_692 hbJ164_693 hbJ164_694 hbJ164_695 hbJ164_696 hbJ164_697 hbJ164_698 hbJ164_699 hbJ164_6910 hbJ164_6911 hbJ164_6912
              refine PW.iload_n q_177_164 rfl ?_
              refine PW.callS (as := [_]) (rest := []) q_177_165 t_ms_177_147 (by decide) rfl (Nat.le_of_ble_eq_true rfl) (Nat.le_of_ble_eq_true rfl) (by decide) (by decide) ?_
              refine PW.up (by decide) (c_X12_isSmall (V) (hV) G _ MJ164_69 IMJ164_69 x52 fun x71 M70 IM70 GM70 hx71 kx71 PM70 => ?_)
              have FM70 := Fr.trans FMJ164_69 GM70 (rfl)
              have tg72 := gpk_F GM70 (by decide) (by decide)
              have tr73 : o_i (M70 294) 4 = o_i (MJ164_69 294) 4 := by rw [Fr.at GM70 kd_294 (by decide)]
              have tr74 : o_i (M70 294) 3 = o_i (MJ164_69 294) 3 := by rw [Fr.at GM70 kd_294 (by decide)]
              have tr75 : o_i (M70 294) 11 = o_i (MJ164_69 294) 11 := by rw [Fr.at GM70 kd_294 (by decide)]
              have tr76 : o_i (M70 294) 18 = o_i (MJ164_69 294) 18 := by rw [Fr.at GM70 kd_294 (by decide)]
              have tr77 : o_i (M70 294) 34 = o_i (MJ164_69 294) 34 := by rw [Fr.at GM70 kd_294 (by decide)]
              refine PW.istore_n q_177_168 (by decide) ?_
              refine PW.cI q_177_169 (by decide) fun c78 hc78 => ?_
              refine PW.istore_n q_177_170 (by decide) ?_
              refine PW.aload_n q_177_171 rfl ?_
              refine PW.lconst q_177_172 ?_
              refine PW.pL q_177_173 (Or.inl t_ft_177_157) gF_40_17 gP_40_17 kd_294 hV IM70 (by decide) rfl fun M79 IM79 fM79 UM79 => ?_
              have FM79 := Fr.pu FM70 UM79.1 kd_294 (rfl : List.contains [40] 40 = true)
              have tg80 := gpk_U UM79 (by decide) (by decide)
              have tr81 := UM79.i (c := 294) (k := 4) (Or.inr (by decide))
              have tr82 := UM79.i (c := 294) (k := 3) (Or.inr (by decide))
              have tr83 := UM79.i (c := 294) (k := 11) (Or.inr (by decide))
              have tr84 := UM79.i (c := 294) (k := 18) (Or.inr (by decide))
              have tr85 := UM79.i (c := 294) (k := 34) (Or.inr (by decide))
              refine PW.aload_n q_177_176 rfl ?_
              refine PW.cI q_177_177 (by decide) fun c86 hc86 => ?_
              refine PW.pI q_177_178 (Or.inl t_ft_177_154) gF_40_14 gP_40_14 kd_294 hV IM79 (by decide) rfl (n_lo _) (n_hi _) fun M87 IM87 fM87 UM87 => ?_
              have FM87 := Fr.pu FM79 UM87.1 kd_294 (rfl : List.contains [40] 40 = true)
              have tg88 := gpk_U UM87 (by decide) (by decide)
              have tr89 := UM87.i (c := 294) (k := 4) (Or.inr (by decide))
              have tr90 := UM87.i (c := 294) (k := 3) (Or.inr (by decide))
              have tr91 := UM87.i (c := 294) (k := 11) (Or.inr (by decide))
              have tr92 := UM87.i (c := 294) (k := 18) (Or.inr (by decide))
              have tr93 := UM87.i (c := 294) (k := 34) (Or.inr (by decide))
              refine PW.aload_n q_177_181 rfl ?_
              refine PW.cV (as := []) (rest := []) q_177_182 t_mv_177_134 kd_294 IM87.1 (by decide) rfl (by decide) rfl rfl (Nat.le_of_ble_eq_true rfl) (Nat.le_of_ble_eq_true rfl) (by decide) (by decide) ?_
              refine PW.up (by decide) (c_X12_peek (V) (hV) G _ M87 IM87  fun x95 M94 IM94 GM94 hx95 kx95 PM94 TM94 => ?_)
              have FM94 := Fr.trans FM87 GM94 (rfl)
              have tg96 := gpk_F GM94 (by decide) (by decide)
              have tr97 : o_i (M94 294) 4 = o_i (M87 294) 4 := by rw [Fr.at GM94 kd_294 (by decide)]
              have tr98 : o_i (M94 294) 3 = o_i (M87 294) 3 := by rw [Fr.at GM94 kd_294 (by decide)]
              have tr99 : o_i (M94 294) 11 = o_i (M87 294) 11 := by rw [Fr.at GM94 kd_294 (by decide)]
              have tr100 : o_i (M94 294) 18 = o_i (M87 294) 18 := by rw [Fr.at GM94 kd_294 (by decide)]
              have tr101 : o_i (M94 294) 34 = o_i (M87 294) 34 := by rw [Fr.at GM94 kd_294 (by decide)]
              refine PW.callS (as := [_]) (rest := []) q_177_185 t_ms_177_147 (by decide) rfl (Nat.le_of_ble_eq_true rfl) (Nat.le_of_ble_eq_true rfl) (by decide) (by decide) ?_
              refine PW.up (by decide) (c_X12_isSmall (V) (hV) G _ M94 IM94 x95 fun x103 M102 IM102 GM102 hx103 kx103 PM102 => ?_)
              have FM102 := Fr.trans FM94 GM102 (rfl)
              have tg104 := gpk_F GM102 (by decide) (by decide)
              have tr105 : o_i (M102 294) 4 = o_i (M94 294) 4 := by rw [Fr.at GM102 kd_294 (by decide)]
              have tr106 : o_i (M102 294) 3 = o_i (M94 294) 3 := by rw [Fr.at GM102 kd_294 (by decide)]
              have tr107 : o_i (M102 294) 11 = o_i (M94 294) 11 := by rw [Fr.at GM102 kd_294 (by decide)]
              have tr108 : o_i (M102 294) 18 = o_i (M94 294) 18 := by rw [Fr.at GM102 kd_294 (by decide)]
              have tr109 : o_i (M102 294) 34 = o_i (M94 294) 34 := by rw [Fr.at GM102 kd_294 (by decide)]
              have J201_111 : ∀ (MJ201_111 : pM), Iv (V) MJ201_111 → Fr [40] M MJ201_111 → o_i (MJ201_111 294) 4 + 1 ≤ o_i (MJ201_111 294) 3 → o_i (MJ201_111 294) 3 ≤ 940 → o_i (MJ201_111 294) 4 = o_i (M102 294) 4 → o_i (MJ201_111 294) 3 = o_i (M102 294) 3 → o_i (MJ201_111 294) 11 = o_i (M102 294) 11 → o_i (MJ201_111 294) 18 = o_i (M102 294) 18 → o_i (MJ201_111 294) 34 = o_i (M102 294) 34 → gpk MJ201_111 = gpk M102 → o_f (MJ201_111 294) 4 = .int x31 → o_f (MJ201_111 294) 12 = .int x31 → o_f (MJ201_111 294) 13 = .int c39 → o_f (MJ201_111 294) 3 = .int x47 → o_f (MJ201_111 294) 5 = .int x48 → o_f (MJ201_111 294) 14 = .int c86 → (gLq MJ201_111 M ∧ gHq MJ201_111 M) → PW G false 1 177 (p_mc 177) (p_msl 177) Kr 201 [(0, .ref 294), (1, .int x52), (2, .int x71), (3, .int c78)] [] 311 MJ201_111 0 0 := by
                intro MJ201_111  IMJ201_111 FMJ201_111 hbJ201_1110 hbJ201_1111 hbJ201_1112 hbJ201_1113 hbJ201_1114 hbJ201_1115 hbJ201_1116 hbJ201_1117 hbJ201_1118 hbJ201_1119 hbJ201_11110 hbJ201_11111 hbJ201_11112 hbJ201_11113 hbJ201_11114
                refine PW.iload_n q_177_201 rfl ?_
                refine PW.jz_eq q_177_202 rfl (fun h112 => False.elim (by omega)) (fun h112 => ?_)
                refine PW.aload_n q_177_205 rfl ?_
                refine PW.cV (as := []) (rest := []) q_177_206 t_mv_177_134 kd_294 IMJ201_111.1 (by decide) rfl (by decide) rfl rfl (Nat.le_of_ble_eq_true rfl) (Nat.le_of_ble_eq_true rfl) (by decide) (by decide) ?_
                refine PW.up (by decide) (c_X12_peek (V) (hV) G _ MJ201_111 IMJ201_111  fun x114 M113 IM113 GM113 hx114 kx114 PM113 TM113 => ?_)
                have FM113 := Fr.trans FMJ201_111 GM113 (rfl)
                have tg115 := gpk_F GM113 (by decide) (by decide)
                have tr116 : o_i (M113 294) 4 = o_i (MJ201_111 294) 4 := by rw [Fr.at GM113 kd_294 (by decide)]
                have tr117 : o_i (M113 294) 3 = o_i (MJ201_111 294) 3 := by rw [Fr.at GM113 kd_294 (by decide)]
                have tr118 : o_i (M113 294) 11 = o_i (MJ201_111 294) 11 := by rw [Fr.at GM113 kd_294 (by decide)]
                have tr119 : o_i (M113 294) 18 = o_i (MJ201_111 294) 18 := by rw [Fr.at GM113 kd_294 (by decide)]
                have tr120 : o_i (M113 294) 34 = o_i (MJ201_111 294) 34 := by rw [Fr.at GM113 kd_294 (by decide)]
                refine PW.callS (as := [_]) (rest := []) q_177_209 t_ms_177_147 (by decide) rfl (Nat.le_of_ble_eq_true rfl) (Nat.le_of_ble_eq_true rfl) (by decide) (by decide) ?_
                refine PW.up (by decide) (c_X12_isSmall (V) (hV) G _ M113 IM113 x114 fun x122 M121 IM121 GM121 hx122 kx122 PM121 => ?_)
                have FM121 := Fr.trans FM113 GM121 (rfl)
                have tg123 := gpk_F GM121 (by decide) (by decide)
                have tr124 : o_i (M121 294) 4 = o_i (M113 294) 4 := by rw [Fr.at GM121 kd_294 (by decide)]
                have tr125 : o_i (M121 294) 3 = o_i (M113 294) 3 := by rw [Fr.at GM121 kd_294 (by decide)]
                have tr126 : o_i (M121 294) 11 = o_i (M113 294) 11 := by rw [Fr.at GM121 kd_294 (by decide)]
                have tr127 : o_i (M121 294) 18 = o_i (M113 294) 18 := by rw [Fr.at GM121 kd_294 (by decide)]
                have tr128 : o_i (M121 294) 34 = o_i (M113 294) 34 := by rw [Fr.at GM121 kd_294 (by decide)]
                refine PW.iload_n q_177_212 rfl ?_
                have J221_130 : ∀ (MJ221_130 : pM) (s131 : Int32), Iv (V) MJ221_130 → Fr [40] M MJ221_130 → 0 ≤ s131.toInt → s131.toInt ≤ 1 → o_i (MJ221_130 294) 4 = o_i (M121 294) 4 → o_i (MJ221_130 294) 3 = o_i (M121 294) 3 → o_i (MJ221_130 294) 11 = o_i (M121 294) 11 → o_i (MJ221_130 294) 18 = o_i (M121 294) 18 → o_i (MJ221_130 294) 34 = o_i (M121 294) 34 → gpk MJ221_130 = gpk M121 → o_f (MJ221_130 294) 4 = .int x31 → o_f (MJ221_130 294) 12 = .int x31 → o_f (MJ221_130 294) 13 = .int c39 → o_f (MJ221_130 294) 3 = .int x47 → o_f (MJ221_130 294) 5 = .int x48 → o_f (MJ221_130 294) 14 = .int c86 → (gLq MJ221_130 M ∧ gHq MJ221_130 M) → PW G false 1 177 (p_mc 177) (p_msl 177) Kr 221 [(0, .ref 294), (1, .int x52), (2, .int x71), (3, .int c78)] [.int s131] 311 MJ221_130 0 0 := by
                  intro MJ221_130 s131 IMJ221_130 FMJ221_130 hbJ221_1300 hbJ221_1301 hbJ221_1302 hbJ221_1303 hbJ221_1304 hbJ221_1305 hbJ221_1306 hbJ221_1307 hbJ221_1308 hbJ221_1309 hbJ221_13010 hbJ221_13011 hbJ221_13012 hbJ221_13013 hbJ221_13014
                  refine PW.istore_n q_177_221 (by decide) ?_
                  refine PW.aload_n q_177_222 rfl ?_
                  refine PW.gE q_177_223 (Or.inl t_ft_177_141) gF_40_13 kd_294 IMJ221_130.1 (by decide) hbJ221_13010 ?_
                  refine PW.cB q_177_226 (by decide) fun c132 hc132 => ?_
                  refine PW.jc_ge q_177_228 rfl (fun h133 => False.elim (by omega)) (fun h133 => ?_)
                  refine PW.aload_n q_177_231 rfl ?_
                  refine PW.aload_n q_177_232 rfl ?_
                  refine PW.gL q_177_233 (Or.inl t_ft_177_157) gF_40_17 kd_294 IMJ221_130.1 (by decide) fun l134 fl134 => ?_
                  refine PW.cB q_177_236 (by decide) fun c135 hc135 => ?_
                  refine PW.lshl q_177_238 ?_
                  refine PW.aload_n q_177_239 rfl ?_
                  refine PW.cV (as := []) (rest := [_, _]) q_177_240 t_mv_177_134 kd_294 IMJ221_130.1 (by decide) rfl (by decide) rfl rfl (Nat.le_of_ble_eq_true rfl) (Nat.le_of_ble_eq_true rfl) (by decide) (by decide) ?_
                  refine PW.up (by decide) (c_X12_peek (V) (hV) G _ MJ221_130 IMJ221_130  fun x137 M136 IM136 GM136 hx137 kx137 PM136 TM136 => ?_)
                  have FM136 := Fr.trans FMJ221_130 GM136 (rfl)
                  have tg138 := gpk_F GM136 (by decide) (by decide)
                  have tr139 : o_i (M136 294) 4 = o_i (MJ221_130 294) 4 := by rw [Fr.at GM136 kd_294 (by decide)]
                  have tr140 : o_i (M136 294) 3 = o_i (MJ221_130 294) 3 := by rw [Fr.at GM136 kd_294 (by decide)]
                  have tr141 : o_i (M136 294) 11 = o_i (MJ221_130 294) 11 := by rw [Fr.at GM136 kd_294 (by decide)]
                  have tr142 : o_i (M136 294) 18 = o_i (MJ221_130 294) 18 := by rw [Fr.at GM136 kd_294 (by decide)]
                  have tr143 : o_i (M136 294) 34 = o_i (MJ221_130 294) 34 := by rw [Fr.at GM136 kd_294 (by decide)]
                  refine PW.i2l q_177_243 ?_
                  refine PW.lor q_177_244 ?_
                  refine PW.pL q_177_245 (Or.inl t_ft_177_157) gF_40_17 gP_40_17 kd_294 hV IM136 (by decide) rfl fun M144 IM144 fM144 UM144 => ?_
                  have FM144 := Fr.pu FM136 UM144.1 kd_294 (rfl : List.contains [40] 40 = true)
                  have tg145 := gpk_U UM144 (by decide) (by decide)
                  have tr146 := UM144.i (c := 294) (k := 4) (Or.inr (by decide))
                  have tr147 := UM144.i (c := 294) (k := 3) (Or.inr (by decide))
                  have tr148 := UM144.i (c := 294) (k := 11) (Or.inr (by decide))
                  have tr149 := UM144.i (c := 294) (k := 18) (Or.inr (by decide))
                  have tr150 := UM144.i (c := 294) (k := 34) (Or.inr (by decide))
                  refine PW.aload_n q_177_248 rfl ?_
                  refine PW.gE q_177_249 (Or.inl t_ft_177_141) gF_40_13 kd_294 IM144.1 (by decide) ((UM144.f (Or.inr (by decide))).trans ((congrArg (fun e => o_f e 13) (Fr.at GM136 kd_294 (by decide))).trans hbJ221_13010)) ?_
                  refine PW.cI q_177_252 (by decide) fun c151 hc151 => ?_
                  refine PW.jc_ge q_177_253 rfl (fun h152 => False.elim (by omega)) (fun h152 => ?_)
                  refine PW.aload_n q_177_256 rfl ?_
                  refine PW.cB q_177_257 (by decide) fun c153 hc153 => ?_
                  refine PW.aload_n q_177_259 rfl ?_
                  refine PW.gE q_177_260 (Or.inl t_ft_177_154) gF_40_14 kd_294 IM144.1 (by decide) ((UM144.f (Or.inr (by decide))).trans ((congrArg (fun e => o_f e 14) (Fr.at GM136 kd_294 (by decide))).trans hbJ221_13013)) ?_
                  refine PW.mulN q_177_263 (10) (by omega) c86 (fun h => n_eq.mpr (by omega)) (fun h => n_eq.mpr (by omega)) (by omega) (by omega) fun x154 hx154 => ?_
                  refine PW.aload_n q_177_264 rfl ?_
                  refine PW.cV (as := []) (rest := [_, _]) q_177_265 t_mv_177_134 kd_294 IM144.1 (by decide) rfl (by decide) rfl rfl (Nat.le_of_ble_eq_true rfl) (Nat.le_of_ble_eq_true rfl) (by decide) (by decide) ?_
                  refine PW.up (by decide) (c_X12_peek (V) (hV) G _ M144 IM144  fun x156 M155 IM155 GM155 hx156 kx156 PM155 TM155 => ?_)
                  have FM155 := Fr.trans FM144 GM155 (rfl)
                  have tg157 := gpk_F GM155 (by decide) (by decide)
                  have tr158 : o_i (M155 294) 4 = o_i (M144 294) 4 := by rw [Fr.at GM155 kd_294 (by decide)]
                  have tr159 : o_i (M155 294) 3 = o_i (M144 294) 3 := by rw [Fr.at GM155 kd_294 (by decide)]
                  have tr160 : o_i (M155 294) 11 = o_i (M144 294) 11 := by rw [Fr.at GM155 kd_294 (by decide)]
                  have tr161 : o_i (M155 294) 18 = o_i (M144 294) 18 := by rw [Fr.at GM155 kd_294 (by decide)]
                  have tr162 : o_i (M155 294) 34 = o_i (M144 294) 34 := by rw [Fr.at GM155 kd_294 (by decide)]
                  refine PW.addN q_177_268 (by omega) (by omega) fun x163 hx163 => ?_
                  refine PW.cB q_177_269 (by decide) fun c164 hc164 => ?_
                  refine PW.subN q_177_271 (by omega) (by omega) fun x165 hx165 => ?_
                  refine PW.pI q_177_272 (Or.inl t_ft_177_154) gF_40_14 gP_40_14 kd_294 hV IM155 (by decide) rfl (n_lo _) (n_hi _) fun M166 IM166 fM166 UM166 => ?_
                  have FM166 := Fr.pu FM155 UM166.1 kd_294 (rfl : List.contains [40] 40 = true)
                  have tg167 := gpk_U UM166 (by decide) (by decide)
                  have tr168 := UM166.i (c := 294) (k := 4) (Or.inr (by decide))
                  have tr169 := UM166.i (c := 294) (k := 3) (Or.inr (by decide))
                  have tr170 := UM166.i (c := 294) (k := 11) (Or.inr (by decide))
                  have tr171 := UM166.i (c := 294) (k := 18) (Or.inr (by decide))
                  have tr172 := UM166.i (c := 294) (k := 34) (Or.inr (by decide))
                  refine PW.aload_n q_177_275 rfl ?_
                  refine PW.dup q_177_276 rfl ?_
                  refine PW.gE q_177_277 (Or.inl t_ft_177_141) gF_40_13 kd_294 IM166.1 (by decide) ((UM166.f (Or.inr (by decide))).trans ((congrArg (fun e => o_f e 13) (Fr.at GM155 kd_294 (by decide))).trans ((UM144.f (Or.inr (by decide))).trans ((congrArg (fun e => o_f e 13) (Fr.at GM136 kd_294 (by decide))).trans hbJ221_13010)))) ?_
                  refine PW.cI q_177_280 (by decide) fun c173 hc173 => ?_
                  refine PW.addN q_177_281 (by omega) (by omega) fun x174 hx174 => ?_
                  refine PW.pI q_177_282 (Or.inl t_ft_177_141) gF_40_13 gP_40_13 kd_294 hV IM166 (by decide) rfl (n_lo _) (n_hi _) fun M175 IM175 fM175 UM175 => ?_
                  have FM175 := Fr.pu FM166 UM175.1 kd_294 (rfl : List.contains [40] 40 = true)
                  have tg176 := gpk_U UM175 (by decide) (by decide)
                  have tr177 := UM175.i (c := 294) (k := 4) (Or.inr (by decide))
                  have tr178 := UM175.i (c := 294) (k := 3) (Or.inr (by decide))
                  have tr179 := UM175.i (c := 294) (k := 11) (Or.inr (by decide))
                  have tr180 := UM175.i (c := 294) (k := 18) (Or.inr (by decide))
                  have tr181 := UM175.i (c := 294) (k := 34) (Or.inr (by decide))
                  refine PW.aload_n q_177_285 rfl ?_
                  refine PW.dup q_177_286 rfl ?_
                  refine PW.gE q_177_287 (Or.inl t_ft_177_21) gF_40_4 kd_294 IM175.1 (by decide) ((UM175.f (Or.inr (by decide))).trans ((UM166.f (Or.inr (by decide))).trans ((congrArg (fun e => o_f e 4) (Fr.at GM155 kd_294 (by decide))).trans ((UM144.f (Or.inr (by decide))).trans ((congrArg (fun e => o_f e 4) (Fr.at GM136 kd_294 (by decide))).trans hbJ221_1308))))) ?_
                  have tr182 := o_i_of ((UM175.f (Or.inr (by decide))).trans ((UM166.f (Or.inr (by decide))).trans ((congrArg (fun e => o_f e 4) (Fr.at GM155 kd_294 (by decide))).trans ((UM144.f (Or.inr (by decide))).trans ((congrArg (fun e => o_f e 4) (Fr.at GM136 kd_294 (by decide))).trans hbJ221_1308)))))
                  refine PW.cI q_177_290 (by decide) fun c183 hc183 => ?_
                  refine PW.addN q_177_291 (by omega) (by omega) fun x184 hx184 => ?_
                  refine PW.pI q_177_292 (Or.inl t_ft_177_21) gF_40_4 gP_40_4 kd_294 hV IM175 (by decide) rfl (by omega) (by omega) fun M185 IM185 fM185 UM185 => ?_
                  have FM185 := Fr.pu FM175 UM185.1 kd_294 (rfl : List.contains [40] 40 = true)
                  have tr186 := o_i_of fM185
                  have tr187 := UM185.i (c := 294) (k := 3) (Or.inr (by decide))
                  have tr188 := UM185.i (c := 294) (k := 11) (Or.inr (by decide))
                  have tr189 := UM185.i (c := 294) (k := 18) (Or.inr (by decide))
                  have tr190 := UM185.i (c := 294) (k := 34) (Or.inr (by decide))
                  refine PW.goto q_177_295 rfl ?_
                  have L177_181_191 : ∀ (n : Nat) (ML177_181_191 : pM) (v192 : Int32), Iv (V) ML177_181_191 → Fr [40] M ML177_181_191 → 0 ≤ v192.toInt → v192.toInt ≤ 1 → o_i (M 294) 4 + 1 ≤ o_i (ML177_181_191 294) 4 → o_i (ML177_181_191 294) 18 = o_i (M 294) 18 → o_i (ML177_181_191 294) 34 = o_i (M 294) 34 → (gLq ML177_181_191 M ∧ gHq ML177_181_191 M) → (940 - o_i (ML177_181_191 294) 4).toNat = n → PW G false 1 177 (p_mc 177) (p_msl 177) Kr 181 [(0, .ref 294), (1, .int x52), (2, .int x71), (3, .int v192)] [] 311 ML177_181_191 0 0 := by
                    intro n
                    induction n using Nat.strongRecOn with
                    | ind n ih_L177_181_191 =>
                    intro ML177_181_191 v192 IML177_181_191 FML177_181_191 hbL177_181_1910 hbL177_181_1911 hbL177_181_1912 hbL177_181_1913 hbL177_181_1914 hbL177_181_1915 hmL177_181_191
                    refine PW.aload_n q_177_181 rfl ?_
                    refine PW.cV (as := []) (rest := []) q_177_182 t_mv_177_134 kd_294 IML177_181_191.1 (by decide) rfl (by decide) rfl rfl (Nat.le_of_ble_eq_true rfl) (Nat.le_of_ble_eq_true rfl) (by decide) (by decide) ?_
                    refine PW.up (by decide) (c_X12_peek (V) (hV) G _ ML177_181_191 IML177_181_191  fun x194 M193 IM193 GM193 hx194 kx194 PM193 TM193 => ?_)
                    have FM193 := Fr.trans FML177_181_191 GM193 (rfl)
                    have tg195 := gpk_F GM193 (by decide) (by decide)
                    have tr196 : o_i (M193 294) 4 = o_i (ML177_181_191 294) 4 := by rw [Fr.at GM193 kd_294 (by decide)]
                    have tr197 : o_i (M193 294) 3 = o_i (ML177_181_191 294) 3 := by rw [Fr.at GM193 kd_294 (by decide)]
                    have tr198 : o_i (M193 294) 11 = o_i (ML177_181_191 294) 11 := by rw [Fr.at GM193 kd_294 (by decide)]
                    have tr199 : o_i (M193 294) 18 = o_i (ML177_181_191 294) 18 := by rw [Fr.at GM193 kd_294 (by decide)]
                    have tr200 : o_i (M193 294) 34 = o_i (ML177_181_191 294) 34 := by rw [Fr.at GM193 kd_294 (by decide)]
                    refine PW.callS (as := [_]) (rest := []) q_177_185 t_ms_177_147 (by decide) rfl (Nat.le_of_ble_eq_true rfl) (Nat.le_of_ble_eq_true rfl) (by decide) (by decide) ?_
                    refine PW.up (by decide) (c_X12_isSmall (V) (hV) G _ M193 IM193 x194 fun x202 M201 IM201 GM201 hx202 kx202 PM201 => ?_)
                    have FM201 := Fr.trans FM193 GM201 (rfl)
                    have tg203 := gpk_F GM201 (by decide) (by decide)
                    have tr204 : o_i (M201 294) 4 = o_i (M193 294) 4 := by rw [Fr.at GM201 kd_294 (by decide)]
                    have tr205 : o_i (M201 294) 3 = o_i (M193 294) 3 := by rw [Fr.at GM201 kd_294 (by decide)]
                    have tr206 : o_i (M201 294) 11 = o_i (M193 294) 11 := by rw [Fr.at GM201 kd_294 (by decide)]
                    have tr207 : o_i (M201 294) 18 = o_i (M193 294) 18 := by rw [Fr.at GM201 kd_294 (by decide)]
                    have tr208 : o_i (M201 294) 34 = o_i (M193 294) 34 := by rw [Fr.at GM201 kd_294 (by decide)]
                    have J201_210 : ∀ (MJ201_210 : pM), Iv (V) MJ201_210 → Fr [40] M MJ201_210 → o_i (MJ201_210 294) 4 + 1 ≤ o_i (MJ201_210 294) 3 → o_i (MJ201_210 294) 3 ≤ 940 → o_i (MJ201_210 294) 4 = o_i (M201 294) 4 → o_i (MJ201_210 294) 3 = o_i (M201 294) 3 → o_i (MJ201_210 294) 11 = o_i (M201 294) 11 → o_i (MJ201_210 294) 18 = o_i (M201 294) 18 → o_i (MJ201_210 294) 34 = o_i (M201 294) 34 → gpk MJ201_210 = gpk M201 → (gLq MJ201_210 M ∧ gHq MJ201_210 M) → PW G false 1 177 (p_mc 177) (p_msl 177) Kr 201 [(0, .ref 294), (1, .int x52), (2, .int x71), (3, .int v192)] [] 311 MJ201_210 0 0 := by
                      intro MJ201_210  IMJ201_210 FMJ201_210 hbJ201_2100 hbJ201_2101 hbJ201_2102 hbJ201_2103 hbJ201_2104 hbJ201_2105 hbJ201_2106 hbJ201_2107 hbJ201_2108
                      refine PW.iload_n q_177_201 rfl ?_
                      have J220_212 : ∀ (MJ220_212 : pM), Iv (V) MJ220_212 → Fr [40] M MJ220_212 → o_i (MJ220_212 294) 4 = o_i (MJ201_210 294) 4 → o_i (MJ220_212 294) 3 = o_i (MJ201_210 294) 3 → o_i (MJ220_212 294) 11 = o_i (MJ201_210 294) 11 → o_i (MJ220_212 294) 18 = o_i (MJ201_210 294) 18 → o_i (MJ220_212 294) 34 = o_i (MJ201_210 294) 34 → gpk MJ220_212 = gpk MJ201_210 → (gLq MJ220_212 M ∧ gHq MJ220_212 M) → PW G false 1 177 (p_mc 177) (p_msl 177) Kr 220 [(0, .ref 294), (1, .int x52), (2, .int x71), (3, .int v192)] [] 311 MJ220_212 0 0 := by
                        intro MJ220_212  IMJ220_212 FMJ220_212 hbJ220_2120 hbJ220_2121 hbJ220_2122 hbJ220_2123 hbJ220_2124 hbJ220_2125 hbJ220_2126
                        refine PW.cI q_177_220 (by decide) fun c213 hc213 => ?_
                        refine PW.istore_n q_177_221 (by decide) ?_
                        refine PW.aload_n q_177_222 rfl ?_
                        refine PW.gI q_177_223 (Or.inl t_ft_177_141) gF_40_13 kd_294 IMJ220_212.1 (by decide) fun x214 fx214 hx214 kx214 => ?_
                        clear hx214 kx214
                        refine PW.cB q_177_226 (by decide) fun c215 hc215 => ?_
                        have J248_217 : ∀ (MJ248_217 : pM), Iv (V) MJ248_217 → Fr [40] M MJ248_217 → o_i (MJ248_217 294) 4 = o_i (MJ220_212 294) 4 → o_i (MJ248_217 294) 3 = o_i (MJ220_212 294) 3 → o_i (MJ248_217 294) 11 = o_i (MJ220_212 294) 11 → o_i (MJ248_217 294) 18 = o_i (MJ220_212 294) 18 → o_i (MJ248_217 294) 34 = o_i (MJ220_212 294) 34 → gpk MJ248_217 = gpk MJ220_212 → o_f (MJ248_217 294) 13 = .int x214 → (gLq MJ248_217 M ∧ gHq MJ248_217 M) → PW G false 1 177 (p_mc 177) (p_msl 177) Kr 248 [(0, .ref 294), (1, .int x52), (2, .int x71), (3, .int c213)] [] 311 MJ248_217 0 0 := by
                          intro MJ248_217  IMJ248_217 FMJ248_217 hbJ248_2170 hbJ248_2171 hbJ248_2172 hbJ248_2173 hbJ248_2174 hbJ248_2175 hbJ248_2176 hbJ248_2177
                          refine PW.aload_n q_177_248 rfl ?_
                          refine PW.gE q_177_249 (Or.inl t_ft_177_141) gF_40_13 kd_294 IMJ248_217.1 (by decide) hbJ248_2176 ?_
                          refine PW.cI q_177_252 (by decide) fun c218 hc218 => ?_
                          have J275_220 : ∀ (MJ275_220 : pM), Iv (V) MJ275_220 → Fr [40] M MJ275_220 → o_i (MJ275_220 294) 4 = o_i (MJ248_217 294) 4 → o_i (MJ275_220 294) 3 = o_i (MJ248_217 294) 3 → o_i (MJ275_220 294) 11 = o_i (MJ248_217 294) 11 → o_i (MJ275_220 294) 18 = o_i (MJ248_217 294) 18 → o_i (MJ275_220 294) 34 = o_i (MJ248_217 294) 34 → gpk MJ275_220 = gpk MJ248_217 → o_f (MJ275_220 294) 13 = .int x214 → (gLq MJ275_220 M ∧ gHq MJ275_220 M) → PW G false 1 177 (p_mc 177) (p_msl 177) Kr 275 [(0, .ref 294), (1, .int x52), (2, .int x71), (3, .int c213)] [] 311 MJ275_220 0 0 := by
                            intro MJ275_220  IMJ275_220 FMJ275_220 hbJ275_2200 hbJ275_2201 hbJ275_2202 hbJ275_2203 hbJ275_2204 hbJ275_2205 hbJ275_2206 hbJ275_2207
                            refine PW.aload_n q_177_275 rfl ?_
                            refine PW.dup q_177_276 rfl ?_
                            refine PW.gE q_177_277 (Or.inl t_ft_177_141) gF_40_13 kd_294 IMJ275_220.1 (by decide) hbJ275_2206 ?_
                            refine PW.cI q_177_280 (by decide) fun c221 hc221 => ?_
                            refine PW.addH q_177_281 fun x222 => ?_
                            refine PW.pI q_177_282 (Or.inl t_ft_177_141) gF_40_13 gP_40_13 kd_294 hV IMJ275_220 (by decide) rfl (n_lo _) (n_hi _) fun M223 IM223 fM223 UM223 => ?_
                            have FM223 := Fr.pu FMJ275_220 UM223.1 kd_294 (rfl : List.contains [40] 40 = true)
                            have tg224 := gpk_U UM223 (by decide) (by decide)
                            have tr225 := UM223.i (c := 294) (k := 4) (Or.inr (by decide))
                            have tr226 := UM223.i (c := 294) (k := 3) (Or.inr (by decide))
                            have tr227 := UM223.i (c := 294) (k := 11) (Or.inr (by decide))
                            have tr228 := UM223.i (c := 294) (k := 18) (Or.inr (by decide))
                            have tr229 := UM223.i (c := 294) (k := 34) (Or.inr (by decide))
                            refine PW.aload_n q_177_285 rfl ?_
                            refine PW.dup q_177_286 rfl ?_
                            refine PW.gI q_177_287 (Or.inl t_ft_177_21) gF_40_4 kd_294 IM223.1 (by decide) fun x230 fx230 hx230 kx230 => ?_
                            have trx230 := o_i_of fx230
                            refine PW.cI q_177_290 (by decide) fun c231 hc231 => ?_
                            refine PW.addN q_177_291 (by omega) (by omega) fun x232 hx232 => ?_
                            refine PW.pI q_177_292 (Or.inl t_ft_177_21) gF_40_4 gP_40_4 kd_294 hV IM223 (by decide) rfl (by omega) (by omega) fun M233 IM233 fM233 UM233 => ?_
                            have FM233 := Fr.pu FM223 UM233.1 kd_294 (rfl : List.contains [40] 40 = true)
                            have tr234 := o_i_of fM233
                            have tr235 := UM233.i (c := 294) (k := 3) (Or.inr (by decide))
                            have tr236 := UM233.i (c := 294) (k := 11) (Or.inr (by decide))
                            have tr237 := UM233.i (c := 294) (k := 18) (Or.inr (by decide))
                            have tr238 := UM233.i (c := 294) (k := 34) (Or.inr (by decide))
                            refine PW.goto q_177_295 rfl ?_
                            refine PW.lvS (lk1 rfl (lk1 rfl (lk1 rfl (lk1 rfl lk0)))) (ih_L177_181_191 _ ?_ M233 c213 IM233 FM233 (by omega) (by omega) (by omega) (by omega) (by omega) ⟨((UM233.i (c := 294) (k := 2) (Or.inr (by decide))).trans ((UM223.i (c := 294) (k := 2) (Or.inr (by decide))).trans hbJ275_2207.1)), ((hbJ275_2207.2.pu UM223 (by decide)).pu UM233 (by decide))⟩ rfl)
                            omega
                          refine PW.jc_ge q_177_253 rfl (fun h219 => ?_) (fun h219 => ?_)
                          · skip
                            exact PW.lvS (lk1 rfl (lk1 rfl (lk1 rfl (lk1 rfl lk0)))) (J275_220 MJ248_217  IMJ248_217 FMJ248_217 (by omega) (by omega) (by omega) (by omega) (by omega) (by omega) hbJ248_2176 ⟨hbJ248_2177.1, hbJ248_2177.2⟩)
                          · skip
                            refine PW.aload_n q_177_256 rfl ?_
                            refine PW.cB q_177_257 (by decide) fun c239 hc239 => ?_
                            refine PW.aload_n q_177_259 rfl ?_
                            refine PW.gI q_177_260 (Or.inl t_ft_177_154) gF_40_14 kd_294 IMJ248_217.1 (by decide) fun x240 fx240 hx240 kx240 => ?_
                            clear hx240 kx240
                            refine PW.mulH q_177_263 fun x241 => ?_
                            refine PW.aload_n q_177_264 rfl ?_
                            refine PW.cV (as := []) (rest := [_, _]) q_177_265 t_mv_177_134 kd_294 IMJ248_217.1 (by decide) rfl (by decide) rfl rfl (Nat.le_of_ble_eq_true rfl) (Nat.le_of_ble_eq_true rfl) (by decide) (by decide) ?_
                            refine PW.up (by decide) (c_X12_peek (V) (hV) G _ MJ248_217 IMJ248_217  fun x243 M242 IM242 GM242 hx243 kx243 PM242 TM242 => ?_)
                            have FM242 := Fr.trans FMJ248_217 GM242 (rfl)
                            have tg244 := gpk_F GM242 (by decide) (by decide)
                            have tr245 : o_i (M242 294) 4 = o_i (MJ248_217 294) 4 := by rw [Fr.at GM242 kd_294 (by decide)]
                            have tr246 : o_i (M242 294) 3 = o_i (MJ248_217 294) 3 := by rw [Fr.at GM242 kd_294 (by decide)]
                            have tr247 : o_i (M242 294) 11 = o_i (MJ248_217 294) 11 := by rw [Fr.at GM242 kd_294 (by decide)]
                            have tr248 : o_i (M242 294) 18 = o_i (MJ248_217 294) 18 := by rw [Fr.at GM242 kd_294 (by decide)]
                            have tr249 : o_i (M242 294) 34 = o_i (MJ248_217 294) 34 := by rw [Fr.at GM242 kd_294 (by decide)]
                            refine PW.addH q_177_268 fun x250 => ?_
                            refine PW.cB q_177_269 (by decide) fun c251 hc251 => ?_
                            refine PW.subH q_177_271 fun x252 => ?_
                            refine PW.pI q_177_272 (Or.inl t_ft_177_154) gF_40_14 gP_40_14 kd_294 hV IM242 (by decide) rfl (n_lo _) (n_hi _) fun M253 IM253 fM253 UM253 => ?_
                            have FM253 := Fr.pu FM242 UM253.1 kd_294 (rfl : List.contains [40] 40 = true)
                            have tg254 := gpk_U UM253 (by decide) (by decide)
                            have tr255 := UM253.i (c := 294) (k := 4) (Or.inr (by decide))
                            have tr256 := UM253.i (c := 294) (k := 3) (Or.inr (by decide))
                            have tr257 := UM253.i (c := 294) (k := 11) (Or.inr (by decide))
                            have tr258 := UM253.i (c := 294) (k := 18) (Or.inr (by decide))
                            have tr259 := UM253.i (c := 294) (k := 34) (Or.inr (by decide))
                            exact PW.lvS (lk1 rfl (lk1 rfl (lk1 rfl (lk1 rfl lk0)))) (J275_220 M253  IM253 FM253 (by omega) (by omega) (by omega) (by omega) (by omega) (by omega) ((UM253.f (Or.inr (by decide))).trans ((congrArg (fun e => o_f e 13) (Fr.at GM242 kd_294 (by decide))).trans hbJ248_2176)) ⟨((UM253.i (c := 294) (k := 2) (Or.inr (by decide))).trans ((congrArg (fun e => o_i e 2) (Fr.at GM242 kd_294 rfl)).trans hbJ248_2177.1)), ((hbJ248_2177.2.cg (Fr.at GM242 kd_296 rfl) (Fr.at GM242 kd_294 rfl)).pu UM253 (by decide))⟩)
                        refine PW.jc_ge q_177_228 rfl (fun h216 => ?_) (fun h216 => ?_)
                        · skip
                          exact PW.lvS (lk1 rfl (lk1 rfl (lk1 rfl (lk1 rfl lk0)))) (J248_217 MJ220_212  IMJ220_212 FMJ220_212 (by omega) (by omega) (by omega) (by omega) (by omega) (by omega) fx214 ⟨hbJ220_2126.1, hbJ220_2126.2⟩)
                        · skip
                          refine PW.aload_n q_177_231 rfl ?_
                          refine PW.aload_n q_177_232 rfl ?_
                          refine PW.gL q_177_233 (Or.inl t_ft_177_157) gF_40_17 kd_294 IMJ220_212.1 (by decide) fun l260 fl260 => ?_
                          refine PW.cB q_177_236 (by decide) fun c261 hc261 => ?_
                          refine PW.lshl q_177_238 ?_
                          refine PW.aload_n q_177_239 rfl ?_
                          refine PW.cV (as := []) (rest := [_, _]) q_177_240 t_mv_177_134 kd_294 IMJ220_212.1 (by decide) rfl (by decide) rfl rfl (Nat.le_of_ble_eq_true rfl) (Nat.le_of_ble_eq_true rfl) (by decide) (by decide) ?_
                          refine PW.up (by decide) (c_X12_peek (V) (hV) G _ MJ220_212 IMJ220_212  fun x263 M262 IM262 GM262 hx263 kx263 PM262 TM262 => ?_)
                          have FM262 := Fr.trans FMJ220_212 GM262 (rfl)
                          have tg264 := gpk_F GM262 (by decide) (by decide)
                          have tr265 : o_i (M262 294) 4 = o_i (MJ220_212 294) 4 := by rw [Fr.at GM262 kd_294 (by decide)]
                          have tr266 : o_i (M262 294) 3 = o_i (MJ220_212 294) 3 := by rw [Fr.at GM262 kd_294 (by decide)]
                          have tr267 : o_i (M262 294) 11 = o_i (MJ220_212 294) 11 := by rw [Fr.at GM262 kd_294 (by decide)]
                          have tr268 : o_i (M262 294) 18 = o_i (MJ220_212 294) 18 := by rw [Fr.at GM262 kd_294 (by decide)]
                          have tr269 : o_i (M262 294) 34 = o_i (MJ220_212 294) 34 := by rw [Fr.at GM262 kd_294 (by decide)]
                          refine PW.i2l q_177_243 ?_
                          refine PW.lor q_177_244 ?_
                          refine PW.pL q_177_245 (Or.inl t_ft_177_157) gF_40_17 gP_40_17 kd_294 hV IM262 (by decide) rfl fun M270 IM270 fM270 UM270 => ?_
                          have FM270 := Fr.pu FM262 UM270.1 kd_294 (rfl : List.contains [40] 40 = true)
                          have tg271 := gpk_U UM270 (by decide) (by decide)
                          have tr272 := UM270.i (c := 294) (k := 4) (Or.inr (by decide))
                          have tr273 := UM270.i (c := 294) (k := 3) (Or.inr (by decide))
                          have tr274 := UM270.i (c := 294) (k := 11) (Or.inr (by decide))
                          have tr275 := UM270.i (c := 294) (k := 18) (Or.inr (by decide))
                          have tr276 := UM270.i (c := 294) (k := 34) (Or.inr (by decide))
                          exact PW.lvS (lk1 rfl (lk1 rfl (lk1 rfl (lk1 rfl lk0)))) (J248_217 M270  IM270 FM270 (by omega) (by omega) (by omega) (by omega) (by omega) (by omega) ((UM270.f (Or.inr (by decide))).trans ((congrArg (fun e => o_f e 13) (Fr.at GM262 kd_294 (by decide))).trans fx214)) ⟨((UM270.i (c := 294) (k := 2) (Or.inr (by decide))).trans ((congrArg (fun e => o_i e 2) (Fr.at GM262 kd_294 rfl)).trans hbJ220_2126.1)), ((hbJ220_2126.2.cg (Fr.at GM262 kd_296 rfl) (Fr.at GM262 kd_294 rfl)).pu UM270 (by decide))⟩)
                      refine PW.jz_eq q_177_202 rfl (fun h211 => ?_) (fun h211 => ?_)
                      · skip
                        exact PW.lvS (lk1 rfl (lk1 rfl (lk1 rfl (lk1 rfl lk0)))) (J220_212 MJ201_210  IMJ201_210 FMJ201_210 (by omega) (by omega) (by omega) (by omega) (by omega) (by omega) ⟨hbJ201_2108.1, hbJ201_2108.2⟩)
                      · skip
                        refine PW.aload_n q_177_205 rfl ?_
                        refine PW.cV (as := []) (rest := []) q_177_206 t_mv_177_134 kd_294 IMJ201_210.1 (by decide) rfl (by decide) rfl rfl (Nat.le_of_ble_eq_true rfl) (Nat.le_of_ble_eq_true rfl) (by decide) (by decide) ?_
                        refine PW.up (by decide) (c_X12_peek (V) (hV) G _ MJ201_210 IMJ201_210  fun x278 M277 IM277 GM277 hx278 kx278 PM277 TM277 => ?_)
                        have FM277 := Fr.trans FMJ201_210 GM277 (rfl)
                        have tg279 := gpk_F GM277 (by decide) (by decide)
                        have tr280 : o_i (M277 294) 4 = o_i (MJ201_210 294) 4 := by rw [Fr.at GM277 kd_294 (by decide)]
                        have tr281 : o_i (M277 294) 3 = o_i (MJ201_210 294) 3 := by rw [Fr.at GM277 kd_294 (by decide)]
                        have tr282 : o_i (M277 294) 11 = o_i (MJ201_210 294) 11 := by rw [Fr.at GM277 kd_294 (by decide)]
                        have tr283 : o_i (M277 294) 18 = o_i (MJ201_210 294) 18 := by rw [Fr.at GM277 kd_294 (by decide)]
                        have tr284 : o_i (M277 294) 34 = o_i (MJ201_210 294) 34 := by rw [Fr.at GM277 kd_294 (by decide)]
                        refine PW.callS (as := [_]) (rest := []) q_177_209 t_ms_177_147 (by decide) rfl (Nat.le_of_ble_eq_true rfl) (Nat.le_of_ble_eq_true rfl) (by decide) (by decide) ?_
                        refine PW.up (by decide) (c_X12_isSmall (V) (hV) G _ M277 IM277 x278 fun x286 M285 IM285 GM285 hx286 kx286 PM285 => ?_)
                        have FM285 := Fr.trans FM277 GM285 (rfl)
                        have tg287 := gpk_F GM285 (by decide) (by decide)
                        have tr288 : o_i (M285 294) 4 = o_i (M277 294) 4 := by rw [Fr.at GM285 kd_294 (by decide)]
                        have tr289 : o_i (M285 294) 3 = o_i (M277 294) 3 := by rw [Fr.at GM285 kd_294 (by decide)]
                        have tr290 : o_i (M285 294) 11 = o_i (M277 294) 11 := by rw [Fr.at GM285 kd_294 (by decide)]
                        have tr291 : o_i (M285 294) 18 = o_i (M277 294) 18 := by rw [Fr.at GM285 kd_294 (by decide)]
                        have tr292 : o_i (M285 294) 34 = o_i (M277 294) 34 := by rw [Fr.at GM285 kd_294 (by decide)]
                        refine PW.iload_n q_177_212 rfl ?_
                        refine PW.jc_ne q_177_213 rfl (fun h293 => ?_) (fun h293 => ?_)
                        · skip
                          exact PW.lvS (lk1 rfl (lk1 rfl (lk1 rfl (lk1 rfl lk0)))) (J220_212 M285  IM285 FM285 (by omega) (by omega) (by omega) (by omega) (by omega) (by omega) ⟨((congrArg (fun e => o_i e 2) (Fr.at GM285 kd_294 rfl)).trans ((congrArg (fun e => o_i e 2) (Fr.at GM277 kd_294 rfl)).trans hbJ201_2108.1)), ((hbJ201_2108.2.cg (Fr.at GM277 kd_296 rfl) (Fr.at GM277 kd_294 rfl)).cg (Fr.at GM285 kd_296 rfl) (Fr.at GM285 kd_294 rfl))⟩)
                        · skip
                          refine PW.cI q_177_216 (by decide) fun c294 hc294 => ?_
                          refine PW.goto q_177_217 rfl ?_
                          refine PW.istore_n q_177_221 (by decide) ?_
                          refine PW.aload_n q_177_222 rfl ?_
                          refine PW.gI q_177_223 (Or.inl t_ft_177_141) gF_40_13 kd_294 IM285.1 (by decide) fun x295 fx295 hx295 kx295 => ?_
                          clear hx295 kx295
                          refine PW.cB q_177_226 (by decide) fun c296 hc296 => ?_
                          have J248_298 : ∀ (MJ248_298 : pM), Iv (V) MJ248_298 → Fr [40] M MJ248_298 → o_i (MJ248_298 294) 4 = o_i (M285 294) 4 → o_i (MJ248_298 294) 3 = o_i (M285 294) 3 → o_i (MJ248_298 294) 11 = o_i (M285 294) 11 → o_i (MJ248_298 294) 18 = o_i (M285 294) 18 → o_i (MJ248_298 294) 34 = o_i (M285 294) 34 → gpk MJ248_298 = gpk M285 → o_f (MJ248_298 294) 13 = .int x295 → (gLq MJ248_298 M ∧ gHq MJ248_298 M) → PW G false 1 177 (p_mc 177) (p_msl 177) Kr 248 [(0, .ref 294), (1, .int x52), (2, .int x71), (3, .int c294)] [] 311 MJ248_298 0 0 := by
                            intro MJ248_298  IMJ248_298 FMJ248_298 hbJ248_2980 hbJ248_2981 hbJ248_2982 hbJ248_2983 hbJ248_2984 hbJ248_2985 hbJ248_2986 hbJ248_2987
                            refine PW.aload_n q_177_248 rfl ?_
                            refine PW.gE q_177_249 (Or.inl t_ft_177_141) gF_40_13 kd_294 IMJ248_298.1 (by decide) hbJ248_2986 ?_
                            refine PW.cI q_177_252 (by decide) fun c299 hc299 => ?_
                            have J275_301 : ∀ (MJ275_301 : pM), Iv (V) MJ275_301 → Fr [40] M MJ275_301 → o_i (MJ275_301 294) 4 = o_i (MJ248_298 294) 4 → o_i (MJ275_301 294) 3 = o_i (MJ248_298 294) 3 → o_i (MJ275_301 294) 11 = o_i (MJ248_298 294) 11 → o_i (MJ275_301 294) 18 = o_i (MJ248_298 294) 18 → o_i (MJ275_301 294) 34 = o_i (MJ248_298 294) 34 → gpk MJ275_301 = gpk MJ248_298 → o_f (MJ275_301 294) 13 = .int x295 → (gLq MJ275_301 M ∧ gHq MJ275_301 M) → PW G false 1 177 (p_mc 177) (p_msl 177) Kr 275 [(0, .ref 294), (1, .int x52), (2, .int x71), (3, .int c294)] [] 311 MJ275_301 0 0 := by
                              intro MJ275_301  IMJ275_301 FMJ275_301 hbJ275_3010 hbJ275_3011 hbJ275_3012 hbJ275_3013 hbJ275_3014 hbJ275_3015 hbJ275_3016 hbJ275_3017
                              refine PW.aload_n q_177_275 rfl ?_
                              refine PW.dup q_177_276 rfl ?_
                              refine PW.gE q_177_277 (Or.inl t_ft_177_141) gF_40_13 kd_294 IMJ275_301.1 (by decide) hbJ275_3016 ?_
                              refine PW.cI q_177_280 (by decide) fun c302 hc302 => ?_
                              refine PW.addH q_177_281 fun x303 => ?_
                              refine PW.pI q_177_282 (Or.inl t_ft_177_141) gF_40_13 gP_40_13 kd_294 hV IMJ275_301 (by decide) rfl (n_lo _) (n_hi _) fun M304 IM304 fM304 UM304 => ?_
                              have FM304 := Fr.pu FMJ275_301 UM304.1 kd_294 (rfl : List.contains [40] 40 = true)
                              have tg305 := gpk_U UM304 (by decide) (by decide)
                              have tr306 := UM304.i (c := 294) (k := 4) (Or.inr (by decide))
                              have tr307 := UM304.i (c := 294) (k := 3) (Or.inr (by decide))
                              have tr308 := UM304.i (c := 294) (k := 11) (Or.inr (by decide))
                              have tr309 := UM304.i (c := 294) (k := 18) (Or.inr (by decide))
                              have tr310 := UM304.i (c := 294) (k := 34) (Or.inr (by decide))
                              refine PW.aload_n q_177_285 rfl ?_
                              refine PW.dup q_177_286 rfl ?_
                              refine PW.gI q_177_287 (Or.inl t_ft_177_21) gF_40_4 kd_294 IM304.1 (by decide) fun x311 fx311 hx311 kx311 => ?_
                              have trx311 := o_i_of fx311
                              refine PW.cI q_177_290 (by decide) fun c312 hc312 => ?_
                              refine PW.addN q_177_291 (by omega) (by omega) fun x313 hx313 => ?_
                              refine PW.pI q_177_292 (Or.inl t_ft_177_21) gF_40_4 gP_40_4 kd_294 hV IM304 (by decide) rfl (by omega) (by omega) fun M314 IM314 fM314 UM314 => ?_
                              have FM314 := Fr.pu FM304 UM314.1 kd_294 (rfl : List.contains [40] 40 = true)
                              have tr315 := o_i_of fM314
                              have tr316 := UM314.i (c := 294) (k := 3) (Or.inr (by decide))
                              have tr317 := UM314.i (c := 294) (k := 11) (Or.inr (by decide))
                              have tr318 := UM314.i (c := 294) (k := 18) (Or.inr (by decide))
                              have tr319 := UM314.i (c := 294) (k := 34) (Or.inr (by decide))
                              refine PW.goto q_177_295 rfl ?_
                              refine PW.lvS (lk1 rfl (lk1 rfl (lk1 rfl (lk1 rfl lk0)))) (ih_L177_181_191 _ ?_ M314 c294 IM314 FM314 (by omega) (by omega) (by omega) (by omega) (by omega) ⟨((UM314.i (c := 294) (k := 2) (Or.inr (by decide))).trans ((UM304.i (c := 294) (k := 2) (Or.inr (by decide))).trans hbJ275_3017.1)), ((hbJ275_3017.2.pu UM304 (by decide)).pu UM314 (by decide))⟩ rfl)
                              omega
                            refine PW.jc_ge q_177_253 rfl (fun h300 => ?_) (fun h300 => ?_)
                            · skip
                              exact PW.lvS (lk1 rfl (lk1 rfl (lk1 rfl (lk1 rfl lk0)))) (J275_301 MJ248_298  IMJ248_298 FMJ248_298 (by omega) (by omega) (by omega) (by omega) (by omega) (by omega) hbJ248_2986 ⟨hbJ248_2987.1, hbJ248_2987.2⟩)
                            · skip
                              refine PW.aload_n q_177_256 rfl ?_
                              refine PW.cB q_177_257 (by decide) fun c320 hc320 => ?_
                              refine PW.aload_n q_177_259 rfl ?_
                              refine PW.gI q_177_260 (Or.inl t_ft_177_154) gF_40_14 kd_294 IMJ248_298.1 (by decide) fun x321 fx321 hx321 kx321 => ?_
                              clear hx321 kx321
                              refine PW.mulH q_177_263 fun x322 => ?_
                              refine PW.aload_n q_177_264 rfl ?_
                              refine PW.cV (as := []) (rest := [_, _]) q_177_265 t_mv_177_134 kd_294 IMJ248_298.1 (by decide) rfl (by decide) rfl rfl (Nat.le_of_ble_eq_true rfl) (Nat.le_of_ble_eq_true rfl) (by decide) (by decide) ?_
                              refine PW.up (by decide) (c_X12_peek (V) (hV) G _ MJ248_298 IMJ248_298  fun x324 M323 IM323 GM323 hx324 kx324 PM323 TM323 => ?_)
                              have FM323 := Fr.trans FMJ248_298 GM323 (rfl)
                              have tg325 := gpk_F GM323 (by decide) (by decide)
                              have tr326 : o_i (M323 294) 4 = o_i (MJ248_298 294) 4 := by rw [Fr.at GM323 kd_294 (by decide)]
                              have tr327 : o_i (M323 294) 3 = o_i (MJ248_298 294) 3 := by rw [Fr.at GM323 kd_294 (by decide)]
                              have tr328 : o_i (M323 294) 11 = o_i (MJ248_298 294) 11 := by rw [Fr.at GM323 kd_294 (by decide)]
                              have tr329 : o_i (M323 294) 18 = o_i (MJ248_298 294) 18 := by rw [Fr.at GM323 kd_294 (by decide)]
                              have tr330 : o_i (M323 294) 34 = o_i (MJ248_298 294) 34 := by rw [Fr.at GM323 kd_294 (by decide)]
                              refine PW.addH q_177_268 fun x331 => ?_
                              refine PW.cB q_177_269 (by decide) fun c332 hc332 => ?_
                              refine PW.subH q_177_271 fun x333 => ?_
                              refine PW.pI q_177_272 (Or.inl t_ft_177_154) gF_40_14 gP_40_14 kd_294 hV IM323 (by decide) rfl (n_lo _) (n_hi _) fun M334 IM334 fM334 UM334 => ?_
                              have FM334 := Fr.pu FM323 UM334.1 kd_294 (rfl : List.contains [40] 40 = true)
                              have tg335 := gpk_U UM334 (by decide) (by decide)
                              have tr336 := UM334.i (c := 294) (k := 4) (Or.inr (by decide))
                              have tr337 := UM334.i (c := 294) (k := 3) (Or.inr (by decide))
                              have tr338 := UM334.i (c := 294) (k := 11) (Or.inr (by decide))
                              have tr339 := UM334.i (c := 294) (k := 18) (Or.inr (by decide))
                              have tr340 := UM334.i (c := 294) (k := 34) (Or.inr (by decide))
                              exact PW.lvS (lk1 rfl (lk1 rfl (lk1 rfl (lk1 rfl lk0)))) (J275_301 M334  IM334 FM334 (by omega) (by omega) (by omega) (by omega) (by omega) (by omega) ((UM334.f (Or.inr (by decide))).trans ((congrArg (fun e => o_f e 13) (Fr.at GM323 kd_294 (by decide))).trans hbJ248_2986)) ⟨((UM334.i (c := 294) (k := 2) (Or.inr (by decide))).trans ((congrArg (fun e => o_i e 2) (Fr.at GM323 kd_294 rfl)).trans hbJ248_2987.1)), ((hbJ248_2987.2.cg (Fr.at GM323 kd_296 rfl) (Fr.at GM323 kd_294 rfl)).pu UM334 (by decide))⟩)
                          refine PW.jc_ge q_177_228 rfl (fun h297 => ?_) (fun h297 => ?_)
                          · skip
                            exact PW.lvS (lk1 rfl (lk1 rfl (lk1 rfl (lk1 rfl lk0)))) (J248_298 M285  IM285 FM285 (by omega) (by omega) (by omega) (by omega) (by omega) (by omega) fx295 ⟨((congrArg (fun e => o_i e 2) (Fr.at GM285 kd_294 rfl)).trans ((congrArg (fun e => o_i e 2) (Fr.at GM277 kd_294 rfl)).trans hbJ201_2108.1)), ((hbJ201_2108.2.cg (Fr.at GM277 kd_296 rfl) (Fr.at GM277 kd_294 rfl)).cg (Fr.at GM285 kd_296 rfl) (Fr.at GM285 kd_294 rfl))⟩)
                          · skip
                            refine PW.aload_n q_177_231 rfl ?_
                            refine PW.aload_n q_177_232 rfl ?_
                            refine PW.gL q_177_233 (Or.inl t_ft_177_157) gF_40_17 kd_294 IM285.1 (by decide) fun l341 fl341 => ?_
                            refine PW.cB q_177_236 (by decide) fun c342 hc342 => ?_
                            refine PW.lshl q_177_238 ?_
                            refine PW.aload_n q_177_239 rfl ?_
                            refine PW.cV (as := []) (rest := [_, _]) q_177_240 t_mv_177_134 kd_294 IM285.1 (by decide) rfl (by decide) rfl rfl (Nat.le_of_ble_eq_true rfl) (Nat.le_of_ble_eq_true rfl) (by decide) (by decide) ?_
                            refine PW.up (by decide) (c_X12_peek (V) (hV) G _ M285 IM285  fun x344 M343 IM343 GM343 hx344 kx344 PM343 TM343 => ?_)
                            have FM343 := Fr.trans FM285 GM343 (rfl)
                            have tg345 := gpk_F GM343 (by decide) (by decide)
                            have tr346 : o_i (M343 294) 4 = o_i (M285 294) 4 := by rw [Fr.at GM343 kd_294 (by decide)]
                            have tr347 : o_i (M343 294) 3 = o_i (M285 294) 3 := by rw [Fr.at GM343 kd_294 (by decide)]
                            have tr348 : o_i (M343 294) 11 = o_i (M285 294) 11 := by rw [Fr.at GM343 kd_294 (by decide)]
                            have tr349 : o_i (M343 294) 18 = o_i (M285 294) 18 := by rw [Fr.at GM343 kd_294 (by decide)]
                            have tr350 : o_i (M343 294) 34 = o_i (M285 294) 34 := by rw [Fr.at GM343 kd_294 (by decide)]
                            refine PW.i2l q_177_243 ?_
                            refine PW.lor q_177_244 ?_
                            refine PW.pL q_177_245 (Or.inl t_ft_177_157) gF_40_17 gP_40_17 kd_294 hV IM343 (by decide) rfl fun M351 IM351 fM351 UM351 => ?_
                            have FM351 := Fr.pu FM343 UM351.1 kd_294 (rfl : List.contains [40] 40 = true)
                            have tg352 := gpk_U UM351 (by decide) (by decide)
                            have tr353 := UM351.i (c := 294) (k := 4) (Or.inr (by decide))
                            have tr354 := UM351.i (c := 294) (k := 3) (Or.inr (by decide))
                            have tr355 := UM351.i (c := 294) (k := 11) (Or.inr (by decide))
                            have tr356 := UM351.i (c := 294) (k := 18) (Or.inr (by decide))
                            have tr357 := UM351.i (c := 294) (k := 34) (Or.inr (by decide))
                            exact PW.lvS (lk1 rfl (lk1 rfl (lk1 rfl (lk1 rfl lk0)))) (J248_298 M351  IM351 FM351 (by omega) (by omega) (by omega) (by omega) (by omega) (by omega) ((UM351.f (Or.inr (by decide))).trans ((congrArg (fun e => o_f e 13) (Fr.at GM343 kd_294 (by decide))).trans fx295)) ⟨((UM351.i (c := 294) (k := 2) (Or.inr (by decide))).trans ((congrArg (fun e => o_i e 2) (Fr.at GM343 kd_294 rfl)).trans ((congrArg (fun e => o_i e 2) (Fr.at GM285 kd_294 rfl)).trans ((congrArg (fun e => o_i e 2) (Fr.at GM277 kd_294 rfl)).trans hbJ201_2108.1)))), ((((hbJ201_2108.2.cg (Fr.at GM277 kd_296 rfl) (Fr.at GM277 kd_294 rfl)).cg (Fr.at GM285 kd_296 rfl) (Fr.at GM285 kd_294 rfl)).cg (Fr.at GM343 kd_296 rfl) (Fr.at GM343 kd_294 rfl)).pu UM351 (by decide))⟩)
                    refine PW.jz_ne q_177_188 rfl (fun h209 => ?_) (fun h209 => ?_)
                    · skip
                      exact PW.lvS (lk1 rfl (lk1 rfl (lk1 rfl (lk1 rfl lk0)))) (J201_210 M201  IM201 FM201 (by omega) (by omega) (by omega) (by omega) (by omega) (by omega) (by omega) (by omega) ⟨((congrArg (fun e => o_i e 2) (Fr.at GM201 kd_294 rfl)).trans ((congrArg (fun e => o_i e 2) (Fr.at GM193 kd_294 rfl)).trans hbL177_181_1915.1)), ((hbL177_181_1915.2.cg (Fr.at GM193 kd_296 rfl) (Fr.at GM193 kd_294 rfl)).cg (Fr.at GM201 kd_296 rfl) (Fr.at GM201 kd_294 rfl))⟩)
                    · skip
                      refine PW.aload_n q_177_191 rfl ?_
                      refine PW.cV (as := []) (rest := []) q_177_192 t_mv_177_134 kd_294 IM201.1 (by decide) rfl (by decide) rfl rfl (Nat.le_of_ble_eq_true rfl) (Nat.le_of_ble_eq_true rfl) (by decide) (by decide) ?_
                      refine PW.up (by decide) (c_X12_peek (V) (hV) G _ M201 IM201  fun x359 M358 IM358 GM358 hx359 kx359 PM358 TM358 => ?_)
                      have FM358 := Fr.trans FM201 GM358 (rfl)
                      have tg360 := gpk_F GM358 (by decide) (by decide)
                      have tr361 : o_i (M358 294) 4 = o_i (M201 294) 4 := by rw [Fr.at GM358 kd_294 (by decide)]
                      have tr362 : o_i (M358 294) 3 = o_i (M201 294) 3 := by rw [Fr.at GM358 kd_294 (by decide)]
                      have tr363 : o_i (M358 294) 11 = o_i (M201 294) 11 := by rw [Fr.at GM358 kd_294 (by decide)]
                      have tr364 : o_i (M358 294) 18 = o_i (M201 294) 18 := by rw [Fr.at GM358 kd_294 (by decide)]
                      have tr365 : o_i (M358 294) 34 = o_i (M201 294) 34 := by rw [Fr.at GM358 kd_294 (by decide)]
                      refine PW.callS (as := [_]) (rest := []) q_177_195 t_ms_177_151 (by decide) rfl (Nat.le_of_ble_eq_true rfl) (Nat.le_of_ble_eq_true rfl) (by decide) (by decide) ?_
                      refine PW.up (by decide) (c_X12_isDigit (V) (hV) G _ M358 IM358 x359 fun x367 M366 IM366 GM366 hx367 kx367 PM366 => ?_)
                      have FM366 := Fr.trans FM358 GM366 (rfl)
                      have tg368 := gpk_F GM366 (by decide) (by decide)
                      have tr369 : o_i (M366 294) 4 = o_i (M358 294) 4 := by rw [Fr.at GM366 kd_294 (by decide)]
                      have tr370 : o_i (M366 294) 3 = o_i (M358 294) 3 := by rw [Fr.at GM366 kd_294 (by decide)]
                      have tr371 : o_i (M366 294) 11 = o_i (M358 294) 11 := by rw [Fr.at GM366 kd_294 (by decide)]
                      have tr372 : o_i (M366 294) 18 = o_i (M358 294) 18 := by rw [Fr.at GM366 kd_294 (by decide)]
                      have tr373 : o_i (M366 294) 34 = o_i (M358 294) 34 := by rw [Fr.at GM366 kd_294 (by decide)]
                      refine PW.jz_eq q_177_198 rfl (fun h374 => ?_) (fun h374 => ?_)
                      · skip
                        refine PW.aload_n q_177_298 rfl ?_
                        refine PW.iload_n q_177_299 rfl ?_
                        refine PW.jz_eq q_177_300 rfl (fun h375 => ?_) (fun h375 => ?_)
                        · skip
                          refine PW.cI q_177_320 (by decide) fun c376 hc376 => ?_
                          refine PW.goto q_177_321 rfl ?_
                          refine PW.pI q_177_333 (Or.inl t_ft_177_144) gF_40_11 gP_40_11 kd_294 hV IM366 (by decide) rfl (n_lo _) (n_hi _) fun M377 IM377 fM377 UM377 => ?_
                          have FM377 := Fr.pu FM366 UM377.1 kd_294 (rfl : List.contains [40] 40 = true)
                          have tg378 := gpk_U UM377 (by decide) (by decide)
                          have tr379 := UM377.i (c := 294) (k := 4) (Or.inr (by decide))
                          have tr380 := UM377.i (c := 294) (k := 3) (Or.inr (by decide))
                          have tr381 := o_i_of fM377
                          have tr382 := UM377.i (c := 294) (k := 18) (Or.inr (by decide))
                          have tr383 := UM377.i (c := 294) (k := 34) (Or.inr (by decide))
                          refine PW.vret q_177_336 rfl (by decide) (by decide) ?_
                          exact hK M377 IM377 FM377 (by omega) ⟨((UM377.i (c := 294) (k := 2) (Or.inr (by decide))).trans ((congrArg (fun e => o_i e 2) (Fr.at GM366 kd_294 rfl)).trans ((congrArg (fun e => o_i e 2) (Fr.at GM358 kd_294 rfl)).trans ((congrArg (fun e => o_i e 2) (Fr.at GM201 kd_294 rfl)).trans ((congrArg (fun e => o_i e 2) (Fr.at GM193 kd_294 rfl)).trans hbL177_181_1915.1))))), (((((hbL177_181_1915.2.cg (Fr.at GM193 kd_296 rfl) (Fr.at GM193 kd_294 rfl)).cg (Fr.at GM201 kd_296 rfl) (Fr.at GM201 kd_294 rfl)).cg (Fr.at GM358 kd_296 rfl) (Fr.at GM358 kd_294 rfl)).cg (Fr.at GM366 kd_296 rfl) (Fr.at GM366 kd_294 rfl)).pu UM377 (by decide))⟩
                        · skip
                          refine PW.aload_n q_177_303 rfl ?_
                          refine PW.gI q_177_304 (Or.inl t_ft_177_141) gF_40_13 kd_294 IM366.1 (by decide) fun x384 fx384 hx384 kx384 => ?_
                          clear hx384 kx384
                          refine PW.iload_n q_177_307 rfl ?_
                          have J317_386 : ∀ (MJ317_386 : pM) (s387 : Int32), Iv (V) MJ317_386 → Fr [40] M MJ317_386 → 3 ≤ s387.toInt → s387.toInt ≤ 7 → o_i (MJ317_386 294) 4 = o_i (M366 294) 4 → o_i (MJ317_386 294) 3 = o_i (M366 294) 3 → o_i (MJ317_386 294) 11 = o_i (M366 294) 11 → o_i (MJ317_386 294) 18 = o_i (M366 294) 18 → o_i (MJ317_386 294) 34 = o_i (M366 294) 34 → gpk MJ317_386 = gpk M366 → o_f (MJ317_386 294) 13 = .int x384 → (gLq MJ317_386 M ∧ gHq MJ317_386 M) → PW G false 1 177 (p_mc 177) (p_msl 177) Kr 317 [(0, .ref 294), (1, .int x52), (2, .int x71), (3, .int v192)] [.int s387, .int x384, .ref 294] 311 MJ317_386 0 0 := by
                            intro MJ317_386 s387 IMJ317_386 FMJ317_386 hbJ317_3860 hbJ317_3861 hbJ317_3862 hbJ317_3863 hbJ317_3864 hbJ317_3865 hbJ317_3866 hbJ317_3867 hbJ317_3868 hbJ317_3869
                            refine PW.jc_le q_177_317 rfl (fun h388 => ?_) (fun h388 => ?_)
                            · skip
                              refine PW.iload_n q_177_324 rfl ?_
                              refine PW.jz_eq q_177_325 rfl (fun h389 => ?_) (fun h389 => ?_)
                              · skip
                                refine PW.cI q_177_332 (by decide) fun c390 hc390 => ?_
                                refine PW.pI q_177_333 (Or.inl t_ft_177_144) gF_40_11 gP_40_11 kd_294 hV IMJ317_386 (by decide) rfl (n_lo _) (n_hi _) fun M391 IM391 fM391 UM391 => ?_
                                have FM391 := Fr.pu FMJ317_386 UM391.1 kd_294 (rfl : List.contains [40] 40 = true)
                                have tg392 := gpk_U UM391 (by decide) (by decide)
                                have tr393 := UM391.i (c := 294) (k := 4) (Or.inr (by decide))
                                have tr394 := UM391.i (c := 294) (k := 3) (Or.inr (by decide))
                                have tr395 := o_i_of fM391
                                have tr396 := UM391.i (c := 294) (k := 18) (Or.inr (by decide))
                                have tr397 := UM391.i (c := 294) (k := 34) (Or.inr (by decide))
                                refine PW.vret q_177_336 rfl (by decide) (by decide) ?_
                                exact hK M391 IM391 FM391 (by omega) ⟨((UM391.i (c := 294) (k := 2) (Or.inr (by decide))).trans hbJ317_3869.1), (hbJ317_3869.2.pu UM391 (by decide))⟩
                              · skip
                                refine PW.cI q_177_328 (by decide) fun c398 hc398 => ?_
                                refine PW.goto q_177_329 rfl ?_
                                refine PW.pI q_177_333 (Or.inl t_ft_177_144) gF_40_11 gP_40_11 kd_294 hV IMJ317_386 (by decide) rfl (n_lo _) (n_hi _) fun M399 IM399 fM399 UM399 => ?_
                                have FM399 := Fr.pu FMJ317_386 UM399.1 kd_294 (rfl : List.contains [40] 40 = true)
                                have tg400 := gpk_U UM399 (by decide) (by decide)
                                have tr401 := UM399.i (c := 294) (k := 4) (Or.inr (by decide))
                                have tr402 := UM399.i (c := 294) (k := 3) (Or.inr (by decide))
                                have tr403 := o_i_of fM399
                                have tr404 := UM399.i (c := 294) (k := 18) (Or.inr (by decide))
                                have tr405 := UM399.i (c := 294) (k := 34) (Or.inr (by decide))
                                refine PW.vret q_177_336 rfl (by decide) (by decide) ?_
                                exact hK M399 IM399 FM399 (by omega) ⟨((UM399.i (c := 294) (k := 2) (Or.inr (by decide))).trans hbJ317_3869.1), (hbJ317_3869.2.pu UM399 (by decide))⟩
                            · skip
                              refine PW.cI q_177_320 (by decide) fun c406 hc406 => ?_
                              refine PW.goto q_177_321 rfl ?_
                              refine PW.pI q_177_333 (Or.inl t_ft_177_144) gF_40_11 gP_40_11 kd_294 hV IMJ317_386 (by decide) rfl (n_lo _) (n_hi _) fun M407 IM407 fM407 UM407 => ?_
                              have FM407 := Fr.pu FMJ317_386 UM407.1 kd_294 (rfl : List.contains [40] 40 = true)
                              have tg408 := gpk_U UM407 (by decide) (by decide)
                              have tr409 := UM407.i (c := 294) (k := 4) (Or.inr (by decide))
                              have tr410 := UM407.i (c := 294) (k := 3) (Or.inr (by decide))
                              have tr411 := o_i_of fM407
                              have tr412 := UM407.i (c := 294) (k := 18) (Or.inr (by decide))
                              have tr413 := UM407.i (c := 294) (k := 34) (Or.inr (by decide))
                              refine PW.vret q_177_336 rfl (by decide) (by decide) ?_
                              exact hK M407 IM407 FM407 (by omega) ⟨((UM407.i (c := 294) (k := 2) (Or.inr (by decide))).trans hbJ317_3869.1), (hbJ317_3869.2.pu UM407 (by decide))⟩
                          refine PW.jz_eq q_177_308 rfl (fun h385 => ?_) (fun h385 => ?_)
                          · skip
                            refine PW.cI q_177_316 (by decide) fun c414 hc414 => ?_
                            exact PW.lvS (lk1 rfl (lk1 rfl (lk1 rfl (lk1 rfl lk0)))) (J317_386 M366 c414 IM366 FM366 (by omega) (by omega) (by omega) (by omega) (by omega) (by omega) (by omega) (by omega) fx384 ⟨((congrArg (fun e => o_i e 2) (Fr.at GM366 kd_294 rfl)).trans ((congrArg (fun e => o_i e 2) (Fr.at GM358 kd_294 rfl)).trans ((congrArg (fun e => o_i e 2) (Fr.at GM201 kd_294 rfl)).trans ((congrArg (fun e => o_i e 2) (Fr.at GM193 kd_294 rfl)).trans hbL177_181_1915.1)))), ((((hbL177_181_1915.2.cg (Fr.at GM193 kd_296 rfl) (Fr.at GM193 kd_294 rfl)).cg (Fr.at GM201 kd_296 rfl) (Fr.at GM201 kd_294 rfl)).cg (Fr.at GM358 kd_296 rfl) (Fr.at GM358 kd_294 rfl)).cg (Fr.at GM366 kd_296 rfl) (Fr.at GM366 kd_294 rfl))⟩)
                          · skip
                            refine PW.cB q_177_311 (by decide) fun c415 hc415 => ?_
                            refine PW.goto q_177_313 rfl ?_
                            exact PW.lvS (lk1 rfl (lk1 rfl (lk1 rfl (lk1 rfl lk0)))) (J317_386 M366 c415 IM366 FM366 (by omega) (by omega) (by omega) (by omega) (by omega) (by omega) (by omega) (by omega) fx384 ⟨((congrArg (fun e => o_i e 2) (Fr.at GM366 kd_294 rfl)).trans ((congrArg (fun e => o_i e 2) (Fr.at GM358 kd_294 rfl)).trans ((congrArg (fun e => o_i e 2) (Fr.at GM201 kd_294 rfl)).trans ((congrArg (fun e => o_i e 2) (Fr.at GM193 kd_294 rfl)).trans hbL177_181_1915.1)))), ((((hbL177_181_1915.2.cg (Fr.at GM193 kd_296 rfl) (Fr.at GM193 kd_294 rfl)).cg (Fr.at GM201 kd_296 rfl) (Fr.at GM201 kd_294 rfl)).cg (Fr.at GM358 kd_296 rfl) (Fr.at GM358 kd_294 rfl)).cg (Fr.at GM366 kd_296 rfl) (Fr.at GM366 kd_294 rfl))⟩)
                      · skip
                        exact PW.lvS (lk1 rfl (lk1 rfl (lk1 rfl (lk1 rfl lk0)))) (J201_210 M366  IM366 FM366 (by omega) (by omega) (by omega) (by omega) (by omega) (by omega) (by omega) (by omega) ⟨((congrArg (fun e => o_i e 2) (Fr.at GM366 kd_294 rfl)).trans ((congrArg (fun e => o_i e 2) (Fr.at GM358 kd_294 rfl)).trans ((congrArg (fun e => o_i e 2) (Fr.at GM201 kd_294 rfl)).trans ((congrArg (fun e => o_i e 2) (Fr.at GM193 kd_294 rfl)).trans hbL177_181_1915.1)))), ((((hbL177_181_1915.2.cg (Fr.at GM193 kd_296 rfl) (Fr.at GM193 kd_294 rfl)).cg (Fr.at GM201 kd_296 rfl) (Fr.at GM201 kd_294 rfl)).cg (Fr.at GM358 kd_296 rfl) (Fr.at GM358 kd_294 rfl)).cg (Fr.at GM366 kd_296 rfl) (Fr.at GM366 kd_294 rfl))⟩)
                  exact PW.lvS (lk1 rfl (lk1 rfl (lk1 rfl (lk1 rfl lk0)))) (L177_181_191 _ M185 s131 IM185 FM185 (by omega) (by omega) (by omega) (by omega) (by omega) ⟨((UM185.i (c := 294) (k := 2) (Or.inr (by decide))).trans ((UM175.i (c := 294) (k := 2) (Or.inr (by decide))).trans ((UM166.i (c := 294) (k := 2) (Or.inr (by decide))).trans ((congrArg (fun e => o_i e 2) (Fr.at GM155 kd_294 rfl)).trans ((UM144.i (c := 294) (k := 2) (Or.inr (by decide))).trans ((congrArg (fun e => o_i e 2) (Fr.at GM136 kd_294 rfl)).trans hbJ221_13014.1)))))), ((((((hbJ221_13014.2.cg (Fr.at GM136 kd_296 rfl) (Fr.at GM136 kd_294 rfl)).pu UM144 (by decide)).cg (Fr.at GM155 kd_296 rfl) (Fr.at GM155 kd_294 rfl)).pu UM166 (by decide)).pu UM175 (by decide)).pu UM185 (by decide))⟩ rfl)
                refine PW.jc_ne q_177_213 rfl (fun h129 => ?_) (fun h129 => ?_)
                · skip
                  refine PW.cI q_177_220 (by decide) fun c416 hc416 => ?_
                  exact PW.lvS (lk1 rfl (lk1 rfl (lk1 rfl (lk1 rfl lk0)))) (J221_130 M121 c416 IM121 FM121 (by omega) (by omega) (by omega) (by omega) (by omega) (by omega) (by omega) (by omega) ((congrArg (fun e => o_f e 4) (Fr.at GM121 kd_294 (by decide))).trans ((congrArg (fun e => o_f e 4) (Fr.at GM113 kd_294 (by decide))).trans hbJ201_1118)) ((congrArg (fun e => o_f e 12) (Fr.at GM121 kd_294 (by decide))).trans ((congrArg (fun e => o_f e 12) (Fr.at GM113 kd_294 (by decide))).trans hbJ201_1119)) ((congrArg (fun e => o_f e 13) (Fr.at GM121 kd_294 (by decide))).trans ((congrArg (fun e => o_f e 13) (Fr.at GM113 kd_294 (by decide))).trans hbJ201_11110)) ((congrArg (fun e => o_f e 3) (Fr.at GM121 kd_294 (by decide))).trans ((congrArg (fun e => o_f e 3) (Fr.at GM113 kd_294 (by decide))).trans hbJ201_11111)) ((congrArg (fun e => o_f e 5) (Fr.at GM121 kd_294 (by decide))).trans ((congrArg (fun e => o_f e 5) (Fr.at GM113 kd_294 (by decide))).trans hbJ201_11112)) ((congrArg (fun e => o_f e 14) (Fr.at GM121 kd_294 (by decide))).trans ((congrArg (fun e => o_f e 14) (Fr.at GM113 kd_294 (by decide))).trans hbJ201_11113)) ⟨((congrArg (fun e => o_i e 2) (Fr.at GM121 kd_294 rfl)).trans ((congrArg (fun e => o_i e 2) (Fr.at GM113 kd_294 rfl)).trans hbJ201_11114.1)), ((hbJ201_11114.2.cg (Fr.at GM113 kd_296 rfl) (Fr.at GM113 kd_294 rfl)).cg (Fr.at GM121 kd_296 rfl) (Fr.at GM121 kd_294 rfl))⟩)
                · skip
                  refine PW.cI q_177_216 (by decide) fun c417 hc417 => ?_
                  refine PW.goto q_177_217 rfl ?_
                  exact PW.lvS (lk1 rfl (lk1 rfl (lk1 rfl (lk1 rfl lk0)))) (J221_130 M121 c417 IM121 FM121 (by omega) (by omega) (by omega) (by omega) (by omega) (by omega) (by omega) (by omega) ((congrArg (fun e => o_f e 4) (Fr.at GM121 kd_294 (by decide))).trans ((congrArg (fun e => o_f e 4) (Fr.at GM113 kd_294 (by decide))).trans hbJ201_1118)) ((congrArg (fun e => o_f e 12) (Fr.at GM121 kd_294 (by decide))).trans ((congrArg (fun e => o_f e 12) (Fr.at GM113 kd_294 (by decide))).trans hbJ201_1119)) ((congrArg (fun e => o_f e 13) (Fr.at GM121 kd_294 (by decide))).trans ((congrArg (fun e => o_f e 13) (Fr.at GM113 kd_294 (by decide))).trans hbJ201_11110)) ((congrArg (fun e => o_f e 3) (Fr.at GM121 kd_294 (by decide))).trans ((congrArg (fun e => o_f e 3) (Fr.at GM113 kd_294 (by decide))).trans hbJ201_11111)) ((congrArg (fun e => o_f e 5) (Fr.at GM121 kd_294 (by decide))).trans ((congrArg (fun e => o_f e 5) (Fr.at GM113 kd_294 (by decide))).trans hbJ201_11112)) ((congrArg (fun e => o_f e 14) (Fr.at GM121 kd_294 (by decide))).trans ((congrArg (fun e => o_f e 14) (Fr.at GM113 kd_294 (by decide))).trans hbJ201_11113)) ⟨((congrArg (fun e => o_i e 2) (Fr.at GM121 kd_294 rfl)).trans ((congrArg (fun e => o_i e 2) (Fr.at GM113 kd_294 rfl)).trans hbJ201_11114.1)), ((hbJ201_11114.2.cg (Fr.at GM113 kd_296 rfl) (Fr.at GM113 kd_294 rfl)).cg (Fr.at GM121 kd_296 rfl) (Fr.at GM121 kd_294 rfl))⟩)
              refine PW.jz_ne q_177_188 rfl (fun h110 => ?_) (fun h110 => ?_)
              · skip
                exact PW.lvS (lk1 rfl (lk1 rfl (lk1 rfl (lk1 rfl lk0)))) (J201_111 M102  IM102 FM102 (by omega) (by omega) (by omega) (by omega) (by omega) (by omega) (by omega) (by omega) ((congrArg (fun e => o_f e 4) (Fr.at GM102 kd_294 (by decide))).trans ((congrArg (fun e => o_f e 4) (Fr.at GM94 kd_294 (by decide))).trans ((UM87.f (Or.inr (by decide))).trans ((UM79.f (Or.inr (by decide))).trans ((congrArg (fun e => o_f e 4) (Fr.at GM70 kd_294 (by decide))).trans hbJ164_697))))) ((congrArg (fun e => o_f e 12) (Fr.at GM102 kd_294 (by decide))).trans ((congrArg (fun e => o_f e 12) (Fr.at GM94 kd_294 (by decide))).trans ((UM87.f (Or.inr (by decide))).trans ((UM79.f (Or.inr (by decide))).trans ((congrArg (fun e => o_f e 12) (Fr.at GM70 kd_294 (by decide))).trans hbJ164_698))))) ((congrArg (fun e => o_f e 13) (Fr.at GM102 kd_294 (by decide))).trans ((congrArg (fun e => o_f e 13) (Fr.at GM94 kd_294 (by decide))).trans ((UM87.f (Or.inr (by decide))).trans ((UM79.f (Or.inr (by decide))).trans ((congrArg (fun e => o_f e 13) (Fr.at GM70 kd_294 (by decide))).trans hbJ164_699))))) ((congrArg (fun e => o_f e 3) (Fr.at GM102 kd_294 (by decide))).trans ((congrArg (fun e => o_f e 3) (Fr.at GM94 kd_294 (by decide))).trans ((UM87.f (Or.inr (by decide))).trans ((UM79.f (Or.inr (by decide))).trans ((congrArg (fun e => o_f e 3) (Fr.at GM70 kd_294 (by decide))).trans hbJ164_6910))))) ((congrArg (fun e => o_f e 5) (Fr.at GM102 kd_294 (by decide))).trans ((congrArg (fun e => o_f e 5) (Fr.at GM94 kd_294 (by decide))).trans ((UM87.f (Or.inr (by decide))).trans ((UM79.f (Or.inr (by decide))).trans ((congrArg (fun e => o_f e 5) (Fr.at GM70 kd_294 (by decide))).trans hbJ164_6911))))) ((congrArg (fun e => o_f e 14) (Fr.at GM102 kd_294 (by decide))).trans ((congrArg (fun e => o_f e 14) (Fr.at GM94 kd_294 (by decide))).trans fM87)) ⟨((congrArg (fun e => o_i e 2) (Fr.at GM102 kd_294 rfl)).trans ((congrArg (fun e => o_i e 2) (Fr.at GM94 kd_294 rfl)).trans ((UM87.i (c := 294) (k := 2) (Or.inr (by decide))).trans ((UM79.i (c := 294) (k := 2) (Or.inr (by decide))).trans ((congrArg (fun e => o_i e 2) (Fr.at GM70 kd_294 rfl)).trans hbJ164_6912.1))))), (((((hbJ164_6912.2.cg (Fr.at GM70 kd_296 rfl) (Fr.at GM70 kd_294 rfl)).pu UM79 (by decide)).pu UM87 (by decide)).cg (Fr.at GM94 kd_296 rfl) (Fr.at GM94 kd_294 rfl)).cg (Fr.at GM102 kd_296 rfl) (Fr.at GM102 kd_294 rfl))⟩)
              · skip
                refine PW.aload_n q_177_191 rfl ?_
                refine PW.cV (as := []) (rest := []) q_177_192 t_mv_177_134 kd_294 IM102.1 (by decide) rfl (by decide) rfl rfl (Nat.le_of_ble_eq_true rfl) (Nat.le_of_ble_eq_true rfl) (by decide) (by decide) ?_
                refine PW.up (by decide) (c_X12_peek (V) (hV) G _ M102 IM102  fun x419 M418 IM418 GM418 hx419 kx419 PM418 TM418 => ?_)
                have FM418 := Fr.trans FM102 GM418 (rfl)
                have tg420 := gpk_F GM418 (by decide) (by decide)
                have tr421 : o_i (M418 294) 4 = o_i (M102 294) 4 := by rw [Fr.at GM418 kd_294 (by decide)]
                have tr422 : o_i (M418 294) 3 = o_i (M102 294) 3 := by rw [Fr.at GM418 kd_294 (by decide)]
                have tr423 : o_i (M418 294) 11 = o_i (M102 294) 11 := by rw [Fr.at GM418 kd_294 (by decide)]
                have tr424 : o_i (M418 294) 18 = o_i (M102 294) 18 := by rw [Fr.at GM418 kd_294 (by decide)]
                have tr425 : o_i (M418 294) 34 = o_i (M102 294) 34 := by rw [Fr.at GM418 kd_294 (by decide)]
                refine PW.callS (as := [_]) (rest := []) q_177_195 t_ms_177_151 (by decide) rfl (Nat.le_of_ble_eq_true rfl) (Nat.le_of_ble_eq_true rfl) (by decide) (by decide) ?_
                refine PW.up (by decide) (c_X12_isDigit (V) (hV) G _ M418 IM418 x419 fun x427 M426 IM426 GM426 hx427 kx427 PM426 => ?_)
                have FM426 := Fr.trans FM418 GM426 (rfl)
                have tg428 := gpk_F GM426 (by decide) (by decide)
                have tr429 : o_i (M426 294) 4 = o_i (M418 294) 4 := by rw [Fr.at GM426 kd_294 (by decide)]
                have tr430 : o_i (M426 294) 3 = o_i (M418 294) 3 := by rw [Fr.at GM426 kd_294 (by decide)]
                have tr431 : o_i (M426 294) 11 = o_i (M418 294) 11 := by rw [Fr.at GM426 kd_294 (by decide)]
                have tr432 : o_i (M426 294) 18 = o_i (M418 294) 18 := by rw [Fr.at GM426 kd_294 (by decide)]
                have tr433 : o_i (M426 294) 34 = o_i (M418 294) 34 := by rw [Fr.at GM426 kd_294 (by decide)]
                refine PW.jz_eq q_177_198 rfl (fun h434 => ?_) (fun h434 => ?_)
                · skip
                  refine PW.aload_n q_177_298 rfl ?_
                  refine PW.iload_n q_177_299 rfl ?_
                  refine PW.jz_eq q_177_300 rfl (fun h435 => False.elim (by omega)) (fun h435 => ?_)
                  refine PW.aload_n q_177_303 rfl ?_
                  refine PW.gE q_177_304 (Or.inl t_ft_177_141) gF_40_13 kd_294 IM426.1 (by decide) ((congrArg (fun e => o_f e 13) (Fr.at GM426 kd_294 (by decide))).trans ((congrArg (fun e => o_f e 13) (Fr.at GM418 kd_294 (by decide))).trans ((congrArg (fun e => o_f e 13) (Fr.at GM102 kd_294 (by decide))).trans ((congrArg (fun e => o_f e 13) (Fr.at GM94 kd_294 (by decide))).trans ((UM87.f (Or.inr (by decide))).trans ((UM79.f (Or.inr (by decide))).trans ((congrArg (fun e => o_f e 13) (Fr.at GM70 kd_294 (by decide))).trans hbJ164_699))))))) ?_
                  refine PW.iload_n q_177_307 rfl ?_
                  have J317_437 : ∀ (MJ317_437 : pM) (s438 : Int32), Iv (V) MJ317_437 → Fr [40] M MJ317_437 → 3 ≤ s438.toInt → s438.toInt ≤ 7 → o_i (MJ317_437 294) 4 = o_i (M426 294) 4 → o_i (MJ317_437 294) 3 = o_i (M426 294) 3 → o_i (MJ317_437 294) 11 = o_i (M426 294) 11 → o_i (MJ317_437 294) 18 = o_i (M426 294) 18 → o_i (MJ317_437 294) 34 = o_i (M426 294) 34 → gpk MJ317_437 = gpk M426 → o_f (MJ317_437 294) 4 = .int x31 → o_f (MJ317_437 294) 12 = .int x31 → o_f (MJ317_437 294) 13 = .int c39 → o_f (MJ317_437 294) 3 = .int x47 → o_f (MJ317_437 294) 5 = .int x48 → o_f (MJ317_437 294) 14 = .int c86 → (gLq MJ317_437 M ∧ gHq MJ317_437 M) → PW G false 1 177 (p_mc 177) (p_msl 177) Kr 317 [(0, .ref 294), (1, .int x52), (2, .int x71), (3, .int c78)] [.int s438, .int c39, .ref 294] 311 MJ317_437 0 0 := by
                    intro MJ317_437 s438 IMJ317_437 FMJ317_437 hbJ317_4370 hbJ317_4371 hbJ317_4372 hbJ317_4373 hbJ317_4374 hbJ317_4375 hbJ317_4376 hbJ317_4377 hbJ317_4378 hbJ317_4379 hbJ317_43710 hbJ317_43711 hbJ317_43712 hbJ317_43713 hbJ317_43714
                    refine PW.jc_le q_177_317 rfl (fun h439 => ?_) (fun h439 => False.elim (by omega))
                    refine PW.iload_n q_177_324 rfl ?_
                    refine PW.jz_eq q_177_325 rfl (fun h440 => ?_) (fun h440 => ?_)
                    · skip
                      refine PW.cI q_177_332 (by decide) fun c441 hc441 => ?_
                      refine PW.pI q_177_333 (Or.inl t_ft_177_144) gF_40_11 gP_40_11 kd_294 hV IMJ317_437 (by decide) rfl (n_lo _) (n_hi _) fun M442 IM442 fM442 UM442 => ?_
                      have FM442 := Fr.pu FMJ317_437 UM442.1 kd_294 (rfl : List.contains [40] 40 = true)
                      have tg443 := gpk_U UM442 (by decide) (by decide)
                      have tr444 := UM442.i (c := 294) (k := 4) (Or.inr (by decide))
                      have tr445 := UM442.i (c := 294) (k := 3) (Or.inr (by decide))
                      have tr446 := o_i_of fM442
                      have tr447 := UM442.i (c := 294) (k := 18) (Or.inr (by decide))
                      have tr448 := UM442.i (c := 294) (k := 34) (Or.inr (by decide))
                      refine PW.vret q_177_336 rfl (by decide) (by decide) ?_
                      exact hK M442 IM442 FM442 (by omega) ⟨((UM442.i (c := 294) (k := 2) (Or.inr (by decide))).trans hbJ317_43714.1), (hbJ317_43714.2.pu UM442 (by decide))⟩
                    · skip
                      refine PW.cI q_177_328 (by decide) fun c449 hc449 => ?_
                      refine PW.goto q_177_329 rfl ?_
                      refine PW.pI q_177_333 (Or.inl t_ft_177_144) gF_40_11 gP_40_11 kd_294 hV IMJ317_437 (by decide) rfl (n_lo _) (n_hi _) fun M450 IM450 fM450 UM450 => ?_
                      have FM450 := Fr.pu FMJ317_437 UM450.1 kd_294 (rfl : List.contains [40] 40 = true)
                      have tg451 := gpk_U UM450 (by decide) (by decide)
                      have tr452 := UM450.i (c := 294) (k := 4) (Or.inr (by decide))
                      have tr453 := UM450.i (c := 294) (k := 3) (Or.inr (by decide))
                      have tr454 := o_i_of fM450
                      have tr455 := UM450.i (c := 294) (k := 18) (Or.inr (by decide))
                      have tr456 := UM450.i (c := 294) (k := 34) (Or.inr (by decide))
                      refine PW.vret q_177_336 rfl (by decide) (by decide) ?_
                      exact hK M450 IM450 FM450 (by omega) ⟨((UM450.i (c := 294) (k := 2) (Or.inr (by decide))).trans hbJ317_43714.1), (hbJ317_43714.2.pu UM450 (by decide))⟩
                  refine PW.jz_eq q_177_308 rfl (fun h436 => ?_) (fun h436 => ?_)
                  · skip
                    refine PW.cI q_177_316 (by decide) fun c457 hc457 => ?_
                    exact PW.lvS (lk1 rfl (lk1 rfl (lk1 rfl (lk1 rfl lk0)))) (J317_437 M426 c457 IM426 FM426 (by omega) (by omega) (by omega) (by omega) (by omega) (by omega) (by omega) (by omega) ((congrArg (fun e => o_f e 4) (Fr.at GM426 kd_294 (by decide))).trans ((congrArg (fun e => o_f e 4) (Fr.at GM418 kd_294 (by decide))).trans ((congrArg (fun e => o_f e 4) (Fr.at GM102 kd_294 (by decide))).trans ((congrArg (fun e => o_f e 4) (Fr.at GM94 kd_294 (by decide))).trans ((UM87.f (Or.inr (by decide))).trans ((UM79.f (Or.inr (by decide))).trans ((congrArg (fun e => o_f e 4) (Fr.at GM70 kd_294 (by decide))).trans hbJ164_697))))))) ((congrArg (fun e => o_f e 12) (Fr.at GM426 kd_294 (by decide))).trans ((congrArg (fun e => o_f e 12) (Fr.at GM418 kd_294 (by decide))).trans ((congrArg (fun e => o_f e 12) (Fr.at GM102 kd_294 (by decide))).trans ((congrArg (fun e => o_f e 12) (Fr.at GM94 kd_294 (by decide))).trans ((UM87.f (Or.inr (by decide))).trans ((UM79.f (Or.inr (by decide))).trans ((congrArg (fun e => o_f e 12) (Fr.at GM70 kd_294 (by decide))).trans hbJ164_698))))))) ((congrArg (fun e => o_f e 13) (Fr.at GM426 kd_294 (by decide))).trans ((congrArg (fun e => o_f e 13) (Fr.at GM418 kd_294 (by decide))).trans ((congrArg (fun e => o_f e 13) (Fr.at GM102 kd_294 (by decide))).trans ((congrArg (fun e => o_f e 13) (Fr.at GM94 kd_294 (by decide))).trans ((UM87.f (Or.inr (by decide))).trans ((UM79.f (Or.inr (by decide))).trans ((congrArg (fun e => o_f e 13) (Fr.at GM70 kd_294 (by decide))).trans hbJ164_699))))))) ((congrArg (fun e => o_f e 3) (Fr.at GM426 kd_294 (by decide))).trans ((congrArg (fun e => o_f e 3) (Fr.at GM418 kd_294 (by decide))).trans ((congrArg (fun e => o_f e 3) (Fr.at GM102 kd_294 (by decide))).trans ((congrArg (fun e => o_f e 3) (Fr.at GM94 kd_294 (by decide))).trans ((UM87.f (Or.inr (by decide))).trans ((UM79.f (Or.inr (by decide))).trans ((congrArg (fun e => o_f e 3) (Fr.at GM70 kd_294 (by decide))).trans hbJ164_6910))))))) ((congrArg (fun e => o_f e 5) (Fr.at GM426 kd_294 (by decide))).trans ((congrArg (fun e => o_f e 5) (Fr.at GM418 kd_294 (by decide))).trans ((congrArg (fun e => o_f e 5) (Fr.at GM102 kd_294 (by decide))).trans ((congrArg (fun e => o_f e 5) (Fr.at GM94 kd_294 (by decide))).trans ((UM87.f (Or.inr (by decide))).trans ((UM79.f (Or.inr (by decide))).trans ((congrArg (fun e => o_f e 5) (Fr.at GM70 kd_294 (by decide))).trans hbJ164_6911))))))) ((congrArg (fun e => o_f e 14) (Fr.at GM426 kd_294 (by decide))).trans ((congrArg (fun e => o_f e 14) (Fr.at GM418 kd_294 (by decide))).trans ((congrArg (fun e => o_f e 14) (Fr.at GM102 kd_294 (by decide))).trans ((congrArg (fun e => o_f e 14) (Fr.at GM94 kd_294 (by decide))).trans fM87)))) ⟨((congrArg (fun e => o_i e 2) (Fr.at GM426 kd_294 rfl)).trans ((congrArg (fun e => o_i e 2) (Fr.at GM418 kd_294 rfl)).trans ((congrArg (fun e => o_i e 2) (Fr.at GM102 kd_294 rfl)).trans ((congrArg (fun e => o_i e 2) (Fr.at GM94 kd_294 rfl)).trans ((UM87.i (c := 294) (k := 2) (Or.inr (by decide))).trans ((UM79.i (c := 294) (k := 2) (Or.inr (by decide))).trans ((congrArg (fun e => o_i e 2) (Fr.at GM70 kd_294 rfl)).trans hbJ164_6912.1))))))), (((((((hbJ164_6912.2.cg (Fr.at GM70 kd_296 rfl) (Fr.at GM70 kd_294 rfl)).pu UM79 (by decide)).pu UM87 (by decide)).cg (Fr.at GM94 kd_296 rfl) (Fr.at GM94 kd_294 rfl)).cg (Fr.at GM102 kd_296 rfl) (Fr.at GM102 kd_294 rfl)).cg (Fr.at GM418 kd_296 rfl) (Fr.at GM418 kd_294 rfl)).cg (Fr.at GM426 kd_296 rfl) (Fr.at GM426 kd_294 rfl))⟩)
                  · skip
                    refine PW.cB q_177_311 (by decide) fun c458 hc458 => ?_
                    refine PW.goto q_177_313 rfl ?_
                    exact PW.lvS (lk1 rfl (lk1 rfl (lk1 rfl (lk1 rfl lk0)))) (J317_437 M426 c458 IM426 FM426 (by omega) (by omega) (by omega) (by omega) (by omega) (by omega) (by omega) (by omega) ((congrArg (fun e => o_f e 4) (Fr.at GM426 kd_294 (by decide))).trans ((congrArg (fun e => o_f e 4) (Fr.at GM418 kd_294 (by decide))).trans ((congrArg (fun e => o_f e 4) (Fr.at GM102 kd_294 (by decide))).trans ((congrArg (fun e => o_f e 4) (Fr.at GM94 kd_294 (by decide))).trans ((UM87.f (Or.inr (by decide))).trans ((UM79.f (Or.inr (by decide))).trans ((congrArg (fun e => o_f e 4) (Fr.at GM70 kd_294 (by decide))).trans hbJ164_697))))))) ((congrArg (fun e => o_f e 12) (Fr.at GM426 kd_294 (by decide))).trans ((congrArg (fun e => o_f e 12) (Fr.at GM418 kd_294 (by decide))).trans ((congrArg (fun e => o_f e 12) (Fr.at GM102 kd_294 (by decide))).trans ((congrArg (fun e => o_f e 12) (Fr.at GM94 kd_294 (by decide))).trans ((UM87.f (Or.inr (by decide))).trans ((UM79.f (Or.inr (by decide))).trans ((congrArg (fun e => o_f e 12) (Fr.at GM70 kd_294 (by decide))).trans hbJ164_698))))))) ((congrArg (fun e => o_f e 13) (Fr.at GM426 kd_294 (by decide))).trans ((congrArg (fun e => o_f e 13) (Fr.at GM418 kd_294 (by decide))).trans ((congrArg (fun e => o_f e 13) (Fr.at GM102 kd_294 (by decide))).trans ((congrArg (fun e => o_f e 13) (Fr.at GM94 kd_294 (by decide))).trans ((UM87.f (Or.inr (by decide))).trans ((UM79.f (Or.inr (by decide))).trans ((congrArg (fun e => o_f e 13) (Fr.at GM70 kd_294 (by decide))).trans hbJ164_699))))))) ((congrArg (fun e => o_f e 3) (Fr.at GM426 kd_294 (by decide))).trans ((congrArg (fun e => o_f e 3) (Fr.at GM418 kd_294 (by decide))).trans ((congrArg (fun e => o_f e 3) (Fr.at GM102 kd_294 (by decide))).trans ((congrArg (fun e => o_f e 3) (Fr.at GM94 kd_294 (by decide))).trans ((UM87.f (Or.inr (by decide))).trans ((UM79.f (Or.inr (by decide))).trans ((congrArg (fun e => o_f e 3) (Fr.at GM70 kd_294 (by decide))).trans hbJ164_6910))))))) ((congrArg (fun e => o_f e 5) (Fr.at GM426 kd_294 (by decide))).trans ((congrArg (fun e => o_f e 5) (Fr.at GM418 kd_294 (by decide))).trans ((congrArg (fun e => o_f e 5) (Fr.at GM102 kd_294 (by decide))).trans ((congrArg (fun e => o_f e 5) (Fr.at GM94 kd_294 (by decide))).trans ((UM87.f (Or.inr (by decide))).trans ((UM79.f (Or.inr (by decide))).trans ((congrArg (fun e => o_f e 5) (Fr.at GM70 kd_294 (by decide))).trans hbJ164_6911))))))) ((congrArg (fun e => o_f e 14) (Fr.at GM426 kd_294 (by decide))).trans ((congrArg (fun e => o_f e 14) (Fr.at GM418 kd_294 (by decide))).trans ((congrArg (fun e => o_f e 14) (Fr.at GM102 kd_294 (by decide))).trans ((congrArg (fun e => o_f e 14) (Fr.at GM94 kd_294 (by decide))).trans fM87)))) ⟨((congrArg (fun e => o_i e 2) (Fr.at GM426 kd_294 rfl)).trans ((congrArg (fun e => o_i e 2) (Fr.at GM418 kd_294 rfl)).trans ((congrArg (fun e => o_i e 2) (Fr.at GM102 kd_294 rfl)).trans ((congrArg (fun e => o_i e 2) (Fr.at GM94 kd_294 rfl)).trans ((UM87.i (c := 294) (k := 2) (Or.inr (by decide))).trans ((UM79.i (c := 294) (k := 2) (Or.inr (by decide))).trans ((congrArg (fun e => o_i e 2) (Fr.at GM70 kd_294 rfl)).trans hbJ164_6912.1))))))), (((((((hbJ164_6912.2.cg (Fr.at GM70 kd_296 rfl) (Fr.at GM70 kd_294 rfl)).pu UM79 (by decide)).pu UM87 (by decide)).cg (Fr.at GM94 kd_296 rfl) (Fr.at GM94 kd_294 rfl)).cg (Fr.at GM102 kd_296 rfl) (Fr.at GM102 kd_294 rfl)).cg (Fr.at GM418 kd_296 rfl) (Fr.at GM418 kd_294 rfl)).cg (Fr.at GM426 kd_296 rfl) (Fr.at GM426 kd_294 rfl))⟩)
                · skip
                  exact PW.lvS (lk1 rfl (lk1 rfl (lk1 rfl (lk1 rfl lk0)))) (J201_111 M426  IM426 FM426 (by omega) (by omega) (by omega) (by omega) (by omega) (by omega) (by omega) (by omega) ((congrArg (fun e => o_f e 4) (Fr.at GM426 kd_294 (by decide))).trans ((congrArg (fun e => o_f e 4) (Fr.at GM418 kd_294 (by decide))).trans ((congrArg (fun e => o_f e 4) (Fr.at GM102 kd_294 (by decide))).trans ((congrArg (fun e => o_f e 4) (Fr.at GM94 kd_294 (by decide))).trans ((UM87.f (Or.inr (by decide))).trans ((UM79.f (Or.inr (by decide))).trans ((congrArg (fun e => o_f e 4) (Fr.at GM70 kd_294 (by decide))).trans hbJ164_697))))))) ((congrArg (fun e => o_f e 12) (Fr.at GM426 kd_294 (by decide))).trans ((congrArg (fun e => o_f e 12) (Fr.at GM418 kd_294 (by decide))).trans ((congrArg (fun e => o_f e 12) (Fr.at GM102 kd_294 (by decide))).trans ((congrArg (fun e => o_f e 12) (Fr.at GM94 kd_294 (by decide))).trans ((UM87.f (Or.inr (by decide))).trans ((UM79.f (Or.inr (by decide))).trans ((congrArg (fun e => o_f e 12) (Fr.at GM70 kd_294 (by decide))).trans hbJ164_698))))))) ((congrArg (fun e => o_f e 13) (Fr.at GM426 kd_294 (by decide))).trans ((congrArg (fun e => o_f e 13) (Fr.at GM418 kd_294 (by decide))).trans ((congrArg (fun e => o_f e 13) (Fr.at GM102 kd_294 (by decide))).trans ((congrArg (fun e => o_f e 13) (Fr.at GM94 kd_294 (by decide))).trans ((UM87.f (Or.inr (by decide))).trans ((UM79.f (Or.inr (by decide))).trans ((congrArg (fun e => o_f e 13) (Fr.at GM70 kd_294 (by decide))).trans hbJ164_699))))))) ((congrArg (fun e => o_f e 3) (Fr.at GM426 kd_294 (by decide))).trans ((congrArg (fun e => o_f e 3) (Fr.at GM418 kd_294 (by decide))).trans ((congrArg (fun e => o_f e 3) (Fr.at GM102 kd_294 (by decide))).trans ((congrArg (fun e => o_f e 3) (Fr.at GM94 kd_294 (by decide))).trans ((UM87.f (Or.inr (by decide))).trans ((UM79.f (Or.inr (by decide))).trans ((congrArg (fun e => o_f e 3) (Fr.at GM70 kd_294 (by decide))).trans hbJ164_6910))))))) ((congrArg (fun e => o_f e 5) (Fr.at GM426 kd_294 (by decide))).trans ((congrArg (fun e => o_f e 5) (Fr.at GM418 kd_294 (by decide))).trans ((congrArg (fun e => o_f e 5) (Fr.at GM102 kd_294 (by decide))).trans ((congrArg (fun e => o_f e 5) (Fr.at GM94 kd_294 (by decide))).trans ((UM87.f (Or.inr (by decide))).trans ((UM79.f (Or.inr (by decide))).trans ((congrArg (fun e => o_f e 5) (Fr.at GM70 kd_294 (by decide))).trans hbJ164_6911))))))) ((congrArg (fun e => o_f e 14) (Fr.at GM426 kd_294 (by decide))).trans ((congrArg (fun e => o_f e 14) (Fr.at GM418 kd_294 (by decide))).trans ((congrArg (fun e => o_f e 14) (Fr.at GM102 kd_294 (by decide))).trans ((congrArg (fun e => o_f e 14) (Fr.at GM94 kd_294 (by decide))).trans fM87)))) ⟨((congrArg (fun e => o_i e 2) (Fr.at GM426 kd_294 rfl)).trans ((congrArg (fun e => o_i e 2) (Fr.at GM418 kd_294 rfl)).trans ((congrArg (fun e => o_i e 2) (Fr.at GM102 kd_294 rfl)).trans ((congrArg (fun e => o_i e 2) (Fr.at GM94 kd_294 rfl)).trans ((UM87.i (c := 294) (k := 2) (Or.inr (by decide))).trans ((UM79.i (c := 294) (k := 2) (Or.inr (by decide))).trans ((congrArg (fun e => o_i e 2) (Fr.at GM70 kd_294 rfl)).trans hbJ164_6912.1))))))), (((((((hbJ164_6912.2.cg (Fr.at GM70 kd_296 rfl) (Fr.at GM70 kd_294 rfl)).pu UM79 (by decide)).pu UM87 (by decide)).cg (Fr.at GM94 kd_296 rfl) (Fr.at GM94 kd_294 rfl)).cg (Fr.at GM102 kd_296 rfl) (Fr.at GM102 kd_294 rfl)).cg (Fr.at GM418 kd_296 rfl) (Fr.at GM418 kd_294 rfl)).cg (Fr.at GM426 kd_296 rfl) (Fr.at GM426 kd_294 rfl))⟩)
            refine PW.jz_ne q_177_99 rfl (fun h68 => ?_) (fun h68 => ?_)
            · skip
              exact PW.lvS (lk1 rfl (lk1 rfl lk0)) (J164_69 M60  IM60 FM60 (by omega) (by omega) (by omega) (by omega) (by omega) (by omega) (by omega) ((congrArg (fun e => o_f e 4) (Fr.at GM60 kd_294 (by decide))).trans ((congrArg (fun e => o_f e 4) (Fr.at GM51 kd_294 (by decide))).trans hbJ80_506)) ((congrArg (fun e => o_f e 12) (Fr.at GM60 kd_294 (by decide))).trans ((congrArg (fun e => o_f e 12) (Fr.at GM51 kd_294 (by decide))).trans hbJ80_507)) ((congrArg (fun e => o_f e 13) (Fr.at GM60 kd_294 (by decide))).trans ((congrArg (fun e => o_f e 13) (Fr.at GM51 kd_294 (by decide))).trans hbJ80_508)) ((congrArg (fun e => o_f e 3) (Fr.at GM60 kd_294 (by decide))).trans ((congrArg (fun e => o_f e 3) (Fr.at GM51 kd_294 (by decide))).trans hbJ80_509)) ((congrArg (fun e => o_f e 5) (Fr.at GM60 kd_294 (by decide))).trans ((congrArg (fun e => o_f e 5) (Fr.at GM51 kd_294 (by decide))).trans hbJ80_5010)) ⟨((congrArg (fun e => o_i e 2) (Fr.at GM60 kd_294 rfl)).trans ((congrArg (fun e => o_i e 2) (Fr.at GM51 kd_294 rfl)).trans hbJ80_5011.1)), ((hbJ80_5011.2.cg (Fr.at GM51 kd_296 rfl) (Fr.at GM51 kd_294 rfl)).cg (Fr.at GM60 kd_296 rfl) (Fr.at GM60 kd_294 rfl))⟩)
            · skip
              refine PW.iload_n q_177_102 rfl ?_
              refine PW.callS (as := [_]) (rest := []) q_177_103 t_ms_177_151 (by decide) rfl (Nat.le_of_ble_eq_true rfl) (Nat.le_of_ble_eq_true rfl) (by decide) (by decide) ?_
              refine PW.up (by decide) (c_X12_isDigit (V) (hV) G _ M60 IM60 x52 fun x460 M459 IM459 GM459 hx460 kx460 PM459 => ?_)
              have FM459 := Fr.trans FM60 GM459 (rfl)
              have tg461 := gpk_F GM459 (by decide) (by decide)
              have tr462 : o_i (M459 294) 4 = o_i (M60 294) 4 := by rw [Fr.at GM459 kd_294 (by decide)]
              have tr463 : o_i (M459 294) 3 = o_i (M60 294) 3 := by rw [Fr.at GM459 kd_294 (by decide)]
              have tr464 : o_i (M459 294) 11 = o_i (M60 294) 11 := by rw [Fr.at GM459 kd_294 (by decide)]
              have tr465 : o_i (M459 294) 18 = o_i (M60 294) 18 := by rw [Fr.at GM459 kd_294 (by decide)]
              have tr466 : o_i (M459 294) 34 = o_i (M60 294) 34 := by rw [Fr.at GM459 kd_294 (by decide)]
              refine PW.jz_ne q_177_106 rfl (fun h467 => ?_) (fun h467 => ?_)
              · skip
                exact PW.lvS (lk1 rfl (lk1 rfl lk0)) (J164_69 M459  IM459 FM459 (by omega) (by omega) (by omega) (by omega) (by omega) (by omega) (by omega) ((congrArg (fun e => o_f e 4) (Fr.at GM459 kd_294 (by decide))).trans ((congrArg (fun e => o_f e 4) (Fr.at GM60 kd_294 (by decide))).trans ((congrArg (fun e => o_f e 4) (Fr.at GM51 kd_294 (by decide))).trans hbJ80_506))) ((congrArg (fun e => o_f e 12) (Fr.at GM459 kd_294 (by decide))).trans ((congrArg (fun e => o_f e 12) (Fr.at GM60 kd_294 (by decide))).trans ((congrArg (fun e => o_f e 12) (Fr.at GM51 kd_294 (by decide))).trans hbJ80_507))) ((congrArg (fun e => o_f e 13) (Fr.at GM459 kd_294 (by decide))).trans ((congrArg (fun e => o_f e 13) (Fr.at GM60 kd_294 (by decide))).trans ((congrArg (fun e => o_f e 13) (Fr.at GM51 kd_294 (by decide))).trans hbJ80_508))) ((congrArg (fun e => o_f e 3) (Fr.at GM459 kd_294 (by decide))).trans ((congrArg (fun e => o_f e 3) (Fr.at GM60 kd_294 (by decide))).trans ((congrArg (fun e => o_f e 3) (Fr.at GM51 kd_294 (by decide))).trans hbJ80_509))) ((congrArg (fun e => o_f e 5) (Fr.at GM459 kd_294 (by decide))).trans ((congrArg (fun e => o_f e 5) (Fr.at GM60 kd_294 (by decide))).trans ((congrArg (fun e => o_f e 5) (Fr.at GM51 kd_294 (by decide))).trans hbJ80_5010))) ⟨((congrArg (fun e => o_i e 2) (Fr.at GM459 kd_294 rfl)).trans ((congrArg (fun e => o_i e 2) (Fr.at GM60 kd_294 rfl)).trans ((congrArg (fun e => o_i e 2) (Fr.at GM51 kd_294 rfl)).trans hbJ80_5011.1))), (((hbJ80_5011.2.cg (Fr.at GM51 kd_296 rfl) (Fr.at GM51 kd_294 rfl)).cg (Fr.at GM60 kd_296 rfl) (Fr.at GM60 kd_294 rfl)).cg (Fr.at GM459 kd_296 rfl) (Fr.at GM459 kd_294 rfl))⟩)
              · skip
                refine PW.aload_n q_177_109 rfl ?_
                refine PW.iload_n q_177_110 rfl ?_
                refine PW.cB q_177_111 (by decide) fun c468 hc468 => ?_
                have J140_470 : ∀ (MJ140_470 : pM), Iv (V) MJ140_470 → Fr [40] M MJ140_470 → o_i (MJ140_470 294) 4 = o_i (M459 294) 4 → o_i (MJ140_470 294) 3 = o_i (M459 294) 3 → o_i (MJ140_470 294) 11 = o_i (M459 294) 11 → o_i (MJ140_470 294) 18 = o_i (M459 294) 18 → o_i (MJ140_470 294) 34 = o_i (M459 294) 34 → gpk MJ140_470 = gpk M459 → o_f (MJ140_470 294) 4 = .int x31 → o_f (MJ140_470 294) 12 = .int x31 → o_f (MJ140_470 294) 13 = .int c39 → o_f (MJ140_470 294) 3 = .int x47 → o_f (MJ140_470 294) 5 = .int x48 → (gLq MJ140_470 M ∧ gHq MJ140_470 M) → PW G false 1 177 (p_mc 177) (p_msl 177) Kr 140 [(0, .ref 294), (1, .int x52)] [.ref 294] 311 MJ140_470 0 0 := by
                  intro MJ140_470  IMJ140_470 FMJ140_470 hbJ140_4700 hbJ140_4701 hbJ140_4702 hbJ140_4703 hbJ140_4704 hbJ140_4705 hbJ140_4706 hbJ140_4707 hbJ140_4708 hbJ140_4709 hbJ140_47010 hbJ140_47011
                  refine PW.cI q_177_140 (by decide) fun c471 hc471 => ?_
                  refine PW.goto q_177_141 rfl ?_
                  refine PW.pI q_177_145 (Or.inl t_ft_177_144) gF_40_11 gP_40_11 kd_294 hV IMJ140_470 (by decide) rfl (n_lo _) (n_hi _) fun M472 IM472 fM472 UM472 => ?_
                  have FM472 := Fr.pu FMJ140_470 UM472.1 kd_294 (rfl : List.contains [40] 40 = true)
                  have tg473 := gpk_U UM472 (by decide) (by decide)
                  have tr474 := UM472.i (c := 294) (k := 4) (Or.inr (by decide))
                  have tr475 := UM472.i (c := 294) (k := 3) (Or.inr (by decide))
                  have tr476 := o_i_of fM472
                  have tr477 := UM472.i (c := 294) (k := 18) (Or.inr (by decide))
                  have tr478 := UM472.i (c := 294) (k := 34) (Or.inr (by decide))
                  refine PW.aload_n q_177_148 rfl ?_
                  refine PW.iload_n q_177_149 rfl ?_
                  refine PW.pI q_177_150 (Or.inl t_ft_177_154) gF_40_14 gP_40_14 kd_294 hV IM472 (by decide) rfl (n_lo _) (n_hi _) fun M479 IM479 fM479 UM479 => ?_
                  have FM479 := Fr.pu FM472 UM479.1 kd_294 (rfl : List.contains [40] 40 = true)
                  have tg480 := gpk_U UM479 (by decide) (by decide)
                  have tr481 := UM479.i (c := 294) (k := 4) (Or.inr (by decide))
                  have tr482 := UM479.i (c := 294) (k := 3) (Or.inr (by decide))
                  have tr483 := UM479.i (c := 294) (k := 11) (Or.inr (by decide))
                  have tr484 := UM479.i (c := 294) (k := 18) (Or.inr (by decide))
                  have tr485 := UM479.i (c := 294) (k := 34) (Or.inr (by decide))
                  refine PW.aload_n q_177_153 rfl ?_
                  refine PW.dup q_177_154 rfl ?_
                  refine PW.gE q_177_155 (Or.inl t_ft_177_21) gF_40_4 kd_294 IM479.1 (by decide) ((UM479.f (Or.inr (by decide))).trans ((UM472.f (Or.inr (by decide))).trans hbJ140_4706)) ?_
                  have tr486 := o_i_of ((UM479.f (Or.inr (by decide))).trans ((UM472.f (Or.inr (by decide))).trans hbJ140_4706))
                  refine PW.cI q_177_158 (by decide) fun c487 hc487 => ?_
                  refine PW.addN q_177_159 (by omega) (by omega) fun x488 hx488 => ?_
                  refine PW.pI q_177_160 (Or.inl t_ft_177_21) gF_40_4 gP_40_4 kd_294 hV IM479 (by decide) rfl (by omega) (by omega) fun M489 IM489 fM489 UM489 => ?_
                  have FM489 := Fr.pu FM479 UM489.1 kd_294 (rfl : List.contains [40] 40 = true)
                  have tr490 := o_i_of fM489
                  have tr491 := UM489.i (c := 294) (k := 3) (Or.inr (by decide))
                  have tr492 := UM489.i (c := 294) (k := 11) (Or.inr (by decide))
                  have tr493 := UM489.i (c := 294) (k := 18) (Or.inr (by decide))
                  have tr494 := UM489.i (c := 294) (k := 34) (Or.inr (by decide))
                  refine PW.vret q_177_163 rfl (by decide) (by decide) ?_
                  exact hK M489 IM489 FM489 (by omega) ⟨((UM489.i (c := 294) (k := 2) (Or.inr (by decide))).trans ((UM479.i (c := 294) (k := 2) (Or.inr (by decide))).trans ((UM472.i (c := 294) (k := 2) (Or.inr (by decide))).trans hbJ140_47011.1))), (((hbJ140_47011.2.pu UM472 (by decide)).pu UM479 (by decide)).pu UM489 (by decide))⟩
                refine PW.jc_eq q_177_113 rfl (fun h469 => ?_) (fun h469 => ?_)
                · skip
                  exact PW.lvS (lk1 rfl (lk1 rfl lk0)) (J140_470 M459  IM459 FM459 (by omega) (by omega) (by omega) (by omega) (by omega) (by omega) ((congrArg (fun e => o_f e 4) (Fr.at GM459 kd_294 (by decide))).trans ((congrArg (fun e => o_f e 4) (Fr.at GM60 kd_294 (by decide))).trans ((congrArg (fun e => o_f e 4) (Fr.at GM51 kd_294 (by decide))).trans hbJ80_506))) ((congrArg (fun e => o_f e 12) (Fr.at GM459 kd_294 (by decide))).trans ((congrArg (fun e => o_f e 12) (Fr.at GM60 kd_294 (by decide))).trans ((congrArg (fun e => o_f e 12) (Fr.at GM51 kd_294 (by decide))).trans hbJ80_507))) ((congrArg (fun e => o_f e 13) (Fr.at GM459 kd_294 (by decide))).trans ((congrArg (fun e => o_f e 13) (Fr.at GM60 kd_294 (by decide))).trans ((congrArg (fun e => o_f e 13) (Fr.at GM51 kd_294 (by decide))).trans hbJ80_508))) ((congrArg (fun e => o_f e 3) (Fr.at GM459 kd_294 (by decide))).trans ((congrArg (fun e => o_f e 3) (Fr.at GM60 kd_294 (by decide))).trans ((congrArg (fun e => o_f e 3) (Fr.at GM51 kd_294 (by decide))).trans hbJ80_509))) ((congrArg (fun e => o_f e 5) (Fr.at GM459 kd_294 (by decide))).trans ((congrArg (fun e => o_f e 5) (Fr.at GM60 kd_294 (by decide))).trans ((congrArg (fun e => o_f e 5) (Fr.at GM51 kd_294 (by decide))).trans hbJ80_5010))) ⟨((congrArg (fun e => o_i e 2) (Fr.at GM459 kd_294 rfl)).trans ((congrArg (fun e => o_i e 2) (Fr.at GM60 kd_294 rfl)).trans ((congrArg (fun e => o_i e 2) (Fr.at GM51 kd_294 rfl)).trans hbJ80_5011.1))), (((hbJ80_5011.2.cg (Fr.at GM51 kd_296 rfl) (Fr.at GM51 kd_294 rfl)).cg (Fr.at GM60 kd_296 rfl) (Fr.at GM60 kd_294 rfl)).cg (Fr.at GM459 kd_296 rfl) (Fr.at GM459 kd_294 rfl))⟩)
                · skip
                  refine PW.iload_n q_177_116 rfl ?_
                  refine PW.cB q_177_117 (by decide) fun c495 hc495 => ?_
                  refine PW.jc_eq q_177_119 rfl (fun h496 => ?_) (fun h496 => ?_)
                  · skip
                    exact PW.lvS (lk1 rfl (lk1 rfl lk0)) (J140_470 M459  IM459 FM459 (by omega) (by omega) (by omega) (by omega) (by omega) (by omega) ((congrArg (fun e => o_f e 4) (Fr.at GM459 kd_294 (by decide))).trans ((congrArg (fun e => o_f e 4) (Fr.at GM60 kd_294 (by decide))).trans ((congrArg (fun e => o_f e 4) (Fr.at GM51 kd_294 (by decide))).trans hbJ80_506))) ((congrArg (fun e => o_f e 12) (Fr.at GM459 kd_294 (by decide))).trans ((congrArg (fun e => o_f e 12) (Fr.at GM60 kd_294 (by decide))).trans ((congrArg (fun e => o_f e 12) (Fr.at GM51 kd_294 (by decide))).trans hbJ80_507))) ((congrArg (fun e => o_f e 13) (Fr.at GM459 kd_294 (by decide))).trans ((congrArg (fun e => o_f e 13) (Fr.at GM60 kd_294 (by decide))).trans ((congrArg (fun e => o_f e 13) (Fr.at GM51 kd_294 (by decide))).trans hbJ80_508))) ((congrArg (fun e => o_f e 3) (Fr.at GM459 kd_294 (by decide))).trans ((congrArg (fun e => o_f e 3) (Fr.at GM60 kd_294 (by decide))).trans ((congrArg (fun e => o_f e 3) (Fr.at GM51 kd_294 (by decide))).trans hbJ80_509))) ((congrArg (fun e => o_f e 5) (Fr.at GM459 kd_294 (by decide))).trans ((congrArg (fun e => o_f e 5) (Fr.at GM60 kd_294 (by decide))).trans ((congrArg (fun e => o_f e 5) (Fr.at GM51 kd_294 (by decide))).trans hbJ80_5010))) ⟨((congrArg (fun e => o_i e 2) (Fr.at GM459 kd_294 rfl)).trans ((congrArg (fun e => o_i e 2) (Fr.at GM60 kd_294 rfl)).trans ((congrArg (fun e => o_i e 2) (Fr.at GM51 kd_294 rfl)).trans hbJ80_5011.1))), (((hbJ80_5011.2.cg (Fr.at GM51 kd_296 rfl) (Fr.at GM51 kd_294 rfl)).cg (Fr.at GM60 kd_296 rfl) (Fr.at GM60 kd_294 rfl)).cg (Fr.at GM459 kd_296 rfl) (Fr.at GM459 kd_294 rfl))⟩)
                  · skip
                    refine PW.iload_n q_177_122 rfl ?_
                    refine PW.cB q_177_123 (by decide) fun c497 hc497 => ?_
                    refine PW.jc_eq q_177_125 rfl (fun h498 => ?_) (fun h498 => ?_)
                    · skip
                      exact PW.lvS (lk1 rfl (lk1 rfl lk0)) (J140_470 M459  IM459 FM459 (by omega) (by omega) (by omega) (by omega) (by omega) (by omega) ((congrArg (fun e => o_f e 4) (Fr.at GM459 kd_294 (by decide))).trans ((congrArg (fun e => o_f e 4) (Fr.at GM60 kd_294 (by decide))).trans ((congrArg (fun e => o_f e 4) (Fr.at GM51 kd_294 (by decide))).trans hbJ80_506))) ((congrArg (fun e => o_f e 12) (Fr.at GM459 kd_294 (by decide))).trans ((congrArg (fun e => o_f e 12) (Fr.at GM60 kd_294 (by decide))).trans ((congrArg (fun e => o_f e 12) (Fr.at GM51 kd_294 (by decide))).trans hbJ80_507))) ((congrArg (fun e => o_f e 13) (Fr.at GM459 kd_294 (by decide))).trans ((congrArg (fun e => o_f e 13) (Fr.at GM60 kd_294 (by decide))).trans ((congrArg (fun e => o_f e 13) (Fr.at GM51 kd_294 (by decide))).trans hbJ80_508))) ((congrArg (fun e => o_f e 3) (Fr.at GM459 kd_294 (by decide))).trans ((congrArg (fun e => o_f e 3) (Fr.at GM60 kd_294 (by decide))).trans ((congrArg (fun e => o_f e 3) (Fr.at GM51 kd_294 (by decide))).trans hbJ80_509))) ((congrArg (fun e => o_f e 5) (Fr.at GM459 kd_294 (by decide))).trans ((congrArg (fun e => o_f e 5) (Fr.at GM60 kd_294 (by decide))).trans ((congrArg (fun e => o_f e 5) (Fr.at GM51 kd_294 (by decide))).trans hbJ80_5010))) ⟨((congrArg (fun e => o_i e 2) (Fr.at GM459 kd_294 rfl)).trans ((congrArg (fun e => o_i e 2) (Fr.at GM60 kd_294 rfl)).trans ((congrArg (fun e => o_i e 2) (Fr.at GM51 kd_294 rfl)).trans hbJ80_5011.1))), (((hbJ80_5011.2.cg (Fr.at GM51 kd_296 rfl) (Fr.at GM51 kd_294 rfl)).cg (Fr.at GM60 kd_296 rfl) (Fr.at GM60 kd_294 rfl)).cg (Fr.at GM459 kd_296 rfl) (Fr.at GM459 kd_294 rfl))⟩)
                    · skip
                      refine PW.iload_n q_177_128 rfl ?_
                      refine PW.cB q_177_129 (by decide) fun c499 hc499 => ?_
                      have J144_501 : ∀ (MJ144_501 : pM), Iv (V) MJ144_501 → Fr [40] M MJ144_501 → o_i (MJ144_501 294) 4 = o_i (M459 294) 4 → o_i (MJ144_501 294) 3 = o_i (M459 294) 3 → o_i (MJ144_501 294) 11 = o_i (M459 294) 11 → o_i (MJ144_501 294) 18 = o_i (M459 294) 18 → o_i (MJ144_501 294) 34 = o_i (M459 294) 34 → gpk MJ144_501 = gpk M459 → o_f (MJ144_501 294) 4 = .int x31 → o_f (MJ144_501 294) 12 = .int x31 → o_f (MJ144_501 294) 13 = .int c39 → o_f (MJ144_501 294) 3 = .int x47 → o_f (MJ144_501 294) 5 = .int x48 → (gLq MJ144_501 M ∧ gHq MJ144_501 M) → PW G false 1 177 (p_mc 177) (p_msl 177) Kr 144 [(0, .ref 294), (1, .int x52)] [.ref 294] 311 MJ144_501 0 0 := by
                        intro MJ144_501  IMJ144_501 FMJ144_501 hbJ144_5010 hbJ144_5011 hbJ144_5012 hbJ144_5013 hbJ144_5014 hbJ144_5015 hbJ144_5016 hbJ144_5017 hbJ144_5018 hbJ144_5019 hbJ144_50110 hbJ144_50111
                        refine PW.cI q_177_144 (by decide) fun c502 hc502 => ?_
                        refine PW.pI q_177_145 (Or.inl t_ft_177_144) gF_40_11 gP_40_11 kd_294 hV IMJ144_501 (by decide) rfl (n_lo _) (n_hi _) fun M503 IM503 fM503 UM503 => ?_
                        have FM503 := Fr.pu FMJ144_501 UM503.1 kd_294 (rfl : List.contains [40] 40 = true)
                        have tg504 := gpk_U UM503 (by decide) (by decide)
                        have tr505 := UM503.i (c := 294) (k := 4) (Or.inr (by decide))
                        have tr506 := UM503.i (c := 294) (k := 3) (Or.inr (by decide))
                        have tr507 := o_i_of fM503
                        have tr508 := UM503.i (c := 294) (k := 18) (Or.inr (by decide))
                        have tr509 := UM503.i (c := 294) (k := 34) (Or.inr (by decide))
                        refine PW.aload_n q_177_148 rfl ?_
                        refine PW.iload_n q_177_149 rfl ?_
                        refine PW.pI q_177_150 (Or.inl t_ft_177_154) gF_40_14 gP_40_14 kd_294 hV IM503 (by decide) rfl (n_lo _) (n_hi _) fun M510 IM510 fM510 UM510 => ?_
                        have FM510 := Fr.pu FM503 UM510.1 kd_294 (rfl : List.contains [40] 40 = true)
                        have tg511 := gpk_U UM510 (by decide) (by decide)
                        have tr512 := UM510.i (c := 294) (k := 4) (Or.inr (by decide))
                        have tr513 := UM510.i (c := 294) (k := 3) (Or.inr (by decide))
                        have tr514 := UM510.i (c := 294) (k := 11) (Or.inr (by decide))
                        have tr515 := UM510.i (c := 294) (k := 18) (Or.inr (by decide))
                        have tr516 := UM510.i (c := 294) (k := 34) (Or.inr (by decide))
                        refine PW.aload_n q_177_153 rfl ?_
                        refine PW.dup q_177_154 rfl ?_
                        refine PW.gE q_177_155 (Or.inl t_ft_177_21) gF_40_4 kd_294 IM510.1 (by decide) ((UM510.f (Or.inr (by decide))).trans ((UM503.f (Or.inr (by decide))).trans hbJ144_5016)) ?_
                        have tr517 := o_i_of ((UM510.f (Or.inr (by decide))).trans ((UM503.f (Or.inr (by decide))).trans hbJ144_5016))
                        refine PW.cI q_177_158 (by decide) fun c518 hc518 => ?_
                        refine PW.addN q_177_159 (by omega) (by omega) fun x519 hx519 => ?_
                        refine PW.pI q_177_160 (Or.inl t_ft_177_21) gF_40_4 gP_40_4 kd_294 hV IM510 (by decide) rfl (by omega) (by omega) fun M520 IM520 fM520 UM520 => ?_
                        have FM520 := Fr.pu FM510 UM520.1 kd_294 (rfl : List.contains [40] 40 = true)
                        have tr521 := o_i_of fM520
                        have tr522 := UM520.i (c := 294) (k := 3) (Or.inr (by decide))
                        have tr523 := UM520.i (c := 294) (k := 11) (Or.inr (by decide))
                        have tr524 := UM520.i (c := 294) (k := 18) (Or.inr (by decide))
                        have tr525 := UM520.i (c := 294) (k := 34) (Or.inr (by decide))
                        refine PW.vret q_177_163 rfl (by decide) (by decide) ?_
                        exact hK M520 IM520 FM520 (by omega) ⟨((UM520.i (c := 294) (k := 2) (Or.inr (by decide))).trans ((UM510.i (c := 294) (k := 2) (Or.inr (by decide))).trans ((UM503.i (c := 294) (k := 2) (Or.inr (by decide))).trans hbJ144_50111.1))), (((hbJ144_50111.2.pu UM503 (by decide)).pu UM510 (by decide)).pu UM520 (by decide))⟩
                      refine PW.jc_lt q_177_131 rfl (fun h500 => ?_) (fun h500 => ?_)
                      · skip
                        exact PW.lvS (lk1 rfl (lk1 rfl lk0)) (J144_501 M459  IM459 FM459 (by omega) (by omega) (by omega) (by omega) (by omega) (by omega) ((congrArg (fun e => o_f e 4) (Fr.at GM459 kd_294 (by decide))).trans ((congrArg (fun e => o_f e 4) (Fr.at GM60 kd_294 (by decide))).trans ((congrArg (fun e => o_f e 4) (Fr.at GM51 kd_294 (by decide))).trans hbJ80_506))) ((congrArg (fun e => o_f e 12) (Fr.at GM459 kd_294 (by decide))).trans ((congrArg (fun e => o_f e 12) (Fr.at GM60 kd_294 (by decide))).trans ((congrArg (fun e => o_f e 12) (Fr.at GM51 kd_294 (by decide))).trans hbJ80_507))) ((congrArg (fun e => o_f e 13) (Fr.at GM459 kd_294 (by decide))).trans ((congrArg (fun e => o_f e 13) (Fr.at GM60 kd_294 (by decide))).trans ((congrArg (fun e => o_f e 13) (Fr.at GM51 kd_294 (by decide))).trans hbJ80_508))) ((congrArg (fun e => o_f e 3) (Fr.at GM459 kd_294 (by decide))).trans ((congrArg (fun e => o_f e 3) (Fr.at GM60 kd_294 (by decide))).trans ((congrArg (fun e => o_f e 3) (Fr.at GM51 kd_294 (by decide))).trans hbJ80_509))) ((congrArg (fun e => o_f e 5) (Fr.at GM459 kd_294 (by decide))).trans ((congrArg (fun e => o_f e 5) (Fr.at GM60 kd_294 (by decide))).trans ((congrArg (fun e => o_f e 5) (Fr.at GM51 kd_294 (by decide))).trans hbJ80_5010))) ⟨((congrArg (fun e => o_i e 2) (Fr.at GM459 kd_294 rfl)).trans ((congrArg (fun e => o_i e 2) (Fr.at GM60 kd_294 rfl)).trans ((congrArg (fun e => o_i e 2) (Fr.at GM51 kd_294 rfl)).trans hbJ80_5011.1))), (((hbJ80_5011.2.cg (Fr.at GM51 kd_296 rfl) (Fr.at GM51 kd_294 rfl)).cg (Fr.at GM60 kd_296 rfl) (Fr.at GM60 kd_294 rfl)).cg (Fr.at GM459 kd_296 rfl) (Fr.at GM459 kd_294 rfl))⟩)
                      · skip
                        refine PW.iload_n q_177_134 rfl ?_
                        refine PW.cB q_177_135 (by decide) fun c526 hc526 => ?_
                        refine PW.jc_gt q_177_137 rfl (fun h527 => ?_) (fun h527 => ?_)
                        · skip
                          exact PW.lvS (lk1 rfl (lk1 rfl lk0)) (J144_501 M459  IM459 FM459 (by omega) (by omega) (by omega) (by omega) (by omega) (by omega) ((congrArg (fun e => o_f e 4) (Fr.at GM459 kd_294 (by decide))).trans ((congrArg (fun e => o_f e 4) (Fr.at GM60 kd_294 (by decide))).trans ((congrArg (fun e => o_f e 4) (Fr.at GM51 kd_294 (by decide))).trans hbJ80_506))) ((congrArg (fun e => o_f e 12) (Fr.at GM459 kd_294 (by decide))).trans ((congrArg (fun e => o_f e 12) (Fr.at GM60 kd_294 (by decide))).trans ((congrArg (fun e => o_f e 12) (Fr.at GM51 kd_294 (by decide))).trans hbJ80_507))) ((congrArg (fun e => o_f e 13) (Fr.at GM459 kd_294 (by decide))).trans ((congrArg (fun e => o_f e 13) (Fr.at GM60 kd_294 (by decide))).trans ((congrArg (fun e => o_f e 13) (Fr.at GM51 kd_294 (by decide))).trans hbJ80_508))) ((congrArg (fun e => o_f e 3) (Fr.at GM459 kd_294 (by decide))).trans ((congrArg (fun e => o_f e 3) (Fr.at GM60 kd_294 (by decide))).trans ((congrArg (fun e => o_f e 3) (Fr.at GM51 kd_294 (by decide))).trans hbJ80_509))) ((congrArg (fun e => o_f e 5) (Fr.at GM459 kd_294 (by decide))).trans ((congrArg (fun e => o_f e 5) (Fr.at GM60 kd_294 (by decide))).trans ((congrArg (fun e => o_f e 5) (Fr.at GM51 kd_294 (by decide))).trans hbJ80_5010))) ⟨((congrArg (fun e => o_i e 2) (Fr.at GM459 kd_294 rfl)).trans ((congrArg (fun e => o_i e 2) (Fr.at GM60 kd_294 rfl)).trans ((congrArg (fun e => o_i e 2) (Fr.at GM51 kd_294 rfl)).trans hbJ80_5011.1))), (((hbJ80_5011.2.cg (Fr.at GM51 kd_296 rfl) (Fr.at GM51 kd_294 rfl)).cg (Fr.at GM60 kd_296 rfl) (Fr.at GM60 kd_294 rfl)).cg (Fr.at GM459 kd_296 rfl) (Fr.at GM459 kd_294 rfl))⟩)
                        · skip
                          exact PW.lvS (lk1 rfl (lk1 rfl lk0)) (J140_470 M459  IM459 FM459 (by omega) (by omega) (by omega) (by omega) (by omega) (by omega) ((congrArg (fun e => o_f e 4) (Fr.at GM459 kd_294 (by decide))).trans ((congrArg (fun e => o_f e 4) (Fr.at GM60 kd_294 (by decide))).trans ((congrArg (fun e => o_f e 4) (Fr.at GM51 kd_294 (by decide))).trans hbJ80_506))) ((congrArg (fun e => o_f e 12) (Fr.at GM459 kd_294 (by decide))).trans ((congrArg (fun e => o_f e 12) (Fr.at GM60 kd_294 (by decide))).trans ((congrArg (fun e => o_f e 12) (Fr.at GM51 kd_294 (by decide))).trans hbJ80_507))) ((congrArg (fun e => o_f e 13) (Fr.at GM459 kd_294 (by decide))).trans ((congrArg (fun e => o_f e 13) (Fr.at GM60 kd_294 (by decide))).trans ((congrArg (fun e => o_f e 13) (Fr.at GM51 kd_294 (by decide))).trans hbJ80_508))) ((congrArg (fun e => o_f e 3) (Fr.at GM459 kd_294 (by decide))).trans ((congrArg (fun e => o_f e 3) (Fr.at GM60 kd_294 (by decide))).trans ((congrArg (fun e => o_f e 3) (Fr.at GM51 kd_294 (by decide))).trans hbJ80_509))) ((congrArg (fun e => o_f e 5) (Fr.at GM459 kd_294 (by decide))).trans ((congrArg (fun e => o_f e 5) (Fr.at GM60 kd_294 (by decide))).trans ((congrArg (fun e => o_f e 5) (Fr.at GM51 kd_294 (by decide))).trans hbJ80_5010))) ⟨((congrArg (fun e => o_i e 2) (Fr.at GM459 kd_294 rfl)).trans ((congrArg (fun e => o_i e 2) (Fr.at GM60 kd_294 rfl)).trans ((congrArg (fun e => o_i e 2) (Fr.at GM51 kd_294 rfl)).trans hbJ80_5011.1))), (((hbJ80_5011.2.cg (Fr.at GM51 kd_296 rfl) (Fr.at GM51 kd_294 rfl)).cg (Fr.at GM60 kd_296 rfl) (Fr.at GM60 kd_294 rfl)).cg (Fr.at GM459 kd_296 rfl) (Fr.at GM459 kd_294 rfl))⟩)
          · skip
            refine PW.aload_n q_177_89 rfl ?_
            refine PW.cI q_177_90 (by decide) fun c528 hc528 => ?_
            refine PW.pI q_177_91 (Or.inl t_ft_177_144) gF_40_11 gP_40_11 kd_294 hV IM51 (by decide) rfl (n_lo _) (n_hi _) fun M529 IM529 fM529 UM529 => ?_
            have FM529 := Fr.pu FM51 UM529.1 kd_294 (rfl : List.contains [40] 40 = true)
            have tg530 := gpk_U UM529 (by decide) (by decide)
            have tr531 := UM529.i (c := 294) (k := 4) (Or.inr (by decide))
            have tr532 := UM529.i (c := 294) (k := 3) (Or.inr (by decide))
            have tr533 := o_i_of fM529
            have tr534 := UM529.i (c := 294) (k := 18) (Or.inr (by decide))
            have tr535 := UM529.i (c := 294) (k := 34) (Or.inr (by decide))
            refine PW.vret q_177_94 rfl (by decide) (by decide) ?_
            exact hK M529 IM529 FM529 (by omega) ⟨((UM529.i (c := 294) (k := 2) (Or.inr (by decide))).trans ((congrArg (fun e => o_i e 2) (Fr.at GM51 kd_294 rfl)).trans hbJ80_5011.1)), ((hbJ80_5011.2.cg (Fr.at GM51 kd_296 rfl) (Fr.at GM51 kd_294 rfl)).pu UM529 (by decide))⟩
        refine PW.jc_le q_177_52 rfl (fun h49 => ?_) (fun h49 => ?_)
        · skip
          exact PW.lvS (lk1 rfl lk0) (J80_50 M40  IM40 FM40 (by omega) (by omega) (by omega) (by omega) (by omega) (by omega) ((UM40.f (Or.inr (by decide))).trans ((UM32.f (Or.inr (by decide))).trans fx31)) ((UM40.f (Or.inr (by decide))).trans fM32) fM40 fx47 fx48 ⟨((UM40.i (c := 294) (k := 2) (Or.inr (by decide))).trans ((UM32.i (c := 294) (k := 2) (Or.inr (by decide))).trans ((congrArg (fun e => o_i e 2) (Fr.at GM21 kd_294 rfl)).trans ((congrArg (fun e => o_i e 2) (Fr.at GM2 kd_294 rfl)).trans hbL177_0_13.1)))), ((((hbL177_0_13.2.cg (Fr.at GM2 kd_296 rfl) (Fr.at GM2 kd_294 rfl)).cg (Fr.at GM21 kd_296 rfl) (Fr.at GM21 kd_294 rfl)).pu UM32 (by decide)).pu UM40 (by decide))⟩)
        · skip
          refine PW.aload_n q_177_55 rfl ?_
          refine PW.gE q_177_56 (Or.inl t_ft_177_21) gF_40_4 kd_294 IM40.1 (by decide) ((UM40.f (Or.inr (by decide))).trans ((UM32.f (Or.inr (by decide))).trans fx31)) ?_
          have tr536 := o_i_of ((UM40.f (Or.inr (by decide))).trans ((UM32.f (Or.inr (by decide))).trans fx31))
          refine PW.aload_n q_177_59 rfl ?_
          refine PW.gE q_177_60 (Or.inl t_ft_177_24) gF_40_5 kd_294 IM40.1 (by decide) fx48 ?_
          refine PW.jc_lt q_177_63 rfl (fun h537 => ?_) (fun h537 => ?_)
          · skip
            exact PW.lvS (lk1 rfl lk0) (J80_50 M40  IM40 FM40 (by omega) (by omega) (by omega) (by omega) (by omega) (by omega) ((UM40.f (Or.inr (by decide))).trans ((UM32.f (Or.inr (by decide))).trans fx31)) ((UM40.f (Or.inr (by decide))).trans fM32) fM40 fx47 fx48 ⟨((UM40.i (c := 294) (k := 2) (Or.inr (by decide))).trans ((UM32.i (c := 294) (k := 2) (Or.inr (by decide))).trans ((congrArg (fun e => o_i e 2) (Fr.at GM21 kd_294 rfl)).trans ((congrArg (fun e => o_i e 2) (Fr.at GM2 kd_294 rfl)).trans hbL177_0_13.1)))), ((((hbL177_0_13.2.cg (Fr.at GM2 kd_296 rfl) (Fr.at GM2 kd_294 rfl)).cg (Fr.at GM21 kd_296 rfl) (Fr.at GM21 kd_294 rfl)).pu UM32 (by decide)).pu UM40 (by decide))⟩)
          · skip
            refine PW.aload_n q_177_66 rfl ?_
            refine PW.aload_n q_177_67 rfl ?_
            refine PW.gE q_177_68 (Or.inl t_ft_177_24) gF_40_5 kd_294 IM40.1 (by decide) fx48 ?_
            refine PW.pI q_177_71 (Or.inl t_ft_177_138) gF_40_12 gP_40_12 kd_294 hV IM40 (by decide) rfl (n_lo _) (n_hi _) fun M538 IM538 fM538 UM538 => ?_
            have FM538 := Fr.pu FM40 UM538.1 kd_294 (rfl : List.contains [40] 40 = true)
            have tg539 := gpk_U UM538 (by decide) (by decide)
            have tr540 := UM538.i (c := 294) (k := 4) (Or.inr (by decide))
            have tr541 := UM538.i (c := 294) (k := 3) (Or.inr (by decide))
            have tr542 := UM538.i (c := 294) (k := 11) (Or.inr (by decide))
            have tr543 := UM538.i (c := 294) (k := 18) (Or.inr (by decide))
            have tr544 := UM538.i (c := 294) (k := 34) (Or.inr (by decide))
            refine PW.aload_n q_177_74 rfl ?_
            refine PW.cI q_177_75 (by decide) fun c545 hc545 => ?_
            refine PW.pI q_177_76 (Or.inl t_ft_177_144) gF_40_11 gP_40_11 kd_294 hV IM538 (by decide) rfl (n_lo _) (n_hi _) fun M546 IM546 fM546 UM546 => ?_
            have FM546 := Fr.pu FM538 UM546.1 kd_294 (rfl : List.contains [40] 40 = true)
            have tg547 := gpk_U UM546 (by decide) (by decide)
            have tr548 := UM546.i (c := 294) (k := 4) (Or.inr (by decide))
            have tr549 := UM546.i (c := 294) (k := 3) (Or.inr (by decide))
            have tr550 := o_i_of fM546
            have tr551 := UM546.i (c := 294) (k := 18) (Or.inr (by decide))
            have tr552 := UM546.i (c := 294) (k := 34) (Or.inr (by decide))
            refine PW.vret q_177_79 rfl (by decide) (by decide) ?_
            exact hK M546 IM546 FM546 (by omega) ⟨((UM546.i (c := 294) (k := 2) (Or.inr (by decide))).trans ((UM538.i (c := 294) (k := 2) (Or.inr (by decide))).trans ((UM40.i (c := 294) (k := 2) (Or.inr (by decide))).trans ((UM32.i (c := 294) (k := 2) (Or.inr (by decide))).trans ((congrArg (fun e => o_i e 2) (Fr.at GM21 kd_294 rfl)).trans ((congrArg (fun e => o_i e 2) (Fr.at GM2 kd_294 rfl)).trans hbL177_0_13.1)))))), ((((((hbL177_0_13.2.cg (Fr.at GM2 kd_296 rfl) (Fr.at GM2 kd_294 rfl)).cg (Fr.at GM21 kd_296 rfl) (Fr.at GM21 kd_294 rfl)).pu UM32 (by decide)).pu UM40 (by decide)).pu UM538 (by decide)).pu UM546 (by decide))⟩
      · skip
        refine PW.aload_n q_177_18 rfl ?_
        refine PW.dup q_177_19 rfl ?_
        refine PW.gI q_177_20 (Or.inl t_ft_177_21) gF_40_4 kd_294 IM21.1 (by decide) fun x553 fx553 hx553 kx553 => ?_
        have trx553 := o_i_of fx553
        refine PW.cI q_177_23 (by decide) fun c554 hc554 => ?_
        refine PW.addN q_177_24 (by omega) (by omega) fun x555 hx555 => ?_
        refine PW.pI q_177_25 (Or.inl t_ft_177_21) gF_40_4 gP_40_4 kd_294 hV IM21 (by decide) rfl (by omega) (by omega) fun M556 IM556 fM556 UM556 => ?_
        have FM556 := Fr.pu FM21 UM556.1 kd_294 (rfl : List.contains [40] 40 = true)
        have tr557 := o_i_of fM556
        have tr558 := UM556.i (c := 294) (k := 3) (Or.inr (by decide))
        have tr559 := UM556.i (c := 294) (k := 11) (Or.inr (by decide))
        have tr560 := UM556.i (c := 294) (k := 18) (Or.inr (by decide))
        have tr561 := UM556.i (c := 294) (k := 34) (Or.inr (by decide))
        refine PW.goto q_177_28 rfl ?_
        refine PW.lvS (lk1 rfl lk0) (ih_L177_0_1 _ ?_ M556  IM556 FM556 (by omega) (by omega) (by omega) ⟨((UM556.i (c := 294) (k := 2) (Or.inr (by decide))).trans ((congrArg (fun e => o_i e 2) (Fr.at GM21 kd_294 rfl)).trans ((congrArg (fun e => o_i e 2) (Fr.at GM2 kd_294 rfl)).trans hbL177_0_13.1))), (((hbL177_0_13.2.cg (Fr.at GM2 kd_296 rfl) (Fr.at GM2 kd_294 rfl)).cg (Fr.at GM21 kd_296 rfl) (Fr.at GM21 kd_294 rfl)).pu UM556 (by decide))⟩ rfl)
        omega
  exact PW.lvS (lk1 rfl lk0) (L177_0_1 _ M  I F (by omega) (by omega) (by omega) ⟨rfl, gHq.refl⟩ rfl)
