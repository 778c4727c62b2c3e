/-! ===== when a dog saw whom: below 600, in cells below b ===== -/
def gWb (b : Nat) (M : pM) : Prop := ∀ a, g_kd a = 10 → a < b → ∀ i, i < 6 → (o_a (M a) i).toInt < 600
theorem gWb.ar {b a K : Nat} {M M1 : pM} (h : gWb b M) (U : ∀ c, c ≠ a → M1 c = M c) (hk : g_kd a = K) (hK : K ≠ 10) : gWb b M1 := fun c hc hb i hi => by
  rw [U c (fun e => hK (by rw [← hk, ← e, hc]))]; exact h c hc hb i hi
theorem gWb.fr {b : Nat} {l : List Nat} {M M1 : pM} (h : gWb b M) (F : Fr l M M1) (hl : l.contains 10 = false) : gWb b M1 := fun c hc hb i hi => by
  rw [F.at hc hl]; exact h c hc hb i hi
theorem gWb.at {b a : Nat} {M : pM} (h : gWb b M) (hk : g_kd a = 10) (hb : a < b) : ∀ i, i < 6 → (o_a (M a) i).toInt < 600 := h a hk hb
theorem gWb.row {b a : Nat} {M M1 : pM} (h : gWb b M) (U : ∀ c, c ≠ a → M1 c = M c) (hk : g_kd a = 10) (hr : ∀ i, i < 6 → (o_a (M1 a) i).toInt < 600) : gWb b M1 := fun c hc hb i hi => by
  by_cases e : c = a
  · rw [e]; exact hr i hi
  · rw [U c e]; exact h c hc hb i hi
theorem gWb.st {b a q : Nat} {M M1 : pM} {x : Int32} (h : gWb b M) (U : gVv M M1 a q) (hk : g_kd a = 10) (f : o_a (M1 a) q = x) (hx : x.toInt < 600 ∨ b ≤ a) : gWb b M1 := fun c hc hb i hi => by
  by_cases e : c = a
  · by_cases z : i = q
    · rw [e, z, f]; omega
    · rw [e, U.2 i z]; exact h a hk (by omega) i hi
  · rw [U.1 c e]; exact h c hc hb i hi
theorem gWb.mono {b b' : Nat} {M : pM} (h : gWb b M) (k : b' ≤ b) : gWb b' M := fun c hc hb => h c hc (by omega)
/-- a scene's two rows -/
def gWs (k : Nat) (M : pM) : Prop := (∀ i, i < 6 → (o_a (M (k + 10)) i).toInt < 600) ∧ ∀ i, i < 6 → (o_a (M (k + 14)) i).toInt < 600
set_option maxRecDepth 100000 in
theorem g_k5j9 : ((List.range 311).all fun a => !(g_kd a == 5) || (g_kd (a + 10) == 10 && g_kd (a + 14) == 10)) = true := by decide +kernel
theorem g_k5r {a : Nat} (h : g_kd a = 5) : g_kd (a + 10) = 10 ∧ g_kd (a + 14) = 10 := by
  have q := List.all_eq_true.mp g_k5j9 a (List.mem_range.mpr (g_kd_lt h (by decide)))
  simp only [h, Bool.or_eq_true, Bool.and_eq_true, beq_iff_eq, Bool.not_eq_true', beq_self_eq_true, Bool.false_eq_true, false_or, reduceCtorEq] at q
  exact q
set_option maxRecDepth 100000 in
theorem g_k10 : ((List.range 311).all fun a => !(g_kd a == 10) || decide (a < 275) || a == 285 || a == 289) = true := by decide +kernel
theorem gWb.all {M : pM} (h : gWb 275 M) (k : gWs 275 M) : gWb 311 M := fun c hc hb i hi => by
  have q := List.all_eq_true.mp g_k10 c (List.mem_range.mpr hb)
  simp only [hc, beq_self_eq_true, Bool.not_true, Bool.false_or, Bool.or_eq_true, decide_eq_true_eq, beq_iff_eq] at q
  rcases q with (q | q) | q
  · exact h c hc q i hi
  · rw [q]; exact k.1 i hi
  · rw [q]; exact k.2 i hi
section CpX
variable {V : pM → Prop} {G : pG} {d j mc ms : Nat} {Kr : pK} {pc : Nat} {lv : List (Nat × Value)} {st : List Value} {M : pM} {ce sl : Nat}
/-- a row copied: what it holds then -/
theorem PW.cpX {idx a b K n0 : Nat} {sp dp n : Int32} (h : p_tb j pc = some (.invokestatic idx, 3)) (hf : p_f2 p_mj (p_mK j) idx = some 4) (hA : g_sh K = (1, 1, n0)) (hka : g_kd a = K) (hkb : g_kd b = K) (hV : Stab V) (I : Iv V M) (hK : K < 60) (hs : g_sA K = false) (h1 : sp.toInt = 0) (h2 : dp.toInt = 0) (h3 : 0 ≤ n.toInt) (h4 : n.toInt ≤ n0) (h5 : ∀ i, i < n0 → g_as K i = g_as K 0) (hd : 2 ≤ d) (hsum : (st.map fun v => v.category).sum ≤ 8)
    (kk : ∀ M1, Iv V M1 → (∀ c, c ≠ b → M1 c = M c) → (∀ i : Nat, (i : Int) < n.toInt → o_a (M1 b) i = o_a (M a) i) → PW G false d j mc ms Kr (pc + 3) lv st 311 M1 ce sl) : PW G false d j mc ms Kr pc lv (.int n :: .int dp :: .ref b :: .int sp :: .ref a :: st) 311 M ce sl := by
  obtain ⟨ha, e1, e2⟩ := I.1.arr hka hK hA
  obtain ⟨hb, e3, e4⟩ := I.1.arr hkb hK hA
  have c1 : sp.toNatClampNeg = 0 := by rw [n_nat]; omega
  have c2 : dp.toNatClampNeg = 0 := by rw [n_nat]; omega
  have c3 : n.toNatClampNeg ≤ n0 := by rw [n_nat]; omega
  refine PW.copyi h hf ha hb e1 e3 (fun q => by have := n_lt.mp q; rw [n_0] at this; omega) (fun q => by have := n_lt.mp q; rw [n_0] at this; omega) (fun q => by have := n_lt.mp q; rw [n_0] at this; omega) (by omega) (by omega) hd hsum ?_
  refine kk _ ⟨I.1.setA hkb hA _ (p_up_eq _ _ _) (fun i hi => ?_) (fun c hc => va_up_ne _ _ hc), hV.2.1 _ _ b K I.2 (fun c hc => va_up_ne _ _ hc) hkb (by rw [hA]; exact Nat.succ_ne_zero _) hs⟩ (fun c hc => va_up_ne _ _ hc) (fun i hi => ?_)
  · rw [c1, c2]
    by_cases q : i < n.toNatClampNeg
    · rw [pk_cpy_in (by omega) (by omega)]
      have := e2 i hi
      simpa using this
    · rw [pk_cpy_out (by omega)]
      exact e4 i hi
  · have c4 : i < n.toNatClampNeg := by rw [n_nat]; omega
    rw [p_up_eq, c1, c2]
    show va_cpy _ _ _ _ _ i = _
    rw [pk_cpy_in (by omega) (by omega)]
    simp
end CpX

theorem c_X0_remember_w (V : pM → Prop) (hV : Stab V) (G : pG) (Kr : pK) (M : pM) (I : Iv V M) (k0 : Nat) (hk_k0 : g_kd k0 = 9) (a1 : Int32) (a2 : Int32) (bw : Nat) (hw : gWb bw M) (hw_0 : a2.toInt < 600 ∨ bw ≤ k0 + 1) (hK : ∀ (M1 : pM), Iv V M1 → Fr [9, 10] M M1 → (gWb bw M1) → Kr.1 none 311 M1) : PW G false 0 6 (p_mc 6) (p_msl 6) Kr 0 (lv_args 0 [.ref k0, .int a1, .int a2]) [] 311 M 0 0 := by
  have F : Fr [9, 10] M M := Fr.refl
  refine PW.iload_n q_6_0 rfl ?_
  refine PW.jz_lt q_6_1 rfl (fun h1 => ?_) (fun h1 => ?_)
  · skip
    refine PW.vret q_6_22 rfl (by decide) (by decide) ?_
    exact hK M I F hw
  · skip
    refine PW.iload_n q_6_4 rfl ?_
    refine PW.cB q_6_5 (by decide) fun c2 hc2 => ?_
    refine PW.jc_ge q_6_7 rfl (fun h3 => ?_) (fun h3 => ?_)
    · skip
      refine PW.vret q_6_22 rfl (by decide) (by decide) ?_
      exact hK M I F hw
    · skip
      refine PW.aload_n q_6_10 rfl ?_
      refine PW.gRk q_6_11 (Or.inl t_ft_6_15) gF_9_7 hk_k0 I.1 (by decide) fun b4 hk_b4 e_b4 => ?_
      refine PW.iload_n q_6_14 rfl ?_
      refine PW.iload_n q_6_15 rfl ?_
      refine PW.wI q_6_16 gA_10 hk_b4 hV I (by decide) rfl gC_10_0_5 (by decide) (by omega) (by omega) (n_lo _) (n_hi _) fun M5 IM5 fM5 UM5 => ?_
      have FM5 := Fr.pu F UM5.1 hk_b4 (rfl : List.contains [9, 10] 10 = true)
      refine PW.aload_n q_6_17 rfl ?_
      refine PW.iload_n q_6_18 rfl ?_
      refine PW.pI q_6_19 (Or.inl t_ft_6_44) gF_9_6 gP_9_6 hk_k0 hV IM5 (by decide) rfl (by omega) (by omega) fun M6 IM6 fM6 UM6 => ?_
      have FM6 := Fr.pu FM5 UM6.1 hk_k0 (rfl : List.contains [9, 10] 9 = true)
      refine PW.vret q_6_22 rfl (by decide) (by decide) ?_
      exact hK M6 IM6 FM6 ((hw.st UM5 hk_b4 fM5 (by omega)).ar UM6.1 hk_k0 (by decide))
theorem c_X0_sitBy_w (V : pM → Prop) (hV : Stab V) (G : pG) (Kr : pK) (M : pM) (I : Iv V M) (k0 : Nat) (hk_k0 : g_kd k0 = 9) (a1 : Int32) (hl_a1 : 0 ≤ a1.toInt) (hh_a1 : a1.toInt ≤ 5) (bw : Nat) (hw : gWb bw M) (hK : ∀ (M1 : pM), Iv V M1 → Fr [9, 10] M M1 → (gWb bw M1) → Kr.1 none 311 M1) : PW G false 0 2 (p_mc 2) (p_msl 2) Kr 0 (lv_args 0 [.ref k0, .int a1]) [] 311 M 0 0 := by
  have F : Fr [9, 10] M M := Fr.refl
  refine PW.aload_n q_2_0 rfl ?_
  refine PW.iload_n q_2_1 rfl ?_
  refine PW.pI q_2_2 (Or.inl t_ft_2_44) gF_9_6 gP_9_6 hk_k0 hV I (by decide) rfl (by omega) (by omega) fun M1 IM1 fM1 UM1 => ?_
  have FM1 := Fr.pu F UM1.1 hk_k0 (rfl : List.contains [9, 10] 9 = true)
  refine PW.cI q_2_5 (by decide) fun c2 hc2 => ?_
  refine PW.istore_n q_2_6 (by decide) ?_
  have L2_7_3 : ∀ (n : Nat) (ML2_7_3 : pM) (v4 : Int32), Iv (V) ML2_7_3 → Fr [9, 10] M ML2_7_3 → 0 ≤ v4.toInt → v4.toInt ≤ 6 → gWb bw ML2_7_3 → (6 - v4.toInt).toNat = n → PW G false 0 2 (p_mc 2) (p_msl 2) Kr 7 [(0, .ref k0), (1, .int a1), (2, .int v4)] [] 311 ML2_7_3 0 0 := by
    intro n
    induction n using Nat.strongRecOn with
    | ind n ih_L2_7_3 =>
    intro ML2_7_3 v4 IML2_7_3 FML2_7_3 hbL2_7_30 hbL2_7_31 hbL2_7_32 hmL2_7_3
    refine PW.iload_n q_2_7 rfl ?_
    refine PW.cB q_2_8 (by decide) fun c5 hc5 => ?_
    refine PW.jc_ge q_2_10 rfl (fun h6 => ?_) (fun h6 => ?_)
    · skip
      refine PW.vret q_2_36 rfl (by decide) (by decide) ?_
      exact hK ML2_7_3 IML2_7_3 FML2_7_3 hbL2_7_32
    · skip
      refine PW.aload_n q_2_13 rfl ?_
      refine PW.gRk q_2_14 (Or.inl t_ft_2_15) gF_9_7 hk_k0 IML2_7_3.1 (by decide) fun b7 hk_b7 e_b7 => ?_
      refine PW.iload_n q_2_17 rfl ?_
      refine PW.iload_n q_2_18 rfl ?_
      refine PW.iload_n q_2_19 rfl ?_
      have J29_9 : ∀ (MJ29_9 : pM) (s10 : Int32), Iv (V) MJ29_9 → Fr [9, 10] M MJ29_9 → -2 ≤ s10.toInt → s10.toInt ≤ -1 → gWb bw MJ29_9 → PW G false 0 2 (p_mc 2) (p_msl 2) Kr 29 [(0, .ref k0), (1, .int a1), (2, .int v4)] [.int s10, .int v4, .ref b7] 311 MJ29_9 0 0 := by
        intro MJ29_9 s10 IMJ29_9 FMJ29_9 hbJ29_90 hbJ29_91 hbJ29_92
        refine PW.wI q_2_29 gA_10 hk_b7 hV IMJ29_9 (by decide) rfl gC_10_0_5 (by decide) (by omega) (by omega) (n_lo _) (n_hi _) fun M11 IM11 fM11 UM11 => ?_
        have FM11 := Fr.pu FMJ29_9 UM11.1 hk_b7 (rfl : List.contains [9, 10] 10 = true)
        refine PW.incN q_2_30 rfl (by decide) (by decide) (by omega) (by omega) fun x12 hx12 => ?_
        refine PW.goto q_2_33 rfl ?_
        refine PW.lvS (lk1 rfl (lk1 rfl (lk1 rfl lk0))) (ih_L2_7_3 _ ?_ M11 x12 IM11 FM11 (by omega) (by omega) (hbJ29_92.st UM11 hk_b7 fM11 (by omega)) rfl)
        omega
      refine PW.jc_ne q_2_20 rfl (fun h8 => ?_) (fun h8 => ?_)
      · skip
        refine PW.cB q_2_27 (by decide) fun c13 hc13 => ?_
        exact PW.lvS (lk1 rfl (lk1 rfl (lk1 rfl lk0))) (J29_9 ML2_7_3 c13 IML2_7_3 FML2_7_3 (by omega) (by omega) hbL2_7_32)
      · skip
        refine PW.cI q_2_23 (by decide) fun c14 hc14 => ?_
        refine PW.goto q_2_24 rfl ?_
        exact PW.lvS (lk1 rfl (lk1 rfl (lk1 rfl lk0))) (J29_9 ML2_7_3 c14 IML2_7_3 FML2_7_3 (by omega) (by omega) hbL2_7_32)
  exact PW.lvS (lk1 rfl (lk1 rfl (lk1 rfl lk0))) (L2_7_3 _ M1 c2 IM1 FM1 (by omega) (by omega) (hw.ar UM1.1 hk_k0 (by decide)) rfl)
theorem c_X5_leap_w (V : pM → Prop) (hV : Stab V) (G : pG) (Kr : pK) (M : pM) (I : Iv V M) (k0 : Nat) (hk_k0 : g_kd k0 = 5) (a1 : Int32) (k2 : Nat) (hk_k2 : g_kd k2 = 9) (a3 : Int32) (a4 : Int32) (hl_a1 : 0 ≤ a1.toInt) (hh_a1 : a1.toInt ≤ 6) (bw : Nat) (hw : gWb bw M) (hw_0 : a4.toInt < 600 ∨ bw ≤ k2 + 1) (hK : ∀ (x : Int32) (M1 : pM), Iv V M1 → Fr [9, 10] M M1 → (gWb bw M1) → Kr.1 (some (.int x)) 311 M1) : PW G false 3 64 (p_mc 64) (p_msl 64) Kr 0 (lv_args 0 [.ref k0, .int a1, .ref k2, .int a3, .int a4]) [] 311 M 0 0 := by
  have F : Fr [9, 10] M M := Fr.refl
  refine PW.aload_n q_64_0 rfl ?_
  refine PW.aload_n q_64_1 rfl ?_
  refine PW.gRk q_64_2 (Or.inl t_ft_64_20) gF_5_3 hk_k0 I.1 (by decide) fun b1 hk_b1 e_b1 => ?_
  refine PW.aload_n q_64_5 rfl ?_
  refine PW.gI q_64_6 (Or.inr t_fN_64_165) gF_9_6 hk_k2 I.1 (by decide) fun x2 fx2 hx2 kx2 => ?_
  refine PW.aRk q_64_9 rfl (by decide) (by decide) hk_b1 I.1 (by decide) (by omega) (by omega) fun b3 hk_b3 e_b3 => ?_
  refine PW.gI q_64_10 (Or.inr t_fN_64_76) gF_7_0 hk_b3 I.1 (by decide) fun x4 fx4 hx4 kx4 => ?_
  clear hx4 kx4
  refine PW.pI q_64_13 (Or.inr t_fN_64_191) gF_9_0 gP_9_0 hk_k2 hV I (by decide) rfl (n_lo _) (n_hi _) fun M5 IM5 fM5 UM5 => ?_
  have FM5 := Fr.pu F UM5.1 hk_k2 (rfl : List.contains [9, 10] 9 = true)
  refine PW.aload_n q_64_16 rfl ?_
  refine PW.iload_n q_64_17 rfl ?_
  refine PW.aload_n q_64_18 rfl ?_
  refine PW.iload_n q_64_19 rfl ?_
  refine PW.cV (as := [_, _, _]) (rest := []) q_64_20 t_mv_64_157 hk_k0 IM5.1 (by decide) rfl (by decide) rfl rfl (Nat.le_of_ble_eq_true rfl) (Nat.le_of_ble_eq_true rfl) (by decide) (by decide) ?_
  refine PW.up (by decide) (c_X5_choice (V) (hV) G _ M5 IM5 k0 hk_k0 a1 k2 hk_k2 a3 (by omega) (by omega) fun x7 M6 IM6 GM6 => ?_)
  have FM6 := Fr.trans FM5 GM6 (rfl)
  refine PW.istore q_64_23 (by decide) ?_
  refine PW.aload_n q_64_25 rfl ?_
  refine PW.iload q_64_26 rfl ?_
  refine PW.iload q_64_28 rfl ?_
  refine PW.cV (as := [_, _]) (rest := []) q_64_30 t_mv_64_195 hk_k2 IM6.1 (by decide) rfl (by decide) rfl rfl (Nat.le_of_ble_eq_true rfl) (Nat.le_of_ble_eq_true rfl) (by decide) (by decide) ?_
  refine PW.up (by decide) (c_X0_remember_w (V) (hV) G _ M6 IM6 k2 hk_k2 x7 a4 bw ((hw.ar UM5.1 hk_k2 (by decide)).fr GM6 rfl) (by omega) fun M8 IM8 GM8 TM8 => ?_)
  have FM8 := Fr.trans FM6 GM8 (rfl)
  refine PW.iload q_64_33 rfl ?_
  refine PW.rI q_64_35 rfl (by decide) (by decide) ?_
  exact hK x7 M8 IM8 FM8 TM8
theorem c_X0_begin_w (fs fd : Nat → Value) (G : pG) (Kr : pK) (M : pM) (I : Iv (gSp fs fd) M) (k0 : Nat) (hk_k0 : g_kd k0 = 9) (a1 : Int32) (a2 : Int32) (a3 : Int32) (hl_a3 : 0 ≤ a3.toInt) (hh_a3 : a3.toInt ≤ 5) (bw : Nat) (hw : gWb bw M) (hK : ∀ (M1 : pM) (fd1 : Nat → Value), (∀ a, a ≠ k0 → fd1 a = fd a) → gvi (fd1 k0) = 0 → Iv (gSp fs fd1) M1 → Fr [9, 10] M M1 → gWb bw M1 → Kr.1 none 311 M1) : PW G false 1 1 (p_mc 1) (p_msl 1) Kr 0 (lv_args 0 [.ref k0, .int a1, .int a2, .int a3]) [] 311 M 0 0 := by
  have F : Fr [9, 10] M M := Fr.refl
  refine PW.aload_n q_1_0 rfl ?_
  refine PW.iload_n q_1_1 rfl ?_
  refine PW.pI q_1_2 (Or.inl t_ft_1_25) gF_9_0 gP_9_0 hk_k0 (gSpS _ _) I (by decide) rfl (n_lo _) (n_hi _) fun M1 IM1 fM1 UM1 => ?_
  have FM1 := Fr.pu F UM1.1 hk_k0 (rfl : List.contains [9, 10] 9 = true)
  refine PW.aload_n q_1_5 rfl ?_
  refine PW.iload_n q_1_6 rfl ?_
  refine PW.pI q_1_7 (Or.inl t_ft_1_28) gF_9_1 gP_9_1 hk_k0 (gSpS _ _) IM1 (by decide) rfl (n_lo _) (n_hi _) fun M2 IM2 fM2 UM2 => ?_
  have FM2 := Fr.pu FM1 UM2.1 hk_k0 (rfl : List.contains [9, 10] 9 = true)
  refine PW.aload_n q_1_10 rfl ?_
  refine PW.cI q_1_11 (by decide) fun c3 hc3 => ?_
  refine PW.pI q_1_12 (Or.inl t_ft_1_31) gF_9_2 gP_9_2 hk_k0 (gSpS _ _) IM2 (by decide) rfl (n_lo _) (n_hi _) fun M4 IM4 fM4 UM4 => ?_
  have FM4 := Fr.pu FM2 UM4.1 hk_k0 (rfl : List.contains [9, 10] 9 = true)
  refine PW.aload_n q_1_15 rfl ?_
  refine PW.cI q_1_16 (by decide) fun c5 hc5 => ?_
  refine PW.pD q_1_17 (Or.inl t_ft_1_34) gF_9_3 gP_9_3 hk_k0 IM4 (by decide) ⟨rfl, rfl⟩ (by omega) (by omega) fun M6 IM6 fM6 UM6 => ?_
  have FM6 := Fr.pu FM4 UM6.1 hk_k0 (rfl : List.contains [9, 10] 9 = true)
  have htz : gvi (.int c5) = 0 := by show c5.toInt = 0; omega
  refine PW.aload_n q_1_20 rfl ?_
  refine PW.cI q_1_21 (by decide) fun c7 hc7 => ?_
  refine PW.pI q_1_22 (Or.inl t_ft_1_9) gF_9_4 gP_9_4 hk_k0 (gSpS _ _) IM6 (by decide) rfl (n_lo _) (n_hi _) fun M8 IM8 fM8 UM8 => ?_
  have FM8 := Fr.pu FM6 UM8.1 hk_k0 (rfl : List.contains [9, 10] 9 = true)
  refine PW.aload_n q_1_25 rfl ?_
  refine PW.cI q_1_26 (by decide) fun c9 hc9 => ?_
  refine PW.pI q_1_27 (Or.inl t_ft_1_37) gF_9_5 gP_9_5 hk_k0 (gSpS _ _) IM8 (by decide) rfl (n_lo _) (n_hi _) fun M10 IM10 fM10 UM10 => ?_
  have FM10 := Fr.pu FM8 UM10.1 hk_k0 (rfl : List.contains [9, 10] 9 = true)
  refine PW.aload_n q_1_30 rfl ?_
  refine PW.iload_n q_1_31 rfl ?_
  refine PW.cV (as := [_]) (rest := []) q_1_32 t_mv_1_40 hk_k0 IM10.1 (by decide) rfl (by decide) rfl rfl (Nat.le_of_ble_eq_true rfl) (Nat.le_of_ble_eq_true rfl) (by decide) (by decide) ?_
  refine PW.up (by decide) (c_X0_sitBy_w (gSp fs (gUp fd k0 (.int c5))) ((gSpS _ _)) G _ M10 IM10 k0 hk_k0 a3 (by omega) (by omega) bw ((((((hw.ar UM1.1 hk_k0 (by decide)).ar UM2.1 hk_k0 (by decide)).ar UM4.1 hk_k0 (by decide)).ar UM6.1 hk_k0 (by decide)).ar UM8.1 hk_k0 (by decide)).ar UM10.1 hk_k0 (by decide)) fun M11 IM11 GM11 TM11 => ?_)
  have FM11 := Fr.trans FM10 GM11 (rfl)
  refine PW.vret q_1_35 rfl (by decide) (by decide) ?_
  exact hK M11 _ (fun a h => gUp_ne h) (by rw [gUp_eq]; show _ = _; exact htz) IM11 FM11 TM11
theorem c_X0_copyFrom_w (fs fd : Nat → Value) (G : pG) (Kr : pK) (M : pM) (I : Iv (gSp fs fd) M) (k0 : Nat) (hk_k0 : g_kd k0 = 9) (k1 : Nat) (hk_k1 : g_kd k1 = 9) (bw : Nat) (hw : gWb bw M) (hw_0 : k1 + 1 < bw) (hK : ∀ (M1 : pM) (fd1 : Nat → Value), (∀ a, a ≠ k0 → fd1 a = fd a) → fd1 k0 = fd k1 → Iv (gSp fs fd1) M1 → Fr [9, 10, 11, 12] M M1 → gWb bw M1 → ((∀ i : Nat, i < 6 → (o_a (M1 (k0 + 1)) i).toInt < 600) ∧ ∀ c, g_kd c = 10 → c ≠ k0 + 1 → M1 c = M c) → Kr.1 none 311 M1) : PW G false 2 3 (p_mc 3) (p_msl 3) Kr 0 (lv_args 0 [.ref k0, .ref k1]) [] 311 M 0 0 := by
  have F : Fr [9, 10, 11, 12] M M := Fr.refl
  refine PW.aload_n q_3_0 rfl ?_
  refine PW.aload_n q_3_1 rfl ?_
  refine PW.gI q_3_2 (Or.inl t_ft_3_25) gF_9_0 hk_k1 I.1 (by decide) fun x1 fx1 hx1 kx1 => ?_
  clear hx1 kx1
  refine PW.pI q_3_5 (Or.inl t_ft_3_25) gF_9_0 gP_9_0 hk_k0 (gSpS _ _) I (by decide) rfl (n_lo _) (n_hi _) fun M2 IM2 fM2 UM2 => ?_
  have FM2 := Fr.pu F UM2.1 hk_k0 (rfl : List.contains [9, 10, 11, 12] 9 = true)
  refine PW.aload_n q_3_8 rfl ?_
  refine PW.aload_n q_3_9 rfl ?_
  refine PW.gI q_3_10 (Or.inl t_ft_3_28) gF_9_1 hk_k1 IM2.1 (by decide) fun x3 fx3 hx3 kx3 => ?_
  clear hx3 kx3
  refine PW.pI q_3_13 (Or.inl t_ft_3_28) gF_9_1 gP_9_1 hk_k0 (gSpS _ _) IM2 (by decide) rfl (n_lo _) (n_hi _) fun M4 IM4 fM4 UM4 => ?_
  have FM4 := Fr.pu FM2 UM4.1 hk_k0 (rfl : List.contains [9, 10, 11, 12] 9 = true)
  refine PW.aload_n q_3_16 rfl ?_
  refine PW.aload_n q_3_17 rfl ?_
  refine PW.gI q_3_18 (Or.inl t_ft_3_31) gF_9_2 hk_k1 IM4.1 (by decide) fun x5 fx5 hx5 kx5 => ?_
  clear hx5 kx5
  refine PW.pI q_3_21 (Or.inl t_ft_3_31) gF_9_2 gP_9_2 hk_k0 (gSpS _ _) IM4 (by decide) rfl (n_lo _) (n_hi _) fun M6 IM6 fM6 UM6 => ?_
  have FM6 := Fr.pu FM4 UM6.1 hk_k0 (rfl : List.contains [9, 10, 11, 12] 9 = true)
  refine PW.aload_n q_3_24 rfl ?_
  refine PW.aload_n q_3_25 rfl ?_
  refine PW.gI q_3_26 (Or.inl t_ft_3_34) gF_9_3 hk_k1 IM6.1 (by decide) fun x7 fx7 hx7 kx7 => ?_
  have htz : fd k1 = .int x7 := (IM6.2.2.1 k1 hk_k1).symm.trans fx7
  refine PW.pD q_3_29 (Or.inl t_ft_3_34) gF_9_3 gP_9_3 hk_k0 IM6 (by decide) ⟨rfl, rfl⟩ (by omega) (by omega) fun M8 IM8 fM8 UM8 => ?_
  have FM8 := Fr.pu FM6 UM8.1 hk_k0 (rfl : List.contains [9, 10, 11, 12] 9 = true)
  refine PW.aload_n q_3_32 rfl ?_
  refine PW.aload_n q_3_33 rfl ?_
  refine PW.gI q_3_34 (Or.inl t_ft_3_9) gF_9_4 hk_k1 IM8.1 (by decide) fun x9 fx9 hx9 kx9 => ?_
  clear hx9 kx9
  refine PW.pI q_3_37 (Or.inl t_ft_3_9) gF_9_4 gP_9_4 hk_k0 (gSpS _ _) IM8 (by decide) rfl (n_lo _) (n_hi _) fun M10 IM10 fM10 UM10 => ?_
  have FM10 := Fr.pu FM8 UM10.1 hk_k0 (rfl : List.contains [9, 10, 11, 12] 9 = true)
  refine PW.aload_n q_3_40 rfl ?_
  refine PW.aload_n q_3_41 rfl ?_
  refine PW.gI q_3_42 (Or.inl t_ft_3_37) gF_9_5 hk_k1 IM10.1 (by decide) fun x11 fx11 hx11 kx11 => ?_
  clear hx11 kx11
  refine PW.pI q_3_45 (Or.inl t_ft_3_37) gF_9_5 gP_9_5 hk_k0 (gSpS _ _) IM10 (by decide) rfl (n_lo _) (n_hi _) fun M12 IM12 fM12 UM12 => ?_
  have FM12 := Fr.pu FM10 UM12.1 hk_k0 (rfl : List.contains [9, 10, 11, 12] 9 = true)
  refine PW.aload_n q_3_48 rfl ?_
  refine PW.aload_n q_3_49 rfl ?_
  refine PW.gI q_3_50 (Or.inl t_ft_3_44) gF_9_6 hk_k1 IM12.1 (by decide) fun x13 fx13 hx13 kx13 => ?_
  refine PW.pI q_3_53 (Or.inl t_ft_3_44) gF_9_6 gP_9_6 hk_k0 (gSpS _ _) IM12 (by decide) rfl (by omega) (by omega) fun M14 IM14 fM14 UM14 => ?_
  have FM14 := Fr.pu FM12 UM14.1 hk_k0 (rfl : List.contains [9, 10, 11, 12] 9 = true)
  refine PW.aload_n q_3_56 rfl ?_
  refine PW.gRk q_3_57 (Or.inl t_ft_3_15) gF_9_7 hk_k1 IM14.1 (by decide) fun b15 hk_b15 e_b15 => ?_
  refine PW.cI q_3_60 (by decide) fun c16 hc16 => ?_
  refine PW.aload_n q_3_61 rfl ?_
  refine PW.gRk q_3_62 (Or.inl t_ft_3_15) gF_9_7 hk_k0 IM14.1 (by decide) fun b17 hk_b17 e_b17 => ?_
  refine PW.cI q_3_65 (by decide) fun c18 hc18 => ?_
  refine PW.cB q_3_66 (by decide) fun c19 hc19 => ?_
  refine PW.cpX q_3_68 t_mj_3_47 gA_10 hk_b15 hk_b17 (gSpS _ _) IM14 (by decide) rfl (by omega) (by omega) (by omega) (by omega) (fun _ _ => rfl) (by decide) (Nat.le_of_ble_eq_true rfl) fun M20 IM20 UM20 hcM20 => ?_
  have FM20 := Fr.pu FM14 UM20 hk_b17 (rfl : List.contains [9, 10, 11, 12] 10 = true)
  refine PW.aload_n q_3_71 rfl ?_
  refine PW.gRk q_3_72 (Or.inl t_ft_3_19) gF_9_8 hk_k1 IM20.1 (by decide) fun b21 hk_b21 e_b21 => ?_
  refine PW.cI q_3_75 (by decide) fun c22 hc22 => ?_
  refine PW.aload_n q_3_76 rfl ?_
  refine PW.gRk q_3_77 (Or.inl t_ft_3_19) gF_9_8 hk_k0 IM20.1 (by decide) fun b23 hk_b23 e_b23 => ?_
  refine PW.cI q_3_80 (by decide) fun c24 hc24 => ?_
  refine PW.cB q_3_81 (by decide) fun c25 hc25 => ?_
  refine PW.cp q_3_83 t_mj_3_47 gA_11 hk_b21 hk_b23 (gSpS _ _) IM20 (by decide) rfl (by omega) (by omega) (by omega) (by omega) (fun _ _ => rfl) (by decide) (Nat.le_of_ble_eq_true rfl) fun M26 IM26 UM26 => ?_
  have FM26 := Fr.pu FM20 UM26 hk_b23 (rfl : List.contains [9, 10, 11, 12] 11 = true)
  refine PW.aload_n q_3_86 rfl ?_
  refine PW.gRk q_3_87 (Or.inl t_ft_3_22) gF_9_9 hk_k1 IM26.1 (by decide) fun b27 hk_b27 e_b27 => ?_
  refine PW.cI q_3_90 (by decide) fun c28 hc28 => ?_
  refine PW.aload_n q_3_91 rfl ?_
  refine PW.gRk q_3_92 (Or.inl t_ft_3_22) gF_9_9 hk_k0 IM26.1 (by decide) fun b29 hk_b29 e_b29 => ?_
  refine PW.cI q_3_95 (by decide) fun c30 hc30 => ?_
  refine PW.cB q_3_96 (by decide) fun c31 hc31 => ?_
  refine PW.cp q_3_98 t_mj_3_47 gA_12 hk_b27 hk_b29 (gSpS _ _) IM26 (by decide) rfl (by omega) (by omega) (by omega) (by omega) (fun _ _ => rfl) (by decide) (Nat.le_of_ble_eq_true rfl) fun M32 IM32 UM32 => ?_
  have FM32 := Fr.pu FM26 UM32 hk_b29 (rfl : List.contains [9, 10, 11, 12] 12 = true)
  refine PW.vret q_3_101 rfl (by decide) (by decide) ?_
  exact hK M32 _ (fun a h => gUp_ne h) (by rw [gUp_eq]; exact htz.symm) IM32 FM32 ((((((((((hw.ar UM2.1 hk_k0 (by decide)).ar UM4.1 hk_k0 (by decide)).ar UM6.1 hk_k0 (by decide)).ar UM8.1 hk_k0 (by decide)).ar UM10.1 hk_k0 (by decide)).ar UM12.1 hk_k0 (by decide)).ar UM14.1 hk_k0 (by decide)).row UM20 hk_b17 (fun i hi => by rw [hcM20 i (by omega)]; exact (((((((hw.ar UM2.1 hk_k0 (by decide)).ar UM4.1 hk_k0 (by decide)).ar UM6.1 hk_k0 (by decide)).ar UM8.1 hk_k0 (by decide)).ar UM10.1 hk_k0 (by decide)).ar UM12.1 hk_k0 (by decide)).ar UM14.1 hk_k0 (by decide)).at hk_b15 (by omega) i hi)).ar UM26 hk_b23 (by decide)).ar UM32 hk_b29 (by decide)) ⟨(fun i hi => by rw [show k0 + 1 = b17 from by omega, ((UM32 _ (g_ne hk_b17 hk_b29 (by decide))).trans (UM26 _ (g_ne hk_b17 hk_b23 (by decide)))), hcM20 i (by omega)]; exact (((((((hw.ar UM2.1 hk_k0 (by decide)).ar UM4.1 hk_k0 (by decide)).ar UM6.1 hk_k0 (by decide)).ar UM8.1 hk_k0 (by decide)).ar UM10.1 hk_k0 (by decide)).ar UM12.1 hk_k0 (by decide)).ar UM14.1 hk_k0 (by decide)).at hk_b15 (by omega) i hi), fun c hc hn => ((UM32 c (g_ne hc hk_b29 (by decide))).trans ((UM26 c (g_ne hc hk_b23 (by decide))).trans ((UM20 c (by omega)).trans ((UM14.1 c (g_ne hc hk_k0 (by decide))).trans ((UM12.1 c (g_ne hc hk_k0 (by decide))).trans ((UM10.1 c (g_ne hc hk_k0 (by decide))).trans ((UM8.1 c (g_ne hc hk_k0 (by decide))).trans ((UM6.1 c (g_ne hc hk_k0 (by decide))).trans ((UM4.1 c (g_ne hc hk_k0 (by decide))).trans (UM2.1 c (g_ne hc hk_k0 (by decide))))))))))))⟩
theorem c_X0_see_w (fs fd : Nat → Value) (G : pG) (Kr : pK) (M : pM) (I : Iv (gSp fs fd) M) (k0 : Nat) (hk_k0 : g_kd k0 = 9) (a1 : Int32) (a2 : Int32) (hp_0 : gvi (fd k0) ≤ 599) (bw : Nat) (hw : gWb bw M) (hw_0 : a2.toInt < 600 ∨ bw ≤ k0 + 1) (hK : ∀ (M1 : pM) (fd1 : Nat → Value), (∀ a, a ≠ k0 → fd1 a = fd a) → gvi (fd1 k0) = gvi (fd k0) + 1 → Iv (gSp fs fd1) M1 → Fr [9, 10, 11, 12] M M1 → gWb bw M1 → Kr.1 none 311 M1) : PW G false 1 5 (p_mc 5) (p_msl 5) Kr 0 (lv_args 0 [.ref k0, .int a1, .int a2]) [] 311 M 0 0 := by
  have F : Fr [9, 10, 11, 12] M M := Fr.refl
  refine PW.aload_n q_5_0 rfl ?_
  refine PW.gRk q_5_1 (Or.inl t_ft_5_19) gF_9_8 hk_k0 I.1 (by decide) fun b1 hk_b1 e_b1 => ?_
  refine PW.aload_n q_5_4 rfl ?_
  refine PW.gI q_5_5 (Or.inl t_ft_5_34) gF_9_3 hk_k0 I.1 (by decide) fun x2 fx2 hx2 kx2 => ?_
  have htz : gvi (fd k0) = x2.toInt := by rw [← I.2.2.1 k0 hk_k0, fx2]; rfl
  refine PW.cB q_5_8 (by decide) fun c3 hc3 => ?_
  refine PW.remP q_5_10 (by omega) (by omega) fun x4 hx4 kx4 ex4 => ?_
  clear ex4
  refine PW.iload_n q_5_11 rfl ?_
  refine PW.wI q_5_12 gA_11 hk_b1 (gSpS _ _) I (by decide) rfl gC_11_0_19 (by decide) (by omega) (by omega) (n_lo _) (n_hi _) fun M5 IM5 fM5 UM5 => ?_
  have FM5 := Fr.pu F UM5.1 hk_b1 (rfl : List.contains [9, 10, 11, 12] 11 = true)
  refine PW.aload_n q_5_13 rfl ?_
  refine PW.gRk q_5_14 (Or.inl t_ft_5_22) gF_9_9 hk_k0 IM5.1 (by decide) fun b6 hk_b6 e_b6 => ?_
  refine PW.aload_n q_5_17 rfl ?_
  refine PW.gE q_5_18 (Or.inl t_ft_5_34) gF_9_3 hk_k0 IM5.1 (by decide) ((congrArg (fun e => o_f e 3) (UM5.1 _ (g_ne hk_k0 hk_b1 (by decide)))).trans fx2) ?_
  refine PW.cB q_5_21 (by decide) fun c7 hc7 => ?_
  refine PW.remP q_5_23 (by omega) (by omega) fun x8 hx8 kx8 ex8 => ?_
  clear ex8
  refine PW.aload_n q_5_24 rfl ?_
  refine PW.gI q_5_25 (Or.inl t_ft_5_25) gF_9_0 hk_k0 IM5.1 (by decide) fun x9 fx9 hx9 kx9 => ?_
  clear hx9 kx9
  refine PW.wI q_5_28 gA_12 hk_b6 (gSpS _ _) IM5 (by decide) rfl gC_12_0_19 (by decide) (by omega) (by omega) (n_lo _) (n_hi _) fun M10 IM10 fM10 UM10 => ?_
  have FM10 := Fr.pu FM5 UM10.1 hk_b6 (rfl : List.contains [9, 10, 11, 12] 12 = true)
  refine PW.aload_n q_5_29 rfl ?_
  refine PW.dup q_5_30 rfl ?_
  refine PW.gE q_5_31 (Or.inl t_ft_5_34) gF_9_3 hk_k0 IM10.1 (by decide) ((congrArg (fun e => o_f e 3) (UM10.1 _ (g_ne hk_k0 hk_b6 (by decide)))).trans ((congrArg (fun e => o_f e 3) (UM5.1 _ (g_ne hk_k0 hk_b1 (by decide)))).trans fx2)) ?_
  refine PW.cI q_5_34 (by decide) fun c11 hc11 => ?_
  refine PW.addN q_5_35 (by omega) (by omega) fun x12 hx12 => ?_
  refine PW.pD q_5_36 (Or.inl t_ft_5_34) gF_9_3 gP_9_3 hk_k0 IM10 (by decide) ⟨rfl, rfl⟩ (by omega) (by omega) fun M13 IM13 fM13 UM13 => ?_
  have FM13 := Fr.pu FM10 UM13.1 hk_k0 (rfl : List.contains [9, 10, 11, 12] 9 = true)
  have hty : gvi (.int x12) = gvi (fd k0) + 1 := by show x12.toInt = _; omega
  refine PW.aload_n q_5_39 rfl ?_
  refine PW.iload_n q_5_40 rfl ?_
  refine PW.iload_n q_5_41 rfl ?_
  refine PW.cV (as := [_, _]) (rest := []) q_5_42 t_mv_5_59 hk_k0 IM13.1 (by decide) rfl (by decide) rfl rfl (Nat.le_of_ble_eq_true rfl) (Nat.le_of_ble_eq_true rfl) (by decide) (by decide) ?_
  refine PW.up (by decide) (c_X0_remember_w (gSp fs (gUp fd k0 (.int x12))) ((gSpS _ _)) G _ M13 IM13 k0 hk_k0 a1 a2 bw (((hw.ar UM5.1 hk_b1 (by decide)).ar UM10.1 hk_b6 (by decide)).ar UM13.1 hk_k0 (by decide)) (by omega) fun M14 IM14 GM14 TM14 => ?_)
  have FM14 := Fr.trans FM13 GM14 (rfl)
  refine PW.aload_n q_5_45 rfl ?_
  refine PW.cI q_5_46 (by decide) fun c15 hc15 => ?_
  refine PW.pI q_5_47 (Or.inl t_ft_5_9) gF_9_4 gP_9_4 hk_k0 (gSpS _ _) IM14 (by decide) rfl (n_lo _) (n_hi _) fun M16 IM16 fM16 UM16 => ?_
  have FM16 := Fr.pu FM14 UM16.1 hk_k0 (rfl : List.contains [9, 10, 11, 12] 9 = true)
  refine PW.vret q_5_50 rfl (by decide) (by decide) ?_
  exact hK M16 _ (fun a h => gUp_ne h) (by rw [gUp_eq]; exact hty) IM16 FM16 (TM14.ar UM16.1 hk_k0 (by decide))
theorem c_X5_letRun_w (fs fd : Nat → Value) (G : pG) (Kr : pK) (M : pM) (I : Iv (gSp fs fd) M) (k0 : Nat) (hk_k0 : g_kd k0 = 5) (k1 : Nat) (hk_k1 : g_kd k1 = 4) (a2 : Int32) (hl_a2 : 0 ≤ a2.toInt) (hh_a2 : a2.toInt ≤ 1) (c : Nat) (hp_0 : c = k0 + 9 + 4 * a2.toInt.toNat) (hp_1 : gvi (fd c) ≤ 599) (bw : Nat) (hw : gWb bw M) (hw_0 : o_i (M k0) 0 < 600) (hK : ∀ (M1 : pM) (fd1 : Nat → Value), (∀ a, a ≠ c → fd1 a = fd a) → gvi (fd1 c) ≤ gvi (fd c) + 1 → Iv (gSp fs fd1) M1 → Fr [5, 7, 9, 10, 11, 12, 13] M M1 → gWb bw M1 → Kr.1 none 311 M1) : PW G false 3 60 (p_mc 60) (p_msl 60) Kr 0 (lv_args 0 [.ref k0, .ref k1, .int a2]) [] 311 M 0 0 := by
  have F : Fr [5, 7, 9, 10, 11, 12, 13] M M := Fr.refl
  refine PW.aload_n q_60_0 rfl ?_
  refine PW.gRk q_60_1 (Or.inl t_ft_60_27) gF_5_4 hk_k0 I.1 (by decide) fun b1 hk_b1 e_b1 => ?_
  refine PW.iload_n q_60_4 rfl ?_
  refine PW.aRk q_60_5 rfl (by decide) (by decide) hk_b1 I.1 (by decide) (by omega) (by omega) fun b2 hk_b2 e_b2 => ?_
  obtain rfl : b2 = c := by rw [e_b2, e_b1, hp_0]; show k0 + 8 + 1 + 4 * _ = _; omega
  refine PW.astore_n q_60_6 (by decide) ?_
  refine PW.aload_n q_60_7 rfl ?_
  refine PW.gI q_60_8 (Or.inr t_fN_60_151) gF_9_5 hk_b2 I.1 (by decide) fun x3 fx3 hx3 kx3 => ?_
  clear hx3 kx3
  refine PW.jz_le q_60_11 rfl (fun h4 => ?_) (fun h4 => ?_)
  · skip
    refine PW.aload_n q_60_25 rfl ?_
    refine PW.gI q_60_26 (Or.inr t_fN_60_94) gF_9_4 hk_b2 I.1 (by decide) fun x5 fx5 hx5 kx5 => ?_
    clear hx5 kx5
    refine PW.cI q_60_29 (by decide) fun c6 hc6 => ?_
    have J52_8 : ∀ (MJ52_8 : pM), Iv (gSp fs fd) MJ52_8 → Fr [5, 7, 9, 10, 11, 12, 13] M MJ52_8 → o_f (MJ52_8 b2) 5 = .int x3 → gWb bw MJ52_8 → PW G false 3 60 (p_mc 60) (p_msl 60) Kr 52 [(0, .ref k0), (1, .ref k1), (2, .int a2), (3, .ref b2)] [] 311 MJ52_8 0 0 := by
      intro MJ52_8  IMJ52_8 FMJ52_8 hbJ52_80 hbJ52_81
      refine PW.aload_n q_60_52 rfl ?_
      refine PW.gI q_60_53 (Or.inr t_fN_60_94) gF_9_4 hk_b2 IMJ52_8.1 (by decide) fun x9 fx9 hx9 kx9 => ?_
      clear hx9 kx9
      refine PW.istore q_60_56 (by decide) ?_
      refine PW.iload q_60_58 rfl ?_
      refine PW.jz_lt q_60_60 rfl (fun h10 => ?_) (fun h10 => ?_)
      · skip
        refine PW.vret q_60_182 rfl (by decide) (by decide) ?_
        exact hK MJ52_8 fd (fun _ _ => rfl) (by omega) IMJ52_8 FMJ52_8 hbJ52_81
      · skip
        refine PW.iload q_60_63 rfl ?_
        refine PW.aload_n q_60_65 rfl ?_
        refine PW.gI q_60_66 (Or.inr t_fN_60_117) gF_4_6 hk_k1 IMJ52_8.1 (by decide) fun x11 fx11 hx11 kx11 => ?_
        refine PW.jc_ge q_60_69 rfl (fun h12 => ?_) (fun h12 => ?_)
        · skip
          refine PW.vret q_60_182 rfl (by decide) (by decide) ?_
          exact hK MJ52_8 fd (fun _ _ => rfl) (by omega) IMJ52_8 FMJ52_8 hbJ52_81
        · skip
          refine PW.aload_n q_60_72 rfl ?_
          refine PW.aload_n q_60_73 rfl ?_
          refine PW.gRk q_60_74 (Or.inl t_ft_60_20) gF_5_3 hk_k0 IMJ52_8.1 (by decide) fun b13 hk_b13 e_b13 => ?_
          refine PW.iload q_60_77 rfl ?_
          refine PW.aRk q_60_79 rfl (by decide) (by decide) hk_b13 IMJ52_8.1 (by decide) (by omega) (by omega) fun b14 hk_b14 e_b14 => ?_
          refine PW.gI q_60_80 (Or.inr t_fN_60_76) gF_7_0 hk_b14 IMJ52_8.1 (by decide) fun x15 fx15 hx15 kx15 => ?_
          clear hx15 kx15
          refine PW.cV (as := [_]) (rest := []) q_60_83 t_mv_60_161 hk_b2 IMJ52_8.1 (by decide) rfl (by decide) rfl rfl (Nat.le_of_ble_eq_true rfl) (Nat.le_of_ble_eq_true rfl) (by decide) (by decide) ?_
          refine PW.up (by decide) (c_X0_runTo (gSp fs fd) ((gSpS _ _)) G _ MJ52_8 IMJ52_8 b2 hk_b2 x15 fun x17 M16 IM16 GM16 hx17 kx17 => ?_)
          have FM16 := Fr.trans FMJ52_8 GM16 (rfl)
          refine PW.jz_eq q_60_86 rfl (fun h18 => ?_) (fun h18 => ?_)
          · skip
            refine PW.vret q_60_182 rfl (by decide) (by decide) ?_
            exact hK M16 fd (fun _ _ => rfl) (by omega) IM16 FM16 (hbJ52_81.fr GM16 rfl)
          · skip
            refine PW.aload_n q_60_89 rfl ?_
            refine PW.gRk q_60_90 (Or.inl t_ft_60_32) gF_5_5 hk_k0 IM16.1 (by decide) fun b19 hk_b19 e_b19 => ?_
            refine PW.aload_n q_60_93 rfl ?_
            refine PW.gI q_60_94 (Or.inr t_fN_60_165) gF_9_6 hk_b2 IM16.1 (by decide) fun x20 fx20 hx20 kx20 => ?_
            refine PW.cB q_60_97 (by decide) fun c21 hc21 => ?_
            refine PW.mulN q_60_99 (6) (by omega) x20 (fun h => n_eq.mpr (by omega)) (fun h => n_eq.mpr (by omega)) (by omega) (by omega) fun x22 hx22 => ?_
            refine PW.iload q_60_100 rfl ?_
            refine PW.addN q_60_102 (by have := n_lo x9; have := n_hi x9; omega) (by have := n_lo x9; have := n_hi x9; omega) fun x23 hx23 => ?_
            refine PW.dup2 q_60_103 rfl rfl ?_
            refine PW.aH q_60_104 gA_13 hk_b19 IM16.1 (by decide) (by omega) (by omega) fun x24 fx24 => ?_
            refine PW.cI q_60_105 (by decide) fun c25 hc25 => ?_
            refine PW.addH q_60_106 fun x26 => ?_
            refine PW.wI q_60_107 gA_13 hk_b19 (gSpS _ _) IM16 (by decide) rfl gC_13_0_35 (by decide) (by omega) (by omega) (n_lo _) (n_hi _) fun M27 IM27 fM27 UM27 => ?_
            have FM27 := Fr.pu FM16 UM27.1 hk_b19 (rfl : List.contains [5, 7, 9, 10, 11, 12, 13] 13 = true)
            refine PW.aload_n q_60_108 rfl ?_
            refine PW.iload q_60_109 rfl ?_
            refine PW.aload_n q_60_111 rfl ?_
            refine PW.gI q_60_112 (Or.inl t_ft_60_36) gF_5_0 hk_k0 IM27.1 (by decide) fun x28 fx28 hx28 kx28 => ?_
            refine PW.cV (as := [_, _]) (rest := []) q_60_115 t_mv_60_168 hk_b2 IM27.1 (by decide) rfl (by decide) rfl rfl (Nat.le_of_ble_eq_true rfl) (Nat.le_of_ble_eq_true rfl) (by decide) (by decide) ?_
            refine PW.up (by decide) (c_X0_see_w fs fd G _ M27 IM27 b2 hk_b2 x9 x28 (by omega) bw ((hbJ52_81.fr GM16 rfl).ar UM27.1 hk_b19 (by decide)) (Or.inl (by have w := o_i_of ((I.2.1 k0 hk_k0).trans ((IM27.2.1 k0 hk_k0).symm.trans fx28)); omega)) fun M29 fd30 hnfd30 hvfd30 IM29 GM29 TM29 => ?_)
            have FM29 := Fr.trans FM27 GM29 (rfl)
            refine PW.aload_n q_60_118 rfl ?_
            refine PW.aload_n q_60_119 rfl ?_
            refine PW.gRk q_60_120 (Or.inr t_fN_60_171) gF_4_15 hk_k1 IM29.1 (by decide) fun b31 hk_b31 e_b31 => ?_
            refine PW.iload_n q_60_123 rfl ?_
            refine PW.aH q_60_124 gA_34 hk_b31 IM29.1 (by decide) (by omega) (by omega) fun x32 fx32 => ?_
            refine PW.pI q_60_125 (Or.inr t_fN_60_151) gF_9_5 gP_9_5 hk_b2 (gSpS _ _) IM29 (by decide) rfl (n_lo _) (n_hi _) fun M33 IM33 fM33 UM33 => ?_
            have FM33 := Fr.pu FM29 UM33.1 hk_b2 (rfl : List.contains [5, 7, 9, 10, 11, 12, 13] 9 = true)
            refine PW.aload_n q_60_128 rfl ?_
            refine PW.aload_n q_60_129 rfl ?_
            refine PW.gRk q_60_130 (Or.inr t_fN_60_174) gF_4_17 hk_k1 IM33.1 (by decide) fun b34 hk_b34 e_b34 => ?_
            refine PW.iload_n q_60_133 rfl ?_
            refine PW.aH q_60_134 gA_36 hk_b34 IM33.1 (by decide) (by omega) (by omega) fun x35 fx35 => ?_
            refine PW.cV (as := [_]) (rest := []) q_60_135 t_mv_60_177 hk_b2 IM33.1 (by decide) rfl (by decide) rfl rfl (Nat.le_of_ble_eq_true rfl) (Nat.le_of_ble_eq_true rfl) (by decide) (by decide) ?_
            refine PW.up (by decide) (c_X0_tire (gSp fs fd30) ((gSpS _ _)) G _ M33 IM33 b2 hk_b2 x35 fun M36 IM36 GM36 => ?_)
            have FM36 := Fr.trans FM33 GM36 (rfl)
            refine PW.aload_n q_60_138 rfl ?_
            refine PW.gRk q_60_139 (Or.inl t_ft_60_20) gF_5_3 hk_k0 IM36.1 (by decide) fun b37 hk_b37 e_b37 => ?_
            refine PW.iload q_60_142 rfl ?_
            refine PW.aRk q_60_144 rfl (by decide) (by decide) hk_b37 IM36.1 (by decide) (by omega) (by omega) fun b38 hk_b38 e_b38 => ?_
            refine PW.dup q_60_145 rfl ?_
            refine PW.gI q_60_146 (Or.inr t_fN_60_181) gF_7_5 hk_b38 IM36.1 (by decide) fun x39 fx39 hx39 kx39 => ?_
            clear hx39 kx39
            refine PW.cI q_60_149 (by decide) fun c40 hc40 => ?_
            refine PW.addH q_60_150 fun x41 => ?_
            refine PW.pI q_60_151 (Or.inr t_fN_60_181) gF_7_5 gP_7_5 hk_b38 (gSpS _ _) IM36 (by decide) rfl (n_lo _) (n_hi _) fun M42 IM42 fM42 UM42 => ?_
            have FM42 := Fr.pu FM36 UM42.1 hk_b38 (rfl : List.contains [5, 7, 9, 10, 11, 12, 13] 7 = true)
            refine PW.aload_n q_60_154 rfl ?_
            refine PW.gRk q_60_155 (Or.inl t_ft_60_20) gF_5_3 hk_k0 IM42.1 (by decide) fun b43 hk_b43 e_b43 => ?_
            refine PW.iload q_60_158 rfl ?_
            refine PW.aRk q_60_160 rfl (by decide) (by decide) hk_b43 IM42.1 (by decide) (by omega) (by omega) fun b44 hk_b44 e_b44 => ?_
            refine PW.aload_n q_60_161 rfl ?_
            refine PW.gE q_60_162 (Or.inl t_ft_60_36) gF_5_0 hk_k0 IM42.1 (by decide) ((UM42.f (Or.inl (g_ne hk_k0 hk_b38 (by decide)))).trans ((congrArg (fun e => o_f e 0) (Fr.at GM36 hk_k0 (by decide))).trans ((UM33.f (Or.inl (g_ne hk_k0 hk_b2 (by decide)))).trans ((congrArg (fun e => o_f e 0) (Fr.at GM29 hk_k0 (by decide))).trans fx28)))) ?_
            refine PW.pI q_60_165 (Or.inr t_fN_60_136) gF_7_7 gP_7_7 hk_b44 (gSpS _ _) IM42 (by decide) rfl (n_lo _) (n_hi _) fun M45 IM45 fM45 UM45 => ?_
            have FM45 := Fr.pu FM42 UM45.1 hk_b44 (rfl : List.contains [5, 7, 9, 10, 11, 12, 13] 7 = true)
            refine PW.aload_n q_60_168 rfl ?_
            refine PW.gI q_60_169 (Or.inl t_ft_60_9) gF_5_1 hk_k0 IM45.1 (by decide) fun x46 fx46 hx46 kx46 => ?_
            clear hx46 kx46
            refine PW.iload q_60_172 rfl ?_
            refine PW.jc_ne q_60_174 rfl (fun h47 => ?_) (fun h47 => ?_)
            · skip
              refine PW.vret q_60_182 rfl (by decide) (by decide) ?_
              exact hK M45 fd30 hnfd30 (by omega) IM45 FM45 ((((TM29.ar UM33.1 hk_b2 (by decide)).fr GM36 rfl).ar UM42.1 hk_b38 (by decide)).ar UM45.1 hk_b44 (by decide))
            · skip
              refine PW.aload_n q_60_177 rfl ?_
              refine PW.cI q_60_178 (by decide) fun c48 hc48 => ?_
              refine PW.pI q_60_179 (Or.inl t_ft_60_9) gF_5_1 gP_5_1 hk_k0 (gSpS _ _) IM45 (by decide) rfl (n_lo _) (n_hi _) fun M49 IM49 fM49 UM49 => ?_
              have FM49 := Fr.pu FM45 UM49.1 hk_k0 (rfl : List.contains [5, 7, 9, 10, 11, 12, 13] 5 = true)
              refine PW.vret q_60_182 rfl (by decide) (by decide) ?_
              exact hK M49 fd30 hnfd30 (by omega) IM49 FM49 (((((TM29.ar UM33.1 hk_b2 (by decide)).fr GM36 rfl).ar UM42.1 hk_b38 (by decide)).ar UM45.1 hk_b44 (by decide)).ar UM49.1 hk_k0 (by decide))
    refine PW.jc_ne q_60_30 rfl (fun h7 => ?_) (fun h7 => ?_)
    · skip
      exact PW.lvS (lk1 rfl (lk1 rfl (lk1 rfl (lk1 rfl lk0)))) (J52_8 M  I F fx3 hw)
    · skip
      refine PW.aload_n q_60_33 rfl ?_
      refine PW.aload_n q_60_34 rfl ?_
      refine PW.aload_n q_60_35 rfl ?_
      refine PW.gI q_60_36 (Or.inr t_fN_60_117) gF_4_6 hk_k1 I.1 (by decide) fun x50 fx50 hx50 kx50 => ?_
      refine PW.aload_n q_60_39 rfl ?_
      refine PW.aload_n q_60_40 rfl ?_
      refine PW.gRk q_60_41 (Or.inr t_fN_60_154) gF_4_16 hk_k1 I.1 (by decide) fun b51 hk_b51 e_b51 => ?_
      refine PW.iload_n q_60_44 rfl ?_
      refine PW.aH q_60_45 gA_35 hk_b51 I.1 (by decide) (by omega) (by omega) fun x52 fx52 => ?_
      refine PW.cV (as := [_, _, _]) (rest := [_]) q_60_46 t_mv_60_157 hk_k0 I.1 (by decide) rfl (by decide) rfl rfl (Nat.le_of_ble_eq_true rfl) (Nat.le_of_ble_eq_true rfl) (by decide) (by decide) ?_
      refine PW.up (by decide) (c_X5_choice (gSp fs fd) ((gSpS _ _)) G _ M I k0 hk_k0 x50 b2 hk_b2 x52 (by omega) (by omega) fun x54 M53 IM53 GM53 => ?_)
      have FM53 := Fr.trans F GM53 (rfl)
      refine PW.pI q_60_49 (Or.inr t_fN_60_94) gF_9_4 gP_9_4 hk_b2 (gSpS _ _) IM53 (by decide) rfl (n_lo _) (n_hi _) fun M55 IM55 fM55 UM55 => ?_
      have FM55 := Fr.pu FM53 UM55.1 hk_b2 (rfl : List.contains [5, 7, 9, 10, 11, 12, 13] 9 = true)
      exact PW.lvS (lk1 rfl (lk1 rfl (lk1 rfl (lk1 rfl lk0)))) (J52_8 M55  IM55 FM55 ((UM55.f (Or.inr (by decide))).trans ((congrArg (fun e => o_f e 5) (Fr.at GM53 hk_b2 (by decide))).trans fx3)) ((hw.fr GM53 rfl).ar UM55.1 hk_b2 (by decide)))
  · skip
    refine PW.aload_n q_60_14 rfl ?_
    refine PW.dup q_60_15 rfl ?_
    refine PW.gE q_60_16 (Or.inr t_fN_60_151) gF_9_5 hk_b2 I.1 (by decide) fx3 ?_
    refine PW.cI q_60_19 (by decide) fun c56 hc56 => ?_
    refine PW.subN q_60_20 (by have := n_lo x3; have := n_hi x3; omega) (by have := n_lo x3; have := n_hi x3; omega) fun x57 hx57 => ?_
    refine PW.pI q_60_21 (Or.inr t_fN_60_151) gF_9_5 gP_9_5 hk_b2 (gSpS _ _) I (by decide) rfl (n_lo _) (n_hi _) fun M58 IM58 fM58 UM58 => ?_
    have FM58 := Fr.pu F UM58.1 hk_b2 (rfl : List.contains [5, 7, 9, 10, 11, 12, 13] 9 = true)
    refine PW.vret q_60_24 rfl (by decide) (by decide) ?_
    exact hK M58 fd (fun _ _ => rfl) (by omega) IM58 FM58 (hw.ar UM58.1 hk_b2 (by decide))
theorem c_X5_pass_w (G : pG) (Kr : pK) (M : pM) (I : Iv gTT M) (k0 : Nat) (hk_k0 : g_kd k0 = 5) (k1 : Nat) (hk_k1 : g_kd k1 = 4) (bw : Nat) (hw : gWb bw M) (hK : ∀ (x : Int32) (M1 : pM), Iv gTT M1 → Fr [5, 7, 9, 10, 11, 12, 13] M M1 → 0 ≤ x.toInt → x.toInt ≤ 1 → (gWb bw M1) → Kr.1 (some (.int x)) 311 M1) : PW G false 4 56 (p_mc 56) (p_msl 56) Kr 0 (lv_args 0 [.ref k0, .ref k1]) [] 311 M 0 0 := by
  have F : Fr [5, 7, 9, 10, 11, 12, 13] M M := Fr.refl
  refine PW.aload_n q_56_0 rfl ?_
  refine PW.gI q_56_1 (Or.inl t_ft_56_36) gF_5_0 hk_k0 I.1 (by decide) fun x1 fx1 hx1 kx1 => ?_
  refine PW.cS q_56_4 (by decide) fun c2 hc2 => ?_
  refine PW.jc_lt q_56_7 rfl (fun h3 => ?_) (fun h3 => ?_)
  · skip
    have Q4 := gSp.of I
    refine PW.cI q_56_12 (by decide) fun c5 hc5 => ?_
    refine PW.istore_n q_56_13 (by decide) ?_
    have L56_14_6 : ∀ (n : Nat) (ML56_14_6 : pM) (v7 : Int32), Iv (gSp (gFs M) (gFd M)) ML56_14_6 → Fr [5, 7, 9, 10, 11, 12, 13] M ML56_14_6 → 0 ≤ v7.toInt → v7.toInt ≤ 6 → gWb bw ML56_14_6 → (6 - v7.toInt).toNat = n → PW G false 4 56 (p_mc 56) (p_msl 56) Kr 14 [(0, .ref k0), (1, .ref k1), (2, .int v7)] [] 311 ML56_14_6 0 0 := by
      intro n
      induction n using Nat.strongRecOn with
      | ind n ih_L56_14_6 =>
      intro ML56_14_6 v7 IML56_14_6 FML56_14_6 hbL56_14_60 hbL56_14_61 hbL56_14_62 hmL56_14_6
      refine PW.iload_n q_56_14 rfl ?_
      refine PW.aload_n q_56_15 rfl ?_
      refine PW.gI q_56_16 (Or.inr t_fN_56_117) gF_4_6 hk_k1 IML56_14_6.1 (by decide) fun x8 fx8 hx8 kx8 => ?_
      refine PW.jc_ge q_56_19 rfl (fun h9 => ?_) (fun h9 => ?_)
      · skip
        refine PW.cI q_56_47 (by decide) fun c10 hc10 => ?_
        refine PW.istore_n q_56_48 (by decide) ?_
        refine PW.iload_n q_56_49 rfl ?_
        refine PW.aload_n q_56_50 rfl ?_
        refine PW.gI q_56_51 (Or.inr t_fN_56_52) gF_4_7 hk_k1 IML56_14_6.1 (by decide) fun x11 fx11 hx11 kx11 => ?_
        refine PW.jc_ge q_56_54 rfl (fun h12 => ?_) (fun h12 => ?_)
        · skip
          refine PW.cI q_56_69 (by decide) fun c13 hc13 => ?_
          refine PW.istore_n q_56_70 (by decide) ?_
          have L56_71_14 : ∀ (n : Nat) (ML56_71_14 : pM) (v15 : Int32), Iv (gSp (gFs M) (gFd M)) ML56_71_14 → Fr [5, 7, 9, 10, 11, 12, 13] M ML56_71_14 → 0 ≤ v15.toInt → v15.toInt ≤ 6 → gWb bw ML56_71_14 → (6 - v15.toInt).toNat = n → PW G false 4 56 (p_mc 56) (p_msl 56) Kr 71 [(0, .ref k0), (1, .ref k1), (2, .int v15)] [] 311 ML56_71_14 0 0 := by
            intro n
            induction n using Nat.strongRecOn with
            | ind n ih_L56_71_14 =>
            intro ML56_71_14 v15 IML56_71_14 FML56_71_14 hbL56_71_140 hbL56_71_141 hbL56_71_142 hmL56_71_14
            refine PW.iload_n q_56_71 rfl ?_
            refine PW.aload_n q_56_72 rfl ?_
            refine PW.gI q_56_73 (Or.inr t_fN_56_117) gF_4_6 hk_k1 IML56_71_14.1 (by decide) fun x16 fx16 hx16 kx16 => ?_
            refine PW.jc_ge q_56_76 rfl (fun h17 => ?_) (fun h17 => ?_)
            · skip
              refine PW.aload_n q_56_128 rfl ?_
              refine PW.dup q_56_129 rfl ?_
              refine PW.gI q_56_130 (Or.inl t_ft_56_36) gF_5_0 hk_k0 IML56_71_14.1 (by decide) fun x18 fx18 hx18 kx18 => ?_
              have hzx18 : x18.toInt = x1.toInt := by have q : (Value.int x18) = .int x1 := (fx18.symm.trans (IML56_71_14.2.1 k0 hk_k0)).trans fx1; cases q; rfl
              refine PW.cI q_56_133 (by decide) fun c19 hc19 => ?_
              refine PW.addN q_56_134 (by omega) (by omega) fun x20 hx20 => ?_
              refine PW.pC q_56_135 (Or.inl t_ft_56_36) gF_5_0 gP_5_0 hk_k0 IML56_71_14 (by decide) ⟨rfl, rfl⟩ (by omega) (by omega) fun M21 IM21 fM21 UM21 => ?_
              have FM21 := Fr.pu FML56_71_14 UM21.1 hk_k0 (rfl : List.contains [5, 7, 9, 10, 11, 12, 13] 5 = true)
              refine PW.cI q_56_138 (by decide) fun c22 hc22 => ?_
              refine PW.rZ q_56_139 rfl (by omega) (by omega) (by decide) (by decide) ?_
              have T23 : gTT M21 := by
                have qT := I.2.1 k0 hk_k0
                rw [o_i_gvi, o_i_gvi, o_i_gvi, fx1] at qT
                have q1 : gvi (gFd M (k0 + 9)) ≤ x1.toInt := qT.1
                have q2 : gvi (gFd M (k0 + 13)) ≤ x1.toInt := qT.2
                have qz : x20.toInt = x1.toInt + 1 := by omega
                refine gSp.T (k := k0) I.2.1 IM21.2 hk_k0 (fun a h => gUp_ne h) (fun a h h13 => ?_) ?_ ?_
                · rfl
                · rw [gUp_eq]; show _ ≤ x20.toInt; omega
                · rw [gUp_eq]; show _ ≤ x20.toInt; omega
              exact hK c22 M21 ⟨IM21.1, T23⟩ FM21 (by omega) (by omega) (hbL56_71_142.ar UM21.1 hk_k0 (by decide))
            · skip
              refine PW.aload_n q_56_79 rfl ?_
              refine PW.gRk q_56_80 (Or.inl t_ft_56_20) gF_5_3 hk_k0 IML56_71_14.1 (by decide) fun b24 hk_b24 e_b24 => ?_
              refine PW.iload_n q_56_83 rfl ?_
              refine PW.aRk q_56_84 rfl (by decide) (by decide) hk_b24 IML56_71_14.1 (by decide) (by omega) (by omega) fun b25 hk_b25 e_b25 => ?_
              refine PW.aload_n q_56_85 rfl ?_
              refine PW.gI q_56_86 (Or.inr t_fN_56_133) gF_4_3 hk_k1 IML56_71_14.1 (by decide) fun x26 fx26 hx26 kx26 => ?_
              clear hx26 kx26
              refine PW.cI q_56_89 (by decide) fun c27 hc27 => ?_
              have J118_29 : ∀ (MJ118_29 : pM), Iv (gSp (gFs M) (gFd M)) MJ118_29 → Fr [5, 7, 9, 10, 11, 12, 13] M MJ118_29 → o_f (MJ118_29 k1) 6 = .int x16 → o_f (MJ118_29 k1) 3 = .int x26 → gWb bw MJ118_29 → PW G false 4 56 (p_mc 56) (p_msl 56) Kr 118 [(0, .ref k0), (1, .ref k1), (2, .int v15)] [.ref b25] 311 MJ118_29 0 0 := by
                intro MJ118_29  IMJ118_29 FMJ118_29 hbJ118_290 hbJ118_291 hbJ118_292
                refine PW.cI q_56_118 (by decide) fun c30 hc30 => ?_
                refine PW.pI q_56_119 (Or.inr t_fN_56_84) gF_7_3 gP_7_3 hk_b25 (gSpS _ _) IMJ118_29 (by decide) rfl (by omega) (by omega) fun M31 IM31 fM31 UM31 => ?_
                have FM31 := Fr.pu FMJ118_29 UM31.1 hk_b25 (rfl : List.contains [5, 7, 9, 10, 11, 12, 13] 7 = true)
                refine PW.incN q_56_122 rfl (by decide) (by decide) (by omega) (by omega) fun x32 hx32 => ?_
                refine PW.goto q_56_125 rfl ?_
                refine PW.lvS (lk1 rfl (lk1 rfl (lk1 rfl lk0))) (ih_L56_71_14 _ ?_ M31 x32 IM31 FM31 (by omega) (by omega) (hbJ118_292.ar UM31.1 hk_b25 (by decide)) rfl)
                omega
              refine PW.jc_eq q_56_90 rfl (fun h28 => ?_) (fun h28 => ?_)
              · skip
                exact PW.lvS (lk1 rfl (lk1 rfl (lk1 rfl lk0))) (J118_29 ML56_71_14  IML56_71_14 FML56_71_14 fx16 fx26 hbL56_71_142)
              · skip
                refine PW.aload_n q_56_93 rfl ?_
                refine PW.gI q_56_94 (Or.inl t_ft_56_36) gF_5_0 hk_k0 IML56_71_14.1 (by decide) fun x33 fx33 hx33 kx33 => ?_
                refine PW.aload_n q_56_97 rfl ?_
                refine PW.gRk q_56_98 (Or.inl t_ft_56_20) gF_5_3 hk_k0 IML56_71_14.1 (by decide) fun b34 hk_b34 e_b34 => ?_
                refine PW.iload_n q_56_101 rfl ?_
                refine PW.aRk q_56_102 rfl (by decide) (by decide) hk_b34 IML56_71_14.1 (by decide) (by omega) (by omega) fun b35 hk_b35 e_b35 => ?_
                refine PW.gI q_56_103 (Or.inr t_fN_56_136) gF_7_7 hk_b35 IML56_71_14.1 (by decide) fun x36 fx36 hx36 kx36 => ?_
                clear hx36 kx36
                refine PW.subH q_56_106 fun x37 => ?_
                refine PW.aload_n q_56_107 rfl ?_
                refine PW.gE q_56_108 (Or.inr t_fN_56_133) gF_4_3 hk_k1 IML56_71_14.1 (by decide) fx26 ?_
                refine PW.jc_lt q_56_111 rfl (fun h38 => ?_) (fun h38 => ?_)
                · skip
                  exact PW.lvS (lk1 rfl (lk1 rfl (lk1 rfl lk0))) (J118_29 ML56_71_14  IML56_71_14 FML56_71_14 fx16 fx26 hbL56_71_142)
                · skip
                  refine PW.cI q_56_114 (by decide) fun c39 hc39 => ?_
                  refine PW.goto q_56_115 rfl ?_
                  refine PW.pI q_56_119 (Or.inr t_fN_56_84) gF_7_3 gP_7_3 hk_b25 (gSpS _ _) IML56_71_14 (by decide) rfl (by omega) (by omega) fun M40 IM40 fM40 UM40 => ?_
                  have FM40 := Fr.pu FML56_71_14 UM40.1 hk_b25 (rfl : List.contains [5, 7, 9, 10, 11, 12, 13] 7 = true)
                  refine PW.incN q_56_122 rfl (by decide) (by decide) (by omega) (by omega) fun x41 hx41 => ?_
                  refine PW.goto q_56_125 rfl ?_
                  refine PW.lvS (lk1 rfl (lk1 rfl (lk1 rfl lk0))) (ih_L56_71_14 _ ?_ M40 x41 IM40 FM40 (by omega) (by omega) (hbL56_71_142.ar UM40.1 hk_b25 (by decide)) rfl)
                  omega
          exact PW.lvS (lk1 rfl (lk1 rfl (lk1 rfl lk0))) (L56_71_14 _ ML56_14_6 c13 IML56_14_6 FML56_14_6 (by omega) (by omega) hbL56_14_62 rfl)
        · skip
          refine PW.aload_n q_56_57 rfl ?_
          refine PW.aload_n q_56_58 rfl ?_
          refine PW.iload_n q_56_59 rfl ?_
          refine PW.cV (as := [_, _]) (rest := []) q_56_60 t_mv_56_129 hk_k0 IML56_14_6.1 (by decide) rfl (by decide) rfl rfl (Nat.le_of_ble_eq_true rfl) (Nat.le_of_ble_eq_true rfl) (by decide) (by decide) ?_
          refine PW.up (by decide) (c_X5_letRun_w (gFs M) (gFd M) G _ ML56_14_6 IML56_14_6 k0 hk_k0 k1 hk_k1 c10 (by omega) (by omega) (k0 + 9) (by omega) (by show gvi (o_f (M (k0 + 9)) 3) ≤ 599; have q := (I.2.1 k0 hk_k0).1; rw [o_i_gvi, o_i_gvi, fx1] at q; exact Int.le_trans q (by show x1.toInt ≤ 599; omega)) bw hbL56_14_62 (by have w := o_i_of ((IML56_14_6.2.1 k0 hk_k0).trans fx1); omega) fun M42 fd43 hnfd43 hvfd43 IM42 GM42 TM42 => ?_)
          have FM42 := Fr.trans FML56_14_6 GM42 (rfl)
          refine PW.incN q_56_63 rfl (by decide) (by decide) (by omega) (by omega) fun x44 hx44 => ?_
          refine PW.goto q_56_66 rfl ?_
          refine PW.iload_n q_56_49 rfl ?_
          refine PW.aload_n q_56_50 rfl ?_
          refine PW.gE q_56_51 (Or.inr t_fN_56_52) gF_4_7 hk_k1 IM42.1 (by decide) ((congrArg (fun e => o_f e 7) (Fr.at GM42 hk_k1 (by decide))).trans fx11) ?_
          refine PW.jc_ge q_56_54 rfl (fun h45 => ?_) (fun h45 => ?_)
          · skip
            refine PW.cI q_56_69 (by decide) fun c46 hc46 => ?_
            refine PW.istore_n q_56_70 (by decide) ?_
            have L56_71_47 : ∀ (n : Nat) (ML56_71_47 : pM) (v48 : Int32), Iv (gSp (gFs M) fd43) ML56_71_47 → Fr [5, 7, 9, 10, 11, 12, 13] M ML56_71_47 → 0 ≤ v48.toInt → v48.toInt ≤ 6 → gWb bw ML56_71_47 → (6 - v48.toInt).toNat = n → PW G false 4 56 (p_mc 56) (p_msl 56) Kr 71 [(0, .ref k0), (1, .ref k1), (2, .int v48)] [] 311 ML56_71_47 0 0 := by
              intro n
              induction n using Nat.strongRecOn with
              | ind n ih_L56_71_47 =>
              intro ML56_71_47 v48 IML56_71_47 FML56_71_47 hbL56_71_470 hbL56_71_471 hbL56_71_472 hmL56_71_47
              refine PW.iload_n q_56_71 rfl ?_
              refine PW.aload_n q_56_72 rfl ?_
              refine PW.gI q_56_73 (Or.inr t_fN_56_117) gF_4_6 hk_k1 IML56_71_47.1 (by decide) fun x49 fx49 hx49 kx49 => ?_
              refine PW.jc_ge q_56_76 rfl (fun h50 => ?_) (fun h50 => ?_)
              · skip
                refine PW.aload_n q_56_128 rfl ?_
                refine PW.dup q_56_129 rfl ?_
                refine PW.gI q_56_130 (Or.inl t_ft_56_36) gF_5_0 hk_k0 IML56_71_47.1 (by decide) fun x51 fx51 hx51 kx51 => ?_
                have hzx51 : x51.toInt = x1.toInt := by have q : (Value.int x51) = .int x1 := (fx51.symm.trans (IML56_71_47.2.1 k0 hk_k0)).trans fx1; cases q; rfl
                refine PW.cI q_56_133 (by decide) fun c52 hc52 => ?_
                refine PW.addN q_56_134 (by omega) (by omega) fun x53 hx53 => ?_
                refine PW.pC q_56_135 (Or.inl t_ft_56_36) gF_5_0 gP_5_0 hk_k0 IML56_71_47 (by decide) ⟨rfl, rfl⟩ (by omega) (by omega) fun M54 IM54 fM54 UM54 => ?_
                have FM54 := Fr.pu FML56_71_47 UM54.1 hk_k0 (rfl : List.contains [5, 7, 9, 10, 11, 12, 13] 5 = true)
                refine PW.cI q_56_138 (by decide) fun c55 hc55 => ?_
                refine PW.rZ q_56_139 rfl (by omega) (by omega) (by decide) (by decide) ?_
                have T56 : gTT M54 := by
                  have qT := I.2.1 k0 hk_k0
                  rw [o_i_gvi, o_i_gvi, o_i_gvi, fx1] at qT
                  have q1 : gvi (gFd M (k0 + 9)) ≤ x1.toInt := qT.1
                  have q2 : gvi (gFd M (k0 + 13)) ≤ x1.toInt := qT.2
                  have qz : x53.toInt = x1.toInt + 1 := by omega
                  have r0 : gvi (fd43 (k0 + 13)) = gvi ((gFd M) (k0 + 13)) := by rw [hnfd43 (k0 + 13) (by omega)]
                  refine gSp.T (k := k0) I.2.1 IM54.2 hk_k0 (fun a h => gUp_ne h) (fun a h h13 => ?_) ?_ ?_
                  · rw [hnfd43 a h]
                  · rw [gUp_eq]; show _ ≤ x53.toInt; omega
                  · rw [gUp_eq]; show _ ≤ x53.toInt; omega
                exact hK c55 M54 ⟨IM54.1, T56⟩ FM54 (by omega) (by omega) (hbL56_71_472.ar UM54.1 hk_k0 (by decide))
              · skip
                refine PW.aload_n q_56_79 rfl ?_
                refine PW.gRk q_56_80 (Or.inl t_ft_56_20) gF_5_3 hk_k0 IML56_71_47.1 (by decide) fun b57 hk_b57 e_b57 => ?_
                refine PW.iload_n q_56_83 rfl ?_
                refine PW.aRk q_56_84 rfl (by decide) (by decide) hk_b57 IML56_71_47.1 (by decide) (by omega) (by omega) fun b58 hk_b58 e_b58 => ?_
                refine PW.aload_n q_56_85 rfl ?_
                refine PW.gI q_56_86 (Or.inr t_fN_56_133) gF_4_3 hk_k1 IML56_71_47.1 (by decide) fun x59 fx59 hx59 kx59 => ?_
                clear hx59 kx59
                refine PW.cI q_56_89 (by decide) fun c60 hc60 => ?_
                have J118_62 : ∀ (MJ118_62 : pM), Iv (gSp (gFs M) fd43) MJ118_62 → Fr [5, 7, 9, 10, 11, 12, 13] M MJ118_62 → o_f (MJ118_62 k1) 6 = .int x49 → o_f (MJ118_62 k1) 3 = .int x59 → gWb bw MJ118_62 → PW G false 4 56 (p_mc 56) (p_msl 56) Kr 118 [(0, .ref k0), (1, .ref k1), (2, .int v48)] [.ref b58] 311 MJ118_62 0 0 := by
                  intro MJ118_62  IMJ118_62 FMJ118_62 hbJ118_620 hbJ118_621 hbJ118_622
                  refine PW.cI q_56_118 (by decide) fun c63 hc63 => ?_
                  refine PW.pI q_56_119 (Or.inr t_fN_56_84) gF_7_3 gP_7_3 hk_b58 (gSpS _ _) IMJ118_62 (by decide) rfl (by omega) (by omega) fun M64 IM64 fM64 UM64 => ?_
                  have FM64 := Fr.pu FMJ118_62 UM64.1 hk_b58 (rfl : List.contains [5, 7, 9, 10, 11, 12, 13] 7 = true)
                  refine PW.incN q_56_122 rfl (by decide) (by decide) (by omega) (by omega) fun x65 hx65 => ?_
                  refine PW.goto q_56_125 rfl ?_
                  refine PW.lvS (lk1 rfl (lk1 rfl (lk1 rfl lk0))) (ih_L56_71_47 _ ?_ M64 x65 IM64 FM64 (by omega) (by omega) (hbJ118_622.ar UM64.1 hk_b58 (by decide)) rfl)
                  omega
                refine PW.jc_eq q_56_90 rfl (fun h61 => ?_) (fun h61 => ?_)
                · skip
                  exact PW.lvS (lk1 rfl (lk1 rfl (lk1 rfl lk0))) (J118_62 ML56_71_47  IML56_71_47 FML56_71_47 fx49 fx59 hbL56_71_472)
                · skip
                  refine PW.aload_n q_56_93 rfl ?_
                  refine PW.gI q_56_94 (Or.inl t_ft_56_36) gF_5_0 hk_k0 IML56_71_47.1 (by decide) fun x66 fx66 hx66 kx66 => ?_
                  refine PW.aload_n q_56_97 rfl ?_
                  refine PW.gRk q_56_98 (Or.inl t_ft_56_20) gF_5_3 hk_k0 IML56_71_47.1 (by decide) fun b67 hk_b67 e_b67 => ?_
                  refine PW.iload_n q_56_101 rfl ?_
                  refine PW.aRk q_56_102 rfl (by decide) (by decide) hk_b67 IML56_71_47.1 (by decide) (by omega) (by omega) fun b68 hk_b68 e_b68 => ?_
                  refine PW.gI q_56_103 (Or.inr t_fN_56_136) gF_7_7 hk_b68 IML56_71_47.1 (by decide) fun x69 fx69 hx69 kx69 => ?_
                  clear hx69 kx69
                  refine PW.subH q_56_106 fun x70 => ?_
                  refine PW.aload_n q_56_107 rfl ?_
                  refine PW.gE q_56_108 (Or.inr t_fN_56_133) gF_4_3 hk_k1 IML56_71_47.1 (by decide) fx59 ?_
                  refine PW.jc_lt q_56_111 rfl (fun h71 => ?_) (fun h71 => ?_)
                  · skip
                    exact PW.lvS (lk1 rfl (lk1 rfl (lk1 rfl lk0))) (J118_62 ML56_71_47  IML56_71_47 FML56_71_47 fx49 fx59 hbL56_71_472)
                  · skip
                    refine PW.cI q_56_114 (by decide) fun c72 hc72 => ?_
                    refine PW.goto q_56_115 rfl ?_
                    refine PW.pI q_56_119 (Or.inr t_fN_56_84) gF_7_3 gP_7_3 hk_b58 (gSpS _ _) IML56_71_47 (by decide) rfl (by omega) (by omega) fun M73 IM73 fM73 UM73 => ?_
                    have FM73 := Fr.pu FML56_71_47 UM73.1 hk_b58 (rfl : List.contains [5, 7, 9, 10, 11, 12, 13] 7 = true)
                    refine PW.incN q_56_122 rfl (by decide) (by decide) (by omega) (by omega) fun x74 hx74 => ?_
                    refine PW.goto q_56_125 rfl ?_
                    refine PW.lvS (lk1 rfl (lk1 rfl (lk1 rfl lk0))) (ih_L56_71_47 _ ?_ M73 x74 IM73 FM73 (by omega) (by omega) (hbL56_71_472.ar UM73.1 hk_b58 (by decide)) rfl)
                    omega
            exact PW.lvS (lk1 rfl (lk1 rfl (lk1 rfl lk0))) (L56_71_47 _ M42 c46 IM42 FM42 (by omega) (by omega) TM42 rfl)
          · skip
            refine PW.aload_n q_56_57 rfl ?_
            refine PW.aload_n q_56_58 rfl ?_
            refine PW.iload_n q_56_59 rfl ?_
            refine PW.cV (as := [_, _]) (rest := []) q_56_60 t_mv_56_129 hk_k0 IM42.1 (by decide) rfl (by decide) rfl rfl (Nat.le_of_ble_eq_true rfl) (Nat.le_of_ble_eq_true rfl) (by decide) (by decide) ?_
            refine PW.up (by decide) (c_X5_letRun_w (gFs M) fd43 G _ M42 IM42 k0 hk_k0 k1 hk_k1 x44 (by omega) (by omega) (k0 + 13) (by omega) (by rw [hnfd43 (k0 + 13) (by omega)]; show gvi (o_f (M (k0 + 13)) 3) ≤ 599; have q := (I.2.1 k0 hk_k0).2; rw [o_i_gvi, o_i_gvi, fx1] at q; exact Int.le_trans q (by show x1.toInt ≤ 599; omega)) bw TM42 (by have w := o_i_of ((IM42.2.1 k0 hk_k0).trans fx1); omega) fun M75 fd76 hnfd76 hvfd76 IM75 GM75 TM75 => ?_)
            have FM75 := Fr.trans FM42 GM75 (rfl)
            refine PW.incN q_56_63 rfl (by decide) (by decide) (by omega) (by omega) fun x77 hx77 => ?_
            refine PW.goto q_56_66 rfl ?_
            refine PW.iload_n q_56_49 rfl ?_
            refine PW.aload_n q_56_50 rfl ?_
            refine PW.gE q_56_51 (Or.inr t_fN_56_52) gF_4_7 hk_k1 IM75.1 (by decide) ((congrArg (fun e => o_f e 7) (Fr.at GM75 hk_k1 (by decide))).trans ((congrArg (fun e => o_f e 7) (Fr.at GM42 hk_k1 (by decide))).trans fx11)) ?_
            refine PW.jc_ge q_56_54 rfl (fun h78 => ?_) (fun h78 => False.elim (by omega))
            refine PW.cI q_56_69 (by decide) fun c79 hc79 => ?_
            refine PW.istore_n q_56_70 (by decide) ?_
            have L56_71_80 : ∀ (n : Nat) (ML56_71_80 : pM) (v81 : Int32), Iv (gSp (gFs M) fd76) ML56_71_80 → Fr [5, 7, 9, 10, 11, 12, 13] M ML56_71_80 → 0 ≤ v81.toInt → v81.toInt ≤ 6 → gWb bw ML56_71_80 → (6 - v81.toInt).toNat = n → PW G false 4 56 (p_mc 56) (p_msl 56) Kr 71 [(0, .ref k0), (1, .ref k1), (2, .int v81)] [] 311 ML56_71_80 0 0 := by
              intro n
              induction n using Nat.strongRecOn with
              | ind n ih_L56_71_80 =>
              intro ML56_71_80 v81 IML56_71_80 FML56_71_80 hbL56_71_800 hbL56_71_801 hbL56_71_802 hmL56_71_80
              refine PW.iload_n q_56_71 rfl ?_
              refine PW.aload_n q_56_72 rfl ?_
              refine PW.gI q_56_73 (Or.inr t_fN_56_117) gF_4_6 hk_k1 IML56_71_80.1 (by decide) fun x82 fx82 hx82 kx82 => ?_
              refine PW.jc_ge q_56_76 rfl (fun h83 => ?_) (fun h83 => ?_)
              · skip
                refine PW.aload_n q_56_128 rfl ?_
                refine PW.dup q_56_129 rfl ?_
                refine PW.gI q_56_130 (Or.inl t_ft_56_36) gF_5_0 hk_k0 IML56_71_80.1 (by decide) fun x84 fx84 hx84 kx84 => ?_
                have hzx84 : x84.toInt = x1.toInt := by have q : (Value.int x84) = .int x1 := (fx84.symm.trans (IML56_71_80.2.1 k0 hk_k0)).trans fx1; cases q; rfl
                refine PW.cI q_56_133 (by decide) fun c85 hc85 => ?_
                refine PW.addN q_56_134 (by omega) (by omega) fun x86 hx86 => ?_
                refine PW.pC q_56_135 (Or.inl t_ft_56_36) gF_5_0 gP_5_0 hk_k0 IML56_71_80 (by decide) ⟨rfl, rfl⟩ (by omega) (by omega) fun M87 IM87 fM87 UM87 => ?_
                have FM87 := Fr.pu FML56_71_80 UM87.1 hk_k0 (rfl : List.contains [5, 7, 9, 10, 11, 12, 13] 5 = true)
                refine PW.cI q_56_138 (by decide) fun c88 hc88 => ?_
                refine PW.rZ q_56_139 rfl (by omega) (by omega) (by decide) (by decide) ?_
                have T89 : gTT M87 := by
                  have qT := I.2.1 k0 hk_k0
                  rw [o_i_gvi, o_i_gvi, o_i_gvi, fx1] at qT
                  have q1 : gvi (gFd M (k0 + 9)) ≤ x1.toInt := qT.1
                  have q2 : gvi (gFd M (k0 + 13)) ≤ x1.toInt := qT.2
                  have qz : x86.toInt = x1.toInt + 1 := by omega
                  have r0 : gvi (fd43 (k0 + 13)) = gvi ((gFd M) (k0 + 13)) := by rw [hnfd43 (k0 + 13) (by omega)]
                  have r1 : gvi (fd76 (k0 + 9)) = gvi (fd43 (k0 + 9)) := by rw [hnfd76 (k0 + 9) (by omega)]
                  refine gSp.T (k := k0) I.2.1 IM87.2 hk_k0 (fun a h => gUp_ne h) (fun a h h13 => ?_) ?_ ?_
                  · rw [hnfd76 a h13, hnfd43 a h]
                  · rw [gUp_eq]; show _ ≤ x86.toInt; omega
                  · rw [gUp_eq]; show _ ≤ x86.toInt; omega
                exact hK c88 M87 ⟨IM87.1, T89⟩ FM87 (by omega) (by omega) (hbL56_71_802.ar UM87.1 hk_k0 (by decide))
              · skip
                refine PW.aload_n q_56_79 rfl ?_
                refine PW.gRk q_56_80 (Or.inl t_ft_56_20) gF_5_3 hk_k0 IML56_71_80.1 (by decide) fun b90 hk_b90 e_b90 => ?_
                refine PW.iload_n q_56_83 rfl ?_
                refine PW.aRk q_56_84 rfl (by decide) (by decide) hk_b90 IML56_71_80.1 (by decide) (by omega) (by omega) fun b91 hk_b91 e_b91 => ?_
                refine PW.aload_n q_56_85 rfl ?_
                refine PW.gI q_56_86 (Or.inr t_fN_56_133) gF_4_3 hk_k1 IML56_71_80.1 (by decide) fun x92 fx92 hx92 kx92 => ?_
                clear hx92 kx92
                refine PW.cI q_56_89 (by decide) fun c93 hc93 => ?_
                have J118_95 : ∀ (MJ118_95 : pM), Iv (gSp (gFs M) fd76) MJ118_95 → Fr [5, 7, 9, 10, 11, 12, 13] M MJ118_95 → o_f (MJ118_95 k1) 6 = .int x82 → o_f (MJ118_95 k1) 3 = .int x92 → gWb bw MJ118_95 → PW G false 4 56 (p_mc 56) (p_msl 56) Kr 118 [(0, .ref k0), (1, .ref k1), (2, .int v81)] [.ref b91] 311 MJ118_95 0 0 := by
                  intro MJ118_95  IMJ118_95 FMJ118_95 hbJ118_950 hbJ118_951 hbJ118_952
                  refine PW.cI q_56_118 (by decide) fun c96 hc96 => ?_
                  refine PW.pI q_56_119 (Or.inr t_fN_56_84) gF_7_3 gP_7_3 hk_b91 (gSpS _ _) IMJ118_95 (by decide) rfl (by omega) (by omega) fun M97 IM97 fM97 UM97 => ?_
                  have FM97 := Fr.pu FMJ118_95 UM97.1 hk_b91 (rfl : List.contains [5, 7, 9, 10, 11, 12, 13] 7 = true)
                  refine PW.incN q_56_122 rfl (by decide) (by decide) (by omega) (by omega) fun x98 hx98 => ?_
                  refine PW.goto q_56_125 rfl ?_
                  refine PW.lvS (lk1 rfl (lk1 rfl (lk1 rfl lk0))) (ih_L56_71_80 _ ?_ M97 x98 IM97 FM97 (by omega) (by omega) (hbJ118_952.ar UM97.1 hk_b91 (by decide)) rfl)
                  omega
                refine PW.jc_eq q_56_90 rfl (fun h94 => ?_) (fun h94 => ?_)
                · skip
                  exact PW.lvS (lk1 rfl (lk1 rfl (lk1 rfl lk0))) (J118_95 ML56_71_80  IML56_71_80 FML56_71_80 fx82 fx92 hbL56_71_802)
                · skip
                  refine PW.aload_n q_56_93 rfl ?_
                  refine PW.gI q_56_94 (Or.inl t_ft_56_36) gF_5_0 hk_k0 IML56_71_80.1 (by decide) fun x99 fx99 hx99 kx99 => ?_
                  refine PW.aload_n q_56_97 rfl ?_
                  refine PW.gRk q_56_98 (Or.inl t_ft_56_20) gF_5_3 hk_k0 IML56_71_80.1 (by decide) fun b100 hk_b100 e_b100 => ?_
                  refine PW.iload_n q_56_101 rfl ?_
                  refine PW.aRk q_56_102 rfl (by decide) (by decide) hk_b100 IML56_71_80.1 (by decide) (by omega) (by omega) fun b101 hk_b101 e_b101 => ?_
                  refine PW.gI q_56_103 (Or.inr t_fN_56_136) gF_7_7 hk_b101 IML56_71_80.1 (by decide) fun x102 fx102 hx102 kx102 => ?_
                  clear hx102 kx102
                  refine PW.subH q_56_106 fun x103 => ?_
                  refine PW.aload_n q_56_107 rfl ?_
                  refine PW.gE q_56_108 (Or.inr t_fN_56_133) gF_4_3 hk_k1 IML56_71_80.1 (by decide) fx92 ?_
                  refine PW.jc_lt q_56_111 rfl (fun h104 => ?_) (fun h104 => ?_)
                  · skip
                    exact PW.lvS (lk1 rfl (lk1 rfl (lk1 rfl lk0))) (J118_95 ML56_71_80  IML56_71_80 FML56_71_80 fx82 fx92 hbL56_71_802)
                  · skip
                    refine PW.cI q_56_114 (by decide) fun c105 hc105 => ?_
                    refine PW.goto q_56_115 rfl ?_
                    refine PW.pI q_56_119 (Or.inr t_fN_56_84) gF_7_3 gP_7_3 hk_b91 (gSpS _ _) IML56_71_80 (by decide) rfl (by omega) (by omega) fun M106 IM106 fM106 UM106 => ?_
                    have FM106 := Fr.pu FML56_71_80 UM106.1 hk_b91 (rfl : List.contains [5, 7, 9, 10, 11, 12, 13] 7 = true)
                    refine PW.incN q_56_122 rfl (by decide) (by decide) (by omega) (by omega) fun x107 hx107 => ?_
                    refine PW.goto q_56_125 rfl ?_
                    refine PW.lvS (lk1 rfl (lk1 rfl (lk1 rfl lk0))) (ih_L56_71_80 _ ?_ M106 x107 IM106 FM106 (by omega) (by omega) (hbL56_71_802.ar UM106.1 hk_b91 (by decide)) rfl)
                    omega
            exact PW.lvS (lk1 rfl (lk1 rfl (lk1 rfl lk0))) (L56_71_80 _ M75 c79 IM75 FM75 (by omega) (by omega) TM75 rfl)
      · skip
        refine PW.aload_n q_56_22 rfl ?_
        refine PW.gRk q_56_23 (Or.inl t_ft_56_20) gF_5_3 hk_k0 IML56_14_6.1 (by decide) fun b108 hk_b108 e_b108 => ?_
        refine PW.iload_n q_56_26 rfl ?_
        refine PW.aRk q_56_27 rfl (by decide) (by decide) hk_b108 IML56_14_6.1 (by decide) (by omega) (by omega) fun b109 hk_b109 e_b109 => ?_
        refine PW.aload_n q_56_28 rfl ?_
        refine PW.gRk q_56_29 (Or.inr t_fN_56_119) gF_4_10 hk_k1 IML56_14_6.1 (by decide) fun b110 hk_b110 e_b110 => ?_
        refine PW.iload_n q_56_32 rfl ?_
        refine PW.aH q_56_33 gA_29 hk_b110 IML56_14_6.1 (by decide) (by omega) (by omega) fun x111 fx111 => ?_
        refine PW.aload_n q_56_34 rfl ?_
        refine PW.gI q_56_35 (Or.inr t_fN_56_122) gF_4_1 hk_k1 IML56_14_6.1 (by decide) fun x112 fx112 hx112 kx112 => ?_
        clear hx112 kx112
        refine PW.cV (as := [_, _]) (rest := []) q_56_38 t_mv_56_125 hk_b109 IML56_14_6.1 (by decide) rfl (by decide) rfl rfl (Nat.le_of_ble_eq_true rfl) (Nat.le_of_ble_eq_true rfl) (by decide) (by decide) ?_
        refine PW.up (by decide) (c_X8_step (gSp (gFs M) (gFd M)) ((gSpS _ _)) G _ ML56_14_6 IML56_14_6 b109 hk_b109 x111 x112 fun M113 IM113 GM113 => ?_)
        have FM113 := Fr.trans FML56_14_6 GM113 (rfl)
        refine PW.incN q_56_41 rfl (by decide) (by decide) (by omega) (by omega) fun x114 hx114 => ?_
        refine PW.goto q_56_44 rfl ?_
        refine PW.lvS (lk1 rfl (lk1 rfl (lk1 rfl lk0))) (ih_L56_14_6 _ ?_ M113 x114 IM113 FM113 (by omega) (by omega) (hbL56_14_62.fr GM113 rfl) rfl)
        omega
    exact PW.lvS (lk1 rfl (lk1 rfl (lk1 rfl lk0))) (L56_14_6 _ M c5 Q4 F (by omega) (by omega) hw rfl)
  · skip
    refine PW.cI q_56_10 (by decide) fun c115 hc115 => ?_
    refine PW.rZ q_56_11 rfl (by omega) (by omega) (by decide) (by decide) ?_
    exact hK c115 M I F (by omega) (by omega) hw
theorem c_X5_copyFrom_w (G : pG) (Kr : pK) (M : pM) (I : Iv gTT M) (k0 : Nat) (hk_k0 : g_kd k0 = 5) (k1 : Nat) (hk_k1 : g_kd k1 = 5) (bw : Nat) (hw : gWb bw M) (hw_0 : k1 + 14 < bw) (hK : ∀ (M1 : pM), Iv gTT M1 → Fr [5, 7, 9, 10, 11, 12, 13] M M1 → (gWb bw M1) → (gWs k0 M1) → Kr.1 none 311 M1) : PW G false 3 48 (p_mc 48) (p_msl 48) Kr 0 (lv_args 0 [.ref k0, .ref k1]) [] 311 M 0 0 := by
  have F : Fr [5, 7, 9, 10, 11, 12, 13] M M := Fr.refl
  have Q1 := gSp.of I
  refine PW.aload_n q_48_0 rfl ?_
  refine PW.aload_n q_48_1 rfl ?_
  refine PW.gI q_48_2 (Or.inl t_ft_48_36) gF_5_0 hk_k1 Q1.1 (by decide) fun x2 fx2 hx2 kx2 => ?_
  refine PW.pC q_48_5 (Or.inl t_ft_48_36) gF_5_0 gP_5_0 hk_k0 Q1 (by decide) ⟨rfl, rfl⟩ (by omega) (by omega) fun M3 IM3 fM3 UM3 => ?_
  have FM3 := Fr.pu F UM3.1 hk_k0 (rfl : List.contains [5, 7, 9, 10, 11, 12, 13] 5 = true)
  refine PW.aload_n q_48_8 rfl ?_
  refine PW.aload_n q_48_9 rfl ?_
  refine PW.gI q_48_10 (Or.inl t_ft_48_9) gF_5_1 hk_k1 IM3.1 (by decide) fun x4 fx4 hx4 kx4 => ?_
  clear hx4 kx4
  refine PW.pI q_48_13 (Or.inl t_ft_48_9) gF_5_1 gP_5_1 hk_k0 (gSpS _ _) IM3 (by decide) rfl (n_lo _) (n_hi _) fun M5 IM5 fM5 UM5 => ?_
  have FM5 := Fr.pu FM3 UM5.1 hk_k0 (rfl : List.contains [5, 7, 9, 10, 11, 12, 13] 5 = true)
  refine PW.aload_n q_48_16 rfl ?_
  refine PW.aload_n q_48_17 rfl ?_
  refine PW.gI q_48_18 (Or.inl t_ft_48_15) gF_5_2 hk_k1 IM5.1 (by decide) fun x6 fx6 hx6 kx6 => ?_
  clear hx6 kx6
  refine PW.pI q_48_21 (Or.inl t_ft_48_15) gF_5_2 gP_5_2 hk_k0 (gSpS _ _) IM5 (by decide) rfl (n_lo _) (n_hi _) fun M7 IM7 fM7 UM7 => ?_
  have FM7 := Fr.pu FM5 UM7.1 hk_k0 (rfl : List.contains [5, 7, 9, 10, 11, 12, 13] 5 = true)
  refine PW.cI q_48_24 (by decide) fun c8 hc8 => ?_
  refine PW.istore_n q_48_25 (by decide) ?_
  have L48_26_9 : ∀ (n : Nat) (ML48_26_9 : pM) (v10 : Int32), Iv (gSp (gUp (gFs M) k0 (.int x2)) (gFd M)) ML48_26_9 → Fr [5, 7, 9, 10, 11, 12, 13] M ML48_26_9 → 0 ≤ v10.toInt → v10.toInt ≤ 6 → gWb bw ML48_26_9 → (6 - v10.toInt).toNat = n → PW G false 3 48 (p_mc 48) (p_msl 48) Kr 26 [(0, .ref k0), (1, .ref k1), (2, .int v10)] [] 311 ML48_26_9 0 0 := by
    intro n
    induction n using Nat.strongRecOn with
    | ind n ih_L48_26_9 =>
    intro ML48_26_9 v10 IML48_26_9 FML48_26_9 hbL48_26_90 hbL48_26_91 hbL48_26_92 hmL48_26_9
    refine PW.iload_n q_48_26 rfl ?_
    refine PW.cB q_48_27 (by decide) fun c11 hc11 => ?_
    refine PW.jc_ge q_48_29 rfl (fun h12 => ?_) (fun h12 => ?_)
    · skip
      refine PW.cI q_48_53 (by decide) fun c13 hc13 => ?_
      refine PW.istore_n q_48_54 (by decide) ?_
      refine PW.iload_n q_48_55 rfl ?_
      refine PW.cI q_48_56 (by decide) fun c14 hc14 => ?_
      refine PW.jc_ge q_48_57 rfl (fun h15 => False.elim (by omega)) (fun h15 => ?_)
      refine PW.aload_n q_48_60 rfl ?_
      refine PW.gRk q_48_61 (Or.inl t_ft_48_27) gF_5_4 hk_k0 IML48_26_9.1 (by decide) fun b16 hk_b16 e_b16 => ?_
      refine PW.iload_n q_48_64 rfl ?_
      refine PW.aRk q_48_65 rfl (by decide) (by decide) hk_b16 IML48_26_9.1 (by decide) (by omega) (by omega) fun b17 hk_b17 e_b17 => ?_
      have hb_b17 : b17 = k0 + 9 := by rw [e_b17, e_b16]; show k0 + 8 + 1 + 4 * _ = _; omega
      refine PW.aload_n q_48_66 rfl ?_
      refine PW.gRk q_48_67 (Or.inl t_ft_48_27) gF_5_4 hk_k1 IML48_26_9.1 (by decide) fun b18 hk_b18 e_b18 => ?_
      refine PW.iload_n q_48_70 rfl ?_
      refine PW.aRk q_48_71 rfl (by decide) (by decide) hk_b18 IML48_26_9.1 (by decide) (by omega) (by omega) fun b19 hk_b19 e_b19 => ?_
      have hb_b19 : b19 = k1 + 9 := by rw [e_b19, e_b18]; show k1 + 8 + 1 + 4 * _ = _; omega
      refine PW.cV (as := [_]) (rest := []) q_48_72 t_mv_48_67 hk_b17 IML48_26_9.1 (by decide) rfl (by decide) rfl rfl (Nat.le_of_ble_eq_true rfl) (Nat.le_of_ble_eq_true rfl) (by decide) (by decide) ?_
      refine PW.up (by decide) (c_X0_copyFrom_w (gUp (gFs M) k0 (.int x2)) (gFd M) G _ ML48_26_9 IML48_26_9 b17 hk_b17 b19 hk_b19 bw hbL48_26_92 (by omega) fun M20 fd21 hnfd21 hvfd21 IM20 GM20 TM20 XM20 => ?_)
      have FM20 := Fr.trans FML48_26_9 GM20 (rfl)
      refine PW.incN q_48_75 rfl (by decide) (by decide) (by omega) (by omega) fun x22 hx22 => ?_
      refine PW.goto q_48_78 rfl ?_
      refine PW.iload_n q_48_55 rfl ?_
      refine PW.cI q_48_56 (by decide) fun c23 hc23 => ?_
      refine PW.jc_ge q_48_57 rfl (fun h24 => False.elim (by omega)) (fun h24 => ?_)
      refine PW.aload_n q_48_60 rfl ?_
      refine PW.gRk q_48_61 (Or.inl t_ft_48_27) gF_5_4 hk_k0 IM20.1 (by decide) fun b25 hk_b25 e_b25 => ?_
      refine PW.iload_n q_48_64 rfl ?_
      refine PW.aRk q_48_65 rfl (by decide) (by decide) hk_b25 IM20.1 (by decide) (by omega) (by omega) fun b26 hk_b26 e_b26 => ?_
      have hb_b26 : b26 = k0 + 13 := by rw [e_b26, e_b25]; show k0 + 8 + 1 + 4 * _ = _; omega
      refine PW.aload_n q_48_66 rfl ?_
      refine PW.gRk q_48_67 (Or.inl t_ft_48_27) gF_5_4 hk_k1 IM20.1 (by decide) fun b27 hk_b27 e_b27 => ?_
      refine PW.iload_n q_48_70 rfl ?_
      refine PW.aRk q_48_71 rfl (by decide) (by decide) hk_b27 IM20.1 (by decide) (by omega) (by omega) fun b28 hk_b28 e_b28 => ?_
      have hb_b28 : b28 = k1 + 13 := by rw [e_b28, e_b27]; show k1 + 8 + 1 + 4 * _ = _; omega
      refine PW.cV (as := [_]) (rest := []) q_48_72 t_mv_48_67 hk_b26 IM20.1 (by decide) rfl (by decide) rfl rfl (Nat.le_of_ble_eq_true rfl) (Nat.le_of_ble_eq_true rfl) (by decide) (by decide) ?_
      refine PW.up (by decide) (c_X0_copyFrom_w (gUp (gFs M) k0 (.int x2)) fd21 G _ M20 IM20 b26 hk_b26 b28 hk_b28 bw TM20 (by omega) fun M29 fd30 hnfd30 hvfd30 IM29 GM29 TM29 XM29 => ?_)
      have FM29 := Fr.trans FM20 GM29 (rfl)
      refine PW.incN q_48_75 rfl (by decide) (by decide) (by omega) (by omega) fun x31 hx31 => ?_
      refine PW.goto q_48_78 rfl ?_
      refine PW.iload_n q_48_55 rfl ?_
      refine PW.cI q_48_56 (by decide) fun c32 hc32 => ?_
      refine PW.jc_ge q_48_57 rfl (fun h33 => ?_) (fun h33 => False.elim (by omega))
      refine PW.aload_n q_48_81 rfl ?_
      refine PW.gRk q_48_82 (Or.inl t_ft_48_32) gF_5_5 hk_k1 IM29.1 (by decide) fun b34 hk_b34 e_b34 => ?_
      refine PW.cI q_48_85 (by decide) fun c35 hc35 => ?_
      refine PW.aload_n q_48_86 rfl ?_
      refine PW.gRk q_48_87 (Or.inl t_ft_48_32) gF_5_5 hk_k0 IM29.1 (by decide) fun b36 hk_b36 e_b36 => ?_
      refine PW.cI q_48_90 (by decide) fun c37 hc37 => ?_
      refine PW.aload_n q_48_91 rfl ?_
      refine PW.gRk q_48_92 (Or.inl t_ft_48_32) gF_5_5 hk_k0 IM29.1 (by decide) fun b38 hk_b38 e_b38 => ?_
      refine PW.al1 q_48_95 rfl hk_b38 IM29.1 (by decide) (by decide) fun c39 hc39 => ?_
      refine PW.cp q_48_96 t_mj_48_70 gA_13 hk_b34 hk_b36 (gSpS _ _) IM29 (by decide) rfl (by omega) (by omega) (by omega) (by omega) (fun _ _ => rfl) (by decide) (Nat.le_of_ble_eq_true rfl) fun M40 IM40 UM40 => ?_
      have FM40 := Fr.pu FM29 UM40 hk_b36 (rfl : List.contains [5, 7, 9, 10, 11, 12, 13] 13 = true)
      refine PW.vret q_48_99 rfl (by decide) (by decide) ?_
      have T41 : gTT M40 := by
        have qT := I.2.1 k1 hk_k1
        rw [o_i_gvi, o_i_gvi, o_i_gvi, fx2] at qT
        have hne : k1 + 13 ≠ k0 + 9 := by
          by_cases e : k1 = k0
          · omega
          · exact (g_dd hk_k1 hk_k0 e).2.2.1
        refine gSp.T (k := k0) I.2.1 IM40.2 hk_k0 (fun a h => gUp_ne h) (fun a h h13 => ?_) ?_ ?_
        · rw [hnfd30 a (by rw [hb_b26]; exact h13), hnfd21 a (by rw [hb_b17]; exact h)]
        · rw [gUp_eq, hnfd30 (k0 + 9) (by rw [hb_b26]; omega), ← hb_b17, hvfd21, hb_b19]; exact qT.1
        · rw [gUp_eq, ← hb_b26, hvfd30, hb_b28, hnfd21 (k1 + 13) (by rw [hb_b17]; exact hne)]; exact qT.2
      exact hK M40 ⟨IM40.1, T41⟩ FM40 (TM29.ar UM40 hk_b36 (by decide)) ⟨fun i hi => by rw [(UM40 (k0 + 10) (g_ne (g_k5r hk_k0).1 hk_b36 (by decide))), XM29.2 (k0 + 10) (g_k5r hk_k0).1 (by omega), show k0 + 10 = b17 + 1 from by omega]; exact XM20.1 i hi, fun i hi => by rw [(UM40 (k0 + 14) (g_ne (g_k5r hk_k0).2 hk_b36 (by decide))), show k0 + 14 = b26 + 1 from by omega]; exact XM29.1 i hi⟩
    · skip
      refine PW.aload_n q_48_32 rfl ?_
      refine PW.gRk q_48_33 (Or.inl t_ft_48_20) gF_5_3 hk_k0 IML48_26_9.1 (by decide) fun b42 hk_b42 e_b42 => ?_
      refine PW.iload_n q_48_36 rfl ?_
      refine PW.aRk q_48_37 rfl (by decide) (by decide) hk_b42 IML48_26_9.1 (by decide) (by omega) (by omega) fun b43 hk_b43 e_b43 => ?_
      refine PW.aload_n q_48_38 rfl ?_
      refine PW.gRk q_48_39 (Or.inl t_ft_48_20) gF_5_3 hk_k1 IML48_26_9.1 (by decide) fun b44 hk_b44 e_b44 => ?_
      refine PW.iload_n q_48_42 rfl ?_
      refine PW.aRk q_48_43 rfl (by decide) (by decide) hk_b44 IML48_26_9.1 (by decide) (by omega) (by omega) fun b45 hk_b45 e_b45 => ?_
      refine PW.cV (as := [_]) (rest := []) q_48_44 t_mv_48_63 hk_b43 IML48_26_9.1 (by decide) rfl (by decide) rfl rfl (Nat.le_of_ble_eq_true rfl) (Nat.le_of_ble_eq_true rfl) (by decide) (by decide) ?_
      refine PW.up (by decide) (c_X8_copyFrom (gSp (gUp (gFs M) k0 (.int x2)) (gFd M)) ((gSpS _ _)) G _ ML48_26_9 IML48_26_9 b43 hk_b43 b45 hk_b45 fun M46 IM46 GM46 => ?_)
      have FM46 := Fr.trans FML48_26_9 GM46 (rfl)
      refine PW.incN q_48_47 rfl (by decide) (by decide) (by omega) (by omega) fun x47 hx47 => ?_
      refine PW.goto q_48_50 rfl ?_
      refine PW.lvS (lk1 rfl (lk1 rfl (lk1 rfl lk0))) (ih_L48_26_9 _ ?_ M46 x47 IM46 FM46 (by omega) (by omega) (hbL48_26_92.fr GM46 rfl) rfl)
      omega
  exact PW.lvS (lk1 rfl (lk1 rfl (lk1 rfl lk0))) (L48_26_9 _ M7 c8 IM7 FM7 (by omega) (by omega) (((hw.ar UM3.1 hk_k0 (by decide)).ar UM5.1 hk_k0 (by decide)).ar UM7.1 hk_k0 (by decide)) rfl)
theorem c_X5_begin_w (G : pG) (Kr : pK) (M : pM) (I : Iv gTT M) (k0 : Nat) (hk_k0 : g_kd k0 = 5) (k1 : Nat) (hk_k1 : g_kd k1 = 4) (hp_0 : gS1 k1 M) (bw : Nat) (hw : gWb bw M) (hK : ∀ (M1 : pM), Iv gTT M1 → Fr [5, 7, 9, 10, 13] M M1 → (gWb bw M1) → Kr.1 none 311 M1) : PW G false 2 47 (p_mc 47) (p_msl 47) Kr 0 (lv_args 0 [.ref k0, .ref k1]) [] 311 M 0 0 := by
  have F : Fr [5, 7, 9, 10, 13] M M := Fr.refl
  have Q1 := gSp.of I
  refine PW.aload_n q_47_0 rfl ?_
  refine PW.cI q_47_1 (by decide) fun c2 hc2 => ?_
  refine PW.pC q_47_2 (Or.inl t_ft_47_36) gF_5_0 gP_5_0 hk_k0 Q1 (by decide) ⟨rfl, rfl⟩ (by omega) (by omega) fun M3 IM3 fM3 UM3 => ?_
  have FM3 := Fr.pu F UM3.1 hk_k0 (rfl : List.contains [5, 7, 9, 10, 13] 5 = true)
  refine PW.aload_n q_47_5 rfl ?_
  refine PW.cI q_47_6 (by decide) fun c4 hc4 => ?_
  refine PW.pI q_47_7 (Or.inl t_ft_47_9) gF_5_1 gP_5_1 hk_k0 (gSpS _ _) IM3 (by decide) rfl (n_lo _) (n_hi _) fun M5 IM5 fM5 UM5 => ?_
  have FM5 := Fr.pu FM3 UM5.1 hk_k0 (rfl : List.contains [5, 7, 9, 10, 13] 5 = true)
  refine PW.aload_n q_47_10 rfl ?_
  refine PW.cI q_47_11 (by decide) fun c6 hc6 => ?_
  refine PW.pI q_47_12 (Or.inl t_ft_47_15) gF_5_2 gP_5_2 hk_k0 (gSpS _ _) IM5 (by decide) rfl (n_lo _) (n_hi _) fun M7 IM7 fM7 UM7 => ?_
  have FM7 := Fr.pu FM5 UM7.1 hk_k0 (rfl : List.contains [5, 7, 9, 10, 13] 5 = true)
  refine PW.cI q_47_15 (by decide) fun c8 hc8 => ?_
  refine PW.istore_n q_47_16 (by decide) ?_
  have L47_17_9 : ∀ (n : Nat) (ML47_17_9 : pM) (v10 : Int32), Iv (gSp (gUp (gFs M) k0 (.int c2)) (gFd M)) ML47_17_9 → Fr [5, 7, 9, 10, 13] M ML47_17_9 → 0 ≤ v10.toInt → v10.toInt ≤ 6 → gWb bw ML47_17_9 → (6 - v10.toInt).toNat = n → PW G false 2 47 (p_mc 47) (p_msl 47) Kr 17 [(0, .ref k0), (1, .ref k1), (2, .int v10)] [] 311 ML47_17_9 0 0 := by
    intro n
    induction n using Nat.strongRecOn with
    | ind n ih_L47_17_9 =>
    intro ML47_17_9 v10 IML47_17_9 FML47_17_9 hbL47_17_90 hbL47_17_91 hbL47_17_92 hmL47_17_9
    refine PW.iload_n q_47_17 rfl ?_
    refine PW.cB q_47_18 (by decide) fun c11 hc11 => ?_
    refine PW.jc_ge q_47_20 rfl (fun h12 => ?_) (fun h12 => ?_)
    · skip
      refine PW.cI q_47_50 (by decide) fun c13 hc13 => ?_
      refine PW.istore_n q_47_51 (by decide) ?_
      refine PW.iload_n q_47_52 rfl ?_
      refine PW.cI q_47_53 (by decide) fun c14 hc14 => ?_
      refine PW.jc_ge q_47_54 rfl (fun h15 => False.elim (by omega)) (fun h15 => ?_)
      refine PW.iload_n q_47_57 rfl ?_
      refine PW.aload_n q_47_58 rfl ?_
      refine PW.gI q_47_59 (Or.inr t_fN_47_52) gF_4_7 hk_k1 IML47_17_9.1 (by decide) fun x16 fx16 hx16 kx16 => ?_
      refine PW.jc_ge q_47_62 rfl (fun h17 => ?_) (fun h17 => ?_)
      · skip
        refine PW.cI q_47_69 (by decide) fun c18 hc18 => ?_
        refine PW.istore_n q_47_70 (by decide) ?_
        refine PW.iload_n q_47_71 rfl ?_
        refine PW.jz_eq q_47_72 rfl (fun h19 => ?_) (fun h19 => False.elim (by omega))
        refine PW.cI q_47_84 (by decide) fun c20 hc20 => ?_
        refine PW.istore q_47_85 (by decide) ?_
        refine PW.aload_n q_47_87 rfl ?_
        refine PW.gRk q_47_88 (Or.inl t_ft_47_27) gF_5_4 hk_k0 IML47_17_9.1 (by decide) fun b21 hk_b21 e_b21 => ?_
        refine PW.iload_n q_47_91 rfl ?_
        refine PW.aRk q_47_92 rfl (by decide) (by decide) hk_b21 IML47_17_9.1 (by decide) (by omega) (by omega) fun b22 hk_b22 e_b22 => ?_
        have hb_b22 : b22 = k0 + 9 := by rw [e_b22, e_b21]; show k0 + 8 + 1 + 4 * _ = _; omega
        refine PW.aload_n q_47_93 rfl ?_
        refine PW.gRk q_47_94 (Or.inr t_fN_47_39) gF_4_9 hk_k1 IML47_17_9.1 (by decide) fun b23 hk_b23 e_b23 => ?_
        refine PW.iload q_47_97 rfl ?_
        refine PW.aH q_47_99 gA_28 hk_b23 IML47_17_9.1 (by decide) (by omega) (by omega) fun x24 fx24 => ?_
        refine PW.iload_n q_47_100 rfl ?_
        refine PW.jz_eq q_47_101 rfl (fun h25 => ?_) (fun h25 => False.elim (by omega))
        refine PW.cI q_47_113 (by decide) fun c26 hc26 => ?_
        refine PW.iload q_47_114 rfl ?_
        refine PW.cV (as := [_, _, _]) (rest := []) q_47_116 t_mv_47_60 hk_b22 IML47_17_9.1 (by decide) rfl (by decide) rfl rfl (Nat.le_of_ble_eq_true rfl) (Nat.le_of_ble_eq_true rfl) (by decide) (by decide) ?_
        refine PW.up (by decide) (c_X0_begin_w (gUp (gFs M) k0 (.int c2)) (gFd M) G _ ML47_17_9 IML47_17_9 b22 hk_b22 x24 c26 c20 (by omega) (by omega) bw hbL47_17_92 fun M27 fd28 hnfd28 hvfd28 IM27 GM27 TM27 => ?_)
        have FM27 := Fr.trans FML47_17_9 GM27 (rfl)
        refine PW.incN q_47_119 rfl (by decide) (by decide) (by omega) (by omega) fun x29 hx29 => ?_
        refine PW.goto q_47_122 rfl ?_
        refine PW.iload_n q_47_52 rfl ?_
        refine PW.cI q_47_53 (by decide) fun c30 hc30 => ?_
        refine PW.jc_ge q_47_54 rfl (fun h31 => False.elim (by omega)) (fun h31 => ?_)
        refine PW.iload_n q_47_57 rfl ?_
        refine PW.aload_n q_47_58 rfl ?_
        refine PW.gE q_47_59 (Or.inr t_fN_47_52) gF_4_7 hk_k1 IM27.1 (by decide) ((congrArg (fun e => o_f e 7) (Fr.at GM27 hk_k1 (by decide))).trans fx16) ?_
        refine PW.jc_ge q_47_62 rfl (fun h32 => ?_) (fun h32 => False.elim (by omega))
        refine PW.cI q_47_69 (by decide) fun c33 hc33 => ?_
        refine PW.istore_n q_47_70 (by decide) ?_
        refine PW.iload_n q_47_71 rfl ?_
        refine PW.jz_eq q_47_72 rfl (fun h34 => ?_) (fun h34 => False.elim (by omega))
        refine PW.cI q_47_84 (by decide) fun c35 hc35 => ?_
        refine PW.istore q_47_85 (by decide) ?_
        refine PW.aload_n q_47_87 rfl ?_
        refine PW.gRk q_47_88 (Or.inl t_ft_47_27) gF_5_4 hk_k0 IM27.1 (by decide) fun b36 hk_b36 e_b36 => ?_
        refine PW.iload_n q_47_91 rfl ?_
        refine PW.aRk q_47_92 rfl (by decide) (by decide) hk_b36 IM27.1 (by decide) (by omega) (by omega) fun b37 hk_b37 e_b37 => ?_
        have hb_b37 : b37 = k0 + 13 := by rw [e_b37, e_b36]; show k0 + 8 + 1 + 4 * _ = _; omega
        refine PW.aload_n q_47_93 rfl ?_
        refine PW.gRk q_47_94 (Or.inr t_fN_47_39) gF_4_9 hk_k1 IM27.1 (by decide) fun b38 hk_b38 e_b38 => ?_
        refine PW.iload q_47_97 rfl ?_
        refine PW.aH q_47_99 gA_28 hk_b38 IM27.1 (by decide) (by omega) (by omega) fun x39 fx39 => ?_
        refine PW.iload_n q_47_100 rfl ?_
        refine PW.jz_eq q_47_101 rfl (fun h40 => ?_) (fun h40 => False.elim (by omega))
        refine PW.cI q_47_113 (by decide) fun c41 hc41 => ?_
        refine PW.iload q_47_114 rfl ?_
        refine PW.cV (as := [_, _, _]) (rest := []) q_47_116 t_mv_47_60 hk_b37 IM27.1 (by decide) rfl (by decide) rfl rfl (Nat.le_of_ble_eq_true rfl) (Nat.le_of_ble_eq_true rfl) (by decide) (by decide) ?_
        refine PW.up (by decide) (c_X0_begin_w (gUp (gFs M) k0 (.int c2)) fd28 G _ M27 IM27 b37 hk_b37 x39 c41 c35 (by omega) (by omega) bw TM27 fun M42 fd43 hnfd43 hvfd43 IM42 GM42 TM42 => ?_)
        have FM42 := Fr.trans FM27 GM42 (rfl)
        refine PW.incN q_47_119 rfl (by decide) (by decide) (by omega) (by omega) fun x44 hx44 => ?_
        refine PW.goto q_47_122 rfl ?_
        refine PW.iload_n q_47_52 rfl ?_
        refine PW.cI q_47_53 (by decide) fun c45 hc45 => ?_
        refine PW.jc_ge q_47_54 rfl (fun h46 => ?_) (fun h46 => False.elim (by omega))
        refine PW.cI q_47_125 (by decide) fun c47 hc47 => ?_
        refine PW.istore_n q_47_126 (by decide) ?_
        have L47_127_48 : ∀ (n : Nat) (ML47_127_48 : pM) (v49 : Int32), Iv (gSp (gUp (gFs M) k0 (.int c2)) fd43) ML47_127_48 → Fr [5, 7, 9, 10, 13] M ML47_127_48 → 0 ≤ v49.toInt → v49.toInt ≤ 36 → gWb bw ML47_127_48 → (36 - v49.toInt).toNat = n → PW G false 2 47 (p_mc 47) (p_msl 47) Kr 127 [(0, .ref k0), (1, .ref k1), (2, .int v49), (3, .int c33), (4, .int c35)] [] 311 ML47_127_48 0 0 := by
          intro n
          induction n using Nat.strongRecOn with
          | ind n ih_L47_127_48 =>
          intro ML47_127_48 v49 IML47_127_48 FML47_127_48 hbL47_127_480 hbL47_127_481 hbL47_127_482 hmL47_127_48
          refine PW.iload_n q_47_127 rfl ?_
          refine PW.aload_n q_47_128 rfl ?_
          refine PW.gRk q_47_129 (Or.inl t_ft_47_32) gF_5_5 hk_k0 IML47_127_48.1 (by decide) fun b50 hk_b50 e_b50 => ?_
          refine PW.al1 q_47_132 rfl hk_b50 IML47_127_48.1 (by decide) (by decide) fun c51 hc51 => ?_
          refine PW.jc_ge q_47_133 rfl (fun h52 => ?_) (fun h52 => ?_)
          · skip
            refine PW.vret q_47_149 rfl (by decide) (by decide) ?_
            have T53 : gTT ML47_127_48 := by
              refine gSp.T (k := k0) I.2.1 IML47_127_48.2 hk_k0 (fun a h => gUp_ne h) (fun a h h13 => ?_) ?_ ?_
              · rw [hnfd43 a (by rw [hb_b37]; exact h13), hnfd28 a (by rw [hb_b22]; exact h)]
              · rw [gUp_eq, hnfd43 (k0 + 9) (by rw [hb_b37]; omega), ← hb_b22, hvfd28]; show 0 ≤ c2.toInt; omega
              · rw [gUp_eq, ← hb_b37, hvfd43]; show 0 ≤ c2.toInt; omega
            exact hK ML47_127_48 ⟨IML47_127_48.1, T53⟩ FML47_127_48 hbL47_127_482
          · skip
            refine PW.aload_n q_47_136 rfl ?_
            refine PW.gRk q_47_137 (Or.inl t_ft_47_32) gF_5_5 hk_k0 IML47_127_48.1 (by decide) fun b54 hk_b54 e_b54 => ?_
            refine PW.iload_n q_47_140 rfl ?_
            refine PW.cI q_47_141 (by decide) fun c55 hc55 => ?_
            refine PW.wI q_47_142 gA_13 hk_b54 (gSpS _ _) IML47_127_48 (by decide) rfl gC_13_0_35 (by decide) (by omega) (by omega) (n_lo _) (n_hi _) fun M56 IM56 fM56 UM56 => ?_
            have FM56 := Fr.pu FML47_127_48 UM56.1 hk_b54 (rfl : List.contains [5, 7, 9, 10, 13] 13 = true)
            refine PW.incN q_47_143 rfl (by decide) (by decide) (by omega) (by omega) fun x57 hx57 => ?_
            refine PW.goto q_47_146 rfl ?_
            refine PW.lvS (lk1 rfl (lk1 rfl (lk1 rfl (lk1 rfl (lk1 rfl lk0))))) (ih_L47_127_48 _ ?_ M56 x57 IM56 FM56 (by omega) (by omega) (hbL47_127_482.ar UM56.1 hk_b54 (by decide)) rfl)
            omega
        exact PW.lvS (lk1 rfl (lk1 rfl (lk1 rfl (lk1 rfl (lk1 rfl lk0))))) (L47_127_48 _ M42 c47 IM42 FM42 (by omega) (by omega) TM42 rfl)
      · skip
        refine PW.cI q_47_65 (by decide) fun c58 hc58 => ?_
        refine PW.goto q_47_66 rfl ?_
        refine PW.istore_n q_47_70 (by decide) ?_
        refine PW.iload_n q_47_71 rfl ?_
        refine PW.jz_eq q_47_72 rfl (fun h59 => False.elim (by omega)) (fun h59 => ?_)
        refine PW.aload_n q_47_75 rfl ?_
        refine PW.gRk q_47_76 (Or.inr t_fN_47_54) gF_4_13 hk_k1 IML47_17_9.1 (by decide) fun b60 hk_b60 e_b60 => ?_
        refine PW.iload_n q_47_79 rfl ?_
        refine PW.aI q_47_80 gA_32 hk_b60 IML47_17_9.1 (by decide) gB_32_0_0 (by decide) (by omega) (by omega) fun x61 fx61 hx61 kx61 => ?_
        have hs62 : 0 ≤ x61.toInt := by
          have q := hp_0 c13.toInt.toNat
          have qa : o_i (M k1) 7 = x16.toInt := by rw [← Fr.at FML47_17_9 hk_k1 rfl]; exact o_i_of fx16
          have qe : b60 = k1 + 6 := e_b60
          have qb : o_a (M (k1 + 6)) c13.toInt.toNat = x61 := by rw [← qe, ← Fr.at FML47_17_9 hk_b60 rfl]; exact fx61
          rw [qa, qb] at q
          exact q (by omega)
        refine PW.goto q_47_81 rfl ?_
        refine PW.istore q_47_85 (by decide) ?_
        refine PW.aload_n q_47_87 rfl ?_
        refine PW.gRk q_47_88 (Or.inl t_ft_47_27) gF_5_4 hk_k0 IML47_17_9.1 (by decide) fun b63 hk_b63 e_b63 => ?_
        refine PW.iload_n q_47_91 rfl ?_
        refine PW.aRk q_47_92 rfl (by decide) (by decide) hk_b63 IML47_17_9.1 (by decide) (by omega) (by omega) fun b64 hk_b64 e_b64 => ?_
        have hb_b64 : b64 = k0 + 9 := by rw [e_b64, e_b63]; show k0 + 8 + 1 + 4 * _ = _; omega
        refine PW.aload_n q_47_93 rfl ?_
        refine PW.gRk q_47_94 (Or.inr t_fN_47_39) gF_4_9 hk_k1 IML47_17_9.1 (by decide) fun b65 hk_b65 e_b65 => ?_
        refine PW.iload q_47_97 rfl ?_
        refine PW.aH q_47_99 gA_28 hk_b65 IML47_17_9.1 (by decide) (by omega) (by omega) fun x66 fx66 => ?_
        refine PW.iload_n q_47_100 rfl ?_
        refine PW.jz_eq q_47_101 rfl (fun h67 => False.elim (by omega)) (fun h67 => ?_)
        refine PW.aload_n q_47_104 rfl ?_
        refine PW.gRk q_47_105 (Or.inr t_fN_47_57) gF_4_14 hk_k1 IML47_17_9.1 (by decide) fun b68 hk_b68 e_b68 => ?_
        refine PW.iload_n q_47_108 rfl ?_
        refine PW.aH q_47_109 gA_33 hk_b68 IML47_17_9.1 (by decide) (by omega) (by omega) fun x69 fx69 => ?_
        refine PW.goto q_47_110 rfl ?_
        refine PW.iload q_47_114 rfl ?_
        refine PW.cV (as := [_, _, _]) (rest := []) q_47_116 t_mv_47_60 hk_b64 IML47_17_9.1 (by decide) rfl (by decide) rfl rfl (Nat.le_of_ble_eq_true rfl) (Nat.le_of_ble_eq_true rfl) (by decide) (by decide) ?_
        refine PW.up (by decide) (c_X0_begin_w (gUp (gFs M) k0 (.int c2)) (gFd M) G _ ML47_17_9 IML47_17_9 b64 hk_b64 x66 x69 x61 (by omega) (by omega) bw hbL47_17_92 fun M70 fd71 hnfd71 hvfd71 IM70 GM70 TM70 => ?_)
        have FM70 := Fr.trans FML47_17_9 GM70 (rfl)
        refine PW.incN q_47_119 rfl (by decide) (by decide) (by omega) (by omega) fun x72 hx72 => ?_
        refine PW.goto q_47_122 rfl ?_
        refine PW.iload_n q_47_52 rfl ?_
        refine PW.cI q_47_53 (by decide) fun c73 hc73 => ?_
        refine PW.jc_ge q_47_54 rfl (fun h74 => False.elim (by omega)) (fun h74 => ?_)
        refine PW.iload_n q_47_57 rfl ?_
        refine PW.aload_n q_47_58 rfl ?_
        refine PW.gE q_47_59 (Or.inr t_fN_47_52) gF_4_7 hk_k1 IM70.1 (by decide) ((congrArg (fun e => o_f e 7) (Fr.at GM70 hk_k1 (by decide))).trans fx16) ?_
        refine PW.jc_ge q_47_62 rfl (fun h75 => ?_) (fun h75 => ?_)
        · skip
          refine PW.cI q_47_69 (by decide) fun c76 hc76 => ?_
          refine PW.istore_n q_47_70 (by decide) ?_
          refine PW.iload_n q_47_71 rfl ?_
          refine PW.jz_eq q_47_72 rfl (fun h77 => ?_) (fun h77 => False.elim (by omega))
          refine PW.cI q_47_84 (by decide) fun c78 hc78 => ?_
          refine PW.istore q_47_85 (by decide) ?_
          refine PW.aload_n q_47_87 rfl ?_
          refine PW.gRk q_47_88 (Or.inl t_ft_47_27) gF_5_4 hk_k0 IM70.1 (by decide) fun b79 hk_b79 e_b79 => ?_
          refine PW.iload_n q_47_91 rfl ?_
          refine PW.aRk q_47_92 rfl (by decide) (by decide) hk_b79 IM70.1 (by decide) (by omega) (by omega) fun b80 hk_b80 e_b80 => ?_
          have hb_b80 : b80 = k0 + 13 := by rw [e_b80, e_b79]; show k0 + 8 + 1 + 4 * _ = _; omega
          refine PW.aload_n q_47_93 rfl ?_
          refine PW.gRk q_47_94 (Or.inr t_fN_47_39) gF_4_9 hk_k1 IM70.1 (by decide) fun b81 hk_b81 e_b81 => ?_
          refine PW.iload q_47_97 rfl ?_
          refine PW.aH q_47_99 gA_28 hk_b81 IM70.1 (by decide) (by omega) (by omega) fun x82 fx82 => ?_
          refine PW.iload_n q_47_100 rfl ?_
          refine PW.jz_eq q_47_101 rfl (fun h83 => ?_) (fun h83 => False.elim (by omega))
          refine PW.cI q_47_113 (by decide) fun c84 hc84 => ?_
          refine PW.iload q_47_114 rfl ?_
          refine PW.cV (as := [_, _, _]) (rest := []) q_47_116 t_mv_47_60 hk_b80 IM70.1 (by decide) rfl (by decide) rfl rfl (Nat.le_of_ble_eq_true rfl) (Nat.le_of_ble_eq_true rfl) (by decide) (by decide) ?_
          refine PW.up (by decide) (c_X0_begin_w (gUp (gFs M) k0 (.int c2)) fd71 G _ M70 IM70 b80 hk_b80 x82 c84 c78 (by omega) (by omega) bw TM70 fun M85 fd86 hnfd86 hvfd86 IM85 GM85 TM85 => ?_)
          have FM85 := Fr.trans FM70 GM85 (rfl)
          refine PW.incN q_47_119 rfl (by decide) (by decide) (by omega) (by omega) fun x87 hx87 => ?_
          refine PW.goto q_47_122 rfl ?_
          refine PW.iload_n q_47_52 rfl ?_
          refine PW.cI q_47_53 (by decide) fun c88 hc88 => ?_
          refine PW.jc_ge q_47_54 rfl (fun h89 => ?_) (fun h89 => False.elim (by omega))
          refine PW.cI q_47_125 (by decide) fun c90 hc90 => ?_
          refine PW.istore_n q_47_126 (by decide) ?_
          have L47_127_91 : ∀ (n : Nat) (ML47_127_91 : pM) (v92 : Int32), Iv (gSp (gUp (gFs M) k0 (.int c2)) fd86) ML47_127_91 → Fr [5, 7, 9, 10, 13] M ML47_127_91 → 0 ≤ v92.toInt → v92.toInt ≤ 36 → gWb bw ML47_127_91 → (36 - v92.toInt).toNat = n → PW G false 2 47 (p_mc 47) (p_msl 47) Kr 127 [(0, .ref k0), (1, .ref k1), (2, .int v92), (3, .int c76), (4, .int c78)] [] 311 ML47_127_91 0 0 := by
            intro n
            induction n using Nat.strongRecOn with
            | ind n ih_L47_127_91 =>
            intro ML47_127_91 v92 IML47_127_91 FML47_127_91 hbL47_127_910 hbL47_127_911 hbL47_127_912 hmL47_127_91
            refine PW.iload_n q_47_127 rfl ?_
            refine PW.aload_n q_47_128 rfl ?_
            refine PW.gRk q_47_129 (Or.inl t_ft_47_32) gF_5_5 hk_k0 IML47_127_91.1 (by decide) fun b93 hk_b93 e_b93 => ?_
            refine PW.al1 q_47_132 rfl hk_b93 IML47_127_91.1 (by decide) (by decide) fun c94 hc94 => ?_
            refine PW.jc_ge q_47_133 rfl (fun h95 => ?_) (fun h95 => ?_)
            · skip
              refine PW.vret q_47_149 rfl (by decide) (by decide) ?_
              have T96 : gTT ML47_127_91 := by
                refine gSp.T (k := k0) I.2.1 IML47_127_91.2 hk_k0 (fun a h => gUp_ne h) (fun a h h13 => ?_) ?_ ?_
                · rw [hnfd86 a (by rw [hb_b80]; exact h13), hnfd71 a (by rw [hb_b64]; exact h)]
                · rw [gUp_eq, hnfd86 (k0 + 9) (by rw [hb_b80]; omega), ← hb_b64, hvfd71]; show 0 ≤ c2.toInt; omega
                · rw [gUp_eq, ← hb_b80, hvfd86]; show 0 ≤ c2.toInt; omega
              exact hK ML47_127_91 ⟨IML47_127_91.1, T96⟩ FML47_127_91 hbL47_127_912
            · skip
              refine PW.aload_n q_47_136 rfl ?_
              refine PW.gRk q_47_137 (Or.inl t_ft_47_32) gF_5_5 hk_k0 IML47_127_91.1 (by decide) fun b97 hk_b97 e_b97 => ?_
              refine PW.iload_n q_47_140 rfl ?_
              refine PW.cI q_47_141 (by decide) fun c98 hc98 => ?_
              refine PW.wI q_47_142 gA_13 hk_b97 (gSpS _ _) IML47_127_91 (by decide) rfl gC_13_0_35 (by decide) (by omega) (by omega) (n_lo _) (n_hi _) fun M99 IM99 fM99 UM99 => ?_
              have FM99 := Fr.pu FML47_127_91 UM99.1 hk_b97 (rfl : List.contains [5, 7, 9, 10, 13] 13 = true)
              refine PW.incN q_47_143 rfl (by decide) (by decide) (by omega) (by omega) fun x100 hx100 => ?_
              refine PW.goto q_47_146 rfl ?_
              refine PW.lvS (lk1 rfl (lk1 rfl (lk1 rfl (lk1 rfl (lk1 rfl lk0))))) (ih_L47_127_91 _ ?_ M99 x100 IM99 FM99 (by omega) (by omega) (hbL47_127_912.ar UM99.1 hk_b97 (by decide)) rfl)
              omega
          exact PW.lvS (lk1 rfl (lk1 rfl (lk1 rfl (lk1 rfl (lk1 rfl lk0))))) (L47_127_91 _ M85 c90 IM85 FM85 (by omega) (by omega) TM85 rfl)
        · skip
          refine PW.cI q_47_65 (by decide) fun c101 hc101 => ?_
          refine PW.goto q_47_66 rfl ?_
          refine PW.istore_n q_47_70 (by decide) ?_
          refine PW.iload_n q_47_71 rfl ?_
          refine PW.jz_eq q_47_72 rfl (fun h102 => False.elim (by omega)) (fun h102 => ?_)
          refine PW.aload_n q_47_75 rfl ?_
          refine PW.gRk q_47_76 (Or.inr t_fN_47_54) gF_4_13 hk_k1 IM70.1 (by decide) fun b103 hk_b103 e_b103 => ?_
          refine PW.iload_n q_47_79 rfl ?_
          refine PW.aI q_47_80 gA_32 hk_b103 IM70.1 (by decide) gB_32_1_1 (by decide) (by omega) (by omega) fun x104 fx104 hx104 kx104 => ?_
          have hs105 : 0 ≤ x104.toInt := by
            have q := hp_0 x72.toInt.toNat
            have qa : o_i (M k1) 7 = x16.toInt := by rw [← Fr.at FM70 hk_k1 rfl]; exact o_i_of ((congrArg (fun e => o_f e 7) (Fr.at GM70 hk_k1 (by decide))).trans fx16)
            have qe : b103 = k1 + 6 := e_b103
            have qb : o_a (M (k1 + 6)) x72.toInt.toNat = x104 := by rw [← qe, ← Fr.at FM70 hk_b103 rfl]; exact fx104
            rw [qa, qb] at q
            exact q (by omega)
          refine PW.goto q_47_81 rfl ?_
          refine PW.istore q_47_85 (by decide) ?_
          refine PW.aload_n q_47_87 rfl ?_
          refine PW.gRk q_47_88 (Or.inl t_ft_47_27) gF_5_4 hk_k0 IM70.1 (by decide) fun b106 hk_b106 e_b106 => ?_
          refine PW.iload_n q_47_91 rfl ?_
          refine PW.aRk q_47_92 rfl (by decide) (by decide) hk_b106 IM70.1 (by decide) (by omega) (by omega) fun b107 hk_b107 e_b107 => ?_
          have hb_b107 : b107 = k0 + 13 := by rw [e_b107, e_b106]; show k0 + 8 + 1 + 4 * _ = _; omega
          refine PW.aload_n q_47_93 rfl ?_
          refine PW.gRk q_47_94 (Or.inr t_fN_47_39) gF_4_9 hk_k1 IM70.1 (by decide) fun b108 hk_b108 e_b108 => ?_
          refine PW.iload q_47_97 rfl ?_
          refine PW.aH q_47_99 gA_28 hk_b108 IM70.1 (by decide) (by omega) (by omega) fun x109 fx109 => ?_
          refine PW.iload_n q_47_100 rfl ?_
          refine PW.jz_eq q_47_101 rfl (fun h110 => False.elim (by omega)) (fun h110 => ?_)
          refine PW.aload_n q_47_104 rfl ?_
          refine PW.gRk q_47_105 (Or.inr t_fN_47_57) gF_4_14 hk_k1 IM70.1 (by decide) fun b111 hk_b111 e_b111 => ?_
          refine PW.iload_n q_47_108 rfl ?_
          refine PW.aH q_47_109 gA_33 hk_b111 IM70.1 (by decide) (by omega) (by omega) fun x112 fx112 => ?_
          refine PW.goto q_47_110 rfl ?_
          refine PW.iload q_47_114 rfl ?_
          refine PW.cV (as := [_, _, _]) (rest := []) q_47_116 t_mv_47_60 hk_b107 IM70.1 (by decide) rfl (by decide) rfl rfl (Nat.le_of_ble_eq_true rfl) (Nat.le_of_ble_eq_true rfl) (by decide) (by decide) ?_
          refine PW.up (by decide) (c_X0_begin_w (gUp (gFs M) k0 (.int c2)) fd71 G _ M70 IM70 b107 hk_b107 x109 x112 x104 (by omega) (by omega) bw TM70 fun M113 fd114 hnfd114 hvfd114 IM113 GM113 TM113 => ?_)
          have FM113 := Fr.trans FM70 GM113 (rfl)
          refine PW.incN q_47_119 rfl (by decide) (by decide) (by omega) (by omega) fun x115 hx115 => ?_
          refine PW.goto q_47_122 rfl ?_
          refine PW.iload_n q_47_52 rfl ?_
          refine PW.cI q_47_53 (by decide) fun c116 hc116 => ?_
          refine PW.jc_ge q_47_54 rfl (fun h117 => ?_) (fun h117 => False.elim (by omega))
          refine PW.cI q_47_125 (by decide) fun c118 hc118 => ?_
          refine PW.istore_n q_47_126 (by decide) ?_
          have L47_127_119 : ∀ (n : Nat) (ML47_127_119 : pM) (v120 : Int32), Iv (gSp (gUp (gFs M) k0 (.int c2)) fd114) ML47_127_119 → Fr [5, 7, 9, 10, 13] M ML47_127_119 → 0 ≤ v120.toInt → v120.toInt ≤ 36 → gWb bw ML47_127_119 → (36 - v120.toInt).toNat = n → PW G false 2 47 (p_mc 47) (p_msl 47) Kr 127 [(0, .ref k0), (1, .ref k1), (2, .int v120), (3, .int c101), (4, .int x104)] [] 311 ML47_127_119 0 0 := by
            intro n
            induction n using Nat.strongRecOn with
            | ind n ih_L47_127_119 =>
            intro ML47_127_119 v120 IML47_127_119 FML47_127_119 hbL47_127_1190 hbL47_127_1191 hbL47_127_1192 hmL47_127_119
            refine PW.iload_n q_47_127 rfl ?_
            refine PW.aload_n q_47_128 rfl ?_
            refine PW.gRk q_47_129 (Or.inl t_ft_47_32) gF_5_5 hk_k0 IML47_127_119.1 (by decide) fun b121 hk_b121 e_b121 => ?_
            refine PW.al1 q_47_132 rfl hk_b121 IML47_127_119.1 (by decide) (by decide) fun c122 hc122 => ?_
            refine PW.jc_ge q_47_133 rfl (fun h123 => ?_) (fun h123 => ?_)
            · skip
              refine PW.vret q_47_149 rfl (by decide) (by decide) ?_
              have T124 : gTT ML47_127_119 := by
                refine gSp.T (k := k0) I.2.1 IML47_127_119.2 hk_k0 (fun a h => gUp_ne h) (fun a h h13 => ?_) ?_ ?_
                · rw [hnfd114 a (by rw [hb_b107]; exact h13), hnfd71 a (by rw [hb_b64]; exact h)]
                · rw [gUp_eq, hnfd114 (k0 + 9) (by rw [hb_b107]; omega), ← hb_b64, hvfd71]; show 0 ≤ c2.toInt; omega
                · rw [gUp_eq, ← hb_b107, hvfd114]; show 0 ≤ c2.toInt; omega
              exact hK ML47_127_119 ⟨IML47_127_119.1, T124⟩ FML47_127_119 hbL47_127_1192
            · skip
              refine PW.aload_n q_47_136 rfl ?_
              refine PW.gRk q_47_137 (Or.inl t_ft_47_32) gF_5_5 hk_k0 IML47_127_119.1 (by decide) fun b125 hk_b125 e_b125 => ?_
              refine PW.iload_n q_47_140 rfl ?_
              refine PW.cI q_47_141 (by decide) fun c126 hc126 => ?_
              refine PW.wI q_47_142 gA_13 hk_b125 (gSpS _ _) IML47_127_119 (by decide) rfl gC_13_0_35 (by decide) (by omega) (by omega) (n_lo _) (n_hi _) fun M127 IM127 fM127 UM127 => ?_
              have FM127 := Fr.pu FML47_127_119 UM127.1 hk_b125 (rfl : List.contains [5, 7, 9, 10, 13] 13 = true)
              refine PW.incN q_47_143 rfl (by decide) (by decide) (by omega) (by omega) fun x128 hx128 => ?_
              refine PW.goto q_47_146 rfl ?_
              refine PW.lvS (lk1 rfl (lk1 rfl (lk1 rfl (lk1 rfl (lk1 rfl lk0))))) (ih_L47_127_119 _ ?_ M127 x128 IM127 FM127 (by omega) (by omega) (hbL47_127_1192.ar UM127.1 hk_b125 (by decide)) rfl)
              omega
          exact PW.lvS (lk1 rfl (lk1 rfl (lk1 rfl (lk1 rfl (lk1 rfl lk0))))) (L47_127_119 _ M113 c118 IM113 FM113 (by omega) (by omega) TM113 rfl)
    · skip
      refine PW.aload_n q_47_23 rfl ?_
      refine PW.gRk q_47_24 (Or.inl t_ft_47_20) gF_5_3 hk_k0 IML47_17_9.1 (by decide) fun b129 hk_b129 e_b129 => ?_
      refine PW.iload_n q_47_27 rfl ?_
      refine PW.aRk q_47_28 rfl (by decide) (by decide) hk_b129 IML47_17_9.1 (by decide) (by omega) (by omega) fun b130 hk_b130 e_b130 => ?_
      refine PW.aload_n q_47_29 rfl ?_
      refine PW.gRk q_47_30 (Or.inr t_fN_47_39) gF_4_9 hk_k1 IML47_17_9.1 (by decide) fun b131 hk_b131 e_b131 => ?_
      refine PW.iload_n q_47_33 rfl ?_
      refine PW.aH q_47_34 gA_28 hk_b131 IML47_17_9.1 (by decide) (by omega) (by omega) fun x132 fx132 => ?_
      refine PW.aload_n q_47_35 rfl ?_
      refine PW.gRk q_47_36 (Or.inr t_fN_47_44) gF_4_11 hk_k1 IML47_17_9.1 (by decide) fun b133 hk_b133 e_b133 => ?_
      refine PW.iload_n q_47_39 rfl ?_
      refine PW.aZ q_47_40 gA_30 hk_b133 IML47_17_9.1 (by decide) gB_30_0_5 (by omega) (by omega) fun x134 fx134 hx134 kx134 => ?_
      refine PW.cV (as := [_, _]) (rest := []) q_47_41 t_mv_47_48 hk_b130 IML47_17_9.1 (by decide) rfl (by decide) rfl rfl (Nat.le_of_ble_eq_true rfl) (Nat.le_of_ble_eq_true rfl) (by decide) (by decide) ?_
      refine PW.up (by decide) (c_X8_begin (gSp (gUp (gFs M) k0 (.int c2)) (gFd M)) ((gSpS _ _)) G _ ML47_17_9 IML47_17_9 b130 hk_b130 x132 x134 (by omega) (by omega) fun M135 IM135 GM135 => ?_)
      have FM135 := Fr.trans FML47_17_9 GM135 (rfl)
      refine PW.incN q_47_44 rfl (by decide) (by decide) (by omega) (by omega) fun x136 hx136 => ?_
      refine PW.goto q_47_47 rfl ?_
      refine PW.lvS (lk1 rfl (lk1 rfl (lk1 rfl lk0))) (ih_L47_17_9 _ ?_ M135 x136 IM135 FM135 (by omega) (by omega) (hbL47_17_92.fr GM135 rfl) rfl)
      omega
  exact PW.lvS (lk1 rfl (lk1 rfl (lk1 rfl lk0))) (L47_17_9 _ M7 c8 IM7 FM7 (by omega) (by omega) (((hw.ar UM3.1 hk_k0 (by decide)).ar UM5.1 hk_k0 (by decide)).ar UM7.1 hk_k0 (by decide)) rfl)
theorem c_X5_passMany_w (G : pG) (Kr : pK) (M : pM) (I : Iv gTT M) (k0 : Nat) (hk_k0 : g_kd k0 = 5) (k1 : Nat) (hk_k1 : g_kd k1 = 4) (a2 : Int32) (hh_a2 : a2.toInt ≤ 60) (bw : Nat) (hw : gWb bw M) (hK : ∀ (M1 : pM), Iv gTT M1 → Fr [5, 7, 9, 10, 11, 12, 13] M M1 → (gWb bw M1) → Kr.1 none 311 M1) : PW G false 5 57 (p_mc 57) (p_msl 57) Kr 0 (lv_args 0 [.ref k0, .ref k1, .int a2]) [] 311 M 0 0 := by
  have F : Fr [5, 7, 9, 10, 11, 12, 13] M M := Fr.refl
  refine PW.cI q_57_0 (by decide) fun c1 hc1 => ?_
  refine PW.istore_n q_57_1 (by decide) ?_
  have L57_2_2 : ∀ (n : Nat) (ML57_2_2 : pM) (v3 : Int32), Iv (gTT) ML57_2_2 → Fr [5, 7, 9, 10, 11, 12, 13] M ML57_2_2 → 0 ≤ v3.toInt → v3.toInt ≤ 60 → gWb bw ML57_2_2 → (60 - v3.toInt).toNat = n → PW G false 5 57 (p_mc 57) (p_msl 57) Kr 2 [(0, .ref k0), (1, .ref k1), (2, .int a2), (3, .int v3)] [] 311 ML57_2_2 0 0 := by
    intro n
    induction n using Nat.strongRecOn with
    | ind n ih_L57_2_2 =>
    intro ML57_2_2 v3 IML57_2_2 FML57_2_2 hbL57_2_20 hbL57_2_21 hbL57_2_22 hmL57_2_2
    refine PW.iload_n q_57_2 rfl ?_
    refine PW.iload_n q_57_3 rfl ?_
    refine PW.jc_ge q_57_4 rfl (fun h4 => ?_) (fun h4 => ?_)
    · skip
      refine PW.vret q_57_19 rfl (by decide) (by decide) ?_
      exact hK ML57_2_2 IML57_2_2 FML57_2_2 hbL57_2_22
    · skip
      refine PW.aload_n q_57_7 rfl ?_
      refine PW.aload_n q_57_8 rfl ?_
      refine PW.cV (as := [_]) (rest := []) q_57_9 t_mv_57_139 hk_k0 IML57_2_2.1 (by decide) rfl (by decide) rfl rfl (Nat.le_of_ble_eq_true rfl) (Nat.le_of_ble_eq_true rfl) (by decide) (by decide) ?_
      refine PW.up (by decide) (c_X5_pass_w G _ ML57_2_2 IML57_2_2 k0 hk_k0 k1 hk_k1 bw hbL57_2_22 fun x6 M5 IM5 GM5 hx6 kx6 TM5 => ?_)
      have FM5 := Fr.trans FML57_2_2 GM5 (rfl)
      refine PW.pop q_57_12 rfl ?_
      refine PW.incN q_57_13 rfl (by decide) (by decide) (by omega) (by omega) fun x7 hx7 => ?_
      refine PW.goto q_57_16 rfl ?_
      refine PW.lvS (lk1 rfl (lk1 rfl (lk1 rfl (lk1 rfl lk0)))) (ih_L57_2_2 _ ?_ M5 x7 IM5 FM5 (by omega) (by omega) TM5 rfl)
      omega
  exact PW.lvS (lk1 rfl (lk1 rfl (lk1 rfl (lk1 rfl lk0)))) (L57_2_2 _ M c1 I F (by omega) (by omega) hw rfl)
theorem c_X5_passDrawn_w (G : pG) (Kr : pK) (M : pM) (I : Iv gTT M) (k0 : Nat) (hk_k0 : g_kd k0 = 5) (k1 : Nat) (hk_k1 : g_kd k1 = 4) (a2 : Int32) (a3 : Int32) (hh_a2 : a2.toInt ≤ 60) (bw : Nat) (hw : gWb bw M) (hK : ∀ (M1 : pM), Iv gTT M1 → Fr [5, 7, 9, 10, 11, 12, 13] M M1 → (gWb bw M1) → Kr.1 none 311 M1) : PW G false 5 58 (p_mc 58) (p_msl 58) Kr 0 (lv_args 0 [.ref k0, .ref k1, .int a2, .int a3]) [] 311 M 0 0 := by
  have F : Fr [5, 7, 9, 10, 11, 12, 13] M M := Fr.refl
  refine PW.iload_n q_58_0 rfl ?_
  refine PW.istore q_58_1 (by decide) ?_
  refine PW.cI q_58_3 (by decide) fun c1 hc1 => ?_
  refine PW.istore q_58_4 (by decide) ?_
  have L58_6_2 : ∀ (n : Nat) (ML58_6_2 : pM) (v3 v4 : Int32), Iv (gTT) ML58_6_2 → Fr [5, 7, 9, 10, 11, 12, 13] M ML58_6_2 → 0 ≤ v4.toInt → v4.toInt ≤ 60 → gWb bw ML58_6_2 → (60 - v4.toInt).toNat = n → PW G false 5 58 (p_mc 58) (p_msl 58) Kr 6 [(0, .ref k0), (1, .ref k1), (2, .int a2), (3, .int a3), (4, .int v3), (5, .int v4)] [] 311 ML58_6_2 0 0 := by
    intro n
    induction n using Nat.strongRecOn with
    | ind n ih_L58_6_2 =>
    intro ML58_6_2 v3 v4 IML58_6_2 FML58_6_2 hbL58_6_20 hbL58_6_21 hbL58_6_22 hmL58_6_2
    refine PW.iload q_58_6 rfl ?_
    refine PW.iload_n q_58_8 rfl ?_
    refine PW.jc_ge q_58_9 rfl (fun h5 => ?_) (fun h5 => ?_)
    · skip
      refine PW.vret q_58_77 rfl (by decide) (by decide) ?_
      exact hK ML58_6_2 IML58_6_2 FML58_6_2 hbL58_6_22
    · skip
      refine PW.aload_n q_58_12 rfl ?_
      refine PW.gI q_58_13 (Or.inl t_ft_58_36) gF_5_0 hk_k0 IML58_6_2.1 (by decide) fun x6 fx6 hx6 kx6 => ?_
      refine PW.cS q_58_16 (by decide) fun c7 hc7 => ?_
      refine PW.jc_ge q_58_19 rfl (fun h8 => ?_) (fun h8 => ?_)
      · skip
        refine PW.vret q_58_77 rfl (by decide) (by decide) ?_
        exact hK ML58_6_2 IML58_6_2 FML58_6_2 hbL58_6_22
      · skip
        refine PW.cI q_58_22 (by decide) fun c9 hc9 => ?_
        refine PW.istore q_58_23 (by decide) ?_
        have L58_25_10 : ∀ (n : Nat) (ML58_25_10 : pM) (v11 v12 : Int32), Iv (gTT) ML58_25_10 → Fr [5, 7, 9, 10, 11, 12, 13] M ML58_25_10 → 0 ≤ v12.toInt → v12.toInt ≤ 6 → gWb bw ML58_25_10 → (6 - v12.toInt).toNat = n → PW G false 5 58 (p_mc 58) (p_msl 58) Kr 25 [(0, .ref k0), (1, .ref k1), (2, .int a2), (3, .int a3), (4, .int v11), (5, .int v4), (6, .int v12)] [] 311 ML58_25_10 0 0 := by
          intro n
          induction n using Nat.strongRecOn with
          | ind n ih_L58_25_10 =>
          intro ML58_25_10 v11 v12 IML58_25_10 FML58_25_10 hbL58_25_100 hbL58_25_101 hbL58_25_102 hmL58_25_10
          refine PW.iload q_58_25 rfl ?_
          refine PW.aload_n q_58_27 rfl ?_
          refine PW.gI q_58_28 (Or.inr t_fN_58_117) gF_4_6 hk_k1 IML58_25_10.1 (by decide) fun x13 fx13 hx13 kx13 => ?_
          refine PW.jc_ge q_58_31 rfl (fun h14 => ?_) (fun h14 => ?_)
          · skip
            refine PW.aload_n q_58_65 rfl ?_
            refine PW.aload_n q_58_66 rfl ?_
            refine PW.cV (as := [_]) (rest := []) q_58_67 t_mv_58_139 hk_k0 IML58_25_10.1 (by decide) rfl (by decide) rfl rfl (Nat.le_of_ble_eq_true rfl) (Nat.le_of_ble_eq_true rfl) (by decide) (by decide) ?_
            refine PW.up (by decide) (c_X5_pass_w G _ ML58_25_10 IML58_25_10 k0 hk_k0 k1 hk_k1 bw hbL58_25_102 fun x16 M15 IM15 GM15 hx16 kx16 TM15 => ?_)
            have FM15 := Fr.trans FML58_25_10 GM15 (rfl)
            refine PW.pop q_58_70 rfl ?_
            refine PW.incN q_58_71 rfl (by decide) (by decide) (by omega) (by omega) fun x17 hx17 => ?_
            refine PW.goto q_58_74 rfl ?_
            refine PW.lvS (lk1 rfl (lk1 rfl (lk1 rfl (lk1 rfl (lk1 rfl (lk1 rfl lk0)))))) (ih_L58_6_2 _ ?_ M15 v11 x17 IM15 FM15 (by omega) (by omega) TM15 rfl)
            omega
          · skip
            refine PW.iload q_58_34 rfl ?_
            refine PW.ldc q_58_36 t_it_58_143 ?_
            refine PW.nmI ?_; intro c18 ec18
            have hc18 : c18.toInt = 1103515245 := by rw [ec18]; decide
            refine PW.mulH q_58_38 fun x19 => ?_
            refine PW.cS q_58_39 (by decide) fun c20 hc20 => ?_
            refine PW.addH q_58_42 fun x21 => ?_
            refine PW.istore q_58_43 (by decide) ?_
            refine PW.aload_n q_58_45 rfl ?_
            refine PW.iload q_58_46 rfl ?_
            refine PW.cB q_58_48 (by decide) fun c22 hc22 => ?_
            refine PW.ushrH q_58_50 fun x23 => ?_
            refine PW.cB q_58_51 (by decide) fun c24 hc24 => ?_
            refine PW.remH q_58_53 (by omega) fun x25 => ?_
            refine PW.iload q_58_54 rfl ?_
            refine PW.cV (as := [_, _]) (rest := []) q_58_56 t_mv_58_144 hk_k0 IML58_25_10.1 (by decide) rfl (by decide) rfl rfl (Nat.le_of_ble_eq_true rfl) (Nat.le_of_ble_eq_true rfl) (by decide) (by decide) ?_
            refine PW.up (by decide) (c_X5_performDrawn (gTT) (Stab0) G _ ML58_25_10 IML58_25_10 k0 hk_k0 x25 v12 (by omega) (by omega) fun M26 IM26 GM26 => ?_)
            have FM26 := Fr.trans FML58_25_10 GM26 (rfl)
            refine PW.incN q_58_59 rfl (by decide) (by decide) (by omega) (by omega) fun x27 hx27 => ?_
            refine PW.goto q_58_62 rfl ?_
            refine PW.lvS (lk1 rfl (lk1 rfl (lk1 rfl (lk1 rfl (lk1 rfl (lk1 rfl (lk1 rfl lk0))))))) (ih_L58_25_10 _ ?_ M26 x21 x27 IM26 FM26 (by omega) (by omega) (hbL58_25_102.fr GM26 rfl) rfl)
            omega
        exact PW.lvS (lk1 rfl (lk1 rfl (lk1 rfl (lk1 rfl (lk1 rfl (lk1 rfl (lk1 rfl lk0))))))) (L58_25_10 _ ML58_6_2 v3 c9 IML58_6_2 FML58_6_2 (by omega) (by omega) hbL58_6_22 rfl)
  exact PW.lvS (lk1 rfl (lk1 rfl (lk1 rfl (lk1 rfl (lk1 rfl (lk1 rfl lk0)))))) (L58_6_2 _ M a3 c1 I F (by omega) (by omega) hw rfl)
theorem c_X1_keep_w (G : pG) (Kr : pK) (M : pM) (I : Iv gTT M) (k1 : Nat) (hk_k1 : g_kd k1 = 5) (bw : Nat) (hw : gWb bw M) (hw_0 : k1 + 14 < bw) (hK : ∀ (M1 : pM), Iv gTT M1 → Fr [5, 7, 9, 10, 11, 12, 13, 21] M M1 → (gWb bw M1) → Kr.1 none 311 M1) : PW G false 4 13 (p_mc 13) (p_msl 13) Kr 0 (lv_args 0 [.ref 110, .ref k1]) [] 311 M 0 0 := by
  have F : Fr [5, 7, 9, 10, 11, 12, 13, 21] M M := Fr.refl
  refine PW.aload_n q_13_0 rfl ?_
  refine PW.gR 111 q_13_1 (Or.inl t_ft_13_11) gF_21_0 kd_110 I.1 (by decide) rfl ?_
  refine PW.aload_n q_13_4 rfl ?_
  refine PW.gI q_13_5 (Or.inl t_ft_13_18) gF_21_1 kd_110 I.1 (by decide) fun x1 fx1 hx1 kx1 => ?_
  refine PW.aload_n q_13_8 rfl ?_
  refine PW.gI q_13_9 (Or.inl t_ft_13_22) gF_21_2 kd_110 I.1 (by decide) fun x2 fx2 hx2 kx2 => ?_
  refine PW.addN q_13_12 (by omega) (by omega) fun x3 hx3 => ?_
  refine PW.cB q_13_13 (by decide) fun c4 hc4 => ?_
  refine PW.remP q_13_15 (by omega) (by omega) fun x5 hx5 kx5 ex5 => ?_
  clear ex5
  refine PW.aRk q_13_16 rfl (by decide) (by decide) kd_111 I.1 (by decide) (by omega) (by omega) fun b6 hk_b6 e_b6 => ?_
  refine PW.aload_n q_13_17 rfl ?_
  refine PW.cV (as := [_]) (rest := []) q_13_18 t_mv_13_25 hk_b6 I.1 (by decide) rfl (by decide) rfl rfl (Nat.le_of_ble_eq_true rfl) (Nat.le_of_ble_eq_true rfl) (by decide) (by decide) ?_
  refine PW.up (by decide) (c_X5_copyFrom_w G _ M I b6 hk_b6 k1 hk_k1 bw hw (by omega) fun M7 IM7 GM7 TM7 XM7 => ?_)
  have FM7 := Fr.trans F GM7 (rfl)
  refine PW.aload_n q_13_21 rfl ?_
  refine PW.gE q_13_22 (Or.inl t_ft_13_22) gF_21_2 kd_110 IM7.1 (by decide) ((congrArg (fun e => o_f e 2) (Fr.at GM7 kd_110 (by decide))).trans fx2) ?_
  refine PW.cB q_13_25 (by decide) fun c8 hc8 => ?_
  refine PW.jc_ge q_13_27 rfl (fun h9 => ?_) (fun h9 => ?_)
  · skip
    refine PW.aload_n q_13_43 rfl ?_
    refine PW.aload_n q_13_44 rfl ?_
    refine PW.gE q_13_45 (Or.inl t_ft_13_18) gF_21_1 kd_110 IM7.1 (by decide) ((congrArg (fun e => o_f e 1) (Fr.at GM7 kd_110 (by decide))).trans fx1) ?_
    refine PW.cI q_13_48 (by decide) fun c10 hc10 => ?_
    refine PW.addN q_13_49 (by omega) (by omega) fun x11 hx11 => ?_
    refine PW.cB q_13_50 (by decide) fun c12 hc12 => ?_
    refine PW.remP q_13_52 (by omega) (by omega) fun x13 hx13 kx13 ex13 => ?_
    clear ex13
    refine PW.pI q_13_53 (Or.inl t_ft_13_18) gF_21_1 gP_21_1 kd_110 Stab0 IM7 (by decide) rfl (by omega) (by omega) fun M14 IM14 fM14 UM14 => ?_
    have FM14 := Fr.pu FM7 UM14.1 kd_110 (rfl : List.contains [5, 7, 9, 10, 11, 12, 13, 21] 21 = true)
    refine PW.vret q_13_56 rfl (by decide) (by decide) ?_
    exact hK M14 IM14 FM14 (TM7.ar UM14.1 kd_110 (by decide))
  · skip
    refine PW.aload_n q_13_30 rfl ?_
    refine PW.dup q_13_31 rfl ?_
    refine PW.gE q_13_32 (Or.inl t_ft_13_22) gF_21_2 kd_110 IM7.1 (by decide) ((congrArg (fun e => o_f e 2) (Fr.at GM7 kd_110 (by decide))).trans fx2) ?_
    refine PW.cI q_13_35 (by decide) fun c15 hc15 => ?_
    refine PW.addN q_13_36 (by omega) (by omega) fun x16 hx16 => ?_
    refine PW.pI q_13_37 (Or.inl t_ft_13_22) gF_21_2 gP_21_2 kd_110 Stab0 IM7 (by decide) rfl (by omega) (by omega) fun M17 IM17 fM17 UM17 => ?_
    have FM17 := Fr.pu FM7 UM17.1 kd_110 (rfl : List.contains [5, 7, 9, 10, 11, 12, 13, 21] 21 = true)
    refine PW.goto q_13_40 rfl ?_
    refine PW.vret q_13_56 rfl (by decide) (by decide) ?_
    exact hK M17 IM17 FM17 (TM7.ar UM17.1 kd_110 (by decide))
theorem c_X1_giveBack_w (G : pG) (Kr : pK) (M : pM) (I : Iv gTT M) (k1 : Nat) (hk_k1 : g_kd k1 = 5) (bw : Nat) (hw : gWb bw M) (hw_0 : 275 ≤ bw) (hK : ∀ (M1 : pM), Iv gTT M1 → Fr [5, 7, 9, 10, 11, 12, 13, 21] M M1 → (gWb bw M1) → Kr.1 none 311 M1) : PW G false 4 14 (p_mc 14) (p_msl 14) Kr 0 (lv_args 0 [.ref 110, .ref k1]) [] 311 M 0 0 := by
  have F : Fr [5, 7, 9, 10, 11, 12, 13, 21] M M := Fr.refl
  refine PW.aload_n q_14_0 rfl ?_
  refine PW.gI q_14_1 (Or.inl t_ft_14_22) gF_21_2 kd_110 I.1 (by decide) fun x1 fx1 hx1 kx1 => ?_
  refine PW.jz_le q_14_4 rfl (fun h2 => ?_) (fun h2 => ?_)
  · skip
    refine PW.vret q_14_38 rfl (by decide) (by decide) ?_
    exact hK M I F hw
  · skip
    refine PW.aload_n q_14_7 rfl ?_
    refine PW.dup q_14_8 rfl ?_
    refine PW.gE q_14_9 (Or.inl t_ft_14_22) gF_21_2 kd_110 I.1 (by decide) fx1 ?_
    refine PW.cI q_14_12 (by decide) fun c3 hc3 => ?_
    refine PW.subN q_14_13 (by omega) (by omega) fun x4 hx4 => ?_
    refine PW.pI q_14_14 (Or.inl t_ft_14_22) gF_21_2 gP_21_2 kd_110 Stab0 I (by decide) rfl (by omega) (by omega) fun M5 IM5 fM5 UM5 => ?_
    have FM5 := Fr.pu F UM5.1 kd_110 (rfl : List.contains [5, 7, 9, 10, 11, 12, 13, 21] 21 = true)
    refine PW.aload_n q_14_17 rfl ?_
    refine PW.aload_n q_14_18 rfl ?_
    refine PW.gR 111 q_14_19 (Or.inl t_ft_14_11) gF_21_0 kd_110 IM5.1 (by decide) rfl ?_
    refine PW.aload_n q_14_22 rfl ?_
    refine PW.gI q_14_23 (Or.inl t_ft_14_18) gF_21_1 kd_110 IM5.1 (by decide) fun x6 fx6 hx6 kx6 => ?_
    refine PW.aload_n q_14_26 rfl ?_
    refine PW.gE q_14_27 (Or.inl t_ft_14_22) gF_21_2 kd_110 IM5.1 (by decide) fM5 ?_
    refine PW.addN q_14_30 (by omega) (by omega) fun x7 hx7 => ?_
    refine PW.cB q_14_31 (by decide) fun c8 hc8 => ?_
    refine PW.remP q_14_33 (by omega) (by omega) fun x9 hx9 kx9 ex9 => ?_
    clear ex9
    refine PW.aRk q_14_34 rfl (by decide) (by decide) kd_111 IM5.1 (by decide) (by omega) (by omega) fun b10 hk_b10 e_b10 => ?_
    refine PW.cV (as := [_]) (rest := []) q_14_35 t_mv_14_25 hk_k1 IM5.1 (by decide) rfl (by decide) rfl rfl (Nat.le_of_ble_eq_true rfl) (Nat.le_of_ble_eq_true rfl) (by decide) (by decide) ?_
    refine PW.up (by decide) (c_X5_copyFrom_w G _ M5 IM5 k1 hk_k1 b10 hk_b10 bw (hw.ar UM5.1 kd_110 (by decide)) (by rw [e_b10]; show 111 + 1 + 18 * _ + 14 < bw; omega) fun M11 IM11 GM11 TM11 XM11 => ?_)
    have FM11 := Fr.trans FM5 GM11 (rfl)
    refine PW.vret q_14_38 rfl (by decide) (by decide) ?_
    exact hK M11 IM11 FM11 TM11
theorem c_X6_playLine_w (G : pG) (Kr : pK) (M : pM) (I : Iv (gT6 G) M) (a1 : Int32) (k2 : Nat) (hk_k2 : g_kd k2 = 4) (k3 : Nat) (hk_k3 : g_kd k3 = 5) (hl_a1 : 0 ≤ a1.toInt) (hh_a1 : a1.toInt ≤ 39) (hp_0 : a1.toInt < o_i (M 272) 0) (bw : Nat) (hw : gWb bw M) (hK : ∀ (x : Int32) (M1 : pM), Iv (gT6 G) M1 → Fr [5, 7, 9, 10, 11, 12, 13] M M1 → (gWb bw M1) → Kr.1 (some (.int x)) 311 M1) : PW G false 5 71 (p_mc 71) (p_msl 71) Kr 0 (lv_args 0 [.ref 272, .int a1, .ref k2, .ref k3]) [] 311 M 0 0 := by
  have F : Fr [5, 7, 9, 10, 11, 12, 13] M M := Fr.refl
  refine PW.aload_n q_71_0 rfl ?_
  refine PW.gR 273 q_71_1 (Or.inl t_ft_71_11) gF_23_1 kd_272 I.1 (by decide) rfl ?_
  refine PW.iload_n q_71_4 rfl ?_
  refine PW.aW q_71_5 rfl (by decide) (by decide) kd_273 I.1 (by decide) (by omega) (by omega) fun r1 hr1 fr1 => ?_
  obtain ⟨r2, hr2, err2, hcr2⟩ := I.2.2 a1.toInt.toNat (by rw [Fr.at F kd_272 rfl]; omega)
  obtain rfl : r1 = some (65536 + r2) := fr1.symm.trans err2
  refine PW.gets q_71_6 t_st_71_35 ?_
  refine PW.ja_ne (rx := (some (65536 + r2))) (ry := (some (65536 + 16))) q_71_9 rfl (fun h3 => ?_) (fun h3 => ?_)
  · skip
    have hn5 := hcr2.resolve_left (fun q => h3 (by show (some (p_r G _)) = some (p_r G _); rw [p_wr, p_wr, q]))
    refine PW.aload_n q_71_60 rfl ?_
    refine PW.aload_n q_71_61 rfl ?_
    refine PW.gR 273 q_71_62 (Or.inl t_ft_71_11) gF_23_1 kd_272 I.1 (by decide) rfl ?_
    refine PW.iload_n q_71_65 rfl ?_
    refine PW.aW q_71_66 rfl (by decide) (by decide) kd_273 I.1 (by decide) (by omega) (by omega) fun r4 hr4 fr4 => ?_
    obtain ⟨r5, hr5, err5, hcr5⟩ := I.2.2 a1.toInt.toNat (by rw [Fr.at F kd_272 rfl]; omega)
    obtain rfl : r4 = some (65536 + r5) := fr4.symm.trans err5
    refine PW.aload_n q_71_67 rfl ?_
    refine PW.gR 274 q_71_68 (Or.inl t_ft_71_17) gF_23_2 kd_272 I.1 (by decide) rfl ?_
    refine PW.iload_n q_71_71 rfl ?_
    refine PW.aH q_71_72 gA_25 kd_274 I.1 (by decide) (by omega) (by omega) fun x6 fx6 => ?_
    have hxx6 : x6.toInt = (o_a (M 274) a1.toInt.toNat).toInt := by rw [← Fr.at F kd_274 rfl]; exact congrArg Int32.toInt fx6.symm
    have hwx6 := hn5.1
    have hvx6 := hn5.2
    refine PW.cV (as := [_, _]) (rest := []) q_71_73 t_mv_71_135 hk_k3 I.1 (by decide) rfl (by decide) rfl rfl (Nat.le_of_ble_eq_true rfl) (Nat.le_of_ble_eq_true rfl) (by decide) (by decide) ?_
    refine PW.up (by decide) (c_X5_whyNot (gT6 G) ((Stab6 G)) G _ M I k3 hk_k3 r5 hr5 x6 (by omega) (by omega) fun x8 M7 IM7 GM7 hx8 kx8 => ?_)
    have FM7 := Fr.trans F GM7 (rfl)
    refine PW.istore q_71_76 (by decide) ?_
    refine PW.iload q_71_78 rfl ?_
    refine PW.jz_ne q_71_80 rfl (fun h9 => ?_) (fun h9 => ?_)
    · skip
      refine PW.aload_n q_71_101 rfl ?_
      refine PW.gR 273 q_71_102 (Or.inl t_ft_71_11) gF_23_1 kd_272 IM7.1 (by decide) rfl ?_
      refine PW.iload_n q_71_105 rfl ?_
      refine PW.aW q_71_106 rfl (by decide) (by decide) kd_273 IM7.1 (by decide) (by omega) (by omega) fun r10 hr10 fr10 => ?_
      obtain ⟨r11, hr11, err11, hcr11⟩ := IM7.2.2 a1.toInt.toNat (by rw [Fr.at FM7 kd_272 rfl]; omega)
      obtain rfl : r10 = some (65536 + r11) := fr10.symm.trans err11
      refine PW.gets q_71_107 t_st_71_87 ?_
      refine PW.ja_ne (rx := (some (65536 + r11))) (ry := (some (65536 + 11))) q_71_110 rfl (fun h12 => ?_) (fun h12 => ?_)
      · skip
        refine PW.iload q_71_116 rfl ?_
        refine PW.aload_n q_71_118 rfl ?_
        refine PW.gR 273 q_71_119 (Or.inl t_ft_71_11) gF_23_1 kd_272 IM7.1 (by decide) rfl ?_
        refine PW.iload_n q_71_122 rfl ?_
        refine PW.aW q_71_123 rfl (by decide) (by decide) kd_273 IM7.1 (by decide) (by omega) (by omega) fun r13 hr13 fr13 => ?_
        obtain ⟨r14, hr14, err14, hcr14⟩ := IM7.2.2 a1.toInt.toNat (by rw [Fr.at FM7 kd_272 rfl]; omega)
        obtain rfl : r13 = some (65536 + r14) := fr13.symm.trans err14
        refine PW.gets q_71_124 t_st_71_90 ?_
        refine PW.ja_ne (rx := (some (65536 + r14))) (ry := (some (65536 + 12))) q_71_127 rfl (fun h15 => ?_) (fun h15 => ?_)
        · skip
          refine PW.cB q_71_135 (by decide) fun c16 hc16 => ?_
          refine PW.addN q_71_137 (by omega) (by omega) fun x17 hx17 => ?_
          refine PW.rI q_71_138 rfl (by decide) (by decide) ?_
          exact hK x17 M7 IM7 FM7 (hw.fr GM7 rfl)
        · skip
          refine PW.cB q_71_130 (by decide) fun c18 hc18 => ?_
          refine PW.goto q_71_132 rfl ?_
          refine PW.addN q_71_137 (by omega) (by omega) fun x19 hx19 => ?_
          refine PW.rI q_71_138 rfl (by decide) (by decide) ?_
          exact hK x19 M7 IM7 FM7 (hw.fr GM7 rfl)
      · skip
        refine PW.iload q_71_113 rfl ?_
        refine PW.rI q_71_115 rfl (by decide) (by decide) ?_
        exact hK x8 M7 IM7 FM7 (hw.fr GM7 rfl)
    · skip
      refine PW.aload_n q_71_83 rfl ?_
      refine PW.aload_n q_71_84 rfl ?_
      refine PW.gR 273 q_71_85 (Or.inl t_ft_71_11) gF_23_1 kd_272 IM7.1 (by decide) rfl ?_
      refine PW.iload_n q_71_88 rfl ?_
      refine PW.aW q_71_89 rfl (by decide) (by decide) kd_273 IM7.1 (by decide) (by omega) (by omega) fun r20 hr20 fr20 => ?_
      obtain ⟨r21, hr21, err21, hcr21⟩ := IM7.2.2 a1.toInt.toNat (by rw [Fr.at FM7 kd_272 rfl]; omega)
      obtain rfl : r20 = some (65536 + r21) := fr20.symm.trans err21
      refine PW.aload_n q_71_90 rfl ?_
      refine PW.gR 274 q_71_91 (Or.inl t_ft_71_17) gF_23_2 kd_272 IM7.1 (by decide) rfl ?_
      refine PW.iload_n q_71_94 rfl ?_
      refine PW.aH q_71_95 gA_25 kd_274 IM7.1 (by decide) (by omega) (by omega) fun x22 fx22 => ?_
      have hxx22 : x22.toInt = (o_a (M 274) a1.toInt.toNat).toInt := by rw [← Fr.at FM7 kd_274 rfl]; exact congrArg Int32.toInt fx22.symm
      have hwx22 := hn5.1
      have hvx22 := hn5.2
      refine PW.cV (as := [_, _]) (rest := []) q_71_96 t_mv_71_139 hk_k3 IM7.1 (by decide) rfl (by decide) rfl rfl (Nat.le_of_ble_eq_true rfl) (Nat.le_of_ble_eq_true rfl) (by decide) (by decide) ?_
      refine PW.up (by decide) (c_X5_perform (gT6 G) ((Stab6 G)) G _ M7 IM7 k3 hk_k3 r21 hr21 x22 (by omega) (by omega) fun M23 IM23 GM23 => ?_)
      have FM23 := Fr.trans FM7 GM23 (rfl)
      refine PW.cI q_71_99 (by decide) fun c24 hc24 => ?_
      refine PW.rI q_71_100 rfl (by decide) (by decide) ?_
      exact hK c24 M23 IM23 FM23 ((hw.fr GM7 rfl).fr GM23 rfl)
  · skip
    refine PW.aload_n q_71_12 rfl ?_
    refine PW.gR 274 q_71_13 (Or.inl t_ft_71_17) gF_23_2 kd_272 I.1 (by decide) rfl ?_
    refine PW.iload_n q_71_16 rfl ?_
    refine PW.aH q_71_17 gA_25 kd_274 I.1 (by decide) (by omega) (by omega) fun x25 fx25 => ?_
    refine PW.cS q_71_18 (by decide) fun c26 hc26 => ?_
    refine PW.aload_n q_71_21 rfl ?_
    refine PW.gI q_71_22 (Or.inr t_fN_71_122) gF_5_0 hk_k3 I.1 (by decide) fun x27 fx27 hx27 kx27 => ?_
    refine PW.subN q_71_25 (by omega) (by omega) fun x28 hx28 => ?_
    refine PW.jc_le q_71_26 rfl (fun h29 => ?_) (fun h29 => ?_)
    · skip
      refine PW.cI q_71_32 (by decide) fun c30 hc30 => ?_
      refine PW.istore q_71_33 (by decide) ?_
      have L71_35_31 : ∀ (n : Nat) (ML71_35_31 : pM) (v32 : Int32), Iv (gT6 G) ML71_35_31 → Fr [5, 7, 9, 10, 11, 12, 13] M ML71_35_31 → 0 ≤ v32.toInt → gWb bw ML71_35_31 → ((o_a (M 274) a1.toInt.toNat).toInt - v32.toInt).toNat = n → PW G false 5 71 (p_mc 71) (p_msl 71) Kr 35 [(0, .ref 272), (1, .int a1), (2, .ref k2), (3, .ref k3), (4, .int v32)] [] 311 ML71_35_31 0 0 := by
        intro n
        induction n using Nat.strongRecOn with
        | ind n ih_L71_35_31 =>
        intro ML71_35_31 v32 IML71_35_31 FML71_35_31 hbL71_35_310 hbL71_35_311 hmL71_35_31
        refine PW.iload q_71_35 rfl ?_
        refine PW.aload_n q_71_37 rfl ?_
        refine PW.gR 274 q_71_38 (Or.inl t_ft_71_17) gF_23_2 kd_272 IML71_35_31.1 (by decide) rfl ?_
        refine PW.iload_n q_71_41 rfl ?_
        refine PW.aH q_71_42 gA_25 kd_274 IML71_35_31.1 (by decide) (by omega) (by omega) fun x33 fx33 => ?_
        have hxx33 : o_a (M 274) a1.toInt.toNat = x33 := by rw [← Fr.at FML71_35_31 kd_274 rfl]; exact fx33
        have hyx33 : (o_a (M 274) a1.toInt.toNat).toInt = x33.toInt := by rw [hxx33]
        have hhx33 := n_hi x33
        refine PW.jc_ge q_71_43 rfl (fun h34 => ?_) (fun h34 => ?_)
        · skip
          refine PW.cI q_71_58 (by decide) fun c35 hc35 => ?_
          refine PW.rI q_71_59 rfl (by decide) (by decide) ?_
          exact hK c35 ML71_35_31 IML71_35_31 FML71_35_31 hbL71_35_311
        · skip
          refine PW.aload_n q_71_46 rfl ?_
          refine PW.aload_n q_71_47 rfl ?_
          refine PW.cV (as := [_]) (rest := []) q_71_48 t_mv_71_131 hk_k3 IML71_35_31.1 (by decide) rfl (by decide) rfl rfl (Nat.le_of_ble_eq_true rfl) (Nat.le_of_ble_eq_true rfl) (by decide) (by decide) ?_
          refine PW.up (by decide) (c_X5_pass_w G _ ML71_35_31 ⟨IML71_35_31.1, IML71_35_31.2.1⟩ k3 hk_k3 k2 hk_k2 bw hbL71_35_311 fun x37 M36 IM36 GM36 hx37 kx37 TM36 => ?_)
          have FM36 := Fr.trans FML71_35_31 GM36 (rfl)
          have LM36 : Iv (gT6 G) M36 := ⟨IM36.1, IM36.2, gS6.same IML71_35_31.2.2 (Fr.at GM36 kd_272 rfl) (Fr.at GM36 kd_273 rfl) (Fr.at GM36 kd_274 rfl)⟩
          refine PW.pop q_71_51 rfl ?_
          refine PW.incN q_71_52 rfl (by decide) (by decide) (by have := n_lo v32; have := n_hi v32; omega) (by have := n_lo v32; have := n_hi v32; omega) fun x38 hx38 => ?_
          refine PW.goto q_71_55 rfl ?_
          refine PW.lvS (lk1 rfl (lk1 rfl (lk1 rfl (lk1 rfl (lk1 rfl lk0))))) (ih_L71_35_31 _ ?_ M36 x38 LM36 FM36 (by omega) TM36 rfl)
          omega
      exact PW.lvS (lk1 rfl (lk1 rfl (lk1 rfl (lk1 rfl (lk1 rfl lk0))))) (L71_35_31 _ M c30 I F (by omega) hw rfl)
    · skip
      refine PW.cB q_71_29 (by decide) fun c39 hc39 => ?_
      refine PW.rI q_71_31 rfl (by decide) (by decide) ?_
      exact hK c39 M I F hw
theorem c_X6_play_w (G : pG) (Kr : pK) (M : pM) (I : Iv (gT6 G) M) (k1 : Nat) (hk_k1 : g_kd k1 = 4) (k2 : Nat) (hk_k2 : g_kd k2 = 5) (bw : Nat) (hw : gWb bw M) (hK : ∀ (x : Int32) (M1 : pM), Iv (gT6 G) M1 → Fr [5, 7, 9, 10, 11, 12, 13, 23] M M1 → (gWb bw M1) → Kr.1 (some (.int x)) 311 M1) : PW G false 6 70 (p_mc 70) (p_msl 70) Kr 0 (lv_args 0 [.ref 272, .ref k1, .ref k2]) [] 311 M 0 0 := by
  have F : Fr [5, 7, 9, 10, 11, 12, 13, 23] M M := Fr.refl
  refine PW.aload_n q_70_0 rfl ?_
  refine PW.cV (as := []) (rest := []) q_70_1 t_mv_70_102 hk_k2 I.1 (by decide) rfl (by decide) rfl rfl (Nat.le_of_ble_eq_true rfl) (Nat.le_of_ble_eq_true rfl) (by decide) (by decide) ?_
  refine PW.up (by decide) (c_X5_allTurns (gT6 G) ((Stab6 G)) G _ M I k2 hk_k2 fun x2 M1 IM1 GM1 => ?_)
  have FM1 := Fr.trans F GM1 (rfl)
  refine PW.istore_n q_70_4 (by decide) ?_
  refine PW.aload_n q_70_5 rfl ?_
  refine PW.cI q_70_6 (by decide) fun c3 hc3 => ?_
  refine PW.pI q_70_7 (Or.inl t_ft_70_108) gF_23_4 gP_23_4 kd_272 (Stab6 G) IM1 (by decide) rfl (n_lo _) (n_hi _) fun M4 IM4 fM4 UM4 => ?_
  have FM4 := Fr.pu FM1 UM4.1 kd_272 (rfl : List.contains [5, 7, 9, 10, 11, 12, 13, 23] 23 = true)
  refine PW.aload_n q_70_10 rfl ?_
  refine PW.cI q_70_11 (by decide) fun c5 hc5 => ?_
  refine PW.pI q_70_12 (Or.inl t_ft_70_111) gF_23_5 gP_23_5 kd_272 (Stab6 G) IM4 (by decide) rfl (n_lo _) (n_hi _) fun M6 IM6 fM6 UM6 => ?_
  have FM6 := Fr.pu FM4 UM6.1 kd_272 (rfl : List.contains [5, 7, 9, 10, 11, 12, 13, 23] 23 = true)
  refine PW.cI q_70_15 (by decide) fun c7 hc7 => ?_
  refine PW.istore q_70_16 (by decide) ?_
  have L70_18_8 : ∀ (n : Nat) (ML70_18_8 : pM) (v9 : Int32), Iv (gT6 G) ML70_18_8 → Fr [5, 7, 9, 10, 11, 12, 13, 23] M ML70_18_8 → 0 ≤ v9.toInt → v9.toInt ≤ 40 → gWb bw ML70_18_8 → (40 - v9.toInt).toNat = n → PW G false 6 70 (p_mc 70) (p_msl 70) Kr 18 [(0, .ref 272), (1, .ref k1), (2, .ref k2), (3, .int x2), (4, .int v9)] [] 311 ML70_18_8 0 0 := by
    intro n
    induction n using Nat.strongRecOn with
    | ind n ih_L70_18_8 =>
    intro ML70_18_8 v9 IML70_18_8 FML70_18_8 hbL70_18_80 hbL70_18_81 hbL70_18_82 hmL70_18_8
    refine PW.iload q_70_18 rfl ?_
    refine PW.aload_n q_70_20 rfl ?_
    refine PW.gI q_70_21 (Or.inl t_ft_70_21) gF_23_0 kd_272 IML70_18_8.1 (by decide) fun x10 fx10 hx10 kx10 => ?_
    have J69_12 : ∀ (MJ69_12 : pM), Iv (gT6 G) MJ69_12 → Fr [5, 7, 9, 10, 11, 12, 13, 23] M MJ69_12 → o_f (MJ69_12 272) 0 = .int x10 → gWb bw MJ69_12 → PW G false 6 70 (p_mc 70) (p_msl 70) Kr 69 [(0, .ref 272), (1, .ref k1), (2, .ref k2), (3, .int x2), (4, .int v9)] [] 311 MJ69_12 0 0 := by
      intro MJ69_12  IMJ69_12 FMJ69_12 hbJ69_120 hbJ69_121
      refine PW.aload_n q_70_69 rfl ?_
      refine PW.cI q_70_70 (by decide) fun c13 hc13 => ?_
      refine PW.pI q_70_71 (Or.inl t_ft_70_118) gF_23_3 gP_23_3 kd_272 (Stab6 G) IMJ69_12 (by decide) rfl (by omega) (by omega) fun M14 IM14 fM14 UM14 => ?_
      have FM14 := Fr.pu FMJ69_12 UM14.1 kd_272 (rfl : List.contains [5, 7, 9, 10, 11, 12, 13, 23] 23 = true)
      refine PW.aload_n q_70_74 rfl ?_
      refine PW.aload_n q_70_75 rfl ?_
      refine PW.gI q_70_76 (Or.inr t_fN_70_122) gF_5_0 hk_k2 IM14.1 (by decide) fun x15 fx15 hx15 kx15 => ?_
      refine PW.pI q_70_79 (Or.inl t_ft_70_125) gF_23_6 gP_23_6 kd_272 (Stab6 G) IM14 (by decide) rfl (n_lo _) (n_hi _) fun M16 IM16 fM16 UM16 => ?_
      have FM16 := Fr.pu FM14 UM16.1 kd_272 (rfl : List.contains [5, 7, 9, 10, 11, 12, 13, 23] 23 = true)
      refine PW.aload_n q_70_82 rfl ?_
      refine PW.aload_n q_70_83 rfl ?_
      refine PW.cV (as := []) (rest := [_]) q_70_84 t_mv_70_102 hk_k2 IM16.1 (by decide) rfl (by decide) rfl rfl (Nat.le_of_ble_eq_true rfl) (Nat.le_of_ble_eq_true rfl) (by decide) (by decide) ?_
      refine PW.up (by decide) (c_X5_allTurns (gT6 G) ((Stab6 G)) G _ M16 IM16 k2 hk_k2 fun x18 M17 IM17 GM17 => ?_)
      have FM17 := Fr.trans FM16 GM17 (rfl)
      refine PW.iload_n q_70_87 rfl ?_
      refine PW.subH q_70_88 fun x19 => ?_
      refine PW.pI q_70_89 (Or.inl t_ft_70_128) gF_23_7 gP_23_7 kd_272 (Stab6 G) IM17 (by decide) rfl (n_lo _) (n_hi _) fun M20 IM20 fM20 UM20 => ?_
      have FM20 := Fr.pu FM17 UM20.1 kd_272 (rfl : List.contains [5, 7, 9, 10, 11, 12, 13, 23] 23 = true)
      refine PW.aload_n q_70_92 rfl ?_
      refine PW.gI q_70_93 (Or.inl t_ft_70_108) gF_23_4 kd_272 IM20.1 (by decide) fun x21 fx21 hx21 kx21 => ?_
      clear hx21 kx21
      refine PW.jz_ne q_70_96 rfl (fun h22 => ?_) (fun h22 => ?_)
      · skip
        refine PW.aload_n q_70_103 rfl ?_
        refine PW.gI q_70_104 (Or.inl t_ft_70_111) gF_23_5 kd_272 IM20.1 (by decide) fun x23 fx23 hx23 kx23 => ?_
        clear hx23 kx23
        refine PW.rI q_70_107 rfl (by decide) (by decide) ?_
        exact hK x23 M20 IM20 FM20 ((((hbJ69_121.ar UM14.1 kd_272 (by decide)).ar UM16.1 kd_272 (by decide)).fr GM17 rfl).ar UM20.1 kd_272 (by decide))
      · skip
        refine PW.cI q_70_99 (by decide) fun c24 hc24 => ?_
        refine PW.goto q_70_100 rfl ?_
        refine PW.rI q_70_107 rfl (by decide) (by decide) ?_
        exact hK c24 M20 IM20 FM20 ((((hbJ69_121.ar UM14.1 kd_272 (by decide)).ar UM16.1 kd_272 (by decide)).fr GM17 rfl).ar UM20.1 kd_272 (by decide))
    refine PW.jc_ge q_70_24 rfl (fun h11 => ?_) (fun h11 => ?_)
    · skip
      exact PW.lvS (lk1 rfl (lk1 rfl (lk1 rfl (lk1 rfl (lk1 rfl lk0))))) (J69_12 ML70_18_8  IML70_18_8 FML70_18_8 fx10 hbL70_18_82)
    · skip
      refine PW.aload_n q_70_27 rfl ?_
      refine PW.gI q_70_28 (Or.inl t_ft_70_108) gF_23_4 kd_272 IML70_18_8.1 (by decide) fun x25 fx25 hx25 kx25 => ?_
      clear hx25 kx25
      refine PW.jz_ne q_70_31 rfl (fun h26 => ?_) (fun h26 => ?_)
      · skip
        exact PW.lvS (lk1 rfl (lk1 rfl (lk1 rfl (lk1 rfl (lk1 rfl lk0))))) (J69_12 ML70_18_8  IML70_18_8 FML70_18_8 fx10 hbL70_18_82)
      · skip
        refine PW.aload_n q_70_34 rfl ?_
        refine PW.aload_n q_70_35 rfl ?_
        refine PW.iload q_70_36 rfl ?_
        refine PW.aload_n q_70_38 rfl ?_
        refine PW.aload_n q_70_39 rfl ?_
        refine PW.cV (as := [_, _, _]) (rest := [_]) q_70_40 t_mv_70_114 kd_272 IML70_18_8.1 (by decide) rfl (by decide) rfl rfl (Nat.le_of_ble_eq_true rfl) (Nat.le_of_ble_eq_true rfl) (by decide) (by decide) ?_
        have hl26 := o_i_of fx10
        refine PW.up (by decide) (c_X6_playLine_w G _ ML70_18_8 IML70_18_8 v9 k1 hk_k1 k2 hk_k2 (by omega) (by omega) (by omega) bw hbL70_18_82 fun x29 M28 IM28 GM28 TM28 => ?_)
        have FM28 := Fr.trans FML70_18_8 GM28 (rfl)
        refine PW.pI q_70_43 (Or.inl t_ft_70_108) gF_23_4 gP_23_4 kd_272 (Stab6 G) IM28 (by decide) rfl (n_lo _) (n_hi _) fun M30 IM30 fM30 UM30 => ?_
        have FM30 := Fr.pu FM28 UM30.1 kd_272 (rfl : List.contains [5, 7, 9, 10, 11, 12, 13, 23] 23 = true)
        refine PW.aload_n q_70_46 rfl ?_
        refine PW.gE q_70_47 (Or.inl t_ft_70_108) gF_23_4 kd_272 IM30.1 (by decide) fM30 ?_
        have J63_32 : ∀ (MJ63_32 : pM), Iv (gT6 G) MJ63_32 → Fr [5, 7, 9, 10, 11, 12, 13, 23] M MJ63_32 → o_f (MJ63_32 272) 0 = .int x10 → o_f (MJ63_32 272) 4 = .int x29 → gWb bw MJ63_32 → PW G false 6 70 (p_mc 70) (p_msl 70) Kr 63 [(0, .ref 272), (1, .ref k1), (2, .ref k2), (3, .int x2), (4, .int v9)] [] 311 MJ63_32 0 0 := by
          intro MJ63_32  IMJ63_32 FMJ63_32 hbJ63_320 hbJ63_321 hbJ63_322
          refine PW.incN q_70_63 rfl (by decide) (by decide) (by omega) (by omega) fun x33 hx33 => ?_
          refine PW.goto q_70_66 rfl ?_
          refine PW.lvS (lk1 rfl (lk1 rfl (lk1 rfl (lk1 rfl (lk1 rfl lk0))))) (ih_L70_18_8 _ ?_ MJ63_32 x33 IMJ63_32 FMJ63_32 (by omega) (by omega) hbJ63_322 rfl)
          omega
        refine PW.jz_ne q_70_50 rfl (fun h31 => ?_) (fun h31 => ?_)
        · skip
          exact PW.lvS (lk1 rfl (lk1 rfl (lk1 rfl (lk1 rfl (lk1 rfl lk0))))) (J63_32 M30  IM30 FM30 ((UM30.f (Or.inr (by decide))).trans ((congrArg (fun e => o_f e 0) (Fr.at GM28 kd_272 (by decide))).trans fx10)) fM30 (TM28.ar UM30.1 kd_272 (by decide)))
        · skip
          refine PW.aload_n q_70_53 rfl ?_
          refine PW.dup q_70_54 rfl ?_
          refine PW.gI q_70_55 (Or.inl t_ft_70_111) gF_23_5 kd_272 IM30.1 (by decide) fun x34 fx34 hx34 kx34 => ?_
          clear hx34 kx34
          refine PW.cI q_70_58 (by decide) fun c35 hc35 => ?_
          refine PW.addH q_70_59 fun x36 => ?_
          refine PW.pI q_70_60 (Or.inl t_ft_70_111) gF_23_5 gP_23_5 kd_272 (Stab6 G) IM30 (by decide) rfl (n_lo _) (n_hi _) fun M37 IM37 fM37 UM37 => ?_
          have FM37 := Fr.pu FM30 UM37.1 kd_272 (rfl : List.contains [5, 7, 9, 10, 11, 12, 13, 23] 23 = true)
          exact PW.lvS (lk1 rfl (lk1 rfl (lk1 rfl (lk1 rfl (lk1 rfl lk0))))) (J63_32 M37  IM37 FM37 ((UM37.f (Or.inr (by decide))).trans ((UM30.f (Or.inr (by decide))).trans ((congrArg (fun e => o_f e 0) (Fr.at GM28 kd_272 (by decide))).trans fx10))) ((UM37.f (Or.inr (by decide))).trans fM30) ((TM28.ar UM30.1 kd_272 (by decide)).ar UM37.1 kd_272 (by decide)))
  exact PW.lvS (lk1 rfl (lk1 rfl (lk1 rfl (lk1 rfl (lk1 rfl lk0))))) (L70_18_8 _ M6 c7 IM6 FM6 (by omega) (by omega) (((hw.fr GM1 rfl).ar UM4.1 kd_272 (by decide)).ar UM6.1 kd_272 (by decide)) rfl)
theorem c_X10_copyFrom_w (G : pG) (Kr : pK) (M : pM) (I : Iv gTT M) (k0 : Nat) (hk_k0 : g_kd k0 = 3) (k1 : Nat) (hk_k1 : g_kd k1 = 3) (bw : Nat) (hw : gWb bw M) (hw_0 : k1 + 26 < bw) (hK : ∀ (M1 : pM), Iv gTT M1 → Fr [4, 5, 7, 9, 10, 11, 12, 13, 14, 15, 16, 17, 27, 28, 29, 30, 31, 32, 33, 34, 35, 36] M M1 → (gWb bw M1) → Kr.1 none 311 M1) : PW G false 4 98 (p_mc 98) (p_msl 98) Kr 0 (lv_args 0 [.ref k0, .ref k1]) [] 311 M 0 0 := by
  have F : Fr [4, 5, 7, 9, 10, 11, 12, 13, 14, 15, 16, 17, 27, 28, 29, 30, 31, 32, 33, 34, 35, 36] M M := Fr.refl
  refine PW.aload_n q_98_0 rfl ?_
  refine PW.gRk q_98_1 (Or.inl t_ft_98_10) gF_3_0 hk_k0 I.1 (by decide) fun b1 hk_b1 e_b1 => ?_
  refine PW.aload_n q_98_4 rfl ?_
  refine PW.gRk q_98_5 (Or.inl t_ft_98_10) gF_3_0 hk_k1 I.1 (by decide) fun b2 hk_b2 e_b2 => ?_
  refine PW.cV (as := [_]) (rest := []) q_98_8 t_mv_98_30 hk_b1 I.1 (by decide) rfl (by decide) rfl rfl (Nat.le_of_ble_eq_true rfl) (Nat.le_of_ble_eq_true rfl) (by decide) (by decide) ?_
  refine PW.up (by decide) (c_X3_copyFrom G _ M I b1 hk_b1 b2 hk_b2 fun M3 IM3 GM3 => ?_)
  have FM3 := Fr.trans F GM3 (rfl)
  refine PW.aload_n q_98_11 rfl ?_
  refine PW.gRk q_98_12 (Or.inl t_ft_98_19) gF_3_1 hk_k0 IM3.1 (by decide) fun b4 hk_b4 e_b4 => ?_
  refine PW.aload_n q_98_15 rfl ?_
  refine PW.gRk q_98_16 (Or.inl t_ft_98_19) gF_3_1 hk_k1 IM3.1 (by decide) fun b5 hk_b5 e_b5 => ?_
  refine PW.cV (as := [_]) (rest := []) q_98_19 t_mv_98_34 hk_b4 IM3.1 (by decide) rfl (by decide) rfl rfl (Nat.le_of_ble_eq_true rfl) (Nat.le_of_ble_eq_true rfl) (by decide) (by decide) ?_
  refine PW.up (by decide) (c_X5_copyFrom_w G _ M3 IM3 b4 hk_b4 b5 hk_b5 bw (hw.fr GM3 rfl) (by omega) fun M6 IM6 GM6 TM6 XM6 => ?_)
  have FM6 := Fr.trans FM3 GM6 (rfl)
  refine PW.aload_n q_98_22 rfl ?_
  refine PW.gRk q_98_23 (Or.inl t_ft_98_26) gF_3_2 hk_k0 IM6.1 (by decide) fun b7 hk_b7 e_b7 => ?_
  refine PW.aload_n q_98_26 rfl ?_
  refine PW.gRk q_98_27 (Or.inl t_ft_98_26) gF_3_2 hk_k1 IM6.1 (by decide) fun b8 hk_b8 e_b8 => ?_
  refine PW.cV (as := [_]) (rest := []) q_98_30 t_mv_98_37 hk_b7 IM6.1 (by decide) rfl (by decide) rfl rfl (Nat.le_of_ble_eq_true rfl) (Nat.le_of_ble_eq_true rfl) (by decide) (by decide) ?_
  refine PW.up (by decide) (c_X4_copyFrom (gTT) (Stab0) G _ M6 IM6 b7 hk_b7 b8 hk_b8 fun M9 IM9 GM9 => ?_)
  have FM9 := Fr.trans FM6 GM9 (rfl)
  refine PW.vret q_98_33 rfl (by decide) (by decide) ?_
  exact hK M9 IM9 FM9 (TM6.fr GM9 rfl)
theorem c_X11_beach_w (G : pG) (Kr : pK) (M : pM) (I : Iv gTT M) (bw : Nat) (hw : gWb bw M) (hw_0 : bw = 275) (hK : ∀ (x : Int32) (M1 : pM), Iv gTT M1 → Fr [0, 1, 4, 5, 7, 9, 10, 13, 14, 21, 27, 28, 29, 30, 31, 32, 33, 34, 35, 36] M M1 → (gWb bw M1) → Kr.1 (some (.int x)) 311 M1) : PW G false 7 102 (p_mc 102) (p_msl 102) Kr 0 (lv_args 0 [.ref 0]) [] 311 M 0 0 := by
  have F : Fr [0, 1, 4, 5, 7, 9, 10, 13, 14, 21, 27, 28, 29, 30, 31, 32, 33, 34, 35, 36] M M := Fr.refl
  refine PW.aload_n q_102_0 rfl ?_
  refine PW.gR 256 q_102_1 (Or.inl t_ft_102_41) gF_0_5 kd_0 I.1 (by decide) rfl ?_
  refine PW.aload_n q_102_4 rfl ?_
  refine PW.gR 1 q_102_5 (Or.inl t_ft_102_10) gF_0_0 kd_0 I.1 (by decide) rfl ?_
  refine PW.cV (as := [_]) (rest := []) q_102_8 t_mv_102_81 kd_256 I.1 (by decide) rfl (by decide) rfl rfl (Nat.le_of_ble_eq_true rfl) (Nat.le_of_ble_eq_true rfl) (by decide) (by decide) ?_
  refine PW.up (by decide) (c_X3_read G _ M I fun x2 M1 IM1 GM1 hx2 kx2 => ?_)
  have FM1 := Fr.trans F GM1 (rfl)
  refine PW.istore_n q_102_11 (by decide) ?_
  refine PW.aload_n q_102_12 rfl ?_
  refine PW.gR 1 q_102_13 (Or.inl t_ft_102_10) gF_0_0 kd_0 IM1.1 (by decide) rfl ?_
  refine PW.cI q_102_16 (by decide) fun c3 hc3 => ?_
  refine PW.pI q_102_17 (Or.inr t_fN_102_73) gF_1_1 gP_1_1 kd_1 StabS IM1 (by decide) rfl (by omega) (by omega) fun M4 IM4 fM4 UM4 => ?_
  have FM4 := Fr.pu FM1 UM4.1 kd_1 (rfl : List.contains [0, 1, 4, 5, 7, 9, 10, 13, 14, 21, 27, 28, 29, 30, 31, 32, 33, 34, 35, 36] 1 = true)
  refine PW.aload_n q_102_20 rfl ?_
  refine PW.aload_n q_102_21 rfl ?_
  refine PW.gR 1 q_102_22 (Or.inl t_ft_102_10) gF_0_0 kd_0 IM4.1 (by decide) rfl ?_
  refine PW.gI q_102_25 (Or.inr t_fN_102_85) gF_1_10 kd_1 IM4.1 (by decide) fun x5 fx5 hx5 kx5 => ?_
  clear hx5 kx5
  refine PW.pI q_102_28 (Or.inl t_ft_102_88) gF_0_10 gP_0_10 kd_0 StabS IM4 (by decide) rfl (n_lo _) (n_hi _) fun M6 IM6 fM6 UM6 => ?_
  have FM6 := Fr.pu FM4 UM6.1 kd_0 (rfl : List.contains [0, 1, 4, 5, 7, 9, 10, 13, 14, 21, 27, 28, 29, 30, 31, 32, 33, 34, 35, 36] 0 = true)
  refine PW.iload_n q_102_31 rfl ?_
  refine PW.jz_ne q_102_32 rfl (fun h7 => ?_) (fun h7 => ?_)
  · skip
    refine PW.aload_n q_102_45 rfl ?_
    refine PW.gR 3 q_102_46 (Or.inl t_ft_102_19) gF_0_1 kd_0 IM6.1 (by decide) rfl ?_
    refine PW.gR 4 q_102_49 (Or.inr t_fN_102_94) gF_3_0 kd_3 IM6.1 (by decide) rfl ?_
    refine PW.aload_n q_102_52 rfl ?_
    refine PW.gR 256 q_102_53 (Or.inl t_ft_102_41) gF_0_5 kd_0 IM6.1 (by decide) rfl ?_
    refine PW.cV (as := [_]) (rest := []) q_102_56 t_mv_102_97 kd_4 IM6.1 (by decide) rfl (by decide) rfl rfl (Nat.le_of_ble_eq_true rfl) (Nat.le_of_ble_eq_true rfl) (by decide) (by decide) ?_
    refine PW.up (by decide) (c_X3_copyFrom_w G _ M6 IM6  fun M8 IM8 GM8 => ?_)
    have FM8 := Fr.trans FM6 GM8 (rfl)
    refine PW.aload_n q_102_59 rfl ?_
    refine PW.gR 3 q_102_60 (Or.inl t_ft_102_19) gF_0_1 kd_0 IM8.1 (by decide) rfl ?_
    refine PW.gR 15 q_102_63 (Or.inr t_fN_102_101) gF_3_1 kd_3 IM8.1 (by decide) rfl ?_
    refine PW.aload_n q_102_66 rfl ?_
    refine PW.gR 256 q_102_67 (Or.inl t_ft_102_41) gF_0_5 kd_0 IM8.1 (by decide) rfl ?_
    refine PW.cV (as := [_]) (rest := []) q_102_70 t_mv_102_104 kd_15 IM8.1 (by decide) rfl (by decide) rfl rfl (Nat.le_of_ble_eq_true rfl) (Nat.le_of_ble_eq_true rfl) (by decide) (by decide) ?_
    refine PW.up (by decide) (c_X5_begin_w G _ M8 ⟨IM8.1, IM8.2.1⟩ 15 kd_15 256 kd_256 IM8.2.2 bw ((((hw.fr GM1 rfl).ar UM4.1 kd_1 (by decide)).ar UM6.1 kd_0 (by decide)).fr GM8 rfl) fun M9 IM9 GM9 TM9 => ?_)
    have FM9 := Fr.trans FM8 GM9 (rfl)
    refine PW.aload_n q_102_73 rfl ?_
    refine PW.gR 3 q_102_74 (Or.inl t_ft_102_19) gF_0_1 kd_0 IM9.1 (by decide) rfl ?_
    refine PW.gR 33 q_102_77 (Or.inr t_fN_102_107) gF_3_2 kd_3 IM9.1 (by decide) rfl ?_
    refine PW.cV (as := []) (rest := []) q_102_80 t_mv_102_110 kd_33 IM9.1 (by decide) rfl (by decide) rfl rfl (Nat.le_of_ble_eq_true rfl) (Nat.le_of_ble_eq_true rfl) (by decide) (by decide) ?_
    refine PW.up (by decide) (c_X4_forget (gTT) (Stab0) G _ M9 IM9 33 kd_33 fun M10 IM10 GM10 => ?_)
    have FM10 := Fr.trans FM9 GM10 (rfl)
    refine PW.aload_n q_102_83 rfl ?_
    refine PW.gR 110 q_102_84 (Or.inl t_ft_102_34) gF_0_4 kd_0 IM10.1 (by decide) rfl ?_
    refine PW.cV (as := []) (rest := []) q_102_87 t_mv_102_113 kd_110 IM10.1 (by decide) rfl (by decide) rfl rfl (Nat.le_of_ble_eq_true rfl) (Nat.le_of_ble_eq_true rfl) (by decide) (by decide) ?_
    refine PW.up (by decide) (c_X1_forget (gTT) (Stab0) G _ M10 IM10  fun M11 IM11 GM11 => ?_)
    have FM11 := Fr.trans FM10 GM11 (rfl)
    refine PW.aload_n q_102_90 rfl ?_
    refine PW.gR 256 q_102_91 (Or.inl t_ft_102_41) gF_0_5 kd_0 IM11.1 (by decide) rfl ?_
    refine PW.gI q_102_94 (Or.inr t_fN_102_114) gF_4_0 kd_256 IM11.1 (by decide) fun x12 fx12 hx12 kx12 => ?_
    clear hx12 kx12
    refine PW.rI q_102_97 rfl (by decide) (by decide) ?_
    exact hK x12 M11 IM11 FM11 ((TM9.fr GM10 rfl).fr GM11 rfl)
  · skip
    refine PW.cI q_102_35 (by decide) fun c13 hc13 => ?_
    refine PW.aload_n q_102_36 rfl ?_
    refine PW.gR 1 q_102_37 (Or.inl t_ft_102_10) gF_0_0 kd_0 IM6.1 (by decide) rfl ?_
    refine PW.gI q_102_40 (Or.inr t_fN_102_91) gF_1_11 kd_1 IM6.1 (by decide) fun x14 fx14 hx14 kx14 => ?_
    clear hx14 kx14
    refine PW.subN q_102_43 (by have := n_lo x14; have := n_hi x14; omega) (by have := n_lo x14; have := n_hi x14; omega) fun x15 hx15 => ?_
    refine PW.rI q_102_44 rfl (by decide) (by decide) ?_
    exact hK x15 M6 ⟨IM6.1, IM6.2.1⟩ FM6 (((hw.fr GM1 rfl).ar UM4.1 kd_1 (by decide)).ar UM6.1 kd_0 (by decide))
theorem c_X11_foreseen_w (G : pG) (Kr : pK) (M : pM) (I : Iv gTT M) (bw : Nat) (hw : gWb bw M) (hw_0 : bw = 275) (hK : ∀ (M1 : pM), Iv gTT M1 → Fr [5, 7, 9, 10, 11, 12, 13] M M1 → (gWb bw M1) → (gWs 275 M1) → Kr.1 (some (.ref 275)) 311 M1) : PW G false 4 146 (p_mc 146) (p_msl 146) Kr 0 (lv_args 0 [.ref 0]) [] 311 M 0 0 := by
  have F : Fr [5, 7, 9, 10, 11, 12, 13] M M := Fr.refl
  refine PW.aload_n q_146_0 rfl ?_
  refine PW.gR 275 q_146_1 (Or.inl t_ft_146_62) gF_0_8 kd_0 I.1 (by decide) rfl ?_
  refine PW.aload_n q_146_4 rfl ?_
  refine PW.gR 3 q_146_5 (Or.inl t_ft_146_19) gF_0_1 kd_0 I.1 (by decide) rfl ?_
  refine PW.gR 15 q_146_8 (Or.inr t_fN_146_101) gF_3_1 kd_3 I.1 (by decide) rfl ?_
  refine PW.cV (as := [_]) (rest := []) q_146_11 t_mv_146_151 kd_275 I.1 (by decide) rfl (by decide) rfl rfl (Nat.le_of_ble_eq_true rfl) (Nat.le_of_ble_eq_true rfl) (by decide) (by decide) ?_
  refine PW.up (by decide) (c_X5_copyFrom_w G _ M I 275 kd_275 15 kd_15 bw hw (by omega) fun M1 IM1 GM1 TM1 XM1 => ?_)
  have FM1 := Fr.trans F GM1 (rfl)
  refine PW.aload_n q_146_14 rfl ?_
  refine PW.gR 275 q_146_15 (Or.inl t_ft_146_62) gF_0_8 kd_0 IM1.1 (by decide) rfl ?_
  refine PW.aret q_146_18 rfl (by decide) (by decide) ?_
  exact hK M1 IM1 FM1 TM1 XM1
theorem c_X11_log_w (G : pG) (Kr : pK) (M : pM) (I : Iv gTT M) (a1 : Int32) (bw : Nat) (hw : gWb bw M) (hw_0 : bw = 275) (hK : ∀ (x : Int32) (M1 : pM), Iv gTT M1 → Fr [0, 1, 5, 7, 9, 10, 11, 12, 13, 21, 23, 24, 25] M M1 → (gWb bw M1) → Kr.1 (some (.int x)) 311 M1) : PW G false 7 106 (p_mc 106) (p_msl 106) Kr 0 (lv_args 0 [.ref 0, .int a1]) [] 311 M 0 0 := by
  have F : Fr [0, 1, 5, 7, 9, 10, 11, 12, 13, 21, 23, 24, 25] M M := Fr.refl
  refine PW.iload_n q_106_0 rfl ?_
  refine PW.jz_eq q_106_1 rfl (fun h1 => ?_) (fun h1 => ?_)
  · skip
    refine PW.aload_n q_106_13 rfl ?_
    refine PW.gR 272 q_106_14 (Or.inl t_ft_106_55) gF_0_7 kd_0 I.1 (by decide) rfl ?_
    refine PW.aload_n q_106_17 rfl ?_
    refine PW.gR 1 q_106_18 (Or.inl t_ft_106_10) gF_0_0 kd_0 I.1 (by decide) rfl ?_
    refine PW.aload_n q_106_21 rfl ?_
    refine PW.gR 3 q_106_22 (Or.inl t_ft_106_19) gF_0_1 kd_0 I.1 (by decide) rfl ?_
    refine PW.gR 4 q_106_25 (Or.inr t_fN_106_94) gF_3_0 kd_3 I.1 (by decide) rfl ?_
    refine PW.cV (as := [_, _]) (rest := []) q_106_28 t_mv_106_139 kd_272 I.1 (by decide) rfl (by decide) rfl rfl (Nat.le_of_ble_eq_true rfl) (Nat.le_of_ble_eq_true rfl) (by decide) (by decide) ?_
    refine PW.up (by decide) (c_X6_read G _ M I 4 kd_4 fun x3 M2 IM2 GM2 hx3 kx3 => ?_)
    have FM2 := Fr.trans F GM2 (rfl)
    refine PW.istore_n q_106_31 (by decide) ?_
    refine PW.aload_n q_106_32 rfl ?_
    refine PW.gR 1 q_106_33 (Or.inl t_ft_106_10) gF_0_0 kd_0 IM2.1 (by decide) rfl ?_
    refine PW.cI q_106_36 (by decide) fun c4 hc4 => ?_
    refine PW.pI q_106_37 (Or.inr t_fN_106_73) gF_1_1 gP_1_1 kd_1 (Stab6 G) IM2 (by decide) rfl (by omega) (by omega) fun M5 IM5 fM5 UM5 => ?_
    have FM5 := Fr.pu FM2 UM5.1 kd_1 (rfl : List.contains [0, 1, 5, 7, 9, 10, 11, 12, 13, 21, 23, 24, 25] 1 = true)
    refine PW.aload_n q_106_40 rfl ?_
    refine PW.aload_n q_106_41 rfl ?_
    refine PW.gR 1 q_106_42 (Or.inl t_ft_106_10) gF_0_0 kd_0 IM5.1 (by decide) rfl ?_
    refine PW.gI q_106_45 (Or.inr t_fN_106_85) gF_1_10 kd_1 IM5.1 (by decide) fun x6 fx6 hx6 kx6 => ?_
    clear hx6 kx6
    refine PW.pI q_106_48 (Or.inl t_ft_106_88) gF_0_10 gP_0_10 kd_0 (Stab6 G) IM5 (by decide) rfl (n_lo _) (n_hi _) fun M7 IM7 fM7 UM7 => ?_
    have FM7 := Fr.pu FM5 UM7.1 kd_0 (rfl : List.contains [0, 1, 5, 7, 9, 10, 11, 12, 13, 21, 23, 24, 25] 0 = true)
    refine PW.iload_n q_106_51 rfl ?_
    refine PW.jz_ne q_106_52 rfl (fun h8 => ?_) (fun h8 => ?_)
    · skip
      refine PW.aload_n q_106_66 rfl ?_
      refine PW.gR 272 q_106_67 (Or.inl t_ft_106_55) gF_0_7 kd_0 IM7.1 (by decide) rfl ?_
      refine PW.aload_n q_106_70 rfl ?_
      refine PW.gR 3 q_106_71 (Or.inl t_ft_106_19) gF_0_1 kd_0 IM7.1 (by decide) rfl ?_
      refine PW.gR 4 q_106_74 (Or.inr t_fN_106_94) gF_3_0 kd_3 IM7.1 (by decide) rfl ?_
      refine PW.aload_n q_106_77 rfl ?_
      refine PW.cV (as := []) (rest := [_, _]) q_106_78 t_mv_106_140 kd_0 IM7.1 (by decide) rfl (by decide) rfl rfl (Nat.le_of_ble_eq_true rfl) (Nat.le_of_ble_eq_true rfl) (by decide) (by decide) ?_
      refine PW.up (by decide) (c_X11_foreseen_w G _ M7 ⟨IM7.1, IM7.2.1⟩ bw (((hw.fr GM2 rfl).ar UM5.1 kd_1 (by decide)).ar UM7.1 kd_0 (by decide)) (by omega) fun M9 IM9 GM9 TM9 XM9 => ?_)
      have FM9 := Fr.trans FM7 GM9 (rfl)
      have LM9 : Iv (gT6 G) M9 := ⟨IM9.1, IM9.2, gS6.same IM7.2.2 (Fr.at GM9 kd_272 rfl) (Fr.at GM9 kd_273 rfl) (Fr.at GM9 kd_274 rfl)⟩
      refine PW.cV (as := [_, _]) (rest := []) q_106_81 t_mv_106_144 kd_272 LM9.1 (by decide) rfl (by decide) rfl rfl (Nat.le_of_ble_eq_true rfl) (Nat.le_of_ble_eq_true rfl) (by decide) (by decide) ?_
      refine PW.up (by decide) (c_X6_play_w G _ M9 LM9 4 kd_4 275 kd_275 311 (gWb.all (hw_0 ▸ TM9) XM9) fun x11 M10 IM10 GM10 TM10 => ?_)
      have FM10 := Fr.trans FM9 GM10 (rfl)
      refine PW.istore_n q_106_84 (by decide) ?_
      refine PW.iload_n q_106_85 rfl ?_
      refine PW.cI q_106_86 (by decide) fun c12 hc12 => ?_
      refine PW.jc_ne q_106_87 rfl (fun h13 => ?_) (fun h13 => False.elim (by omega))
      refine PW.iload_n q_106_118 rfl ?_
      refine PW.rI q_106_119 rfl (by decide) (by decide) ?_
      exact hK x11 M10 ⟨IM10.1, IM10.2.1⟩ FM10 (gWb.mono TM10 (by omega))
    · skip
      refine PW.cB q_106_55 (by decide) fun c14 hc14 => ?_
      refine PW.aload_n q_106_57 rfl ?_
      refine PW.gR 1 q_106_58 (Or.inl t_ft_106_10) gF_0_0 kd_0 IM7.1 (by decide) rfl ?_
      refine PW.gI q_106_61 (Or.inr t_fN_106_91) gF_1_11 kd_1 IM7.1 (by decide) fun x15 fx15 hx15 kx15 => ?_
      clear hx15 kx15
      refine PW.subH q_106_64 fun x16 => ?_
      refine PW.rI q_106_65 rfl (by decide) (by decide) ?_
      exact hK x16 M7 ⟨IM7.1, IM7.2.1⟩ FM7 (((hw.fr GM2 rfl).ar UM5.1 kd_1 (by decide)).ar UM7.1 kd_0 (by decide))
  · skip
    refine PW.iload_n q_106_4 rfl ?_
    refine PW.cI q_106_5 (by decide) fun c17 hc17 => ?_
    refine PW.jc_eq q_106_6 rfl (fun h18 => ?_) (fun h18 => ?_)
    · skip
      refine PW.aload_n q_106_13 rfl ?_
      refine PW.gR 272 q_106_14 (Or.inl t_ft_106_55) gF_0_7 kd_0 I.1 (by decide) rfl ?_
      refine PW.aload_n q_106_17 rfl ?_
      refine PW.gR 1 q_106_18 (Or.inl t_ft_106_10) gF_0_0 kd_0 I.1 (by decide) rfl ?_
      refine PW.aload_n q_106_21 rfl ?_
      refine PW.gR 3 q_106_22 (Or.inl t_ft_106_19) gF_0_1 kd_0 I.1 (by decide) rfl ?_
      refine PW.gR 4 q_106_25 (Or.inr t_fN_106_94) gF_3_0 kd_3 I.1 (by decide) rfl ?_
      refine PW.cV (as := [_, _]) (rest := []) q_106_28 t_mv_106_139 kd_272 I.1 (by decide) rfl (by decide) rfl rfl (Nat.le_of_ble_eq_true rfl) (Nat.le_of_ble_eq_true rfl) (by decide) (by decide) ?_
      refine PW.up (by decide) (c_X6_read G _ M I 4 kd_4 fun x20 M19 IM19 GM19 hx20 kx20 => ?_)
      have FM19 := Fr.trans F GM19 (rfl)
      refine PW.istore_n q_106_31 (by decide) ?_
      refine PW.aload_n q_106_32 rfl ?_
      refine PW.gR 1 q_106_33 (Or.inl t_ft_106_10) gF_0_0 kd_0 IM19.1 (by decide) rfl ?_
      refine PW.cI q_106_36 (by decide) fun c21 hc21 => ?_
      refine PW.pI q_106_37 (Or.inr t_fN_106_73) gF_1_1 gP_1_1 kd_1 (Stab6 G) IM19 (by decide) rfl (by omega) (by omega) fun M22 IM22 fM22 UM22 => ?_
      have FM22 := Fr.pu FM19 UM22.1 kd_1 (rfl : List.contains [0, 1, 5, 7, 9, 10, 11, 12, 13, 21, 23, 24, 25] 1 = true)
      refine PW.aload_n q_106_40 rfl ?_
      refine PW.aload_n q_106_41 rfl ?_
      refine PW.gR 1 q_106_42 (Or.inl t_ft_106_10) gF_0_0 kd_0 IM22.1 (by decide) rfl ?_
      refine PW.gI q_106_45 (Or.inr t_fN_106_85) gF_1_10 kd_1 IM22.1 (by decide) fun x23 fx23 hx23 kx23 => ?_
      clear hx23 kx23
      refine PW.pI q_106_48 (Or.inl t_ft_106_88) gF_0_10 gP_0_10 kd_0 (Stab6 G) IM22 (by decide) rfl (n_lo _) (n_hi _) fun M24 IM24 fM24 UM24 => ?_
      have FM24 := Fr.pu FM22 UM24.1 kd_0 (rfl : List.contains [0, 1, 5, 7, 9, 10, 11, 12, 13, 21, 23, 24, 25] 0 = true)
      refine PW.iload_n q_106_51 rfl ?_
      refine PW.jz_ne q_106_52 rfl (fun h25 => ?_) (fun h25 => ?_)
      · skip
        refine PW.aload_n q_106_66 rfl ?_
        refine PW.gR 272 q_106_67 (Or.inl t_ft_106_55) gF_0_7 kd_0 IM24.1 (by decide) rfl ?_
        refine PW.aload_n q_106_70 rfl ?_
        refine PW.gR 3 q_106_71 (Or.inl t_ft_106_19) gF_0_1 kd_0 IM24.1 (by decide) rfl ?_
        refine PW.gR 4 q_106_74 (Or.inr t_fN_106_94) gF_3_0 kd_3 IM24.1 (by decide) rfl ?_
        refine PW.aload_n q_106_77 rfl ?_
        refine PW.cV (as := []) (rest := [_, _]) q_106_78 t_mv_106_140 kd_0 IM24.1 (by decide) rfl (by decide) rfl rfl (Nat.le_of_ble_eq_true rfl) (Nat.le_of_ble_eq_true rfl) (by decide) (by decide) ?_
        refine PW.up (by decide) (c_X11_foreseen_w G _ M24 ⟨IM24.1, IM24.2.1⟩ bw (((hw.fr GM19 rfl).ar UM22.1 kd_1 (by decide)).ar UM24.1 kd_0 (by decide)) (by omega) fun M26 IM26 GM26 TM26 XM26 => ?_)
        have FM26 := Fr.trans FM24 GM26 (rfl)
        have LM26 : Iv (gT6 G) M26 := ⟨IM26.1, IM26.2, gS6.same IM24.2.2 (Fr.at GM26 kd_272 rfl) (Fr.at GM26 kd_273 rfl) (Fr.at GM26 kd_274 rfl)⟩
        refine PW.cV (as := [_, _]) (rest := []) q_106_81 t_mv_106_144 kd_272 LM26.1 (by decide) rfl (by decide) rfl rfl (Nat.le_of_ble_eq_true rfl) (Nat.le_of_ble_eq_true rfl) (by decide) (by decide) ?_
        refine PW.up (by decide) (c_X6_play_w G _ M26 LM26 4 kd_4 275 kd_275 311 (gWb.all (hw_0 ▸ TM26) XM26) fun x28 M27 IM27 GM27 TM27 => ?_)
        have FM27 := Fr.trans FM26 GM27 (rfl)
        refine PW.istore_n q_106_84 (by decide) ?_
        refine PW.iload_n q_106_85 rfl ?_
        refine PW.cI q_106_86 (by decide) fun c29 hc29 => ?_
        refine PW.jc_ne q_106_87 rfl (fun h30 => False.elim (by omega)) (fun h30 => ?_)
        refine PW.aload_n q_106_90 rfl ?_
        refine PW.gR 110 q_106_91 (Or.inl t_ft_106_34) gF_0_4 kd_0 IM27.1 (by decide) rfl ?_
        refine PW.aload_n q_106_94 rfl ?_
        refine PW.gR 3 q_106_95 (Or.inl t_ft_106_19) gF_0_1 kd_0 IM27.1 (by decide) rfl ?_
        refine PW.gR 15 q_106_98 (Or.inr t_fN_106_101) gF_3_1 kd_3 IM27.1 (by decide) rfl ?_
        refine PW.cV (as := [_]) (rest := []) q_106_101 t_mv_106_147 kd_110 IM27.1 (by decide) rfl (by decide) rfl rfl (Nat.le_of_ble_eq_true rfl) (Nat.le_of_ble_eq_true rfl) (by decide) (by decide) ?_
        refine PW.up (by decide) (c_X1_keep_w G _ M27 ⟨IM27.1, IM27.2.1⟩ 15 kd_15 311 TM27 (by omega) fun M31 IM31 GM31 TM31 => ?_)
        have FM31 := Fr.trans FM27 GM31 (rfl)
        have LM31 : Iv (gT6 G) M31 := ⟨IM31.1, IM31.2, gS6.same IM27.2.2 (Fr.at GM31 kd_272 rfl) (Fr.at GM31 kd_273 rfl) (Fr.at GM31 kd_274 rfl)⟩
        refine PW.aload_n q_106_104 rfl ?_
        refine PW.gR 3 q_106_105 (Or.inl t_ft_106_19) gF_0_1 kd_0 LM31.1 (by decide) rfl ?_
        refine PW.gR 15 q_106_108 (Or.inr t_fN_106_101) gF_3_1 kd_3 LM31.1 (by decide) rfl ?_
        refine PW.aload_n q_106_111 rfl ?_
        refine PW.gR 275 q_106_112 (Or.inl t_ft_106_62) gF_0_8 kd_0 LM31.1 (by decide) rfl ?_
        refine PW.cV (as := [_]) (rest := []) q_106_115 t_mv_106_151 kd_15 LM31.1 (by decide) rfl (by decide) rfl rfl (Nat.le_of_ble_eq_true rfl) (Nat.le_of_ble_eq_true rfl) (by decide) (by decide) ?_
        refine PW.up (by decide) (c_X5_copyFrom_w G _ M31 ⟨LM31.1, LM31.2.1⟩ 15 kd_15 275 kd_275 311 TM31 (by omega) fun M32 IM32 GM32 TM32 XM32 => ?_)
        have FM32 := Fr.trans FM31 GM32 (rfl)
        have LM32 : Iv (gT6 G) M32 := ⟨IM32.1, IM32.2, gS6.same LM31.2.2 (Fr.at GM32 kd_272 rfl) (Fr.at GM32 kd_273 rfl) (Fr.at GM32 kd_274 rfl)⟩
        refine PW.iload_n q_106_118 rfl ?_
        refine PW.rI q_106_119 rfl (by decide) (by decide) ?_
        exact hK x28 M32 ⟨LM32.1, LM32.2.1⟩ FM32 (gWb.mono TM32 (by omega))
      · skip
        refine PW.cB q_106_55 (by decide) fun c33 hc33 => ?_
        refine PW.aload_n q_106_57 rfl ?_
        refine PW.gR 1 q_106_58 (Or.inl t_ft_106_10) gF_0_0 kd_0 IM24.1 (by decide) rfl ?_
        refine PW.gI q_106_61 (Or.inr t_fN_106_91) gF_1_11 kd_1 IM24.1 (by decide) fun x34 fx34 hx34 kx34 => ?_
        clear hx34 kx34
        refine PW.subH q_106_64 fun x35 => ?_
        refine PW.rI q_106_65 rfl (by decide) (by decide) ?_
        exact hK x35 M24 ⟨IM24.1, IM24.2.1⟩ FM24 (((hw.fr GM19 rfl).ar UM22.1 kd_1 (by decide)).ar UM24.1 kd_0 (by decide))
    · skip
      refine PW.cS q_106_9 (by decide) fun c36 hc36 => ?_
      refine PW.rI q_106_12 rfl (by decide) (by decide) ?_
      exact hK c36 M I F hw
theorem c_X11_act_w (G : pG) (Kr : pK) (M : pM) (I : Iv gTT M) (r1 : Nat) (hr1 : r1 < 28) (a2 : Int32) (bw : Nat) (hw : gWb bw M) (hw_0 : bw = 275) (hK : ∀ (x : Int32) (M1 : pM), Iv gTT M1 → Fr [5, 7, 9, 10, 11, 12, 13, 21] M M1 → (gWb bw M1) → Kr.1 (some (.int x)) 311 M1) : PW G false 5 145 (p_mc 145) (p_msl 145) Kr 0 (lv_args 0 [.ref 0, .ref (65536 + r1), .int a2]) [] 311 M 0 0 := by
  have F : Fr [5, 7, 9, 10, 11, 12, 13, 21] M M := Fr.refl
  refine PW.aload_n q_145_0 rfl ?_
  refine PW.iload_n q_145_1 rfl ?_
  refine PW.cV (as := [_]) (rest := []) q_145_2 t_mv_145_169 kd_0 I.1 (by decide) rfl (by decide) rfl rfl (Nat.le_of_ble_eq_true rfl) (Nat.le_of_ble_eq_true rfl) (by decide) (by decide) ?_
  refine PW.iload_n q_143_0 rfl ?_
  refine PW.jz_lt q_143_1 rfl (fun h1 => ?_) (fun h1 => ?_)
  · skip
    refine PW.cI q_143_22 (by decide) fun c2 hc2 => ?_
    refine PW.rZ q_143_23 rfl (by omega) (by omega) (by decide) (by decide) ?_
    refine PW.jz_ne q_145_5 rfl (fun h3 => False.elim (by omega)) (fun h3 => ?_)
    refine PW.cI q_145_8 (by decide) fun c4 hc4 => ?_
    refine PW.rI q_145_9 rfl (by decide) (by decide) ?_
    exact hK c4 M I F hw
  · skip
    refine PW.iload_n q_143_4 rfl ?_
    refine PW.aload_n q_143_5 rfl ?_
    refine PW.gR 3 q_143_6 (Or.inl t_ft_143_19) gF_0_1 kd_0 I.1 (by decide) rfl ?_
    refine PW.gR 4 q_143_9 (Or.inr t_fN_143_94) gF_3_0 kd_3 I.1 (by decide) rfl ?_
    refine PW.gI q_143_12 (Or.inr t_fN_143_136) gF_4_6 kd_4 I.1 (by decide) fun x5 fx5 hx5 kx5 => ?_
    refine PW.jc_ge q_143_15 rfl (fun h6 => ?_) (fun h6 => ?_)
    · skip
      refine PW.cI q_143_22 (by decide) fun c7 hc7 => ?_
      refine PW.rZ q_143_23 rfl (by omega) (by omega) (by decide) (by decide) ?_
      refine PW.jz_ne q_145_5 rfl (fun h8 => False.elim (by omega)) (fun h8 => ?_)
      refine PW.cI q_145_8 (by decide) fun c9 hc9 => ?_
      refine PW.rI q_145_9 rfl (by decide) (by decide) ?_
      exact hK c9 M I F hw
    · skip
      refine PW.cI q_143_18 (by decide) fun c10 hc10 => ?_
      refine PW.goto q_143_19 rfl ?_
      refine PW.rZ q_143_23 rfl (by omega) (by omega) (by decide) (by decide) ?_
      refine PW.jz_ne q_145_5 rfl (fun h11 => ?_) (fun h11 => False.elim (by omega))
      refine PW.aload_n q_145_10 rfl ?_
      refine PW.gR 3 q_145_11 (Or.inl t_ft_145_19) gF_0_1 kd_0 I.1 (by decide) rfl ?_
      refine PW.gR 15 q_145_14 (Or.inr t_fN_145_101) gF_3_1 kd_3 I.1 (by decide) rfl ?_
      refine PW.aload_n q_145_17 rfl ?_
      refine PW.iload_n q_145_18 rfl ?_
      refine PW.cV (as := [_, _]) (rest := []) q_145_19 t_mv_145_376 kd_15 I.1 (by decide) rfl (by decide) rfl rfl (Nat.le_of_ble_eq_true rfl) (Nat.le_of_ble_eq_true rfl) (by decide) (by decide) ?_
      refine PW.up (by decide) (c_X5_whyNot (gTT) (Stab0) G _ M I 15 kd_15 r1 hr1 a2 (by omega) (by omega) fun x13 M12 IM12 GM12 hx13 kx13 => ?_)
      have FM12 := Fr.trans F GM12 (rfl)
      refine PW.istore_n q_145_22 (by decide) ?_
      refine PW.iload_n q_145_23 rfl ?_
      refine PW.jz_ne q_145_24 rfl (fun h14 => ?_) (fun h14 => ?_)
      · skip
        refine PW.iload_n q_145_53 rfl ?_
        refine PW.rI q_145_54 rfl (by decide) (by decide) ?_
        exact hK x13 M12 IM12 FM12 (hw.fr GM12 rfl)
      · skip
        refine PW.aload_n q_145_27 rfl ?_
        refine PW.gR 110 q_145_28 (Or.inl t_ft_145_34) gF_0_4 kd_0 IM12.1 (by decide) rfl ?_
        refine PW.aload_n q_145_31 rfl ?_
        refine PW.gR 3 q_145_32 (Or.inl t_ft_145_19) gF_0_1 kd_0 IM12.1 (by decide) rfl ?_
        refine PW.gR 15 q_145_35 (Or.inr t_fN_145_101) gF_3_1 kd_3 IM12.1 (by decide) rfl ?_
        refine PW.cV (as := [_]) (rest := []) q_145_38 t_mv_145_147 kd_110 IM12.1 (by decide) rfl (by decide) rfl rfl (Nat.le_of_ble_eq_true rfl) (Nat.le_of_ble_eq_true rfl) (by decide) (by decide) ?_
        refine PW.up (by decide) (c_X1_keep_w G _ M12 IM12 15 kd_15 bw (hw.fr GM12 rfl) (by omega) fun M15 IM15 GM15 TM15 => ?_)
        have FM15 := Fr.trans FM12 GM15 (rfl)
        refine PW.aload_n q_145_41 rfl ?_
        refine PW.gR 3 q_145_42 (Or.inl t_ft_145_19) gF_0_1 kd_0 IM15.1 (by decide) rfl ?_
        refine PW.gR 15 q_145_45 (Or.inr t_fN_145_101) gF_3_1 kd_3 IM15.1 (by decide) rfl ?_
        refine PW.aload_n q_145_48 rfl ?_
        refine PW.iload_n q_145_49 rfl ?_
        refine PW.cV (as := [_, _]) (rest := []) q_145_50 t_mv_145_379 kd_15 IM15.1 (by decide) rfl (by decide) rfl rfl (Nat.le_of_ble_eq_true rfl) (Nat.le_of_ble_eq_true rfl) (by decide) (by decide) ?_
        refine PW.up (by decide) (c_X5_perform (gTT) (Stab0) G _ M15 IM15 15 kd_15 r1 hr1 a2 (by omega) (by omega) fun M16 IM16 GM16 => ?_)
        have FM16 := Fr.trans FM15 GM16 (rfl)
        refine PW.iload_n q_145_53 rfl ?_
        refine PW.rI q_145_54 rfl (by decide) (by decide) ?_
        exact hK x13 M16 IM16 FM16 (TM15.fr GM16 rfl)
theorem c_X11_stop_w (G : pG) (Kr : pK) (M : pM) (I : Iv gTT M) (a1 : Int32) (bw : Nat) (hw : gWb bw M) (hw_0 : bw = 275) (hK : ∀ (x : Int32) (M1 : pM), Iv gTT M1 → Fr [5, 7, 9, 10, 11, 12, 13, 21] M M1 → (gWb bw M1) → Kr.1 (some (.int x)) 311 M1) : PW G false 6 117 (p_mc 117) (p_msl 117) Kr 0 (lv_args 0 [.ref 0, .int a1]) [] 311 M 0 0 := by
  have F : Fr [5, 7, 9, 10, 11, 12, 13, 21] M M := Fr.refl
  refine PW.aload_n q_117_0 rfl ?_
  refine PW.gets q_117_1 t_st_117_273 ?_
  refine PW.iload_n q_117_4 rfl ?_
  refine PW.cV (as := [_, _]) (rest := []) q_117_5 t_mv_117_279 kd_0 I.1 (by decide) rfl (by decide) rfl rfl (Nat.le_of_ble_eq_true rfl) (Nat.le_of_ble_eq_true rfl) (by decide) (by decide) ?_
  refine PW.up (by decide) (c_X11_act_w G _ M I 11 (by decide) a1 bw hw (by omega) fun x2 M1 IM1 GM1 TM1 => ?_)
  have FM1 := Fr.trans F GM1 (rfl)
  refine PW.rI q_117_8 rfl (by decide) (by decide) ?_
  exact hK x2 M1 IM1 FM1 TM1
theorem c_X11_walk_w (G : pG) (Kr : pK) (M : pM) (I : Iv gTT M) (a1 : Int32) (bw : Nat) (hw : gWb bw M) (hw_0 : bw = 275) (hK : ∀ (x : Int32) (M1 : pM), Iv gTT M1 → Fr [5, 7, 9, 10, 11, 12, 13, 21] M M1 → (gWb bw M1) → Kr.1 (some (.int x)) 311 M1) : PW G false 6 118 (p_mc 118) (p_msl 118) Kr 0 (lv_args 0 [.ref 0, .int a1]) [] 311 M 0 0 := by
  have F : Fr [5, 7, 9, 10, 11, 12, 13, 21] M M := Fr.refl
  refine PW.aload_n q_118_0 rfl ?_
  refine PW.gets q_118_1 t_st_118_283 ?_
  refine PW.iload_n q_118_4 rfl ?_
  refine PW.cV (as := [_, _]) (rest := []) q_118_5 t_mv_118_279 kd_0 I.1 (by decide) rfl (by decide) rfl rfl (Nat.le_of_ble_eq_true rfl) (Nat.le_of_ble_eq_true rfl) (by decide) (by decide) ?_
  refine PW.up (by decide) (c_X11_act_w G _ M I 12 (by decide) a1 bw hw (by omega) fun x2 M1 IM1 GM1 TM1 => ?_)
  have FM1 := Fr.trans F GM1 (rfl)
  refine PW.rI q_118_8 rfl (by decide) (by decide) ?_
  exact hK x2 M1 IM1 FM1 TM1
theorem c_X11_turn_w (G : pG) (Kr : pK) (M : pM) (I : Iv gTT M) (a1 : Int32) (bw : Nat) (hw : gWb bw M) (hw_0 : bw = 275) (hK : ∀ (x : Int32) (M1 : pM), Iv gTT M1 → Fr [5, 7, 9, 10, 11, 12, 13, 21] M M1 → (gWb bw M1) → Kr.1 (some (.int x)) 311 M1) : PW G false 6 119 (p_mc 119) (p_msl 119) Kr 0 (lv_args 0 [.ref 0, .int a1]) [] 311 M 0 0 := by
  have F : Fr [5, 7, 9, 10, 11, 12, 13, 21] M M := Fr.refl
  refine PW.aload_n q_119_0 rfl ?_
  refine PW.gets q_119_1 t_st_119_286 ?_
  refine PW.iload_n q_119_4 rfl ?_
  refine PW.cV (as := [_, _]) (rest := []) q_119_5 t_mv_119_279 kd_0 I.1 (by decide) rfl (by decide) rfl rfl (Nat.le_of_ble_eq_true rfl) (Nat.le_of_ble_eq_true rfl) (by decide) (by decide) ?_
  refine PW.up (by decide) (c_X11_act_w G _ M I 13 (by decide) a1 bw hw (by omega) fun x2 M1 IM1 GM1 TM1 => ?_)
  have FM1 := Fr.trans F GM1 (rfl)
  refine PW.rI q_119_8 rfl (by decide) (by decide) ?_
  exact hK x2 M1 IM1 FM1 TM1
theorem c_X11_call_w (G : pG) (Kr : pK) (M : pM) (I : Iv gTT M) (a1 : Int32) (bw : Nat) (hw : gWb bw M) (hw_0 : bw = 275) (hK : ∀ (x : Int32) (M1 : pM), Iv gTT M1 → Fr [5, 7, 9, 10, 11, 12, 13, 21] M M1 → (gWb bw M1) → Kr.1 (some (.int x)) 311 M1) : PW G false 6 120 (p_mc 120) (p_msl 120) Kr 0 (lv_args 0 [.ref 0, .int a1]) [] 311 M 0 0 := by
  have F : Fr [5, 7, 9, 10, 11, 12, 13, 21] M M := Fr.refl
  refine PW.aload_n q_120_0 rfl ?_
  refine PW.gets q_120_1 t_st_120_289 ?_
  refine PW.iload_n q_120_4 rfl ?_
  refine PW.cV (as := [_, _]) (rest := []) q_120_5 t_mv_120_279 kd_0 I.1 (by decide) rfl (by decide) rfl rfl (Nat.le_of_ble_eq_true rfl) (Nat.le_of_ble_eq_true rfl) (by decide) (by decide) ?_
  refine PW.up (by decide) (c_X11_act_w G _ M I 14 (by decide) a1 bw hw (by omega) fun x2 M1 IM1 GM1 TM1 => ?_)
  have FM1 := Fr.trans F GM1 (rfl)
  refine PW.rI q_120_8 rfl (by decide) (by decide) ?_
  exact hK x2 M1 IM1 FM1 TM1
theorem c_X11_throwStick_w (G : pG) (Kr : pK) (M : pM) (I : Iv gTT M) (a1 : Int32) (bw : Nat) (hw : gWb bw M) (hw_0 : bw = 275) (hK : ∀ (x : Int32) (M1 : pM), Iv gTT M1 → Fr [5, 7, 9, 10, 11, 12, 13, 21] M M1 → (gWb bw M1) → Kr.1 (some (.int x)) 311 M1) : PW G false 6 121 (p_mc 121) (p_msl 121) Kr 0 (lv_args 0 [.ref 0, .int a1]) [] 311 M 0 0 := by
  have F : Fr [5, 7, 9, 10, 11, 12, 13, 21] M M := Fr.refl
  refine PW.aload_n q_121_0 rfl ?_
  refine PW.gets q_121_1 t_st_121_292 ?_
  refine PW.iload_n q_121_4 rfl ?_
  refine PW.cV (as := [_, _]) (rest := []) q_121_5 t_mv_121_279 kd_0 I.1 (by decide) rfl (by decide) rfl rfl (Nat.le_of_ble_eq_true rfl) (Nat.le_of_ble_eq_true rfl) (by decide) (by decide) ?_
  refine PW.up (by decide) (c_X11_act_w G _ M I 15 (by decide) a1 bw hw (by omega) fun x2 M1 IM1 GM1 TM1 => ?_)
  have FM1 := Fr.trans F GM1 (rfl)
  refine PW.rI q_121_8 rfl (by decide) (by decide) ?_
  exact hK x2 M1 IM1 FM1 TM1
theorem c_X11_seconds_w (G : pG) (Kr : pK) (M : pM) (I : Iv gTT M) (a1 : Int32) (bw : Nat) (hw : gWb bw M) (hw_0 : bw = 275) (hK : ∀ (x : Int32) (M1 : pM), Iv gTT M1 → Fr [5, 7, 9, 10, 11, 12, 13, 21] M M1 → (gWb bw M1) → Kr.1 (some (.int x)) 311 M1) : PW G false 6 122 (p_mc 122) (p_msl 122) Kr 0 (lv_args 0 [.ref 0, .int a1]) [] 311 M 0 0 := by
  have F : Fr [5, 7, 9, 10, 11, 12, 13, 21] M M := Fr.refl
  refine PW.iload_n q_122_0 rfl ?_
  refine PW.cI q_122_1 (by decide) fun c1 hc1 => ?_
  refine PW.jc_lt q_122_2 rfl (fun h2 => ?_) (fun h2 => ?_)
  · skip
    refine PW.cI q_122_11 (by decide) fun c3 hc3 => ?_
    refine PW.rI q_122_12 rfl (by decide) (by decide) ?_
    exact hK c3 M I F hw
  · skip
    refine PW.iload_n q_122_5 rfl ?_
    refine PW.cB q_122_6 (by decide) fun c4 hc4 => ?_
    refine PW.jc_le q_122_8 rfl (fun h5 => ?_) (fun h5 => ?_)
    · skip
      refine PW.iload_n q_122_13 rfl ?_
      refine PW.cS q_122_14 (by decide) fun c6 hc6 => ?_
      refine PW.aload_n q_122_17 rfl ?_
      refine PW.gR 3 q_122_18 (Or.inl t_ft_122_19) gF_0_1 kd_0 I.1 (by decide) rfl ?_
      refine PW.gR 15 q_122_21 (Or.inr t_fN_122_101) gF_3_1 kd_3 I.1 (by decide) rfl ?_
      refine PW.gI q_122_24 (Or.inr t_fN_122_230) gF_5_0 kd_15 I.1 (by decide) fun x7 fx7 hx7 kx7 => ?_
      refine PW.subN q_122_27 (by omega) (by omega) fun x8 hx8 => ?_
      refine PW.minN q_122_28 t_mj_122_295 (by decide) (Nat.le_of_ble_eq_true rfl) (by decide) (by decide) fun x9 hx9 kx9 lx9 => ?_
      refine PW.istore_n q_122_31 (by decide) ?_
      refine PW.iload_n q_122_32 rfl ?_
      refine PW.jz_le q_122_33 rfl (fun h10 => ?_) (fun h10 => ?_)
      · skip
        refine PW.iload_n q_122_68 rfl ?_
        refine PW.rI q_122_69 rfl (by decide) (by decide) ?_
        exact hK x9 M I F hw
      · skip
        refine PW.aload_n q_122_36 rfl ?_
        refine PW.gR 110 q_122_37 (Or.inl t_ft_122_34) gF_0_4 kd_0 I.1 (by decide) rfl ?_
        refine PW.aload_n q_122_40 rfl ?_
        refine PW.gR 3 q_122_41 (Or.inl t_ft_122_19) gF_0_1 kd_0 I.1 (by decide) rfl ?_
        refine PW.gR 15 q_122_44 (Or.inr t_fN_122_101) gF_3_1 kd_3 I.1 (by decide) rfl ?_
        refine PW.cV (as := [_]) (rest := []) q_122_47 t_mv_122_147 kd_110 I.1 (by decide) rfl (by decide) rfl rfl (Nat.le_of_ble_eq_true rfl) (Nat.le_of_ble_eq_true rfl) (by decide) (by decide) ?_
        refine PW.up (by decide) (c_X1_keep_w G _ M I 15 kd_15 bw hw (by omega) fun M11 IM11 GM11 TM11 => ?_)
        have FM11 := Fr.trans F GM11 (rfl)
        refine PW.aload_n q_122_50 rfl ?_
        refine PW.gR 3 q_122_51 (Or.inl t_ft_122_19) gF_0_1 kd_0 IM11.1 (by decide) rfl ?_
        refine PW.gR 15 q_122_54 (Or.inr t_fN_122_101) gF_3_1 kd_3 IM11.1 (by decide) rfl ?_
        refine PW.aload_n q_122_57 rfl ?_
        refine PW.gR 3 q_122_58 (Or.inl t_ft_122_19) gF_0_1 kd_0 IM11.1 (by decide) rfl ?_
        refine PW.gR 4 q_122_61 (Or.inr t_fN_122_94) gF_3_0 kd_3 IM11.1 (by decide) rfl ?_
        refine PW.iload_n q_122_64 rfl ?_
        refine PW.cV (as := [_, _]) (rest := []) q_122_65 t_mv_122_300 kd_15 IM11.1 (by decide) rfl (by decide) rfl rfl (Nat.le_of_ble_eq_true rfl) (Nat.le_of_ble_eq_true rfl) (by decide) (by decide) ?_
        refine PW.up (by decide) (c_X5_passMany_w G _ M11 IM11 15 kd_15 4 kd_4 x9 (by omega) bw TM11 fun M12 IM12 GM12 TM12 => ?_)
        have FM12 := Fr.trans FM11 GM12 (rfl)
        refine PW.iload_n q_122_68 rfl ?_
        refine PW.rI q_122_69 rfl (by decide) (by decide) ?_
        exact hK x9 M12 IM12 FM12 TM12
    · skip
      refine PW.cI q_122_11 (by decide) fun c13 hc13 => ?_
      refine PW.rI q_122_12 rfl (by decide) (by decide) ?_
      exact hK c13 M I F hw
theorem c_X11_drawn_w (G : pG) (Kr : pK) (M : pM) (I : Iv gTT M) (a1 : Int32) (a2 : Int32) (bw : Nat) (hw : gWb bw M) (hw_0 : bw = 275) (hK : ∀ (x : Int32) (M1 : pM), Iv gTT M1 → Fr [5, 7, 9, 10, 11, 12, 13, 21] M M1 → (gWb bw M1) → Kr.1 (some (.int x)) 311 M1) : PW G false 6 123 (p_mc 123) (p_msl 123) Kr 0 (lv_args 0 [.ref 0, .int a1, .int a2]) [] 311 M 0 0 := by
  have F : Fr [5, 7, 9, 10, 11, 12, 13, 21] M M := Fr.refl
  refine PW.iload_n q_123_0 rfl ?_
  refine PW.cI q_123_1 (by decide) fun c1 hc1 => ?_
  refine PW.jc_lt q_123_2 rfl (fun h2 => ?_) (fun h2 => ?_)
  · skip
    refine PW.cI q_123_24 (by decide) fun c3 hc3 => ?_
    refine PW.rI q_123_25 rfl (by decide) (by decide) ?_
    exact hK c3 M I F hw
  · skip
    refine PW.iload_n q_123_5 rfl ?_
    refine PW.cB q_123_6 (by decide) fun c4 hc4 => ?_
    refine PW.jc_gt q_123_8 rfl (fun h5 => ?_) (fun h5 => ?_)
    · skip
      refine PW.cI q_123_24 (by decide) fun c6 hc6 => ?_
      refine PW.rI q_123_25 rfl (by decide) (by decide) ?_
      exact hK c6 M I F hw
    · skip
      refine PW.aload_n q_123_11 rfl ?_
      refine PW.gR 3 q_123_12 (Or.inl t_ft_123_19) gF_0_1 kd_0 I.1 (by decide) rfl ?_
      refine PW.gR 4 q_123_15 (Or.inr t_fN_123_94) gF_3_0 kd_3 I.1 (by decide) rfl ?_
      refine PW.gI q_123_18 (Or.inr t_fN_123_136) gF_4_6 kd_4 I.1 (by decide) fun x7 fx7 hx7 kx7 => ?_
      refine PW.jz_ne q_123_21 rfl (fun h8 => ?_) (fun h8 => ?_)
      · skip
        refine PW.iload_n q_123_26 rfl ?_
        refine PW.cS q_123_27 (by decide) fun c9 hc9 => ?_
        refine PW.aload_n q_123_30 rfl ?_
        refine PW.gR 3 q_123_31 (Or.inl t_ft_123_19) gF_0_1 kd_0 I.1 (by decide) rfl ?_
        refine PW.gR 15 q_123_34 (Or.inr t_fN_123_101) gF_3_1 kd_3 I.1 (by decide) rfl ?_
        refine PW.gI q_123_37 (Or.inr t_fN_123_230) gF_5_0 kd_15 I.1 (by decide) fun x10 fx10 hx10 kx10 => ?_
        refine PW.subN q_123_40 (by omega) (by omega) fun x11 hx11 => ?_
        refine PW.minN q_123_41 t_mj_123_295 (by decide) (Nat.le_of_ble_eq_true rfl) (by decide) (by decide) fun x12 hx12 kx12 lx12 => ?_
        refine PW.istore_n q_123_44 (by decide) ?_
        refine PW.iload_n q_123_45 rfl ?_
        refine PW.jz_le q_123_46 rfl (fun h13 => ?_) (fun h13 => ?_)
        · skip
          refine PW.iload_n q_123_82 rfl ?_
          refine PW.rI q_123_83 rfl (by decide) (by decide) ?_
          exact hK x12 M I F hw
        · skip
          refine PW.aload_n q_123_49 rfl ?_
          refine PW.gR 110 q_123_50 (Or.inl t_ft_123_34) gF_0_4 kd_0 I.1 (by decide) rfl ?_
          refine PW.aload_n q_123_53 rfl ?_
          refine PW.gR 3 q_123_54 (Or.inl t_ft_123_19) gF_0_1 kd_0 I.1 (by decide) rfl ?_
          refine PW.gR 15 q_123_57 (Or.inr t_fN_123_101) gF_3_1 kd_3 I.1 (by decide) rfl ?_
          refine PW.cV (as := [_]) (rest := []) q_123_60 t_mv_123_147 kd_110 I.1 (by decide) rfl (by decide) rfl rfl (Nat.le_of_ble_eq_true rfl) (Nat.le_of_ble_eq_true rfl) (by decide) (by decide) ?_
          refine PW.up (by decide) (c_X1_keep_w G _ M I 15 kd_15 bw hw (by omega) fun M14 IM14 GM14 TM14 => ?_)
          have FM14 := Fr.trans F GM14 (rfl)
          refine PW.aload_n q_123_63 rfl ?_
          refine PW.gR 3 q_123_64 (Or.inl t_ft_123_19) gF_0_1 kd_0 IM14.1 (by decide) rfl ?_
          refine PW.gR 15 q_123_67 (Or.inr t_fN_123_101) gF_3_1 kd_3 IM14.1 (by decide) rfl ?_
          refine PW.aload_n q_123_70 rfl ?_
          refine PW.gR 3 q_123_71 (Or.inl t_ft_123_19) gF_0_1 kd_0 IM14.1 (by decide) rfl ?_
          refine PW.gR 4 q_123_74 (Or.inr t_fN_123_94) gF_3_0 kd_3 IM14.1 (by decide) rfl ?_
          refine PW.iload_n q_123_77 rfl ?_
          refine PW.iload_n q_123_78 rfl ?_
          refine PW.cV (as := [_, _, _]) (rest := []) q_123_79 t_mv_123_304 kd_15 IM14.1 (by decide) rfl (by decide) rfl rfl (Nat.le_of_ble_eq_true rfl) (Nat.le_of_ble_eq_true rfl) (by decide) (by decide) ?_
          refine PW.up (by decide) (c_X5_passDrawn_w G _ M14 IM14 15 kd_15 4 kd_4 x12 a2 (by omega) bw TM14 fun M15 IM15 GM15 TM15 => ?_)
          have FM15 := Fr.trans FM14 GM15 (rfl)
          refine PW.iload_n q_123_82 rfl ?_
          refine PW.rI q_123_83 rfl (by decide) (by decide) ?_
          exact hK x12 M15 IM15 FM15 TM15
      · skip
        refine PW.cI q_123_24 (by decide) fun c16 hc16 => ?_
        refine PW.rI q_123_25 rfl (by decide) (by decide) ?_
        exact hK c16 M I F hw
theorem c_X11_undo_w (G : pG) (Kr : pK) (M : pM) (I : Iv gTT M) (bw : Nat) (hw : gWb bw M) (hw_0 : bw = 275) (hK : ∀ (x : Int32) (M1 : pM), Iv gTT M1 → Fr [5, 7, 9, 10, 11, 12, 13, 21] M M1 → (gWb bw M1) → Kr.1 (some (.int x)) 311 M1) : PW G false 5 124 (p_mc 124) (p_msl 124) Kr 0 (lv_args 0 [.ref 0]) [] 311 M 0 0 := by
  have F : Fr [5, 7, 9, 10, 11, 12, 13, 21] M M := Fr.refl
  refine PW.aload_n q_124_0 rfl ?_
  refine PW.gR 110 q_124_1 (Or.inl t_ft_124_34) gF_0_4 kd_0 I.1 (by decide) rfl ?_
  refine PW.gI q_124_4 (Or.inr t_fN_124_308) gF_21_2 kd_110 I.1 (by decide) fun x1 fx1 hx1 kx1 => ?_
  refine PW.jz_ne q_124_7 rfl (fun h2 => ?_) (fun h2 => ?_)
  · skip
    refine PW.aload_n q_124_12 rfl ?_
    refine PW.gR 110 q_124_13 (Or.inl t_ft_124_34) gF_0_4 kd_0 I.1 (by decide) rfl ?_
    refine PW.aload_n q_124_16 rfl ?_
    refine PW.gR 3 q_124_17 (Or.inl t_ft_124_19) gF_0_1 kd_0 I.1 (by decide) rfl ?_
    refine PW.gR 15 q_124_20 (Or.inr t_fN_124_101) gF_3_1 kd_3 I.1 (by decide) rfl ?_
    refine PW.cV (as := [_]) (rest := []) q_124_23 t_mv_124_311 kd_110 I.1 (by decide) rfl (by decide) rfl rfl (Nat.le_of_ble_eq_true rfl) (Nat.le_of_ble_eq_true rfl) (by decide) (by decide) ?_
    refine PW.up (by decide) (c_X1_giveBack_w G _ M I 15 kd_15 bw hw (by omega) fun M3 IM3 GM3 TM3 => ?_)
    have FM3 := Fr.trans F GM3 (rfl)
    refine PW.aload_n q_124_26 rfl ?_
    refine PW.gR 110 q_124_27 (Or.inl t_ft_124_34) gF_0_4 kd_0 IM3.1 (by decide) rfl ?_
    refine PW.gI q_124_30 (Or.inr t_fN_124_308) gF_21_2 kd_110 IM3.1 (by decide) fun x4 fx4 hx4 kx4 => ?_
    refine PW.rI q_124_33 rfl (by decide) (by decide) ?_
    exact hK x4 M3 IM3 FM3 TM3
  · skip
    refine PW.cI q_124_10 (by decide) fun c5 hc5 => ?_
    refine PW.rI q_124_11 rfl (by decide) (by decide) ?_
    exact hK c5 M I F hw
theorem c_X11_image_w (G : pG) (Kr : pK) (M : pM) (I : Iv gTT M) (a1 : Int32) (bw : Nat) (hw : gWb bw M) (hw_0 : bw = 275) (hK : ∀ (x : Int32) (M1 : pM), Iv gTT M1 → Fr [4, 5, 7, 9, 10, 11, 12, 13, 14, 15, 16, 17, 20, 27, 28, 29, 30, 31, 32, 33, 34, 35, 36] M M1 → 0 ≤ x.toInt → x.toInt ≤ 1 → (gWb bw M1) → Kr.1 (some (.int x)) 311 M1) : PW G false 5 125 (p_mc 125) (p_msl 125) Kr 0 (lv_args 0 [.ref 0, .int a1]) [] 311 M 0 0 := by
  have F : Fr [4, 5, 7, 9, 10, 11, 12, 13, 14, 15, 16, 17, 20, 27, 28, 29, 30, 31, 32, 33, 34, 35, 36] M M := Fr.refl
  refine PW.iload_n q_125_0 rfl ?_
  refine PW.jz_lt q_125_1 rfl (fun h1 => ?_) (fun h1 => ?_)
  · skip
    refine PW.cI q_125_9 (by decide) fun c2 hc2 => ?_
    refine PW.rZ q_125_10 rfl (by omega) (by omega) (by decide) (by decide) ?_
    exact hK c2 M I F (by omega) (by omega) hw
  · skip
    refine PW.iload_n q_125_4 rfl ?_
    refine PW.cI q_125_5 (by decide) fun c3 hc3 => ?_
    refine PW.jc_lt q_125_6 rfl (fun h4 => ?_) (fun h4 => ?_)
    · skip
      refine PW.aload_n q_125_11 rfl ?_
      refine PW.gR 38 q_125_12 (Or.inl t_ft_125_23) gF_0_2 kd_0 I.1 (by decide) rfl ?_
      refine PW.iload_n q_125_15 rfl ?_
      refine PW.aRk q_125_16 rfl (by decide) (by decide) kd_38 I.1 (by decide) (by omega) (by omega) fun b5 hk_b5 e_b5 => ?_
      refine PW.aload_n q_125_17 rfl ?_
      refine PW.gR 3 q_125_18 (Or.inl t_ft_125_19) gF_0_1 kd_0 I.1 (by decide) rfl ?_
      refine PW.cV (as := [_]) (rest := []) q_125_21 t_mv_125_314 hk_b5 I.1 (by decide) rfl (by decide) rfl rfl (Nat.le_of_ble_eq_true rfl) (Nat.le_of_ble_eq_true rfl) (by decide) (by decide) ?_
      refine PW.up (by decide) (c_X10_copyFrom_w G _ M I b5 hk_b5 3 kd_3 bw hw (by omega) fun M6 IM6 GM6 TM6 => ?_)
      have FM6 := Fr.trans F GM6 (rfl)
      refine PW.aload_n q_125_24 rfl ?_
      refine PW.gR 109 q_125_25 (Or.inl t_ft_125_27) gF_0_3 kd_0 IM6.1 (by decide) rfl ?_
      refine PW.iload_n q_125_28 rfl ?_
      refine PW.cI q_125_29 (by decide) fun c7 hc7 => ?_
      refine PW.wZ q_125_30 gA_20 kd_109 Stab0 IM6 (by decide) rfl gC_20_0_1 (by omega) (by omega) (by omega) (by omega) fun M8 IM8 fM8 UM8 => ?_
      have FM8 := Fr.pu FM6 UM8.1 kd_109 (rfl : List.contains [4, 5, 7, 9, 10, 11, 12, 13, 14, 15, 16, 17, 20, 27, 28, 29, 30, 31, 32, 33, 34, 35, 36] 20 = true)
      refine PW.cI q_125_31 (by decide) fun c9 hc9 => ?_
      refine PW.rZ q_125_32 rfl (by omega) (by omega) (by decide) (by decide) ?_
      exact hK c9 M8 IM8 FM8 (by omega) (by omega) (TM6.ar UM8.1 kd_109 (by decide))
    · skip
      refine PW.cI q_125_9 (by decide) fun c10 hc10 => ?_
      refine PW.rZ q_125_10 rfl (by omega) (by omega) (by decide) (by decide) ?_
      exact hK c10 M I F (by omega) (by omega) hw
theorem c_X11_restore_w (G : pG) (Kr : pK) (M : pM) (I : Iv gTT M) (a1 : Int32) (bw : Nat) (hw : gWb bw M) (hw_0 : bw = 275) (hK : ∀ (x : Int32) (M1 : pM), Iv gTT M1 → Fr [4, 5, 7, 9, 10, 11, 12, 13, 14, 15, 16, 17, 21, 27, 28, 29, 30, 31, 32, 33, 34, 35, 36] M M1 → 0 ≤ x.toInt → x.toInt ≤ 1 → (gWb bw M1) → Kr.1 (some (.int x)) 311 M1) : PW G false 5 126 (p_mc 126) (p_msl 126) Kr 0 (lv_args 0 [.ref 0, .int a1]) [] 311 M 0 0 := by
  have F : Fr [4, 5, 7, 9, 10, 11, 12, 13, 14, 15, 16, 17, 21, 27, 28, 29, 30, 31, 32, 33, 34, 35, 36] M M := Fr.refl
  refine PW.iload_n q_126_0 rfl ?_
  refine PW.jz_lt q_126_1 rfl (fun h1 => ?_) (fun h1 => ?_)
  · skip
    refine PW.cI q_126_18 (by decide) fun c2 hc2 => ?_
    refine PW.rZ q_126_19 rfl (by omega) (by omega) (by decide) (by decide) ?_
    exact hK c2 M I F (by omega) (by omega) hw
  · skip
    refine PW.iload_n q_126_4 rfl ?_
    refine PW.cI q_126_5 (by decide) fun c3 hc3 => ?_
    refine PW.jc_ge q_126_6 rfl (fun h4 => ?_) (fun h4 => ?_)
    · skip
      refine PW.cI q_126_18 (by decide) fun c5 hc5 => ?_
      refine PW.rZ q_126_19 rfl (by omega) (by omega) (by decide) (by decide) ?_
      exact hK c5 M I F (by omega) (by omega) hw
    · skip
      refine PW.aload_n q_126_9 rfl ?_
      refine PW.gR 109 q_126_10 (Or.inl t_ft_126_27) gF_0_3 kd_0 I.1 (by decide) rfl ?_
      refine PW.iload_n q_126_13 rfl ?_
      refine PW.aZ q_126_14 gA_20 kd_109 I.1 (by decide) gB_20_0_1 (by omega) (by omega) fun x6 fx6 hx6 kx6 => ?_
      refine PW.jz_ne q_126_15 rfl (fun h7 => ?_) (fun h7 => ?_)
      · skip
        refine PW.aload_n q_126_20 rfl ?_
        refine PW.gR 3 q_126_21 (Or.inl t_ft_126_19) gF_0_1 kd_0 I.1 (by decide) rfl ?_
        refine PW.aload_n q_126_24 rfl ?_
        refine PW.gR 38 q_126_25 (Or.inl t_ft_126_23) gF_0_2 kd_0 I.1 (by decide) rfl ?_
        refine PW.iload_n q_126_28 rfl ?_
        refine PW.aRk q_126_29 rfl (by decide) (by decide) kd_38 I.1 (by decide) (by omega) (by omega) fun b8 hk_b8 e_b8 => ?_
        refine PW.cV (as := [_]) (rest := []) q_126_30 t_mv_126_314 kd_3 I.1 (by decide) rfl (by decide) rfl rfl (Nat.le_of_ble_eq_true rfl) (Nat.le_of_ble_eq_true rfl) (by decide) (by decide) ?_
        refine PW.up (by decide) (c_X10_copyFrom_w G _ M I 3 kd_3 b8 hk_b8 bw hw (by rw [e_b8]; show 38 + 1 + 35 * _ + 26 < bw; omega) fun M9 IM9 GM9 TM9 => ?_)
        have FM9 := Fr.trans F GM9 (rfl)
        refine PW.aload_n q_126_33 rfl ?_
        refine PW.gR 110 q_126_34 (Or.inl t_ft_126_34) gF_0_4 kd_0 IM9.1 (by decide) rfl ?_
        refine PW.cV (as := []) (rest := []) q_126_37 t_mv_126_113 kd_110 IM9.1 (by decide) rfl (by decide) rfl rfl (Nat.le_of_ble_eq_true rfl) (Nat.le_of_ble_eq_true rfl) (by decide) (by decide) ?_
        refine PW.up (by decide) (c_X1_forget (gTT) (Stab0) G _ M9 IM9  fun M10 IM10 GM10 => ?_)
        have FM10 := Fr.trans FM9 GM10 (rfl)
        refine PW.cI q_126_40 (by decide) fun c11 hc11 => ?_
        refine PW.rZ q_126_41 rfl (by omega) (by omega) (by decide) (by decide) ?_
        exact hK c11 M10 IM10 FM10 (by omega) (by omega) (TM9.fr GM10 rfl)
      · skip
        refine PW.cI q_126_18 (by decide) fun c12 hc12 => ?_
        refine PW.rZ q_126_19 rfl (by omega) (by omega) (by decide) (by decide) ?_
        exact hK c12 M I F (by omega) (by omega) hw
theorem c_X11_meet_w (G : pG) (Kr : pK) (M : pM) (I : Iv gTT M) (a1 : Int32) (a2 : Int32) (bw : Nat) (hw : gWb bw M) (hw_0 : bw = 275) (hK : ∀ (x : Int32) (M1 : pM), Iv gTT M1 → Fr [5, 7, 9, 10, 11, 12, 13] M M1 → (gWb bw M1) → Kr.1 (some (.int x)) 311 M1) : PW G false 5 127 (p_mc 127) (p_msl 127) Kr 0 (lv_args 0 [.ref 0, .int a1, .int a2]) [] 311 M 0 0 := by
  have F : Fr [5, 7, 9, 10, 11, 12, 13] M M := Fr.refl
  refine PW.aload_n q_127_0 rfl ?_
  refine PW.iload_n q_127_1 rfl ?_
  refine PW.cV (as := [_]) (rest := []) q_127_2 t_mv_127_169 kd_0 I.1 (by decide) rfl (by decide) rfl rfl (Nat.le_of_ble_eq_true rfl) (Nat.le_of_ble_eq_true rfl) (by decide) (by decide) ?_
  refine PW.iload_n q_143_0 rfl ?_
  refine PW.jz_lt q_143_1 rfl (fun h1 => ?_) (fun h1 => ?_)
  · skip
    refine PW.cI q_143_22 (by decide) fun c2 hc2 => ?_
    refine PW.rZ q_143_23 rfl (by omega) (by omega) (by decide) (by decide) ?_
    refine PW.jz_eq q_127_5 rfl (fun h3 => ?_) (fun h3 => False.elim (by omega))
    refine PW.cI q_127_21 (by decide) fun c4 hc4 => ?_
    refine PW.rI q_127_22 rfl (by decide) (by decide) ?_
    exact hK c4 M I F hw
  · skip
    refine PW.iload_n q_143_4 rfl ?_
    refine PW.aload_n q_143_5 rfl ?_
    refine PW.gR 3 q_143_6 (Or.inl t_ft_143_19) gF_0_1 kd_0 I.1 (by decide) rfl ?_
    refine PW.gR 4 q_143_9 (Or.inr t_fN_143_94) gF_3_0 kd_3 I.1 (by decide) rfl ?_
    refine PW.gI q_143_12 (Or.inr t_fN_143_136) gF_4_6 kd_4 I.1 (by decide) fun x5 fx5 hx5 kx5 => ?_
    refine PW.jc_ge q_143_15 rfl (fun h6 => ?_) (fun h6 => ?_)
    · skip
      refine PW.cI q_143_22 (by decide) fun c7 hc7 => ?_
      refine PW.rZ q_143_23 rfl (by omega) (by omega) (by decide) (by decide) ?_
      refine PW.jz_eq q_127_5 rfl (fun h8 => ?_) (fun h8 => False.elim (by omega))
      refine PW.cI q_127_21 (by decide) fun c9 hc9 => ?_
      refine PW.rI q_127_22 rfl (by decide) (by decide) ?_
      exact hK c9 M I F hw
    · skip
      refine PW.cI q_143_18 (by decide) fun c10 hc10 => ?_
      refine PW.goto q_143_19 rfl ?_
      refine PW.rZ q_143_23 rfl (by omega) (by omega) (by decide) (by decide) ?_
      refine PW.jz_eq q_127_5 rfl (fun h11 => False.elim (by omega)) (fun h11 => ?_)
      refine PW.aload_n q_127_8 rfl ?_
      refine PW.iload_n q_127_9 rfl ?_
      refine PW.cV (as := [_]) (rest := []) q_127_10 t_mv_127_169 kd_0 I.1 (by decide) rfl (by decide) rfl rfl (Nat.le_of_ble_eq_true rfl) (Nat.le_of_ble_eq_true rfl) (by decide) (by decide) ?_
      refine PW.iload_n q_143_0 rfl ?_
      refine PW.jz_lt q_143_1 rfl (fun h12 => ?_) (fun h12 => ?_)
      · skip
        refine PW.cI q_143_22 (by decide) fun c13 hc13 => ?_
        refine PW.rZ q_143_23 rfl (by omega) (by omega) (by decide) (by decide) ?_
        refine PW.jz_eq q_127_13 rfl (fun h14 => ?_) (fun h14 => False.elim (by omega))
        refine PW.cI q_127_21 (by decide) fun c15 hc15 => ?_
        refine PW.rI q_127_22 rfl (by decide) (by decide) ?_
        exact hK c15 M I F hw
      · skip
        refine PW.iload_n q_143_4 rfl ?_
        refine PW.aload_n q_143_5 rfl ?_
        refine PW.gR 3 q_143_6 (Or.inl t_ft_143_19) gF_0_1 kd_0 I.1 (by decide) rfl ?_
        refine PW.gR 4 q_143_9 (Or.inr t_fN_143_94) gF_3_0 kd_3 I.1 (by decide) rfl ?_
        refine PW.gE q_143_12 (Or.inr t_fN_143_136) gF_4_6 kd_4 I.1 (by decide) fx5 ?_
        refine PW.jc_ge q_143_15 rfl (fun h16 => ?_) (fun h16 => ?_)
        · skip
          refine PW.cI q_143_22 (by decide) fun c17 hc17 => ?_
          refine PW.rZ q_143_23 rfl (by omega) (by omega) (by decide) (by decide) ?_
          refine PW.jz_eq q_127_13 rfl (fun h18 => ?_) (fun h18 => False.elim (by omega))
          refine PW.cI q_127_21 (by decide) fun c19 hc19 => ?_
          refine PW.rI q_127_22 rfl (by decide) (by decide) ?_
          exact hK c19 M I F hw
        · skip
          refine PW.cI q_143_18 (by decide) fun c20 hc20 => ?_
          refine PW.goto q_143_19 rfl ?_
          refine PW.rZ q_143_23 rfl (by omega) (by omega) (by decide) (by decide) ?_
          refine PW.jz_eq q_127_13 rfl (fun h21 => False.elim (by omega)) (fun h21 => ?_)
          refine PW.iload_n q_127_16 rfl ?_
          refine PW.iload_n q_127_17 rfl ?_
          refine PW.jc_ne q_127_18 rfl (fun h22 => ?_) (fun h22 => ?_)
          · skip
            refine PW.aload_n q_127_23 rfl ?_
            refine PW.cV (as := []) (rest := []) q_127_24 t_mv_127_140 kd_0 I.1 (by decide) rfl (by decide) rfl rfl (Nat.le_of_ble_eq_true rfl) (Nat.le_of_ble_eq_true rfl) (by decide) (by decide) ?_
            refine PW.up (by decide) (c_X11_foreseen_w G _ M I bw hw (by omega) fun M23 IM23 GM23 TM23 XM23 => ?_)
            have FM23 := Fr.trans F GM23 (rfl)
            refine PW.astore_n q_127_27 (by decide) ?_
            refine PW.cI q_127_28 (by decide) fun c24 hc24 => ?_
            refine PW.istore q_127_29 (by decide) ?_
            have L127_31_25 : ∀ (n : Nat) (ML127_31_25 : pM) (v26 : Int32), Iv (gTT) ML127_31_25 → Fr [5, 7, 9, 10, 11, 12, 13] M ML127_31_25 → 0 ≤ v26.toInt → v26.toInt ≤ 301 → gWb bw ML127_31_25 → (301 - v26.toInt).toNat = n → PW G false 5 127 (p_mc 127) (p_msl 127) Kr 31 [(0, .ref 0), (1, .int a1), (2, .int a2), (3, .ref 275), (4, .int v26)] [] 311 ML127_31_25 0 0 := by
              intro n
              induction n using Nat.strongRecOn with
              | ind n ih_L127_31_25 =>
              intro ML127_31_25 v26 IML127_31_25 FML127_31_25 hbL127_31_250 hbL127_31_251 hbL127_31_252 hmL127_31_25
              refine PW.iload q_127_31 rfl ?_
              refine PW.cS q_127_33 (by decide) fun c27 hc27 => ?_
              refine PW.jc_gt q_127_36 rfl (fun h28 => ?_) (fun h28 => ?_)
              · skip
                refine PW.cI q_127_85 (by decide) fun c29 hc29 => ?_
                refine PW.rI q_127_86 rfl (by decide) (by decide) ?_
                exact hK c29 ML127_31_25 IML127_31_25 FML127_31_25 hbL127_31_252
              · skip
                refine PW.aload_n q_127_39 rfl ?_
                refine PW.iload_n q_127_40 rfl ?_
                refine PW.iload_n q_127_41 rfl ?_
                refine PW.cV (as := [_, _]) (rest := []) q_127_42 t_mv_127_260 kd_275 IML127_31_25.1 (by decide) rfl (by decide) rfl rfl (Nat.le_of_ble_eq_true rfl) (Nat.le_of_ble_eq_true rfl) (by decide) (by decide) ?_
                refine PW.up (by decide) (c_X5_apart (gTT) (Stab0) G _ ML127_31_25 IML127_31_25 275 kd_275 a1 a2 (by omega) (by omega) (by omega) (by omega) fun x31 M30 IM30 GM30 => ?_)
                have FM30 := Fr.trans FML127_31_25 GM30 (rfl)
                refine PW.aload_n q_127_45 rfl ?_
                refine PW.gR 3 q_127_46 (Or.inl t_ft_127_19) gF_0_1 kd_0 IM30.1 (by decide) rfl ?_
                refine PW.gR 4 q_127_49 (Or.inr t_fN_127_94) gF_3_0 kd_3 IM30.1 (by decide) rfl ?_
                refine PW.gI q_127_52 (Or.inr t_fN_127_254) gF_4_2 kd_4 IM30.1 (by decide) fun x32 fx32 hx32 kx32 => ?_
                clear hx32 kx32
                refine PW.jc_gt q_127_55 rfl (fun h33 => ?_) (fun h33 => ?_)
                · skip
                  refine PW.aload_n q_127_63 rfl ?_
                  refine PW.aload_n q_127_64 rfl ?_
                  refine PW.gR 3 q_127_65 (Or.inl t_ft_127_19) gF_0_1 kd_0 IM30.1 (by decide) rfl ?_
                  refine PW.gR 4 q_127_68 (Or.inr t_fN_127_94) gF_3_0 kd_3 IM30.1 (by decide) rfl ?_
                  refine PW.cV (as := [_]) (rest := []) q_127_71 t_mv_127_317 kd_275 IM30.1 (by decide) rfl (by decide) rfl rfl (Nat.le_of_ble_eq_true rfl) (Nat.le_of_ble_eq_true rfl) (by decide) (by decide) ?_
                  refine PW.up (by decide) (c_X5_pass_w G _ M30 IM30 275 kd_275 4 kd_4 bw (hbL127_31_252.fr GM30 rfl) fun x35 M34 IM34 GM34 hx35 kx35 TM34 => ?_)
                  have FM34 := Fr.trans FM30 GM34 (rfl)
                  refine PW.jz_ne q_127_74 rfl (fun h36 => ?_) (fun h36 => ?_)
                  · skip
                    refine PW.incN q_127_79 rfl (by decide) (by decide) (by omega) (by omega) fun x37 hx37 => ?_
                    refine PW.goto q_127_82 rfl ?_
                    refine PW.lvS (lk1 rfl (lk1 rfl (lk1 rfl (lk1 rfl (lk1 rfl lk0))))) (ih_L127_31_25 _ ?_ M34 x37 IM34 FM34 (by omega) (by omega) TM34 rfl)
                    omega
                  · skip
                    refine PW.cI q_127_77 (by decide) fun c38 hc38 => ?_
                    refine PW.rI q_127_78 rfl (by decide) (by decide) ?_
                    exact hK c38 M34 IM34 FM34 TM34
                · skip
                  refine PW.aload_n q_127_58 rfl ?_
                  refine PW.gI q_127_59 (Or.inr t_fN_127_230) gF_5_0 kd_275 IM30.1 (by decide) fun x39 fx39 hx39 kx39 => ?_
                  refine PW.rI q_127_62 rfl (by decide) (by decide) ?_
                  exact hK x39 M30 IM30 FM30 (hbL127_31_252.fr GM30 rfl)
            exact PW.lvS (lk1 rfl (lk1 rfl (lk1 rfl (lk1 rfl (lk1 rfl lk0))))) (L127_31_25 _ M23 c24 IM23 FM23 (by omega) (by omega) TM23 rfl)
          · skip
            refine PW.cI q_127_21 (by decide) fun c40 hc40 => ?_
            refine PW.rI q_127_22 rfl (by decide) (by decide) ?_
            exact hK c40 M I F hw
theorem c_X11_run_w (G : pG) (Kr : pK) (M : pM) (I : Iv gTT M) (a1 : Int32) (a2 : Int32) (bw : Nat) (hw : gWb bw M) (hw_0 : bw = 275) (hK : ∀ (x : Int32) (M1 : pM), Iv gTT M1 → Fr [5, 7, 9, 10, 11, 12, 13] M M1 → (gWb bw M1) → Kr.1 (some (.int x)) 311 M1) : PW G false 6 128 (p_mc 128) (p_msl 128) Kr 0 (lv_args 0 [.ref 0, .int a1, .int a2]) [] 311 M 0 0 := by
  have F : Fr [5, 7, 9, 10, 11, 12, 13] M M := Fr.refl
  refine PW.aload_n q_128_0 rfl ?_
  refine PW.iload_n q_128_1 rfl ?_
  refine PW.cV (as := [_]) (rest := []) q_128_2 t_mv_128_203 kd_0 I.1 (by decide) rfl (by decide) rfl rfl (Nat.le_of_ble_eq_true rfl) (Nat.le_of_ble_eq_true rfl) (by decide) (by decide) ?_
  refine PW.iload_n q_144_0 rfl ?_
  refine PW.jz_lt q_144_1 rfl (fun h1 => ?_) (fun h1 => ?_)
  · skip
    refine PW.cI q_144_22 (by decide) fun c2 hc2 => ?_
    refine PW.rZ q_144_23 rfl (by omega) (by omega) (by decide) (by decide) ?_
    refine PW.jz_eq q_128_5 rfl (fun h3 => ?_) (fun h3 => False.elim (by omega))
    refine PW.cI q_128_19 (by decide) fun c4 hc4 => ?_
    refine PW.rI q_128_20 rfl (by decide) (by decide) ?_
    exact hK c4 M I F hw
  · skip
    refine PW.iload_n q_144_4 rfl ?_
    refine PW.aload_n q_144_5 rfl ?_
    refine PW.gR 3 q_144_6 (Or.inl t_ft_144_19) gF_0_1 kd_0 I.1 (by decide) rfl ?_
    refine PW.gR 4 q_144_9 (Or.inr t_fN_144_94) gF_3_0 kd_3 I.1 (by decide) rfl ?_
    refine PW.gI q_144_12 (Or.inr t_fN_144_249) gF_4_7 kd_4 I.1 (by decide) fun x5 fx5 hx5 kx5 => ?_
    refine PW.jc_ge q_144_15 rfl (fun h6 => ?_) (fun h6 => ?_)
    · skip
      refine PW.cI q_144_22 (by decide) fun c7 hc7 => ?_
      refine PW.rZ q_144_23 rfl (by omega) (by omega) (by decide) (by decide) ?_
      refine PW.jz_eq q_128_5 rfl (fun h8 => ?_) (fun h8 => False.elim (by omega))
      refine PW.cI q_128_19 (by decide) fun c9 hc9 => ?_
      refine PW.rI q_128_20 rfl (by decide) (by decide) ?_
      exact hK c9 M I F hw
    · skip
      refine PW.cI q_144_18 (by decide) fun c10 hc10 => ?_
      refine PW.goto q_144_19 rfl ?_
      refine PW.rZ q_144_23 rfl (by omega) (by omega) (by decide) (by decide) ?_
      refine PW.jz_eq q_128_5 rfl (fun h11 => False.elim (by omega)) (fun h11 => ?_)
      refine PW.iload_n q_128_8 rfl ?_
      refine PW.cI q_128_9 (by decide) fun c12 hc12 => ?_
      refine PW.jc_lt q_128_10 rfl (fun h13 => ?_) (fun h13 => ?_)
      · skip
        refine PW.cI q_128_19 (by decide) fun c14 hc14 => ?_
        refine PW.rI q_128_20 rfl (by decide) (by decide) ?_
        exact hK c14 M I F hw
      · skip
        refine PW.iload_n q_128_13 rfl ?_
        refine PW.cB q_128_14 (by decide) fun c15 hc15 => ?_
        refine PW.jc_le q_128_16 rfl (fun h16 => ?_) (fun h16 => ?_)
        · skip
          refine PW.aload_n q_128_21 rfl ?_
          refine PW.cV (as := []) (rest := []) q_128_22 t_mv_128_140 kd_0 I.1 (by decide) rfl (by decide) rfl rfl (Nat.le_of_ble_eq_true rfl) (Nat.le_of_ble_eq_true rfl) (by decide) (by decide) ?_
          refine PW.up (by decide) (c_X11_foreseen_w G _ M I bw hw (by omega) fun M17 IM17 GM17 TM17 XM17 => ?_)
          have FM17 := Fr.trans F GM17 (rfl)
          refine PW.astore_n q_128_25 (by decide) ?_
          refine PW.aload_n q_128_26 rfl ?_
          refine PW.aload_n q_128_27 rfl ?_
          refine PW.gR 3 q_128_28 (Or.inl t_ft_128_19) gF_0_1 kd_0 IM17.1 (by decide) rfl ?_
          refine PW.gR 4 q_128_31 (Or.inr t_fN_128_94) gF_3_0 kd_3 IM17.1 (by decide) rfl ?_
          refine PW.iload_n q_128_34 rfl ?_
          refine PW.cV (as := [_, _]) (rest := []) q_128_35 t_mv_128_300 kd_275 IM17.1 (by decide) rfl (by decide) rfl rfl (Nat.le_of_ble_eq_true rfl) (Nat.le_of_ble_eq_true rfl) (by decide) (by decide) ?_
          refine PW.up (by decide) (c_X5_passMany_w G _ M17 IM17 275 kd_275 4 kd_4 a2 (by omega) bw TM17 fun M18 IM18 GM18 TM18 => ?_)
          have FM18 := Fr.trans FM17 GM18 (rfl)
          refine PW.aload_n q_128_38 rfl ?_
          refine PW.gR 283 q_128_39 (Or.inr t_fN_128_206) gF_5_4 kd_275 IM18.1 (by decide) rfl ?_
          refine PW.iload_n q_128_42 rfl ?_
          refine PW.aRk q_128_43 rfl (by decide) (by decide) kd_283 IM18.1 (by decide) (by omega) (by omega) fun b19 hk_b19 e_b19 => ?_
          refine PW.gI q_128_44 (Or.inr t_fN_128_215) gF_9_2 hk_b19 IM18.1 (by decide) fun x20 fx20 hx20 kx20 => ?_
          clear hx20 kx20
          refine PW.aload_n q_128_47 rfl ?_
          refine PW.gR 3 q_128_48 (Or.inl t_ft_128_19) gF_0_1 kd_0 IM18.1 (by decide) rfl ?_
          refine PW.gR 15 q_128_51 (Or.inr t_fN_128_101) gF_3_1 kd_3 IM18.1 (by decide) rfl ?_
          refine PW.gR 23 q_128_54 (Or.inr t_fN_128_206) gF_5_4 kd_15 IM18.1 (by decide) rfl ?_
          refine PW.iload_n q_128_57 rfl ?_
          refine PW.aRk q_128_58 rfl (by decide) (by decide) kd_23 IM18.1 (by decide) (by omega) (by omega) fun b21 hk_b21 e_b21 => ?_
          refine PW.gI q_128_59 (Or.inr t_fN_128_215) gF_9_2 hk_b21 IM18.1 (by decide) fun x22 fx22 hx22 kx22 => ?_
          clear hx22 kx22
          refine PW.subH q_128_62 fun x23 => ?_
          refine PW.rI q_128_63 rfl (by decide) (by decide) ?_
          exact hK x23 M18 IM18 FM18 TM18
        · skip
          refine PW.cI q_128_19 (by decide) fun c24 hc24 => ?_
          refine PW.rI q_128_20 rfl (by decide) (by decide) ?_
          exact hK c24 M I F hw
theorem c_X11_turns_w (G : pG) (Kr : pK) (M : pM) (I : Iv gTT M) (a1 : Int32) (a2 : Int32) (bw : Nat) (hw : gWb bw M) (hw_0 : bw = 275) (hK : ∀ (x : Int32) (M1 : pM), Iv gTT M1 → Fr [5, 7, 9, 10, 11, 12, 13] M M1 → (gWb bw M1) → Kr.1 (some (.int x)) 311 M1) : PW G false 6 129 (p_mc 129) (p_msl 129) Kr 0 (lv_args 0 [.ref 0, .int a1, .int a2]) [] 311 M 0 0 := by
  have F : Fr [5, 7, 9, 10, 11, 12, 13] M M := Fr.refl
  refine PW.aload_n q_129_0 rfl ?_
  refine PW.iload_n q_129_1 rfl ?_
  refine PW.cV (as := [_]) (rest := []) q_129_2 t_mv_129_203 kd_0 I.1 (by decide) rfl (by decide) rfl rfl (Nat.le_of_ble_eq_true rfl) (Nat.le_of_ble_eq_true rfl) (by decide) (by decide) ?_
  refine PW.iload_n q_144_0 rfl ?_
  refine PW.jz_lt q_144_1 rfl (fun h1 => ?_) (fun h1 => ?_)
  · skip
    refine PW.cI q_144_22 (by decide) fun c2 hc2 => ?_
    refine PW.rZ q_144_23 rfl (by omega) (by omega) (by decide) (by decide) ?_
    refine PW.jz_eq q_129_5 rfl (fun h3 => ?_) (fun h3 => False.elim (by omega))
    refine PW.cI q_129_19 (by decide) fun c4 hc4 => ?_
    refine PW.rI q_129_20 rfl (by decide) (by decide) ?_
    exact hK c4 M I F hw
  · skip
    refine PW.iload_n q_144_4 rfl ?_
    refine PW.aload_n q_144_5 rfl ?_
    refine PW.gR 3 q_144_6 (Or.inl t_ft_144_19) gF_0_1 kd_0 I.1 (by decide) rfl ?_
    refine PW.gR 4 q_144_9 (Or.inr t_fN_144_94) gF_3_0 kd_3 I.1 (by decide) rfl ?_
    refine PW.gI q_144_12 (Or.inr t_fN_144_249) gF_4_7 kd_4 I.1 (by decide) fun x5 fx5 hx5 kx5 => ?_
    refine PW.jc_ge q_144_15 rfl (fun h6 => ?_) (fun h6 => ?_)
    · skip
      refine PW.cI q_144_22 (by decide) fun c7 hc7 => ?_
      refine PW.rZ q_144_23 rfl (by omega) (by omega) (by decide) (by decide) ?_
      refine PW.jz_eq q_129_5 rfl (fun h8 => ?_) (fun h8 => False.elim (by omega))
      refine PW.cI q_129_19 (by decide) fun c9 hc9 => ?_
      refine PW.rI q_129_20 rfl (by decide) (by decide) ?_
      exact hK c9 M I F hw
    · skip
      refine PW.cI q_144_18 (by decide) fun c10 hc10 => ?_
      refine PW.goto q_144_19 rfl ?_
      refine PW.rZ q_144_23 rfl (by omega) (by omega) (by decide) (by decide) ?_
      refine PW.jz_eq q_129_5 rfl (fun h11 => False.elim (by omega)) (fun h11 => ?_)
      refine PW.iload_n q_129_8 rfl ?_
      refine PW.cI q_129_9 (by decide) fun c12 hc12 => ?_
      refine PW.jc_lt q_129_10 rfl (fun h13 => ?_) (fun h13 => ?_)
      · skip
        refine PW.cI q_129_19 (by decide) fun c14 hc14 => ?_
        refine PW.rI q_129_20 rfl (by decide) (by decide) ?_
        exact hK c14 M I F hw
      · skip
        refine PW.iload_n q_129_13 rfl ?_
        refine PW.cB q_129_14 (by decide) fun c15 hc15 => ?_
        refine PW.jc_le q_129_16 rfl (fun h16 => ?_) (fun h16 => ?_)
        · skip
          refine PW.aload_n q_129_21 rfl ?_
          refine PW.cV (as := []) (rest := []) q_129_22 t_mv_129_140 kd_0 I.1 (by decide) rfl (by decide) rfl rfl (Nat.le_of_ble_eq_true rfl) (Nat.le_of_ble_eq_true rfl) (by decide) (by decide) ?_
          refine PW.up (by decide) (c_X11_foreseen_w G _ M I bw hw (by omega) fun M17 IM17 GM17 TM17 XM17 => ?_)
          have FM17 := Fr.trans F GM17 (rfl)
          refine PW.astore_n q_129_25 (by decide) ?_
          refine PW.aload_n q_129_26 rfl ?_
          refine PW.aload_n q_129_27 rfl ?_
          refine PW.gR 3 q_129_28 (Or.inl t_ft_129_19) gF_0_1 kd_0 IM17.1 (by decide) rfl ?_
          refine PW.gR 4 q_129_31 (Or.inr t_fN_129_94) gF_3_0 kd_3 IM17.1 (by decide) rfl ?_
          refine PW.iload_n q_129_34 rfl ?_
          refine PW.cV (as := [_, _]) (rest := []) q_129_35 t_mv_129_300 kd_275 IM17.1 (by decide) rfl (by decide) rfl rfl (Nat.le_of_ble_eq_true rfl) (Nat.le_of_ble_eq_true rfl) (by decide) (by decide) ?_
          refine PW.up (by decide) (c_X5_passMany_w G _ M17 IM17 275 kd_275 4 kd_4 a2 (by omega) bw TM17 fun M18 IM18 GM18 TM18 => ?_)
          have FM18 := Fr.trans FM17 GM18 (rfl)
          refine PW.aload_n q_129_38 rfl ?_
          refine PW.gR 283 q_129_39 (Or.inr t_fN_129_206) gF_5_4 kd_275 IM18.1 (by decide) rfl ?_
          refine PW.iload_n q_129_42 rfl ?_
          refine PW.aRk q_129_43 rfl (by decide) (by decide) kd_283 IM18.1 (by decide) (by omega) (by omega) fun b19 hk_b19 e_b19 => ?_
          refine PW.gI q_129_44 (Or.inr t_fN_129_218) gF_9_3 hk_b19 IM18.1 (by decide) fun x20 fx20 hx20 kx20 => ?_
          refine PW.aload_n q_129_47 rfl ?_
          refine PW.gR 3 q_129_48 (Or.inl t_ft_129_19) gF_0_1 kd_0 IM18.1 (by decide) rfl ?_
          refine PW.gR 15 q_129_51 (Or.inr t_fN_129_101) gF_3_1 kd_3 IM18.1 (by decide) rfl ?_
          refine PW.gR 23 q_129_54 (Or.inr t_fN_129_206) gF_5_4 kd_15 IM18.1 (by decide) rfl ?_
          refine PW.iload_n q_129_57 rfl ?_
          refine PW.aRk q_129_58 rfl (by decide) (by decide) kd_23 IM18.1 (by decide) (by omega) (by omega) fun b21 hk_b21 e_b21 => ?_
          refine PW.gI q_129_59 (Or.inr t_fN_129_218) gF_9_3 hk_b21 IM18.1 (by decide) fun x22 fx22 hx22 kx22 => ?_
          refine PW.subN q_129_62 (by omega) (by omega) fun x23 hx23 => ?_
          refine PW.rI q_129_63 rfl (by decide) (by decide) ?_
          exact hK x23 M18 IM18 FM18 TM18
        · skip
          refine PW.cI q_129_19 (by decide) fun c24 hc24 => ?_
          refine PW.rI q_129_20 rfl (by decide) (by decide) ?_
          exact hK c24 M I F hw
theorem c_X11_strays_w (G : pG) (Kr : pK) (M : pM) (I : Iv gTT M) (bw : Nat) (hw : gWb bw M) (hw_0 : bw = 275) (hK : ∀ (x : Int32) (M1 : pM), Iv gTT M1 → Fr [5, 7, 9, 10, 11, 12, 13] M M1 → (gWb bw M1) → Kr.1 (some (.int x)) 311 M1) : PW G false 5 131 (p_mc 131) (p_msl 131) Kr 0 (lv_args 0 [.ref 0]) [] 311 M 0 0 := by
  have F : Fr [5, 7, 9, 10, 11, 12, 13] M M := Fr.refl
  refine PW.aload_n q_131_0 rfl ?_
  refine PW.cV (as := []) (rest := []) q_131_1 t_mv_131_140 kd_0 I.1 (by decide) rfl (by decide) rfl rfl (Nat.le_of_ble_eq_true rfl) (Nat.le_of_ble_eq_true rfl) (by decide) (by decide) ?_
  refine PW.up (by decide) (c_X11_foreseen_w G _ M I bw hw (by omega) fun M1 IM1 GM1 TM1 XM1 => ?_)
  have FM1 := Fr.trans F GM1 (rfl)
  refine PW.astore_n q_131_4 (by decide) ?_
  refine PW.cI q_131_5 (by decide) fun c2 hc2 => ?_
  refine PW.istore_n q_131_6 (by decide) ?_
  have L131_7_3 : ∀ (n : Nat) (ML131_7_3 : pM) (v4 : Int32), Iv (gTT) ML131_7_3 → Fr [5, 7, 9, 10, 11, 12, 13] M ML131_7_3 → 0 ≤ v4.toInt → v4.toInt ≤ 200 → gWb bw ML131_7_3 → (200 - v4.toInt).toNat = n → PW G false 5 131 (p_mc 131) (p_msl 131) Kr 7 [(0, .ref 0), (1, .ref 275), (2, .int v4)] [] 311 ML131_7_3 0 0 := by
    intro n
    induction n using Nat.strongRecOn with
    | ind n ih_L131_7_3 =>
    intro ML131_7_3 v4 IML131_7_3 FML131_7_3 hbL131_7_30 hbL131_7_31 hbL131_7_32 hmL131_7_3
    refine PW.iload_n q_131_7 rfl ?_
    refine PW.cS q_131_8 (by decide) fun c5 hc5 => ?_
    refine PW.jc_ge q_131_11 rfl (fun h6 => ?_) (fun h6 => ?_)
    · skip
      refine PW.cI q_131_50 (by decide) fun c7 hc7 => ?_
      refine PW.rI q_131_51 rfl (by decide) (by decide) ?_
      exact hK c7 ML131_7_3 IML131_7_3 FML131_7_3 hbL131_7_32
    · skip
      refine PW.aload_n q_131_14 rfl ?_
      refine PW.aload_n q_131_15 rfl ?_
      refine PW.gR 3 q_131_16 (Or.inl t_ft_131_19) gF_0_1 kd_0 IML131_7_3.1 (by decide) rfl ?_
      refine PW.gR 4 q_131_19 (Or.inr t_fN_131_94) gF_3_0 kd_3 IML131_7_3.1 (by decide) rfl ?_
      refine PW.cV (as := [_]) (rest := []) q_131_22 t_mv_131_317 kd_275 IML131_7_3.1 (by decide) rfl (by decide) rfl rfl (Nat.le_of_ble_eq_true rfl) (Nat.le_of_ble_eq_true rfl) (by decide) (by decide) ?_
      refine PW.up (by decide) (c_X5_pass_w G _ ML131_7_3 IML131_7_3 275 kd_275 4 kd_4 bw hbL131_7_32 fun x9 M8 IM8 GM8 hx9 kx9 TM8 => ?_)
      have FM8 := Fr.trans FML131_7_3 GM8 (rfl)
      refine PW.jz_ne q_131_25 rfl (fun h10 => ?_) (fun h10 => ?_)
      · skip
        refine PW.aload_n q_131_30 rfl ?_
        refine PW.cV (as := []) (rest := []) q_131_31 t_mv_131_239 kd_275 IM8.1 (by decide) rfl (by decide) rfl rfl (Nat.le_of_ble_eq_true rfl) (Nat.le_of_ble_eq_true rfl) (by decide) (by decide) ?_
        refine PW.up (by decide) (c_X5_hangingBits (gTT) (Stab0) G _ M8 IM8 275 kd_275 fun x12 M11 IM11 GM11 => ?_)
        have FM11 := Fr.trans FM8 GM11 (rfl)
        refine PW.jz_eq q_131_34 rfl (fun h13 => ?_) (fun h13 => ?_)
        · skip
          refine PW.incN q_131_44 rfl (by decide) (by decide) (by omega) (by omega) fun x14 hx14 => ?_
          refine PW.goto q_131_47 rfl ?_
          refine PW.lvS (lk1 rfl (lk1 rfl (lk1 rfl lk0))) (ih_L131_7_3 _ ?_ M11 x14 IM11 FM11 (by omega) (by omega) (TM8.fr GM11 rfl) rfl)
          omega
        · skip
          refine PW.aload_n q_131_37 rfl ?_
          refine PW.gI q_131_38 (Or.inr t_fN_131_230) gF_5_0 kd_275 IM11.1 (by decide) fun x15 fx15 hx15 kx15 => ?_
          refine PW.cI q_131_41 (by decide) fun c16 hc16 => ?_
          refine PW.subN q_131_42 (by omega) (by omega) fun x17 hx17 => ?_
          refine PW.rI q_131_43 rfl (by decide) (by decide) ?_
          exact hK x17 M11 IM11 FM11 (TM8.fr GM11 rfl)
      · skip
        refine PW.cI q_131_28 (by decide) fun c18 hc18 => ?_
        refine PW.rI q_131_29 rfl (by decide) (by decide) ?_
        exact hK c18 M8 IM8 FM8 TM8
  exact PW.lvS (lk1 rfl (lk1 rfl (lk1 rfl lk0))) (L131_7_3 _ M1 c2 IM1 FM1 (by omega) (by omega) TM1 rfl)
theorem c_X11_ranIfStopped_w (G : pG) (Kr : pK) (M : pM) (I : Iv gTT M) (a1 : Int32) (a2 : Int32) (a3 : Int32) (hl_a1 : 0 ≤ a1.toInt) (hh_a1 : a1.toInt ≤ 5) (hl_a2 : 0 ≤ a2.toInt) (hh_a2 : a2.toInt ≤ 1) (bw : Nat) (hw : gWb bw M) (hw_0 : bw = 275) (hK : ∀ (x : Int32) (M1 : pM), Iv gTT M1 → Fr [5, 7, 9, 10, 11, 12, 13] M M1 → (gWb bw M1) → Kr.1 (some (.int x)) 311 M1) : PW G false 5 148 (p_mc 148) (p_msl 148) Kr 0 (lv_args 0 [.ref 0, .int a1, .int a2, .int a3]) [] 311 M 0 0 := by
  have F : Fr [5, 7, 9, 10, 11, 12, 13] M M := Fr.refl
  refine PW.aload_n q_148_0 rfl ?_
  refine PW.cV (as := []) (rest := []) q_148_1 t_mv_148_140 kd_0 I.1 (by decide) rfl (by decide) rfl rfl (Nat.le_of_ble_eq_true rfl) (Nat.le_of_ble_eq_true rfl) (by decide) (by decide) ?_
  refine PW.up (by decide) (c_X11_foreseen_w G _ M I bw hw (by omega) fun M1 IM1 GM1 TM1 XM1 => ?_)
  have FM1 := Fr.trans F GM1 (rfl)
  refine PW.astore q_148_4 (by decide) ?_
  refine PW.cI q_148_6 (by decide) fun c2 hc2 => ?_
  refine PW.istore q_148_7 (by decide) ?_
  have L148_9_3 : ∀ (n : Nat) (ML148_9_3 : pM) (v4 : Int32), Iv (gTT) ML148_9_3 → Fr [5, 7, 9, 10, 11, 12, 13] M ML148_9_3 → 0 ≤ v4.toInt → v4.toInt ≤ 40 → gWb bw ML148_9_3 → (40 - v4.toInt).toNat = n → PW G false 5 148 (p_mc 148) (p_msl 148) Kr 9 [(0, .ref 0), (1, .int a1), (2, .int a2), (3, .int a3), (4, .ref 275), (5, .int v4)] [] 311 ML148_9_3 0 0 := by
    intro n
    induction n using Nat.strongRecOn with
    | ind n ih_L148_9_3 =>
    intro ML148_9_3 v4 IML148_9_3 FML148_9_3 hbL148_9_30 hbL148_9_31 hbL148_9_32 hmL148_9_3
    refine PW.iload q_148_9 rfl ?_
    refine PW.cB q_148_11 (by decide) fun c5 hc5 => ?_
    refine PW.jc_ge q_148_13 rfl (fun h6 => ?_) (fun h6 => ?_)
    · skip
      refine PW.aload q_148_52 rfl ?_
      refine PW.gR 283 q_148_54 (Or.inr t_fN_148_206) gF_5_4 kd_275 IML148_9_3.1 (by decide) rfl ?_
      refine PW.iload_n q_148_57 rfl ?_
      refine PW.aRk q_148_58 rfl (by decide) (by decide) kd_283 IML148_9_3.1 (by decide) (by omega) (by omega) fun b7 hk_b7 e_b7 => ?_
      refine PW.gI q_148_59 (Or.inr t_fN_148_215) gF_9_2 hk_b7 IML148_9_3.1 (by decide) fun x8 fx8 hx8 kx8 => ?_
      clear hx8 kx8
      refine PW.aload_n q_148_62 rfl ?_
      refine PW.gR 3 q_148_63 (Or.inl t_ft_148_19) gF_0_1 kd_0 IML148_9_3.1 (by decide) rfl ?_
      refine PW.gR 15 q_148_66 (Or.inr t_fN_148_101) gF_3_1 kd_3 IML148_9_3.1 (by decide) rfl ?_
      refine PW.gR 23 q_148_69 (Or.inr t_fN_148_206) gF_5_4 kd_15 IML148_9_3.1 (by decide) rfl ?_
      refine PW.iload_n q_148_72 rfl ?_
      refine PW.aRk q_148_73 rfl (by decide) (by decide) kd_23 IML148_9_3.1 (by decide) (by omega) (by omega) fun b9 hk_b9 e_b9 => ?_
      refine PW.gI q_148_74 (Or.inr t_fN_148_215) gF_9_2 hk_b9 IML148_9_3.1 (by decide) fun x10 fx10 hx10 kx10 => ?_
      clear hx10 kx10
      refine PW.subH q_148_77 fun x11 => ?_
      refine PW.rI q_148_78 rfl (by decide) (by decide) ?_
      exact hK x11 ML148_9_3 IML148_9_3 FML148_9_3 hbL148_9_32
    · skip
      refine PW.iload q_148_16 rfl ?_
      refine PW.iload_n q_148_18 rfl ?_
      have J33_13 : ∀ (MJ33_13 : pM), Iv (gTT) MJ33_13 → Fr [5, 7, 9, 10, 11, 12, 13] M MJ33_13 → gWb bw MJ33_13 → PW G false 5 148 (p_mc 148) (p_msl 148) Kr 33 [(0, .ref 0), (1, .int a1), (2, .int a2), (3, .int a3), (4, .ref 275), (5, .int v4)] [] 311 MJ33_13 0 0 := by
        intro MJ33_13  IMJ33_13 FMJ33_13 hbJ33_130
        refine PW.aload q_148_33 rfl ?_
        refine PW.aload_n q_148_35 rfl ?_
        refine PW.gR 3 q_148_36 (Or.inl t_ft_148_19) gF_0_1 kd_0 IMJ33_13.1 (by decide) rfl ?_
        refine PW.gR 4 q_148_39 (Or.inr t_fN_148_94) gF_3_0 kd_3 IMJ33_13.1 (by decide) rfl ?_
        refine PW.cV (as := [_]) (rest := []) q_148_42 t_mv_148_317 kd_275 IMJ33_13.1 (by decide) rfl (by decide) rfl rfl (Nat.le_of_ble_eq_true rfl) (Nat.le_of_ble_eq_true rfl) (by decide) (by decide) ?_
        refine PW.up (by decide) (c_X5_pass_w G _ MJ33_13 IMJ33_13 275 kd_275 4 kd_4 bw hbJ33_130 fun x15 M14 IM14 GM14 hx15 kx15 TM14 => ?_)
        have FM14 := Fr.trans FMJ33_13 GM14 (rfl)
        refine PW.pop q_148_45 rfl ?_
        refine PW.incN q_148_46 rfl (by decide) (by decide) (by omega) (by omega) fun x16 hx16 => ?_
        refine PW.goto q_148_49 rfl ?_
        refine PW.lvS (lk1 rfl (lk1 rfl (lk1 rfl (lk1 rfl (lk1 rfl (lk1 rfl lk0)))))) (ih_L148_9_3 _ ?_ M14 x16 IM14 FM14 (by omega) (by omega) TM14 rfl)
        omega
      refine PW.jc_ne q_148_19 rfl (fun h12 => ?_) (fun h12 => ?_)
      · skip
        exact PW.lvS (lk1 rfl (lk1 rfl (lk1 rfl (lk1 rfl (lk1 rfl (lk1 rfl lk0)))))) (J33_13 ML148_9_3  IML148_9_3 FML148_9_3 hbL148_9_32)
      · skip
        refine PW.aload q_148_22 rfl ?_
        refine PW.gR 276 q_148_24 (Or.inr t_fN_148_176) gF_5_3 kd_275 IML148_9_3.1 (by decide) rfl ?_
        refine PW.iload_n q_148_27 rfl ?_
        refine PW.aRk q_148_28 rfl (by decide) (by decide) kd_276 IML148_9_3.1 (by decide) (by omega) (by omega) fun b17 hk_b17 e_b17 => ?_
        refine PW.cI q_148_29 (by decide) fun c18 hc18 => ?_
        refine PW.pI q_148_30 (Or.inr t_fN_148_191) gF_7_2 gP_7_2 hk_b17 Stab0 IML148_9_3 (by decide) rfl (by omega) (by omega) fun M19 IM19 fM19 UM19 => ?_
        have FM19 := Fr.pu FML148_9_3 UM19.1 hk_b17 (rfl : List.contains [5, 7, 9, 10, 11, 12, 13] 7 = true)
        exact PW.lvS (lk1 rfl (lk1 rfl (lk1 rfl (lk1 rfl (lk1 rfl (lk1 rfl lk0)))))) (J33_13 M19  IM19 FM19 (hbL148_9_32.ar UM19.1 hk_b17 (by decide)))
  exact PW.lvS (lk1 rfl (lk1 rfl (lk1 rfl (lk1 rfl (lk1 rfl (lk1 rfl lk0)))))) (L148_9_3 _ M1 c2 IM1 FM1 (by omega) (by omega) TM1 rfl)
theorem c_X11_leastStop_w (G : pG) (Kr : pK) (M : pM) (I : Iv gTT M) (a1 : Int32) (a2 : Int32) (hl_a1 : 0 ≤ a1.toInt) (hh_a1 : a1.toInt ≤ 5) (hl_a2 : 0 ≤ a2.toInt) (hh_a2 : a2.toInt ≤ 1) (bw : Nat) (hw : gWb bw M) (hw_0 : bw = 275) (hK : ∀ (x : Int32) (M1 : pM), Iv gTT M1 → Fr [5, 7, 9, 10, 11, 12, 13] M M1 → (gWb bw M1) → Kr.1 (some (.int x)) 311 M1) : PW G false 6 147 (p_mc 147) (p_msl 147) Kr 0 (lv_args 0 [.ref 0, .int a1, .int a2]) [] 311 M 0 0 := by
  have F : Fr [5, 7, 9, 10, 11, 12, 13] M M := Fr.refl
  refine PW.cI q_147_0 (by decide) fun c1 hc1 => ?_
  refine PW.istore_n q_147_1 (by decide) ?_
  refine PW.aload_n q_147_2 rfl ?_
  refine PW.iload_n q_147_3 rfl ?_
  refine PW.iload_n q_147_4 rfl ?_
  refine PW.cI q_147_5 (by decide) fun c2 hc2 => ?_
  refine PW.cV (as := [_, _, _]) (rest := []) q_147_6 t_mv_147_331 kd_0 I.1 (by decide) rfl (by decide) rfl rfl (Nat.le_of_ble_eq_true rfl) (Nat.le_of_ble_eq_true rfl) (by decide) (by decide) ?_
  refine PW.up (by decide) (c_X11_ranIfStopped_w G _ M I a1 a2 c2 (by omega) (by omega) (by omega) (by omega) bw hw (by omega) fun x4 M3 IM3 GM3 TM3 => ?_)
  have FM3 := Fr.trans F GM3 (rfl)
  refine PW.istore q_147_9 (by decide) ?_
  refine PW.cI q_147_11 (by decide) fun c5 hc5 => ?_
  refine PW.istore q_147_12 (by decide) ?_
  have L147_14_6 : ∀ (n : Nat) (ML147_14_6 : pM) (v7 v8 v9 : Int32), Iv (gTT) ML147_14_6 → Fr [5, 7, 9, 10, 11, 12, 13] M ML147_14_6 → 0 ≤ v7.toInt → v7.toInt ≤ 40 → 1 ≤ v9.toInt → v9.toInt ≤ 31 → gWb bw ML147_14_6 → (31 - v9.toInt).toNat = n → PW G false 6 147 (p_mc 147) (p_msl 147) Kr 14 [(0, .ref 0), (1, .int a1), (2, .int a2), (3, .int v7), (4, .int v8), (5, .int v9)] [] 311 ML147_14_6 0 0 := by
    intro n
    induction n using Nat.strongRecOn with
    | ind n ih_L147_14_6 =>
    intro ML147_14_6 v7 v8 v9 IML147_14_6 FML147_14_6 hbL147_14_60 hbL147_14_61 hbL147_14_62 hbL147_14_63 hbL147_14_64 hmL147_14_6
    refine PW.iload q_147_14 rfl ?_
    refine PW.cB q_147_16 (by decide) fun c10 hc10 => ?_
    refine PW.jc_gt q_147_18 rfl (fun h11 => ?_) (fun h11 => ?_)
    · skip
      refine PW.iload_n q_147_51 rfl ?_
      refine PW.rI q_147_52 rfl (by decide) (by decide) ?_
      exact hK v7 ML147_14_6 IML147_14_6 FML147_14_6 hbL147_14_64
    · skip
      refine PW.aload_n q_147_21 rfl ?_
      refine PW.iload_n q_147_22 rfl ?_
      refine PW.iload_n q_147_23 rfl ?_
      refine PW.iload q_147_24 rfl ?_
      refine PW.cV (as := [_, _, _]) (rest := []) q_147_26 t_mv_147_331 kd_0 IML147_14_6.1 (by decide) rfl (by decide) rfl rfl (Nat.le_of_ble_eq_true rfl) (Nat.le_of_ble_eq_true rfl) (by decide) (by decide) ?_
      refine PW.up (by decide) (c_X11_ranIfStopped_w G _ ML147_14_6 IML147_14_6 a1 a2 v9 (by omega) (by omega) (by omega) (by omega) bw hbL147_14_64 (by omega) fun x13 M12 IM12 GM12 TM12 => ?_)
      have FM12 := Fr.trans FML147_14_6 GM12 (rfl)
      refine PW.istore q_147_29 (by decide) ?_
      refine PW.iload q_147_31 rfl ?_
      refine PW.iload q_147_33 rfl ?_
      have J45_15 : ∀ (MJ45_15 : pM) (v16 v17 : Int32), Iv (gTT) MJ45_15 → Fr [5, 7, 9, 10, 11, 12, 13] M MJ45_15 → 0 ≤ v16.toInt → v16.toInt ≤ 40 → gWb bw MJ45_15 → PW G false 6 147 (p_mc 147) (p_msl 147) Kr 45 [(0, .ref 0), (1, .int a1), (2, .int a2), (3, .int v16), (4, .int v17), (5, .int v9), (6, .int x13)] [] 311 MJ45_15 0 0 := by
        intro MJ45_15 v16 v17 IMJ45_15 FMJ45_15 hbJ45_150 hbJ45_151 hbJ45_152
        refine PW.incN q_147_45 rfl (by decide) (by decide) (by omega) (by omega) fun x18 hx18 => ?_
        refine PW.goto q_147_48 rfl ?_
        refine PW.lvS (lk1 rfl (lk1 rfl (lk1 rfl (lk1 rfl (lk1 rfl (lk1 rfl lk0)))))) (ih_L147_14_6 _ ?_ MJ45_15 v16 v17 x18 IMJ45_15 FMJ45_15 (by omega) (by omega) (by omega) (by omega) hbJ45_152 rfl)
        omega
      refine PW.jc_ge q_147_35 rfl (fun h14 => ?_) (fun h14 => ?_)
      · skip
        exact PW.lvS (lk1 rfl (lk1 rfl (lk1 rfl (lk1 rfl (lk1 rfl (lk1 rfl (lk1 rfl lk0))))))) (J45_15 M12 v7 v8 IM12 FM12 (by omega) (by omega) TM12)
      · skip
        refine PW.iload q_147_38 rfl ?_
        refine PW.istore_n q_147_40 (by decide) ?_
        refine PW.iload q_147_41 rfl ?_
        refine PW.istore q_147_43 (by decide) ?_
        exact PW.lvS (lk1 rfl (lk1 rfl (lk1 rfl (lk1 rfl (lk1 rfl (lk1 rfl (lk1 rfl lk0))))))) (J45_15 M12 v9 x13 IM12 FM12 (by omega) (by omega) TM12)
  exact PW.lvS (lk1 rfl (lk1 rfl (lk1 rfl (lk1 rfl (lk1 rfl (lk1 rfl lk0)))))) (L147_14_6 _ M3 c1 x4 c5 IM3 FM3 (by omega) (by omega) (by omega) (by omega) TM3 rfl)
theorem c_X11_least_w (G : pG) (Kr : pK) (M : pM) (I : Iv gTT M) (a1 : Int32) (a2 : Int32) (bw : Nat) (hw : gWb bw M) (hw_0 : bw = 275) (hK : ∀ (x : Int32) (M1 : pM), Iv gTT M1 → Fr [5, 7, 9, 10, 11, 12, 13] M M1 → (gWb bw M1) → Kr.1 (some (.int x)) 311 M1) : PW G false 7 132 (p_mc 132) (p_msl 132) Kr 0 (lv_args 0 [.ref 0, .int a1, .int a2]) [] 311 M 0 0 := by
  have F : Fr [5, 7, 9, 10, 11, 12, 13] M M := Fr.refl
  refine PW.aload_n q_132_0 rfl ?_
  refine PW.iload_n q_132_1 rfl ?_
  refine PW.cV (as := [_]) (rest := []) q_132_2 t_mv_132_169 kd_0 I.1 (by decide) rfl (by decide) rfl rfl (Nat.le_of_ble_eq_true rfl) (Nat.le_of_ble_eq_true rfl) (by decide) (by decide) ?_
  refine PW.iload_n q_143_0 rfl ?_
  refine PW.jz_lt q_143_1 rfl (fun h1 => ?_) (fun h1 => ?_)
  · skip
    refine PW.cI q_143_22 (by decide) fun c2 hc2 => ?_
    refine PW.rZ q_143_23 rfl (by omega) (by omega) (by decide) (by decide) ?_
    refine PW.jz_eq q_132_5 rfl (fun h3 => ?_) (fun h3 => False.elim (by omega))
    refine PW.cI q_132_16 (by decide) fun c4 hc4 => ?_
    refine PW.rI q_132_17 rfl (by decide) (by decide) ?_
    exact hK c4 M I F hw
  · skip
    refine PW.iload_n q_143_4 rfl ?_
    refine PW.aload_n q_143_5 rfl ?_
    refine PW.gR 3 q_143_6 (Or.inl t_ft_143_19) gF_0_1 kd_0 I.1 (by decide) rfl ?_
    refine PW.gR 4 q_143_9 (Or.inr t_fN_143_94) gF_3_0 kd_3 I.1 (by decide) rfl ?_
    refine PW.gI q_143_12 (Or.inr t_fN_143_136) gF_4_6 kd_4 I.1 (by decide) fun x5 fx5 hx5 kx5 => ?_
    refine PW.jc_ge q_143_15 rfl (fun h6 => ?_) (fun h6 => ?_)
    · skip
      refine PW.cI q_143_22 (by decide) fun c7 hc7 => ?_
      refine PW.rZ q_143_23 rfl (by omega) (by omega) (by decide) (by decide) ?_
      refine PW.jz_eq q_132_5 rfl (fun h8 => ?_) (fun h8 => False.elim (by omega))
      refine PW.cI q_132_16 (by decide) fun c9 hc9 => ?_
      refine PW.rI q_132_17 rfl (by decide) (by decide) ?_
      exact hK c9 M I F hw
    · skip
      refine PW.cI q_143_18 (by decide) fun c10 hc10 => ?_
      refine PW.goto q_143_19 rfl ?_
      refine PW.rZ q_143_23 rfl (by omega) (by omega) (by decide) (by decide) ?_
      refine PW.jz_eq q_132_5 rfl (fun h11 => False.elim (by omega)) (fun h11 => ?_)
      refine PW.aload_n q_132_8 rfl ?_
      refine PW.iload_n q_132_9 rfl ?_
      refine PW.cV (as := [_]) (rest := []) q_132_10 t_mv_132_203 kd_0 I.1 (by decide) rfl (by decide) rfl rfl (Nat.le_of_ble_eq_true rfl) (Nat.le_of_ble_eq_true rfl) (by decide) (by decide) ?_
      refine PW.iload_n q_144_0 rfl ?_
      refine PW.jz_lt q_144_1 rfl (fun h12 => ?_) (fun h12 => ?_)
      · skip
        refine PW.cI q_144_22 (by decide) fun c13 hc13 => ?_
        refine PW.rZ q_144_23 rfl (by omega) (by omega) (by decide) (by decide) ?_
        refine PW.jz_ne q_132_13 rfl (fun h14 => False.elim (by omega)) (fun h14 => ?_)
        refine PW.cI q_132_16 (by decide) fun c15 hc15 => ?_
        refine PW.rI q_132_17 rfl (by decide) (by decide) ?_
        exact hK c15 M I F hw
      · skip
        refine PW.iload_n q_144_4 rfl ?_
        refine PW.aload_n q_144_5 rfl ?_
        refine PW.gR 3 q_144_6 (Or.inl t_ft_144_19) gF_0_1 kd_0 I.1 (by decide) rfl ?_
        refine PW.gR 4 q_144_9 (Or.inr t_fN_144_94) gF_3_0 kd_3 I.1 (by decide) rfl ?_
        refine PW.gI q_144_12 (Or.inr t_fN_144_249) gF_4_7 kd_4 I.1 (by decide) fun x16 fx16 hx16 kx16 => ?_
        refine PW.jc_ge q_144_15 rfl (fun h17 => ?_) (fun h17 => ?_)
        · skip
          refine PW.cI q_144_22 (by decide) fun c18 hc18 => ?_
          refine PW.rZ q_144_23 rfl (by omega) (by omega) (by decide) (by decide) ?_
          refine PW.jz_ne q_132_13 rfl (fun h19 => False.elim (by omega)) (fun h19 => ?_)
          refine PW.cI q_132_16 (by decide) fun c20 hc20 => ?_
          refine PW.rI q_132_17 rfl (by decide) (by decide) ?_
          exact hK c20 M I F hw
        · skip
          refine PW.cI q_144_18 (by decide) fun c21 hc21 => ?_
          refine PW.goto q_144_19 rfl ?_
          refine PW.rZ q_144_23 rfl (by omega) (by omega) (by decide) (by decide) ?_
          refine PW.jz_ne q_132_13 rfl (fun h22 => ?_) (fun h22 => False.elim (by omega))
          refine PW.aload_n q_132_18 rfl ?_
          refine PW.iload_n q_132_19 rfl ?_
          refine PW.iload_n q_132_20 rfl ?_
          refine PW.cV (as := [_, _]) (rest := []) q_132_21 t_mv_132_328 kd_0 I.1 (by decide) rfl (by decide) rfl rfl (Nat.le_of_ble_eq_true rfl) (Nat.le_of_ble_eq_true rfl) (by decide) (by decide) ?_
          refine PW.up (by decide) (c_X11_leastStop_w G _ M I a1 a2 (by omega) (by omega) (by omega) (by omega) bw hw (by omega) fun x24 M23 IM23 GM23 TM23 => ?_)
          have FM23 := Fr.trans F GM23 (rfl)
          refine PW.rI q_132_24 rfl (by decide) (by decide) ?_
          exact hK x24 M23 IM23 FM23 TM23
theorem c_X11_runs_w (G : pG) (Kr : pK) (M : pM) (I : Iv gTT M) (a1 : Int32) (a2 : Int32) (bw : Nat) (hw : gWb bw M) (hw_0 : bw = 275) (hK : ∀ (x : Int32) (M1 : pM), Iv gTT M1 → Fr [5, 7, 9, 10, 11, 12, 13] M M1 → (gWb bw M1) → Kr.1 (some (.int x)) 311 M1) : PW G false 7 133 (p_mc 133) (p_msl 133) Kr 0 (lv_args 0 [.ref 0, .int a1, .int a2]) [] 311 M 0 0 := by
  have F : Fr [5, 7, 9, 10, 11, 12, 13] M M := Fr.refl
  refine PW.aload_n q_133_0 rfl ?_
  refine PW.iload_n q_133_1 rfl ?_
  refine PW.cV (as := [_]) (rest := []) q_133_2 t_mv_133_169 kd_0 I.1 (by decide) rfl (by decide) rfl rfl (Nat.le_of_ble_eq_true rfl) (Nat.le_of_ble_eq_true rfl) (by decide) (by decide) ?_
  refine PW.iload_n q_143_0 rfl ?_
  refine PW.jz_lt q_143_1 rfl (fun h1 => ?_) (fun h1 => ?_)
  · skip
    refine PW.cI q_143_22 (by decide) fun c2 hc2 => ?_
    refine PW.rZ q_143_23 rfl (by omega) (by omega) (by decide) (by decide) ?_
    refine PW.jz_eq q_133_5 rfl (fun h3 => ?_) (fun h3 => False.elim (by omega))
    refine PW.cI q_133_16 (by decide) fun c4 hc4 => ?_
    refine PW.rI q_133_17 rfl (by decide) (by decide) ?_
    exact hK c4 M I F hw
  · skip
    refine PW.iload_n q_143_4 rfl ?_
    refine PW.aload_n q_143_5 rfl ?_
    refine PW.gR 3 q_143_6 (Or.inl t_ft_143_19) gF_0_1 kd_0 I.1 (by decide) rfl ?_
    refine PW.gR 4 q_143_9 (Or.inr t_fN_143_94) gF_3_0 kd_3 I.1 (by decide) rfl ?_
    refine PW.gI q_143_12 (Or.inr t_fN_143_136) gF_4_6 kd_4 I.1 (by decide) fun x5 fx5 hx5 kx5 => ?_
    refine PW.jc_ge q_143_15 rfl (fun h6 => ?_) (fun h6 => ?_)
    · skip
      refine PW.cI q_143_22 (by decide) fun c7 hc7 => ?_
      refine PW.rZ q_143_23 rfl (by omega) (by omega) (by decide) (by decide) ?_
      refine PW.jz_eq q_133_5 rfl (fun h8 => ?_) (fun h8 => False.elim (by omega))
      refine PW.cI q_133_16 (by decide) fun c9 hc9 => ?_
      refine PW.rI q_133_17 rfl (by decide) (by decide) ?_
      exact hK c9 M I F hw
    · skip
      refine PW.cI q_143_18 (by decide) fun c10 hc10 => ?_
      refine PW.goto q_143_19 rfl ?_
      refine PW.rZ q_143_23 rfl (by omega) (by omega) (by decide) (by decide) ?_
      refine PW.jz_eq q_133_5 rfl (fun h11 => False.elim (by omega)) (fun h11 => ?_)
      refine PW.aload_n q_133_8 rfl ?_
      refine PW.iload_n q_133_9 rfl ?_
      refine PW.cV (as := [_]) (rest := []) q_133_10 t_mv_133_203 kd_0 I.1 (by decide) rfl (by decide) rfl rfl (Nat.le_of_ble_eq_true rfl) (Nat.le_of_ble_eq_true rfl) (by decide) (by decide) ?_
      refine PW.iload_n q_144_0 rfl ?_
      refine PW.jz_lt q_144_1 rfl (fun h12 => ?_) (fun h12 => ?_)
      · skip
        refine PW.cI q_144_22 (by decide) fun c13 hc13 => ?_
        refine PW.rZ q_144_23 rfl (by omega) (by omega) (by decide) (by decide) ?_
        refine PW.jz_ne q_133_13 rfl (fun h14 => False.elim (by omega)) (fun h14 => ?_)
        refine PW.cI q_133_16 (by decide) fun c15 hc15 => ?_
        refine PW.rI q_133_17 rfl (by decide) (by decide) ?_
        exact hK c15 M I F hw
      · skip
        refine PW.iload_n q_144_4 rfl ?_
        refine PW.aload_n q_144_5 rfl ?_
        refine PW.gR 3 q_144_6 (Or.inl t_ft_144_19) gF_0_1 kd_0 I.1 (by decide) rfl ?_
        refine PW.gR 4 q_144_9 (Or.inr t_fN_144_94) gF_3_0 kd_3 I.1 (by decide) rfl ?_
        refine PW.gI q_144_12 (Or.inr t_fN_144_249) gF_4_7 kd_4 I.1 (by decide) fun x16 fx16 hx16 kx16 => ?_
        refine PW.jc_ge q_144_15 rfl (fun h17 => ?_) (fun h17 => ?_)
        · skip
          refine PW.cI q_144_22 (by decide) fun c18 hc18 => ?_
          refine PW.rZ q_144_23 rfl (by omega) (by omega) (by decide) (by decide) ?_
          refine PW.jz_ne q_133_13 rfl (fun h19 => False.elim (by omega)) (fun h19 => ?_)
          refine PW.cI q_133_16 (by decide) fun c20 hc20 => ?_
          refine PW.rI q_133_17 rfl (by decide) (by decide) ?_
          exact hK c20 M I F hw
        · skip
          refine PW.cI q_144_18 (by decide) fun c21 hc21 => ?_
          refine PW.goto q_144_19 rfl ?_
          refine PW.rZ q_144_23 rfl (by omega) (by omega) (by decide) (by decide) ?_
          refine PW.jz_ne q_133_13 rfl (fun h22 => ?_) (fun h22 => False.elim (by omega))
          refine PW.aload_n q_133_18 rfl ?_
          refine PW.iload_n q_133_19 rfl ?_
          refine PW.iload_n q_133_20 rfl ?_
          refine PW.aload_n q_133_21 rfl ?_
          refine PW.iload_n q_133_22 rfl ?_
          refine PW.iload_n q_133_23 rfl ?_
          refine PW.cV (as := [_, _]) (rest := [_, _, _]) q_133_24 t_mv_133_328 kd_0 I.1 (by decide) rfl (by decide) rfl rfl (Nat.le_of_ble_eq_true rfl) (Nat.le_of_ble_eq_true rfl) (by decide) (by decide) ?_
          refine PW.up (by decide) (c_X11_leastStop_w G _ M I a1 a2 (by omega) (by omega) (by omega) (by omega) bw hw (by omega) fun x24 M23 IM23 GM23 TM23 => ?_)
          have FM23 := Fr.trans F GM23 (rfl)
          refine PW.cV (as := [_, _, _]) (rest := []) q_133_27 t_mv_133_331 kd_0 IM23.1 (by decide) rfl (by decide) rfl rfl (Nat.le_of_ble_eq_true rfl) (Nat.le_of_ble_eq_true rfl) (by decide) (by decide) ?_
          refine PW.up (by decide) (c_X11_ranIfStopped_w G _ M23 IM23 a1 a2 x24 (by omega) (by omega) (by omega) (by omega) bw TM23 (by omega) fun x26 M25 IM25 GM25 TM25 => ?_)
          have FM25 := Fr.trans FM23 GM25 (rfl)
          refine PW.rI q_133_30 rfl (by decide) (by decide) ?_
          exact hK x26 M25 IM25 FM25 TM25
theorem c_X11_odds_w (G : pG) (Kr : pK) (M : pM) (I : Iv gTT M) (a1 : Int32) (a2 : Int32) (a3 : Int32) (bw : Nat) (hw : gWb bw M) (hw_0 : bw = 275) (hK : ∀ (x : Int32) (M1 : pM), Iv gTT M1 → Fr [5, 7, 9, 10, 11, 12, 13] M M1 → (gWb bw M1) → Kr.1 (some (.int x)) 311 M1) : PW G false 6 134 (p_mc 134) (p_msl 134) Kr 0 (lv_args 0 [.ref 0, .int a1, .int a2, .int a3]) [] 311 M 0 0 := by
  have F : Fr [5, 7, 9, 10, 11, 12, 13] M M := Fr.refl
  refine PW.aload_n q_134_0 rfl ?_
  refine PW.iload_n q_134_1 rfl ?_
  refine PW.cV (as := [_]) (rest := []) q_134_2 t_mv_134_169 kd_0 I.1 (by decide) rfl (by decide) rfl rfl (Nat.le_of_ble_eq_true rfl) (Nat.le_of_ble_eq_true rfl) (by decide) (by decide) ?_
  refine PW.iload_n q_143_0 rfl ?_
  refine PW.jz_lt q_143_1 rfl (fun h1 => ?_) (fun h1 => ?_)
  · skip
    refine PW.cI q_143_22 (by decide) fun c2 hc2 => ?_
    refine PW.rZ q_143_23 rfl (by omega) (by omega) (by decide) (by decide) ?_
    refine PW.jz_eq q_134_5 rfl (fun h3 => ?_) (fun h3 => False.elim (by omega))
    refine PW.cI q_134_19 (by decide) fun c4 hc4 => ?_
    refine PW.rI q_134_20 rfl (by decide) (by decide) ?_
    exact hK c4 M I F hw
  · skip
    refine PW.iload_n q_143_4 rfl ?_
    refine PW.aload_n q_143_5 rfl ?_
    refine PW.gR 3 q_143_6 (Or.inl t_ft_143_19) gF_0_1 kd_0 I.1 (by decide) rfl ?_
    refine PW.gR 4 q_143_9 (Or.inr t_fN_143_94) gF_3_0 kd_3 I.1 (by decide) rfl ?_
    refine PW.gI q_143_12 (Or.inr t_fN_143_136) gF_4_6 kd_4 I.1 (by decide) fun x5 fx5 hx5 kx5 => ?_
    refine PW.jc_ge q_143_15 rfl (fun h6 => ?_) (fun h6 => ?_)
    · skip
      refine PW.cI q_143_22 (by decide) fun c7 hc7 => ?_
      refine PW.rZ q_143_23 rfl (by omega) (by omega) (by decide) (by decide) ?_
      refine PW.jz_eq q_134_5 rfl (fun h8 => ?_) (fun h8 => False.elim (by omega))
      refine PW.cI q_134_19 (by decide) fun c9 hc9 => ?_
      refine PW.rI q_134_20 rfl (by decide) (by decide) ?_
      exact hK c9 M I F hw
    · skip
      refine PW.cI q_143_18 (by decide) fun c10 hc10 => ?_
      refine PW.goto q_143_19 rfl ?_
      refine PW.rZ q_143_23 rfl (by omega) (by omega) (by decide) (by decide) ?_
      refine PW.jz_eq q_134_5 rfl (fun h11 => False.elim (by omega)) (fun h11 => ?_)
      refine PW.iload_n q_134_8 rfl ?_
      refine PW.cI q_134_9 (by decide) fun c12 hc12 => ?_
      refine PW.jc_lt q_134_10 rfl (fun h13 => ?_) (fun h13 => ?_)
      · skip
        refine PW.cI q_134_19 (by decide) fun c14 hc14 => ?_
        refine PW.rI q_134_20 rfl (by decide) (by decide) ?_
        exact hK c14 M I F hw
      · skip
        refine PW.iload_n q_134_13 rfl ?_
        refine PW.cB q_134_14 (by decide) fun c15 hc15 => ?_
        refine PW.jc_le q_134_16 rfl (fun h16 => ?_) (fun h16 => ?_)
        · skip
          refine PW.cI q_134_21 (by decide) fun c17 hc17 => ?_
          refine PW.istore q_134_22 (by decide) ?_
          refine PW.cI q_134_24 (by decide) fun c18 hc18 => ?_
          refine PW.istore q_134_25 (by decide) ?_
          have L134_27_19 : ∀ (n : Nat) (ML134_27_19 : pM) (v20 v21 : Int32), Iv (gTT) ML134_27_19 → Fr [5, 7, 9, 10, 11, 12, 13] M ML134_27_19 → 0 ≤ v21.toInt → v21.toInt ≤ 30 → gWb bw ML134_27_19 → (30 - v21.toInt).toNat = n → PW G false 6 134 (p_mc 134) (p_msl 134) Kr 27 [(0, .ref 0), (1, .int a1), (2, .int a2), (3, .int a3), (4, .int v20), (5, .int v21)] [] 311 ML134_27_19 0 0 := by
            intro n
            induction n using Nat.strongRecOn with
            | ind n ih_L134_27_19 =>
            intro ML134_27_19 v20 v21 IML134_27_19 FML134_27_19 hbL134_27_190 hbL134_27_191 hbL134_27_192 hmL134_27_19
            refine PW.iload q_134_27 rfl ?_
            refine PW.iload_n q_134_29 rfl ?_
            refine PW.jc_ge q_134_30 rfl (fun h22 => ?_) (fun h22 => ?_)
            · skip
              refine PW.iload q_134_94 rfl ?_
              refine PW.rI q_134_96 rfl (by decide) (by decide) ?_
              exact hK v20 ML134_27_19 IML134_27_19 FML134_27_19 hbL134_27_192
            · skip
              refine PW.aload_n q_134_33 rfl ?_
              refine PW.cV (as := []) (rest := []) q_134_34 t_mv_134_140 kd_0 IML134_27_19.1 (by decide) rfl (by decide) rfl rfl (Nat.le_of_ble_eq_true rfl) (Nat.le_of_ble_eq_true rfl) (by decide) (by decide) ?_
              refine PW.up (by decide) (c_X11_foreseen_w G _ ML134_27_19 IML134_27_19 bw hbL134_27_192 (by omega) fun M23 IM23 GM23 TM23 XM23 => ?_)
              have FM23 := Fr.trans FML134_27_19 GM23 (rfl)
              refine PW.astore q_134_37 (by decide) ?_
              refine PW.aload q_134_39 rfl ?_
              refine PW.aload_n q_134_41 rfl ?_
              refine PW.gR 3 q_134_42 (Or.inl t_ft_134_19) gF_0_1 kd_0 IM23.1 (by decide) rfl ?_
              refine PW.gR 4 q_134_45 (Or.inr t_fN_134_94) gF_3_0 kd_3 IM23.1 (by decide) rfl ?_
              refine PW.cB q_134_48 (by decide) fun c24 hc24 => ?_
              refine PW.iload_n q_134_50 rfl ?_
              refine PW.iload q_134_51 rfl ?_
              refine PW.addH q_134_53 fun x25 => ?_
              refine PW.cV (as := [_, _, _]) (rest := []) q_134_54 t_mv_134_304 kd_275 IM23.1 (by decide) rfl (by decide) rfl rfl (Nat.le_of_ble_eq_true rfl) (Nat.le_of_ble_eq_true rfl) (by decide) (by decide) ?_
              refine PW.up (by decide) (c_X5_passDrawn_w G _ M23 IM23 275 kd_275 4 kd_4 c24 x25 (by omega) bw TM23 fun M26 IM26 GM26 TM26 => ?_)
              have FM26 := Fr.trans FM23 GM26 (rfl)
              refine PW.aload q_134_57 rfl ?_
              refine PW.gR 276 q_134_59 (Or.inr t_fN_134_176) gF_5_3 kd_275 IM26.1 (by decide) rfl ?_
              refine PW.iload_n q_134_62 rfl ?_
              refine PW.aRk q_134_63 rfl (by decide) (by decide) kd_276 IM26.1 (by decide) (by omega) (by omega) fun b27 hk_b27 e_b27 => ?_
              refine PW.gI q_134_64 (Or.inr t_fN_134_197) gF_7_5 hk_b27 IM26.1 (by decide) fun x28 fx28 hx28 kx28 => ?_
              clear hx28 kx28
              refine PW.aload_n q_134_67 rfl ?_
              refine PW.gR 3 q_134_68 (Or.inl t_ft_134_19) gF_0_1 kd_0 IM26.1 (by decide) rfl ?_
              refine PW.gR 15 q_134_71 (Or.inr t_fN_134_101) gF_3_1 kd_3 IM26.1 (by decide) rfl ?_
              refine PW.gR 16 q_134_74 (Or.inr t_fN_134_176) gF_5_3 kd_15 IM26.1 (by decide) rfl ?_
              refine PW.iload_n q_134_77 rfl ?_
              refine PW.aRk q_134_78 rfl (by decide) (by decide) kd_16 IM26.1 (by decide) (by omega) (by omega) fun b29 hk_b29 e_b29 => ?_
              refine PW.gI q_134_79 (Or.inr t_fN_134_197) gF_7_5 hk_b29 IM26.1 (by decide) fun x30 fx30 hx30 kx30 => ?_
              clear hx30 kx30
              have J88_32 : ∀ (MJ88_32 : pM) (v33 : Int32), Iv (gTT) MJ88_32 → Fr [5, 7, 9, 10, 11, 12, 13] M MJ88_32 → o_f (MJ88_32 b27) 5 = .int x28 → o_f (MJ88_32 b29) 5 = .int x30 → gWb bw MJ88_32 → PW G false 6 134 (p_mc 134) (p_msl 134) Kr 88 [(0, .ref 0), (1, .int a1), (2, .int a2), (3, .int a3), (4, .int v33), (5, .int v21), (6, .ref 275)] [] 311 MJ88_32 0 0 := by
                intro MJ88_32 v33 IMJ88_32 FMJ88_32 hbJ88_320 hbJ88_321 hbJ88_322
                refine PW.incN q_134_88 rfl (by decide) (by decide) (by omega) (by omega) fun x34 hx34 => ?_
                refine PW.goto q_134_91 rfl ?_
                refine PW.lvS (lk1 rfl (lk1 rfl (lk1 rfl (lk1 rfl (lk1 rfl (lk1 rfl lk0)))))) (ih_L134_27_19 _ ?_ MJ88_32 v33 x34 IMJ88_32 FMJ88_32 (by omega) (by omega) hbJ88_322 rfl)
                omega
              refine PW.jc_le q_134_82 rfl (fun h31 => ?_) (fun h31 => ?_)
              · skip
                exact PW.lvS (lk1 rfl (lk1 rfl (lk1 rfl (lk1 rfl (lk1 rfl (lk1 rfl (lk1 rfl lk0))))))) (J88_32 M26 v20 IM26 FM26 fx28 fx30 TM26)
              · skip
                refine PW.incH q_134_85 rfl (by decide) fun x35 => ?_
                exact PW.lvS (lk1 rfl (lk1 rfl (lk1 rfl (lk1 rfl (lk1 rfl (lk1 rfl (lk1 rfl lk0))))))) (J88_32 M26 x35 IM26 FM26 fx28 fx30 TM26)
          exact PW.lvS (lk1 rfl (lk1 rfl (lk1 rfl (lk1 rfl (lk1 rfl (lk1 rfl lk0)))))) (L134_27_19 _ M c17 c18 I F (by omega) (by omega) hw rfl)
        · skip
          refine PW.cI q_134_19 (by decide) fun c36 hc36 => ?_
          refine PW.rI q_134_20 rfl (by decide) (by decide) ?_
          exact hK c36 M I F hw
theorem c_X11_leftPrints_w (G : pG) (Kr : pK) (M : pM) (I : Iv gTT M) (bw : Nat) (hw : gWb bw M) (hw_0 : bw = 275) (hK : ∀ (x : Int32) (M1 : pM), Iv gTT M1 → Fr [5, 7, 9, 10, 11, 12, 13] M M1 → (gWb bw M1) → Kr.1 (some (.int x)) 311 M1) : PW G false 5 149 (p_mc 149) (p_msl 149) Kr 0 (lv_args 0 [.ref 0]) [] 311 M 0 0 := by
  have F : Fr [5, 7, 9, 10, 11, 12, 13] M M := Fr.refl
  refine PW.aload_n q_149_0 rfl ?_
  refine PW.gR 1 q_149_1 (Or.inl t_ft_149_10) gF_0_0 kd_0 I.1 (by decide) rfl ?_
  refine PW.gI q_149_4 (Or.inr t_fN_149_73) gF_1_1 kd_1 I.1 (by decide) fun x1 fx1 hx1 kx1 => ?_
  refine PW.cI q_149_7 (by decide) fun c2 hc2 => ?_
  refine PW.divH q_149_8 (by omega) fun x3 => ?_
  refine PW.istore_n q_149_9 (by decide) ?_
  refine PW.aload_n q_149_10 rfl ?_
  refine PW.gR 1 q_149_11 (Or.inl t_ft_149_10) gF_0_0 kd_0 I.1 (by decide) rfl ?_
  refine PW.gE q_149_14 (Or.inr t_fN_149_73) gF_1_1 kd_1 I.1 (by decide) fx1 ?_
  refine PW.cI q_149_17 (by decide) fun c4 hc4 => ?_
  refine PW.remP q_149_18 (by omega) (by omega) fun x5 hx5 kx5 ex5 => ?_
  clear ex5
  refine PW.jz_ne q_149_19 rfl (fun h6 => ?_) (fun h6 => ?_)
  · skip
    refine PW.cI q_149_33 (by decide) fun c7 hc7 => ?_
    refine PW.rI q_149_34 rfl (by decide) (by decide) ?_
    exact hK c7 M I F hw
  · skip
    refine PW.iload_n q_149_22 rfl ?_
    refine PW.cI q_149_23 (by decide) fun c8 hc8 => ?_
    refine PW.jc_lt q_149_24 rfl (fun h9 => ?_) (fun h9 => ?_)
    · skip
      refine PW.cI q_149_33 (by decide) fun c10 hc10 => ?_
      refine PW.rI q_149_34 rfl (by decide) (by decide) ?_
      exact hK c10 M I F hw
    · skip
      refine PW.iload_n q_149_27 rfl ?_
      refine PW.cB q_149_28 (by decide) fun c11 hc11 => ?_
      refine PW.jc_le q_149_30 rfl (fun h12 => ?_) (fun h12 => ?_)
      · skip
        refine PW.cI q_149_35 (by decide) fun c13 hc13 => ?_
        refine PW.istore_n q_149_36 (by decide) ?_
        refine PW.cI q_149_37 (by decide) fun c14 hc14 => ?_
        refine PW.istore_n q_149_38 (by decide) ?_
        have L149_39_15 : ∀ (n : Nat) (ML149_39_15 : pM) (v16 v17 : Int32), Iv (gTT) ML149_39_15 → Fr [5, 7, 9, 10, 11, 12, 13] M ML149_39_15 → 0 ≤ v16.toInt → v16.toInt ≤ 255 → 0 ≤ v17.toInt → v17.toInt ≤ 10 → gWb bw ML149_39_15 → (10 - v17.toInt).toNat = n → PW G false 5 149 (p_mc 149) (p_msl 149) Kr 39 [(0, .ref 0), (1, .int x3), (2, .int v16), (3, .int v17)] [] 311 ML149_39_15 0 0 := by
          intro n
          induction n using Nat.strongRecOn with
          | ind n ih_L149_39_15 =>
          intro ML149_39_15 v16 v17 IML149_39_15 FML149_39_15 hbL149_39_150 hbL149_39_151 hbL149_39_152 hbL149_39_153 hbL149_39_154 hmL149_39_15
          refine PW.iload_n q_149_39 rfl ?_
          refine PW.iload_n q_149_40 rfl ?_
          refine PW.jc_ge q_149_41 rfl (fun h18 => ?_) (fun h18 => ?_)
          · skip
            refine PW.cI q_149_65 (by decide) fun c19 hc19 => ?_
            refine PW.aload_n q_149_66 rfl ?_
            refine PW.gR 3 q_149_67 (Or.inl t_ft_149_19) gF_0_1 kd_0 IML149_39_15.1 (by decide) rfl ?_
            refine PW.gR 4 q_149_70 (Or.inr t_fN_149_94) gF_3_0 kd_3 IML149_39_15.1 (by decide) rfl ?_
            refine PW.gI q_149_73 (Or.inr t_fN_149_136) gF_4_6 kd_4 IML149_39_15.1 (by decide) fun x20 fx20 hx20 kx20 => ?_
            refine PW.shlH q_149_76 fun x21 => ?_
            refine PW.cI q_149_77 (by decide) fun c22 hc22 => ?_
            refine PW.subH q_149_78 fun x23 => ?_
            refine PW.istore_n q_149_79 (by decide) ?_
            refine PW.aload_n q_149_80 rfl ?_
            refine PW.cV (as := []) (rest := []) q_149_81 t_mv_149_140 kd_0 IML149_39_15.1 (by decide) rfl (by decide) rfl rfl (Nat.le_of_ble_eq_true rfl) (Nat.le_of_ble_eq_true rfl) (by decide) (by decide) ?_
            refine PW.up (by decide) (c_X11_foreseen_w G _ ML149_39_15 IML149_39_15 bw hbL149_39_154 (by omega) fun M24 IM24 GM24 TM24 XM24 => ?_)
            have FM24 := Fr.trans FML149_39_15 GM24 (rfl)
            refine PW.astore q_149_84 (by decide) ?_
            refine PW.cI q_149_86 (by decide) fun c25 hc25 => ?_
            refine PW.istore q_149_87 (by decide) ?_
            have L149_89_26 : ∀ (n : Nat) (ML149_89_26 : pM) (v27 v28 : Int32), Iv (gTT) ML149_89_26 → Fr [5, 7, 9, 10, 11, 12, 13] M ML149_89_26 → 0 ≤ v28.toInt → v28.toInt ≤ 256 → gWb bw ML149_89_26 → (256 - v28.toInt).toNat = n → PW G false 5 149 (p_mc 149) (p_msl 149) Kr 89 [(0, .ref 0), (1, .int x3), (2, .int v16), (3, .int v27), (4, .ref 275), (5, .int v28)] [] 311 ML149_89_26 0 0 := by
              intro n
              induction n using Nat.strongRecOn with
              | ind n ih_L149_89_26 =>
              intro ML149_89_26 v27 v28 IML149_89_26 FML149_89_26 hbL149_89_260 hbL149_89_261 hbL149_89_262 hmL149_89_26
              refine PW.iload q_149_89 rfl ?_
              refine PW.iload_n q_149_91 rfl ?_
              refine PW.jc_gt q_149_92 rfl (fun h29 => ?_) (fun h29 => ?_)
              · skip
                refine PW.iload_n q_149_169 rfl ?_
                refine PW.rI q_149_170 rfl (by decide) (by decide) ?_
                exact hK v27 ML149_89_26 IML149_89_26 FML149_89_26 hbL149_89_262
              · skip
                refine PW.cI q_149_95 (by decide) fun c30 hc30 => ?_
                refine PW.istore q_149_96 (by decide) ?_
                have L149_98_31 : ∀ (n : Nat) (ML149_98_31 : pM) (v32 v33 : Int32), Iv (gTT) ML149_98_31 → Fr [5, 7, 9, 10, 11, 12, 13] M ML149_98_31 → 0 ≤ v33.toInt → v33.toInt ≤ 10 → gWb bw ML149_98_31 → (10 - v33.toInt).toNat = n → PW G false 5 149 (p_mc 149) (p_msl 149) Kr 98 [(0, .ref 0), (1, .int x3), (2, .int v16), (3, .int v32), (4, .ref 275), (5, .int v28), (6, .int v33)] [] 311 ML149_98_31 0 0 := by
                  intro n
                  induction n using Nat.strongRecOn with
                  | ind n ih_L149_98_31 =>
                  intro ML149_98_31 v32 v33 IML149_98_31 FML149_98_31 hbL149_98_310 hbL149_98_311 hbL149_98_312 hmL149_98_31
                  refine PW.iload q_149_98 rfl ?_
                  refine PW.iload_n q_149_100 rfl ?_
                  refine PW.jc_ge q_149_101 rfl (fun h34 => ?_) (fun h34 => ?_)
                  · skip
                    refine PW.aload q_149_150 rfl ?_
                    refine PW.aload_n q_149_152 rfl ?_
                    refine PW.gR 3 q_149_153 (Or.inl t_ft_149_19) gF_0_1 kd_0 IML149_98_31.1 (by decide) rfl ?_
                    refine PW.gR 4 q_149_156 (Or.inr t_fN_149_94) gF_3_0 kd_3 IML149_98_31.1 (by decide) rfl ?_
                    refine PW.cV (as := [_]) (rest := []) q_149_159 t_mv_149_317 kd_275 IML149_98_31.1 (by decide) rfl (by decide) rfl rfl (Nat.le_of_ble_eq_true rfl) (Nat.le_of_ble_eq_true rfl) (by decide) (by decide) ?_
                    refine PW.up (by decide) (c_X5_pass_w G _ ML149_98_31 IML149_98_31 275 kd_275 4 kd_4 bw hbL149_98_312 fun x36 M35 IM35 GM35 hx36 kx36 TM35 => ?_)
                    have FM35 := Fr.trans FML149_98_31 GM35 (rfl)
                    refine PW.pop q_149_162 rfl ?_
                    refine PW.incN q_149_163 rfl (by decide) (by decide) (by omega) (by omega) fun x37 hx37 => ?_
                    refine PW.goto q_149_166 rfl ?_
                    refine PW.lvS (lk1 rfl (lk1 rfl (lk1 rfl (lk1 rfl (lk1 rfl (lk1 rfl lk0)))))) (ih_L149_89_26 _ ?_ M35 v32 x37 IM35 FM35 (by omega) (by omega) TM35 rfl)
                    omega
                  · skip
                    refine PW.aload_n q_149_104 rfl ?_
                    refine PW.gR 1 q_149_105 (Or.inl t_ft_149_10) gF_0_0 kd_0 IML149_98_31.1 (by decide) rfl ?_
                    refine PW.cI q_149_108 (by decide) fun c38 hc38 => ?_
                    refine PW.iload q_149_109 rfl ?_
                    refine PW.mulN q_149_111 (2) (by omega) v33 (fun h => n_eq.mpr (by omega)) (fun h => n_eq.mpr (by omega)) (by omega) (by omega) fun x39 hx39 => ?_
                    refine PW.cV (as := [_]) (rest := []) q_149_112 t_mv_149_383 kd_1 IML149_98_31.1 (by decide) rfl (by decide) rfl rfl (Nat.le_of_ble_eq_true rfl) (Nat.le_of_ble_eq_true rfl) (by decide) (by decide) ?_
                    refine PW.up (by decide) (c_X7_at (gTT) (Stab0) G _ ML149_98_31 IML149_98_31 x39 fun x41 M40 IM40 GM40 hx41 kx41 => ?_)
                    have FM40 := Fr.trans FML149_98_31 GM40 (rfl)
                    refine PW.iload q_149_115 rfl ?_
                    have J144_43 : ∀ (MJ144_43 : pM) (v44 : Int32), Iv (gTT) MJ144_43 → Fr [5, 7, 9, 10, 11, 12, 13] M MJ144_43 → gWb bw MJ144_43 → PW G false 5 149 (p_mc 149) (p_msl 149) Kr 144 [(0, .ref 0), (1, .int x3), (2, .int v16), (3, .int v44), (4, .ref 275), (5, .int v28), (6, .int v33)] [] 311 MJ144_43 0 0 := by
                      intro MJ144_43 v44 IMJ144_43 FMJ144_43 hbJ144_430
                      refine PW.incN q_149_144 rfl (by decide) (by decide) (by omega) (by omega) fun x45 hx45 => ?_
                      refine PW.goto q_149_147 rfl ?_
                      refine PW.lvS (lk1 rfl (lk1 rfl (lk1 rfl (lk1 rfl (lk1 rfl (lk1 rfl (lk1 rfl lk0))))))) (ih_L149_98_31 _ ?_ MJ144_43 v44 x45 IMJ144_43 FMJ144_43 (by omega) (by omega) hbJ144_430 rfl)
                      omega
                    refine PW.jc_ne q_149_117 rfl (fun h42 => ?_) (fun h42 => ?_)
                    · skip
                      exact PW.lvS (lk1 rfl (lk1 rfl (lk1 rfl (lk1 rfl (lk1 rfl (lk1 rfl (lk1 rfl lk0))))))) (J144_43 M40 v32 IM40 FM40 (hbL149_98_312.fr GM40 rfl))
                    · skip
                      refine PW.iload_n q_149_120 rfl ?_
                      refine PW.aload_n q_149_121 rfl ?_
                      refine PW.aload q_149_122 rfl ?_
                      refine PW.aload_n q_149_124 rfl ?_
                      refine PW.gR 1 q_149_125 (Or.inl t_ft_149_10) gF_0_0 kd_0 IM40.1 (by decide) rfl ?_
                      refine PW.cI q_149_128 (by decide) fun c46 hc46 => ?_
                      refine PW.iload q_149_129 rfl ?_
                      refine PW.mulN q_149_131 (2) (by omega) v33 (fun h => n_eq.mpr (by omega)) (fun h => n_eq.mpr (by omega)) (by omega) (by omega) fun x47 hx47 => ?_
                      refine PW.cI q_149_132 (by decide) fun c48 hc48 => ?_
                      refine PW.addN q_149_133 (by have := n_lo x47; have := n_hi x47; omega) (by have := n_lo x47; have := n_hi x47; omega) fun x49 hx49 => ?_
                      refine PW.cV (as := [_]) (rest := [_, _, _]) q_149_134 t_mv_149_383 kd_1 IM40.1 (by decide) rfl (by decide) rfl rfl (Nat.le_of_ble_eq_true rfl) (Nat.le_of_ble_eq_true rfl) (by decide) (by decide) ?_
                      refine PW.up (by decide) (c_X7_at (gTT) (Stab0) G _ M40 IM40 x49 fun x51 M50 IM50 GM50 hx51 kx51 => ?_)
                      have FM50 := Fr.trans FM40 GM50 (rfl)
                      refine PW.iload q_149_137 rfl ?_
                      refine PW.cV (as := [_, _, _]) (rest := [_]) q_149_139 t_mv_149_389 kd_0 IM50.1 (by decide) rfl (by decide) rfl rfl (Nat.le_of_ble_eq_true rfl) (Nat.le_of_ble_eq_true rfl) (by decide) (by decide) ?_
                      refine PW.up (by decide) (c_X11_standingBy G _ M50 IM50 275 kd_275 x51 v28 fun x53 M52 IM52 GM52 => ?_)
                      have FM52 := Fr.trans FM50 GM52 (rfl)
                      refine PW.andH q_149_142 fun x54 => ?_
                      refine PW.istore_n q_149_143 (by decide) ?_
                      exact PW.lvS (lk1 rfl (lk1 rfl (lk1 rfl (lk1 rfl (lk1 rfl (lk1 rfl (lk1 rfl lk0))))))) (J144_43 M52 x54 IM52 FM52 (((hbL149_98_312.fr GM40 rfl).fr GM50 rfl).fr GM52 rfl))
                exact PW.lvS (lk1 rfl (lk1 rfl (lk1 rfl (lk1 rfl (lk1 rfl (lk1 rfl (lk1 rfl lk0))))))) (L149_98_31 _ ML149_89_26 v27 c30 IML149_89_26 FML149_89_26 (by omega) (by omega) hbL149_89_262 rfl)
            exact PW.lvS (lk1 rfl (lk1 rfl (lk1 rfl (lk1 rfl (lk1 rfl (lk1 rfl lk0)))))) (L149_89_26 _ M24 x23 c25 IM24 FM24 (by omega) (by omega) TM24 rfl)
          · skip
            refine PW.iload_n q_149_44 rfl ?_
            refine PW.aload_n q_149_45 rfl ?_
            refine PW.gR 1 q_149_46 (Or.inl t_ft_149_10) gF_0_0 kd_0 IML149_39_15.1 (by decide) rfl ?_
            refine PW.cI q_149_49 (by decide) fun c55 hc55 => ?_
            refine PW.iload_n q_149_50 rfl ?_
            refine PW.mulN q_149_51 (2) (by omega) v17 (fun h => n_eq.mpr (by omega)) (fun h => n_eq.mpr (by omega)) (by omega) (by omega) fun x56 hx56 => ?_
            refine PW.cV (as := [_]) (rest := [_]) q_149_52 t_mv_149_383 kd_1 IML149_39_15.1 (by decide) rfl (by decide) rfl rfl (Nat.le_of_ble_eq_true rfl) (Nat.le_of_ble_eq_true rfl) (by decide) (by decide) ?_
            refine PW.up (by decide) (c_X7_at (gTT) (Stab0) G _ ML149_39_15 IML149_39_15 x56 fun x58 M57 IM57 GM57 hx58 kx58 => ?_)
            have FM57 := Fr.trans FML149_39_15 GM57 (rfl)
            refine PW.maxN q_149_55 t_mj_149_386 (by decide) (Nat.le_of_ble_eq_true rfl) (by decide) (by decide) fun x59 hx59 kx59 lx59 => ?_
            refine PW.istore_n q_149_58 (by decide) ?_
            refine PW.incN q_149_59 rfl (by decide) (by decide) (by omega) (by omega) fun x60 hx60 => ?_
            refine PW.goto q_149_62 rfl ?_
            refine PW.lvS (lk1 rfl (lk1 rfl (lk1 rfl (lk1 rfl lk0)))) (ih_L149_39_15 _ ?_ M57 x59 x60 IM57 FM57 (by omega) (by omega) (by omega) (by omega) (hbL149_39_154.fr GM57 rfl) rfl)
            omega
        exact PW.lvS (lk1 rfl (lk1 rfl (lk1 rfl (lk1 rfl lk0)))) (L149_39_15 _ M c13 c14 I F (by omega) (by omega) (by omega) (by omega) hw rfl)
      · skip
        refine PW.cI q_149_33 (by decide) fun c61 hc61 => ?_
        refine PW.rI q_149_34 rfl (by decide) (by decide) ?_
        exact hK c61 M I F hw
theorem c_X11_prints_w (G : pG) (Kr : pK) (M : pM) (I : Iv gTT M) (bw : Nat) (hw : gWb bw M) (hw_0 : bw = 275) (hK : ∀ (x : Int32) (M1 : pM), Iv gTT M1 → Fr [1, 5, 7, 9, 10, 11, 12, 13] M M1 → (gWb bw M1) → Kr.1 (some (.int x)) 311 M1) : PW G false 6 135 (p_mc 135) (p_msl 135) Kr 0 (lv_args 0 [.ref 0]) [] 311 M 0 0 := by
  have F : Fr [1, 5, 7, 9, 10, 11, 12, 13] M M := Fr.refl
  refine PW.aload_n q_135_0 rfl ?_
  refine PW.cV (as := []) (rest := []) q_135_1 t_mv_135_335 kd_0 I.1 (by decide) rfl (by decide) rfl rfl (Nat.le_of_ble_eq_true rfl) (Nat.le_of_ble_eq_true rfl) (by decide) (by decide) ?_
  refine PW.up (by decide) (c_X11_leftPrints_w G _ M I bw hw (by omega) fun x2 M1 IM1 GM1 TM1 => ?_)
  have FM1 := Fr.trans F GM1 (rfl)
  refine PW.istore_n q_135_4 (by decide) ?_
  refine PW.aload_n q_135_5 rfl ?_
  refine PW.gR 1 q_135_6 (Or.inl t_ft_135_10) gF_0_0 kd_0 IM1.1 (by decide) rfl ?_
  refine PW.cI q_135_9 (by decide) fun c3 hc3 => ?_
  refine PW.pI q_135_10 (Or.inr t_fN_135_73) gF_1_1 gP_1_1 kd_1 Stab0 IM1 (by decide) rfl (by omega) (by omega) fun M4 IM4 fM4 UM4 => ?_
  have FM4 := Fr.pu FM1 UM4.1 kd_1 (rfl : List.contains [1, 5, 7, 9, 10, 11, 12, 13] 1 = true)
  refine PW.iload_n q_135_13 rfl ?_
  refine PW.rI q_135_14 rfl (by decide) (by decide) ?_
  exact hK x2 M4 IM4 FM4 (TM1.ar UM4.1 kd_1 (by decide))
theorem c_X11_foreseenQuiet_w (G : pG) (Kr : pK) (M : pM) (I : Iv gTT M) (bw : Nat) (hw : gWb bw M) (hw_0 : bw = 275) (hK : ∀ (M1 : pM), Iv gTT M1 → Fr [5, 7, 9, 10, 11, 12, 13] M M1 → (gWb bw M1) → Kr.1 (some (.ref 275)) 311 M1) : PW G false 5 156 (p_mc 156) (p_msl 156) Kr 0 (lv_args 0 [.ref 0]) [] 311 M 0 0 := by
  have F : Fr [5, 7, 9, 10, 11, 12, 13] M M := Fr.refl
  refine PW.aload_n q_156_0 rfl ?_
  refine PW.cV (as := []) (rest := []) q_156_1 t_mv_156_140 kd_0 I.1 (by decide) rfl (by decide) rfl rfl (Nat.le_of_ble_eq_true rfl) (Nat.le_of_ble_eq_true rfl) (by decide) (by decide) ?_
  refine PW.up (by decide) (c_X11_foreseen_w G _ M I bw hw (by omega) fun M1 IM1 GM1 TM1 XM1 => ?_)
  have FM1 := Fr.trans F GM1 (rfl)
  refine PW.astore_n q_156_4 (by decide) ?_
  refine PW.aload_n q_156_5 rfl ?_
  refine PW.cI q_156_6 (by decide) fun c2 hc2 => ?_
  refine PW.pI q_156_7 (Or.inr t_fN_156_233) gF_5_1 gP_5_1 kd_275 Stab0 IM1 (by decide) rfl (n_lo _) (n_hi _) fun M3 IM3 fM3 UM3 => ?_
  have FM3 := Fr.pu FM1 UM3.1 kd_275 (rfl : List.contains [5, 7, 9, 10, 11, 12, 13] 5 = true)
  refine PW.aload_n q_156_10 rfl ?_
  refine PW.cI q_156_11 (by decide) fun c4 hc4 => ?_
  refine PW.pI q_156_12 (Or.inr t_fN_156_236) gF_5_2 gP_5_2 kd_275 Stab0 IM3 (by decide) rfl (n_lo _) (n_hi _) fun M5 IM5 fM5 UM5 => ?_
  have FM5 := Fr.pu FM3 UM5.1 kd_275 (rfl : List.contains [5, 7, 9, 10, 11, 12, 13] 5 = true)
  refine PW.aload_n q_156_15 rfl ?_
  refine PW.aret q_156_16 rfl (by decide) (by decide) ?_
  exact hK M5 IM5 FM5 ((TM1.ar UM3.1 kd_275 (by decide)).ar UM5.1 kd_275 (by decide))
theorem c_X11_roundBits_w (G : pG) (Kr : pK) (M : pM) (I : Iv gTT M) (a1 : Int32) (hl_a1 : 0 ≤ a1.toInt) (hh_a1 : a1.toInt ≤ 1) (bw : Nat) (hw : gWb bw M) (hw_0 : bw = 275) (hK : ∀ (x : Int32) (M1 : pM), Iv gTT M1 → Fr [5, 7, 9, 10, 11, 12, 13] M M1 → (gWb bw M1) → Kr.1 (some (.int x)) 311 M1) : PW G false 6 158 (p_mc 158) (p_msl 158) Kr 0 (lv_args 0 [.ref 0, .int a1]) [] 311 M 0 0 := by
  have F : Fr [5, 7, 9, 10, 11, 12, 13] M M := Fr.refl
  refine PW.aload_n q_158_0 rfl ?_
  refine PW.cV (as := []) (rest := []) q_158_1 t_mv_158_399 kd_0 I.1 (by decide) rfl (by decide) rfl rfl (Nat.le_of_ble_eq_true rfl) (Nat.le_of_ble_eq_true rfl) (by decide) (by decide) ?_
  refine PW.up (by decide) (c_X11_foreseenQuiet_w G _ M I bw hw (by omega) fun M1 IM1 GM1 TM1 => ?_)
  have FM1 := Fr.trans F GM1 (rfl)
  refine PW.astore_n q_158_4 (by decide) ?_
  refine PW.aload_n q_158_5 rfl ?_
  refine PW.gR 283 q_158_6 (Or.inr t_fN_158_206) gF_5_4 kd_275 IM1.1 (by decide) rfl ?_
  refine PW.iload_n q_158_9 rfl ?_
  refine PW.aRk q_158_10 rfl (by decide) (by decide) kd_283 IM1.1 (by decide) (by omega) (by omega) fun b2 hk_b2 e_b2 => ?_
  refine PW.astore_n q_158_11 (by decide) ?_
  refine PW.cI q_158_12 (by decide) fun c3 hc3 => ?_
  refine PW.istore q_158_13 (by decide) ?_
  refine PW.cI q_158_15 (by decide) fun c4 hc4 => ?_
  refine PW.istore q_158_16 (by decide) ?_
  have L158_18_5 : ∀ (n : Nat) (ML158_18_5 : pM) (v6 v7 : Int32), Iv (gTT) ML158_18_5 → Fr [5, 7, 9, 10, 11, 12, 13] M ML158_18_5 → 0 ≤ v7.toInt → v7.toInt ≤ 18 → gWb bw ML158_18_5 → (18 - v7.toInt).toNat = n → PW G false 6 158 (p_mc 158) (p_msl 158) Kr 18 [(0, .ref 0), (1, .int a1), (2, .ref 275), (3, .ref b2), (4, .int v6), (5, .int v7)] [] 311 ML158_18_5 0 0 := by
    intro n
    induction n using Nat.strongRecOn with
    | ind n ih_L158_18_5 =>
    intro ML158_18_5 v6 v7 IML158_18_5 FML158_18_5 hbL158_18_50 hbL158_18_51 hbL158_18_52 hmL158_18_5
    refine PW.iload q_158_18 rfl ?_
    refine PW.cB q_158_20 (by decide) fun c8 hc8 => ?_
    refine PW.jc_ge q_158_22 rfl (fun h9 => ?_) (fun h9 => ?_)
    · skip
      refine PW.iload q_158_88 rfl ?_
      refine PW.rI q_158_90 rfl (by decide) (by decide) ?_
      exact hK v6 ML158_18_5 IML158_18_5 FML158_18_5 hbL158_18_52
    · skip
      refine PW.aload_n q_158_25 rfl ?_
      refine PW.aload_n q_158_26 rfl ?_
      refine PW.gR 3 q_158_27 (Or.inl t_ft_158_19) gF_0_1 kd_0 IML158_18_5.1 (by decide) rfl ?_
      refine PW.gR 4 q_158_30 (Or.inr t_fN_158_94) gF_3_0 kd_3 IML158_18_5.1 (by decide) rfl ?_
      refine PW.gI q_158_33 (Or.inr t_fN_158_136) gF_4_6 kd_4 IML158_18_5.1 (by decide) fun x10 fx10 hx10 kx10 => ?_
      refine PW.aload_n q_158_36 rfl ?_
      refine PW.aload_n q_158_37 rfl ?_
      refine PW.gR 3 q_158_38 (Or.inl t_ft_158_19) gF_0_1 kd_0 IML158_18_5.1 (by decide) rfl ?_
      refine PW.gR 4 q_158_41 (Or.inr t_fN_158_94) gF_3_0 kd_3 IML158_18_5.1 (by decide) rfl ?_
      refine PW.gR 13 q_158_44 (Or.inr t_fN_158_321) gF_4_16 kd_4 IML158_18_5.1 (by decide) rfl ?_
      refine PW.iload_n q_158_47 rfl ?_
      refine PW.aH q_158_48 gA_35 kd_13 IML158_18_5.1 (by decide) (by omega) (by omega) fun x11 fx11 => ?_
      refine PW.cS q_158_49 (by decide) fun c12 hc12 => ?_
      refine PW.iload q_158_52 rfl ?_
      refine PW.addN q_158_54 (by omega) (by omega) fun x13 hx13 => ?_
      refine PW.cV (as := [_, _, _, _]) (rest := []) q_158_55 t_mv_158_405 kd_275 IML158_18_5.1 (by decide) rfl (by decide) rfl rfl (Nat.le_of_ble_eq_true rfl) (Nat.le_of_ble_eq_true rfl) (by decide) (by decide) ?_
      refine PW.up (by decide) (c_X5_leap_w (gTT) (Stab0) G _ ML158_18_5 IML158_18_5 275 kd_275 x10 b2 hk_b2 x11 x13 (by omega) (by omega) bw hbL158_18_52 (by omega) fun x15 M14 IM14 GM14 TM14 => ?_)
      have FM14 := Fr.trans FML158_18_5 GM14 (rfl)
      refine PW.istore q_158_58 (by decide) ?_
      refine PW.iload q_158_60 rfl ?_
      refine PW.cB q_158_62 (by decide) fun c16 hc16 => ?_
      have J82_18 : ∀ (MJ82_18 : pM) (v19 : Int32), Iv (gTT) MJ82_18 → Fr [5, 7, 9, 10, 11, 12, 13] M MJ82_18 → o_f (MJ82_18 4) 6 = .int x10 → gWb bw MJ82_18 → PW G false 6 158 (p_mc 158) (p_msl 158) Kr 82 [(0, .ref 0), (1, .int a1), (2, .ref 275), (3, .ref b2), (4, .int v19), (5, .int v7), (6, .int x15)] [] 311 MJ82_18 0 0 := by
        intro MJ82_18 v19 IMJ82_18 FMJ82_18 hbJ82_180 hbJ82_181
        refine PW.incN q_158_82 rfl (by decide) (by decide) (by omega) (by omega) fun x20 hx20 => ?_
        refine PW.goto q_158_85 rfl ?_
        refine PW.lvS (lk1 rfl (lk1 rfl (lk1 rfl (lk1 rfl (lk1 rfl (lk1 rfl lk0)))))) (ih_L158_18_5 _ ?_ MJ82_18 v19 x20 IMJ82_18 FMJ82_18 (by omega) (by omega) hbJ82_181 rfl)
        omega
      refine PW.jc_lt q_158_64 rfl (fun h17 => ?_) (fun h17 => ?_)
      · skip
        exact PW.lvS (lk1 rfl (lk1 rfl (lk1 rfl (lk1 rfl (lk1 rfl (lk1 rfl (lk1 rfl lk0))))))) (J82_18 M14 v6 IM14 FM14 ((congrArg (fun e => o_f e 6) (Fr.at GM14 kd_4 (by decide))).trans fx10) TM14)
      · skip
        refine PW.iload q_158_67 rfl ?_
        refine PW.cI q_158_69 (by decide) fun c21 hc21 => ?_
        refine PW.jc_eq q_158_70 rfl (fun h22 => ?_) (fun h22 => ?_)
        · skip
          exact PW.lvS (lk1 rfl (lk1 rfl (lk1 rfl (lk1 rfl (lk1 rfl (lk1 rfl (lk1 rfl lk0))))))) (J82_18 M14 v6 IM14 FM14 ((congrArg (fun e => o_f e 6) (Fr.at GM14 kd_4 (by decide))).trans fx10) TM14)
        · skip
          refine PW.iload q_158_73 rfl ?_
          refine PW.cI q_158_75 (by decide) fun c23 hc23 => ?_
          refine PW.iload q_158_76 rfl ?_
          refine PW.shlH q_158_78 fun x24 => ?_
          refine PW.orH q_158_79 fun x25 => ?_
          refine PW.istore q_158_80 (by decide) ?_
          exact PW.lvS (lk1 rfl (lk1 rfl (lk1 rfl (lk1 rfl (lk1 rfl (lk1 rfl (lk1 rfl lk0))))))) (J82_18 M14 x25 IM14 FM14 ((congrArg (fun e => o_f e 6) (Fr.at GM14 kd_4 (by decide))).trans fx10) TM14)
  exact PW.lvS (lk1 rfl (lk1 rfl (lk1 rfl (lk1 rfl (lk1 rfl (lk1 rfl lk0)))))) (L158_18_5 _ M1 c3 c4 IM1 FM1 (by omega) (by omega) TM1 rfl)
theorem c_X11_round_w (G : pG) (Kr : pK) (M : pM) (I : Iv gTT M) (a1 : Int32) (bw : Nat) (hw : gWb bw M) (hw_0 : bw = 275) (hK : ∀ (x : Int32) (M1 : pM), Iv gTT M1 → Fr [5, 7, 9, 10, 11, 12, 13] M M1 → (gWb bw M1) → Kr.1 (some (.int x)) 311 M1) : PW G false 7 141 (p_mc 141) (p_msl 141) Kr 0 (lv_args 0 [.ref 0, .int a1]) [] 311 M 0 0 := by
  have F : Fr [5, 7, 9, 10, 11, 12, 13] M M := Fr.refl
  refine PW.aload_n q_141_0 rfl ?_
  refine PW.iload_n q_141_1 rfl ?_
  refine PW.cV (as := [_]) (rest := []) q_141_2 t_mv_141_370 kd_0 I.1 (by decide) rfl (by decide) rfl rfl (Nat.le_of_ble_eq_true rfl) (Nat.le_of_ble_eq_true rfl) (by decide) (by decide) ?_
  refine PW.aload_n q_157_0 rfl ?_
  refine PW.iload_n q_157_1 rfl ?_
  refine PW.cV (as := [_]) (rest := []) q_157_2 t_mv_157_203 kd_0 I.1 (by decide) rfl (by decide) rfl rfl (Nat.le_of_ble_eq_true rfl) (Nat.le_of_ble_eq_true rfl) (by decide) (by decide) ?_
  refine PW.iload_n q_144_0 rfl ?_
  refine PW.jz_lt q_144_1 rfl (fun h1 => ?_) (fun h1 => ?_)
  · skip
    refine PW.cI q_144_22 (by decide) fun c2 hc2 => ?_
    refine PW.rZ q_144_23 rfl (by omega) (by omega) (by decide) (by decide) ?_
    refine PW.jz_eq q_157_5 rfl (fun h3 => ?_) (fun h3 => False.elim (by omega))
    refine PW.cI q_157_26 (by decide) fun c4 hc4 => ?_
    refine PW.rZ q_157_27 rfl (by omega) (by omega) (by decide) (by decide) ?_
    refine PW.jz_eq q_141_5 rfl (fun h5 => ?_) (fun h5 => False.elim (by omega))
    refine PW.cI q_141_19 (by decide) fun c6 hc6 => ?_
    refine PW.rI q_141_20 rfl (by decide) (by decide) ?_
    exact hK c6 M I F hw
  · skip
    refine PW.iload_n q_144_4 rfl ?_
    refine PW.aload_n q_144_5 rfl ?_
    refine PW.gR 3 q_144_6 (Or.inl t_ft_144_19) gF_0_1 kd_0 I.1 (by decide) rfl ?_
    refine PW.gR 4 q_144_9 (Or.inr t_fN_144_94) gF_3_0 kd_3 I.1 (by decide) rfl ?_
    refine PW.gI q_144_12 (Or.inr t_fN_144_249) gF_4_7 kd_4 I.1 (by decide) fun x7 fx7 hx7 kx7 => ?_
    refine PW.jc_ge q_144_15 rfl (fun h8 => ?_) (fun h8 => ?_)
    · skip
      refine PW.cI q_144_22 (by decide) fun c9 hc9 => ?_
      refine PW.rZ q_144_23 rfl (by omega) (by omega) (by decide) (by decide) ?_
      refine PW.jz_eq q_157_5 rfl (fun h10 => ?_) (fun h10 => False.elim (by omega))
      refine PW.cI q_157_26 (by decide) fun c11 hc11 => ?_
      refine PW.rZ q_157_27 rfl (by omega) (by omega) (by decide) (by decide) ?_
      refine PW.jz_eq q_141_5 rfl (fun h12 => ?_) (fun h12 => False.elim (by omega))
      refine PW.cI q_141_19 (by decide) fun c13 hc13 => ?_
      refine PW.rI q_141_20 rfl (by decide) (by decide) ?_
      exact hK c13 M I F hw
    · skip
      refine PW.cI q_144_18 (by decide) fun c14 hc14 => ?_
      refine PW.goto q_144_19 rfl ?_
      refine PW.rZ q_144_23 rfl (by omega) (by omega) (by decide) (by decide) ?_
      refine PW.jz_eq q_157_5 rfl (fun h15 => False.elim (by omega)) (fun h15 => ?_)
      refine PW.aload_n q_157_8 rfl ?_
      refine PW.gR 3 q_157_9 (Or.inl t_ft_157_19) gF_0_1 kd_0 I.1 (by decide) rfl ?_
      refine PW.gR 4 q_157_12 (Or.inr t_fN_157_94) gF_3_0 kd_3 I.1 (by decide) rfl ?_
      refine PW.gI q_157_15 (Or.inr t_fN_157_136) gF_4_6 kd_4 I.1 (by decide) fun x16 fx16 hx16 kx16 => ?_
      refine PW.cI q_157_18 (by decide) fun c17 hc17 => ?_
      refine PW.jc_le q_157_19 rfl (fun h18 => ?_) (fun h18 => ?_)
      · skip
        refine PW.cI q_157_26 (by decide) fun c19 hc19 => ?_
        refine PW.rZ q_157_27 rfl (by omega) (by omega) (by decide) (by decide) ?_
        refine PW.jz_eq q_141_5 rfl (fun h20 => ?_) (fun h20 => False.elim (by omega))
        refine PW.cI q_141_19 (by decide) fun c21 hc21 => ?_
        refine PW.rI q_141_20 rfl (by decide) (by decide) ?_
        exact hK c21 M I F hw
      · skip
        refine PW.cI q_157_22 (by decide) fun c22 hc22 => ?_
        refine PW.goto q_157_23 rfl ?_
        refine PW.rZ q_157_27 rfl (by omega) (by omega) (by decide) (by decide) ?_
        refine PW.jz_eq q_141_5 rfl (fun h23 => False.elim (by omega)) (fun h23 => ?_)
        refine PW.aload_n q_141_8 rfl ?_
        refine PW.iload_n q_141_9 rfl ?_
        refine PW.cV (as := [_]) (rest := []) q_141_10 t_mv_141_373 kd_0 I.1 (by decide) rfl (by decide) rfl rfl (Nat.le_of_ble_eq_true rfl) (Nat.le_of_ble_eq_true rfl) (by decide) (by decide) ?_
        refine PW.up (by decide) (c_X11_roundBits_w G _ M I a1 (by omega) (by omega) bw hw (by omega) fun x25 M24 IM24 GM24 TM24 => ?_)
        have FM24 := Fr.trans F GM24 (rfl)
        refine PW.callS (as := [_]) (rest := []) q_141_13 t_ms_141_130 (by decide) rfl (Nat.le_of_ble_eq_true rfl) (Nat.le_of_ble_eq_true rfl) (by decide) (by decide) ?_
        refine PW.up (by decide) (c_J6_bitCount_0f7a4 (gTT) (Stab0) G _ M24 IM24 x25 fun x27 M26 IM26 GM26 => ?_)
        have FM26 := Fr.trans FM24 GM26 (rfl)
        refine PW.goto q_141_16 rfl ?_
        refine PW.rI q_141_20 rfl (by decide) (by decide) ?_
        exact hK x27 M26 IM26 FM26 (TM24.fr GM26 rfl)
theorem c_X11_circle_w (G : pG) (Kr : pK) (M : pM) (I : Iv gTT M) (a1 : Int32) (bw : Nat) (hw : gWb bw M) (hw_0 : bw = 275) (hK : ∀ (x : Int32) (M1 : pM), Iv gTT M1 → Fr [5, 7, 9, 10, 11, 12, 13] M M1 → (gWb bw M1) → Kr.1 (some (.int x)) 311 M1) : PW G false 7 142 (p_mc 142) (p_msl 142) Kr 0 (lv_args 0 [.ref 0, .int a1]) [] 311 M 0 0 := by
  have F : Fr [5, 7, 9, 10, 11, 12, 13] M M := Fr.refl
  refine PW.aload_n q_142_0 rfl ?_
  refine PW.iload_n q_142_1 rfl ?_
  refine PW.cV (as := [_]) (rest := []) q_142_2 t_mv_142_370 kd_0 I.1 (by decide) rfl (by decide) rfl rfl (Nat.le_of_ble_eq_true rfl) (Nat.le_of_ble_eq_true rfl) (by decide) (by decide) ?_
  refine PW.aload_n q_157_0 rfl ?_
  refine PW.iload_n q_157_1 rfl ?_
  refine PW.cV (as := [_]) (rest := []) q_157_2 t_mv_157_203 kd_0 I.1 (by decide) rfl (by decide) rfl rfl (Nat.le_of_ble_eq_true rfl) (Nat.le_of_ble_eq_true rfl) (by decide) (by decide) ?_
  refine PW.iload_n q_144_0 rfl ?_
  refine PW.jz_lt q_144_1 rfl (fun h1 => ?_) (fun h1 => ?_)
  · skip
    refine PW.cI q_144_22 (by decide) fun c2 hc2 => ?_
    refine PW.rZ q_144_23 rfl (by omega) (by omega) (by decide) (by decide) ?_
    refine PW.jz_eq q_157_5 rfl (fun h3 => ?_) (fun h3 => False.elim (by omega))
    refine PW.cI q_157_26 (by decide) fun c4 hc4 => ?_
    refine PW.rZ q_157_27 rfl (by omega) (by omega) (by decide) (by decide) ?_
    refine PW.jz_eq q_142_5 rfl (fun h5 => ?_) (fun h5 => False.elim (by omega))
    refine PW.cI q_142_16 (by decide) fun c6 hc6 => ?_
    refine PW.rI q_142_17 rfl (by decide) (by decide) ?_
    exact hK c6 M I F hw
  · skip
    refine PW.iload_n q_144_4 rfl ?_
    refine PW.aload_n q_144_5 rfl ?_
    refine PW.gR 3 q_144_6 (Or.inl t_ft_144_19) gF_0_1 kd_0 I.1 (by decide) rfl ?_
    refine PW.gR 4 q_144_9 (Or.inr t_fN_144_94) gF_3_0 kd_3 I.1 (by decide) rfl ?_
    refine PW.gI q_144_12 (Or.inr t_fN_144_249) gF_4_7 kd_4 I.1 (by decide) fun x7 fx7 hx7 kx7 => ?_
    refine PW.jc_ge q_144_15 rfl (fun h8 => ?_) (fun h8 => ?_)
    · skip
      refine PW.cI q_144_22 (by decide) fun c9 hc9 => ?_
      refine PW.rZ q_144_23 rfl (by omega) (by omega) (by decide) (by decide) ?_
      refine PW.jz_eq q_157_5 rfl (fun h10 => ?_) (fun h10 => False.elim (by omega))
      refine PW.cI q_157_26 (by decide) fun c11 hc11 => ?_
      refine PW.rZ q_157_27 rfl (by omega) (by omega) (by decide) (by decide) ?_
      refine PW.jz_eq q_142_5 rfl (fun h12 => ?_) (fun h12 => False.elim (by omega))
      refine PW.cI q_142_16 (by decide) fun c13 hc13 => ?_
      refine PW.rI q_142_17 rfl (by decide) (by decide) ?_
      exact hK c13 M I F hw
    · skip
      refine PW.cI q_144_18 (by decide) fun c14 hc14 => ?_
      refine PW.goto q_144_19 rfl ?_
      refine PW.rZ q_144_23 rfl (by omega) (by omega) (by decide) (by decide) ?_
      refine PW.jz_eq q_157_5 rfl (fun h15 => False.elim (by omega)) (fun h15 => ?_)
      refine PW.aload_n q_157_8 rfl ?_
      refine PW.gR 3 q_157_9 (Or.inl t_ft_157_19) gF_0_1 kd_0 I.1 (by decide) rfl ?_
      refine PW.gR 4 q_157_12 (Or.inr t_fN_157_94) gF_3_0 kd_3 I.1 (by decide) rfl ?_
      refine PW.gI q_157_15 (Or.inr t_fN_157_136) gF_4_6 kd_4 I.1 (by decide) fun x16 fx16 hx16 kx16 => ?_
      refine PW.cI q_157_18 (by decide) fun c17 hc17 => ?_
      refine PW.jc_le q_157_19 rfl (fun h18 => ?_) (fun h18 => ?_)
      · skip
        refine PW.cI q_157_26 (by decide) fun c19 hc19 => ?_
        refine PW.rZ q_157_27 rfl (by omega) (by omega) (by decide) (by decide) ?_
        refine PW.jz_eq q_142_5 rfl (fun h20 => ?_) (fun h20 => False.elim (by omega))
        refine PW.cI q_142_16 (by decide) fun c21 hc21 => ?_
        refine PW.rI q_142_17 rfl (by decide) (by decide) ?_
        exact hK c21 M I F hw
      · skip
        refine PW.cI q_157_22 (by decide) fun c22 hc22 => ?_
        refine PW.goto q_157_23 rfl ?_
        refine PW.rZ q_157_27 rfl (by omega) (by omega) (by decide) (by decide) ?_
        refine PW.jz_eq q_142_5 rfl (fun h23 => False.elim (by omega)) (fun h23 => ?_)
        refine PW.aload_n q_142_8 rfl ?_
        refine PW.iload_n q_142_9 rfl ?_
        refine PW.cV (as := [_]) (rest := []) q_142_10 t_mv_142_373 kd_0 I.1 (by decide) rfl (by decide) rfl rfl (Nat.le_of_ble_eq_true rfl) (Nat.le_of_ble_eq_true rfl) (by decide) (by decide) ?_
        refine PW.up (by decide) (c_X11_roundBits_w G _ M I a1 (by omega) (by omega) bw hw (by omega) fun x25 M24 IM24 GM24 TM24 => ?_)
        have FM24 := Fr.trans F GM24 (rfl)
        refine PW.goto q_142_13 rfl ?_
        refine PW.rI q_142_17 rfl (by decide) (by decide) ?_
        exact hK x25 M24 IM24 FM24 TM24
theorem c_X11_firstFalseTurn_w (G : pG) (Kr : pK) (M : pM) (I : Iv gTT M) (a1 : Int32) (hl_a1 : 0 ≤ a1.toInt) (hh_a1 : a1.toInt ≤ 1) (bw : Nat) (hw : gWb bw M) (hw_0 : bw = 275) (hK : ∀ (x : Int32) (M1 : pM), Iv gTT M1 → Fr [5, 7, 9, 10, 11, 12, 13] M M1 → (gWb bw M1) → Kr.1 (some (.int x)) 311 M1) : PW G false 5 152 (p_mc 152) (p_msl 152) Kr 0 (lv_args 0 [.ref 0, .int a1]) [] 311 M 0 0 := by
  have F : Fr [5, 7, 9, 10, 11, 12, 13] M M := Fr.refl
  refine PW.aload_n q_152_0 rfl ?_
  refine PW.cI q_152_1 (by decide) fun c1 hc1 => ?_
  refine PW.cV (as := [_]) (rest := []) q_152_2 t_mv_152_393 kd_0 I.1 (by decide) rfl (by decide) rfl rfl (Nat.le_of_ble_eq_true rfl) (Nat.le_of_ble_eq_true rfl) (by decide) (by decide) ?_
  refine PW.up (by decide) (c_X11_areWalkers G _ M I c1 (by omega) (by omega) fun x3 M2 IM2 GM2 hx3 kx3 PM2 => ?_)
  have FM2 := Fr.trans F GM2 (rfl)
  refine PW.jz_ne q_152_5 rfl (fun h4 => ?_) (fun h4 => ?_)
  · skip
    refine PW.aload_n q_152_11 rfl ?_
    refine PW.cV (as := []) (rest := []) q_152_12 t_mv_152_140 kd_0 IM2.1 (by decide) rfl (by decide) rfl rfl (Nat.le_of_ble_eq_true rfl) (Nat.le_of_ble_eq_true rfl) (by decide) (by decide) ?_
    refine PW.up (by decide) (c_X11_foreseen_w G _ M2 IM2 bw (hw.fr GM2 rfl) (by omega) fun M5 IM5 GM5 TM5 XM5 => ?_)
    have FM5 := Fr.trans FM2 GM5 (rfl)
    refine PW.astore_n q_152_15 (by decide) ?_
    refine PW.aload_n q_152_16 rfl ?_
    refine PW.gR 283 q_152_17 (Or.inr t_fN_152_206) gF_5_4 kd_275 IM5.1 (by decide) rfl ?_
    refine PW.iload_n q_152_20 rfl ?_
    refine PW.aRk q_152_21 rfl (by decide) (by decide) kd_283 IM5.1 (by decide) (by omega) (by omega) fun b6 hk_b6 e_b6 => ?_
    refine PW.astore_n q_152_22 (by decide) ?_
    refine PW.aload_n q_152_23 rfl ?_
    refine PW.gI q_152_24 (Or.inr t_fN_152_218) gF_9_3 hk_b6 IM5.1 (by decide) fun x7 fx7 hx7 kx7 => ?_
    refine PW.istore q_152_27 (by decide) ?_
    refine PW.cI q_152_29 (by decide) fun c8 hc8 => ?_
    refine PW.istore q_152_30 (by decide) ?_
    refine PW.cI q_152_32 (by decide) fun c9 hc9 => ?_
    refine PW.istore q_152_33 (by decide) ?_
    have L152_35_10 : ∀ (n : Nat) (ML152_35_10 : pM) (v11 v12 : Int32), Iv (gTT) ML152_35_10 → Fr [5, 7, 9, 10, 11, 12, 13] M ML152_35_10 → 0 ≤ v11.toInt → v11.toInt ≤ 600 → 0 ≤ v12.toInt → v12.toInt ≤ 300 → gWb bw ML152_35_10 → (300 - v12.toInt).toNat = n → PW G false 5 152 (p_mc 152) (p_msl 152) Kr 35 [(0, .ref 0), (1, .int a1), (2, .ref 275), (3, .ref b6), (4, .int x7), (5, .int v11), (6, .int v12)] [] 311 ML152_35_10 0 0 := by
      intro n
      induction n using Nat.strongRecOn with
      | ind n ih_L152_35_10 =>
      intro ML152_35_10 v11 v12 IML152_35_10 FML152_35_10 hbL152_35_100 hbL152_35_101 hbL152_35_102 hbL152_35_103 hbL152_35_104 hmL152_35_10
      refine PW.iload q_152_35 rfl ?_
      refine PW.cS q_152_37 (by decide) fun c13 hc13 => ?_
      have J107_15 : ∀ (MJ107_15 : pM), Iv (gTT) MJ107_15 → Fr [5, 7, 9, 10, 11, 12, 13] M MJ107_15 → gWb bw MJ107_15 → PW G false 5 152 (p_mc 152) (p_msl 152) Kr 107 [(0, .ref 0), (1, .int a1), (2, .ref 275), (3, .ref b6), (4, .int x7), (5, .int v11), (6, .int v12)] [] 311 MJ107_15 0 0 := by
        intro MJ107_15  IMJ107_15 FMJ107_15 hbJ107_150
        refine PW.iload q_152_107 rfl ?_
        refine PW.aload_n q_152_109 rfl ?_
        refine PW.gR 1 q_152_110 (Or.inl t_ft_152_10) gF_0_0 kd_0 IMJ107_15.1 (by decide) rfl ?_
        refine PW.gI q_152_113 (Or.inr t_fN_152_73) gF_1_1 kd_1 IMJ107_15.1 (by decide) fun x16 fx16 hx16 kx16 => ?_
        refine PW.jc_ge q_152_116 rfl (fun h17 => ?_) (fun h17 => ?_)
        · skip
          refine PW.cI q_152_124 (by decide) fun c18 hc18 => ?_
          refine PW.rI q_152_125 rfl (by decide) (by decide) ?_
          exact hK c18 MJ107_15 IMJ107_15 FMJ107_15 hbJ107_150
        · skip
          refine PW.iload q_152_119 rfl ?_
          refine PW.goto q_152_121 rfl ?_
          refine PW.rI q_152_125 rfl (by decide) (by decide) ?_
          exact hK v11 MJ107_15 IMJ107_15 FMJ107_15 hbJ107_150
      refine PW.jc_ge q_152_40 rfl (fun h14 => ?_) (fun h14 => ?_)
      · skip
        exact PW.lvS (lk1 rfl (lk1 rfl (lk1 rfl (lk1 rfl (lk1 rfl (lk1 rfl (lk1 rfl lk0))))))) (J107_15 ML152_35_10  IML152_35_10 FML152_35_10 hbL152_35_104)
      · skip
        refine PW.iload q_152_43 rfl ?_
        refine PW.aload_n q_152_45 rfl ?_
        refine PW.gR 1 q_152_46 (Or.inl t_ft_152_10) gF_0_0 kd_0 IML152_35_10.1 (by decide) rfl ?_
        refine PW.gI q_152_49 (Or.inr t_fN_152_73) gF_1_1 kd_1 IML152_35_10.1 (by decide) fun x19 fx19 hx19 kx19 => ?_
        refine PW.jc_ge q_152_52 rfl (fun h20 => ?_) (fun h20 => ?_)
        · skip
          exact PW.lvS (lk1 rfl (lk1 rfl (lk1 rfl (lk1 rfl (lk1 rfl (lk1 rfl (lk1 rfl lk0))))))) (J107_15 ML152_35_10  IML152_35_10 FML152_35_10 hbL152_35_104)
        · skip
          refine PW.aload_n q_152_55 rfl ?_
          refine PW.aload_n q_152_56 rfl ?_
          refine PW.gR 3 q_152_57 (Or.inl t_ft_152_19) gF_0_1 kd_0 IML152_35_10.1 (by decide) rfl ?_
          refine PW.gR 4 q_152_60 (Or.inr t_fN_152_94) gF_3_0 kd_3 IML152_35_10.1 (by decide) rfl ?_
          refine PW.cV (as := [_]) (rest := []) q_152_63 t_mv_152_317 kd_275 IML152_35_10.1 (by decide) rfl (by decide) rfl rfl (Nat.le_of_ble_eq_true rfl) (Nat.le_of_ble_eq_true rfl) (by decide) (by decide) ?_
          refine PW.up (by decide) (c_X5_pass_w G _ ML152_35_10 IML152_35_10 275 kd_275 4 kd_4 bw hbL152_35_104 fun x22 M21 IM21 GM21 hx22 kx22 TM21 => ?_)
          have FM21 := Fr.trans FML152_35_10 GM21 (rfl)
          refine PW.pop q_152_66 rfl ?_
          refine PW.aload_n q_152_67 rfl ?_
          refine PW.gI q_152_68 (Or.inr t_fN_152_218) gF_9_3 hk_b6 IM21.1 (by decide) fun x23 fx23 hx23 kx23 => ?_
          refine PW.iload q_152_71 rfl ?_
          refine PW.subN q_152_73 (by omega) (by omega) fun x24 hx24 => ?_
          refine PW.iload q_152_74 rfl ?_
          have J101_26 : ∀ (MJ101_26 : pM) (v27 : Int32), Iv (gTT) MJ101_26 → Fr [5, 7, 9, 10, 11, 12, 13] M MJ101_26 → 0 ≤ v27.toInt → v27.toInt ≤ 600 → o_f (MJ101_26 1) 1 = .int x19 → o_f (MJ101_26 b6) 3 = .int x23 → gWb bw MJ101_26 → PW G false 5 152 (p_mc 152) (p_msl 152) Kr 101 [(0, .ref 0), (1, .int a1), (2, .ref 275), (3, .ref b6), (4, .int x7), (5, .int v27), (6, .int v12)] [] 311 MJ101_26 0 0 := by
            intro MJ101_26 v27 IMJ101_26 FMJ101_26 hbJ101_260 hbJ101_261 hbJ101_262 hbJ101_263 hbJ101_264
            refine PW.incN q_152_101 rfl (by decide) (by decide) (by omega) (by omega) fun x28 hx28 => ?_
            refine PW.goto q_152_104 rfl ?_
            refine PW.lvS (lk1 rfl (lk1 rfl (lk1 rfl (lk1 rfl (lk1 rfl (lk1 rfl (lk1 rfl lk0))))))) (ih_L152_35_10 _ ?_ MJ101_26 v27 x28 IMJ101_26 FMJ101_26 (by omega) (by omega) (by omega) (by omega) hbJ101_264 rfl)
            omega
          refine PW.jc_le q_152_76 rfl (fun h25 => ?_) (fun h25 => ?_)
          · skip
            exact PW.lvS (lk1 rfl (lk1 rfl (lk1 rfl (lk1 rfl (lk1 rfl (lk1 rfl (lk1 rfl lk0))))))) (J101_26 M21 v11 IM21 FM21 (by omega) (by omega) ((congrArg (fun e => o_f e 1) (Fr.at GM21 kd_1 (by decide))).trans fx19) fx23 TM21)
          · skip
            refine PW.aload_n q_152_79 rfl ?_
            refine PW.gI q_152_80 (Or.inr t_fN_152_227) gF_9_6 hk_b6 IM21.1 (by decide) fun x29 fx29 hx29 kx29 => ?_
            refine PW.aload_n q_152_83 rfl ?_
            refine PW.gR 1 q_152_84 (Or.inl t_ft_152_10) gF_0_0 kd_0 IM21.1 (by decide) rfl ?_
            refine PW.iload q_152_87 rfl ?_
            refine PW.cV (as := [_]) (rest := [_]) q_152_89 t_mv_152_383 kd_1 IM21.1 (by decide) rfl (by decide) rfl rfl (Nat.le_of_ble_eq_true rfl) (Nat.le_of_ble_eq_true rfl) (by decide) (by decide) ?_
            refine PW.up (by decide) (c_X7_at (gTT) (Stab0) G _ M21 IM21 v11 fun x31 M30 IM30 GM30 hx31 kx31 => ?_)
            have FM30 := Fr.trans FM21 GM30 (rfl)
            refine PW.jc_eq q_152_92 rfl (fun h32 => ?_) (fun h32 => ?_)
            · skip
              refine PW.incN q_152_98 rfl (by decide) (by decide) (by omega) (by omega) fun x33 hx33 => ?_
              exact PW.lvS (lk1 rfl (lk1 rfl (lk1 rfl (lk1 rfl (lk1 rfl (lk1 rfl (lk1 rfl lk0))))))) (J101_26 M30 x33 IM30 FM30 (by omega) (by omega) ((congrArg (fun e => o_f e 1) (Fr.at GM30 kd_1 (by decide))).trans ((congrArg (fun e => o_f e 1) (Fr.at GM21 kd_1 (by decide))).trans fx19)) ((congrArg (fun e => o_f e 3) (Fr.at GM30 hk_b6 (by decide))).trans fx23) (TM21.fr GM30 rfl))
            · skip
              refine PW.iload q_152_95 rfl ?_
              refine PW.rI q_152_97 rfl (by decide) (by decide) ?_
              exact hK v11 M30 IM30 FM30 (TM21.fr GM30 rfl)
    exact PW.lvS (lk1 rfl (lk1 rfl (lk1 rfl (lk1 rfl (lk1 rfl (lk1 rfl (lk1 rfl lk0))))))) (L152_35_10 _ M5 c8 c9 IM5 FM5 (by omega) (by omega) (by omega) (by omega) TM5 rfl)
  · skip
    refine PW.cB q_152_8 (by decide) fun c34 hc34 => ?_
    refine PW.rI q_152_10 rfl (by decide) (by decide) ?_
    exact hK c34 M2 IM2 FM2 (hw.fr GM2 rfl)
theorem c_X11_judge_w (G : pG) (Kr : pK) (M : pM) (I : Iv gTT M) (a1 : Int32) (bw : Nat) (hw : gWb bw M) (hw_0 : bw = 275) (hK : ∀ (x : Int32) (M1 : pM), Iv gTT M1 → Fr [1, 5, 7, 9, 10, 11, 12, 13] M M1 → (gWb bw M1) → Kr.1 (some (.int x)) 311 M1) : PW G false 6 136 (p_mc 136) (p_msl 136) Kr 0 (lv_args 0 [.ref 0, .int a1]) [] 311 M 0 0 := by
  have F : Fr [1, 5, 7, 9, 10, 11, 12, 13] M M := Fr.refl
  refine PW.aload_n q_136_0 rfl ?_
  refine PW.iload_n q_136_1 rfl ?_
  refine PW.cV (as := [_]) (rest := []) q_136_2 t_mv_136_203 kd_0 I.1 (by decide) rfl (by decide) rfl rfl (Nat.le_of_ble_eq_true rfl) (Nat.le_of_ble_eq_true rfl) (by decide) (by decide) ?_
  refine PW.iload_n q_144_0 rfl ?_
  refine PW.jz_lt q_144_1 rfl (fun h1 => ?_) (fun h1 => ?_)
  · skip
    refine PW.cI q_144_22 (by decide) fun c2 hc2 => ?_
    refine PW.rZ q_144_23 rfl (by omega) (by omega) (by decide) (by decide) ?_
    refine PW.jz_eq q_136_5 rfl (fun h3 => ?_) (fun h3 => False.elim (by omega))
    refine PW.cB q_136_16 (by decide) fun c4 hc4 => ?_
    refine PW.istore_n q_136_18 (by decide) ?_
    refine PW.aload_n q_136_19 rfl ?_
    refine PW.gR 1 q_136_20 (Or.inl t_ft_136_10) gF_0_0 kd_0 I.1 (by decide) rfl ?_
    refine PW.cI q_136_23 (by decide) fun c5 hc5 => ?_
    refine PW.pI q_136_24 (Or.inr t_fN_136_73) gF_1_1 gP_1_1 kd_1 Stab0 I (by decide) rfl (by omega) (by omega) fun M6 IM6 fM6 UM6 => ?_
    have FM6 := Fr.pu F UM6.1 kd_1 (rfl : List.contains [1, 5, 7, 9, 10, 11, 12, 13] 1 = true)
    refine PW.iload_n q_136_27 rfl ?_
    refine PW.rI q_136_28 rfl (by decide) (by decide) ?_
    exact hK c4 M6 IM6 FM6 (hw.ar UM6.1 kd_1 (by decide))
  · skip
    refine PW.iload_n q_144_4 rfl ?_
    refine PW.aload_n q_144_5 rfl ?_
    refine PW.gR 3 q_144_6 (Or.inl t_ft_144_19) gF_0_1 kd_0 I.1 (by decide) rfl ?_
    refine PW.gR 4 q_144_9 (Or.inr t_fN_144_94) gF_3_0 kd_3 I.1 (by decide) rfl ?_
    refine PW.gI q_144_12 (Or.inr t_fN_144_249) gF_4_7 kd_4 I.1 (by decide) fun x7 fx7 hx7 kx7 => ?_
    refine PW.jc_ge q_144_15 rfl (fun h8 => ?_) (fun h8 => ?_)
    · skip
      refine PW.cI q_144_22 (by decide) fun c9 hc9 => ?_
      refine PW.rZ q_144_23 rfl (by omega) (by omega) (by decide) (by decide) ?_
      refine PW.jz_eq q_136_5 rfl (fun h10 => ?_) (fun h10 => False.elim (by omega))
      refine PW.cB q_136_16 (by decide) fun c11 hc11 => ?_
      refine PW.istore_n q_136_18 (by decide) ?_
      refine PW.aload_n q_136_19 rfl ?_
      refine PW.gR 1 q_136_20 (Or.inl t_ft_136_10) gF_0_0 kd_0 I.1 (by decide) rfl ?_
      refine PW.cI q_136_23 (by decide) fun c12 hc12 => ?_
      refine PW.pI q_136_24 (Or.inr t_fN_136_73) gF_1_1 gP_1_1 kd_1 Stab0 I (by decide) rfl (by omega) (by omega) fun M13 IM13 fM13 UM13 => ?_
      have FM13 := Fr.pu F UM13.1 kd_1 (rfl : List.contains [1, 5, 7, 9, 10, 11, 12, 13] 1 = true)
      refine PW.iload_n q_136_27 rfl ?_
      refine PW.rI q_136_28 rfl (by decide) (by decide) ?_
      exact hK c11 M13 IM13 FM13 (hw.ar UM13.1 kd_1 (by decide))
    · skip
      refine PW.cI q_144_18 (by decide) fun c14 hc14 => ?_
      refine PW.goto q_144_19 rfl ?_
      refine PW.rZ q_144_23 rfl (by omega) (by omega) (by decide) (by decide) ?_
      refine PW.jz_eq q_136_5 rfl (fun h15 => False.elim (by omega)) (fun h15 => ?_)
      refine PW.aload_n q_136_8 rfl ?_
      refine PW.iload_n q_136_9 rfl ?_
      refine PW.cV (as := [_]) (rest := []) q_136_10 t_mv_136_338 kd_0 I.1 (by decide) rfl (by decide) rfl rfl (Nat.le_of_ble_eq_true rfl) (Nat.le_of_ble_eq_true rfl) (by decide) (by decide) ?_
      refine PW.up (by decide) (c_X11_firstFalseTurn_w G _ M I a1 (by omega) (by omega) bw hw (by omega) fun x17 M16 IM16 GM16 TM16 => ?_)
      have FM16 := Fr.trans F GM16 (rfl)
      refine PW.goto q_136_13 rfl ?_
      refine PW.istore_n q_136_18 (by decide) ?_
      refine PW.aload_n q_136_19 rfl ?_
      refine PW.gR 1 q_136_20 (Or.inl t_ft_136_10) gF_0_0 kd_0 IM16.1 (by decide) rfl ?_
      refine PW.cI q_136_23 (by decide) fun c18 hc18 => ?_
      refine PW.pI q_136_24 (Or.inr t_fN_136_73) gF_1_1 gP_1_1 kd_1 Stab0 IM16 (by decide) rfl (by omega) (by omega) fun M19 IM19 fM19 UM19 => ?_
      have FM19 := Fr.pu FM16 UM19.1 kd_1 (rfl : List.contains [1, 5, 7, 9, 10, 11, 12, 13] 1 = true)
      refine PW.iload_n q_136_27 rfl ?_
      refine PW.rI q_136_28 rfl (by decide) (by decide) ?_
      exact hK x17 M19 IM19 FM19 (TM16.ar UM19.1 kd_1 (by decide))
theorem c_X11_fits_w (G : pG) (Kr : pK) (M : pM) (I : Iv gTT M) (a1 : Int32) (hl_a1 : 0 ≤ a1.toInt) (hh_a1 : a1.toInt ≤ 2) (hp_0 : 0 ≤ gta M 0) (hp_1 : gta M 0 ≤ 5) (bw : Nat) (hw : gWb bw M) (hw_0 : bw = 275) (hK : ∀ (x : Int32) (M1 : pM), Iv gTT M1 → Fr [5, 7, 9, 10, 11, 12, 13] M M1 → 0 ≤ x.toInt → x.toInt ≤ 1 → (gWb bw M1) → Kr.1 (some (.int x)) 311 M1) : PW G false 6 155 (p_mc 155) (p_msl 155) Kr 0 (lv_args 0 [.ref 0, .int a1]) [] 311 M 0 0 := by
  have F : Fr [5, 7, 9, 10, 11, 12, 13] M M := Fr.refl
  refine PW.aload_n q_155_0 rfl ?_
  refine PW.cV (as := []) (rest := []) q_155_1 t_mv_155_399 kd_0 I.1 (by decide) rfl (by decide) rfl rfl (Nat.le_of_ble_eq_true rfl) (Nat.le_of_ble_eq_true rfl) (by decide) (by decide) ?_
  refine PW.up (by decide) (c_X11_foreseenQuiet_w G _ M I bw hw (by omega) fun M1 IM1 GM1 TM1 => ?_)
  have FM1 := Fr.trans F GM1 (rfl)
  have tg2 : gta M1 0 = gta M 0 := gta_F GM1 rfl rfl 0
  refine PW.astore_n q_155_4 (by decide) ?_
  refine PW.aload_n q_155_5 rfl ?_
  refine PW.gR 283 q_155_6 (Or.inr t_fN_155_206) gF_5_4 kd_275 IM1.1 (by decide) rfl ?_
  refine PW.cI q_155_9 (by decide) fun c3 hc3 => ?_
  refine PW.aRk q_155_10 rfl (by decide) (by decide) kd_283 IM1.1 (by decide) (by omega) (by omega) fun b4 hk_b4 e_b4 => ?_
  refine PW.astore_n q_155_11 (by decide) ?_
  refine PW.aload_n q_155_12 rfl ?_
  refine PW.aload_n q_155_13 rfl ?_
  refine PW.gR 1 q_155_14 (Or.inl t_ft_155_10) gF_0_0 kd_0 IM1.1 (by decide) rfl ?_
  refine PW.cI q_155_17 (by decide) fun c5 hc5 => ?_
  refine PW.cV (as := [_]) (rest := [_]) q_155_18 t_mv_155_383 kd_1 IM1.1 (by decide) rfl (by decide) rfl rfl (Nat.le_of_ble_eq_true rfl) (Nat.le_of_ble_eq_true rfl) (by decide) (by decide) ?_
  refine PW.up (by decide) (c_X7_at_v (gTT) (Stab0) G _ M1 IM1 c5 fun x7 M6 IM6 GM6 hx7 kx7 PM6 => ?_)
  have FM6 := Fr.trans FM1 GM6 (rfl)
  have tg8 : gta M6 0 = gta M1 0 := gta_F GM6 rfl rfl 0
  have tq9 : x7.toInt = gta M 0 := by rw [PM6, gta_F FM6 rfl rfl]; congr 1
  refine PW.cV (as := [_]) (rest := []) q_155_21 t_mv_155_402 hk_b4 IM6.1 (by decide) rfl (by decide) rfl rfl (Nat.le_of_ble_eq_true rfl) (Nat.le_of_ble_eq_true rfl) (by decide) (by decide) ?_
  refine PW.up (by decide) (c_X0_sitBy_w (gTT) (Stab0) G _ M6 IM6 b4 hk_b4 x7 (by omega) (by omega) bw (TM1.fr GM6 rfl) fun M10 IM10 GM10 TM10 => ?_)
  have FM10 := Fr.trans FM6 GM10 (rfl)
  have tg11 : gta M10 0 = gta M6 0 := gta_F GM10 rfl rfl 0
  refine PW.cI q_155_24 (by decide) fun c12 hc12 => ?_
  refine PW.istore q_155_25 (by decide) ?_
  have L155_27_13 : ∀ (n : Nat) (ML155_27_13 : pM) (v14 : Int32), Iv (gTT) ML155_27_13 → Fr [5, 7, 9, 10, 11, 12, 13] M ML155_27_13 → 1 ≤ v14.toInt → v14.toInt ≤ 940 → gWb bw ML155_27_13 → (940 - v14.toInt).toNat = n → PW G false 6 155 (p_mc 155) (p_msl 155) Kr 27 [(0, .ref 0), (1, .int a1), (2, .ref 275), (3, .ref b4), (4, .int v14)] [] 311 ML155_27_13 0 0 := by
    intro n
    induction n using Nat.strongRecOn with
    | ind n ih_L155_27_13 =>
    intro ML155_27_13 v14 IML155_27_13 FML155_27_13 hbL155_27_130 hbL155_27_131 hbL155_27_132 hmL155_27_13
    have tg15 : gta ML155_27_13 0 = gta M 0 := gta_F FML155_27_13 rfl rfl 0
    refine PW.iload q_155_27 rfl ?_
    refine PW.aload_n q_155_29 rfl ?_
    refine PW.gR 1 q_155_30 (Or.inl t_ft_155_10) gF_0_0 kd_0 IML155_27_13.1 (by decide) rfl ?_
    refine PW.gI q_155_33 (Or.inr t_fN_155_73) gF_1_1 kd_1 IML155_27_13.1 (by decide) fun x16 fx16 hx16 kx16 => ?_
    refine PW.jc_ge q_155_36 rfl (fun h17 => ?_) (fun h17 => ?_)
    · skip
      refine PW.cI q_155_77 (by decide) fun c18 hc18 => ?_
      refine PW.rZ q_155_78 rfl (by omega) (by omega) (by decide) (by decide) ?_
      exact hK c18 ML155_27_13 IML155_27_13 FML155_27_13 (by omega) (by omega) hbL155_27_132
    · skip
      refine PW.aload_n q_155_39 rfl ?_
      refine PW.aload_n q_155_40 rfl ?_
      refine PW.gR 3 q_155_41 (Or.inl t_ft_155_19) gF_0_1 kd_0 IML155_27_13.1 (by decide) rfl ?_
      refine PW.gR 4 q_155_44 (Or.inr t_fN_155_94) gF_3_0 kd_3 IML155_27_13.1 (by decide) rfl ?_
      refine PW.gI q_155_47 (Or.inr t_fN_155_136) gF_4_6 kd_4 IML155_27_13.1 (by decide) fun x19 fx19 hx19 kx19 => ?_
      refine PW.aload_n q_155_50 rfl ?_
      refine PW.iload_n q_155_51 rfl ?_
      refine PW.iload q_155_52 rfl ?_
      refine PW.cV (as := [_, _, _, _]) (rest := []) q_155_54 t_mv_155_405 kd_275 IML155_27_13.1 (by decide) rfl (by decide) rfl rfl (Nat.le_of_ble_eq_true rfl) (Nat.le_of_ble_eq_true rfl) (by decide) (by decide) ?_
      refine PW.up (by decide) (c_X5_leap_w (gTT) (Stab0) G _ ML155_27_13 IML155_27_13 275 kd_275 x19 b4 hk_b4 a1 v14 (by omega) (by omega) bw hbL155_27_132 (by omega) fun x21 M20 IM20 GM20 TM20 => ?_)
      have FM20 := Fr.trans FML155_27_13 GM20 (rfl)
      have tg22 : gta M20 0 = gta ML155_27_13 0 := gta_F GM20 rfl rfl 0
      refine PW.aload_n q_155_57 rfl ?_
      refine PW.gR 1 q_155_58 (Or.inl t_ft_155_10) gF_0_0 kd_0 IM20.1 (by decide) rfl ?_
      refine PW.iload q_155_61 rfl ?_
      refine PW.cV (as := [_]) (rest := [_]) q_155_63 t_mv_155_383 kd_1 IM20.1 (by decide) rfl (by decide) rfl rfl (Nat.le_of_ble_eq_true rfl) (Nat.le_of_ble_eq_true rfl) (by decide) (by decide) ?_
      refine PW.up (by decide) (c_X7_at_v (gTT) (Stab0) G _ M20 IM20 v14 fun x24 M23 IM23 GM23 hx24 kx24 PM23 => ?_)
      have FM23 := Fr.trans FM20 GM23 (rfl)
      have tg25 : gta M23 0 = gta M20 0 := gta_F GM23 rfl rfl 0
      refine PW.jc_eq q_155_66 rfl (fun h26 => ?_) (fun h26 => ?_)
      · skip
        refine PW.incN q_155_71 rfl (by decide) (by decide) (by omega) (by omega) fun x27 hx27 => ?_
        refine PW.goto q_155_74 rfl ?_
        refine PW.lvS (lk1 rfl (lk1 rfl (lk1 rfl (lk1 rfl (lk1 rfl lk0))))) (ih_L155_27_13 _ ?_ M23 x27 IM23 FM23 (by omega) (by omega) (TM20.fr GM23 rfl) rfl)
        omega
      · skip
        refine PW.cI q_155_69 (by decide) fun c28 hc28 => ?_
        refine PW.rZ q_155_70 rfl (by omega) (by omega) (by decide) (by decide) ?_
        exact hK c28 M23 IM23 FM23 (by omega) (by omega) (TM20.fr GM23 rfl)
  exact PW.lvS (lk1 rfl (lk1 rfl (lk1 rfl (lk1 rfl (lk1 rfl lk0))))) (L155_27_13 _ M10 c12 IM10 FM10 (by omega) (by omega) TM10 rfl)
theorem c_X11_fittingLaws_w (G : pG) (Kr : pK) (M : pM) (I : Iv gTT M) (hp_0 : 0 ≤ gta M 0) (hp_1 : gta M 0 ≤ 5) (bw : Nat) (hw : gWb bw M) (hw_0 : bw = 275) (hK : ∀ (x : Int32) (M1 : pM), Iv gTT M1 → Fr [5, 7, 9, 10, 11, 12, 13] M M1 → (gWb bw M1) → Kr.1 (some (.int x)) 311 M1) : PW G false 7 154 (p_mc 154) (p_msl 154) Kr 0 (lv_args 0 [.ref 0]) [] 311 M 0 0 := by
  have F : Fr [5, 7, 9, 10, 11, 12, 13] M M := Fr.refl
  refine PW.cI q_154_0 (by decide) fun c1 hc1 => ?_
  refine PW.istore_n q_154_1 (by decide) ?_
  refine PW.aload_n q_154_2 rfl ?_
  refine PW.cI q_154_3 (by decide) fun c2 hc2 => ?_
  refine PW.cV (as := [_]) (rest := []) q_154_4 t_mv_154_396 kd_0 I.1 (by decide) rfl (by decide) rfl rfl (Nat.le_of_ble_eq_true rfl) (Nat.le_of_ble_eq_true rfl) (by decide) (by decide) ?_
  refine PW.up (by decide) (c_X11_fits_w G _ M I c2 (by omega) (by omega) (by omega) (by omega) bw hw (by omega) fun x4 M3 IM3 GM3 hx4 kx4 TM3 => ?_)
  have FM3 := Fr.trans F GM3 (rfl)
  have tg5 : gta M3 0 = gta M 0 := gta_F GM3 rfl rfl 0
  have J14_7 : ∀ (MJ14_7 : pM) (v8 : Int32), Iv (gTT) MJ14_7 → Fr [5, 7, 9, 10, 11, 12, 13] M MJ14_7 → gWb bw MJ14_7 → PW G false 7 154 (p_mc 154) (p_msl 154) Kr 14 [(0, .ref 0), (1, .int v8)] [] 311 MJ14_7 0 0 := by
    intro MJ14_7 v8 IMJ14_7 FMJ14_7 hbJ14_70
    have tg9 : gta MJ14_7 0 = gta M 0 := gta_F FMJ14_7 rfl rfl 0
    refine PW.aload_n q_154_14 rfl ?_
    refine PW.cI q_154_15 (by decide) fun c10 hc10 => ?_
    refine PW.cV (as := [_]) (rest := []) q_154_16 t_mv_154_396 kd_0 IMJ14_7.1 (by decide) rfl (by decide) rfl rfl (Nat.le_of_ble_eq_true rfl) (Nat.le_of_ble_eq_true rfl) (by decide) (by decide) ?_
    refine PW.up (by decide) (c_X11_fits_w G _ MJ14_7 IMJ14_7 c10 (by omega) (by omega) (by omega) (by omega) bw hbJ14_70 (by omega) fun x12 M11 IM11 GM11 hx12 kx12 TM11 => ?_)
    have FM11 := Fr.trans FMJ14_7 GM11 (rfl)
    have tg13 : gta M11 0 = gta MJ14_7 0 := gta_F GM11 rfl rfl 0
    have J26_15 : ∀ (MJ26_15 : pM) (v16 : Int32), Iv (gTT) MJ26_15 → Fr [5, 7, 9, 10, 11, 12, 13] M MJ26_15 → gWb bw MJ26_15 → PW G false 7 154 (p_mc 154) (p_msl 154) Kr 26 [(0, .ref 0), (1, .int v16)] [] 311 MJ26_15 0 0 := by
      intro MJ26_15 v16 IMJ26_15 FMJ26_15 hbJ26_150
      have tg17 : gta MJ26_15 0 = gta M 0 := gta_F FMJ26_15 rfl rfl 0
      refine PW.aload_n q_154_26 rfl ?_
      refine PW.cI q_154_27 (by decide) fun c18 hc18 => ?_
      refine PW.cV (as := [_]) (rest := []) q_154_28 t_mv_154_396 kd_0 IMJ26_15.1 (by decide) rfl (by decide) rfl rfl (Nat.le_of_ble_eq_true rfl) (Nat.le_of_ble_eq_true rfl) (by decide) (by decide) ?_
      refine PW.up (by decide) (c_X11_fits_w G _ MJ26_15 IMJ26_15 c18 (by omega) (by omega) (by omega) (by omega) bw hbJ26_150 (by omega) fun x20 M19 IM19 GM19 hx20 kx20 TM19 => ?_)
      have FM19 := Fr.trans FMJ26_15 GM19 (rfl)
      have tg21 : gta M19 0 = gta MJ26_15 0 := gta_F GM19 rfl rfl 0
      refine PW.jz_eq q_154_31 rfl (fun h22 => ?_) (fun h22 => ?_)
      · skip
        refine PW.iload_n q_154_38 rfl ?_
        refine PW.rI q_154_39 rfl (by decide) (by decide) ?_
        exact hK v16 M19 IM19 FM19 TM19
      · skip
        refine PW.iload_n q_154_34 rfl ?_
        refine PW.cI q_154_35 (by decide) fun c23 hc23 => ?_
        refine PW.orH q_154_36 fun x24 => ?_
        refine PW.istore_n q_154_37 (by decide) ?_
        refine PW.iload_n q_154_38 rfl ?_
        refine PW.rI q_154_39 rfl (by decide) (by decide) ?_
        exact hK x24 M19 IM19 FM19 TM19
    refine PW.jz_eq q_154_19 rfl (fun h14 => ?_) (fun h14 => ?_)
    · skip
      exact PW.lvS (lk1 rfl (lk1 rfl lk0)) (J26_15 M11 v8 IM11 FM11 TM11)
    · skip
      refine PW.iload_n q_154_22 rfl ?_
      refine PW.cI q_154_23 (by decide) fun c25 hc25 => ?_
      refine PW.orH q_154_24 fun x26 => ?_
      refine PW.istore_n q_154_25 (by decide) ?_
      exact PW.lvS (lk1 rfl (lk1 rfl lk0)) (J26_15 M11 x26 IM11 FM11 TM11)
  refine PW.jz_eq q_154_7 rfl (fun h6 => ?_) (fun h6 => ?_)
  · skip
    exact PW.lvS (lk1 rfl (lk1 rfl lk0)) (J14_7 M3 c1 IM3 FM3 TM3)
  · skip
    refine PW.iload_n q_154_10 rfl ?_
    refine PW.cI q_154_11 (by decide) fun c27 hc27 => ?_
    refine PW.orH q_154_12 fun x28 => ?_
    refine PW.istore_n q_154_13 (by decide) ?_
    exact PW.lvS (lk1 rfl (lk1 rfl lk0)) (J14_7 M3 x28 IM3 FM3 TM3)
theorem c_X11_laws_w (G : pG) (Kr : pK) (M : pM) (I : Iv gTT M) (bw : Nat) (hw : gWb bw M) (hw_0 : bw = 275) (hK : ∀ (x : Int32) (M1 : pM), Iv gTT M1 → Fr [1, 5, 7, 9, 10, 11, 12, 13] M M1 → (gWb bw M1) → Kr.1 (some (.int x)) 311 M1) : PW G false 8 137 (p_mc 137) (p_msl 137) Kr 0 (lv_args 0 [.ref 0]) [] 311 M 0 0 := by
  have F : Fr [1, 5, 7, 9, 10, 11, 12, 13] M M := Fr.refl
  refine PW.aload_n q_137_0 rfl ?_
  refine PW.cV (as := []) (rest := []) q_137_1 t_mv_137_341 kd_0 I.1 (by decide) rfl (by decide) rfl rfl (Nat.le_of_ble_eq_true rfl) (Nat.le_of_ble_eq_true rfl) (by decide) (by decide) ?_
  refine PW.up (by decide) (c_X11_areTurns G _ M I  fun x2 M1 IM1 GM1 hx2 kx2 PM1 => ?_)
  have FM1 := Fr.trans F GM1 (rfl)
  have tg3 : gta M1 0 = gta M 0 := gta_F GM1 rfl rfl 0
  have J15_5 : ∀ (MJ15_5 : pM) (s6 : Int32), Iv (gTT) MJ15_5 → Fr [1, 5, 7, 9, 10, 11, 12, 13] M MJ15_5 → gWb bw MJ15_5 → PW G false 8 137 (p_mc 137) (p_msl 137) Kr 15 [(0, .ref 0)] [.int s6] 311 MJ15_5 0 0 := by
    intro MJ15_5 s6 IMJ15_5 FMJ15_5 hbJ15_50
    refine PW.istore_n q_137_15 (by decide) ?_
    refine PW.aload_n q_137_16 rfl ?_
    refine PW.gR 1 q_137_17 (Or.inl t_ft_137_10) gF_0_0 kd_0 IMJ15_5.1 (by decide) rfl ?_
    refine PW.cI q_137_20 (by decide) fun c7 hc7 => ?_
    refine PW.pI q_137_21 (Or.inr t_fN_137_73) gF_1_1 gP_1_1 kd_1 Stab0 IMJ15_5 (by decide) rfl (by omega) (by omega) fun M8 IM8 fM8 UM8 => ?_
    have FM8 := Fr.pu FMJ15_5 UM8.1 kd_1 (rfl : List.contains [1, 5, 7, 9, 10, 11, 12, 13] 1 = true)
    refine PW.iload_n q_137_24 rfl ?_
    refine PW.rI q_137_25 rfl (by decide) (by decide) ?_
    exact hK s6 M8 IM8 FM8 (hbJ15_50.ar UM8.1 kd_1 (by decide))
  refine PW.jz_eq q_137_4 rfl (fun h4 => ?_) (fun h4 => ?_)
  · skip
    refine PW.cI q_137_14 (by decide) fun c9 hc9 => ?_
    exact PW.lvS (lk1 rfl lk0) (J15_5 M1 c9 IM1 FM1 (hw.fr GM1 rfl))
  · skip
    refine PW.aload_n q_137_7 rfl ?_
    refine PW.cV (as := []) (rest := []) q_137_8 t_mv_137_345 kd_0 IM1.1 (by decide) rfl (by decide) rfl rfl (Nat.le_of_ble_eq_true rfl) (Nat.le_of_ble_eq_true rfl) (by decide) (by decide) ?_
    refine PW.up (by decide) (c_X11_fittingLaws_w G _ M1 IM1 (by omega) (by omega) bw (hw.fr GM1 rfl) (by omega) fun x11 M10 IM10 GM10 TM10 => ?_)
    have FM10 := Fr.trans FM1 GM10 (rfl)
    have tg12 : gta M10 0 = gta M1 0 := gta_F GM10 rfl rfl 0
    refine PW.goto q_137_11 rfl ?_
    exact PW.lvS (lk1 rfl lk0) (J15_5 M10 x11 IM10 FM10 TM10)
