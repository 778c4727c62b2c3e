/-- FAULT and length stayed -/
def gf2 (M1 M : pM) : Prop := o_i (M1 294) 15 = o_i (M 294) 15 ∧ o_i (M1 294) 2 = o_i (M 294) 2
theorem gf2.refl {M : pM} : gf2 M M := ⟨rfl, rfl⟩
theorem gf2.cg {M M1 M2 : pM} (h : gf2 M1 M) (e : M2 294 = M1 294) : gf2 M2 M := by unfold gf2; rw [e]; exact h
theorem gf2.pu {M M1 M2 : pM} {f : Nat} (h : gf2 M1 M) (U : gU M1 M2 294 f) (hf : (15 : Nat) ≠ f) (h2 : (2 : Nat) ≠ f) : gf2 M2 M := ⟨(U.i (c := 294) (k := 15) (Or.inr hf)).trans h.1, (U.i (c := 294) (k := 2) (Or.inr h2)).trans h.2⟩
/-- the names that an image keeps -/
def gkn (M M1 : pM) (a : Nat) (i : Int) : Prop := (∀ z : Nat, (z : Int) < i → o_l (M1 308) (8 * a + z) = o_l (M 299) z) ∧ ∀ z : Nat, (z < 8 * a ∨ 8 * a + 8 ≤ z) → o_l (M1 308) z = o_l (M 308) z
theorem gkn.zero {M M1 : pM} {a : Nat} {i : Int} (e : M1 308 = M 308) (h : i ≤ 0) : gkn M M1 a i := ⟨fun z hz => by omega, fun z _ => by rw [e]⟩
theorem gkn.cg {M M1 M2 : pM} {a : Nat} {i : Int} (h : gkn M M1 a i) (e : M2 308 = M1 308) : gkn M M2 a i := by unfold gkn; rw [e]; exact h
theorem gkn.st {M M1 M2 : pM} {a q j : Nat} {i i' : Int} {l : Int64} (h : gkn M M1 a i) (U : gVl M1 M2 308 q) (f : o_l (M2 308) q = l) (fl : o_l (M1 299) j = l) (e9 : M1 299 = M 299) (hq : (q : Int) = 8 * a + i) (hj : (j : Int) = i) (h0 : 0 ≤ i) (h7 : i < 8) (hi : i' = i + 1) : gkn M M2 a i' := by
  refine ⟨fun z hz => ?_, fun z hz => ?_⟩
  · by_cases w : 8 * a + z = q
    · rw [w, f, ← fl, e9, show j = z from by omega]
    · rw [U.2 _ w]; exact h.1 z (by omega)
  · rw [U.2 z (by omega)]; exact h.2 z hz
def gIRn (M M1 : pM) (a : Int) : Prop := ((a < 0 ∨ 1 < a) ∧ M1 308 = M 308) ∨ (0 ≤ a ∧ a ≤ 1 ∧ gkn M M1 a.toNat 8)
/-- the names that an image gives back -/
def grn (M M1 : pM) (a : Nat) (i : Int) : Prop := ∀ z : Nat, (z : Int) < i → o_l (M1 299) z = o_l (M 308) (8 * a + z)
theorem grn.cg {M M1 M2 : pM} {a : Nat} {i : Int} (h : grn M M1 a i) (e : M2 299 = M1 299) : grn M M2 a i := by unfold grn; rw [e]; exact h
theorem grn.st {M M1 M2 : pM} {a q j : Nat} {i i' : Int} {l : Int64} (h : grn M M1 a i) (U : gVl M1 M2 299 q) (f : o_l (M2 299) q = l) (fl : o_l (M1 308) j = l) (e8 : M1 308 = M 308) (hq : (q : Int) = i) (hj : (j : Int) = 8 * a + i) (h0 : 0 ≤ i) (hi : i' = i + 1) : grn M M2 a i' := fun z hz => by
  by_cases w : z = q
  · rw [w, f, ← fl, e8, show j = 8 * a + q from by omega]
  · rw [U.2 z w]; exact h z (by omega)
def gRRn (M M1 : pM) (a x : Int) : Prop := (x = 0 ∧ M1 299 = M 299) ∨ (x = 1 ∧ grn M M1 a.toNat 8)
theorem c_X12_image_vkn (G : pG) (Kr : pK) (M : pM) (I : Iv gTT M) (a1 : Int32) (hK : ∀ (x : Int32) (M1 : pM), Iv gTT M1 → Fr [40, 53, 54, 55] M M1 → 0 ≤ x.toInt → x.toInt ≤ 1 → (gIR M M1 a1.toInt x.toInt ∧ gIRn M M1 a1.toInt ∧ gf2 M1 M) → Kr.1 (some (.int x)) 311 M1) : PW G false 1 272 (p_mc 272) (p_msl 272) Kr 0 (lv_args 0 [.ref 294, .int a1]) [] 311 M 0 0 := by
  have F : Fr [40, 53, 54, 55] M M := Fr.refl
  refine PW.aload_n q_272_0 rfl ?_
  refine PW.cI q_272_1 (by decide) fun c1 hc1 => ?_
  refine PW.pI q_272_2 (Or.inl t_ft_272_1) gF_40_0 gP_40_0 kd_294 Stab0 I (by decide) rfl (n_lo _) (n_hi _) fun M2 IM2 fM2 UM2 => ?_
  have FM2 := Fr.pu F UM2.1 kd_294 (rfl : List.contains [40, 53, 54, 55] 40 = true)
  refine PW.iload_n q_272_5 rfl ?_
  refine PW.cI q_272_6 (by decide) fun c3 hc3 => ?_
  refine PW.cI q_272_7 (by decide) fun c4 hc4 => ?_
  refine PW.callS (as := [_, _, _]) (rest := []) q_272_8 t_ms_272_176 (by decide) rfl (Nat.le_of_ble_eq_true rfl) (Nat.le_of_ble_eq_true rfl) (by decide) (by decide) ?_
  refine PW.up (by decide) (c_X12_isIn_vk (gTT) (Stab0) G _ M2 IM2 a1 c3 c4 fun x6  hx6 kx6 PM5 => ?_)
  rcases PM5 with ⟨PaM5, PbM5, PcM5⟩ | ⟨PaM5, PbM5⟩
  · skip
    refine PW.jz_ne q_272_11 rfl (fun h7 => ?_) (fun h7 => False.elim (by omega))
    have X8 : Iv (gX 307) M2 := ⟨IM2.1, gX.of IM2.2⟩
    refine PW.cI q_272_16 (by decide) fun c9 hc9 => ?_
    refine PW.istore_n q_272_17 (by decide) ?_
    have L272_18_10 : ∀ (n : Nat) (ML272_18_10 : pM) (v11 : Int32), Iv (gX 307) ML272_18_10 → Fr [40, 53, 54, 55] M ML272_18_10 → 0 ≤ v11.toInt → v11.toInt ≤ 397 → gkw ML272_18_10 a1.toInt.toNat → gcp ML272_18_10 307 (397 * a1.toInt.toNat) 296 0 v11.toInt → ML272_18_10 309 = M 309 → gko M ML272_18_10 a1.toInt.toNat → ML272_18_10 308 = M 308 → gf2 ML272_18_10 M → (397 - v11.toInt).toNat = n → PW G false 1 272 (p_mc 272) (p_msl 272) Kr 18 [(0, .ref 294), (1, .int a1), (2, .int v11)] [] 311 ML272_18_10 0 0 := by
      intro n
      induction n using Nat.strongRecOn with
      | ind n ih_L272_18_10 =>
      intro ML272_18_10 v11 IML272_18_10 FML272_18_10 hbL272_18_100 hbL272_18_101 hbL272_18_102 hbL272_18_103 hbL272_18_104 hbL272_18_105 hbL272_18_106 hbL272_18_107 hmL272_18_10
      refine PW.iload_n q_272_18 rfl ?_
      refine PW.cS q_272_19 (by decide) fun c12 hc12 => ?_
      refine PW.jc_ge q_272_22 rfl (fun h13 => ?_) (fun h13 => ?_)
      · skip
        have X14 : Iv gTT ML272_18_10 := ⟨IML272_18_10.1, gX.e307 IML272_18_10.2 (gkw.all hbL272_18_102 (g_sa_c (g_216 IML272_18_10.1) (fun z hz => (hbL272_18_103 z (by omega)).trans (by rw [Nat.zero_add])) (IML272_18_10.2.2.1 (by decide))))⟩
        refine PW.cI q_272_49 (by decide) fun c15 hc15 => ?_
        refine PW.istore_n q_272_50 (by decide) ?_
        have L272_51_16 : ∀ (n : Nat) (ML272_51_16 : pM) (v17 : Int32), Iv (gTT) ML272_51_16 → Fr [40, 53, 54, 55] M ML272_51_16 → 0 ≤ v17.toInt → v17.toInt ≤ 8 → ML272_51_16 309 = M 309 → gi5 M ML272_51_16 a1.toInt.toNat → gkn M ML272_51_16 a1.toInt.toNat v17.toInt → gf2 ML272_51_16 M → (8 - v17.toInt).toNat = n → PW G false 1 272 (p_mc 272) (p_msl 272) Kr 51 [(0, .ref 294), (1, .int a1), (2, .int v17)] [] 311 ML272_51_16 0 0 := by
          intro n
          induction n using Nat.strongRecOn with
          | ind n ih_L272_51_16 =>
          intro ML272_51_16 v17 IML272_51_16 FML272_51_16 hbL272_51_160 hbL272_51_161 hbL272_51_162 hbL272_51_163 hbL272_51_164 hbL272_51_165 hmL272_51_16
          refine PW.iload_n q_272_51 rfl ?_
          refine PW.cB q_272_52 (by decide) fun c18 hc18 => ?_
          refine PW.jc_ge q_272_54 rfl (fun h19 => ?_) (fun h19 => ?_)
          · skip
            refine PW.aload_n q_272_80 rfl ?_
            refine PW.gR 309 q_272_81 (Or.inl t_ft_272_75) gF_40_41 kd_294 IML272_51_16.1 (by decide) rfl ?_
            refine PW.iload_n q_272_84 rfl ?_
            refine PW.cI q_272_85 (by decide) fun c20 hc20 => ?_
            refine PW.wZ q_272_86 gA_55 kd_309 Stab0 IML272_51_16 (by decide) rfl gC_55_0_1 (by omega) (by omega) (by omega) (by omega) fun M21 IM21 fM21 UM21 => ?_
            have FM21 := Fr.pu FML272_51_16 UM21.1 kd_309 (rfl : List.contains [40, 53, 54, 55] 55 = true)
            refine PW.cI q_272_87 (by decide) fun c22 hc22 => ?_
            refine PW.rZ q_272_88 rfl (by omega) (by omega) (by decide) (by decide) ?_
            have k8 := (hbL272_51_164.cg (UM21.1 _ (g_ne kd_308 kd_309 (by decide)))); rw [show v17.toInt = 8 from by omega] at k8
            exact hK c22 M21 IM21 FM21 (by omega) (by omega) ⟨Or.inr ⟨by omega, by omega, by omega, by rw [fM21]; omega, fun z hz => (UM21.2 z hz).trans (congrFun (congrArg o_a hbL272_51_162) z), (hbL272_51_163.cg (UM21.1 _ (g_ne kd_307 kd_309 (by decide))))⟩, Or.inr ⟨by omega, by omega, k8⟩, (hbL272_51_165.cg (UM21.1 294 (by decide)))⟩
          · skip
            refine PW.aload_n q_272_57 rfl ?_
            refine PW.gR 308 q_272_58 (Or.inl t_ft_272_72) gF_40_40 kd_294 IML272_51_16.1 (by decide) rfl ?_
            refine PW.cB q_272_61 (by decide) fun c23 hc23 => ?_
            refine PW.iload_n q_272_63 rfl ?_
            refine PW.mulN q_272_64 (8) (by omega) a1 (fun h => n_eq.mpr (by omega)) (fun h => n_eq.mpr (by omega)) (by omega) (by omega) fun x24 hx24 => ?_
            refine PW.iload_n q_272_65 rfl ?_
            refine PW.addN q_272_66 (by omega) (by omega) fun x25 hx25 => ?_
            refine PW.aload_n q_272_67 rfl ?_
            refine PW.gR 299 q_272_68 (Or.inl t_ft_272_43) gF_40_9 kd_294 IML272_51_16.1 (by decide) rfl ?_
            refine PW.iload_n q_272_71 rfl ?_
            refine PW.aL q_272_72 rfl kd_299 IML272_51_16.1 (by decide) (by omega) (by omega) fun l26 fl26 => ?_
            refine PW.wLX q_272_73 rfl kd_308 Stab0 IML272_51_16 (by decide) rfl (by omega) (by omega) fun M27 IM27 fM27 UM27 => ?_
            have FM27 := Fr.pu FML272_51_16 UM27.1 kd_308 (rfl : List.contains [40, 53, 54, 55] 54 = true)
            refine PW.incN q_272_74 rfl (by decide) (by decide) (by omega) (by omega) fun x28 hx28 => ?_
            refine PW.goto q_272_77 rfl ?_
            refine PW.lvS (lk1 rfl (lk1 rfl (lk1 rfl lk0))) (ih_L272_51_16 _ ?_ M27 x28 IM27 FM27 (by omega) (by omega) ((UM27.1 _ (g_ne kd_309 kd_308 (by decide))).trans hbL272_51_162) (hbL272_51_163.cg (UM27.1 _ (g_ne kd_307 kd_308 (by decide)))) (gkn.st (i := v17.toInt) hbL272_51_164 UM27 fM27 fl26 (Fr.at FML272_51_16 kd_299 rfl) (by omega) (by omega) (by omega) (by omega) (by omega)) (hbL272_51_165.cg (UM27.1 294 (by decide))) rfl)
            omega
        exact PW.lvS (lk1 rfl (lk1 rfl (lk1 rfl lk0))) (L272_51_16 _ ML272_18_10 c15 X14 FML272_18_10 (by omega) (by omega) hbL272_18_104 (gi5.of hbL272_18_103 (by omega) (Fr.at FML272_18_10 kd_296 rfl) hbL272_18_105) (gkn.zero hbL272_18_106 (by omega)) hbL272_18_107 rfl)
      · skip
        refine PW.aload_n q_272_25 rfl ?_
        refine PW.gR 307 q_272_26 (Or.inl t_ft_272_69) gF_40_39 kd_294 IML272_18_10.1 (by decide) rfl ?_
        refine PW.cS q_272_29 (by decide) fun c29 hc29 => ?_
        refine PW.iload_n q_272_32 rfl ?_
        refine PW.mulN q_272_33 (397) (by omega) a1 (fun h => n_eq.mpr (by omega)) (fun h => n_eq.mpr (by omega)) (by omega) (by omega) fun x30 hx30 => ?_
        refine PW.iload_n q_272_34 rfl ?_
        refine PW.addN q_272_35 (by omega) (by omega) fun x31 hx31 => ?_
        refine PW.aload_n q_272_36 rfl ?_
        refine PW.gR 296 q_272_37 (Or.inl t_ft_272_33) gF_40_6 kd_294 IML272_18_10.1 (by decide) rfl ?_
        refine PW.iload_n q_272_40 rfl ?_
        refine PW.aH q_272_41 gA_42 kd_296 IML272_18_10.1 (by decide) (by omega) (by omega) fun x32 fx32 => ?_
        have bsM33 := (InvB.arr IML272_18_10.1 kd_296 (by decide) gA_42).2.2 v11.toInt.toNat (by omega)
        rw [fx32] at bsM33
        refine PW.wB q_272_42 gA_53 kd_307 IML272_18_10.1 (by decide) (by omega) (by omega) (by rw [as53 (j := v11.toInt.toNat) a1.toInt.toNat (by omega) (by omega)]; exact bsM33) fun M33 JM33 fM33 UM33 => ?_
        have IM33 : Iv (gX 307) M33 := ⟨JM33, gX.up IML272_18_10.2 UM33.1 (by decide)⟩
        have FM33 := Fr.pu FML272_18_10 UM33.1 kd_307 (rfl : List.contains [40, 53, 54, 55] 53 = true)
        refine PW.incN q_272_43 rfl (by decide) (by decide) (by omega) (by omega) fun x34 hx34 => ?_
        refine PW.goto q_272_46 rfl ?_
        refine PW.lvS (lk1 rfl (lk1 rfl (lk1 rfl lk0))) (ih_L272_18_10 _ ?_ M33 x34 IM33 FM33 (by omega) (by omega) (gkw.step v11.toInt.toNat IML272_18_10.1 hbL272_18_102 UM33 (by omega) (by omega)) (gcp.step hbL272_18_103 UM33 (by omega) (by decide) fM33 (by omega) fx32 (by omega) (by omega)) ((UM33.1 309 (by decide)).trans hbL272_18_104) (gko.step (i := v11.toInt) hbL272_18_105 UM33 (by omega) (by omega) (by omega)) ((UM33.1 308 (by decide)).trans hbL272_18_106) (hbL272_18_107.cg (UM33.1 294 (by decide))) rfl)
        omega
    exact PW.lvS (lk1 rfl (lk1 rfl (lk1 rfl lk0))) (L272_18_10 _ M2 c9 X8 FM2 (by omega) (by omega) (gkw.of IM2.2) (gcp.zero (by omega)) (UM2.1 _ (g_ne kd_309 kd_294 (by decide))) (fun z _ => congrFun (congrArg o_a (UM2.1 _ (g_ne kd_307 kd_294 (by decide)))) z) (UM2.1 _ (g_ne kd_308 kd_294 (by decide))) (gf2.refl.pu UM2 (by decide) (by decide)) rfl)
  · skip
    refine PW.jz_ne q_272_11 rfl (fun h35 => False.elim (by omega)) (fun h35 => ?_)
    refine PW.cI q_272_14 (by decide) fun c36 hc36 => ?_
    refine PW.rZ q_272_15 rfl (by omega) (by omega) (by decide) (by decide) ?_
    exact hK c36 M2 IM2 FM2 (by omega) (by omega) ⟨Or.inl ⟨by omega, by omega, (UM2.1 _ (g_ne kd_309 kd_294 (by decide))), (UM2.1 _ (g_ne kd_307 kd_294 (by decide)))⟩, Or.inl ⟨by omega, (UM2.1 _ (g_ne kd_308 kd_294 (by decide)))⟩, (gf2.refl.pu UM2 (by decide) (by decide))⟩
theorem c_X12_restore_vkn (G : pG) (Kr : pK) (M : pM) (I : Iv gTT M) (a1 : Int32) (hK : ∀ (x : Int32) (M1 : pM), Iv gTT M1 → Fr [40, 42, 45] M M1 → 0 ≤ x.toInt → x.toInt ≤ 1 → (gRR M M1 a1.toInt x.toInt ∧ gRRn M M1 a1.toInt x.toInt ∧ gf2 M1 M) → Kr.1 (some (.int x)) 311 M1) : PW G false 1 273 (p_mc 273) (p_msl 273) Kr 0 (lv_args 0 [.ref 294, .int a1]) [] 311 M 0 0 := by
  have F : Fr [40, 42, 45] M M := Fr.refl
  refine PW.aload_n q_273_0 rfl ?_
  refine PW.cI q_273_1 (by decide) fun c1 hc1 => ?_
  refine PW.pI q_273_2 (Or.inl t_ft_273_1) gF_40_0 gP_40_0 kd_294 Stab0 I (by decide) rfl (n_lo _) (n_hi _) fun M2 IM2 fM2 UM2 => ?_
  have FM2 := Fr.pu F UM2.1 kd_294 (rfl : List.contains [40, 42, 45] 40 = true)
  refine PW.iload_n q_273_5 rfl ?_
  refine PW.cI q_273_6 (by decide) fun c3 hc3 => ?_
  refine PW.cI q_273_7 (by decide) fun c4 hc4 => ?_
  refine PW.callS (as := [_, _, _]) (rest := []) q_273_8 t_ms_273_176 (by decide) rfl (Nat.le_of_ble_eq_true rfl) (Nat.le_of_ble_eq_true rfl) (by decide) (by decide) ?_
  refine PW.up (by decide) (c_X12_isIn_vk (gTT) (Stab0) G _ M2 IM2 a1 c3 c4 fun x6  hx6 kx6 PM5 => ?_)
  rcases PM5 with ⟨PaM5, PbM5, PcM5⟩ | ⟨PaM5, PbM5⟩
  · skip
    refine PW.jz_eq q_273_11 rfl (fun h7 => False.elim (by omega)) (fun h7 => ?_)
    refine PW.aload_n q_273_14 rfl ?_
    refine PW.gR 309 q_273_15 (Or.inl t_ft_273_75) gF_40_41 kd_294 IM2.1 (by decide) rfl ?_
    refine PW.iload_n q_273_18 rfl ?_
    refine PW.aZ q_273_19 gA_55 kd_309 IM2.1 (by decide) gB_55_0_1 (by omega) (by omega) fun x8 fx8 hx8 kx8 => ?_
    have tb9 : (o_a (M 309) a1.toInt.toNat).toInt = x8.toInt := by rw [← (congrArg o_a (UM2.1 309 (by decide))), fx8]
    refine PW.jz_ne q_273_20 rfl (fun h10 => ?_) (fun h10 => ?_)
    · skip
      have X11 : Iv (gX 296) M2 := ⟨IM2.1, gX.of IM2.2⟩
      refine PW.cI q_273_25 (by decide) fun c12 hc12 => ?_
      refine PW.istore_n q_273_26 (by decide) ?_
      have L273_27_13 : ∀ (n : Nat) (ML273_27_13 : pM) (v14 : Int32), Iv (gX 296) ML273_27_13 → Fr [40, 42, 45] M ML273_27_13 → 0 ≤ v14.toInt → v14.toInt ≤ 397 → gcp ML273_27_13 296 0 307 (397 * a1.toInt.toNat) v14.toInt → ML273_27_13 299 = M 299 → gf2 ML273_27_13 M → (397 - v14.toInt).toNat = n → PW G false 1 273 (p_mc 273) (p_msl 273) Kr 27 [(0, .ref 294), (1, .int a1), (2, .int v14)] [] 311 ML273_27_13 0 0 := by
        intro n
        induction n using Nat.strongRecOn with
        | ind n ih_L273_27_13 =>
        intro ML273_27_13 v14 IML273_27_13 FML273_27_13 hbL273_27_130 hbL273_27_131 hbL273_27_132 hbL273_27_133 hbL273_27_134 hmL273_27_13
        refine PW.iload_n q_273_27 rfl ?_
        refine PW.cS q_273_28 (by decide) fun c15 hc15 => ?_
        refine PW.jc_ge q_273_31 rfl (fun h16 => ?_) (fun h16 => ?_)
        · skip
          have X17 : Iv gTT ML273_27_13 := ⟨IML273_27_13.1, gX.e296 IML273_27_13.2 (g_sa_c (g_216' IML273_27_13.1 (u := a1.toInt.toNat) (by omega)) (fun z hz => by have w := hbL273_27_132 z (by omega); rw [Nat.zero_add] at w; exact w) (IML273_27_13.2.2.2.2.2 (by decide) _ (by omega)))⟩
          refine PW.cI q_273_58 (by decide) fun c18 hc18 => ?_
          refine PW.istore_n q_273_59 (by decide) ?_
          have L273_60_19 : ∀ (n : Nat) (ML273_60_19 : pM) (v20 : Int32), Iv (gTT) ML273_60_19 → Fr [40, 42, 45] M ML273_60_19 → 0 ≤ v20.toInt → v20.toInt ≤ 8 → gs5 M ML273_60_19 a1.toInt.toNat → grn M ML273_60_19 a1.toInt.toNat v20.toInt → gf2 ML273_60_19 M → (8 - v20.toInt).toNat = n → PW G false 1 273 (p_mc 273) (p_msl 273) Kr 60 [(0, .ref 294), (1, .int a1), (2, .int v20)] [] 311 ML273_60_19 0 0 := by
            intro n
            induction n using Nat.strongRecOn with
            | ind n ih_L273_60_19 =>
            intro ML273_60_19 v20 IML273_60_19 FML273_60_19 hbL273_60_190 hbL273_60_191 hbL273_60_192 hbL273_60_193 hbL273_60_194 hmL273_60_19
            refine PW.iload_n q_273_60 rfl ?_
            refine PW.cB q_273_61 (by decide) fun c21 hc21 => ?_
            refine PW.jc_ge q_273_63 rfl (fun h22 => ?_) (fun h22 => ?_)
            · skip
              refine PW.aload_n q_273_89 rfl ?_
              refine PW.cI q_273_90 (by decide) fun c23 hc23 => ?_
              refine PW.pI q_273_91 (Or.inl t_ft_273_238) gF_40_23 gP_40_23 kd_294 Stab0 IML273_60_19 (by decide) rfl (by omega) (by omega) fun M24 IM24 fM24 UM24 => ?_
              have FM24 := Fr.pu FML273_60_19 UM24.1 kd_294 (rfl : List.contains [40, 42, 45] 40 = true)
              refine PW.cI q_273_94 (by decide) fun c25 hc25 => ?_
              refine PW.rZ q_273_95 rfl (by omega) (by omega) (by decide) (by decide) ?_
              have k8 := (hbL273_60_193.cg (UM24.1 _ (g_ne kd_299 kd_294 (by decide)))); rw [show v20.toInt = 8 from by omega] at k8
              exact hK c25 M24 IM24 FM24 (by omega) (by omega) ⟨Or.inr ⟨by omega, by omega, by omega, by omega, (hbL273_60_192.cg (UM24.1 _ (g_ne kd_296 kd_294 (by decide))))⟩, Or.inr ⟨by omega, k8⟩, (hbL273_60_194.pu UM24 (by decide) (by decide))⟩
            · skip
              refine PW.aload_n q_273_66 rfl ?_
              refine PW.gR 299 q_273_67 (Or.inl t_ft_273_43) gF_40_9 kd_294 IML273_60_19.1 (by decide) rfl ?_
              refine PW.iload_n q_273_70 rfl ?_
              refine PW.aload_n q_273_71 rfl ?_
              refine PW.gR 308 q_273_72 (Or.inl t_ft_273_72) gF_40_40 kd_294 IML273_60_19.1 (by decide) rfl ?_
              refine PW.cB q_273_75 (by decide) fun c26 hc26 => ?_
              refine PW.iload_n q_273_77 rfl ?_
              refine PW.mulN q_273_78 (8) (by omega) a1 (fun h => n_eq.mpr (by omega)) (fun h => n_eq.mpr (by omega)) (by omega) (by omega) fun x27 hx27 => ?_
              refine PW.iload_n q_273_79 rfl ?_
              refine PW.addN q_273_80 (by omega) (by omega) fun x28 hx28 => ?_
              refine PW.aL q_273_81 rfl kd_308 IML273_60_19.1 (by decide) (by omega) (by omega) fun l29 fl29 => ?_
              refine PW.wLX q_273_82 rfl kd_299 Stab0 IML273_60_19 (by decide) rfl (by omega) (by omega) fun M30 IM30 fM30 UM30 => ?_
              have FM30 := Fr.pu FML273_60_19 UM30.1 kd_299 (rfl : List.contains [40, 42, 45] 45 = true)
              refine PW.incN q_273_83 rfl (by decide) (by decide) (by omega) (by omega) fun x31 hx31 => ?_
              refine PW.goto q_273_86 rfl ?_
              refine PW.lvS (lk1 rfl (lk1 rfl (lk1 rfl lk0))) (ih_L273_60_19 _ ?_ M30 x31 IM30 FM30 (by omega) (by omega) (hbL273_60_192.cg (UM30.1 _ (g_ne kd_296 kd_299 (by decide)))) (grn.st (i := v20.toInt) hbL273_60_193 UM30 fM30 fl29 (Fr.at FML273_60_19 kd_308 rfl) (by omega) (by omega) (by omega) (by omega)) (hbL273_60_194.cg (UM30.1 294 (by decide))) rfl)
              omega
          exact PW.lvS (lk1 rfl (lk1 rfl (lk1 rfl lk0))) (L273_60_19 _ ML273_27_13 c18 X17 FML273_27_13 (by omega) (by omega) (gs5.of hbL273_27_132 (by omega) (Fr.at FML273_27_13 kd_307 rfl)) (fun z hz => by omega) hbL273_27_134 rfl)
        · skip
          refine PW.aload_n q_273_34 rfl ?_
          refine PW.gR 296 q_273_35 (Or.inl t_ft_273_33) gF_40_6 kd_294 IML273_27_13.1 (by decide) rfl ?_
          refine PW.iload_n q_273_38 rfl ?_
          refine PW.aload_n q_273_39 rfl ?_
          refine PW.gR 307 q_273_40 (Or.inl t_ft_273_69) gF_40_39 kd_294 IML273_27_13.1 (by decide) rfl ?_
          refine PW.cS q_273_43 (by decide) fun c32 hc32 => ?_
          refine PW.iload_n q_273_46 rfl ?_
          refine PW.mulN q_273_47 (397) (by omega) a1 (fun h => n_eq.mpr (by omega)) (fun h => n_eq.mpr (by omega)) (by omega) (by omega) fun x33 hx33 => ?_
          refine PW.iload_n q_273_48 rfl ?_
          refine PW.addN q_273_49 (by omega) (by omega) fun x34 hx34 => ?_
          refine PW.aH q_273_50 gA_53 kd_307 IML273_27_13.1 (by decide) (by omega) (by omega) fun x35 fx35 => ?_
          have bsM36 := (InvB.arr IML273_27_13.1 kd_307 (by decide) gA_53).2.2 x34.toInt.toNat (by omega)
          rw [fx35] at bsM36
          refine PW.wB q_273_51 gA_42 kd_296 IML273_27_13.1 (by decide) (by omega) (by omega) (by rw [as53' (p := x34.toInt.toNat) a1.toInt.toNat (by omega) (by omega)]; exact bsM36) fun M36 JM36 fM36 UM36 => ?_
          have IM36 : Iv (gX 296) M36 := ⟨JM36, gX.up IML273_27_13.2 UM36.1 (by decide)⟩
          have FM36 := Fr.pu FML273_27_13 UM36.1 kd_296 (rfl : List.contains [40, 42, 45] 42 = true)
          refine PW.incN q_273_52 rfl (by decide) (by decide) (by omega) (by omega) fun x37 hx37 => ?_
          refine PW.goto q_273_55 rfl ?_
          refine PW.lvS (lk1 rfl (lk1 rfl (lk1 rfl lk0))) (ih_L273_27_13 _ ?_ M36 x37 IM36 FM36 (by omega) (by omega) (gcp.step hbL273_27_132 UM36 (by omega) (by decide) fM36 (by omega) fx35 (by omega) (by omega)) ((UM36.1 299 (by decide)).trans hbL273_27_133) (hbL273_27_134.cg (UM36.1 294 (by decide))) rfl)
          omega
      exact PW.lvS (lk1 rfl (lk1 rfl (lk1 rfl lk0))) (L273_27_13 _ M2 c12 X11 FM2 (by omega) (by omega) (gcp.zero (by omega)) (UM2.1 _ (g_ne kd_299 kd_294 (by decide))) (gf2.refl.pu UM2 (by decide) (by decide)) rfl)
    · skip
      refine PW.cI q_273_23 (by decide) fun c38 hc38 => ?_
      refine PW.rZ q_273_24 rfl (by omega) (by omega) (by decide) (by decide) ?_
      exact hK c38 M2 IM2 FM2 (by omega) (by omega) ⟨Or.inl ⟨by omega, by omega, (UM2.1 _ (g_ne kd_296 kd_294 (by decide)))⟩, Or.inl ⟨by omega, (UM2.1 _ (g_ne kd_299 kd_294 (by decide)))⟩, (gf2.refl.pu UM2 (by decide) (by decide))⟩
  · skip
    refine PW.jz_eq q_273_11 rfl (fun h39 => ?_) (fun h39 => False.elim (by omega))
    refine PW.cI q_273_23 (by decide) fun c40 hc40 => ?_
    refine PW.rZ q_273_24 rfl (by omega) (by omega) (by decide) (by decide) ?_
    exact hK c40 M2 IM2 FM2 (by omega) (by omega) ⟨Or.inl ⟨by omega, by omega, (UM2.1 _ (g_ne kd_296 kd_294 (by decide)))⟩, Or.inl ⟨by omega, (UM2.1 _ (g_ne kd_299 kd_294 (by decide)))⟩, (gf2.refl.pu UM2 (by decide) (by decide))⟩
