/-- an int field -/
def o_x (e : va_E) (i : Nat) : Int32 := match o_f e i with
  | .int x => x
  | _ => 0
theorem o_x_of {e : va_E} {i : Nat} {x : Int32} (h : o_f e i = .int x) : o_x e i = x := by unfold o_x; rw [h]
/-- how far apart, as the class counts it -/
def d_xa (p q : Int32) : Int := (if 0 ≤ p - q then p - q else 0 - (p - q)).toInt
def kNe (M : pM) (k0 k2 : Nat) : Nat → Int := fun v => d_xa (o_x (M (k0 + 2 + v)) 0) (o_x (M k2) 0)
def kUn (M : pM) (k : Nat) : Nat → Int := fun v => (o_a (M (k + 1)) v).toInt
theorem d_am_1 {k : Nat → Int} {l : Int} {w : Nat} (h : (w : Int) ≠ l ∧ (d_am k l w = -1 ∨ k w < k (d_am k l w).toNat)) : d_am k l (w + 1) = (w : Int) := by
  show (if (w : Int) ≠ l ∧ (d_am k l w = -1 ∨ k w < k (d_am k l w).toNat) then (w : Int) else d_am k l w) = _
  rw [if_pos h]
theorem d_am_0 {k : Nat → Int} {l : Int} {w : Nat} (h : ¬ ((w : Int) ≠ l ∧ (d_am k l w = -1 ∨ k w < k (d_am k l w).toNat))) : d_am k l (w + 1) = d_am k l w := by
  show (if (w : Int) ≠ l ∧ (d_am k l w = -1 ∨ k w < k (d_am k l w).toNat) then (w : Int) else d_am k l w) = _
  rw [if_neg h]
theorem c_X5_nearestTo_vk (V : pM → Prop) (hV : Stab V) (G : pG) (Kr : pK) (M : pM) (I : Iv V M) (k0 : Nat) (hk_k0 : g_kd k0 = 5) (a1 : Int32) (k2 : Nat) (hk_k2 : g_kd k2 = 9) (hl_a1 : 2 ≤ a1.toInt) (hh_a1 : a1.toInt ≤ 6) (hK : ∀ (x : Int32), -1 ≤ x.toInt → x.toInt ≤ 6 → (x.toInt = d_am (kNe M k0 k2) (o_i (M k2) 6) a1.toInt.toNat) → Kr.1 (some (.int x)) 311 M) : PW G false 1 62 (p_mc 62) (p_msl 62) Kr 0 (lv_args 0 [.ref k0, .int a1, .ref k2]) [] 311 M 0 0 := by
  have F : Fr [] M M := Fr.refl
  refine PW.cI q_62_0 (by decide) fun c1 hc1 => ?_
  refine PW.istore_n q_62_1 (by decide) ?_
  refine PW.cI q_62_2 (by decide) fun c2 hc2 => ?_
  refine PW.istore q_62_3 (by decide) ?_
  refine PW.cI q_62_5 (by decide) fun c3 hc3 => ?_
  refine PW.istore q_62_6 (by decide) ?_
  have L62_8_4 : ∀ (n : Nat) (v5 v6 v7 : Int32), -1 ≤ v5.toInt → v5.toInt ≤ 6 → 0 ≤ v7.toInt → v7.toInt ≤ 6 → v5.toInt = d_am (kNe M k0 k2) (o_i (M k2) 6) (v7.toInt).toNat → (v5.toInt = -1 ∨ v6.toInt = (kNe M k0 k2) (v5.toInt).toNat) → v7.toInt ≤ a1.toInt → (6 - v7.toInt).toNat = n → PW G false 1 62 (p_mc 62) (p_msl 62) Kr 8 [(0, .ref k0), (1, .int a1), (2, .ref k2), (3, .int v5), (4, .int v6), (5, .int v7)] [] 311 M 0 0 := by
    intro n
    induction n using Nat.strongRecOn with
    | ind n ih_L62_8_4 =>
    intro v5 v6 v7 hbL62_8_40 hbL62_8_41 hbL62_8_42 hbL62_8_43 hbL62_8_44 hbL62_8_45 hbL62_8_46 hmL62_8_4
    refine PW.iload q_62_8 rfl ?_
    refine PW.iload_n q_62_10 rfl ?_
    refine PW.jc_ge q_62_11 rfl (fun h8 => ?_) (fun h8 => ?_)
    · skip
      refine PW.iload_n q_62_68 rfl ?_
      refine PW.rI q_62_69 rfl (by decide) (by decide) ?_
      exact hK v5 (by omega) (by omega) (by rw [hbL62_8_44, show v7.toInt.toNat = a1.toInt.toNat from by omega])
    · skip
      refine PW.aload_n q_62_14 rfl ?_
      refine PW.gRk q_62_15 (Or.inl t_ft_62_20) gF_5_3 hk_k0 I.1 (by decide) fun b9 hk_b9 e_b9 => ?_
      refine PW.iload q_62_18 rfl ?_
      refine PW.aRk q_62_20 rfl (by decide) (by decide) hk_b9 I.1 (by decide) (by omega) (by omega) fun b10 hk_b10 e_b10 => ?_
      refine PW.gI q_62_21 (Or.inr t_fN_62_76) gF_7_0 hk_b10 I.1 (by decide) fun x11 fx11 hx11 kx11 => ?_
      have ix11 := o_i_of fx11
      clear hx11 kx11
      refine PW.aload_n q_62_24 rfl ?_
      refine PW.gI q_62_25 (Or.inr t_fN_62_191) gF_9_0 hk_k2 I.1 (by decide) fun x12 fx12 hx12 kx12 => ?_
      have ix12 := o_i_of fx12
      clear hx12 kx12
      refine PW.isub q_62_28 ?_
      refine PW.nmI ?_; intro x13 ex13
      refine PW.mabs q_62_29 t_mj_62_78 (by decide) (Nat.le_of_ble_eq_true rfl) (by decide) (by decide) ?_
      refine PW.nmI ?_; intro x14 ex14
      refine PW.istore q_62_32 (by decide) ?_
      have kv : kNe M k0 k2 v7.toInt.toNat = x14.toInt := by show d_xa (o_x (M (k0 + 2 + v7.toInt.toNat)) 0) (o_x (M k2) 0) = _; rw [show k0 + 2 + v7.toInt.toNat = b10 from by rw [e_b10]; show _ = b9 + 1 + 1 * _; omega, o_x_of fx11, o_x_of fx12, ex14, ex13]; rfl
      refine PW.iload q_62_34 rfl ?_
      refine PW.aload_n q_62_36 rfl ?_
      refine PW.gI q_62_37 (Or.inr t_fN_62_165) gF_9_6 hk_k2 I.1 (by decide) fun x15 fx15 hx15 kx15 => ?_
      have ix15 := o_i_of fx15
      refine PW.jc_eq q_62_40 rfl (fun h16 => ?_) (fun h16 => ?_)
      · skip
        refine PW.incN q_62_62 rfl (by decide) (by decide) (by omega) (by omega) fun x17 hx17 => ?_
        refine PW.goto q_62_65 rfl ?_
        exact PW.lvS (lk1 rfl (lk1 rfl (lk1 rfl (lk1 rfl (lk1 rfl (lk1 rfl lk0)))))) (ih_L62_8_4 _ (by omega) v5 v6 x17 (by omega) (by omega) (by omega) (by omega) (by rw [show x17.toInt.toNat = v7.toInt.toNat + 1 from by omega]; rw [d_am_0 (fun h => h.1 (by omega))]; exact hbL62_8_44) hbL62_8_45 (by omega) rfl)
      · skip
        refine PW.iload_n q_62_43 rfl ?_
        refine PW.cI q_62_44 (by decide) fun c18 hc18 => ?_
        refine PW.jc_eq q_62_45 rfl (fun h19 => ?_) (fun h19 => ?_)
        · skip
          refine PW.iload q_62_55 rfl ?_
          refine PW.istore_n q_62_57 (by decide) ?_
          refine PW.iload q_62_58 rfl ?_
          refine PW.istore q_62_60 (by decide) ?_
          refine PW.incN q_62_62 rfl (by decide) (by decide) (by omega) (by omega) fun x20 hx20 => ?_
          refine PW.goto q_62_65 rfl ?_
          exact PW.lvS (lk1 rfl (lk1 rfl (lk1 rfl (lk1 rfl (lk1 rfl (lk1 rfl lk0)))))) (ih_L62_8_4 _ (by omega) v7 x14 x20 (by omega) (by omega) (by omega) (by omega) (by rw [show x20.toInt.toNat = v7.toInt.toNat + 1 from by omega]; rw [d_am_1 ⟨by omega, by rw [← hbL62_8_44]; exact Or.inl (by omega)⟩]; omega) (Or.inr (by have v := kv; omega)) (by omega) rfl)
        · skip
          refine PW.iload q_62_48 rfl ?_
          refine PW.iload q_62_50 rfl ?_
          refine PW.jc_ge q_62_52 rfl (fun h21 => ?_) (fun h21 => ?_)
          · skip
            refine PW.incN q_62_62 rfl (by decide) (by decide) (by omega) (by omega) fun x22 hx22 => ?_
            refine PW.goto q_62_65 rfl ?_
            exact PW.lvS (lk1 rfl (lk1 rfl (lk1 rfl (lk1 rfl (lk1 rfl (lk1 rfl lk0)))))) (ih_L62_8_4 _ (by omega) v5 v6 x22 (by omega) (by omega) (by omega) (by omega) (by rw [show x22.toInt.toNat = v7.toInt.toNat + 1 from by omega]; rw [d_am_0 (fun h => by rw [← hbL62_8_44] at h; have u := hbL62_8_45.resolve_left (by omega); have v := kv; omega)]; exact hbL62_8_44) hbL62_8_45 (by omega) rfl)
          · skip
            refine PW.iload q_62_55 rfl ?_
            refine PW.istore_n q_62_57 (by decide) ?_
            refine PW.iload q_62_58 rfl ?_
            refine PW.istore q_62_60 (by decide) ?_
            refine PW.incN q_62_62 rfl (by decide) (by decide) (by omega) (by omega) fun x23 hx23 => ?_
            refine PW.goto q_62_65 rfl ?_
            exact PW.lvS (lk1 rfl (lk1 rfl (lk1 rfl (lk1 rfl (lk1 rfl (lk1 rfl lk0)))))) (ih_L62_8_4 _ (by omega) v7 x14 x23 (by omega) (by omega) (by omega) (by omega) (by rw [show x23.toInt.toNat = v7.toInt.toNat + 1 from by omega]; rw [d_am_1 ⟨by omega, by rw [← hbL62_8_44]; exact Or.inr (by have u := hbL62_8_45.resolve_left (by omega); have v := kv; omega)⟩]; omega) (Or.inr (by have v := kv; omega)) (by omega) rfl)
  exact PW.lvS (lk1 rfl (lk1 rfl (lk1 rfl (lk1 rfl (lk1 rfl (lk1 rfl lk0)))))) (L62_8_4 _ c1 c2 c3 (by omega) (by omega) (by omega) (by omega) (by rw [show c3.toInt.toNat = 0 from by omega]; show _ = (-1 : Int); omega) (Or.inl (by omega)) (by omega) rfl)
theorem c_X5_longestUnseen_vk (V : pM → Prop) (hV : Stab V) (G : pG) (Kr : pK) (M : pM) (I : Iv V M) (a0 : Int32) (k1 : Nat) (hk_k1 : g_kd k1 = 9) (hl_a0 : 2 ≤ a0.toInt) (hh_a0 : a0.toInt ≤ 6) (hK : ∀ (x : Int32), -1 ≤ x.toInt → x.toInt ≤ 6 → (x.toInt = d_am (kUn M k1) (o_i (M k1) 6) a0.toInt.toNat) → Kr.1 (some (.int x)) 311 M) : PW G false 0 63 (p_mc 63) (p_msl 63) Kr 0 (lv_args 0 [.int a0, .ref k1]) [] 311 M 0 0 := by
  have F : Fr [] M M := Fr.refl
  refine PW.cI q_63_0 (by decide) fun c1 hc1 => ?_
  refine PW.istore_n q_63_1 (by decide) ?_
  refine PW.cI q_63_2 (by decide) fun c2 hc2 => ?_
  refine PW.istore_n q_63_3 (by decide) ?_
  refine PW.cI q_63_4 (by decide) fun c3 hc3 => ?_
  refine PW.istore q_63_5 (by decide) ?_
  have L63_7_4 : ∀ (n : Nat) (v5 v6 v7 : Int32), -1 ≤ v5.toInt → v5.toInt ≤ 6 → 0 ≤ v7.toInt → v7.toInt ≤ 6 → v5.toInt = d_am (kUn M k1) (o_i (M k1) 6) (v7.toInt).toNat → (v5.toInt = -1 ∨ v6.toInt = (kUn M k1) (v5.toInt).toNat) → v7.toInt ≤ a0.toInt → (6 - v7.toInt).toNat = n → PW G false 0 63 (p_mc 63) (p_msl 63) Kr 7 [(0, .int a0), (1, .ref k1), (2, .int v5), (3, .int v6), (4, .int v7)] [] 311 M 0 0 := by
    intro n
    induction n using Nat.strongRecOn with
    | ind n ih_L63_7_4 =>
    intro v5 v6 v7 hbL63_7_40 hbL63_7_41 hbL63_7_42 hbL63_7_43 hbL63_7_44 hbL63_7_45 hbL63_7_46 hmL63_7_4
    refine PW.iload q_63_7 rfl ?_
    refine PW.iload_n q_63_9 rfl ?_
    refine PW.jc_ge q_63_10 rfl (fun h8 => ?_) (fun h8 => ?_)
    · skip
      refine PW.iload_n q_63_55 rfl ?_
      refine PW.rI q_63_56 rfl (by decide) (by decide) ?_
      exact hK v5 (by omega) (by omega) (by rw [hbL63_7_44, show v7.toInt.toNat = a0.toInt.toNat from by omega])
    · skip
      refine PW.iload q_63_13 rfl ?_
      refine PW.aload_n q_63_15 rfl ?_
      refine PW.gI q_63_16 (Or.inr t_fN_63_165) gF_9_6 hk_k1 I.1 (by decide) fun x9 fx9 hx9 kx9 => ?_
      have ix9 := o_i_of fx9
      refine PW.jc_eq q_63_19 rfl (fun h10 => ?_) (fun h10 => ?_)
      · skip
        refine PW.incN q_63_49 rfl (by decide) (by decide) (by omega) (by omega) fun x11 hx11 => ?_
        refine PW.goto q_63_52 rfl ?_
        exact PW.lvS (lk1 rfl (lk1 rfl (lk1 rfl (lk1 rfl (lk1 rfl lk0))))) (ih_L63_7_4 _ (by omega) v5 v6 x11 (by omega) (by omega) (by omega) (by omega) (by rw [show x11.toInt.toNat = v7.toInt.toNat + 1 from by omega]; rw [d_am_0 (fun h => h.1 (by omega))]; exact hbL63_7_44) hbL63_7_45 (by omega) rfl)
      · skip
        refine PW.iload_n q_63_22 rfl ?_
        refine PW.cI q_63_23 (by decide) fun c12 hc12 => ?_
        refine PW.jc_eq q_63_24 rfl (fun h13 => ?_) (fun h13 => ?_)
        · skip
          refine PW.iload q_63_38 rfl ?_
          refine PW.istore_n q_63_40 (by decide) ?_
          refine PW.aload_n q_63_41 rfl ?_
          refine PW.gRk q_63_42 (Or.inr t_fN_63_192) gF_9_7 hk_k1 I.1 (by decide) fun b14 hk_b14 e_b14 => ?_
          refine PW.iload q_63_45 rfl ?_
          refine PW.aH q_63_47 gA_10 hk_b14 I.1 (by decide) (by omega) (by omega) fun x15 fx15 => ?_
          have kvx15 : kUn M k1 v7.toInt.toNat = x15.toInt := by show (o_a (M (k1 + 1)) v7.toInt.toNat).toInt = _; rw [show k1 + 1 = b14 from by omega, fx15]
          refine PW.istore_n q_63_48 (by decide) ?_
          refine PW.incN q_63_49 rfl (by decide) (by decide) (by omega) (by omega) fun x16 hx16 => ?_
          refine PW.goto q_63_52 rfl ?_
          exact PW.lvS (lk1 rfl (lk1 rfl (lk1 rfl (lk1 rfl (lk1 rfl lk0))))) (ih_L63_7_4 _ (by omega) v7 x15 x16 (by omega) (by omega) (by omega) (by omega) (by rw [show x16.toInt.toNat = v7.toInt.toNat + 1 from by omega]; rw [d_am_1 ⟨by omega, by rw [← hbL63_7_44]; exact Or.inl (by omega)⟩]; omega) (Or.inr (by have v := kvx15; omega)) (by omega) rfl)
        · skip
          refine PW.aload_n q_63_27 rfl ?_
          refine PW.gRk q_63_28 (Or.inr t_fN_63_192) gF_9_7 hk_k1 I.1 (by decide) fun b17 hk_b17 e_b17 => ?_
          refine PW.iload q_63_31 rfl ?_
          refine PW.aH q_63_33 gA_10 hk_b17 I.1 (by decide) (by omega) (by omega) fun x18 fx18 => ?_
          have kvx18 : kUn M k1 v7.toInt.toNat = x18.toInt := by show (o_a (M (k1 + 1)) v7.toInt.toNat).toInt = _; rw [show k1 + 1 = b17 from by omega, fx18]
          refine PW.iload_n q_63_34 rfl ?_
          refine PW.jc_ge q_63_35 rfl (fun h19 => ?_) (fun h19 => ?_)
          · skip
            refine PW.incN q_63_49 rfl (by decide) (by decide) (by omega) (by omega) fun x20 hx20 => ?_
            refine PW.goto q_63_52 rfl ?_
            exact PW.lvS (lk1 rfl (lk1 rfl (lk1 rfl (lk1 rfl (lk1 rfl lk0))))) (ih_L63_7_4 _ (by omega) v5 v6 x20 (by omega) (by omega) (by omega) (by omega) (by rw [show x20.toInt.toNat = v7.toInt.toNat + 1 from by omega]; rw [d_am_0 (fun h => by rw [← hbL63_7_44] at h; have u := hbL63_7_45.resolve_left (by omega); have v := kvx18; omega)]; exact hbL63_7_44) hbL63_7_45 (by omega) rfl)
          · skip
            refine PW.iload q_63_38 rfl ?_
            refine PW.istore_n q_63_40 (by decide) ?_
            refine PW.aload_n q_63_41 rfl ?_
            refine PW.gRk q_63_42 (Or.inr t_fN_63_192) gF_9_7 hk_k1 I.1 (by decide) fun b21 hk_b21 e_b21 => ?_
            refine PW.iload q_63_45 rfl ?_
            refine PW.aH q_63_47 gA_10 hk_b21 I.1 (by decide) (by omega) (by omega) fun x22 fx22 => ?_
            have kvx22 : kUn M k1 v7.toInt.toNat = x22.toInt := by show (o_a (M (k1 + 1)) v7.toInt.toNat).toInt = _; rw [show k1 + 1 = b21 from by omega, fx22]
            refine PW.istore_n q_63_48 (by decide) ?_
            refine PW.incN q_63_49 rfl (by decide) (by decide) (by omega) (by omega) fun x23 hx23 => ?_
            refine PW.goto q_63_52 rfl ?_
            exact PW.lvS (lk1 rfl (lk1 rfl (lk1 rfl (lk1 rfl (lk1 rfl lk0))))) (ih_L63_7_4 _ (by omega) v7 x22 x23 (by omega) (by omega) (by omega) (by omega) (by rw [show x23.toInt.toNat = v7.toInt.toNat + 1 from by omega]; rw [d_am_1 ⟨by omega, by rw [← hbL63_7_44]; exact Or.inr (by have u := hbL63_7_45.resolve_left (by omega); have v := kvx22; omega)⟩]; omega) (Or.inr (by have v := kvx22; omega)) (by omega) rfl)
  exact PW.lvS (lk1 rfl (lk1 rfl (lk1 rfl (lk1 rfl (lk1 rfl lk0))))) (L63_7_4 _ c1 c2 c3 (by omega) (by omega) (by omega) (by omega) (by rw [show c3.toInt.toNat = 0 from by omega]; show _ = (-1 : Int); omega) (Or.inl (by omega)) (by omega) rfl)
/-- whom it chooses -/
def kCh (M : pM) (k0 k2 : Nat) (n law x : Int) : Prop := (law = 1 → x = d_am (kNe M k0 k2) (o_i (M k2) 6) n.toNat) ∧ (law = 2 → x = d_am (kUn M k2) (o_i (M k2) 6) n.toNat) ∧ (law ≠ 1 → law ≠ 2 → x = d_ot n (o_i (M k2) 6))
theorem kCh.b {M : pM} {k0 k2 : Nat} {n law x : Int} (h : kCh M k0 k2 n law x) (hn : 2 ≤ n) (hl : 0 ≤ o_i (M k2) 6) : 0 ≤ x ∧ x < n := by
  by_cases a : law = 1
  · have q := d_am_2 (k := kNe M k0 k2) (l := o_i (M k2) 6) (n := n.toNat) (by omega)
    have e := h.1 a
    omega
  · by_cases b : law = 2
    · have q := d_am_2 (k := kUn M k2) (l := o_i (M k2) 6) (n := n.toNat) (by omega)
      have e := h.2.1 b
      omega
    · have e := h.2.2 a b
      unfold d_ot at e
      split at e
      · omega
      · omega
theorem c_X5_choice_vk (V : pM → Prop) (hV : Stab V) (G : pG) (Kr : pK) (M : pM) (I : Iv V M) (k0 : Nat) (hk_k0 : g_kd k0 = 5) (a1 : Int32) (k2 : Nat) (hk_k2 : g_kd k2 = 9) (a3 : Int32) (hl_a1 : 2 ≤ a1.toInt) (hh_a1 : a1.toInt ≤ 6) (hp_0 : o_i (M k0) 1 = -1) (hp_1 : o_i (M k0) 2 = -1) (hK : ∀ (x : Int32), -1 ≤ x.toInt → x.toInt ≤ 6 → (kCh M k0 k2 a1.toInt a3.toInt x.toInt) → Kr.1 (some (.int x)) 311 M) : PW G false 2 61 (p_mc 61) (p_msl 61) Kr 0 (lv_args 0 [.ref k0, .int a1, .ref k2, .int a3]) [] 311 M 0 0 := by
  have F : Fr [] M M := Fr.refl
  refine PW.iload_n q_61_0 rfl ?_
  refine PW.cI q_61_1 (by decide) fun c1 hc1 => ?_
  refine PW.jc_ge q_61_2 rfl (fun h2 => ?_) (fun h2 => False.elim (by omega))
  refine PW.aload_n q_61_7 rfl ?_
  refine PW.gI q_61_8 (Or.inl t_ft_61_9) gF_5_1 hk_k0 I.1 (by decide) fun x3 fx3 hx3 kx3 => ?_
  have ix3 := o_i_of fx3
  clear hx3 kx3
  refine PW.cI q_61_11 (by decide) fun c4 hc4 => ?_
  refine PW.jc_eq q_61_12 rfl (fun h5 => ?_) (fun h5 => ?_)
  · skip
    refine PW.iload_n q_61_31 rfl ?_
    refine PW.cI q_61_32 (by decide) fun c6 hc6 => ?_
    refine PW.jc_ne q_61_33 rfl (fun h7 => ?_) (fun h7 => ?_)
    · skip
      refine PW.iload_n q_61_43 rfl ?_
      refine PW.cI q_61_44 (by decide) fun c8 hc8 => ?_
      refine PW.jc_ne q_61_45 rfl (fun h9 => ?_) (fun h9 => ?_)
      · skip
        refine PW.iload_n q_61_54 rfl ?_
        refine PW.cI q_61_55 (by decide) fun c10 hc10 => ?_
        refine PW.jc_ne q_61_56 rfl (fun h11 => ?_) (fun h11 => ?_)
        · skip
          refine PW.aload_n q_61_83 rfl ?_
          refine PW.gI q_61_84 (Or.inr t_fN_61_165) gF_9_6 hk_k2 I.1 (by decide) fun x12 fx12 hx12 kx12 => ?_
          have ix12 := o_i_of fx12
          refine PW.cI q_61_87 (by decide) fun c13 hc13 => ?_
          refine PW.addN q_61_88 (by omega) (by omega) fun x14 hx14 => ?_
          refine PW.iload_n q_61_89 rfl ?_
          refine PW.jc_ge q_61_90 rfl (fun h15 => ?_) (fun h15 => ?_)
          · skip
            refine PW.cI q_61_102 (by decide) fun c16 hc16 => ?_
            refine PW.rI q_61_103 rfl (by decide) (by decide) ?_
            exact hK c16 (by omega) (by omega) ⟨fun h => by omega, fun h => by omega, fun _ _ => by unfold d_ot; split; (· omega); (· omega)⟩
          · skip
            refine PW.aload_n q_61_93 rfl ?_
            refine PW.gE q_61_94 (Or.inr t_fN_61_165) gF_9_6 hk_k2 I.1 (by decide) fx12 ?_
            refine PW.cI q_61_97 (by decide) fun c17 hc17 => ?_
            refine PW.addN q_61_98 (by omega) (by omega) fun x18 hx18 => ?_
            refine PW.goto q_61_99 rfl ?_
            refine PW.rI q_61_103 rfl (by decide) (by decide) ?_
            exact hK x18 (by omega) (by omega) ⟨fun h => by omega, fun h => by omega, fun _ _ => by unfold d_ot; split; (· omega); (· omega)⟩
        · skip
          refine PW.aload_n q_61_59 rfl ?_
          refine PW.gI q_61_60 (Or.inl t_ft_61_15) gF_5_2 hk_k0 I.1 (by decide) fun x19 fx19 hx19 kx19 => ?_
          have ix19 := o_i_of fx19
          clear hx19 kx19
          refine PW.cI q_61_63 (by decide) fun c20 hc20 => ?_
          refine PW.jc_eq q_61_64 rfl (fun h21 => ?_) (fun h21 => ?_)
          · skip
            refine PW.aload_n q_61_83 rfl ?_
            refine PW.gI q_61_84 (Or.inr t_fN_61_165) gF_9_6 hk_k2 I.1 (by decide) fun x22 fx22 hx22 kx22 => ?_
            have ix22 := o_i_of fx22
            refine PW.cI q_61_87 (by decide) fun c23 hc23 => ?_
            refine PW.addN q_61_88 (by omega) (by omega) fun x24 hx24 => ?_
            refine PW.iload_n q_61_89 rfl ?_
            refine PW.jc_ge q_61_90 rfl (fun h25 => ?_) (fun h25 => ?_)
            · skip
              refine PW.cI q_61_102 (by decide) fun c26 hc26 => ?_
              refine PW.rI q_61_103 rfl (by decide) (by decide) ?_
              exact hK c26 (by omega) (by omega) ⟨fun h => by omega, fun h => by omega, fun _ _ => by unfold d_ot; split; (· omega); (· omega)⟩
            · skip
              refine PW.aload_n q_61_93 rfl ?_
              refine PW.gE q_61_94 (Or.inr t_fN_61_165) gF_9_6 hk_k2 I.1 (by decide) fx22 ?_
              refine PW.cI q_61_97 (by decide) fun c27 hc27 => ?_
              refine PW.addN q_61_98 (by omega) (by omega) fun x28 hx28 => ?_
              refine PW.goto q_61_99 rfl ?_
              refine PW.rI q_61_103 rfl (by decide) (by decide) ?_
              exact hK x28 (by omega) (by omega) ⟨fun h => by omega, fun h => by omega, fun _ _ => by unfold d_ot; split; (· omega); (· omega)⟩
          · skip
            refine PW.aload_n q_61_67 rfl ?_
            refine PW.gE q_61_68 (Or.inl t_ft_61_15) gF_5_2 hk_k0 I.1 (by decide) fx19 ?_
            refine PW.aload_n q_61_71 rfl ?_
            refine PW.gI q_61_72 (Or.inr t_fN_61_165) gF_9_6 hk_k2 I.1 (by decide) fun x29 fx29 hx29 kx29 => ?_
            have ix29 := o_i_of fx29
            refine PW.jc_eq q_61_75 rfl (fun h30 => ?_) (fun h30 => ?_)
            · skip
              refine PW.aload_n q_61_83 rfl ?_
              refine PW.gE q_61_84 (Or.inr t_fN_61_165) gF_9_6 hk_k2 I.1 (by decide) fx29 ?_
              refine PW.cI q_61_87 (by decide) fun c31 hc31 => ?_
              refine PW.addN q_61_88 (by omega) (by omega) fun x32 hx32 => ?_
              refine PW.iload_n q_61_89 rfl ?_
              refine PW.jc_ge q_61_90 rfl (fun h33 => ?_) (fun h33 => ?_)
              · skip
                refine PW.cI q_61_102 (by decide) fun c34 hc34 => ?_
                refine PW.rI q_61_103 rfl (by decide) (by decide) ?_
                exact hK c34 (by omega) (by omega) ⟨fun h => by omega, fun h => by omega, fun _ _ => by unfold d_ot; split; (· omega); (· omega)⟩
              · skip
                refine PW.aload_n q_61_93 rfl ?_
                refine PW.gE q_61_94 (Or.inr t_fN_61_165) gF_9_6 hk_k2 I.1 (by decide) fx29 ?_
                refine PW.cI q_61_97 (by decide) fun c35 hc35 => ?_
                refine PW.addN q_61_98 (by omega) (by omega) fun x36 hx36 => ?_
                refine PW.goto q_61_99 rfl ?_
                refine PW.rI q_61_103 rfl (by decide) (by decide) ?_
                exact hK x36 (by omega) (by omega) ⟨fun h => by omega, fun h => by omega, fun _ _ => by unfold d_ot; split; (· omega); (· omega)⟩
            · skip
              refine PW.aload_n q_61_78 rfl ?_
              refine PW.gE q_61_79 (Or.inl t_ft_61_15) gF_5_2 hk_k0 I.1 (by decide) fx19 ?_
              refine PW.rI q_61_82 rfl (by decide) (by decide) ?_
              exact hK x19 (by omega) (by omega) ⟨fun h => by omega, fun h => by omega, fun _ _ => by unfold d_ot; split; (· omega); (· omega)⟩
      · skip
        refine PW.iload_n q_61_48 rfl ?_
        refine PW.aload_n q_61_49 rfl ?_
        refine PW.callS (as := [_, _]) (rest := []) q_61_50 t_ms_61_188 (by decide) rfl (Nat.le_of_ble_eq_true rfl) (Nat.le_of_ble_eq_true rfl) (by decide) (by decide) ?_
        refine PW.up (by decide) (c_X5_longestUnseen_vk (V) (hV) G _ M I a1 k2 hk_k2 (by omega) (by omega) fun x38  hx38 kx38 PM37 => ?_)
        have PnM37 := PM37
        refine PW.rI q_61_53 rfl (by decide) (by decide) ?_
        exact hK x38 (by omega) (by omega) ⟨fun h => by omega, fun _ => PnM37, fun _ h => by omega⟩
    · skip
      refine PW.aload_n q_61_36 rfl ?_
      refine PW.iload_n q_61_37 rfl ?_
      refine PW.aload_n q_61_38 rfl ?_
      refine PW.cV (as := [_, _]) (rest := []) q_61_39 t_mv_61_184 hk_k0 I.1 (by decide) rfl (by decide) rfl rfl (Nat.le_of_ble_eq_true rfl) (Nat.le_of_ble_eq_true rfl) (by decide) (by decide) ?_
      refine PW.up (by decide) (c_X5_nearestTo_vk (V) (hV) G _ M I k0 hk_k0 a1 k2 hk_k2 (by omega) (by omega) fun x40  hx40 kx40 PM39 => ?_)
      have PnM39 := PM39
      refine PW.rI q_61_42 rfl (by decide) (by decide) ?_
      exact hK x40 (by omega) (by omega) ⟨fun _ => PnM39, fun h => by omega, fun h => by omega⟩
  · skip
    refine PW.aload_n q_61_15 rfl ?_
    refine PW.gE q_61_16 (Or.inl t_ft_61_9) gF_5_1 hk_k0 I.1 (by decide) fx3 ?_
    refine PW.aload_n q_61_19 rfl ?_
    refine PW.gI q_61_20 (Or.inr t_fN_61_165) gF_9_6 hk_k2 I.1 (by decide) fun x41 fx41 hx41 kx41 => ?_
    have ix41 := o_i_of fx41
    refine PW.jc_eq q_61_23 rfl (fun h42 => ?_) (fun h42 => ?_)
    · skip
      refine PW.iload_n q_61_31 rfl ?_
      refine PW.cI q_61_32 (by decide) fun c43 hc43 => ?_
      refine PW.jc_ne q_61_33 rfl (fun h44 => ?_) (fun h44 => ?_)
      · skip
        refine PW.iload_n q_61_43 rfl ?_
        refine PW.cI q_61_44 (by decide) fun c45 hc45 => ?_
        refine PW.jc_ne q_61_45 rfl (fun h46 => ?_) (fun h46 => ?_)
        · skip
          refine PW.iload_n q_61_54 rfl ?_
          refine PW.cI q_61_55 (by decide) fun c47 hc47 => ?_
          refine PW.jc_ne q_61_56 rfl (fun h48 => ?_) (fun h48 => ?_)
          · skip
            refine PW.aload_n q_61_83 rfl ?_
            refine PW.gE q_61_84 (Or.inr t_fN_61_165) gF_9_6 hk_k2 I.1 (by decide) fx41 ?_
            refine PW.cI q_61_87 (by decide) fun c49 hc49 => ?_
            refine PW.addN q_61_88 (by omega) (by omega) fun x50 hx50 => ?_
            refine PW.iload_n q_61_89 rfl ?_
            refine PW.jc_ge q_61_90 rfl (fun h51 => ?_) (fun h51 => ?_)
            · skip
              refine PW.cI q_61_102 (by decide) fun c52 hc52 => ?_
              refine PW.rI q_61_103 rfl (by decide) (by decide) ?_
              exact hK c52 (by omega) (by omega) ⟨fun h => by omega, fun h => by omega, fun _ _ => by unfold d_ot; split; (· omega); (· omega)⟩
            · skip
              refine PW.aload_n q_61_93 rfl ?_
              refine PW.gE q_61_94 (Or.inr t_fN_61_165) gF_9_6 hk_k2 I.1 (by decide) fx41 ?_
              refine PW.cI q_61_97 (by decide) fun c53 hc53 => ?_
              refine PW.addN q_61_98 (by omega) (by omega) fun x54 hx54 => ?_
              refine PW.goto q_61_99 rfl ?_
              refine PW.rI q_61_103 rfl (by decide) (by decide) ?_
              exact hK x54 (by omega) (by omega) ⟨fun h => by omega, fun h => by omega, fun _ _ => by unfold d_ot; split; (· omega); (· omega)⟩
          · skip
            refine PW.aload_n q_61_59 rfl ?_
            refine PW.gI q_61_60 (Or.inl t_ft_61_15) gF_5_2 hk_k0 I.1 (by decide) fun x55 fx55 hx55 kx55 => ?_
            have ix55 := o_i_of fx55
            clear hx55 kx55
            refine PW.cI q_61_63 (by decide) fun c56 hc56 => ?_
            refine PW.jc_eq q_61_64 rfl (fun h57 => ?_) (fun h57 => ?_)
            · skip
              refine PW.aload_n q_61_83 rfl ?_
              refine PW.gE q_61_84 (Or.inr t_fN_61_165) gF_9_6 hk_k2 I.1 (by decide) fx41 ?_
              refine PW.cI q_61_87 (by decide) fun c58 hc58 => ?_
              refine PW.addN q_61_88 (by omega) (by omega) fun x59 hx59 => ?_
              refine PW.iload_n q_61_89 rfl ?_
              refine PW.jc_ge q_61_90 rfl (fun h60 => ?_) (fun h60 => ?_)
              · skip
                refine PW.cI q_61_102 (by decide) fun c61 hc61 => ?_
                refine PW.rI q_61_103 rfl (by decide) (by decide) ?_
                exact hK c61 (by omega) (by omega) ⟨fun h => by omega, fun h => by omega, fun _ _ => by unfold d_ot; split; (· omega); (· omega)⟩
              · skip
                refine PW.aload_n q_61_93 rfl ?_
                refine PW.gE q_61_94 (Or.inr t_fN_61_165) gF_9_6 hk_k2 I.1 (by decide) fx41 ?_
                refine PW.cI q_61_97 (by decide) fun c62 hc62 => ?_
                refine PW.addN q_61_98 (by omega) (by omega) fun x63 hx63 => ?_
                refine PW.goto q_61_99 rfl ?_
                refine PW.rI q_61_103 rfl (by decide) (by decide) ?_
                exact hK x63 (by omega) (by omega) ⟨fun h => by omega, fun h => by omega, fun _ _ => by unfold d_ot; split; (· omega); (· omega)⟩
            · skip
              refine PW.aload_n q_61_67 rfl ?_
              refine PW.gE q_61_68 (Or.inl t_ft_61_15) gF_5_2 hk_k0 I.1 (by decide) fx55 ?_
              refine PW.aload_n q_61_71 rfl ?_
              refine PW.gE q_61_72 (Or.inr t_fN_61_165) gF_9_6 hk_k2 I.1 (by decide) fx41 ?_
              refine PW.jc_eq q_61_75 rfl (fun h64 => ?_) (fun h64 => ?_)
              · skip
                refine PW.aload_n q_61_83 rfl ?_
                refine PW.gE q_61_84 (Or.inr t_fN_61_165) gF_9_6 hk_k2 I.1 (by decide) fx41 ?_
                refine PW.cI q_61_87 (by decide) fun c65 hc65 => ?_
                refine PW.addN q_61_88 (by omega) (by omega) fun x66 hx66 => ?_
                refine PW.iload_n q_61_89 rfl ?_
                refine PW.jc_ge q_61_90 rfl (fun h67 => ?_) (fun h67 => ?_)
                · skip
                  refine PW.cI q_61_102 (by decide) fun c68 hc68 => ?_
                  refine PW.rI q_61_103 rfl (by decide) (by decide) ?_
                  exact hK c68 (by omega) (by omega) ⟨fun h => by omega, fun h => by omega, fun _ _ => by unfold d_ot; split; (· omega); (· omega)⟩
                · skip
                  refine PW.aload_n q_61_93 rfl ?_
                  refine PW.gE q_61_94 (Or.inr t_fN_61_165) gF_9_6 hk_k2 I.1 (by decide) fx41 ?_
                  refine PW.cI q_61_97 (by decide) fun c69 hc69 => ?_
                  refine PW.addN q_61_98 (by omega) (by omega) fun x70 hx70 => ?_
                  refine PW.goto q_61_99 rfl ?_
                  refine PW.rI q_61_103 rfl (by decide) (by decide) ?_
                  exact hK x70 (by omega) (by omega) ⟨fun h => by omega, fun h => by omega, fun _ _ => by unfold d_ot; split; (· omega); (· omega)⟩
              · skip
                refine PW.aload_n q_61_78 rfl ?_
                refine PW.gE q_61_79 (Or.inl t_ft_61_15) gF_5_2 hk_k0 I.1 (by decide) fx55 ?_
                refine PW.rI q_61_82 rfl (by decide) (by decide) ?_
                exact hK x55 (by omega) (by omega) ⟨fun h => by omega, fun h => by omega, fun _ _ => by unfold d_ot; split; (· omega); (· omega)⟩
        · skip
          refine PW.iload_n q_61_48 rfl ?_
          refine PW.aload_n q_61_49 rfl ?_
          refine PW.callS (as := [_, _]) (rest := []) q_61_50 t_ms_61_188 (by decide) rfl (Nat.le_of_ble_eq_true rfl) (Nat.le_of_ble_eq_true rfl) (by decide) (by decide) ?_
          refine PW.up (by decide) (c_X5_longestUnseen_vk (V) (hV) G _ M I a1 k2 hk_k2 (by omega) (by omega) fun x72  hx72 kx72 PM71 => ?_)
          have PnM71 := PM71
          refine PW.rI q_61_53 rfl (by decide) (by decide) ?_
          exact hK x72 (by omega) (by omega) ⟨fun h => by omega, fun _ => PnM71, fun _ h => by omega⟩
      · skip
        refine PW.aload_n q_61_36 rfl ?_
        refine PW.iload_n q_61_37 rfl ?_
        refine PW.aload_n q_61_38 rfl ?_
        refine PW.cV (as := [_, _]) (rest := []) q_61_39 t_mv_61_184 hk_k0 I.1 (by decide) rfl (by decide) rfl rfl (Nat.le_of_ble_eq_true rfl) (Nat.le_of_ble_eq_true rfl) (by decide) (by decide) ?_
        refine PW.up (by decide) (c_X5_nearestTo_vk (V) (hV) G _ M I k0 hk_k0 a1 k2 hk_k2 (by omega) (by omega) fun x74  hx74 kx74 PM73 => ?_)
        have PnM73 := PM73
        refine PW.rI q_61_42 rfl (by decide) (by decide) ?_
        exact hK x74 (by omega) (by omega) ⟨fun _ => PnM73, fun h => by omega, fun h => by omega⟩
    · skip
      refine PW.aload_n q_61_26 rfl ?_
      refine PW.gE q_61_27 (Or.inl t_ft_61_9) gF_5_1 hk_k0 I.1 (by decide) fx3 ?_
      refine PW.rI q_61_30 rfl (by decide) (by decide) ?_
      exact hK x3 (by omega) (by omega) ⟨fun h => by omega, fun h => by omega, fun _ _ => by unfold d_ot; split; (· omega); (· omega)⟩
theorem k_rem {M M1 M2 : pM} {k a q v : Nat} {w : Int} {x : Int32} (U2 : ∀ c, c ≠ k → M2 c = M1 c) (U : gVv M M1 a q) (f : o_a (M1 a) q = x) (ha : a = k + 1) (hq : (q : Int) = w) (hv : v < 6) (hk : True) : kUn M2 k v = d_lu (kUn M k) w x.toInt v := by
  subst ha
  show (o_a (M2 (k + 1)) v).toInt = _
  rw [U2 (k + 1) (by omega)]
  by_cases e : v = q
  · subst e
    rw [f, d_lu_e hq]
  · rw [U.2 v e, d_lu_n (by omega)]
    rfl
/-- from walker to walker -/
def kdl (M : pM) (k0 : Nat) : Nat → Nat → Int := fun a b => if a < 6 ∧ b < 6 then d_xa (o_x (M (k0 + 2 + a)) 0) (o_x (M (k0 + 2 + b)) 0) else 0
theorem d_xa_s (p q : Int32) : d_xa p q = d_xa q p := by
  have a := Int32.toInt_sub p q
  have b := Int32.toInt_sub q p
  have c := Int32.toInt_sub 0 (p - q)
  have d := Int32.toInt_sub 0 (q - p)
  have z : (0 : Int32).toInt = 0 := by decide
  have p1 := n_lo p
  have p2 := n_hi p
  have q1 := n_lo q
  have q2 := n_hi q
  have x1 := n_lo (p - q)
  have x2 := n_hi (p - q)
  have y1 := n_lo (q - p)
  have y2 := n_hi (q - p)
  have a2 := d_bm (p.toInt - q.toInt) (by omega) (by omega)
  have b2 := d_bm (q.toInt - p.toInt) (by omega) (by omega)
  have c2 := d_bm (0 - (p - q).toInt) (by omega) (by omega)
  have d2 := d_bm (0 - (q - p).toInt) (by omega) (by omega)
  rw [z] at c d
  have e1 : (0 : Int32) ≤ p - q ↔ 0 ≤ (p - q).toInt := by rw [Int32.le_iff_toInt_le, z]
  have e2 : (0 : Int32) ≤ q - p ↔ 0 ≤ (q - p).toInt := by rw [Int32.le_iff_toInt_le, z]
  have a3 : (p - q).toInt = (p.toInt - q.toInt).bmod 4294967296 := a
  have b3 : (q - p).toInt = (q.toInt - p.toInt).bmod 4294967296 := b
  have c3 : (0 - (p - q)).toInt = (0 - (p - q).toInt).bmod 4294967296 := c
  have d3 : (0 - (q - p)).toInt = (0 - (q - p).toInt).bmod 4294967296 := d
  unfold d_xa
  by_cases u : (0 : Int32) ≤ p - q
  · rw [if_pos u]
    have u1 := e1.mp u
    by_cases v : (0 : Int32) ≤ q - p
    · rw [if_pos v]; have v1 := e2.mp v; omega
    · rw [if_neg v]; have v1 : ¬ 0 ≤ (q - p).toInt := fun h => v (e2.mpr h); omega
  · rw [if_neg u]
    have u1 : ¬ 0 ≤ (p - q).toInt := fun h => u (e1.mpr h)
    by_cases v : (0 : Int32) ≤ q - p
    · rw [if_pos v]; have v1 := e2.mp v; omega
    · rw [if_neg v]; have v1 : ¬ 0 ≤ (q - p).toInt := fun h => v (e2.mpr h); omega
theorem kdl_s (M : pM) (k0 a b : Nat) : kdl M k0 a b = kdl M k0 b a := by
  unfold kdl
  by_cases h : a < 6 ∧ b < 6
  · rw [if_pos h, if_pos ⟨h.2, h.1⟩]; exact d_xa_s _ _
  · rw [if_neg h, if_neg (fun q => h ⟨q.2, q.1⟩)]
theorem kdl.fr {l : List Nat} {M M1 : pM} {k0 : Nat} (F : Fr l M M1) (hk : g_kd k0 = 5) (hl : l.contains 7 = false) : kdl M1 k0 = kdl M k0 := by
  have e : ∀ v, v < 6 → M1 (k0 + 2 + v) = M (k0 + 2 + v) := fun v hv => by
    have kd := (g_k5 hk).2.2.2.2.2.1 v hv
    rw [show k0 + 1 + 1 + 1 * v = k0 + 2 + v from by omega] at kd
    exact F.at kd hl
  funext a b
  unfold kdl
  by_cases h : a < 6 ∧ b < 6
  · rw [if_pos h, if_pos h, e a h.1, e b h.2]
  · rw [if_neg h, if_neg h]
theorem c_X0_remember_vk (V : pM → Prop) (hV : Stab V) (G : pG) (Kr : pK) (M : pM) (I : Iv V M) (k0 : Nat) (hk_k0 : g_kd k0 = 9) (a1 : Int32) (a2 : Int32) (hl_a1 : 0 ≤ a1.toInt) (hh_a1 : a1.toInt ≤ 5) (bw : Nat) (hw : gWb bw M) (hw_0 : a2.toInt < 600 ∨ bw ≤ k0 + 1) (hK : ∀ (M1 : pM), Iv V M1 → Fr [9, 10] M M1 → (o_i (M1 k0) 6 = a1.toInt ∧ ∀ v : Nat, v < 6 → kUn M1 k0 v = d_lu (kUn M k0) a1.toInt a2.toInt v) → (gWb bw M1) → Kr.1 none 311 M1) : PW G false 0 6 (p_mc 6) (p_msl 6) Kr 0 (lv_args 0 [.ref k0, .int a1, .int a2]) [] 311 M 0 0 := by
  have F : Fr [9, 10] M M := Fr.refl
  refine PW.iload_n q_6_0 rfl ?_
  refine PW.jz_lt q_6_1 rfl (fun h1 => False.elim (by omega)) (fun h1 => ?_)
  refine PW.iload_n q_6_4 rfl ?_
  refine PW.cB q_6_5 (by decide) fun c2 hc2 => ?_
  refine PW.jc_ge q_6_7 rfl (fun h3 => False.elim (by omega)) (fun h3 => ?_)
  refine PW.aload_n q_6_10 rfl ?_
  refine PW.gRk q_6_11 (Or.inl t_ft_6_15) gF_9_7 hk_k0 I.1 (by decide) fun b4 hk_b4 e_b4 => ?_
  refine PW.iload_n q_6_14 rfl ?_
  refine PW.iload_n q_6_15 rfl ?_
  refine PW.wI q_6_16 gA_10 hk_b4 hV I (by decide) rfl gC_10_0_5 (by decide) (by omega) (by omega) (n_lo _) (n_hi _) fun M5 IM5 fM5 UM5 => ?_
  have FM5 := Fr.pu F UM5.1 hk_b4 (rfl : List.contains [9, 10] 10 = true)
  refine PW.aload_n q_6_17 rfl ?_
  refine PW.iload_n q_6_18 rfl ?_
  refine PW.pI q_6_19 (Or.inl t_ft_6_44) gF_9_6 gP_9_6 hk_k0 hV IM5 (by decide) rfl (by omega) (by omega) fun M6 IM6 fM6 UM6 => ?_
  have FM6 := Fr.pu FM5 UM6.1 hk_k0 (rfl : List.contains [9, 10] 9 = true)
  refine PW.vret q_6_22 rfl (by decide) (by decide) ?_
  exact hK M6 IM6 FM6 ⟨(by have w := o_i_of fM6; omega), fun v hv => k_rem UM6.1 UM5 fM5 (by omega) (by omega) hv trivial⟩ ((hw.st UM5 hk_b4 fM5 (by omega)).ar UM6.1 hk_k0 (by decide))
/-- what a leap does -/
def kLp (M M1 : pM) (k0 k2 : Nat) (n law time x : Int) : Prop := 0 ≤ x ∧ x < n ∧ o_i (M1 k2) 6 = x ∧ (∀ v : Nat, v < 6 → kUn M1 k2 v = d_lu (kUn M k2) x time v) ∧ (law = 1 → x = d_nf (kdl M k0) n.toNat (o_i (M k2) 6)) ∧ (law = 2 → x = d_am (kUn M k2) (o_i (M k2) 6) n.toNat) ∧ (law ≠ 1 → law ≠ 2 → x = d_ot n (o_i (M k2) 6))
theorem k_lp {M M2 M3 : pM} {k0 k2 b : Nat} {n law time x : Int} {z : Int32} (U : gU M M2 k2 0) (hk0 : g_kd k0 = 5) (hk2 : g_kd k2 = 9) (f : o_f (M2 k2) 0 = .int z) (fb : o_f (M b) 0 = .int z) (hb : b = k0 + 2 + (o_i (M k2) 6).toNat) (hn2 : 2 ≤ n) (hn : n ≤ 6) (hl : 0 ≤ o_i (M k2) 6) (hl5 : o_i (M k2) 6 ≤ 5) (P : kCh M2 k0 k2 n law x) (Pl : o_i (M3 k2) 6 = x) (Pu : ∀ v : Nat, v < 6 → kUn M3 k2 v = d_lu (kUn M2 k2) x time v) : kLp M M3 k0 k2 n law time x := by
  have e6 : o_i (M2 k2) 6 = o_i (M k2) 6 := U.i (c := k2) (k := 6) (Or.inr (by decide))
  have eu : kUn M2 k2 = kUn M k2 := by
    funext v
    show (o_a (M2 (k2 + 1)) v).toInt = _
    rw [U.1 (k2 + 1) (by omega)]; rfl
  have en : ∀ v, v < n.toNat → kNe M2 k0 k2 v = kdl M k0 v (o_i (M k2) 6).toNat := fun v hv => by
    show d_xa (o_x (M2 (k0 + 2 + v)) 0) (o_x (M2 k2) 0) = (if v < 6 ∧ (o_i (M k2) 6).toNat < 6 then d_xa (o_x (M (k0 + 2 + v)) 0) (o_x (M (k0 + 2 + (o_i (M k2) 6).toNat)) 0) else 0)
    rw [if_pos ⟨by omega, by omega⟩]
    have kd := (g_k5 hk0).2.2.2.2.2.1 v (by omega)
    rw [U.1 (k0 + 2 + v) (fun e => by rw [show k0 + 1 + 1 + 1 * v = k2 from by omega, hk2] at kd; cases kd), o_x_of f, ← hb, o_x_of fb]
  have xb := P.b hn2 (by omega)
  obtain ⟨P1, P2, P3⟩ := P
  rw [e6] at P1 P2 P3
  rw [eu] at P2 Pu
  refine ⟨xb.1, xb.2, Pl, Pu, fun h => ?_, P2, P3⟩
  rw [P1 h]
  exact d_am_c n.toNat en
theorem c_X5_leap_vk (V : pM → Prop) (hV : Stab V) (G : pG) (Kr : pK) (M : pM) (I : Iv V M) (k0 : Nat) (hk_k0 : g_kd k0 = 5) (a1 : Int32) (k2 : Nat) (hk_k2 : g_kd k2 = 9) (a3 : Int32) (a4 : Int32) (hl_a1 : 2 ≤ a1.toInt) (hh_a1 : a1.toInt ≤ 6) (hp_0 : o_i (M k0) 1 = -1) (hp_1 : o_i (M k0) 2 = -1) (bw : Nat) (hw : gWb bw M) (hw_0 : a4.toInt < 600 ∨ bw ≤ k2 + 1) (hK : ∀ (x : Int32) (M1 : pM), Iv V M1 → Fr [9, 10] M M1 → 0 ≤ x.toInt → x.toInt ≤ 5 → (kLp M M1 k0 k2 a1.toInt a3.toInt a4.toInt x.toInt) → (gWb bw M1) → Kr.1 (some (.int x)) 311 M1) : PW G false 3 64 (p_mc 64) (p_msl 64) Kr 0 (lv_args 0 [.ref k0, .int a1, .ref k2, .int a3, .int a4]) [] 311 M 0 0 := by
  have F : Fr [9, 10] M M := Fr.refl
  refine PW.aload_n q_64_0 rfl ?_
  refine PW.aload_n q_64_1 rfl ?_
  refine PW.gRk q_64_2 (Or.inl t_ft_64_20) gF_5_3 hk_k0 I.1 (by decide) fun b1 hk_b1 e_b1 => ?_
  refine PW.aload_n q_64_5 rfl ?_
  refine PW.gI q_64_6 (Or.inr t_fN_64_165) gF_9_6 hk_k2 I.1 (by decide) fun x2 fx2 hx2 kx2 => ?_
  have ix2 := o_i_of fx2
  refine PW.aRk q_64_9 rfl (by decide) (by decide) hk_b1 I.1 (by decide) (by omega) (by omega) fun b3 hk_b3 e_b3 => ?_
  refine PW.gI q_64_10 (Or.inr t_fN_64_76) gF_7_0 hk_b3 I.1 (by decide) fun x4 fx4 hx4 kx4 => ?_
  have ix4 := o_i_of fx4
  clear hx4 kx4
  have hb_b3 : b3 = k0 + 2 + x2.toInt.toNat := by rw [e_b3]; show b1 + 1 + 1 * _ = _; omega
  refine PW.pI q_64_13 (Or.inr t_fN_64_191) gF_9_0 gP_9_0 hk_k2 hV I (by decide) rfl (n_lo _) (n_hi _) fun M5 IM5 fM5 UM5 => ?_
  have FM5 := Fr.pu F UM5.1 hk_k2 (rfl : List.contains [9, 10] 9 = true)
  refine PW.aload_n q_64_16 rfl ?_
  refine PW.iload_n q_64_17 rfl ?_
  refine PW.aload_n q_64_18 rfl ?_
  refine PW.iload_n q_64_19 rfl ?_
  refine PW.cV (as := [_, _, _]) (rest := []) q_64_20 t_mv_64_157 hk_k0 IM5.1 (by decide) rfl (by decide) rfl rfl (Nat.le_of_ble_eq_true rfl) (Nat.le_of_ble_eq_true rfl) (by decide) (by decide) ?_
  refine PW.up (by decide) (c_X5_choice_vk (V) (hV) G _ M5 IM5 k0 hk_k0 a1 k2 hk_k2 a3 (by omega) (by omega) (by rw [UM5.1 k0 (g_ne hk_k0 hk_k2 (by decide))]; exact hp_0) (by rw [UM5.1 k0 (g_ne hk_k0 hk_k2 (by decide))]; exact hp_1) fun x7  hx7 kx7 PM6 => ?_)
  have PcM6 := PM6
  have t6 : o_i (M5 k2) 6 = o_i (M k2) 6 := UM5.i (c := k2) (k := 6) (Or.inr (by decide))
  have xb := kCh.b PcM6 (by omega) (by omega)
  refine PW.istore q_64_23 (by decide) ?_
  refine PW.aload_n q_64_25 rfl ?_
  refine PW.iload q_64_26 rfl ?_
  refine PW.iload q_64_28 rfl ?_
  refine PW.cV (as := [_, _]) (rest := []) q_64_30 t_mv_64_195 hk_k2 IM5.1 (by decide) rfl (by decide) rfl rfl (Nat.le_of_ble_eq_true rfl) (Nat.le_of_ble_eq_true rfl) (by decide) (by decide) ?_
  refine PW.up (by decide) (c_X0_remember_vk (V) (hV) G _ M5 IM5 k2 hk_k2 x7 a4 (by omega) (by omega) bw (hw.ar UM5.1 hk_k2 (by decide)) (by omega) fun M8 IM8 GM8 PM8 TM8 => ?_)
  have FM8 := Fr.trans FM5 GM8 (rfl)
  rcases PM8 with ⟨PlM8, PuM8⟩
  refine PW.iload q_64_33 rfl ?_
  refine PW.rI q_64_35 rfl (by decide) (by decide) ?_
  exact hK x7 M8 IM8 FM8 (by omega) (by omega) (k_lp UM5 hk_k0 hk_k2 fM5 fx4 (by omega) (by omega) (by omega) (by omega) (by omega) PcM6 PlM8 PuM8) TM8
def d_i1 (x : Int32) : Int32 := x - ((x.toUInt32 >>> ((Int32.ofInt 1).toUInt32 &&& Int32.toUInt32 31)).toInt32 &&& 1431655765)
def d_i2 (x : Int32) : Int32 := (x &&& 858993459) + ((x.toUInt32 >>> ((Int32.ofInt 2).toUInt32 &&& Int32.toUInt32 31)).toInt32 &&& 858993459)
def d_i3 (x : Int32) : Int32 := (x + (x.toUInt32 >>> ((Int32.ofInt 4).toUInt32 &&& Int32.toUInt32 31)).toInt32) &&& 252645135
def d_i4 (x : Int32) : Int32 := x + (x.toUInt32 >>> (((Int8.ofInt 8).toInt32).toUInt32 &&& Int32.toUInt32 31)).toInt32
def d_i5 (x : Int32) : Int32 := x + (x.toUInt32 >>> (((Int8.ofInt 16).toInt32).toUInt32 &&& Int32.toUInt32 31)).toInt32
def d_i6 (x : Int32) : Int32 := x &&& (Int8.ofInt 63).toInt32
set_option maxRecDepth 100000 in
theorem d_iT : ∀ k, k < 64 → (d_i6 (d_i5 (d_i4 (d_i3 (d_i2 (d_i1 (Int32.ofNat k))))))).toInt = ((d_pc k : Nat) : Int) := by decide +kernel
theorem d_ofN {x : Int32} (h0 : 0 ≤ x.toInt) (h : x.toInt < 2000) : Int32.ofNat x.toInt.toNat = x := Int32.toInt_inj.mp (by rw [n_ofNat (by omega)]; omega)
theorem c_J6_bitCount_0f7a4_vk (V : pM → Prop) (hV : Stab V) (G : pG) (Kr : pK) (M : pM) (I : Iv V M) (a0 : Int32) (hl_a0 : 0 ≤ a0.toInt) (hh_a0 : a0.toInt ≤ 63) (hK : ∀ (x : Int32), (x.toInt = ((d_pc a0.toInt.toNat : Nat) : Int)) → Kr.1 (some (.int x)) 311 M) : PW G false 0 275 (p_mc 275) (p_msl 275) Kr 0 (lv_args 0 [.int a0]) [] 311 M 0 0 := by
  refine PW.iload_n q_275_0 rfl ?_
  refine PW.iload_n q_275_1 rfl ?_
  refine PW.iconst q_275_2 ?_
  refine PW.iushr q_275_3 ?_
  refine PW.ldcw q_275_4 t_it_275_265 ?_
  refine PW.iand q_275_7 ?_
  refine PW.isub q_275_8 ?_
  refine PW.nmI ?_; intro i1 ei1
  refine PW.istore_n q_275_9 (by decide) ?_
  refine PW.iload_n q_275_10 rfl ?_
  refine PW.ldcw q_275_11 t_it_275_266 ?_
  refine PW.iand q_275_14 ?_
  refine PW.iload_n q_275_15 rfl ?_
  refine PW.iconst q_275_16 ?_
  refine PW.iushr q_275_17 ?_
  refine PW.ldcw q_275_18 t_it_275_266 ?_
  refine PW.iand q_275_21 ?_
  refine PW.iadd q_275_22 ?_
  refine PW.nmI ?_; intro i2 ei2
  refine PW.istore_n q_275_23 (by decide) ?_
  refine PW.iload_n q_275_24 rfl ?_
  refine PW.iload_n q_275_25 rfl ?_
  refine PW.iconst q_275_26 ?_
  refine PW.iushr q_275_27 ?_
  refine PW.iadd q_275_28 ?_
  refine PW.ldcw q_275_29 t_it_275_267 ?_
  refine PW.iand q_275_32 ?_
  refine PW.nmI ?_; intro i3 ei3
  refine PW.istore_n q_275_33 (by decide) ?_
  refine PW.iload_n q_275_34 rfl ?_
  refine PW.iload_n q_275_35 rfl ?_
  refine PW.bipush q_275_36 ?_
  refine PW.iushr q_275_38 ?_
  refine PW.iadd q_275_39 ?_
  refine PW.nmI ?_; intro i4 ei4
  refine PW.istore_n q_275_40 (by decide) ?_
  refine PW.iload_n q_275_41 rfl ?_
  refine PW.iload_n q_275_42 rfl ?_
  refine PW.bipush q_275_43 ?_
  refine PW.iushr q_275_45 ?_
  refine PW.iadd q_275_46 ?_
  refine PW.nmI ?_; intro i5 ei5
  refine PW.istore_n q_275_47 (by decide) ?_
  refine PW.iload_n q_275_48 rfl ?_
  refine PW.bipush q_275_49 ?_
  refine PW.iand q_275_51 ?_
  refine PW.nmI ?_; intro i6 ei6
  refine PW.rI q_275_52 rfl (by decide) (by decide) ?_
  refine hK i6 ?_
  have w := d_iT a0.toInt.toNat (by omega)
  rw [d_ofN hl_a0 (by omega)] at w
  have e1 : i1 = d_i1 a0 := ei1
  have e2 : i2 = d_i2 i1 := ei2
  have e3 : i3 = d_i3 i2 := ei3
  have e4 : i4 = d_i4 i3 := ei4
  have e5 : i5 = d_i5 i4 := ei5
  have e6 : i6 = d_i6 i5 := ei6
  rw [e6, e5, e4, e3, e2, e1]; exact w

theorem gWs.cg {M M1 : pM} (h : gWs 275 M) (e1 : M1 285 = M 285) (e2 : M1 289 = M 289) : gWs 275 M1 := by
  refine ⟨fun i hi => ?_, fun i hi => ?_⟩
  · show (o_a (M1 285) i).toInt < 600; rw [e1]; exact h.1 i hi
  · show (o_a (M1 289) i).toInt < 600; rw [e2]; exact h.2 i hi
theorem gWs.un {M : pM} {k : Nat} (h : gWs 275 M) (hk : k = 284 ∨ k = 288) : ∀ v : Nat, v < 6 → kUn M k v < 600 := fun v hv => by
  rcases hk with rfl | rfl
  · exact h.1 v hv
  · exact h.2 v hv
theorem c_X11_foreseenQuiet_vk (G : pG) (Kr : pK) (M : pM) (I : Iv gTT M) (bw : Nat) (hw : gWb bw M) (hw_0 : bw = 275) (hK : ∀ (M1 : pM), Iv gTT M1 → Fr [5, 7, 9, 10, 11, 12, 13] M M1 → (gWs 275 M1 ∧ o_i (M1 275) 1 = -1 ∧ o_i (M1 275) 2 = -1) → (gWb bw M1) → Kr.1 (some (.ref 275)) 311 M1) : PW G false 5 156 (p_mc 156) (p_msl 156) Kr 0 (lv_args 0 [.ref 0]) [] 311 M 0 0 := by
  have F : Fr [5, 7, 9, 10, 11, 12, 13] M M := Fr.refl
  refine PW.aload_n q_156_0 rfl ?_
  refine PW.cV (as := []) (rest := []) q_156_1 t_mv_156_140 kd_0 I.1 (by decide) rfl (by decide) rfl rfl (Nat.le_of_ble_eq_true rfl) (Nat.le_of_ble_eq_true rfl) (by decide) (by decide) ?_
  refine PW.up (by decide) (c_X11_foreseen_w G _ M I bw hw (by omega) fun M1 IM1 GM1 TM1 XM1 => ?_)
  have FM1 := Fr.trans F GM1 (rfl)
  refine PW.astore_n q_156_4 (by decide) ?_
  refine PW.aload_n q_156_5 rfl ?_
  refine PW.cI q_156_6 (by decide) fun c2 hc2 => ?_
  refine PW.pI q_156_7 (Or.inr t_fN_156_233) gF_5_1 gP_5_1 kd_275 Stab0 IM1 (by decide) rfl (n_lo _) (n_hi _) fun M3 IM3 fM3 UM3 => ?_
  have FM3 := Fr.pu FM1 UM3.1 kd_275 (rfl : List.contains [5, 7, 9, 10, 11, 12, 13] 5 = true)
  refine PW.aload_n q_156_10 rfl ?_
  refine PW.cI q_156_11 (by decide) fun c4 hc4 => ?_
  refine PW.pI q_156_12 (Or.inr t_fN_156_236) gF_5_2 gP_5_2 kd_275 Stab0 IM3 (by decide) rfl (n_lo _) (n_hi _) fun M5 IM5 fM5 UM5 => ?_
  have FM5 := Fr.pu FM3 UM5.1 kd_275 (rfl : List.contains [5, 7, 9, 10, 11, 12, 13] 5 = true)
  refine PW.aload_n q_156_15 rfl ?_
  refine PW.aret q_156_16 rfl (by decide) (by decide) ?_
  exact hK M5 IM5 FM5 ⟨gWs.cg XM1 ((UM5.1 285 (by decide)).trans (UM3.1 285 (by decide))) ((UM5.1 289 (by decide)).trans (UM3.1 289 (by decide))), (by have w := o_i_of ((UM5.f (Or.inr (by decide))).trans fM3); omega), (by have w := o_i_of fM5; omega)⟩ ((TM1.ar UM3.1 kd_275 (by decide)).ar UM5.1 kd_275 (by decide))
/-- 18 leaps: i of them -/
def kRd (Me M : pM) (k2 : Nat) (law n i bits : Int) : Prop := o_i (M 275) 1 = -1 ∧ o_i (M 275) 2 = -1 ∧ kdl M 275 = kdl Me 275 ∧ ((i = 0 ∧ bits = 0 ∧ ∀ v : Nat, v < 6 → kUn M k2 v < 600) ∨ (1 ≤ i ∧ ∃ (l0 : Int) (s0 : Nat → Int), 0 ≤ l0 ∧ l0 < n ∧ (∀ v : Nat, v < 6 → s0 v < 601) ∧ o_i (M k2) 6 = (d_ck law n.toNat (kdl Me 275) 601 l0 s0 (i - 1).toNat).1 ∧ (∀ v : Nat, v < 6 → kUn M k2 v = (d_ck law n.toNat (kdl Me 275) 601 l0 s0 (i - 1).toNat).2 v) ∧ bits = ((d_bs (fun k => (d_ck law n.toNat (kdl Me 275) 601 l0 s0 (12 + k)).1) (i.toNat - 12) : Nat) : Int)))
theorem kLp.nx {M M1 : pM} {k0 k2 : Nat} {n law time x : Int} {s : Nat → Int} (P : kLp M M1 k0 k2 n law time x) (hn : 2 ≤ n) (h6 : n ≤ 6) (hl : 0 ≤ o_i (M k2) 6) (h5 : o_i (M k2) 6 < n) (hs : ∀ v : Nat, v < 6 → kUn M k2 v = s v) : x = d_nx law n.toNat (kdl M k0) (o_i (M k2) 6) s := by
  obtain ⟨p1, p2, p3, p4, p5, p6, p7⟩ := P
  by_cases a : law = 1
  · rw [d_nx_1 a]; exact p5 a
  · by_cases b : law = 2
    · rw [d_nx_2 b, p6 b]; exact (d_am_c _ (fun v hv => (hs v (by omega)).symm)).symm
    · rw [d_nx_0 a b, p7 a b, show ((n.toNat : Nat) : Int) = n from by omega]
theorem kRd.step {Me M M1 : pM} {k2 : Nat} {law law' n n' i x i' bits bits' time : Int} (h : kRd Me M k2 law n i bits) (P : kLp M M1 275 k2 n' law' time x) (hn' : n' = n) (hl' : law' = law) (ht : time = 600 + i) (hn : 2 ≤ n) (h6 : n ≤ 6) (e1 : o_i (M1 275) 1 = o_i (M 275) 1) (e2 : o_i (M1 275) 2 = o_i (M 275) 2) (ed : kdl M1 275 = kdl M 275) (hi : i' = i + 1) (hb : (i < 12 ∧ bits' = bits) ∨ (12 ≤ i ∧ bits' = ((bits.toNat ||| 1 <<< x.toNat : Nat) : Int))) : kRd Me M1 k2 law n i' bits' := by
  subst hn'; subst hl'; subst hi
  obtain ⟨a1, a2, a3, a4⟩ := h
  have P0 := P
  obtain ⟨p1, p2, p3, p4, p5, p6, p7⟩ := P
  refine ⟨by rw [e1]; exact a1, by rw [e2]; exact a2, by rw [ed]; exact a3, Or.inr ?_⟩
  rcases a4 with ⟨i0, b0, s1⟩ | ⟨i1, l0, s0, c1, c2, c3, c4, c5, c6⟩
  · have e : (i + 1 - 1).toNat = 0 := by omega
    have e' : (i + 1).toNat - 12 = 0 := by omega
    refine ⟨by omega, x, fun v => kUn M1 k2 v, p1, p2, fun v hv => ?_, ?_, fun v hv => ?_, ?_⟩
    · show kUn M1 k2 v < 601
      rw [p4 v hv]
      by_cases q : (v : Int) = x
      · rw [d_lu_e q]; omega
      · rw [d_lu_n q]; have := s1 v hv; omega
    · rw [e]; exact p3
    · rw [e]; rfl
    · rw [e']
      rcases hb with ⟨-, q⟩ | ⟨q, -⟩
      · rw [q, b0]; rfl
      · omega
  · have e : (i + 1 - 1).toNat = (i - 1).toNat + 1 := by omega
    have b := d_ck_b (law := law') (n := n'.toNat) (dl := kdl Me 275) (T := 601) (s := s0) (by omega) c1 (by omega) (i - 1).toNat
    rw [← c4] at b
    have ex := P0.nx hn h6 b.1 (by omega) c5
    rw [a3, c4, ← d_ck_s1] at ex
    refine ⟨by omega, l0, s0, c1, c2, c3, ?_, fun v hv => ?_, ?_⟩
    · rw [e, p3]; exact ex
    · rw [e, d_ck_s2, ← ex, p4 v hv]
      by_cases q : (v : Int) = x
      · rw [d_lu_e q, d_lu_e q]; omega
      · rw [d_lu_n q, d_lu_n q]; exact c5 v hv
    · rcases hb with ⟨q1, q⟩ | ⟨q1, q⟩
      · rw [show (i + 1).toNat - 12 = 0 from by omega, q, c6, show i.toNat - 12 = 0 from by omega]
      · rw [show (i + 1).toNat - 12 = (i.toNat - 12) + 1 from by omega, q, c6]
        show _ = ((d_bs _ (i.toNat - 12) ||| (1 <<< ((d_ck law' n'.toNat (kdl Me 275) 601 l0 s0 (12 + (i.toNat - 12))).1).toNat) : Nat) : Int)
        rw [show 12 + (i.toNat - 12) = (i - 1).toNat + 1 from by omega, ← ex, Int.toNat_natCast]
theorem kRd.fin {Me M : pM} {k2 : Nat} {law n i bits : Int} (h : kRd Me M k2 law n i bits) (hi : i = 18) (hn : 2 ≤ n) (h6 : n ≤ 6) : d_pc bits.toNat = d_rn law n.toNat := by
  obtain ⟨a1, a2, a3, a4⟩ := h
  rcases a4 with ⟨i0, b0, s1⟩ | ⟨i1, l0, s0, c1, c2, c3, c4, c5, c6⟩
  · omega
  · rw [c6, Int.toNat_natCast, show i.toNat - 12 = 6 from by omega]
    exact d_cpop (kdl_s Me 275) (by omega) (by omega) c1 (by omega) (fun v hv => c3 v (by omega))
set_option maxRecDepth 100000 in
theorem d_orT : ∀ b, b < 64 → ∀ x, x < 6 → (Int32.ofNat b ||| (Int32.ofNat 1 <<< (Int32.ofNat x &&& 31))).toInt = ((b ||| 1 <<< x : Nat) : Int) := by decide +kernel
set_option maxRecDepth 100000 in
theorem d_orB : ∀ b, b < 64 → ∀ x, x < 6 → b ||| 1 <<< x < 64 := by decide +kernel
theorem d_orI {b x c s z : Int32} (b0 : 0 ≤ b.toInt) (b1 : b.toInt ≤ 63) (x0 : 0 ≤ x.toInt) (x1 : x.toInt ≤ 5) (hc : c.toInt = 1) (es : s = c <<< (x &&& 31)) (ez : z = b ||| s) : z.toInt = ((b.toInt.toNat ||| 1 <<< x.toInt.toNat : Nat) : Int) ∧ 0 ≤ z.toInt ∧ z.toInt ≤ 63 := by
  have w := d_orT b.toInt.toNat (by omega) x.toInt.toNat (by omega)
  have v := d_orB b.toInt.toNat (by omega) x.toInt.toNat (by omega)
  have e : c = Int32.ofNat 1 := Int32.toInt_inj.mp (by rw [hc]; rfl)
  rw [d_ofN b0 (by omega), d_ofN x0 (by omega), ← e, ← es, ← ez] at w
  exact ⟨w, by omega, by omega⟩
theorem c_X11_roundBits_vk (G : pG) (Kr : pK) (M : pM) (I : Iv gTT M) (a1 : Int32) (hl_a1 : 0 ≤ a1.toInt) (hh_a1 : a1.toInt ≤ 1) (hp_0 : 2 ≤ o_i (M 4) 6) (hp_1 : o_i (M 4) 6 ≤ 6) (bw : Nat) (hw : gWb bw M) (hw_0 : bw = 275) (hK : ∀ (x : Int32) (M1 : pM), Iv gTT M1 → Fr [5, 7, 9, 10, 11, 12, 13] M M1 → 0 ≤ x.toInt → x.toInt ≤ 63 → (d_pc x.toInt.toNat = d_rn (o_a (M 13) a1.toInt.toNat).toInt (o_i (M 4) 6).toNat) → (gWb bw M1) → Kr.1 (some (.int x)) 311 M1) : PW G false 6 158 (p_mc 158) (p_msl 158) Kr 0 (lv_args 0 [.ref 0, .int a1]) [] 311 M 0 0 := by
  have F : Fr [5, 7, 9, 10, 11, 12, 13] M M := Fr.refl
  refine PW.aload_n q_158_0 rfl ?_
  refine PW.cV (as := []) (rest := []) q_158_1 t_mv_158_399 kd_0 I.1 (by decide) rfl (by decide) rfl rfl (Nat.le_of_ble_eq_true rfl) (Nat.le_of_ble_eq_true rfl) (by decide) (by decide) ?_
  refine PW.up (by decide) (c_X11_foreseenQuiet_vk G _ M I bw hw (by omega) fun M1 IM1 GM1 PM1 TM1 => ?_)
  have FM1 := Fr.trans F GM1 (rfl)
  rcases PM1 with ⟨PwM1, P1M1, P2M1⟩
  refine PW.astore_n q_158_4 (by decide) ?_
  refine PW.aload_n q_158_5 rfl ?_
  refine PW.gR 283 q_158_6 (Or.inr t_fN_158_206) gF_5_4 kd_275 IM1.1 (by decide) rfl ?_
  refine PW.iload_n q_158_9 rfl ?_
  refine PW.aRk q_158_10 rfl (by decide) (by decide) kd_283 IM1.1 (by decide) (by omega) (by omega) fun b2 hk_b2 e_b2 => ?_
  have hb_b2 : b2 = 284 + 4 * a1.toInt.toNat := by rw [e_b2]; show 283 + 1 + 4 * _ = _; omega
  refine PW.astore_n q_158_11 (by decide) ?_
  refine PW.cI q_158_12 (by decide) fun c3 hc3 => ?_
  refine PW.istore q_158_13 (by decide) ?_
  refine PW.cI q_158_15 (by decide) fun c4 hc4 => ?_
  refine PW.istore q_158_16 (by decide) ?_
  have L158_18_5 : ∀ (n : Nat) (ML158_18_5 : pM) (v6 v7 : Int32), Iv (gTT) ML158_18_5 → Fr [5, 7, 9, 10, 11, 12, 13] M ML158_18_5 → 0 ≤ v6.toInt → v6.toInt ≤ 63 → 0 ≤ v7.toInt → v7.toInt ≤ 18 → kRd M1 ML158_18_5 b2 (o_a (M 13) a1.toInt.toNat).toInt (o_i (M 4) 6) v7.toInt v6.toInt → gWb bw ML158_18_5 → (18 - v7.toInt).toNat = n → PW G false 6 158 (p_mc 158) (p_msl 158) Kr 18 [(0, .ref 0), (1, .int a1), (2, .ref 275), (3, .ref b2), (4, .int v6), (5, .int v7)] [] 311 ML158_18_5 0 0 := by
    intro n
    induction n using Nat.strongRecOn with
    | ind n ih_L158_18_5 =>
    intro ML158_18_5 v6 v7 IML158_18_5 FML158_18_5 hbL158_18_50 hbL158_18_51 hbL158_18_52 hbL158_18_53 hbL158_18_54 hbL158_18_55 hmL158_18_5
    refine PW.iload q_158_18 rfl ?_
    refine PW.cB q_158_20 (by decide) fun c8 hc8 => ?_
    refine PW.jc_ge q_158_22 rfl (fun h9 => ?_) (fun h9 => ?_)
    · skip
      refine PW.iload q_158_88 rfl ?_
      refine PW.rI q_158_90 rfl (by decide) (by decide) ?_
      exact hK v6 ML158_18_5 IML158_18_5 FML158_18_5 (by omega) (by omega) (kRd.fin hbL158_18_54 (by omega) hp_0 (by omega)) hbL158_18_55
    · skip
      refine PW.aload_n q_158_25 rfl ?_
      refine PW.aload_n q_158_26 rfl ?_
      refine PW.gR 3 q_158_27 (Or.inl t_ft_158_19) gF_0_1 kd_0 IML158_18_5.1 (by decide) rfl ?_
      refine PW.gR 4 q_158_30 (Or.inr t_fN_158_94) gF_3_0 kd_3 IML158_18_5.1 (by decide) rfl ?_
      refine PW.gI q_158_33 (Or.inr t_fN_158_136) gF_4_6 kd_4 IML158_18_5.1 (by decide) fun x10 fx10 hx10 kx10 => ?_
      have ix10 := o_i_of fx10
      have nw : o_i (M 4) 6 = x10.toInt := by rw [← Fr.at FML158_18_5 kd_4 rfl]; exact ix10
      refine PW.aload_n q_158_36 rfl ?_
      refine PW.aload_n q_158_37 rfl ?_
      refine PW.gR 3 q_158_38 (Or.inl t_ft_158_19) gF_0_1 kd_0 IML158_18_5.1 (by decide) rfl ?_
      refine PW.gR 4 q_158_41 (Or.inr t_fN_158_94) gF_3_0 kd_3 IML158_18_5.1 (by decide) rfl ?_
      refine PW.gR 13 q_158_44 (Or.inr t_fN_158_321) gF_4_16 kd_4 IML158_18_5.1 (by decide) rfl ?_
      refine PW.iload_n q_158_47 rfl ?_
      refine PW.aH q_158_48 gA_35 kd_13 IML158_18_5.1 (by decide) (by omega) (by omega) fun x11 fx11 => ?_
      have lw : (o_a (M 13) a1.toInt.toNat).toInt = x11.toInt := by rw [← Fr.at FML158_18_5 kd_13 rfl, fx11]
      refine PW.cS q_158_49 (by decide) fun c12 hc12 => ?_
      refine PW.iload q_158_52 rfl ?_
      refine PW.addN q_158_54 (by omega) (by omega) fun x13 hx13 => ?_
      refine PW.cV (as := [_, _, _, _]) (rest := []) q_158_55 t_mv_158_405 kd_275 IML158_18_5.1 (by decide) rfl (by decide) rfl rfl (Nat.le_of_ble_eq_true rfl) (Nat.le_of_ble_eq_true rfl) (by decide) (by decide) ?_
      refine PW.up (by decide) (c_X5_leap_vk (gTT) (Stab0) G _ ML158_18_5 IML158_18_5 275 kd_275 x10 b2 hk_b2 x11 x13 (by omega) (by omega) hbL158_18_54.1 hbL158_18_54.2.1 bw hbL158_18_55 (by omega) fun x15 M14 IM14 GM14 hx15 kx15 PM14 TM14 => ?_)
      have FM14 := Fr.trans FML158_18_5 GM14 (rfl)
      have PpM14 := PM14
      refine PW.istore q_158_58 (by decide) ?_
      refine PW.iload q_158_60 rfl ?_
      refine PW.cB q_158_62 (by decide) fun c16 hc16 => ?_
      refine PW.jc_lt q_158_64 rfl (fun h17 => ?_) (fun h17 => ?_)
      · skip
        refine PW.incN q_158_82 rfl (by decide) (by decide) (by omega) (by omega) fun x18 hx18 => ?_
        refine PW.goto q_158_85 rfl ?_
        refine PW.lvS (lk1 rfl (lk1 rfl (lk1 rfl (lk1 rfl (lk1 rfl (lk1 rfl lk0)))))) (ih_L158_18_5 _ ?_ M14 v6 x18 IM14 FM14 (by omega) (by omega) (by omega) (by omega) (kRd.step hbL158_18_54 PpM14 (by omega) (by omega) (by omega) hp_0 (by omega) (congrArg (fun e => o_i e 1) (Fr.at GM14 kd_275 rfl)) (congrArg (fun e => o_i e 2) (Fr.at GM14 kd_275 rfl)) (kdl.fr GM14 kd_275 rfl) (by omega) (Or.inl ⟨by omega, rfl⟩)) TM14 rfl)
        omega
      · skip
        refine PW.iload q_158_67 rfl ?_
        refine PW.cI q_158_69 (by decide) fun c19 hc19 => ?_
        refine PW.jc_eq q_158_70 rfl (fun h20 => False.elim (by omega)) (fun h20 => ?_)
        refine PW.iload q_158_73 rfl ?_
        refine PW.cI q_158_75 (by decide) fun c21 hc21 => ?_
        refine PW.iload q_158_76 rfl ?_
        refine PW.ishl q_158_78 ?_
        refine PW.nmI ?_; intro x22 ex22
        refine PW.ior q_158_79 ?_
        refine PW.nmI ?_; intro x23 ex23
        refine PW.istore q_158_80 (by decide) ?_
        refine PW.incN q_158_82 rfl (by decide) (by decide) (by omega) (by omega) fun x24 hx24 => ?_
        refine PW.goto q_158_85 rfl ?_
        have ob := d_orI (b := v6) (x := x15) (c := c21) (by omega) (by omega) (by omega) (by omega) (by omega) ex22 ex23
        have ob0 := ob.1
        have ob1 := ob.2.1
        have ob2 := ob.2.2
        refine PW.lvS (lk1 rfl (lk1 rfl (lk1 rfl (lk1 rfl (lk1 rfl (lk1 rfl lk0)))))) (ih_L158_18_5 _ ?_ M14 x23 x24 IM14 FM14 (by omega) (by omega) (by omega) (by omega) (kRd.step hbL158_18_54 PpM14 (by omega) (by omega) (by omega) hp_0 (by omega) (congrArg (fun e => o_i e 1) (Fr.at GM14 kd_275 rfl)) (congrArg (fun e => o_i e 2) (Fr.at GM14 kd_275 rfl)) (kdl.fr GM14 kd_275 rfl) (by omega) (Or.inr ⟨by omega, ob0⟩)) TM14 rfl)
        omega
  exact PW.lvS (lk1 rfl (lk1 rfl (lk1 rfl (lk1 rfl (lk1 rfl (lk1 rfl lk0)))))) (L158_18_5 _ M1 c3 c4 IM1 FM1 (by omega) (by omega) (by omega) (by omega) ⟨P1M1, P2M1, rfl, Or.inl ⟨by omega, by omega, gWs.un PwM1 (by omega)⟩⟩ TM1 rfl)
theorem c_X11_round_vk (G : pG) (Kr : pK) (M : pM) (I : Iv gTT M) (a1 : Int32) (bw : Nat) (hw : gWb bw M) (hw_0 : bw = 275) (hK : ∀ (x : Int32) (M1 : pM), Iv gTT M1 → Fr [5, 7, 9, 10, 11, 12, 13] M M1 → ((0 ≤ a1.toInt ∧ a1.toInt < o_i (M 4) 7 ∧ 2 ≤ o_i (M 4) 6 ∧ x.toInt = ((d_rn (o_a (M 13) a1.toInt.toNat).toInt (o_i (M 4) 6).toNat : Nat) : Int)) ∨ ((a1.toInt < 0 ∨ o_i (M 4) 7 ≤ a1.toInt ∨ o_i (M 4) 6 < 2) ∧ x.toInt = -1)) → (gWb bw M1) → Kr.1 (some (.int x)) 311 M1) : PW G false 7 141 (p_mc 141) (p_msl 141) Kr 0 (lv_args 0 [.ref 0, .int a1]) [] 311 M 0 0 := by
  have F : Fr [5, 7, 9, 10, 11, 12, 13] M M := Fr.refl
  refine PW.aload_n q_141_0 rfl ?_
  refine PW.iload_n q_141_1 rfl ?_
  refine PW.cV (as := [_]) (rest := []) q_141_2 t_mv_141_370 kd_0 I.1 (by decide) rfl (by decide) rfl rfl (Nat.le_of_ble_eq_true rfl) (Nat.le_of_ble_eq_true rfl) (by decide) (by decide) ?_
  refine PW.aload_n q_157_0 rfl ?_
  refine PW.iload_n q_157_1 rfl ?_
  refine PW.cV (as := [_]) (rest := []) q_157_2 t_mv_157_203 kd_0 I.1 (by decide) rfl (by decide) rfl rfl (Nat.le_of_ble_eq_true rfl) (Nat.le_of_ble_eq_true rfl) (by decide) (by decide) ?_
  refine PW.iload_n q_144_0 rfl ?_
  refine PW.jz_lt q_144_1 rfl (fun h1 => ?_) (fun h1 => ?_)
  · skip
    refine PW.cI q_144_22 (by decide) fun c2 hc2 => ?_
    refine PW.rZ q_144_23 rfl (by omega) (by omega) (by decide) (by decide) ?_
    refine PW.jz_eq q_157_5 rfl (fun h3 => ?_) (fun h3 => False.elim (by omega))
    refine PW.cI q_157_26 (by decide) fun c4 hc4 => ?_
    refine PW.rZ q_157_27 rfl (by omega) (by omega) (by decide) (by decide) ?_
    refine PW.jz_eq q_141_5 rfl (fun h5 => ?_) (fun h5 => False.elim (by omega))
    refine PW.cI q_141_19 (by decide) fun c6 hc6 => ?_
    refine PW.rI q_141_20 rfl (by decide) (by decide) ?_
    exact hK c6 M I F (Or.inr ⟨by omega, by omega⟩) hw
  · skip
    refine PW.iload_n q_144_4 rfl ?_
    refine PW.aload_n q_144_5 rfl ?_
    refine PW.gR 3 q_144_6 (Or.inl t_ft_144_19) gF_0_1 kd_0 I.1 (by decide) rfl ?_
    refine PW.gR 4 q_144_9 (Or.inr t_fN_144_94) gF_3_0 kd_3 I.1 (by decide) rfl ?_
    refine PW.gI q_144_12 (Or.inr t_fN_144_249) gF_4_7 kd_4 I.1 (by decide) fun x7 fx7 hx7 kx7 => ?_
    have ix7 := o_i_of fx7
    refine PW.jc_ge q_144_15 rfl (fun h8 => ?_) (fun h8 => ?_)
    · skip
      refine PW.cI q_144_22 (by decide) fun c9 hc9 => ?_
      refine PW.rZ q_144_23 rfl (by omega) (by omega) (by decide) (by decide) ?_
      refine PW.jz_eq q_157_5 rfl (fun h10 => ?_) (fun h10 => False.elim (by omega))
      refine PW.cI q_157_26 (by decide) fun c11 hc11 => ?_
      refine PW.rZ q_157_27 rfl (by omega) (by omega) (by decide) (by decide) ?_
      refine PW.jz_eq q_141_5 rfl (fun h12 => ?_) (fun h12 => False.elim (by omega))
      refine PW.cI q_141_19 (by decide) fun c13 hc13 => ?_
      refine PW.rI q_141_20 rfl (by decide) (by decide) ?_
      exact hK c13 M I F (Or.inr ⟨by omega, by omega⟩) hw
    · skip
      refine PW.cI q_144_18 (by decide) fun c14 hc14 => ?_
      refine PW.goto q_144_19 rfl ?_
      refine PW.rZ q_144_23 rfl (by omega) (by omega) (by decide) (by decide) ?_
      refine PW.jz_eq q_157_5 rfl (fun h15 => False.elim (by omega)) (fun h15 => ?_)
      refine PW.aload_n q_157_8 rfl ?_
      refine PW.gR 3 q_157_9 (Or.inl t_ft_157_19) gF_0_1 kd_0 I.1 (by decide) rfl ?_
      refine PW.gR 4 q_157_12 (Or.inr t_fN_157_94) gF_3_0 kd_3 I.1 (by decide) rfl ?_
      refine PW.gI q_157_15 (Or.inr t_fN_157_136) gF_4_6 kd_4 I.1 (by decide) fun x16 fx16 hx16 kx16 => ?_
      have ix16 := o_i_of fx16
      refine PW.cI q_157_18 (by decide) fun c17 hc17 => ?_
      refine PW.jc_le q_157_19 rfl (fun h18 => ?_) (fun h18 => ?_)
      · skip
        refine PW.cI q_157_26 (by decide) fun c19 hc19 => ?_
        refine PW.rZ q_157_27 rfl (by omega) (by omega) (by decide) (by decide) ?_
        refine PW.jz_eq q_141_5 rfl (fun h20 => ?_) (fun h20 => False.elim (by omega))
        refine PW.cI q_141_19 (by decide) fun c21 hc21 => ?_
        refine PW.rI q_141_20 rfl (by decide) (by decide) ?_
        exact hK c21 M I F (Or.inr ⟨by omega, by omega⟩) hw
      · skip
        refine PW.cI q_157_22 (by decide) fun c22 hc22 => ?_
        refine PW.goto q_157_23 rfl ?_
        refine PW.rZ q_157_27 rfl (by omega) (by omega) (by decide) (by decide) ?_
        refine PW.jz_eq q_141_5 rfl (fun h23 => False.elim (by omega)) (fun h23 => ?_)
        refine PW.aload_n q_141_8 rfl ?_
        refine PW.iload_n q_141_9 rfl ?_
        refine PW.cV (as := [_]) (rest := []) q_141_10 t_mv_141_373 kd_0 I.1 (by decide) rfl (by decide) rfl rfl (Nat.le_of_ble_eq_true rfl) (Nat.le_of_ble_eq_true rfl) (by decide) (by decide) ?_
        refine PW.up (by decide) (c_X11_roundBits_vk G _ M I a1 (by omega) (by omega) (by omega) (by omega) bw hw (by omega) fun x25 M24 IM24 GM24 hx25 kx25 PM24 TM24 => ?_)
        have FM24 := Fr.trans F GM24 (rfl)
        have PbM24 := PM24
        refine PW.callS (as := [_]) (rest := []) q_141_13 t_ms_141_130 (by decide) rfl (Nat.le_of_ble_eq_true rfl) (Nat.le_of_ble_eq_true rfl) (by decide) (by decide) ?_
        refine PW.up (by decide) (c_J6_bitCount_0f7a4_vk (gTT) (Stab0) G _ M24 IM24 x25 (by omega) (by omega) fun x27  PM26 => ?_)
        have PiM26 := PM26
        refine PW.goto q_141_16 rfl ?_
        refine PW.rI q_141_20 rfl (by decide) (by decide) ?_
        exact hK x27 M24 IM24 FM24 (Or.inl ⟨by omega, by omega, by omega, by omega⟩) TM24
