theorem q_279_0 : p_tb 279 0 = some (.aload_n 3, 1) := by decide +kernel
theorem q_279_1 : p_tb 279 1 = some (.iconst 0, 1) := by decide +kernel
theorem q_279_2 : p_tb 279 2 = some (.aload_n 0, 1) := by decide +kernel
theorem q_279_3 : p_tb 279 3 = some (.iload_n 1, 1) := by decide +kernel
theorem q_279_4 : p_tb 279 4 = some (.iload_n 2, 1) := by decide +kernel
theorem q_279_8 : p_tb 279 8 = some (.i2l, 1) := by decide +kernel
theorem q_279_9 : p_tb 279 9 = some (.lastore, 1) := by decide +kernel
theorem q_279_10 : p_tb 279 10 = some (.goto 7, 3) := by decide +kernel
theorem q_279_17 : p_tb 279 17 = some (.iconst 0, 1) := by decide +kernel
theorem q_279_18 : p_tb 279 18 = some (.ireturn, 1) := by decide +kernel
theorem q_108_21 : p_tb 108 21 = some (.dup, 1) := by decide +kernel
theorem q_108_22 : p_tb 108 22 = some (.invokespecial 175, 3) := by decide +kernel
theorem q_108_25 : p_tb 108 25 = some (.athrow, 1) := by decide +kernel
theorem q_279_5 : p_tb 279 5 = some (.invokevirtual 7, 3) := by decide +kernel
theorem q_279_13 : p_tb 279 13 = some (.astore 4, 2) := by decide +kernel
theorem q_279_15 : p_tb 279 15 = some (.iconst 1, 1) := by decide +kernel
theorem q_279_16 : p_tb 279 16 = some (.ireturn, 1) := by decide +kernel
theorem q_280_0 : p_tb 280 0 = some (.aload_n 3, 1) := by decide +kernel
theorem q_280_1 : p_tb 280 1 = some (.iconst 0, 1) := by decide +kernel
theorem q_280_2 : p_tb 280 2 = some (.aload_n 0, 1) := by decide +kernel
theorem q_280_3 : p_tb 280 3 = some (.iload_n 1, 1) := by decide +kernel
theorem q_280_4 : p_tb 280 4 = some (.iload_n 2, 1) := by decide +kernel
theorem q_280_8 : p_tb 280 8 = some (.i2l, 1) := by decide +kernel
theorem q_280_9 : p_tb 280 9 = some (.lastore, 1) := by decide +kernel
theorem q_280_10 : p_tb 280 10 = some (.goto 7, 3) := by decide +kernel
theorem q_280_17 : p_tb 280 17 = some (.iconst 0, 1) := by decide +kernel
theorem q_280_18 : p_tb 280 18 = some (.ireturn, 1) := by decide +kernel
theorem q_109_21 : p_tb 109 21 = some (.dup, 1) := by decide +kernel
theorem q_109_22 : p_tb 109 22 = some (.invokespecial 175, 3) := by decide +kernel
theorem q_109_25 : p_tb 109 25 = some (.athrow, 1) := by decide +kernel
theorem q_280_5 : p_tb 280 5 = some (.invokevirtual 15, 3) := by decide +kernel
theorem q_280_13 : p_tb 280 13 = some (.astore 4, 2) := by decide +kernel
theorem q_280_15 : p_tb 280 15 = some (.iconst 1, 1) := by decide +kernel
theorem q_280_16 : p_tb 280 16 = some (.ireturn, 1) := by decide +kernel
theorem q_281_0 : p_tb 281 0 = some (.aload 5, 2) := by decide +kernel
theorem q_281_2 : p_tb 281 2 = some (.iconst 0, 1) := by decide +kernel
theorem q_281_3 : p_tb 281 3 = some (.aload_n 0, 1) := by decide +kernel
theorem q_281_4 : p_tb 281 4 = some (.iload_n 1, 1) := by decide +kernel
theorem q_281_5 : p_tb 281 5 = some (.iload_n 2, 1) := by decide +kernel
theorem q_281_6 : p_tb 281 6 = some (.iload_n 3, 1) := by decide +kernel
theorem q_281_7 : p_tb 281 7 = some (.iload 4, 2) := by decide +kernel
theorem q_281_12 : p_tb 281 12 = some (.i2l, 1) := by decide +kernel
theorem q_281_13 : p_tb 281 13 = some (.lastore, 1) := by decide +kernel
theorem q_281_14 : p_tb 281 14 = some (.goto 7, 3) := by decide +kernel
theorem q_281_21 : p_tb 281 21 = some (.iconst 0, 1) := by decide +kernel
theorem q_281_22 : p_tb 281 22 = some (.ireturn, 1) := by decide +kernel
theorem q_138_24 : p_tb 138 24 = some (.dup, 1) := by decide +kernel
theorem q_138_25 : p_tb 138 25 = some (.invokespecial 175, 3) := by decide +kernel
theorem q_138_28 : p_tb 138 28 = some (.athrow, 1) := by decide +kernel
theorem q_281_9 : p_tb 281 9 = some (.invokevirtual 18, 3) := by decide +kernel
theorem q_281_17 : p_tb 281 17 = some (.astore 6, 2) := by decide +kernel
theorem q_281_19 : p_tb 281 19 = some (.iconst 1, 1) := by decide +kernel
theorem q_281_20 : p_tb 281 20 = some (.ireturn, 1) := by decide +kernel
theorem q_282_0 : p_tb 282 0 = some (.aload 6, 2) := by decide +kernel
theorem q_282_2 : p_tb 282 2 = some (.iconst 0, 1) := by decide +kernel
theorem q_282_3 : p_tb 282 3 = some (.aload_n 0, 1) := by decide +kernel
theorem q_282_4 : p_tb 282 4 = some (.iload_n 1, 1) := by decide +kernel
theorem q_282_5 : p_tb 282 5 = some (.iload_n 2, 1) := by decide +kernel
theorem q_282_6 : p_tb 282 6 = some (.iload_n 3, 1) := by decide +kernel
theorem q_282_7 : p_tb 282 7 = some (.iload 4, 2) := by decide +kernel
theorem q_282_9 : p_tb 282 9 = some (.iload 5, 2) := by decide +kernel
theorem q_282_14 : p_tb 282 14 = some (.lastore, 1) := by decide +kernel
theorem q_282_15 : p_tb 282 15 = some (.goto 7, 3) := by decide +kernel
theorem q_282_22 : p_tb 282 22 = some (.iconst 0, 1) := by decide +kernel
theorem q_282_23 : p_tb 282 23 = some (.ireturn, 1) := by decide +kernel
theorem q_139_37 : p_tb 139 37 = some (.dup, 1) := by decide +kernel
theorem q_139_38 : p_tb 139 38 = some (.invokespecial 175, 3) := by decide +kernel
theorem q_139_41 : p_tb 139 41 = some (.athrow, 1) := by decide +kernel
theorem q_282_11 : p_tb 282 11 = some (.invokevirtual 22, 3) := by decide +kernel
theorem q_282_18 : p_tb 282 18 = some (.astore 7, 2) := by decide +kernel
theorem q_282_20 : p_tb 282 20 = some (.iconst 1, 1) := by decide +kernel
theorem q_282_21 : p_tb 282 21 = some (.ireturn, 1) := by decide +kernel
theorem q_283_0 : p_tb 283 0 = some (.aload 4, 2) := by decide +kernel
theorem q_283_2 : p_tb 283 2 = some (.iconst 0, 1) := by decide +kernel
theorem q_283_3 : p_tb 283 3 = some (.aload_n 0, 1) := by decide +kernel
theorem q_283_4 : p_tb 283 4 = some (.iload_n 1, 1) := by decide +kernel
theorem q_283_5 : p_tb 283 5 = some (.iload_n 2, 1) := by decide +kernel
theorem q_283_6 : p_tb 283 6 = some (.iload_n 3, 1) := by decide +kernel
theorem q_283_10 : p_tb 283 10 = some (.i2l, 1) := by decide +kernel
theorem q_283_11 : p_tb 283 11 = some (.lastore, 1) := by decide +kernel
theorem q_283_12 : p_tb 283 12 = some (.goto 7, 3) := by decide +kernel
theorem q_283_19 : p_tb 283 19 = some (.iconst 0, 1) := by decide +kernel
theorem q_283_20 : p_tb 283 20 = some (.ireturn, 1) := by decide +kernel
theorem q_140_13 : p_tb 140 13 = some (.dup, 1) := by decide +kernel
theorem q_140_14 : p_tb 140 14 = some (.invokespecial 175, 3) := by decide +kernel
theorem q_140_17 : p_tb 140 17 = some (.athrow, 1) := by decide +kernel
theorem q_283_7 : p_tb 283 7 = some (.invokevirtual 26, 3) := by decide +kernel
theorem q_283_15 : p_tb 283 15 = some (.astore 5, 2) := by decide +kernel
theorem q_283_17 : p_tb 283 17 = some (.iconst 1, 1) := by decide +kernel
theorem q_283_18 : p_tb 283 18 = some (.ireturn, 1) := by decide +kernel
/-- the same bytes on both tapes -/
def BE (M : pM) : Prop := ∀ z : Nat, (z : Int) < o_i (M 1) 1 → o_a (M 2) z = o_a (M 295) z
/-- the reference's reserved words -/
def RE (M : pM) : Prop := ∀ r, r < 28 → (o_l (M 300) r).toInt = k_wi (p_wc r).toInt
/-- the class and the reference keep the same images -/
def KE (M : pM) : Prop := ∀ z : Nat, z < 2 → o_a (M 109) z = o_a (M 309) z
theorem KE.cg {M M2 : pM} (h : KE M) (e1 : M2 109 = M 109) (e2 : M2 309 = M 309) : KE M2 := fun z hz => by rw [e1, e2]; exact h z hz
/-- a plan of the class and one of the reference: the same five numbers -/
def g5 (e r : va_E) (o : Nat) : Prop := o_i e 6 = (o_a r o).toInt ∧ o_i e 7 = (o_a r (o + 1)).toInt ∧ o_i e 1 = (o_a r (o + 2)).toInt ∧ o_i e 2 = (o_a r (o + 3)).toInt ∧ ((o_i e 3 = -1 ∧ (o_a r (o + 4)).toInt = 0) ∨ (1 ≤ o_i e 3 ∧ (o_a r (o + 4)).toInt = o_i e 3))
theorem g5.to {e r e2 r2 : va_E} {o o2 : Nat} (h : g5 e r o) (f : g5f e2 e) (k : ∀ z : Nat, z < 5 → o_a r2 (o2 + z) = o_a r (o + z)) : g5 e2 r2 o2 := by
  obtain ⟨f1, f2, f3, f6, f7⟩ := f
  obtain ⟨h0, h1, h2, h3, h4⟩ := h
  unfold g5
  rw [f1, f2, f3, f6, f7, k 1 (by omega), k 2 (by omega), k 3 (by omega), k 4 (by omega), show o_a r2 o2 = o_a r o from k 0 (by omega)]
  exact ⟨h0, h1, h2, h3, h4⟩
theorem g5f.rfl' {e : va_E} : g5f e e := ⟨rfl, rfl, rfl, rfl, rfl⟩
theorem g5f.of {e e0 : va_E} (h : e = e0) : g5f e e0 := by rw [h]; exact g5f.rfl'
theorem g5.of {M : pM} {e : va_E} {A : k_A} (c : k_c5 e A) (h : k_h5 M A) : g5 e (M 296) 0 := by
  obtain ⟨c1, c2, c3, c6, c7⟩ := c
  obtain ⟨h0, h1, h2, h3, h4⟩ := h
  refine ⟨c6.trans h0.symm, c7.trans h1.symm, c1.trans h2.symm, c2.trans h3.symm, ?_⟩
  rw [c3]
  exact h4
/-- the plans of both sides -/
def PE (M : pM) : Prop := g5 (M 4) (M 296) 0 ∧ ((o_a (M 109) 0).toInt ≠ 0 → g5 (M 40) (M 307) 0) ∧ ((o_a (M 109) 1).toInt ≠ 0 → g5 (M 75) (M 307) 397)
theorem PE.cg {M M2 : pM} (h : PE M) (e4 : M2 4 = M 4) (e40 : M2 40 = M 40) (e75 : M2 75 = M 75) (e9 : M2 109 = M 109) (e7 : M2 307 = M 307) (hh : gHs M2 M) : PE M2 := by
  refine ⟨h.1.to (g5f.of e4) (fun z hz => by rw [Nat.zero_add]; exact hh z (by omega)), ?_, ?_⟩
  · rw [e40, e9, e7]; exact h.2.1
  · rw [e75, e9, e7]; exact h.2.2
theorem PE.be {y : k_X} {M MA M2 : pM} (h : PE M) (c : gCB y M MA) (r : gRB y MA M2) (e6 : MA 296 = M 296) (f4 : M2 4 = MA 4) (f40 : M2 40 = MA 40) (f75 : M2 75 = MA 75) (e9 : M2 109 = M 109) (e7 : M2 307 = M 307) : PE M2 := by
  obtain ⟨c1, c40, c75⟩ := c
  refine ⟨?_, ?_, ?_⟩
  · rcases c1 with ⟨q, c4⟩ | ⟨q, c4⟩
    · rcases r with ⟨-, r1⟩ | ⟨r1, -⟩
      · rw [f4, c4, r1, e6]; exact h.1
      · exact absurd r1 q
    · rcases r with ⟨r1, -⟩ | ⟨-, r1⟩
      · exact absurd q r1
      · rw [f4]; exact g5.of c4 r1
  · rw [f40, c40, e9, e7]; exact h.2.1
  · rw [f75, c75, e9, e7]; exact h.2.2
theorem PE.im {M MA M2 : pM} {a b x y : Int} (h : PE M) (k : KE M) (c : gIC M MA a x) (r : gIR MA M2 b y) (eab : a = b) (e6 : MA 296 = M 296) (e7 : MA 307 = M 307) (e309 : MA 309 = M 309) (f6 : M2 296 = MA 296) (f4 : M2 4 = MA 4) (f40 : M2 40 = MA 40) (f75 : M2 75 = MA 75) (f9 : M2 109 = MA 109) : KE M2 ∧ PE M2 := by
  subst eab
  have k0 := k 0 (by omega)
  have k1 := k 1 (by omega)
  rcases c with ⟨c1, -, c9, c4, c40, c75⟩ | ⟨rfl, -, d1, d2, d3, c4, c75⟩ | ⟨rfl, -, d1, d2, d3, c4, c40⟩
  · rcases r with ⟨-, -, r9, r7⟩ | ⟨r1, r2, -⟩
    · exact ⟨k.cg (f9.trans c9) (r9.trans e309), h.cg (f4.trans c4) (f40.trans c40) (f75.trans c75) (f9.trans c9) (r7.trans e7) (fun z _ => by rw [f6, e6])⟩
    · omega
  · rcases r with ⟨r1, -⟩ | ⟨-, -, -, r1, r2, r3, r4⟩
    · omega
    · rw [e309] at r2
      rw [e6] at r3
      refine ⟨fun z hz => ?_, ?_, fun _ => ?_, fun q => ?_⟩
      · rcases (show z = 0 ∨ z = 1 by omega) with rfl | rfl
        · exact n_eq.mpr (by rw [f9, d1]; exact r1.symm)
        · rw [f9, d2, r2 1 (by decide)]; exact k1
      · rw [f4, c4, f6, e6]; exact h.1
      · rw [f40]; exact h.1.to d3 (fun z hz => by have w := r3 z hz; rw [show 397 * Int.toNat 0 + z = z from Nat.zero_add z] at w; rw [Nat.zero_add]; exact w)
      · rw [f75, c75]
        rw [f9, d2] at q
        exact (h.2.2 q).to g5f.rfl' (fun z hz => by rw [r4 (397 + z) (Or.inr (by show 397 * 0 + 397 ≤ 397 + z; omega)), e7])
  · rcases r with ⟨r1, -⟩ | ⟨-, -, -, r1, r2, r3, r4⟩
    · omega
    · rw [e309] at r2
      rw [e6] at r3
      refine ⟨fun z hz => ?_, ?_, fun q => ?_, fun _ => ?_⟩
      · rcases (show z = 0 ∨ z = 1 by omega) with rfl | rfl
        · rw [f9, d2, r2 0 (by decide)]; exact k0
        · exact n_eq.mpr (by rw [f9, d1]; exact r1.symm)
      · rw [f4, c4, f6, e6]; exact h.1
      · rw [f40, c40]
        rw [f9, d2] at q
        exact (h.2.1 q).to g5f.rfl' (fun z hz => by rw [Nat.zero_add, r4 z (Or.inl (by show z < 397 * 1; omega)), e7])
      · rw [f75]; exact h.1.to d3 (fun z hz => by have w := r3 z hz; rw [Nat.zero_add]; exact w)
theorem PE.re {M MA M2 : pM} {a b x y : Int} (h : PE M) (k : KE M) (c : gRC M MA a x) (r : gRR MA M2 b y) (eab : a = b) (e6 : MA 296 = M 296) (e7 : MA 307 = M 307) (e309 : MA 309 = M 309) (f4 : M2 4 = MA 4) (f40 : M2 40 = MA 40) (f75 : M2 75 = MA 75) (f7 : M2 307 = MA 307) (e9 : M2 109 = M 109) : PE M2 := by
  subst eab
  have k0 := k 0 (by omega)
  have k1 := k 1 (by omega)
  rcases c with ⟨c1, -, c4, c40, c75⟩ | ⟨rfl, c1, -, d3, c40, c75⟩ | ⟨rfl, c1, -, d3, c40, c75⟩
  · rcases r with ⟨-, -, r6⟩ | ⟨r1, r2, r3, -⟩
    · exact h.cg (f4.trans c4) (f40.trans c40) (f75.trans c75) e9 (f7.trans e7) (fun z _ => by rw [r6, e6])
    · exfalso
      rw [e309] at r3
      rcases (show a = 0 ∨ a = 1 by omega) with rfl | rfl
      · have w := congrArg Int32.toInt k0
        have c2 : (0 : Int) < 0 ∨ (1 : Int) < 0 ∨ (o_a (M 109) 0).toInt = 0 := c1
        have r4 : (o_a (M 309) 0).toInt ≠ 0 := r3
        omega
      · have w := congrArg Int32.toInt k1
        have c2 : (1 : Int) < 0 ∨ (1 : Int) < 1 ∨ (o_a (M 109) 1).toInt = 0 := c1
        have r4 : (o_a (M 309) 1).toInt ≠ 0 := r3
        omega
  · rcases r with ⟨r1, -⟩ | ⟨-, -, -, -, r5⟩
    · exfalso
      rw [e309] at r1
      have w := congrArg Int32.toInt k0
      have r4 : (0 : Int) < 0 ∨ (1 : Int) < 0 ∨ (o_a (M 309) 0).toInt = 0 := r1
      omega
    · refine ⟨?_, ?_, ?_⟩
      · rw [f4]; exact (h.2.1 c1).to d3 (fun z hz => by have w := r5 z hz; rw [e7] at w; rw [show 397 * Int.toNat 0 + z = z from Nat.zero_add z] at w; rw [Nat.zero_add]; exact w)
      · rw [f40, c40, e9, f7, e7]; exact h.2.1
      · rw [f75, c75, e9, f7, e7]; exact h.2.2
  · rcases r with ⟨r1, -⟩ | ⟨-, -, -, -, r5⟩
    · exfalso
      rw [e309] at r1
      have w := congrArg Int32.toInt k1
      have r4 : (1 : Int) < 0 ∨ (1 : Int) < 1 ∨ (o_a (M 309) 1).toInt = 0 := r1
      omega
    · refine ⟨?_, ?_, ?_⟩
      · rw [f4]; exact (h.2.2 c1).to d3 (fun z hz => by have w := r5 z hz; rw [e7] at w; rw [Nat.zero_add]; exact w)
      · rw [f40, c40, e9, f7, e7]; exact h.2.1
      · rw [f75, c75, e9, f7, e7]; exact h.2.2
/-- the names of a plan, both sides -/
def NEp (e r : va_E) (w : Int) (o : Nat) : Prop := ∀ j : Nat, (j : Int) < w → (o_l r (o + j)).toInt = k_wi (o_l e j).toInt ∧ 0 ≤ (o_l e j).toInt ∧ (o_l e j).toInt < 34359738368
theorem NEp.to {e r e2 r2 : va_E} {w w2 : Int} {o o2 : Nat} (h : NEp e r w o) (hw : w2 = w) (h6 : w ≤ 6) (f : ∀ j : Nat, j < 6 → o_l e2 j = o_l e j) (k : ∀ j : Nat, j < 6 → o_l r2 (o2 + j) = o_l r (o + j)) : NEp e2 r2 w2 o2 := fun j hj => by
  rw [f j (by omega), k j (by omega)]
  exact h j (by omega)
def NE (M : pM) : Prop := NEp (M 5) (M 299) (o_i (M 4) 6) 0 ∧ ((o_a (M 109) 0).toInt ≠ 0 → NEp (M 41) (M 308) (o_i (M 40) 6) 0) ∧ ((o_a (M 109) 1).toInt ≠ 0 → NEp (M 76) (M 308) (o_i (M 75) 6) 8)
theorem NE.cg {M M2 : pM} (h : NE M) (e4 : M2 4 = M 4) (e40 : M2 40 = M 40) (e75 : M2 75 = M 75) (e5 : M2 5 = M 5) (e41 : M2 41 = M 41) (e76 : M2 76 = M 76) (e9 : M2 109 = M 109) (e8 : M2 308 = M 308) (en : M2 299 = M 299) : NE M2 := by
  unfold NE
  rw [e4, e40, e75, e5, e41, e76, e9, e8, en]
  exact h
/-- how many WALKERS -/
theorem gW6 {M : pM} (I : InvB M) : o_i (M 4) 6 ≤ 6 ∧ o_i (M 40) 6 ≤ 6 ∧ o_i (M 75) 6 ≤ 6 := by
  obtain ⟨x, f, h, k⟩ := gF_4_6.int kd_4 I (by decide)
  obtain ⟨x2, f2, h2, k2⟩ := gF_4_6.int kd_40 I (by decide)
  obtain ⟨x3, f3, h3, k3⟩ := gF_4_6.int kd_75 I (by decide)
  rw [o_i_of f, o_i_of f2, o_i_of f3]
  exact ⟨k, k2, k3⟩
theorem NE.be {y : k_X} {M MA M2 : pM} (h : NE M) (I : InvB M) (c : gCB y M MA) (cn : gCN y M MA) (r : gRBn y MA M2) (f4 : M2 4 = MA 4) (f40 : M2 40 = MA 40) (f75 : M2 75 = MA 75) (f5 : M2 5 = MA 5) (f41 : M2 41 = MA 41) (f76 : M2 76 = MA 76) (e9 : M2 109 = M 109) (e8 : M2 308 = M 308) (en : MA 299 = M 299) : NE M2 := by
  obtain ⟨c1, c40, c75⟩ := c
  obtain ⟨n1, n41, n76⟩ := cn
  have w6 := gW6 I
  refine ⟨?_, ?_, ?_⟩
  · rcases c1 with ⟨q, c4⟩ | ⟨q, c4⟩
    · rcases n1 with ⟨-, n5⟩ | ⟨n5, -⟩
      · rcases r with ⟨-, r1⟩ | ⟨r1, -⟩
        · refine h.1.to (by rw [f4, c4]) w6.1 (fun j _ => by rw [f5, n5]) (fun j hj => ?_)
          rw [Nat.zero_add, r1 j (by omega), en]
        · exact absurd r1 q
      · exact absurd n5 q
    · rcases n1 with ⟨n5, -⟩ | ⟨-, n5⟩
      · exact absurd q n5
      · rcases r with ⟨r1, -⟩ | ⟨-, r2, r3, r1⟩
        · exact absurd q r1
        · intro j hj
          rw [f4, c4.2.2.2.1] at hj
          rw [f5, n5 j hj, Nat.zero_add]
          exact r1 j hj
  · rw [f40, c40, f41, n41, e9, e8]; exact h.2.1
  · rw [f75, c75, f76, n76, e9, e8]; exact h.2.2
theorem NE.im {M MA M2 : pM} {a b x : Int} (h : NE M) (I : InvB M) (c : gIC M MA a x) (cn : gIN M MA a) (r : gIRn MA M2 b) (eab : a = b) (en : MA 299 = M 299) (e8 : MA 308 = M 308) (f4 : M2 4 = MA 4) (f40 : M2 40 = MA 40) (f75 : M2 75 = MA 75) (f5 : M2 5 = MA 5) (f41 : M2 41 = MA 41) (f76 : M2 76 = MA 76) (f9 : M2 109 = MA 109) (fn : M2 299 = MA 299) : NE M2 := by
  subst eab
  have w6 := gW6 I
  obtain ⟨n5, cn⟩ := cn
  rcases c with ⟨c1, -, c9, c4, c40, c75⟩ | ⟨rfl, -, d1, d2, d3, c4, c75⟩ | ⟨rfl, -, d1, d2, d3, c4, c40⟩
  · rcases cn with ⟨-, n41, n76⟩ | ⟨n1, -⟩ | ⟨n1, -⟩
    · rcases r with ⟨-, r8⟩ | ⟨r1, r2, -⟩
      · exact h.cg (f4.trans c4) (f40.trans c40) (f75.trans c75) (f5.trans n5) (f41.trans n41) (f76.trans n76) (f9.trans c9) (r8.trans e8) (fn.trans en)
      · omega
    · omega
    · omega
  · rcases cn with ⟨n1, -⟩ | ⟨-, n41, n76⟩ | ⟨n1, -⟩
    · omega
    · rcases r with ⟨r1, -⟩ | ⟨-, -, r1, r2⟩
      · omega
      · refine ⟨?_, fun _ => ?_, fun q => ?_⟩
        · rw [f5, n5, fn, en, f4, c4]; exact h.1
        · refine h.1.to (by rw [f40]; exact d3.2.2.2.1) w6.1 (fun j hj => by rw [f41]; exact n41 j hj) (fun j hj => ?_)
          have w := r1 j (by omega)
          rw [show 8 * Int.toNat 0 + j = 0 + j from rfl, en] at w
          rw [w, Nat.zero_add]
        · rw [f9, d2] at q
          refine (h.2.2 q).to (by rw [f75, c75]) w6.2.2 (fun j _ => by rw [f76, n76]) (fun j hj => ?_)
          rw [r2 (8 + j) (Or.inr (by show 8 * 0 + 8 ≤ 8 + j; omega)), e8]
    · omega
  · rcases cn with ⟨n1, -⟩ | ⟨n1, -⟩ | ⟨-, n76, n41⟩
    · omega
    · omega
    · rcases r with ⟨r1, -⟩ | ⟨-, -, r1, r2⟩
      · omega
      · refine ⟨?_, fun q => ?_, fun _ => ?_⟩
        · rw [f5, n5, fn, en, f4, c4]; exact h.1
        · rw [f9, d2] at q
          refine (h.2.1 q).to (by rw [f40, c40]) w6.2.1 (fun j _ => by rw [f41, n41]) (fun j hj => ?_)
          rw [r2 (0 + j) (Or.inl (by show 0 + j < 8 * 1; omega)), e8]
        · refine h.1.to (by rw [f75]; exact d3.2.2.2.1) w6.1 (fun j hj => by rw [f76]; exact n76 j hj) (fun j hj => ?_)
          have w := r1 j (by omega)
          rw [show 8 * Int.toNat 1 + j = 8 + j from rfl, en] at w
          rw [w, Nat.zero_add]
theorem NE.re {M MA M2 : pM} {a b x y : Int} (h : NE M) (I : InvB M) (k : KE M) (c : gRC M MA a x) (cn : gRN M MA a x) (r0 : gRR MA M2 b y) (r : gRRn MA M2 b y) (eab : a = b) (en : MA 299 = M 299) (e8 : MA 308 = M 308) (e309 : MA 309 = M 309) (f4 : M2 4 = MA 4) (f40 : M2 40 = MA 40) (f75 : M2 75 = MA 75) (f5 : M2 5 = MA 5) (f41 : M2 41 = MA 41) (f76 : M2 76 = MA 76) (f8 : M2 308 = MA 308) (e9 : M2 109 = M 109) : NE M2 := by
  subst eab
  have w6 := gW6 I
  have k0 := k 0 (by omega)
  have k1 := k 1 (by omega)
  obtain ⟨n41, n76, cn⟩ := cn
  have g40 : M2 40 = M 40 ∧ M2 75 = M 75 := by
    rcases c with ⟨-, -, -, c40, c75⟩ | ⟨-, -, -, -, c40, c75⟩ | ⟨-, -, -, -, c40, c75⟩
    · exact ⟨f40.trans c40, f75.trans c75⟩
    · exact ⟨f40.trans c40, f75.trans c75⟩
    · exact ⟨f40.trans c40, f75.trans c75⟩
  refine ⟨?_, ?_, ?_⟩
  · rcases c with ⟨c1, c2, c4, -⟩ | ⟨rfl, c1, c2, d3, -⟩ | ⟨rfl, c1, c2, d3, -⟩
    · rcases cn with ⟨-, n5⟩ | ⟨n1, -⟩ | ⟨n1, -⟩
      · rcases r with ⟨-, r9⟩ | ⟨r1, -⟩
        · rw [f5, n5, r9, en, f4, c4]; exact h.1
        · exfalso
          rcases r0 with ⟨-, z, -⟩ | ⟨z1, z2, z3, -⟩
          · omega
          · rw [e309] at z3
            rcases (show a = 0 ∨ a = 1 by omega) with rfl | rfl
            · have w := congrArg Int32.toInt k0
              have c2 : (0 : Int) < 0 ∨ (1 : Int) < 0 ∨ (o_a (M 109) 0).toInt = 0 := c1
              have r4 : (o_a (M 309) 0).toInt ≠ 0 := z3
              omega
            · have w := congrArg Int32.toInt k1
              have c2 : (1 : Int) < 0 ∨ (1 : Int) < 1 ∨ (o_a (M 109) 1).toInt = 0 := c1
              have r4 : (o_a (M 309) 1).toInt ≠ 0 := z3
              omega
      · omega
      · omega
    · rcases cn with ⟨n1, -⟩ | ⟨-, -, n5⟩ | ⟨-, n1, -⟩
      · omega
      · rcases r with ⟨r1, -⟩ | ⟨-, r1⟩
        · exfalso
          rcases r0 with ⟨z, -⟩ | ⟨-, -, -, z, -⟩
          · rw [e309] at z
            have w := congrArg Int32.toInt k0
            have r4 : (0 : Int) < 0 ∨ (1 : Int) < 0 ∨ (o_a (M 309) 0).toInt = 0 := z
            omega
          · omega
        · refine (h.2.1 c1).to (by rw [f4]; exact d3.2.2.2.1) w6.2.1 (fun j hj => by rw [f5]; exact n5 j hj) (fun j hj => ?_)
          have w := r1 j (by omega)
          rw [show 8 * Int.toNat 0 + j = 0 + j from rfl, e8] at w
          rw [Nat.zero_add, w, Nat.zero_add]
      · omega
    · rcases cn with ⟨n1, -⟩ | ⟨-, n1, -⟩ | ⟨-, -, n5⟩
      · omega
      · omega
      · rcases r with ⟨r1, -⟩ | ⟨-, r1⟩
        · exfalso
          rcases r0 with ⟨z, -⟩ | ⟨-, -, -, z, -⟩
          · rw [e309] at z
            have w := congrArg Int32.toInt k1
            have r4 : (1 : Int) < 0 ∨ (1 : Int) < 1 ∨ (o_a (M 309) 1).toInt = 0 := z
            omega
          · omega
        · refine (h.2.2 c1).to (by rw [f4]; exact d3.2.2.2.1) w6.2.2 (fun j hj => by rw [f5]; exact n5 j hj) (fun j hj => ?_)
          have w := r1 j (by omega)
          rw [show 8 * Int.toNat 1 + j = 8 + j from rfl, e8] at w
          rw [Nat.zero_add, w]
  · rw [g40.1, f41, n41, e9, f8, e8]; exact h.2.1
  · rw [g40.2, f76, n76, e9, f8, e8]; exact h.2.2
/-- the FAULT, both sides -/
def FE (M : pM) : Prop := o_i (M 0) 10 = o_i (M 294) 15
theorem FE.cg {M M2 : pM} (h : FE M) (e0 : M2 0 = M 0) (e1 : M2 294 = M 294) : FE M2 := by unfold FE; rw [e0, e1]; exact h
/-- what holds between the law's calls: both tapes have one length and the same bytes -/
def LI (M : pM) : Prop := Iv gTT M ∧ (∃ f, M 310 = .inl (2, 1, .inr (.inl f))) ∧ o_i (M 1) 1 = o_i (M 294) 2 ∧ BE M ∧ RE M ∧ KE M ∧ PE M ∧ NE M ∧ FE M
theorem BE.cg {M M2 : pM} (h : BE M) (e2 : M2 2 = M 2) (e3 : M2 295 = M 295) (hl : o_i (M2 1) 1 ≤ o_i (M 1) 1) : BE M2 := fun z hz => by rw [e2, e3]; exact h z (by omega)
theorem RE.cg {M M2 : pM} (h : RE M) (e : M2 300 = M 300) : RE M2 := fun r hr => by rw [e]; exact h r hr
theorem LI.of {l : List Nat} {M M1 : pM} (J : LI M) (I : Iv gTT M1) (F : Fr l M M1) (h : l.contains 56 = false) (h2 : l.contains 1 = false) (h3 : l.contains 40 = false) (h4 : l.contains 2 = false) (h5 : l.contains 41 = false) (h6 : l.contains 46 = false) (h7 : l.contains 4 = false) (h8 : l.contains 20 = false) (h9 : l.contains 42 = false) (h10 : l.contains 53 = false) (h11 : l.contains 55 = false) (h12 : l.contains 27 = false) (h13 : l.contains 45 = false) (h14 : l.contains 54 = false) (h15 : l.contains 0 = false) : LI M1 := ⟨I, by rw [F.at kd_310 h]; exact J.2.1, by rw [F.at kd_1 h2, F.at kd_294 h3]; exact J.2.2.1, J.2.2.2.1.cg (F.at kd_2 h4) (F.at kd_295 h5) (by rw [F.at kd_1 h2]; omega), J.2.2.2.2.1.cg (F.at kd_300 h6), J.2.2.2.2.2.1.cg (F.at kd_109 h8) (F.at kd_309 h11), J.2.2.2.2.2.2.1.cg (F.at kd_4 h7) (F.at kd_40 h7) (F.at kd_75 h7) (F.at kd_109 h8) (F.at kd_307 h10) (gHs.cg gHs.refl (F.at kd_296 h9)), J.2.2.2.2.2.2.2.1.cg (F.at kd_4 h7) (F.at kd_40 h7) (F.at kd_75 h7) (F.at kd_5 h12) (F.at kd_41 h12) (F.at kd_76 h12) (F.at kd_109 h8) (F.at kd_308 h14) (F.at kd_299 h13), J.2.2.2.2.2.2.2.2.cg (F.at kd_0 h15) (F.at kd_294 h3)⟩
theorem LI.len0 {M : pM} (J : LI M) : 0 ≤ o_i (M 1) 1 ∧ o_i (M 1) 1 ≤ 940 := by
  obtain ⟨x, f, h1, h2⟩ := gF_1_1.int kd_1 J.1.1 (by decide)
  rw [o_i_of f]; exact ⟨h1, h2⟩
/-- the text on the tapes -/
def k_y (M : pM) : k_X := (fun i => (o_a (M 2) i &&& 255).toInt, (o_i (M 1) 1).toNat, 900)
theorem LI.tp {M : pM} (J : LI M) : k_tp (k_y M) M := by
  have b := J.len0
  exact ⟨by show o_i (M 1) 1 = ((o_i (M 1) 1).toNat : Int); omega, fun i _ => rfl⟩
theorem LI.rtp {l : List Nat} {M MA : pM} (J : LI M) (F : Fr l M MA) (h3 : l.contains 40 = false) (h5 : l.contains 41 = false) (h6 : l.contains 46 = false) : k_rtp (k_y M) MA := by
  have b := J.len0
  have k0 := J.2.2.1
  refine ⟨by rw [F.at kd_294 h3]; show o_i (M 294) 2 = ((o_i (M 1) 1).toNat : Int); omega, fun i hi => ?_, fun r hr => by rw [F.at kd_300 h6]; exact J.2.2.2.2.1 r hr⟩
  have hi : i < (o_i (M 1) 1).toNat := hi
  rw [F.at kd_295 h5, ← J.2.2.2.1 i (by omega)]
  rfl
theorem LI.y940 {M : pM} (J : LI M) : (k_y M).2.1 ≤ 940 := by
  have b := J.len0
  show (o_i (M 1) 1).toNat ≤ 940
  omega
theorem BE.feed {M MA M2 : pM} {a1 a2 a3 a4 a5 : Int32} {x y : Int} (J : LI M) (eA : MA 295 = M 295) (eL : o_i (MA 294) 2 = o_i (M 294) 2) (e2 : M2 2 = MA 2) (e1 : o_i (M2 1) 1 = o_i (MA 1) 1)
    (pA : (o_i (M 1) 1 + 20 ≤ 940 ∧ x = o_i (M 1) 1 + 20 ∧ o_i (MA 1) 1 = o_i (M 1) 1 + 20 ∧ (∀ z : Nat, (z : Int) < o_i (M 1) 1 → o_a (MA 2) z = o_a (M 2) z) ∧ ∀ t : Nat, t < 20 → o_a (MA 2) ((o_i (M 1) 1).toNat + t) = k_b20 a1 a2 a3 a4 a5 t) ∨ (940 < o_i (M 1) 1 + 20 ∧ x = -1 ∧ o_i (MA 1) 1 = o_i (M 1) 1 ∧ o_a (MA 2) = o_a (M 2)))
    (pB : (o_i (MA 294) 2 + 20 ≤ 940 ∧ y = o_i (MA 294) 2 + 20 ∧ o_i (M2 294) 2 = o_i (MA 294) 2 + 20 ∧ (∀ z : Nat, (z : Int) < o_i (MA 294) 2 → o_a (M2 295) z = o_a (MA 295) z) ∧ ∀ t : Nat, t < 20 → o_a (M2 295) ((o_i (MA 294) 2).toNat + t) = k_b20 a1 a2 a3 a4 a5 t) ∨ (940 < o_i (MA 294) 2 + 20 ∧ y = -1 ∧ o_i (M2 294) 2 = o_i (MA 294) 2 ∧ o_a (M2 295) = o_a (MA 295))) : o_i (M2 1) 1 = o_i (M2 294) 2 ∧ BE M2 := by
  have b := J.len0
  have k0 := J.2.2.1
  rcases pA with ⟨p1, -, p3, p4, p5⟩ | ⟨p1, -, p3, p4⟩
  · rcases pB with ⟨q1, -, q3, q4, q5⟩ | ⟨q1, -, q3, q4⟩
    · refine ⟨by omega, fun z hz => ?_⟩
      rw [e2]
      by_cases h : (z : Int) < o_i (M 1) 1
      · rw [p4 z h, q4 z (by omega), eA]; exact J.2.2.2.1 z h
      · have w1 := p5 (z - (o_i (M 1) 1).toNat) (by omega)
        have w2 := q5 (z - (o_i (M 1) 1).toNat) (by omega)
        rw [show (o_i (M 1) 1).toNat + (z - (o_i (M 1) 1).toNat) = z from by omega] at w1
        rw [show (o_i (MA 294) 2).toNat + (z - (o_i (M 1) 1).toNat) = z from by omega] at w2
        rw [w1, w2]
    · omega
  · rcases pB with ⟨q1, -, q3, q4, q5⟩ | ⟨q1, -, q3, q4⟩
    · omega
    · refine ⟨by omega, fun z hz => ?_⟩
      rw [e2, p4, q4, eA]; exact J.2.2.2.1 z (by omega)
theorem LI.out {M : pM} {g : Nat → Int64} (J : LI M) : LI (va_up M 310 (.inl (2, 1, .inr (.inl g)))) := by
  have U : ∀ c, c ≠ 310 → va_up M 310 (.inl (2, 1, .inr (.inl g))) c = M c := fun c h => va_up_ne _ _ h
  refine ⟨⟨fun a ha => ?_, ?_⟩, ⟨g, va_up_self _ _ _⟩, by rw [U 1 (by decide), U 294 (by decide)]; exact J.2.2.1, J.2.2.2.1.cg (U 2 (by decide)) (U 295 (by decide)) (by rw [U 1 (by decide)]; omega), J.2.2.2.2.1.cg (U 300 (by decide)), J.2.2.2.2.2.1.cg (U 109 (by decide)) (U 309 (by decide)), J.2.2.2.2.2.2.1.cg (U 4 (by decide)) (U 40 (by decide)) (U 75 (by decide)) (U 109 (by decide)) (U 307 (by decide)) (gHs.cg gHs.refl (U 296 (by decide))), J.2.2.2.2.2.2.2.1.cg (U 4 (by decide)) (U 40 (by decide)) (U 75 (by decide)) (U 5 (by decide)) (U 41 (by decide)) (U 76 (by decide)) (U 109 (by decide)) (U 308 (by decide)) (U 299 (by decide)), J.2.2.2.2.2.2.2.2.cg (U 0 (by decide)) (U 294 (by decide))⟩
  · by_cases e : a = 310
    · subst e
      refine ⟨fun h => ?_, fun h => ?_, fun h => ?_, fun h => ?_, fun h => ?_⟩ <;> exact absurd h (by decide +kernel)
    · rw [U a e]; exact J.1.1 a ha
  · refine ⟨fun b hb => ?_, ?_⟩
    · obtain ⟨q1, q2, -⟩ := g_k5 hb
      rw [U _ (g_ne q1 kd_310 (by decide)), U _ (g_ne q2 kd_310 (by decide)), U b (g_ne hb kd_310 (by decide))]
      exact J.1.2.1 b hb
    · unfold g_TM
      rw [U 296 (by decide), U 302 (by decide), U 301 (by decide), U 307 (by decide)]
      exact J.1.2.2
def K_i (v : Option Value) (N : Nat) (M : pM) : Prop := (∃ x : Int32, v = some (.int x)) ∧ N = 311 ∧ LI M
def K_l (v : Option Value) (N : Nat) (M : pM) : Prop := (∃ x : Int64, v = some (.long x)) ∧ N = 311 ∧ LI M
theorem wc_ini : Cond.initialized (p_mY 279).cls ∈ p_GW := p_gi (List.mem_of_getElem? (i := 105) (by decide +kernel)) rfl
theorem LI.five {M : pM} (J : LI M) : o_i (M 4) 6 = (o_a (M 296) 0).toInt ∧ o_i (M 4) 7 = (o_a (M 296) 1).toInt ∧ o_i (M 4) 1 = (o_a (M 296) 2).toInt ∧ o_i (M 4) 2 = (o_a (M 296) 3).toInt ∧ ((o_i (M 4) 3 = -1 ∧ (o_a (M 296) 4).toInt = 0) ∨ (1 ≤ o_i (M 4) 3 ∧ (o_a (M 296) 4).toInt = o_i (M 4) 3)) := J.2.2.2.2.2.2.1.1
def k_yl (M : pM) (n : Nat) : k_X := ((k_y M).1, (k_y M).2.1, n)
def k_nf (M : pM) : Nat → Int := fun j => (o_l (M 5) j).toInt
theorem LI.rnm {l : List Nat} {M MA : pM} (J : LI M) (F : Fr l M MA) (h1 : l.contains 42 = false) (h2 : l.contains 45 = false) : r_nm MA (k_nf M) (o_i (M 4) 6) := by
  have g := J.five
  have w := gI6 J.1.1
  refine ⟨by rw [F.at kd_296 h1]; exact g.1.symm, w.1, w.2, fun j hj => ?_⟩
  rw [F.at kd_299 h2]
  exact J.2.2.2.2.2.2.2.1.1 j hj
set_option maxRecDepth 100000 in
set_option maxHeartbeats 4000000 in
theorem thr_walker (G : pG) (a1 a2 : Int32) (M : pM) (J : LI M) : PW G false 58 108 1 6 (K_i, fun pc' lv' st' N' M' ce' sl' => pc' = 18 ∧ st' = [] ∧ N' = 311 ∧ LI M' ∧ ce' = 0 ∧ sl' = 0) 0 (lv_args 0 [.ref 0, .int a1, .int a2]) [] 311 M 0 0 :=
  PW.up (by decide) (c_X11_walker G _ M J.1 a1 a2 (fun x M1 I1 F1 => ⟨⟨x, rfl⟩, rfl, J.of I1 F1 rfl rfl rfl rfl rfl rfl rfl rfl rfl rfl rfl rfl rfl rfl rfl⟩) (fun lv1 M1 I1 F1 => ⟨rfl, rfl, rfl, J.of I1 F1 rfl rfl rfl rfl rfl rfl rfl rfl rfl rfl rfl rfl rfl rfl rfl, rfl, rfl⟩))
set_option maxRecDepth 100000 in
set_option maxHeartbeats 4000000 in
theorem cat_walker (G : pG) (a1 a2 : Int32) (M : pM) : PW G false 59 279 1 6 (fun _ _ _ => False, fun pc' lv' st' N' M' ce' sl' => pc' = 5 ∧ lv' = (lv_args 0 [.ref 0, .int a1, .int a2, .ref 310]) ∧ st' = ([.int a1, .int a2] : List Value).reverse ++ .ref 0 :: [.int (Int32.ofInt 0), .ref 310] ∧ N' = 311 ∧ M' = M ∧ ce' = 0 ∧ sl' = 0) 0 (lv_args 0 [.ref 0, .int a1, .int a2, .ref 310]) [] 311 M 0 0 := by
  refine PW.aload_n q_279_0 rfl ?_
  refine PW.iconst q_279_1 ?_
  refine PW.aload_n q_279_2 rfl ?_
  refine PW.iload_n q_279_3 rfl ?_
  refine PW.iload_n q_279_4 rfl ?_
  exact PW.exit ⟨rfl, rfl, rfl, rfl, rfl, rfl, rfl⟩
set_option maxRecDepth 100000 in
set_option maxHeartbeats 4000000 in
theorem aft_walker (G : pG) (a1 a2 : Int32) (v : Option Value) (N : Nat) (M : pM) (h : K_i v N M) : PW G false 59 279 1 6 (K_i, p_nx) (5 + 3) (lv_args 0 [.ref 0, .int a1, .int a2, .ref 310]) (v.toList ++ [.int (Int32.ofInt 0), .ref 310]) N M (0 + 1) (0 + 6) := by
  obtain ⟨⟨x, rfl⟩, rfl, J⟩ := h
  obtain ⟨f, hf⟩ := J.2.1
  refine PW.i2l q_279_8 ?_
  refine PW.last q_279_9 (by decide : 310 < 311) hf (vp_in_iff.mpr ⟨by decide, by decide⟩) ?_
  refine PW.goto q_279_10 rfl ?_
  refine PW.iconst q_279_17 ?_
  exact PW.iret q_279_18 rfl (by decide) (by decide) ⟨⟨_, rfl⟩, rfl, J.out⟩
theorem wc_walker : Cond.codeWith (p_mY 279) (p_mC 279) (p_mL 279) (p_mR 279) [(0, 10, 13, 13)] ∈ p_GW := p_gi (List.mem_of_getElem? (i := 1256) (by decide +kernel)) rfl
set_option maxRecDepth 100000 in
set_option maxHeartbeats 4000000 in
theorem met_walker (G : pG) (a1 a2 : Int32) (M : pM) (J : LI M) (l : Launch) (hl0 : l.stackTraces = false) : vx_Met l (p_mY 279) (xc_WS 279 [(0, 10, 13, 13)]) (xc_rm 59) (xc_Pc G [.ref 0, .int a1, .int a2, .ref 310] 311 M) (p_Qc G false K_i) (fun _ _ _ => False) 1 6 (p_A G) := by
  obtain ⟨ha, fs, hM⟩ := J.1.1.ob kd_0 (by decide) (rfl : g_sh 0 = (0, 10, 11))
  exact xc_catcher (d := 58) (kx := 108) (as2 := [.int a1, .int a2]) (rest := [.int (Int32.ofInt 0), .ref 310]) (pI := 5) (nS := 4) (K1 := K_i) (KL := K_i) (Kt := LI) (by decide +kernel) (by decide +kernel) (by decide +kernel) wc_walker (by decide +kernel) (Nat.le_of_ble_eq_true rfl)
    (fun l hl0 => xc_thrower (pn := 18) (by decide) (by decide +kernel) (by decide +kernel) (Nat.le_of_ble_eq_true rfl) (p_tb_ok q_108_18) (p_tb_ok q_108_21) (p_tb_ok q_108_22) (p_tb_ok q_108_25) (thr_walker G a1 a2 M J) l hl0)
    q_279_5 rfl hM (by decide) rfl rfl (Nat.le_of_ble_eq_true rfl) (by decide) q_279_13 (by decide) q_279_15 q_279_16 (cat_walker G a1 a2 M) (aft_walker G a1 a2) (fun M1 h1 => ⟨⟨_, rfl⟩, rfl, h1⟩) l hl0
set_option maxRecDepth 100000 in
set_option maxHeartbeats 4000000 in
theorem thr_dog (G : pG) (a1 a2 : Int32) (M : pM) (J : LI M) : PW G false 58 109 1 6 (K_i, fun pc' lv' st' N' M' ce' sl' => pc' = 18 ∧ st' = [] ∧ N' = 311 ∧ LI M' ∧ ce' = 0 ∧ sl' = 0) 0 (lv_args 0 [.ref 0, .int a1, .int a2]) [] 311 M 0 0 :=
  PW.up (by decide) (c_X11_dog G _ M J.1 a1 a2 (fun x M1 I1 F1 => ⟨⟨x, rfl⟩, rfl, J.of I1 F1 rfl rfl rfl rfl rfl rfl rfl rfl rfl rfl rfl rfl rfl rfl rfl⟩) (fun lv1 M1 I1 F1 => ⟨rfl, rfl, rfl, J.of I1 F1 rfl rfl rfl rfl rfl rfl rfl rfl rfl rfl rfl rfl rfl rfl rfl, rfl, rfl⟩))
set_option maxRecDepth 100000 in
set_option maxHeartbeats 4000000 in
theorem cat_dog (G : pG) (a1 a2 : Int32) (M : pM) : PW G false 59 280 1 6 (fun _ _ _ => False, fun pc' lv' st' N' M' ce' sl' => pc' = 5 ∧ lv' = (lv_args 0 [.ref 0, .int a1, .int a2, .ref 310]) ∧ st' = ([.int a1, .int a2] : List Value).reverse ++ .ref 0 :: [.int (Int32.ofInt 0), .ref 310] ∧ N' = 311 ∧ M' = M ∧ ce' = 0 ∧ sl' = 0) 0 (lv_args 0 [.ref 0, .int a1, .int a2, .ref 310]) [] 311 M 0 0 := by
  refine PW.aload_n q_280_0 rfl ?_
  refine PW.iconst q_280_1 ?_
  refine PW.aload_n q_280_2 rfl ?_
  refine PW.iload_n q_280_3 rfl ?_
  refine PW.iload_n q_280_4 rfl ?_
  exact PW.exit ⟨rfl, rfl, rfl, rfl, rfl, rfl, rfl⟩
set_option maxRecDepth 100000 in
set_option maxHeartbeats 4000000 in
theorem aft_dog (G : pG) (a1 a2 : Int32) (v : Option Value) (N : Nat) (M : pM) (h : K_i v N M) : PW G false 59 280 1 6 (K_i, p_nx) (5 + 3) (lv_args 0 [.ref 0, .int a1, .int a2, .ref 310]) (v.toList ++ [.int (Int32.ofInt 0), .ref 310]) N M (0 + 1) (0 + 6) := by
  obtain ⟨⟨x, rfl⟩, rfl, J⟩ := h
  obtain ⟨f, hf⟩ := J.2.1
  refine PW.i2l q_280_8 ?_
  refine PW.last q_280_9 (by decide : 310 < 311) hf (vp_in_iff.mpr ⟨by decide, by decide⟩) ?_
  refine PW.goto q_280_10 rfl ?_
  refine PW.iconst q_280_17 ?_
  exact PW.iret q_280_18 rfl (by decide) (by decide) ⟨⟨_, rfl⟩, rfl, J.out⟩
theorem wc_dog : Cond.codeWith (p_mY 280) (p_mC 280) (p_mL 280) (p_mR 280) [(0, 10, 13, 13)] ∈ p_GW := p_gi (List.mem_of_getElem? (i := 1325) (by decide +kernel)) rfl
set_option maxRecDepth 100000 in
set_option maxHeartbeats 4000000 in
theorem met_dog (G : pG) (a1 a2 : Int32) (M : pM) (J : LI M) (l : Launch) (hl0 : l.stackTraces = false) : vx_Met l (p_mY 280) (xc_WS 280 [(0, 10, 13, 13)]) (xc_rm 59) (xc_Pc G [.ref 0, .int a1, .int a2, .ref 310] 311 M) (p_Qc G false K_i) (fun _ _ _ => False) 1 6 (p_A G) := by
  obtain ⟨ha, fs, hM⟩ := J.1.1.ob kd_0 (by decide) (rfl : g_sh 0 = (0, 10, 11))
  exact xc_catcher (d := 58) (kx := 109) (as2 := [.int a1, .int a2]) (rest := [.int (Int32.ofInt 0), .ref 310]) (pI := 5) (nS := 4) (K1 := K_i) (KL := K_i) (Kt := LI) (by decide +kernel) (by decide +kernel) (by decide +kernel) wc_dog (by decide +kernel) (Nat.le_of_ble_eq_true rfl)
    (fun l hl0 => xc_thrower (pn := 18) (by decide) (by decide +kernel) (by decide +kernel) (Nat.le_of_ble_eq_true rfl) (p_tb_ok q_109_18) (p_tb_ok q_109_21) (p_tb_ok q_109_22) (p_tb_ok q_109_25) (thr_dog G a1 a2 M J) l hl0)
    q_280_5 rfl hM (by decide) rfl rfl (Nat.le_of_ble_eq_true rfl) (by decide) q_280_13 (by decide) q_280_15 q_280_16 (cat_dog G a1 a2 M) (aft_dog G a1 a2) (fun M1 h1 => ⟨⟨_, rfl⟩, rfl, h1⟩) l hl0
set_option maxRecDepth 100000 in
set_option maxHeartbeats 4000000 in
theorem thr_far (G : pG) (a1 a2 a3 a4 : Int32) (M : pM) (J : LI M) : PW G false 58 138 1 6 (K_i, fun pc' lv' st' N' M' ce' sl' => pc' = 21 ∧ st' = [] ∧ N' = 311 ∧ LI M' ∧ ce' = 0 ∧ sl' = 0) 0 (lv_args 0 [.ref 0, .int a1, .int a2, .int a3, .int a4]) [] 311 M 0 0 :=
  PW.up (by decide) (c_X11_far G _ M J.1 a1 a2 a3 a4 (fun x M1 I1 F1 => ⟨⟨x, rfl⟩, rfl, J.of I1 F1 rfl rfl rfl rfl rfl rfl rfl rfl rfl rfl rfl rfl rfl rfl rfl⟩) (fun lv1 M1 I1 F1 => ⟨rfl, rfl, rfl, J.of I1 F1 rfl rfl rfl rfl rfl rfl rfl rfl rfl rfl rfl rfl rfl rfl rfl, rfl, rfl⟩))
set_option maxRecDepth 100000 in
set_option maxHeartbeats 4000000 in
theorem cat_far (G : pG) (a1 a2 a3 a4 : Int32) (M : pM) : PW G false 59 281 1 6 (fun _ _ _ => False, fun pc' lv' st' N' M' ce' sl' => pc' = 9 ∧ lv' = (lv_args 0 [.ref 0, .int a1, .int a2, .int a3, .int a4, .ref 310]) ∧ st' = ([.int a1, .int a2, .int a3, .int a4] : List Value).reverse ++ .ref 0 :: [.int (Int32.ofInt 0), .ref 310] ∧ N' = 311 ∧ M' = M ∧ ce' = 0 ∧ sl' = 0) 0 (lv_args 0 [.ref 0, .int a1, .int a2, .int a3, .int a4, .ref 310]) [] 311 M 0 0 := by
  refine PW.aload q_281_0 rfl ?_
  refine PW.iconst q_281_2 ?_
  refine PW.aload_n q_281_3 rfl ?_
  refine PW.iload_n q_281_4 rfl ?_
  refine PW.iload_n q_281_5 rfl ?_
  refine PW.iload_n q_281_6 rfl ?_
  refine PW.iload q_281_7 rfl ?_
  exact PW.exit ⟨rfl, rfl, rfl, rfl, rfl, rfl, rfl⟩
set_option maxRecDepth 100000 in
set_option maxHeartbeats 4000000 in
theorem aft_far (G : pG) (a1 a2 a3 a4 : Int32) (v : Option Value) (N : Nat) (M : pM) (h : K_i v N M) : PW G false 59 281 1 6 (K_i, p_nx) (9 + 3) (lv_args 0 [.ref 0, .int a1, .int a2, .int a3, .int a4, .ref 310]) (v.toList ++ [.int (Int32.ofInt 0), .ref 310]) N M (0 + 1) (0 + 6) := by
  obtain ⟨⟨x, rfl⟩, rfl, J⟩ := h
  obtain ⟨f, hf⟩ := J.2.1
  refine PW.i2l q_281_12 ?_
  refine PW.last q_281_13 (by decide : 310 < 311) hf (vp_in_iff.mpr ⟨by decide, by decide⟩) ?_
  refine PW.goto q_281_14 rfl ?_
  refine PW.iconst q_281_21 ?_
  exact PW.iret q_281_22 rfl (by decide) (by decide) ⟨⟨_, rfl⟩, rfl, J.out⟩
theorem wc_far : Cond.codeWith (p_mY 281) (p_mC 281) (p_mL 281) (p_mR 281) [(0, 14, 17, 13)] ∈ p_GW := p_gi (List.mem_of_getElem? (i := 1332) (by decide +kernel)) rfl
set_option maxRecDepth 100000 in
set_option maxHeartbeats 4000000 in
theorem met_far (G : pG) (a1 a2 a3 a4 : Int32) (M : pM) (J : LI M) (l : Launch) (hl0 : l.stackTraces = false) : vx_Met l (p_mY 281) (xc_WS 281 [(0, 14, 17, 13)]) (xc_rm 59) (xc_Pc G [.ref 0, .int a1, .int a2, .int a3, .int a4, .ref 310] 311 M) (p_Qc G false K_i) (fun _ _ _ => False) 1 6 (p_A G) := by
  obtain ⟨ha, fs, hM⟩ := J.1.1.ob kd_0 (by decide) (rfl : g_sh 0 = (0, 10, 11))
  exact xc_catcher (d := 58) (kx := 138) (as2 := [.int a1, .int a2, .int a3, .int a4]) (rest := [.int (Int32.ofInt 0), .ref 310]) (pI := 9) (nS := 6) (K1 := K_i) (KL := K_i) (Kt := LI) (by decide +kernel) (by decide +kernel) (by decide +kernel) wc_far (by decide +kernel) (Nat.le_of_ble_eq_true rfl)
    (fun l hl0 => xc_thrower (pn := 21) (by decide) (by decide +kernel) (by decide +kernel) (Nat.le_of_ble_eq_true rfl) (p_tb_ok q_138_21) (p_tb_ok q_138_24) (p_tb_ok q_138_25) (p_tb_ok q_138_28) (thr_far G a1 a2 a3 a4 M J) l hl0)
    q_281_9 rfl hM (by decide) rfl rfl (Nat.le_of_ble_eq_true rfl) (by decide) q_281_17 (by decide) q_281_19 q_281_20 (cat_far G a1 a2 a3 a4 M) (aft_far G a1 a2 a3 a4) (fun M1 h1 => ⟨⟨_, rfl⟩, rfl, h1⟩) l hl0
set_option maxRecDepth 100000 in
set_option maxHeartbeats 4000000 in
theorem thr_near (G : pG) (a1 a2 a3 a4 a5 : Int32) (M : pM) (J : LI M) : PW G false 58 139 1 6 (K_l, fun pc' lv' st' N' M' ce' sl' => pc' = 34 ∧ st' = [] ∧ N' = 311 ∧ LI M' ∧ ce' = 0 ∧ sl' = 0) 0 (lv_args 0 [.ref 0, .int a1, .int a2, .int a3, .int a4, .int a5]) [] 311 M 0 0 :=
  PW.up (by decide) (c_X11_near G _ M J.1 a1 a2 a3 a4 a5 (fun x M1 I1 F1 => ⟨⟨x, rfl⟩, rfl, J.of I1 F1 rfl rfl rfl rfl rfl rfl rfl rfl rfl rfl rfl rfl rfl rfl rfl⟩) (fun lv1 M1 I1 F1 => ⟨rfl, rfl, rfl, J.of I1 F1 rfl rfl rfl rfl rfl rfl rfl rfl rfl rfl rfl rfl rfl rfl rfl, rfl, rfl⟩))
set_option maxRecDepth 100000 in
set_option maxHeartbeats 4000000 in
theorem cat_near (G : pG) (a1 a2 a3 a4 a5 : Int32) (M : pM) : PW G false 59 282 1 6 (fun _ _ _ => False, fun pc' lv' st' N' M' ce' sl' => pc' = 11 ∧ lv' = (lv_args 0 [.ref 0, .int a1, .int a2, .int a3, .int a4, .int a5, .ref 310]) ∧ st' = ([.int a1, .int a2, .int a3, .int a4, .int a5] : List Value).reverse ++ .ref 0 :: [.int (Int32.ofInt 0), .ref 310] ∧ N' = 311 ∧ M' = M ∧ ce' = 0 ∧ sl' = 0) 0 (lv_args 0 [.ref 0, .int a1, .int a2, .int a3, .int a4, .int a5, .ref 310]) [] 311 M 0 0 := by
  refine PW.aload q_282_0 rfl ?_
  refine PW.iconst q_282_2 ?_
  refine PW.aload_n q_282_3 rfl ?_
  refine PW.iload_n q_282_4 rfl ?_
  refine PW.iload_n q_282_5 rfl ?_
  refine PW.iload_n q_282_6 rfl ?_
  refine PW.iload q_282_7 rfl ?_
  refine PW.iload q_282_9 rfl ?_
  exact PW.exit ⟨rfl, rfl, rfl, rfl, rfl, rfl, rfl⟩
set_option maxRecDepth 100000 in
set_option maxHeartbeats 4000000 in
theorem aft_near (G : pG) (a1 a2 a3 a4 a5 : Int32) (v : Option Value) (N : Nat) (M : pM) (h : K_l v N M) : PW G false 59 282 1 6 (K_i, p_nx) (11 + 3) (lv_args 0 [.ref 0, .int a1, .int a2, .int a3, .int a4, .int a5, .ref 310]) (v.toList ++ [.int (Int32.ofInt 0), .ref 310]) N M (0 + 1) (0 + 6) := by
  obtain ⟨⟨x, rfl⟩, rfl, J⟩ := h
  obtain ⟨f, hf⟩ := J.2.1
  refine PW.last q_282_14 (by decide : 310 < 311) hf (vp_in_iff.mpr ⟨by decide, by decide⟩) ?_
  refine PW.goto q_282_15 rfl ?_
  refine PW.iconst q_282_22 ?_
  exact PW.iret q_282_23 rfl (by decide) (by decide) ⟨⟨_, rfl⟩, rfl, J.out⟩
theorem wc_near : Cond.codeWith (p_mY 282) (p_mC 282) (p_mL 282) (p_mR 282) [(0, 15, 18, 13)] ∈ p_GW := p_gi (List.mem_of_getElem? (i := 1354) (by decide +kernel)) rfl
set_option maxRecDepth 100000 in
set_option maxHeartbeats 4000000 in
theorem met_near (G : pG) (a1 a2 a3 a4 a5 : Int32) (M : pM) (J : LI M) (l : Launch) (hl0 : l.stackTraces = false) : vx_Met l (p_mY 282) (xc_WS 282 [(0, 15, 18, 13)]) (xc_rm 59) (xc_Pc G [.ref 0, .int a1, .int a2, .int a3, .int a4, .int a5, .ref 310] 311 M) (p_Qc G false K_i) (fun _ _ _ => False) 1 6 (p_A G) := by
  obtain ⟨ha, fs, hM⟩ := J.1.1.ob kd_0 (by decide) (rfl : g_sh 0 = (0, 10, 11))
  exact xc_catcher (d := 58) (kx := 139) (as2 := [.int a1, .int a2, .int a3, .int a4, .int a5]) (rest := [.int (Int32.ofInt 0), .ref 310]) (pI := 11) (nS := 7) (K1 := K_l) (KL := K_i) (Kt := LI) (by decide +kernel) (by decide +kernel) (by decide +kernel) wc_near (by decide +kernel) (Nat.le_of_ble_eq_true rfl)
    (fun l hl0 => xc_thrower (pn := 34) (by decide) (by decide +kernel) (by decide +kernel) (Nat.le_of_ble_eq_true rfl) (p_tb_ok q_139_34) (p_tb_ok q_139_37) (p_tb_ok q_139_38) (p_tb_ok q_139_41) (thr_near G a1 a2 a3 a4 a5 M J) l hl0)
    q_282_11 rfl hM (by decide) rfl rfl (Nat.le_of_ble_eq_true rfl) (by decide) q_282_18 (by decide) q_282_20 q_282_21 (cat_near G a1 a2 a3 a4 a5 M) (aft_near G a1 a2 a3 a4 a5) (fun M1 h1 => ⟨⟨_, rfl⟩, rfl, h1⟩) l hl0
set_option maxRecDepth 100000 in
set_option maxHeartbeats 4000000 in
theorem thr_ends (G : pG) (a1 a2 a3 : Int32) (M : pM) (J : LI M) : PW G false 58 140 1 6 (K_i, fun pc' lv' st' N' M' ce' sl' => pc' = 10 ∧ st' = [] ∧ N' = 311 ∧ LI M' ∧ ce' = 0 ∧ sl' = 0) 0 (lv_args 0 [.ref 0, .int a1, .int a2, .int a3]) [] 311 M 0 0 :=
  PW.up (by decide) (c_X11_ends G _ M J.1 a1 a2 a3 (fun x M1 I1 F1 => ⟨⟨x, rfl⟩, rfl, J.of I1 F1 rfl rfl rfl rfl rfl rfl rfl rfl rfl rfl rfl rfl rfl rfl rfl⟩) (fun lv1 M1 I1 F1 => ⟨rfl, rfl, rfl, J.of I1 F1 rfl rfl rfl rfl rfl rfl rfl rfl rfl rfl rfl rfl rfl rfl rfl, rfl, rfl⟩))
set_option maxRecDepth 100000 in
set_option maxHeartbeats 4000000 in
theorem cat_ends (G : pG) (a1 a2 a3 : Int32) (M : pM) : PW G false 59 283 1 6 (fun _ _ _ => False, fun pc' lv' st' N' M' ce' sl' => pc' = 7 ∧ lv' = (lv_args 0 [.ref 0, .int a1, .int a2, .int a3, .ref 310]) ∧ st' = ([.int a1, .int a2, .int a3] : List Value).reverse ++ .ref 0 :: [.int (Int32.ofInt 0), .ref 310] ∧ N' = 311 ∧ M' = M ∧ ce' = 0 ∧ sl' = 0) 0 (lv_args 0 [.ref 0, .int a1, .int a2, .int a3, .ref 310]) [] 311 M 0 0 := by
  refine PW.aload q_283_0 rfl ?_
  refine PW.iconst q_283_2 ?_
  refine PW.aload_n q_283_3 rfl ?_
  refine PW.iload_n q_283_4 rfl ?_
  refine PW.iload_n q_283_5 rfl ?_
  refine PW.iload_n q_283_6 rfl ?_
  exact PW.exit ⟨rfl, rfl, rfl, rfl, rfl, rfl, rfl⟩
set_option maxRecDepth 100000 in
set_option maxHeartbeats 4000000 in
theorem aft_ends (G : pG) (a1 a2 a3 : Int32) (v : Option Value) (N : Nat) (M : pM) (h : K_i v N M) : PW G false 59 283 1 6 (K_i, p_nx) (7 + 3) (lv_args 0 [.ref 0, .int a1, .int a2, .int a3, .ref 310]) (v.toList ++ [.int (Int32.ofInt 0), .ref 310]) N M (0 + 1) (0 + 6) := by
  obtain ⟨⟨x, rfl⟩, rfl, J⟩ := h
  obtain ⟨f, hf⟩ := J.2.1
  refine PW.i2l q_283_10 ?_
  refine PW.last q_283_11 (by decide : 310 < 311) hf (vp_in_iff.mpr ⟨by decide, by decide⟩) ?_
  refine PW.goto q_283_12 rfl ?_
  refine PW.iconst q_283_19 ?_
  exact PW.iret q_283_20 rfl (by decide) (by decide) ⟨⟨_, rfl⟩, rfl, J.out⟩
theorem wc_ends : Cond.codeWith (p_mY 283) (p_mC 283) (p_mL 283) (p_mR 283) [(0, 12, 15, 13)] ∈ p_GW := p_gi (List.mem_of_getElem? (i := 1365) (by decide +kernel)) rfl
set_option maxRecDepth 100000 in
set_option maxHeartbeats 4000000 in
theorem met_ends (G : pG) (a1 a2 a3 : Int32) (M : pM) (J : LI M) (l : Launch) (hl0 : l.stackTraces = false) : vx_Met l (p_mY 283) (xc_WS 283 [(0, 12, 15, 13)]) (xc_rm 59) (xc_Pc G [.ref 0, .int a1, .int a2, .int a3, .ref 310] 311 M) (p_Qc G false K_i) (fun _ _ _ => False) 1 6 (p_A G) := by
  obtain ⟨ha, fs, hM⟩ := J.1.1.ob kd_0 (by decide) (rfl : g_sh 0 = (0, 10, 11))
  exact xc_catcher (d := 58) (kx := 140) (as2 := [.int a1, .int a2, .int a3]) (rest := [.int (Int32.ofInt 0), .ref 310]) (pI := 7) (nS := 5) (K1 := K_i) (KL := K_i) (Kt := LI) (by decide +kernel) (by decide +kernel) (by decide +kernel) wc_ends (by decide +kernel) (Nat.le_of_ble_eq_true rfl)
    (fun l hl0 => xc_thrower (pn := 10) (by decide) (by decide +kernel) (by decide +kernel) (Nat.le_of_ble_eq_true rfl) (p_tb_ok q_140_10) (p_tb_ok q_140_13) (p_tb_ok q_140_14) (p_tb_ok q_140_17) (thr_ends G a1 a2 a3 M J) l hl0)
    q_283_7 rfl hM (by decide) rfl rfl (Nat.le_of_ble_eq_true rfl) (by decide) q_283_15 (by decide) q_283_17 q_283_18 (cat_ends G a1 a2 a3 M) (aft_ends G a1 a2 a3) (fun M1 h1 => ⟨⟨_, rfl⟩, rfl, h1⟩) l hl0
