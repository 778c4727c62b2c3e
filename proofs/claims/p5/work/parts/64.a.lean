/-! ===== the plans of world and images, and their five numbers ===== -/
def gWl : List Nat := [4, 5, 6, 7, 8, 9, 10, 11, 12, 13, 14, 40, 41, 42, 43, 44, 45, 46, 47, 48, 49, 50, 75, 76, 77, 78, 79, 80, 81, 82, 83, 84, 85]
/-- they are as they were -/
def gWk (M M1 : pM) : Prop := ∀ c, gWl.contains c = true → M1 c = M c
theorem gWk.refl {M : pM} : gWk M M := fun _ _ => rfl
theorem gWk.tr {M M1 M2 : pM} (h : gWk M M1) (k : gWk M1 M2) : gWk M M2 := fun c hc => (k c hc).trans (h c hc)
theorem gWk.ar {M M1 M2 : pM} {a : Nat} (h : gWk M M1) (U : ∀ c, c ≠ a → M2 c = M1 c) (ha : gWl.contains a = false) : gWk M M2 := fun c hc => (U c (fun e => by rw [e, ha] at hc; cases hc)).trans (h c hc)
theorem gWk.put {M M1 M2 : pM} {a i : Nat} (h : gWk M M1) (U : gU M1 M2 a i) (ha : gWl.contains a = false) : gWk M M2 := h.ar U.1 ha
theorem gWk.fr {M M1 M2 : pM} {l : List Nat} (h : gWk M M1) (F : Fr l M1 M2) (hl : (gWl.all fun c => !(l.contains (g_kd c))) = true) : gWk M M2 := fun c hc => by
  have q := List.all_eq_true.mp hl c (by simpa using hc)
  exact (F c (by simpa using q)).trans (h c hc)
/-- two plans of the class have the same five numbers -/
def g5f (e e0 : va_E) : Prop := o_i e 1 = o_i e0 1 ∧ o_i e 2 = o_i e0 2 ∧ o_i e 3 = o_i e0 3 ∧ o_i e 6 = o_i e0 6 ∧ o_i e 7 = o_i e0 7
/-- they are those of the plan A -/
def k_c5 (e : va_E) (A : k_A) : Prop := o_i e 1 = A.1 2 ∧ o_i e 2 = A.1 3 ∧ o_i e 3 = A.1 4 ∧ o_i e 6 = A.1 0 ∧ o_i e 7 = A.1 1
theorem k_c5.of {M : pM} {e : va_E} {A : k_A} (h : k_cp M A) (f : g5f e (M 256)) : k_c5 e A := by
  obtain ⟨c0, c1, c2, c3, c4, c5, c6, c7, -⟩ := h
  obtain ⟨f1, f2, f3, f6, f7⟩ := f
  exact ⟨f1.trans c1, f2.trans c2, f3.trans c3, f6.trans c6, f7.trans c7⟩
/-- beach() of the class -/
def gCB (y : k_X) (M M1 : pM) : Prop := (((k_lines y 901 k_A0 0).1 ≠ 0 ∧ M1 4 = M 4) ∨ ((k_lines y 901 k_A0 0).1 = 0 ∧ k_c5 (M1 4) (k_lines y 901 k_A0 0).2.2.1)) ∧ M1 40 = M 40 ∧ M1 75 = M 75
/-- image(), restore() of the class -/
def gIC (M M1 : pM) (a x : Int) : Prop :=
  ((a < 0 ∨ 1 < a) ∧ x = 0 ∧ M1 109 = M 109 ∧ M1 4 = M 4 ∧ M1 40 = M 40 ∧ M1 75 = M 75) ∨
  (a = 0 ∧ x = 1 ∧ (o_a (M1 109) 0).toInt = 1 ∧ o_a (M1 109) 1 = o_a (M 109) 1 ∧ g5f (M1 40) (M 4) ∧ M1 4 = M 4 ∧ M1 75 = M 75) ∨
  (a = 1 ∧ x = 1 ∧ (o_a (M1 109) 1).toInt = 1 ∧ o_a (M1 109) 0 = o_a (M 109) 0 ∧ g5f (M1 75) (M 4) ∧ M1 4 = M 4 ∧ M1 40 = M 40)
def gRC (M M1 : pM) (a x : Int) : Prop :=
  ((a < 0 ∨ 1 < a ∨ (o_a (M 109) a.toNat).toInt = 0) ∧ x = 0 ∧ M1 4 = M 4 ∧ M1 40 = M 40 ∧ M1 75 = M 75) ∨
  (a = 0 ∧ (o_a (M 109) 0).toInt ≠ 0 ∧ x = 1 ∧ g5f (M1 4) (M 40) ∧ M1 40 = M 40 ∧ M1 75 = M 75) ∨
  (a = 1 ∧ (o_a (M 109) 1).toInt ≠ 0 ∧ x = 1 ∧ g5f (M1 4) (M 75) ∧ M1 40 = M 40 ∧ M1 75 = M 75)
/-! ===== the reference ===== -/
def k_h5 (M : pM) (A : k_A) : Prop := (o_a (M 296) 0).toInt = A.1 0 ∧ (o_a (M 296) 1).toInt = A.1 1 ∧ (o_a (M 296) 2).toInt = A.1 2 ∧ (o_a (M 296) 3).toInt = A.1 3 ∧ ((A.1 4 = -1 ∧ (o_a (M 296) 4).toInt = 0) ∨ (1 ≤ A.1 4 ∧ (o_a (M 296) 4).toInt = A.1 4))
theorem k_h5.cg {M M1 : pM} {A : k_A} (h : k_h5 M A) (e : M1 296 = M 296) : k_h5 M1 A := by unfold k_h5; rw [e]; exact h
theorem k_h5.st {M M1 : pM} {A : k_A} {q : Nat} (h : k_h5 M A) (U : gVv M M1 296 q) (hq : 5 ≤ q) : k_h5 M1 A := by
  unfold k_h5
  rw [U.2 0 (by omega), U.2 1 (by omega), U.2 2 (by omega), U.2 3 (by omega), U.2 4 (by omega)]
  exact h
/-- the first i of s (five at most) are those of h -/
def k_hc (M M0 : pM) (i : Int) : Prop := ∀ z : Nat, z < 5 → (z : Int) < i → o_a (M 296) z = o_a (M0 297) z
theorem k_hc.zero {M M0 : pM} {i : Int} (h : i ≤ 0) : k_hc M M0 i := fun z _ hz => by omega
theorem k_hc.lo {M M1 M0 : pM} {q j : Nat} {i i' : Int} {x : Int32} (h : k_hc M M0 i) (U : gVv M M1 296 q) (hq : (q : Int) = i) (hv : o_a (M1 296) q = x) (hs : o_a (M 297) j = x) (hj : (j : Int) = i) (e : M 297 = M0 297) (hi : i' = i + 1) : k_hc M1 M0 i' := fun z h5 hz => by
  by_cases w : z = q
  · subst w
    obtain rfl : j = z := by omega
    rw [hv, ← e, hs]
  · rw [U.2 z w]; exact h z h5 (by omega)
theorem k_hc.hi {M M1 M0 : pM} {q : Nat} {i i' : Int} (h : k_hc M M0 i) (U : gVv M M1 296 q) (hq : (q : Int) = i) (h5 : 5 ≤ i) (hi : i' = i + 1) : k_hc M1 M0 i' := fun z h5 hz => by
  rw [U.2 z (by omega)]; exact h z h5 (by omega)
theorem k_hc.h5 {M M0 : pM} {A : k_A} {i : Int} (h : k_hc M M0 i) (hi : 5 ≤ i) (c : k_rp M0 A) : k_h5 M A := by
  obtain ⟨c0, c1, c2, c3, c4, -⟩ := c
  unfold k_h5
  rw [h 0 (by omega) (by omega), h 1 (by omega) (by omega), h 2 (by omega) (by omega), h 3 (by omega) (by omega), h 4 (by omega) (by omega)]
  exact ⟨c0, c1, c2, c3, c4⟩
def gRB (y : k_X) (M M1 : pM) : Prop := ((k_lines y 901 k_A0 0).1 ≠ 0 ∧ M1 296 = M 296) ∨ ((k_lines y 901 k_A0 0).1 = 0 ∧ k_h5 M1 (k_lines y 901 k_A0 0).2.2.1)
/-- image(): what is kept; the other half stays -/
def gko (M M1 : pM) (a : Nat) : Prop := ∀ z : Nat, (z < 397 * a ∨ 397 * a + 397 ≤ z) → o_a (M1 307) z = o_a (M 307) z
theorem gko.step {M M1 M2 : pM} {a q : Nat} {i : Int} (h : gko M M1 a) (U : gVv M1 M2 307 q) (hq : (q : Int) = 397 * a + i) (h1 : 0 ≤ i) (h2 : i < 397) : gko M M2 a := fun z hz => by rw [U.2 z (by omega)]; exact h z hz
def gi5 (M M1 : pM) (a : Nat) : Prop := (∀ z : Nat, z < 5 → o_a (M1 307) (397 * a + z) = o_a (M 296) z) ∧ gko M M1 a
theorem gi5.cg {M M1 M2 : pM} {a : Nat} (h : gi5 M M1 a) (e : M2 307 = M1 307) : gi5 M M2 a := by unfold gi5 gko; rw [e]; exact h
theorem gi5.of {M M1 : pM} {a : Nat} {i : Int} (h : gcp M1 307 (397 * a) 296 0 i) (hi : 397 ≤ i) (e : M1 296 = M 296) (k : gko M M1 a) : gi5 M M1 a := ⟨fun z hz => by rw [h z (by omega), e, Nat.zero_add], k⟩
def gIR (M M1 : pM) (a x : Int) : Prop :=
  ((a < 0 ∨ 1 < a) ∧ x = 0 ∧ M1 309 = M 309 ∧ M1 307 = M 307) ∨
  (0 ≤ a ∧ a ≤ 1 ∧ x = 1 ∧ (o_a (M1 309) a.toNat).toInt = 1 ∧ (∀ z : Nat, z ≠ a.toNat → o_a (M1 309) z = o_a (M 309) z) ∧ gi5 M M1 a.toNat)
/-- restore() -/
def gs5 (M M1 : pM) (a : Nat) : Prop := ∀ z : Nat, z < 5 → o_a (M1 296) z = o_a (M 307) (397 * a + z)
theorem gs5.cg {M M1 M2 : pM} {a : Nat} (h : gs5 M M1 a) (e : M2 296 = M1 296) : gs5 M M2 a := by unfold gs5; rw [e]; exact h
theorem gs5.of {M M1 : pM} {a : Nat} {i : Int} (h : gcp M1 296 0 307 (397 * a) i) (hi : 397 ≤ i) (e : M1 307 = M 307) : gs5 M M1 a := fun z hz => by have w := h z (by omega); rw [Nat.zero_add, e] at w; exact w
def gRR (M M1 : pM) (a x : Int) : Prop :=
  ((a < 0 ∨ 1 < a ∨ (o_a (M 309) a.toNat).toInt = 0) ∧ x = 0 ∧ M1 296 = M 296) ∨
  (0 ≤ a ∧ a ≤ 1 ∧ (o_a (M 309) a.toNat).toInt ≠ 0 ∧ x = 1 ∧ gs5 M M1 a.toNat)
