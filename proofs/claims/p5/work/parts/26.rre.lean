/-! ===== what the reference holds of a text ===== -/
/-- the reference's word of a word's value: the same signs to base 256 -/
def k_wdF : Nat → Nat → Nat
  | 0, _ => 0
  | f + 1, c => if c = 0 then 0 else k_wdF f (c / 32) * 256 + (96 + c % 32)
theorem k_wdF_inj : ∀ (f a b : Nat), a < 32 ^ f → b < 32 ^ f → k_wdF f a = k_wdF f b → a = b := by
  intro f
  induction f with
  | zero => intro a b ha hb _; rw [Nat.pow_zero] at ha hb; omega
  | succ f ih =>
    intro a b ha hb e
    rw [Nat.pow_succ] at ha hb
    have ea : k_wdF (f + 1) a = if a = 0 then 0 else k_wdF f (a / 32) * 256 + (96 + a % 32) := rfl
    have eb : k_wdF (f + 1) b = if b = 0 then 0 else k_wdF f (b / 32) * 256 + (96 + b % 32) := rfl
    rw [ea, eb] at e
    by_cases h1 : a = 0
    · rw [if_pos h1] at e
      by_cases h2 : b = 0
      · omega
      · rw [if_neg h2] at e; omega
    · rw [if_neg h1] at e
      by_cases h2 : b = 0
      · rw [if_pos h2] at e; omega
      · rw [if_neg h2] at e
        have q := ih (a / 32) (b / 32) (by omega) (by omega) (by omega)
        omega
def k_wi (v : Int) : Int := (k_wdF 7 v.toNat : Nat)
theorem k_wi_inj {a b : Int} (ha : 0 ≤ a ∧ a < 34359738368) (hb : 0 ≤ b ∧ b < 34359738368) (e : k_wi a = k_wi b) : a = b := by
  have q := k_wdF_inj 7 a.toNat b.toNat (by omega) (by omega) (by unfold k_wi at e; omega)
  omega
theorem k_wdF_on : ∀ (f c d : Nat), c < 32 ^ f → 1 ≤ d → d ≤ 26 → k_wdF (f + 1) (c * 32 + d) = k_wdF f c * 256 + (96 + d) := by
  intro f c d hc h1 h2
  show (if c * 32 + d = 0 then 0 else k_wdF f ((c * 32 + d) / 32) * 256 + (96 + (c * 32 + d) % 32)) = _
  rw [if_neg (by omega), show (c * 32 + d) / 32 = c from by omega, show (c * 32 + d) % 32 = d from by omega]
theorem k_wdF_up : ∀ (f c : Nat), c < 32 ^ f → k_wdF (f + 1) c = k_wdF f c := by
  intro f
  induction f with
  | zero =>
    intro c hc
    rw [Nat.pow_zero] at hc
    show (if c = 0 then 0 else _) = 0
    rw [if_pos (by omega)]
  | succ f ih =>
    intro c hc
    rw [Nat.pow_succ] at hc
    show (if c = 0 then 0 else k_wdF (f + 1) (c / 32) * 256 + (96 + c % 32)) = (if c = 0 then 0 else k_wdF f (c / 32) * 256 + (96 + c % 32))
    rw [ih (c / 32) (by omega)]
/-- a word of letters: its value to base 32, and to base 256 -/
theorem k_w8_wd (x : k_X) (q : Nat) : ∀ k : Nat, k ≤ 7 → k_lt x q k = k → 0 ≤ k_cd x q k ∧ k_cd x q k < ((32 ^ k : Nat) : Int) ∧ k_w8 x q k = (k_wdF k (k_cd x q k).toNat : Nat) := by
  intro k
  induction k with
  | zero => intro _ _; exact ⟨by show (0 : Int) ≤ 0; omega, by show (0 : Int) < ((1 : Nat) : Int); omega, rfl⟩
  | succ k ih =>
    intro hk hl
    have eb := k_lt_b x q k
    have hd : 97 ≤ x.1 (q + k) ∧ x.1 (q + k) ≤ 122 := by
      by_cases h : 97 ≤ x.1 (q + k) ∧ x.1 (q + k) ≤ 122
      · exact h
      · rw [k_lt_d h] at hl; omega
    rw [k_lt_l hd.1 hd.2] at hl
    obtain ⟨a, b, c⟩ := ih (by omega) (by omega)
    have e1 : k_cd x q (k + 1) = k_cd x q k * 32 + (x.1 (q + k) - 96) := rfl
    have e2 : k_w8 x q (k + 1) = k_w8 x q k * 256 + x.1 (q + k) := rfl
    have e3 : (k_cd x q (k + 1)).toNat = (k_cd x q k).toNat * 32 + (x.1 (q + k) - 96).toNat := by omega
    refine ⟨by omega, by rw [Nat.pow_succ]; omega, ?_⟩
    rw [e2, c, e3, k_wdF_on k _ _ (by omega) (by omega) (by omega)]
    omega
theorem k_wdF_7 : ∀ (d f c : Nat), c < 32 ^ f → k_wdF (f + d) c = k_wdF f c := by
  intro d
  induction d with
  | zero => intro f c _; rfl
  | succ d ih =>
    intro f c hc
    have h : 32 ^ f ≤ 32 ^ (f + d) := Nat.pow_le_pow_right (by decide) (by omega)
    rw [← Nat.add_assoc, k_wdF_up (f + d) c (by omega)]
    exact ih f c hc
theorem k_w8_wi {x : k_X} {q k : Nat} (hk : k ≤ 7) (hl : k_lt x q k = k) : k_w8 x q k = k_wi (k_cd x q k) ∧ 0 ≤ k_cd x q k ∧ k_cd x q k < 34359738368 := by
  obtain ⟨a, b, c⟩ := k_w8_wd x q k hk hl
  have h : 32 ^ k ≤ 32 ^ 7 := Nat.pow_le_pow_right (by decide) hk
  have e := k_wdF_7 (7 - k) k (k_cd x q k).toNat (by omega)
  rw [show k + (7 - k) = 7 from by omega] at e
  refine ⟨?_, a, by have : (32 : Nat) ^ 7 = 34359738368 := by decide
                    omega⟩
  unfold k_wi
  rw [c, e]
theorem p_wcB : ((List.range 28).all fun r => decide (0 ≤ (p_wc r).toInt) && decide ((p_wc r).toInt < 34359738368)) = true := by decide +kernel
theorem p_wc_b {r : Nat} (hr : r < 28) : 0 ≤ (p_wc r).toInt ∧ (p_wc r).toInt < 34359738368 := by
  have q := List.all_eq_true.mp p_wcB r (List.mem_range.mpr hr)
  simp only [Bool.and_eq_true, decide_eq_true_eq] at q
  exact q
/-- the reference's fields but these are as they were -/
def gKl (l : List Nat) (M M1 : pM) : Prop := ∀ k, l.contains k = false → o_f (M1 294) k = o_f (M 294) k
theorem gKl.i {l : List Nat} {M M1 : pM} (h : gKl l M M1) (k : Nat) (hk : l.contains k = false) : o_i (M1 294) k = o_i (M 294) k := by unfold o_i; rw [h k hk]
theorem gKl.J {l : List Nat} {M M1 : pM} (h : gKl l M M1) (k : Nat) (hk : l.contains k = false) : o_J (M1 294) k = o_J (M 294) k := by unfold o_J; rw [h k hk]
theorem gKl.refl {l : List Nat} {M : pM} : gKl l M M := fun _ _ => rfl
theorem gKl.put {l : List Nat} {M M1 M2 : pM} {i : Nat} (h : gKl l M M1) (U : gU M1 M2 294 i) (hi : l.contains i = true) : gKl l M M2 := fun k hk => by
  rw [U.f (c := 294) (Or.inr (fun e => by rw [e, hi] at hk; cases hk)), h k hk]
theorem gKl.cg {l : List Nat} {M M1 M2 : pM} (h : gKl l M M1) (e : M2 294 = M1 294) : gKl l M M2 := fun k hk => by rw [e, h k hk]
theorem gKl.tr {l l' : List Nat} {M M1 M2 : pM} (h : gKl l M M1) (h2 : gKl l' M1 M2) (hs : l'.all (fun x => l.contains x) = true) : gKl l M M2 := fun k hk => by
  rw [h2 k ?_, h k hk]
  cases e : l'.contains k with
  | false => rfl
  | true =>
    have q := List.all_eq_true.mp hs k (by simpa using e)
    rw [hk] at q; cases q
def k_rx (x : k_X) (M : pM) : Prop := o_i (M 294) 3 = x.2.1 ∧ o_i (M 294) 5 = x.2.2 ∧ (∀ i, i < x.2.1 → (o_a (M 295) i &&& 255).toInt = x.1 i) ∧ (∀ r, r < 28 → (o_l (M 300) r).toInt = k_wi (p_wc r).toInt) ∧ o_i (M 294) 15 = 0
def k_rt (M : pM) (t : k_T) : Prop :=
  o_i (M 294) 12 = t.2.2.1 ∧
  ((t.1 = 0 ∧ o_i (M 294) 11 = 0) ∨ (t.1 = 1 ∧ o_i (M 294) 11 = 4) ∨
   (t.1 = 2 ∧ o_i (M 294) 4 = t.2.2.2 ∧ o_i (M 294) 11 = 1 ∧ o_J (M 294) 17 = k_wi t.2.1 ∧ 0 ≤ t.2.1 ∧ t.2.1 < 34359738368) ∨
   (t.1 = 4 ∧ o_i (M 294) 4 = t.2.2.2 ∧ o_i (M 294) 11 = 2 ∧ o_i (M 294) 14 = t.2.1) ∨
   (t.1 = 5 ∧ o_i (M 294) 4 = t.2.2.2 ∧ o_i (M 294) 11 = 3 ∧ o_i (M 294) 14 = t.2.1))
def k_ra (x : k_X) (M : pM) (i : Nat) : Prop := k_rx x M ∧ k_rt M (k_tk x (k_ps x i))
def k_rn' (x : k_X) (M : pM) (i : Nat) : Prop := k_rx x M ∧ o_i (M 294) 4 = k_ps x i ∧ k_ps x i ≤ x.2.1
theorem k_ra.nx {x : k_X} {M : pM} {i : Nat} (h : k_ra x M i) (h2 : 2 ≤ kK x i) : k_rn' x M (i + 1) := by
  have q := k_ps_on h2
  refine ⟨h.1, ?_, q.2⟩
  unfold kK at h2
  rcases h.2.2 with ⟨q, -⟩ | ⟨q, -⟩ | ⟨-, q, -⟩ | ⟨-, q, -⟩ | ⟨-, q, -⟩
  · omega
  · omega
  · exact q
  · exact q
  · exact q
theorem k_rx.K {x : k_X} {l : List Nat} {M M1 : pM} (h : k_rx x M) (Q : gKl l M M1) (e1 : M1 295 = M 295) (e2 : M1 300 = M 300) (h3 : l.contains 3 = false) (h5 : l.contains 5 = false) (h15 : l.contains 15 = false) : k_rx x M1 := by
  unfold k_rx
  rw [Q.i 3 h3, Q.i 5 h5, Q.i 15 h15, e1, e2]
  exact h
theorem k_rx.cg {x : k_X} {M M1 : pM} (h : k_rx x M) (e1 : M1 294 = M 294) (e2 : M1 295 = M 295) (e3 : M1 300 = M 300) : k_rx x M1 := by unfold k_rx; rw [e1, e2, e3]; exact h
theorem k_ra.cg {x : k_X} {M M1 : pM} {i : Nat} (h : k_ra x M i) (e1 : M1 294 = M 294) (e2 : M1 295 = M 295) (e3 : M1 300 = M 300) : k_ra x M1 i := by unfold k_ra k_rx k_rt; rw [e1, e2, e3]; exact h
/-- fields that a token doesn't rest on -/
theorem k_ra.U {x : k_X} {M M1 : pM} {i k : Nat} (h : k_ra x M i) (U : gU M M1 294 k) (hk : [3, 4, 5, 11, 12, 14, 15, 17].contains k = false) : k_ra x M1 i := by
  have f : ∀ j, [3, 4, 5, 11, 12, 14, 15, 17].contains j = true → o_f (M1 294) j = o_f (M 294) j := fun j hj => U.f (c := 294) (Or.inr (fun e => by rw [e, hk] at hj; cases hj))
  have g : ∀ j, [3, 4, 5, 11, 12, 14, 15, 17].contains j = true → o_i (M1 294) j = o_i (M 294) j := fun j hj => by unfold o_i; rw [f j hj]
  have g7 : o_J (M1 294) 17 = o_J (M 294) 17 := by unfold o_J; rw [f 17 rfl]
  unfold k_ra k_rx k_rt
  rw [g 3 rfl, g 4 rfl, g 5 rfl, g 11 rfl, g 12 rfl, g 14 rfl, g 15 rfl, g7, U.1 295 (by decide), U.1 300 (by decide)]
  exact h
theorem k_rx.U {x : k_X} {M M1 : pM} {k : Nat} (h : k_rx x M) (U : gU M M1 294 k) (hk : [3, 5, 15].contains k = false) : k_rx x M1 := by
  have g : ∀ j, [3, 5, 15].contains j = true → o_i (M1 294) j = o_i (M 294) j := fun j hj => U.i (c := 294) (Or.inr (fun e => by rw [e, hk] at hj; cases hj))
  unfold k_rx
  rw [g 3 rfl, g 5 rfl, g 15 rfl, U.1 295 (by decide), U.1 300 (by decide)]
  exact h
/-- the plan that the reference reads -/
def k_rp (M : pM) (A : k_A) : Prop :=
  (o_a (M 297) 0).toInt = A.1 0 ∧ (o_a (M 297) 1).toInt = A.1 1 ∧ (o_a (M 297) 2).toInt = A.1 2 ∧ (o_a (M 297) 3).toInt = A.1 3 ∧
  ((A.1 4 = -1 ∧ (o_a (M 297) 4).toInt = 0) ∨ (1 ≤ A.1 4 ∧ (o_a (M 297) 4).toInt = A.1 4)) ∧
  o_i (M 294) 19 = A.1 5 ∧ 0 ≤ o_i (M 294) 20 ∧ o_i (M 294) 20 ≤ 7 ∧
  (o_i (M 294) 20 % 2 = 1 ↔ (A.1 6 = 1 ∨ 0 < A.1 0)) ∧ (o_i (M 294) 20 / 2 % 2 = 1 ↔ A.1 7 = 1) ∧ (o_i (M 294) 20 / 4 % 2 = 1 ↔ A.1 4 ≠ -1) ∧
  (∀ j : Nat, (j : Int) < A.1 0 → (o_l (M 299) (8 + j)).toInt = k_wi (A.2.1 j) ∧ 0 ≤ A.2.1 j ∧ A.2.1 j < 34359738368) ∧
  (∀ j : Nat, (j : Int) < A.1 1 → (o_l (M 299) (14 + j)).toInt = k_wi (A.2.2.1 j) ∧ 0 ≤ A.2.2.1 j ∧ A.2.2.1 j < 34359738368) ∧
  (∀ j : Nat, (j : Int) < A.1 1 → (o_a (M 297) (31 + j)).toInt = A.2.2.2.1 j ∧ 0 ≤ A.2.2.2.1 j) ∧
  (∀ j : Nat, (j : Int) < A.1 1 → (o_a (M 297) (29 + j)).toInt = A.2.2.2.2 j) ∧
  (∀ j : Nat, A.1 1 ≤ (j : Int) → j < 2 → (o_a (M 297) (31 + j)).toInt = 0) ∧ 0 ≤ A.1 0 ∧ A.1 0 ≤ 6 ∧ 0 ≤ A.1 1 ∧ A.1 1 ≤ 2
/-- it rests on these places -/
theorem k_rp.cg {M M1 : pM} {A : k_A} (h : k_rp M A) (e19 : o_i (M1 294) 19 = o_i (M 294) 19) (e20 : o_i (M1 294) 20 = o_i (M 294) 20) (eh : ∀ z, (z ≤ 4 ∨ (29 ≤ z ∧ z ≤ 32)) → o_a (M1 297) z = o_a (M 297) z) (en : ∀ z : Nat, ((8 ≤ z ∧ (z : Int) < 8 + A.1 0) ∨ (14 ≤ z ∧ (z : Int) < 14 + A.1 1)) → o_l (M1 299) z = o_l (M 299) z) : k_rp M1 A := by
  obtain ⟨c0, c1, c2, c3, c4, c5, c6, c7, c8, c9, c10, c11, c12, c13, c14, c15, c16, c17, c18, c19⟩ := h
  unfold k_rp
  rw [eh 0 (by omega), eh 1 (by omega), eh 2 (by omega), eh 3 (by omega), eh 4 (by omega), e19, e20]
  exact ⟨c0, c1, c2, c3, c4, c5, c6, c7, c8, c9, c10, fun j hj => by rw [en (8 + j) (by omega)]; exact c11 j hj, fun j hj => by rw [en (14 + j) (by omega)]; exact c12 j hj, fun j hj => by rw [eh (31 + j) (by omega)]; exact c13 j hj, fun j hj => by rw [eh (29 + j) (by omega)]; exact c14 j hj, fun j hj h2 => by rw [eh (31 + j) (by omega)]; exact c15 j hj h2, c16, c17, c18, c19⟩
/-- of it: the names and how many they are -/
def k_rs (M : pM) (A : k_A) : Prop :=
  (o_a (M 297) 0).toInt = A.1 0 ∧ (o_a (M 297) 1).toInt = A.1 1 ∧
  (∀ j : Nat, (j : Int) < A.1 0 → (o_l (M 299) (8 + j)).toInt = k_wi (A.2.1 j) ∧ 0 ≤ A.2.1 j ∧ A.2.1 j < 34359738368) ∧
  (∀ j : Nat, (j : Int) < A.1 1 → (o_l (M 299) (14 + j)).toInt = k_wi (A.2.2.1 j) ∧ 0 ≤ A.2.2.1 j ∧ A.2.2.1 j < 34359738368) ∧
  0 ≤ A.1 0 ∧ A.1 0 ≤ 6 ∧ 0 ≤ A.1 1 ∧ A.1 1 ≤ 2
theorem k_rp.rs {M : pM} {A : k_A} (h : k_rp M A) : k_rs M A := by
  obtain ⟨c0, c1, c2, c3, c4, c5, c6, c7, c8, c9, c10, c11, c12, c13, c14, c15, c16, c17, c18, c19⟩ := h
  exact ⟨c0, c1, c11, c12, c16, c17, c18, c19⟩
theorem k_rs.cg {M M1 : pM} {A : k_A} (h : k_rs M A) (eh : ∀ z, z ≤ 1 → o_a (M1 297) z = o_a (M 297) z) (en : ∀ z : Nat, ((8 ≤ z ∧ (z : Int) < 8 + A.1 0) ∨ (14 ≤ z ∧ (z : Int) < 14 + A.1 1)) → o_l (M1 299) z = o_l (M 299) z) : k_rs M1 A := by
  obtain ⟨c0, c1, c11, c12, c16, c17, c18, c19⟩ := h
  unfold k_rs
  rw [eh 0 (by omega), eh 1 (by omega)]
  exact ⟨c0, c1, fun j hj => by rw [en (8 + j) (by omega)]; exact c11 j hj, fun j hj => by rw [en (14 + j) (by omega)]; exact c12 j hj, c16, c17, c18, c19⟩
theorem k_upn {e0 e1 : va_E} {f : Nat → Int} {w v : Int} {b : Nat} (h : ∀ j : Nat, (j : Int) < w → (o_l e0 (b + j)).toInt = k_wi (f j) ∧ 0 ≤ f j ∧ f j < 34359738368) (h0 : 0 ≤ w) (hv : (o_l e1 (b + w.toNat)).toInt = k_wi v ∧ 0 ≤ v ∧ v < 34359738368) (hn : ∀ j : Nat, (j : Int) < w → o_l e1 (b + j) = o_l e0 (b + j)) : ∀ j : Nat, (j : Int) < w + 1 → (o_l e1 (b + j)).toInt = k_wi (va_up f w.toNat v j) ∧ 0 ≤ va_up f w.toNat v j ∧ va_up f w.toNat v j < 34359738368 := by
  intro j hj
  by_cases e : j = w.toNat
  · subst e; rw [p_up_eq]; exact hv
  · rw [va_up_ne _ _ e, hn j (by omega)]; exact h j (by omega)
theorem k_ni_of {x : k_X} {i : Nat} {s c : Int} (h0 : s = 0 ∨ s = 1) (hi : s = 1 ↔ (kK x i = 2 ∧ ∀ r : Nat, (r : Int) < c → (p_wc r).toInt ≠ kV x i)) (hc : c = 28) : s = k_ni x i := by
  unfold k_ni
  by_cases q : kK x i = 2 ∧ ∀ r, r < 28 → (p_wc r).toInt ≠ kV x i
  · rw [if_pos q]; exact hi.mpr ⟨q.1, fun r hr => q.2 r (by omega)⟩
  · rw [if_neg q]
    rcases h0 with e | e
    · exact e
    · exact absurd ⟨(hi.mp e).1, fun r hr => (hi.mp e).2 r (by omega)⟩ q
/-- how a reader of the reference ends -/
def k_rq (x : k_X) (R : k_R) (r : Int32) (M1 : pM) : Prop :=
  (r.toInt = 1 ∧ R.1 = 0 ∧ k_ra x M1 R.2.2.2 ∧ k_rp M1 R.2.2.1) ∨ (r.toInt = 0 ∧ R.1 ≠ 0 ∧ o_i (M1 294) 15 = R.1 ∧ o_i (M1 294) 16 = R.2.1)
