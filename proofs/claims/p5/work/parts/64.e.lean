theorem k_nr_K {x : k_X} {i : Nat} {lo hi : Int} (h : ¬ k_nr x i lo hi ≠ 0) : kK x i = 4 := by
  by_cases q : kK x i = 4
  · exact q
  · exfalso; apply h; unfold k_nr; rw [if_pos q]; decide
theorem k_ni_K {x : k_X} {i : Nat} (h : ¬ k_ni x i = 0) : kK x i = 2 := by
  by_cases q : kK x i = 2
  · exact q
  · exfalso; apply h
    have hn : ¬ (kK x i = 2 ∧ ∀ r, r < 28 → (p_wc r).toInt ≠ kV x i) := fun w => q w.1
    unfold k_ni; rw [if_neg hn]
theorem k_lw_K {x : k_X} {i : Nat} (h : ¬ k_lw x i = -1) : kK x i = 2 := by
  by_cases q : kK x i = 2
  · exact q
  · exfalso; apply h
    have hn : ∀ v : Int, ¬ (kK x i = 2 ∧ kV x i = v) := fun v w => q w.1
    unfold k_lw; rw [if_neg (hn _), if_neg (hn _), if_neg (hn _), if_neg (hn _)]
def k_gn (x : k_X) (i j : Nat) : Prop := i < j ∧ ∀ k, i ≤ k → k < j → 2 ≤ kK x k
theorem k_len_g {x : k_X} {A : k_A} {i : Nat} (hK : kK x i = 2) (h : (k_len x A i).1 = 0) : k_gn x i (k_len x A i).2.2.2 := by
  unfold k_len at h ⊢
  by_cases q1 : A.1 6 = 1 ∨ 0 < A.1 0
  · rw [if_pos q1] at h; exact absurd (show (3 : Int) = 0 from h) (by decide)
  by_cases q2 : k_nr x (i + 1) 1 900 ≠ 0
  · rw [if_neg q1, if_pos q2] at h; exact absurd h q2
  rw [if_neg q1, if_neg q2]
  have a1 := k_nr_K q2
  refine ⟨by show i < i + 2; omega, fun k h1 h2 => ?_⟩
  have h2 : k < i + 2 := h2
  rcases (by omega : k = i ∨ k = i + 1) with rfl | rfl <;> omega
theorem k_body_g {x : k_X} {A : k_A} {i : Nat} (hK : kK x i = 2) (h : (k_body x A i).1 = 0) : k_gn x i (k_body x A i).2.2.2 := by
  unfold k_body at h ⊢
  by_cases q1 : A.1 7 = 1
  · rw [if_pos q1] at h; exact absurd (show (3 : Int) = 0 from h) (by decide)
  by_cases q2 : k_nr x (i + 1) 0 9 ≠ 0
  · rw [if_neg q1, if_pos q2] at h; exact absurd h q2
  rw [if_neg q1, if_neg q2]
  have a1 := k_nr_K q2
  refine ⟨by show i < i + 2; omega, fun k h1 h2 => ?_⟩
  have h2 : k < i + 2 := h2
  rcases (by omega : k = i ∨ k = i + 1) with rfl | rfl <;> omega
theorem k_keeps_g {x : k_X} {A : k_A} {i : Nat} (hK : kK x i = 2) (h : (k_keeps x A i).1 = 0) : k_gn x i (k_keeps x A i).2.2.2 := by
  unfold k_keeps at h ⊢
  by_cases q1 : A.1 4 ≠ -1
  · rw [if_pos q1] at h; exact absurd (show (3 : Int) = 0 from h) (by decide)
  by_cases q2 : k_nr x (i + 1) 1 99 ≠ 0
  · rw [if_neg q1, if_pos q2] at h; exact absurd h q2
  rw [if_neg q1, if_neg q2]
  have a1 := k_nr_K q2
  refine ⟨by show i < i + 2; omega, fun k h1 h2 => ?_⟩
  have h2 : k < i + 2 := h2
  rcases (by omega : k = i ∨ k = i + 1) with rfl | rfl <;> omega
theorem k_walker_g {x : k_X} {A : k_A} {i : Nat} (hK : kK x i = 2) (h : (k_walker x A i).1 = 0) : k_gn x i (k_walker x A i).2.2.2 := by
  unfold k_walker at h ⊢
  by_cases q1 : 6 ≤ A.1 0
  · rw [if_pos q1] at h; exact absurd (show (4 : Int) = 0 from h) (by decide)
  by_cases q2 : k_ni x (i + 1) = 0
  · rw [if_neg q1, if_pos q2] at h; exact absurd (show (1 : Int) = 0 from h) (by decide)
  by_cases q3 : k_fd A.2.1 (kV x (i + 1)) (A.1 0).toNat ≠ -1 ∨ k_fd A.2.2.1 (kV x (i + 1)) (A.1 1).toNat ≠ -1
  · rw [if_neg q1, if_neg q2, if_pos q3] at h; exact absurd (show (3 : Int) = 0 from h) (by decide)
  by_cases q4 : k_nr x (i + 2) 0 (A.1 2) ≠ 0
  · rw [if_neg q1, if_neg q2, if_neg q3, if_pos q4] at h; exact absurd h q4
  by_cases q5 : k_nr x (i + 3) 0 9 ≠ 0
  · rw [if_neg q1, if_neg q2, if_neg q3, if_neg q4, if_pos q5] at h; exact absurd h q5
  rw [if_neg q1, if_neg q2, if_neg q3, if_neg q4, if_neg q5]
  have a1 := k_ni_K q2
  have a2 := k_nr_K q4
  have a3 := k_nr_K q5
  by_cases q6 : kK x (i + 4) = 2 ∧ kV x (i + 4) = (p_wc 4).toInt
  · rw [if_pos q6]
    have a4 := q6.1
    refine ⟨by show i < i + 5; omega, fun k h1 h2 => ?_⟩
    have h2 : k < i + 5 := h2
    rcases (by omega : k = i ∨ k = i + 1 ∨ k = i + 2 ∨ k = i + 3 ∨ k = i + 4) with rfl | rfl | rfl | rfl | rfl <;> omega
  · rw [if_neg q6]
    refine ⟨by show i < i + 4; omega, fun k h1 h2 => ?_⟩
    have h2 : k < i + 4 := h2
    rcases (by omega : k = i ∨ k = i + 1 ∨ k = i + 2 ∨ k = i + 3) with rfl | rfl | rfl | rfl <;> omega
theorem k_dog_g {x : k_X} {A : k_A} {i : Nat} (hK : kK x i = 2) (h : (k_dog x A i).1 = 0) : k_gn x i (k_dog x A i).2.2.2 := by
  unfold k_dog at h ⊢
  by_cases q1 : 2 ≤ A.1 1
  · rw [if_pos q1] at h; exact absurd (show (4 : Int) = 0 from h) (by decide)
  by_cases q2 : k_ni x (i + 1) = 0
  · rw [if_neg q1, if_pos q2] at h; exact absurd (show (1 : Int) = 0 from h) (by decide)
  by_cases q3 : k_fd A.2.1 (kV x (i + 1)) (A.1 0).toNat ≠ -1 ∨ k_fd A.2.2.1 (kV x (i + 1)) (A.1 1).toNat ≠ -1
  · rw [if_neg q1, if_neg q2, if_pos q3] at h; exact absurd (show (3 : Int) = 0 from h) (by decide)
  by_cases q4 : k_ni x (i + 2) = 0
  · rw [if_neg q1, if_neg q2, if_neg q3, if_pos q4] at h; exact absurd (show (1 : Int) = 0 from h) (by decide)
  by_cases q5 : k_fd A.2.1 (kV x (i + 2)) (A.1 0).toNat = -1
  · rw [if_neg q1, if_neg q2, if_neg q3, if_neg q4, if_pos q5] at h; exact absurd (show (3 : Int) = 0 from h) (by decide)
  by_cases q6 : k_nr x (i + 3) 1 30 ≠ 0
  · rw [if_neg q1, if_neg q2, if_neg q3, if_neg q4, if_neg q5, if_pos q6] at h; exact absurd h q6
  by_cases q7 : k_nr x (i + 4) 0 9 ≠ 0
  · rw [if_neg q1, if_neg q2, if_neg q3, if_neg q4, if_neg q5, if_neg q6, if_pos q7] at h; exact absurd h q7
  by_cases q8 : k_lw x (i + 5) = -1
  · rw [if_neg q1, if_neg q2, if_neg q3, if_neg q4, if_neg q5, if_neg q6, if_neg q7, if_pos q8] at h; exact absurd (show (1 : Int) = 0 from h) (by decide)
  rw [if_neg q1, if_neg q2, if_neg q3, if_neg q4, if_neg q5, if_neg q6, if_neg q7, if_neg q8]
  have a1 := k_ni_K q2
  have a2 := k_ni_K q4
  have a3 := k_nr_K q6
  have a4 := k_nr_K q7
  have a5 := k_lw_K q8
  refine ⟨by show i < i + 6; omega, fun k h1 h2 => ?_⟩
  have h2 : k < i + 6 := h2
  rcases (by omega : k = i ∨ k = i + 1 ∨ k = i + 2 ∨ k = i + 3 ∨ k = i + 4 ∨ k = i + 5) with rfl | rfl | rfl | rfl | rfl | rfl <;> omega
theorem k_tires_g {x : k_X} {A : k_A} {i : Nat} (hK : kK x i = 2) (h : (k_tires x A i).1 = 0) : k_gn x i (k_tires x A i).2.2.2 := by
  unfold k_tires at h ⊢
  by_cases q1 : k_ni x (i + 1) = 0
  · rw [if_pos q1] at h; exact absurd (show (1 : Int) = 0 from h) (by decide)
  by_cases q2 : k_fd A.2.2.1 (kV x (i + 1)) (A.1 1).toNat = -1
  · rw [if_neg q1, if_pos q2] at h; exact absurd (show (3 : Int) = 0 from h) (by decide)
  by_cases q3 : A.2.2.2.1 (k_fd A.2.2.1 (kV x (i + 1)) (A.1 1).toNat).toNat ≠ 0
  · rw [if_neg q1, if_neg q2, if_pos q3] at h; exact absurd (show (3 : Int) = 0 from h) (by decide)
  by_cases q4 : k_nr x (i + 2) 1 20 ≠ 0
  · rw [if_neg q1, if_neg q2, if_neg q3, if_pos q4] at h; exact absurd h q4
  rw [if_neg q1, if_neg q2, if_neg q3, if_neg q4]
  have a1 := k_ni_K q1
  have a2 := k_nr_K q4
  refine ⟨by show i < i + 3; omega, fun k h1 h2 => ?_⟩
  have h2 : k < i + 3 := h2
  rcases (by omega : k = i ∨ k = i + 1 ∨ k = i + 2) with rfl | rfl | rfl <;> omega
theorem k_line_g {x : k_X} {A : k_A} {i : Nat} (h : (k_line x A i).1 = 0) : k_gn x i (k_line x A i).2.2.2 := by
  unfold k_line at h ⊢
  by_cases q0 : kK x i = 2 ∧ kV x i = (p_wc 0).toInt
  · rw [if_pos q0] at h ⊢; exact k_len_g q0.1 h
  by_cases q1 : kK x i = 2 ∧ kV x i = (p_wc 1).toInt
  · rw [if_neg q0, if_pos q1] at h ⊢; exact k_body_g q1.1 h
  by_cases q2 : kK x i = 2 ∧ kV x i = (p_wc 2).toInt
  · rw [if_neg q0, if_neg q1, if_pos q2] at h ⊢; exact k_keeps_g q2.1 h
  by_cases q3 : kK x i = 2 ∧ kV x i = (p_wc 3).toInt
  · rw [if_neg q0, if_neg q1, if_neg q2, if_pos q3] at h ⊢; exact k_walker_g q3.1 h
  by_cases q5 : kK x i = 2 ∧ kV x i = (p_wc 5).toInt
  · rw [if_neg q0, if_neg q1, if_neg q2, if_neg q3, if_pos q5] at h ⊢; exact k_dog_g q5.1 h
  by_cases q10 : kK x i = 2 ∧ kV x i = (p_wc 10).toInt
  · rw [if_neg q0, if_neg q1, if_neg q2, if_neg q3, if_neg q5, if_pos q10] at h ⊢; exact k_tires_g q10.1 h
  rw [if_neg q0, if_neg q1, if_neg q2, if_neg q3, if_neg q5, if_neg q10] at h
  exact absurd (show (1 : Int) = 0 from h) (by decide)
theorem k_gn.ps {x : k_X} {i : Nat} : ∀ d : Nat, (∀ k, i ≤ k → k < i + d → 2 ≤ kK x k) → k_ps x i + d ≤ k_ps x (i + d) ∧ (1 ≤ d → k_ps x (i + d) ≤ x.2.1) := by
  intro d
  induction d with
  | zero => intro _; exact ⟨Nat.le_refl _, fun h => by omega⟩
  | succ d ih =>
    intro h
    have q := ih fun k h1 h2 => h k h1 (by omega)
    have q2 := k_ps_on (h (i + d) (by omega) (by omega))
    exact ⟨by show k_ps x i + (d + 1) ≤ k_ps x (i + d + 1); omega, fun _ => q2.2⟩
theorem k_gn.on {x : k_X} {i j : Nat} (h : k_gn x i j) (hi : i ≤ k_ps x i) : j ≤ k_ps x j ∧ k_ps x j ≤ x.2.1 := by
  have q := k_gn.ps (x := x) (i := i) (j - i) (fun k h1 h2 => h.2 k h1 (by have := h.1; omega))
  have e := h.1
  rw [show i + (j - i) = j from by omega] at q
  have q2 := q.2 (by omega)
  omega
/-- between the lines; n lines may come -/
def k_rli (x : k_X) (M : pM) (n : Nat) : Prop := ∃ (A : k_A) (i : Nat), k_ra x M i ∧ k_rp M A ∧ k_lines x 901 k_A0 0 = k_lines x n A i ∧ n ≤ 901 ∧ 2 * (901 - n) ≤ i ∧ i ≤ k_ps x i ∧ k_ps x i ≤ x.2.1 ∧ A.1 5 + n = 901
/-- the tape before it is taken -/
def k_rtp (x : k_X) (M : pM) : Prop := o_i (M 294) 2 = x.2.1 ∧ (∀ i, i < x.2.1 → (o_a (M 295) i &&& 255).toInt = x.1 i) ∧ ∀ r, r < 28 → (o_l (M 300) r).toInt = k_wi (p_wc r).toInt
theorem k_rp.ln {M M1 : pM} {A : k_A} (h : k_rp M A) (U : gU M M1 294 19) (e : o_i (M1 294) 19 = A.1 5 + 1) : k_rp M1 (va_up A.1 5 (A.1 5 + 1), A.2) := by
  obtain ⟨c0, c1, c2, c3, c4, c5, c6, c7, c8, c9, c10, c11, c12, c13, c14, c15, c16, c17, c18, c19⟩ := h
  have e20 : o_i (M1 294) 20 = o_i (M 294) 20 := U.i (c := 294) (Or.inr (by decide))
  unfold k_rp
  rw [U.1 297 (by decide), U.1 299 (by decide), e20]
  exact ⟨c0, c1, c2, c3, c4, e, c6, c7, c8, c9, c10, c11, c12, c13, c14, c15, c16, c17, c18, c19⟩
theorem k_rp0 {M : pM} (h0 : ∀ z : Nat, z < 33 → z ≠ 2 → z ≠ 3 → (o_a (M 297) z).toInt = 0) (h2 : (o_a (M 297) 2).toInt = 400) (h3 : (o_a (M 297) 3).toInt = 1) (e19 : o_i (M 294) 19 = 0) (e20 : o_i (M 294) 20 = 0) : k_rp M k_A0 := by
  refine ⟨h0 0 (by decide) (by decide) (by decide), h0 1 (by decide) (by decide) (by decide), h2, h3, Or.inl ⟨rfl, h0 4 (by decide) (by decide) (by decide)⟩, e19, by omega, by omega, ?_, ?_, ?_, fun j hj => ?_, fun j hj => ?_, fun j hj => ?_, fun j hj => ?_, fun j _ hj => h0 (31 + j) (by omega) (by omega) (by omega), by show (0 : Int) ≤ 0; omega, by show (0 : Int) ≤ 6; omega, by show (0 : Int) ≤ 0; omega, by show (0 : Int) ≤ 2; omega⟩
  · show (o_i (M 294) 20 % 2 = 1 ↔ ((0 : Int) = 1 ∨ (0 : Int) < 0)); omega
  · show (o_i (M 294) 20 / 2 % 2 = 1 ↔ (0 : Int) = 1); omega
  · show (o_i (M 294) 20 / 4 % 2 = 1 ↔ (-1 : Int) ≠ -1); omega
  · exfalso; have w : (j : Int) < 0 := hj; omega
  · exfalso; have w : (j : Int) < 0 := hj; omega
  · exfalso; have w : (j : Int) < 0 := hj; omega
  · exfalso; have w : (j : Int) < 0 := hj; omega
