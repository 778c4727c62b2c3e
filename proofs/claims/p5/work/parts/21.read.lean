/-! ===== a BEACH read, as a function of its tokens. A plan A: its numbers (0 walkers, 1 dogs, 2 line, 3 body, 4 keeps or -1, 5 lines, 6 line told, 7 body told), names of walkers, names of dogs, tires, laws ===== -/
abbrev k_A : Type := (Nat → Int) × (Nat → Int) × (Nat → Int) × (Nat → Int) × (Nat → Int)
abbrev k_R : Type := Int × Int × k_A × Nat
noncomputable def k_ni (x : k_X) (i : Nat) : Int := @ite Int (kK x i = 2 ∧ ∀ r, r < 28 → (p_wc r).toInt ≠ kV x i) (Classical.propDecidable _) 1 0
/-- 0, or the fault of a number that ought to be in lo..hi -/
def k_nr (x : k_X) (i : Nat) (lo hi : Int) : Int := if kK x i ≠ 4 then 1 else if kV x i < lo ∨ hi < kV x i then 2 else 0
/-- the first of the m that is v, or -1 -/
def k_fd (f : Nat → Int) (v : Int) : Nat → Int
  | 0 => -1
  | m + 1 => if k_fd f v m ≠ -1 then k_fd f v m else if f m = v then m else -1
theorem k_fd_no {f : Nat → Int} {v : Int} : ∀ {m : Nat}, (∀ j, j < m → f j ≠ v) → k_fd f v m = -1 := by
  intro m
  induction m with
  | zero => intro _; rfl
  | succ m ih =>
    intro h
    have e := ih fun j hj => h j (by omega)
    show (if k_fd f v m ≠ -1 then k_fd f v m else if f m = v then (m : Int) else -1) = -1
    rw [if_neg (by omega), if_neg (h m (by omega))]
theorem k_fd_hit {f : Nat → Int} {v : Int} {i : Nat} (h : ∀ j, j < i → f j ≠ v) (hi : f i = v) : ∀ {m : Nat}, i < m → k_fd f v m = i := by
  intro m
  induction m with
  | zero => intro h; omega
  | succ m ih =>
    intro hm
    show (if k_fd f v m ≠ -1 then k_fd f v m else if f m = v then (m : Int) else -1) = i
    by_cases q : i < m
    · rw [if_pos (by rw [ih q]; omega), ih q]
    · obtain rfl : i = m := by omega
      rw [if_neg (by rw [k_fd_no h]; omega), if_pos hi]
theorem k_fd_b (f : Nat → Int) (v : Int) : ∀ m : Nat, -1 ≤ k_fd f v m ∧ k_fd f v m < m := by
  intro m
  induction m with
  | zero => exact ⟨Int.le_refl _, by show (-1 : Int) < 0; omega⟩
  | succ m ih =>
    show -1 ≤ (if k_fd f v m ≠ -1 then k_fd f v m else if f m = v then (m : Int) else -1) ∧ (if k_fd f v m ≠ -1 then k_fd f v m else if f m = v then (m : Int) else -1) < (m + 1 : Nat)
    split
    · omega
    · split <;> omega
theorem k_fd_cg {f g : Nat → Int} {v : Int} : ∀ {m : Nat}, (∀ j, j < m → f j = g j) → k_fd f v m = k_fd g v m := by
  intro m
  induction m with
  | zero => intro _; rfl
  | succ m ih =>
    intro h
    show (if k_fd f v m ≠ -1 then k_fd f v m else if f m = v then (m : Int) else -1) = (if k_fd g v m ≠ -1 then k_fd g v m else if g m = v then (m : Int) else -1)
    rw [ih fun j hj => h j (by omega), h m (by omega)]
def k_len (x : k_X) (A : k_A) (i : Nat) : k_R :=
  if A.1 6 = 1 ∨ 0 < A.1 0 then (3, kP x i, A, i)
  else if k_nr x (i + 1) 1 900 ≠ 0 then (k_nr x (i + 1) 1 900, kP x (i + 1), A, i)
  else (0, 0, (va_up (va_up A.1 6 1) 2 (kV x (i + 1)), A.2), i + 2)
def k_body (x : k_X) (A : k_A) (i : Nat) : k_R :=
  if A.1 7 = 1 then (3, kP x i, A, i)
  else if k_nr x (i + 1) 0 9 ≠ 0 then (k_nr x (i + 1) 0 9, kP x (i + 1), A, i)
  else (0, 0, (va_up (va_up A.1 7 1) 3 (kV x (i + 1)), A.2), i + 2)
def k_keeps (x : k_X) (A : k_A) (i : Nat) : k_R :=
  if A.1 4 ≠ -1 then (3, kP x i, A, i)
  else if k_nr x (i + 1) 1 99 ≠ 0 then (k_nr x (i + 1) 1 99, kP x (i + 1), A, i)
  else (0, 0, (va_up A.1 4 (kV x (i + 1)), A.2), i + 2)
noncomputable def k_walker (x : k_X) (A : k_A) (i : Nat) : k_R :=
  if 6 ≤ A.1 0 then (4, kP x i, A, i)
  else if k_ni x (i + 1) = 0 then (1, kP x (i + 1), A, i)
  else if k_fd A.2.1 (kV x (i + 1)) (A.1 0).toNat ≠ -1 ∨ k_fd A.2.2.1 (kV x (i + 1)) (A.1 1).toNat ≠ -1 then (3, kP x (i + 1), A, i)
  else if k_nr x (i + 2) 0 (A.1 2) ≠ 0 then (k_nr x (i + 2) 0 (A.1 2), kP x (i + 2), A, i)
  else if k_nr x (i + 3) 0 9 ≠ 0 then (k_nr x (i + 3) 0 9, kP x (i + 3), A, i)
  else (0, 0, (va_up A.1 0 (A.1 0 + 1), va_up A.2.1 (A.1 0).toNat (kV x (i + 1)), A.2.2), if kK x (i + 4) = 2 ∧ kV x (i + 4) = (p_wc 4).toInt then i + 5 else i + 4)
def k_lw (x : k_X) (i : Nat) : Int :=
  if kK x i = 2 ∧ kV x i = (p_wc 6).toInt then 0 else if kK x i = 2 ∧ kV x i = (p_wc 7).toInt then 1
  else if kK x i = 2 ∧ kV x i = (p_wc 8).toInt then 2 else if kK x i = 2 ∧ kV x i = (p_wc 9).toInt then 3 else -1
noncomputable def k_dog (x : k_X) (A : k_A) (i : Nat) : k_R :=
  if 2 ≤ A.1 1 then (4, kP x i, A, i)
  else if k_ni x (i + 1) = 0 then (1, kP x (i + 1), A, i)
  else if k_fd A.2.1 (kV x (i + 1)) (A.1 0).toNat ≠ -1 ∨ k_fd A.2.2.1 (kV x (i + 1)) (A.1 1).toNat ≠ -1 then (3, kP x (i + 1), A, i)
  else if k_ni x (i + 2) = 0 then (1, kP x (i + 2), A, i)
  else if k_fd A.2.1 (kV x (i + 2)) (A.1 0).toNat = -1 then (3, kP x (i + 2), A, i)
  else if k_nr x (i + 3) 1 30 ≠ 0 then (k_nr x (i + 3) 1 30, kP x (i + 3), A, i)
  else if k_nr x (i + 4) 0 9 ≠ 0 then (k_nr x (i + 4) 0 9, kP x (i + 4), A, i)
  else if k_lw x (i + 5) = -1 then (1, kP x (i + 5), A, i)
  else (0, 0, (va_up A.1 1 (A.1 1 + 1), A.2.1, va_up A.2.2.1 (A.1 1).toNat (kV x (i + 1)), va_up A.2.2.2.1 (A.1 1).toNat 0, va_up A.2.2.2.2 (A.1 1).toNat (k_lw x (i + 5))), i + 6)
noncomputable def k_tires (x : k_X) (A : k_A) (i : Nat) : k_R :=
  if k_ni x (i + 1) = 0 then (1, kP x (i + 1), A, i)
  else if k_fd A.2.2.1 (kV x (i + 1)) (A.1 1).toNat = -1 then (3, kP x (i + 1), A, i)
  else if A.2.2.2.1 (k_fd A.2.2.1 (kV x (i + 1)) (A.1 1).toNat).toNat ≠ 0 then (3, kP x (i + 1), A, i)
  else if k_nr x (i + 2) 1 20 ≠ 0 then (k_nr x (i + 2) 1 20, kP x (i + 2), A, i)
  else (0, 0, (A.1, A.2.1, A.2.2.1, va_up A.2.2.2.1 (k_fd A.2.2.1 (kV x (i + 1)) (A.1 1).toNat).toNat (kV x (i + 2)), A.2.2.2.2), i + 3)
noncomputable def k_line (x : k_X) (A : k_A) (i : Nat) : k_R :=
  if kK x i = 2 ∧ kV x i = (p_wc 0).toInt then k_len x A i
  else if kK x i = 2 ∧ kV x i = (p_wc 1).toInt then k_body x A i
  else if kK x i = 2 ∧ kV x i = (p_wc 2).toInt then k_keeps x A i
  else if kK x i = 2 ∧ kV x i = (p_wc 3).toInt then k_walker x A i
  else if kK x i = 2 ∧ kV x i = (p_wc 5).toInt then k_dog x A i
  else if kK x i = 2 ∧ kV x i = (p_wc 10).toInt then k_tires x A i
  else (1, kP x i, A, i)
noncomputable def k_lines (x : k_X) : Nat → k_A → Nat → k_R
  | 0, A, i => if kK x i = 0 then (0, 0, A, i) else (1, kP x i, A, i)
  | f + 1, A, i =>
    if kK x i = 0 then (0, 0, A, i)
    else if (k_line x A i).1 ≠ 0 then k_line x A i
    else if kK x (k_line x A i).2.2.2 = 5 ∧ kV x (k_line x A i).2.2.2 = 59 then k_lines x f (va_up (k_line x A i).2.2.1.1 5 ((k_line x A i).2.2.1.1 5 + 1), (k_line x A i).2.2.1.2) ((k_line x A i).2.2.2 + 1)
    else (1, kP x (k_line x A i).2.2.2, A, i)
def k_A0 : k_A := (fun i => if i = 2 then 400 else if i = 3 then 1 else if i = 4 then -1 else 0, fun _ => 0, fun _ => 0, fun _ => 0, fun _ => 0)
/-- a BEACH's answer -/
noncomputable def k_beach (x : k_X) : Int := if (k_lines x 901 k_A0 0).1 = 0 then (k_lines x 901 k_A0 0).2.2.1.1 5 else -1 - (k_lines x 901 k_A0 0).2.1
/-! ===== what the class holds of it  ===== -/
def o_J (e : va_E) (i : Nat) : Int := match o_f e i with
  | .long x => x.toInt
  | _ => 0
theorem o_J_of {e : va_E} {i : Nat} {x : Int64} (h : o_f e i = .long x) : o_J e i = x.toInt := by unfold o_J; rw [h]
/-- the text on the class's tape -/
def k_tx (x : k_X) (M : pM) : Prop := o_i (M 1) 1 = x.2.1 ∧ o_i (M 1) 2 = x.2.2 ∧ o_i (M 1) 10 = 0 ∧ ∀ i, i < x.2.1 → (o_a (M 2) i &&& 255).toInt = x.1 i
/-- the token that the class sees -/
def k_tt (x : k_X) (M : pM) (t : k_T) : Prop :=
  o_i (M 1) 4 = t.2.2.1 ∧
  ((t.1 = 0 ∧ o_i (M 1) 5 = 0 ∧ x.2.1 ≤ x.2.2) ∨ (t.1 = 1 ∧ (o_i (M 1) 5 = 1 ∨ (o_i (M 1) 5 = 0 ∧ x.2.2 < x.2.1))) ∨
   (t.1 = 2 ∧ o_i (M 1) 3 = t.2.2.2 ∧ o_J (M 1) 7 = t.2.1 ∧ ((o_i (M 1) 5 = 2 ∧ ∃ r, r < 28 ∧ o_f (M 1) 6 = .ref (65536 + r) ∧ (p_wc r).toInt = t.2.1) ∨ (o_i (M 1) 5 = 3 ∧ ∀ r, r < 28 → (p_wc r).toInt ≠ t.2.1))) ∨
   (t.1 = 4 ∧ o_i (M 1) 3 = t.2.2.2 ∧ o_i (M 1) 5 = 4 ∧ o_i (M 1) 8 = t.2.1) ∨
   (t.1 = 5 ∧ o_i (M 1) 3 = t.2.2.2 ∧ o_i (M 1) 5 = 5 ∧ o_i (M 1) 9 = t.2.1))
def k_at (x : k_X) (M : pM) (i : Nat) : Prop := k_tx x M ∧ k_tt x M (k_tk x (k_ps x i))
/-- the next token to come is number i -/
def k_nx (x : k_X) (M : pM) (i : Nat) : Prop := k_tx x M ∧ o_i (M 1) 3 = k_ps x i
theorem k_at.nx {x : k_X} {M : pM} {i : Nat} (h : k_at x M i) (h2 : 2 ≤ kK x i) : k_nx x M (i + 1) := by
  refine ⟨h.1, ?_⟩
  unfold kK at h2
  rcases h.2.2 with ⟨q, -⟩ | ⟨q, -⟩ | ⟨-, q, -⟩ | ⟨-, q, -⟩ | ⟨-, q, -⟩
  · omega
  · omega
  · exact q
  · exact q
  · exact q
theorem k_tx.cg {x : k_X} {M M1 : pM} (h : k_tx x M) (e1 : M1 1 = M 1) (e2 : M1 2 = M 2) : k_tx x M1 := by unfold k_tx; rw [e1, e2]; exact h
theorem k_at.cg {x : k_X} {M M1 : pM} {i : Nat} (h : k_at x M i) (e1 : M1 1 = M 1) (e2 : M1 2 = M 2) : k_at x M1 i := by unfold k_at k_tx k_tt; rw [e1, e2]; exact h
theorem k_nx.cg {x : k_X} {M M1 : pM} {i : Nat} (h : k_nx x M i) (e1 : M1 1 = M 1) (e2 : M1 2 = M 2) : k_nx x M1 i := by unfold k_nx k_tx; rw [e1, e2]; exact h
/-- the plan that the class reads -/
def k_cp (M : pM) (A : k_A) : Prop :=
  o_i (M 256) 0 = A.1 5 ∧ o_i (M 256) 1 = A.1 2 ∧ o_i (M 256) 2 = A.1 3 ∧ o_i (M 256) 3 = A.1 4 ∧ o_i (M 256) 4 = A.1 6 ∧ o_i (M 256) 5 = A.1 7 ∧ o_i (M 256) 6 = A.1 0 ∧ o_i (M 256) 7 = A.1 1 ∧
  (∀ j : Nat, (j : Int) < A.1 0 → (o_l (M 257) j).toInt = A.2.1 j) ∧ (∀ j : Nat, (j : Int) < A.1 1 → (o_l (M 261) j).toInt = A.2.2.1 j) ∧
  (∀ j : Nat, (j : Int) < A.1 1 → (o_a (M 266) j).toInt = A.2.2.2.1 j) ∧ (∀ j : Nat, (j : Int) < A.1 1 → (o_a (M 265) j).toInt = A.2.2.2.2 j)
theorem k_cp.cg {M M1 : pM} {A : k_A} (h : k_cp M A) (e1 : M1 256 = M 256) (e2 : M1 257 = M 257) (e3 : M1 261 = M 261) (e4 : M1 266 = M 266) (e5 : M1 265 = M 265) : k_cp M1 A := by unfold k_cp; rw [e1, e2, e3, e4, e5]; exact h
/-- how a reader of the class ends -/
def k_cq (x : k_X) (R : k_R) (r : Int32) (M1 : pM) : Prop :=
  (r.toInt = 1 ∧ R.1 = 0 ∧ k_at x M1 R.2.2.2 ∧ k_cp M1 R.2.2.1) ∨ (r.toInt = 0 ∧ R.1 ≠ 0 ∧ o_i (M1 1) 10 = R.1 ∧ o_i (M1 1) 11 = R.2.1)
