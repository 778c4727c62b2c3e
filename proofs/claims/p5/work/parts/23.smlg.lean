/-! ===== a LOG read, line by line; n: how many LINES stand ahead ===== -/
noncomputable def l_line (x : k_X) (f : Nat → Int) (m : Int) (n : Int) (i : Nat) : Int × Int × Nat :=
  if kK x i = 2 ∧ s_wn x i = 16 then
    (if 40 ≤ n then (4, kP x i, 0)
     else if k_nr x (i + 1) 1 60 ≠ 0 then (k_nr x (i + 1) 1 60, kP x (i + 1), 0)
     else (0, 0, i + 2))
  else if k_ni x i = 0 then (1, kP x i, 0)
  else if k_fd f (kV x i) m.toNat = -1 then (3, kP x i, 0)
  else if 40 ≤ n then (4, kP x i, 0)
  else if ¬ (kK x (i + 1) = 2 ∧ 11 ≤ s_wn x (i + 1) ∧ s_wn x (i + 1) ≤ 15) then (1, kP x (i + 1), 0)
  else (0, 0, i + 2)
theorem k_nr_b4 (x : k_X) (i : Nat) (lo hi : Int) : 0 ≤ k_nr x i lo hi ∧ k_nr x i lo hi ≤ 4 := by
  unfold k_nr
  split
  · omega
  · split
    · omega
    · omega
theorem l_line_b (x : k_X) (f : Nat → Int) (m : Int) (n : Int) (i : Nat) : 0 ≤ (l_line x f m n i).1 ∧ (l_line x f m n i).1 ≤ 4 := by
  have b := k_nr_b4 x (i + 1) 1 60
  unfold l_line
  split
  · split
    · exact ⟨by show (0 : Int) ≤ 4; omega, Int.le_refl _⟩
    · split
      · exact b
      · exact ⟨Int.le_refl _, by show (0 : Int) ≤ 4; omega⟩
  · split
    · exact ⟨by show (0 : Int) ≤ 1; omega, by show (1 : Int) ≤ 4; omega⟩
    · split
      · exact ⟨by show (0 : Int) ≤ 3; omega, by show (3 : Int) ≤ 4; omega⟩
      · split
        · exact ⟨by show (0 : Int) ≤ 4; omega, Int.le_refl _⟩
        · split
          · exact ⟨by show (0 : Int) ≤ 1; omega, by show (1 : Int) ≤ 4; omega⟩
          · exact ⟨Int.le_refl _, by show (0 : Int) ≤ 4; omega⟩
/-- the LOG: a FAULT and its place -/
noncomputable def l_lines (x : k_X) (f : Nat → Int) (m : Int) : Nat → Int → Nat → Int × Int
  | 0, _, i => if kK x i = 0 then (0, 0) else (1, kP x i)
  | k + 1, n, i =>
    if kK x i = 0 then (0, 0)
    else if (l_line x f m n i).1 ≠ 0 then ((l_line x f m n i).1, (l_line x f m n i).2.1)
    else if kK x (l_line x f m n i).2.2 = 5 ∧ kV x (l_line x f m n i).2.2 = 59 then l_lines x f m k (n + 1) ((l_line x f m n i).2.2 + 1)
    else (1, kP x (l_line x f m n i).2.2)
theorem l_ls_end {x : k_X} {f : Nat → Int} {m n : Int} {k i : Nat} (h : kK x i = 0) : l_lines x f m k n i = (0, 0) := by
  cases k with
  | zero => show (if kK x i = 0 then _ else _) = _; rw [if_pos h]
  | succ k => show (if kK x i = 0 then _ else _) = _; rw [if_pos h]
theorem l_ls_f {x : k_X} {f : Nat → Int} {m n : Int} {k i : Nat} (hk : 1 ≤ k) (h : kK x i ≠ 0) (hl : (l_line x f m n i).1 ≠ 0) : l_lines x f m k n i = ((l_line x f m n i).1, (l_line x f m n i).2.1) := by
  cases k with
  | zero => omega
  | succ k => show (if kK x i = 0 then _ else if (l_line x f m n i).1 ≠ 0 then _ else _) = _; rw [if_neg h, if_pos hl]
theorem l_ls_s {x : k_X} {f : Nat → Int} {m n : Int} {k i : Nat} (h : kK x i ≠ 0) (hl : (l_line x f m n i).1 = 0) (hs : kK x (l_line x f m n i).2.2 = 5 ∧ kV x (l_line x f m n i).2.2 = 59) : l_lines x f m (k + 1) n i = l_lines x f m k (n + 1) ((l_line x f m n i).2.2 + 1) := by
  show (if kK x i = 0 then _ else if (l_line x f m n i).1 ≠ 0 then _ else if kK x (l_line x f m n i).2.2 = 5 ∧ kV x (l_line x f m n i).2.2 = 59 then _ else _) = _
  rw [if_neg h, if_neg (not_not_intro hl), if_pos hs]
theorem l_ls_g {x : k_X} {f : Nat → Int} {m n : Int} {k i : Nat} (hk : 1 ≤ k) (h : kK x i ≠ 0) (hl : (l_line x f m n i).1 = 0) (hs : ¬ (kK x (l_line x f m n i).2.2 = 5 ∧ kV x (l_line x f m n i).2.2 = 59)) : l_lines x f m k n i = (1, kP x (l_line x f m n i).2.2) := by
  cases k with
  | zero => omega
  | succ k =>
    show (if kK x i = 0 then _ else if (l_line x f m n i).1 ≠ 0 then _ else if kK x (l_line x f m n i).2.2 = 5 ∧ kV x (l_line x f m n i).2.2 = 59 then _ else _) = _
    rw [if_neg h, if_neg (not_not_intro hl), if_neg hs]
/-- where nothing can come -/
theorem l_ls_bad {x : k_X} {f : Nat → Int} {m n : Int} {k i : Nat} (h : kK x i ≠ 0) (h2 : kK x i ≠ 2) : l_lines x f m k n i = (1, kP x i) := by
  have e : l_line x f m n i = (1, kP x i, 0) := by
    unfold l_line
    rw [if_neg (fun q => h2 q.1), if_pos]
    unfold k_ni
    rw [if_neg (fun q => h2 q.1)]
  cases k with
  | zero => show (if kK x i = 0 then _ else _) = _; rw [if_neg h]
  | succ k =>
    rw [l_ls_f (by omega) h (by rw [e]; exact (by decide : (1 : Int) ≠ 0)), e]
/-- between the LINES: the class -/
def l_li (x : k_X) (f : Nat → Int) (m : Int) (M : pM) (c : Int) : Prop := ∃ i : Nat, k_at x M i ∧ l_lines x f m 41 0 0 = l_lines x f m (41 - c).toNat c i
/-- how a LOG is read -/
def l_q (x : k_X) (f : Nat → Int) (m : Int) (r : Int32) (M1 : pM) : Prop := (r.toInt = 1 ∧ (l_lines x f m 41 0 0).1 = 0 ∧ o_i (M1 1) 10 = 0) ∨ (r.toInt = 0 ∧ (l_lines x f m 41 0 0).1 ≠ 0 ∧ o_i (M1 1) 10 = (l_lines x f m 41 0 0).1 ∧ o_i (M1 1) 11 = (l_lines x f m 41 0 0).2)
