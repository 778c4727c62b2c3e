/-! ===== a SENTENCE read, as a machine over its tokens. A state: the token's number, is an operand whole, what is open (true a bracket, false a not), how many ONES ===== -/
abbrev s_S : Type := Nat × Bool × List Bool × Int
abbrev s_T : Type := Int × Int × s_S
def s_dn : List Bool → List Bool
  | [] => []
  | true :: t => true :: t
  | false :: t => s_dn t
theorem s_dn_dn : ∀ l, s_dn (s_dn l) = s_dn l
  | [] => rfl
  | true :: _ => rfl
  | false :: t => s_dn_dn t
theorem s_dn_le : ∀ l, (s_dn l).length ≤ l.length
  | [] => Nat.le_refl _
  | true :: _ => Nat.le_refl _
  | false :: t => Nat.le_succ_of_le (s_dn_le t)
/-- the number of a word that means something (99: none) -/
def s_wnF (v : Int) : Nat → Nat
  | 0 => 99
  | r + 1 => if v = (p_wc r).toInt then r else s_wnF v r
def s_wn (x : k_X) (i : Nat) : Nat := s_wnF (kV x i) 28
theorem s_wnF_no {v : Int} : ∀ n, (∀ r, r < n → v ≠ (p_wc r).toInt) → s_wnF v n = 99 := by
  intro n
  induction n with
  | zero => intro _; rfl
  | succ n ih =>
    intro h
    show (if v = (p_wc n).toInt then n else s_wnF v n) = 99
    rw [if_neg (h n (by omega)), ih fun r hr => h r (by omega)]
theorem s_wnF_lt (v : Int) : ∀ n, s_wnF v n = 99 ∨ (s_wnF v n < n ∧ v = (p_wc (s_wnF v n)).toInt) := by
  intro n
  induction n with
  | zero => exact Or.inl rfl
  | succ n ih =>
    show (if v = (p_wc n).toInt then n else s_wnF v n) = 99 ∨ ((if v = (p_wc n).toInt then n else s_wnF v n) < n + 1 ∧ v = (p_wc (if v = (p_wc n).toInt then n else s_wnF v n)).toInt)
    by_cases q : v = (p_wc n).toInt
    · rw [if_pos q]; exact Or.inr ⟨by omega, q⟩
    · rw [if_neg q]
      rcases ih with h | ⟨h1, h2⟩
      · exact Or.inl h
      · exact Or.inr ⟨by omega, h2⟩
theorem s_wn_iff {x : k_X} {i r : Nat} (hr : r < 28) : kV x i = (p_wc r).toInt ↔ s_wn x i = r := by
  constructor
  · intro h
    unfold s_wn
    rcases s_wnF_lt (kV x i) 28 with q | ⟨q1, q2⟩
    · exfalso
      have w : ∀ n, n ≤ 28 → s_wnF (kV x i) n = 99 → r < n → False := by
        intro n
        induction n with
        | zero => intro _ _ h3; omega
        | succ n ih =>
          intro hn h2 h3
          have e : s_wnF (kV x i) (n + 1) = (if kV x i = (p_wc n).toInt then n else s_wnF (kV x i) n) := rfl
          rw [e] at h2
          by_cases u : kV x i = (p_wc n).toInt
          · rw [if_pos u] at h2; omega
          · rw [if_neg u] at h2
            by_cases u2 : r = n
            · subst u2; exact u h
            · exact ih (by omega) h2 (by omega)
      exact w 28 (by omega) q hr
    · exact (p_wc_inj hr q1 (h.symm.trans q2)).symm
  · intro h
    unfold s_wn at h
    rcases s_wnF_lt (kV x i) 28 with q | ⟨q1, q2⟩
    · omega
    · rw [h] at q2; exact q2
/-- behind a ONE that is no not and no bracket: a FAULT and its place, or the next token -/
noncomputable def s_pn (x : k_X) (f : Nat → Int) (m : Int) (i : Nat) : Int × Int × Nat :=
  if s_wn x i = 20 ∨ s_wn x i = 21 ∨ s_wn x i = 22 then (0, 0, i + 1)
  else if s_wn x i = 23 then
    (if k_ni x (i + 1) = 0 then (1, kP x (i + 1), 0)
     else if k_fd f (kV x (i + 1)) m.toNat = -1 then (3, kP x (i + 1), 0)
     else (0, 0, i + 2))
  else if ¬ (kK x (i + 1) = 5 ∧ (kV x (i + 1) = 60 ∨ kV x (i + 1) = 61 ∨ kV x (i + 1) = 62)) then (1, kP x (i + 1), 0)
  else if kK x (i + 2) ≠ 4 then (1, kP x (i + 2), 0)
  else (0, 0, i + 3)
theorem s_pn_b (x : k_X) (f : Nat → Int) (m : Int) (i : Nat) : 0 ≤ (s_pn x f m i).1 ∧ (s_pn x f m i).1 ≤ 3 := by
  unfold s_pn
  split
  · exact ⟨Int.le_refl _, by show (0 : Int) ≤ 3; omega⟩
  split
  · split
    · exact ⟨by show (0 : Int) ≤ 1; omega, by show (1 : Int) ≤ 3; omega⟩
    · split
      · exact ⟨by show (0 : Int) ≤ 3; omega, Int.le_refl _⟩
      · exact ⟨Int.le_refl _, by show (0 : Int) ≤ 3; omega⟩
  split
  · exact ⟨by show (0 : Int) ≤ 1; omega, by show (1 : Int) ≤ 3; omega⟩
  split
  · exact ⟨by show (0 : Int) ≤ 1; omega, by show (1 : Int) ≤ 3; omega⟩
  · exact ⟨Int.le_refl _, by show (0 : Int) ≤ 3; omega⟩
/-- a ONE begins here -/
abbrev s_one (x : k_X) (i : Nat) : Prop := (kK x i = 5 ∧ kV x i = 40) ∨ (kK x i = 2 ∧ 19 ≤ s_wn x i ∧ s_wn x i ≤ 27)
/-- a ONE is wanted -/
noncomputable def s_op (x : k_X) (f : Nat → Int) (m : Int) (i : Nat) (st : List Bool) (on : Int) : s_T :=
  if ¬ ((kK x i = 5 ∧ kV x i = 40) ∨ (kK x i = 2 ∧ 19 ≤ s_wn x i ∧ s_wn x i ≤ 27)) then (1, kP x i, (0, false, [], 0))
  else if 20 ≤ on ∨ 8 ≤ st.length then (4, kP x i, (0, false, [], 0))
  else if kK x i = 2 ∧ s_wn x i = 19 then (0, 0, (i + 1, false, false :: st, on + 1))
  else if kK x i = 5 then (0, 0, (i + 1, false, true :: st, on + 1))
  else if (s_pn x f m i).1 ≠ 0 then ((s_pn x f m i).1, (s_pn x f m i).2.1, (0, false, [], 0))
  else (0, 0, ((s_pn x f m i).2.2, true, s_dn st, on + 1))
/-- a ONE stands; what comes behind it -/
def s_bh (x : k_X) (i : Nat) (st : List Bool) (on : Int) : s_T :=
  if kK x i = 2 ∧ (s_wn x i = 18 ∨ s_wn x i = 17) then (0, 0, (i + 1, false, st, on))
  else if (kK x i = 5 ∧ kV x i = 41) ∧ st ≠ [] then (0, 0, (i + 1, true, s_dn st.tail, on))
  else if kK x i = 0 ∧ st = [] then (-1, on, (0, false, [], 0))
  else (1, kP x i, (0, false, [], 0))
noncomputable def s_st (x : k_X) (f : Nat → Int) (m : Int) (s : s_S) : s_T := if s.2.1 = true then s_bh x s.1 s.2.2.1 s.2.2.2 else s_op x f m s.1 s.2.2.1 s.2.2.2
/-- the machine, by a fuel: (-1, how many ONES), or a FAULT and its place; 9 if the fuel ends -/
noncomputable def s_run (x : k_X) (f : Nat → Int) (m : Int) : Nat → s_S → Int × Int
  | 0, _ => (9, 0)
  | n + 1, s => if (s_st x f m s).1 = 0 then s_run x f m n (s_st x f m s).2.2 else ((s_st x f m s).1, (s_st x f m s).2.1)
theorem s_op_9 (x : k_X) (f : Nat → Int) (m : Int) (i : Nat) (st : List Bool) (on : Int) : (s_op x f m i st on).1 ≠ 9 := by
  have b := s_pn_b x f m i
  unfold s_op
  split
  · exact (by decide : (1 : Int) ≠ 9)
  split
  · exact (by decide : (4 : Int) ≠ 9)
  split
  · exact (by decide : (0 : Int) ≠ 9)
  split
  · exact (by decide : (0 : Int) ≠ 9)
  split
  · show (s_pn x f m i).1 ≠ 9
    omega
  · exact (by decide : (0 : Int) ≠ 9)
theorem s_bh_9 (x : k_X) (i : Nat) (st : List Bool) (on : Int) : (s_bh x i st on).1 ≠ 9 := by
  unfold s_bh
  split
  · exact (by decide : (0 : Int) ≠ 9)
  split
  · exact (by decide : (0 : Int) ≠ 9)
  split
  · exact (by decide : (-1 : Int) ≠ 9)
  · exact (by decide : (1 : Int) ≠ 9)
theorem s_st_9 (x : k_X) (f : Nat → Int) (m : Int) (s : s_S) : (s_st x f m s).1 ≠ 9 := by
  unfold s_st
  split
  · exact s_bh_9 x _ _ _
  · exact s_op_9 x f m _ _ _
theorem s_run_on {x : k_X} {f : Nat → Int} {m : Int} {s : s_S} (h : (s_st x f m s).1 = 0) (n : Nat) : s_run x f m (n + 1) s = s_run x f m n (s_st x f m s).2.2 := by
  show (if (s_st x f m s).1 = 0 then _ else _) = _
  rw [if_pos h]
theorem s_run_end {x : k_X} {f : Nat → Int} {m : Int} {s : s_S} (h : (s_st x f m s).1 ≠ 0) (n : Nat) : s_run x f m (n + 1) s = ((s_st x f m s).1, (s_st x f m s).2.1) := by
  show (if (s_st x f m s).1 = 0 then _ else _) = _
  rw [if_neg h]
theorem s_run_up {x : k_X} {f : Nat → Int} {m : Int} : ∀ (n : Nat) (s : s_S), (s_run x f m n s).1 ≠ 9 → s_run x f m (n + 1) s = s_run x f m n s := by
  intro n
  induction n with
  | zero => intro s h; exact absurd rfl h
  | succ n ih =>
    intro s h
    by_cases q : (s_st x f m s).1 = 0
    · rw [s_run_on q n] at h
      rw [s_run_on q (n + 1), s_run_on q n]
      exact ih _ h
    · rw [s_run_end q (n + 1), s_run_end q n]
theorem s_run_ups {x : k_X} {f : Nat → Int} {m : Int} {n : Nat} {s : s_S} (h : (s_run x f m n s).1 ≠ 9) : ∀ d, s_run x f m (n + d) s = s_run x f m n s := by
  intro d
  induction d with
  | zero => rfl
  | succ d ih =>
    rw [← Nat.add_assoc, s_run_up (n + d) s (by rw [ih]; exact h), ih]
/-- it ends with r -/
def s_fin (x : k_X) (f : Nat → Int) (m : Int) (s : s_S) (r : Int × Int) : Prop := r.1 ≠ 9 ∧ ∃ n, s_run x f m n s = r
theorem s_fin.uniq {x : k_X} {f : Nat → Int} {m : Int} {s : s_S} {r r' : Int × Int} (h : s_fin x f m s r) (k : s_fin x f m s r') : r = r' := by
  obtain ⟨h1, n, e⟩ := h
  obtain ⟨k1, n', e'⟩ := k
  have a := s_run_ups (x := x) (f := f) (m := m) (n := n) (s := s) (by rw [e]; exact h1) n'
  have b := s_run_ups (x := x) (f := f) (m := m) (n := n') (s := s) (by rw [e']; exact k1) n
  rw [e] at a
  rw [e', Nat.add_comm n' n] at b
  exact a.symm.trans b
theorem s_fin.here {x : k_X} {f : Nat → Int} {m : Int} {s : s_S} (h : (s_st x f m s).1 ≠ 0) : s_fin x f m s ((s_st x f m s).1, (s_st x f m s).2.1) := ⟨s_st_9 x f m s, 1, s_run_end h 0⟩
/-- it comes to s' -/
def s_to (x : k_X) (f : Nat → Int) (m : Int) (s s' : s_S) : Prop := ∃ n, ∀ k, s_run x f m (k + n) s = s_run x f m k s'
theorem s_to.refl {x : k_X} {f : Nat → Int} {m : Int} {s : s_S} : s_to x f m s s := ⟨0, fun _ => rfl⟩
theorem s_to.one {x : k_X} {f : Nat → Int} {m : Int} {s : s_S} (h : (s_st x f m s).1 = 0) : s_to x f m s (s_st x f m s).2.2 := ⟨1, fun k => s_run_on h k⟩
theorem s_to.trans {x : k_X} {f : Nat → Int} {m : Int} {s s1 s2 : s_S} (h : s_to x f m s s1) (k : s_to x f m s1 s2) : s_to x f m s s2 := by
  obtain ⟨n, e⟩ := h
  obtain ⟨n', e'⟩ := k
  exact ⟨n' + n, fun k => by rw [← Nat.add_assoc, e, e']⟩
theorem s_to.fin {x : k_X} {f : Nat → Int} {m : Int} {s s1 : s_S} {r : Int × Int} (h : s_to x f m s s1) (k : s_fin x f m s1 r) : s_fin x f m s r := by
  obtain ⟨n, e⟩ := h
  obtain ⟨k1, n', e'⟩ := k
  exact ⟨k1, n' + n, by rw [e, e']⟩
/-! ===== what the class holds while it reads one ===== -/
/-- the names of the WALKERS -/
def s_nm (M : pM) (f : Nat → Int) (m : Int) : Prop := o_i (M 4) 6 = m ∧ ∀ j : Nat, (j : Int) < m → (o_l (M 5) j).toInt = f j
theorem s_nm.cg {M M1 : pM} {f : Nat → Int} {m : Int} (h : s_nm M f m) (e4 : M1 4 = M 4) (e5 : M1 5 = M 5) : s_nm M1 f m := by unfold s_nm; rw [e4, e5]; exact h
/-- it ends with a FAULT, which stands on the tape -/
def s_bad (x : k_X) (f : Nat → Int) (m : Int) (s : s_S) (M1 : pM) : Prop := ∃ q : Int × Int, s_fin x f m s q ∧ 1 ≤ q.1 ∧ q.1 ≤ 4 ∧ o_i (M1 1) 10 = q.1 ∧ o_i (M1 1) 11 = q.2
theorem s_bad.to {x : k_X} {f : Nat → Int} {m : Int} {s s1 : s_S} {M1 : pM} (h : s_bad x f m s1 M1) (t : s_to x f m s s1) : s_bad x f m s M1 := by
  obtain ⟨q, h1, h2⟩ := h
  exact ⟨q, t.fin h1, h2⟩
theorem s_bad.cg {x : k_X} {f : Nat → Int} {m : Int} {s : s_S} {M1 M2 : pM} (h : s_bad x f m s M1) (e : M2 1 = M1 1) : s_bad x f m s M2 := by
  obtain ⟨q, h1, h2, h3, h4, h5⟩ := h
  exact ⟨q, h1, h2, h3, by rw [e]; exact h4, by rw [e]; exact h5⟩
theorem s_bad.of {x : k_X} {f : Nat → Int} {m : Int} {s : s_S} {M1 : pM} {k p : Int} {d : s_S} (e : s_st x f m s = (k, p, d)) (h1 : 1 ≤ k) (h2 : k ≤ 4) (h3 : o_i (M1 1) 10 = k) (h4 : o_i (M1 1) 11 = p) : s_bad x f m s M1 := by
  have w := s_fin.here (x := x) (f := f) (m := m) (s := s) (by rw [e]; show k ≠ 0; omega)
  rw [e] at w
  exact ⟨(k, p), w, h1, h2, h3, h4⟩
theorem s_to.of {x : k_X} {f : Nat → Int} {m : Int} {s d : s_S} {p : Int} (e : s_st x f m s = (0, p, d)) : s_to x f m s d := by
  have w := s_to.one (x := x) (f := f) (m := m) (s := s) (by rw [e])
  rw [e] at w
  exact w
/-- a ONE was read: a state where it stands -/
def s_ok (x : k_X) (f : Nat → Int) (m : Int) (s : s_S) (st : List Bool) (on : Int) (M1 : pM) (j : Nat) (o : Int) : Prop := s_to x f m s (j, true, st, o) ∧ on < o ∧ o ≤ 20 ∧ k_at x M1 j ∧ o_i (M1 267) 0 = o
theorem s_ok.cg {x : k_X} {f : Nat → Int} {m : Int} {s : s_S} {st : List Bool} {on : Int} {M1 M2 : pM} {j : Nat} {o : Int} (h : s_ok x f m s st on M1 j o) (e1 : M2 1 = M1 1) (e2 : M2 2 = M1 2) (e3 : o_i (M2 267) 0 = o_i (M1 267) 0) : s_ok x f m s st on M2 j o := ⟨h.1, h.2.1, h.2.2.1, h.2.2.2.1.cg e1 e2, e3.trans h.2.2.2.2⟩
def s_oq (x : k_X) (f : Nat → Int) (m : Int) (i : Nat) (st : List Bool) (on : Int) (r : Int32) (M1 : pM) : Prop := (r.toInt = 1 ∧ ∃ (j : Nat) (o : Int), s_ok x f m (i, false, st, on) (s_dn st) on M1 j o) ∨ (r.toInt = 0 ∧ s_bad x f m (i, false, st, on) M1)
def s_lq (x : k_X) (f : Nat → Int) (m : Int) (i : Nat) (st : List Bool) (on : Int) (r : Int32) (M1 : pM) : Prop := (r.toInt = 1 ∧ ∃ (j : Nat) (o : Int), s_ok x f m (i, false, st, on) st on M1 j o ∧ ¬ (kK x j = 2 ∧ s_wn x j = 18)) ∨ (r.toInt = 0 ∧ s_bad x f m (i, false, st, on) M1)
def s_aq (x : k_X) (f : Nat → Int) (m : Int) (i : Nat) (st : List Bool) (on : Int) (r : Int32) (M1 : pM) : Prop := (r.toInt = 1 ∧ ∃ (j : Nat) (o : Int), s_ok x f m (i, false, st, on) st on M1 j o ∧ ¬ (kK x j = 2 ∧ (s_wn x j = 18 ∨ s_wn x j = 17))) ∨ (r.toInt = 0 ∧ s_bad x f m (i, false, st, on) M1)
/-- in the loops of readAll, readAny: c times more -/
def s_li (x : k_X) (f : Nat → Int) (m : Int) (i : Nat) (st : List Bool) (on : Int) (w : Nat) (M1 : pM) (g c : Int) : Prop := (g = 1 ∧ ∃ (j : Nat) (o : Int), s_ok x f m (i, false, st, on) st (on + c) M1 j o ∧ (w = 17 → ¬ (kK x j = 2 ∧ s_wn x j = 18))) ∨ (g = 0 ∧ s_bad x f m (i, false, st, on) M1)
theorem s_ok.mono {x : k_X} {f : Nat → Int} {m : Int} {s : s_S} {st : List Bool} {on on1 : Int} {M1 : pM} {j : Nat} {o : Int} (h : s_ok x f m s st on M1 j o) (k : on1 ≤ on) : s_ok x f m s st on1 M1 j o := ⟨h.1, by have := h.2.1; omega, h.2.2⟩
theorem s_ok.next {x : k_X} {f : Nat → Int} {m : Int} {s s1 : s_S} {st : List Bool} {on on1 c : Int} {M1 : pM} {j : Nat} {o : Int} (h : s_ok x f m s1 st on1 M1 j o) (t : s_to x f m s s1) (k : on + c ≤ on1) : s_ok x f m s st (on + c) M1 j o := ⟨t.trans h.1, by have := h.2.1; omega, h.2.2⟩
/-- a step goes on along the text -/
theorem s_pn_ps {x : k_X} {f : Nat → Int} {m : Int} {i : Nat} (hk : kK x i = 2) (h : (s_pn x f m i).1 = 0) : k_ps x i < k_ps x (s_pn x f m i).2.2 ∧ k_ps x (s_pn x f m i).2.2 ≤ x.2.1 := by
  have a := k_ps_on (x := x) (i := i) (by omega)
  unfold s_pn at h ⊢
  split at h
  · rename_i q; rw [if_pos q]; exact a
  · rename_i q
    rw [if_neg q]
    split at h
    · rename_i q2
      rw [if_pos q2]
      split at h
      · exact absurd (show (1 : Int) = 0 from h) (by decide)
      · rename_i q3
        rw [if_neg q3]
        split at h
        · exact absurd (show (3 : Int) = 0 from h) (by decide)
        · rename_i q4
          rw [if_neg q4]
          have e : kK x (i + 1) = 2 := by
            unfold k_ni at q3
            split at q3
            · rename_i q5; exact q5.1
            · exact absurd rfl q3
          have b := k_ps_on (x := x) (i := i + 1) (by omega)
          exact ⟨by show k_ps x i < k_ps x (i + 1 + 1); omega, b.2⟩
    · rename_i q2
      rw [if_neg q2]
      split at h
      · exact absurd (show (1 : Int) = 0 from h) (by decide)
      · rename_i q3
        rw [if_neg q3]
        split at h
        · exact absurd (show (1 : Int) = 0 from h) (by decide)
        · rename_i q4
          rw [if_neg q4]
          have e : kK x (i + 1) = 5 := by
            by_cases z : kK x (i + 1) = 5
            · exact z
            · exact absurd (fun w => z w.1) q3
          have b := k_ps_on (x := x) (i := i + 1) (by omega)
          have c := k_ps_on (x := x) (i := i + 1 + 1) (by show 2 ≤ kK x (i + 2); omega)
          exact ⟨by show k_ps x i < k_ps x (i + 1 + 1 + 1); omega, c.2⟩
theorem s_op_ps {x : k_X} {f : Nat → Int} {m : Int} {i : Nat} {st : List Bool} {on : Int} (h : (s_op x f m i st on).1 = 0) : k_ps x i < k_ps x (s_op x f m i st on).2.2.1 ∧ k_ps x (s_op x f m i st on).2.2.1 ≤ x.2.1 := by
  unfold s_op at h ⊢
  split at h
  · exact absurd (show (1 : Int) = 0 from h) (by decide)
  · rename_i q
    rw [if_neg q]
    have q : (kK x i = 5 ∧ kV x i = 40) ∨ (kK x i = 2 ∧ 19 ≤ s_wn x i ∧ s_wn x i ≤ 27) := Decidable.not_not.mp q
    have k2 : 2 ≤ kK x i := by omega
    have a := k_ps_on k2
    split at h
    · exact absurd (show (4 : Int) = 0 from h) (by decide)
    · rename_i q2
      rw [if_neg q2]
      split at h
      · rename_i q3; rw [if_pos q3]; exact a
      · rename_i q3
        rw [if_neg q3]
        split at h
        · rename_i q4; rw [if_pos q4]; exact a
        · rename_i q4
          rw [if_neg q4]
          split at h
          · rename_i q5; exact absurd h q5
          · rename_i q5
            rw [if_neg q5]
            exact s_pn_ps (by omega) (Decidable.not_not.mp q5)
theorem s_bh_ps {x : k_X} {i : Nat} {st : List Bool} {on : Int} (h : (s_bh x i st on).1 = 0) : k_ps x i < k_ps x (s_bh x i st on).2.2.1 ∧ k_ps x (s_bh x i st on).2.2.1 ≤ x.2.1 := by
  unfold s_bh at h ⊢
  split at h
  · rename_i q
    rw [if_pos q]
    exact k_ps_on (x := x) (i := i) (by omega)
  · rename_i q
    rw [if_neg q]
    split at h
    · rename_i q2
      rw [if_pos q2]
      exact k_ps_on (x := x) (i := i) (by omega)
    · rename_i q2
      rw [if_neg q2]
      split at h
      · exact absurd (show (-1 : Int) = 0 from h) (by decide)
      · exact absurd (show (1 : Int) = 0 from h) (by decide)
