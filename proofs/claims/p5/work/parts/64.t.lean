/-! ===== the stack of the reference, as it reads a SENTENCE ===== -/
/-- what is open: true a bracket, false a not -/
def r_pj (k : Nat → Int32) : Nat → List Bool
  | 0 => []
  | z + 1 => if (k z).toInt = 20 then false :: r_pj k z else if (k z).toInt = 23 then true :: r_pj k z else r_pj k z
theorem r_pj.c {k k1 : Nat → Int32} : ∀ n, (∀ z, z < n → k1 z = k z) → r_pj k1 n = r_pj k n
  | 0, _ => rfl
  | n + 1, h => by
    show (if (k1 n).toInt = 20 then false :: r_pj k1 n else if (k1 n).toInt = 23 then true :: r_pj k1 n else r_pj k1 n) = (if (k n).toInt = 20 then false :: r_pj k n else if (k n).toInt = 23 then true :: r_pj k n else r_pj k n)
    rw [r_pj.c n (fun z hz => h z (by omega)), h n (by omega)]
theorem r_pj.n {k : Nat → Int32} {n : Nat} (h : (k n).toInt = 20) : r_pj k (n + 1) = false :: r_pj k n := by
  show (if (k n).toInt = 20 then false :: r_pj k n else _) = _
  rw [if_pos h]
theorem r_pj.o {k : Nat → Int32} {n : Nat} (h : (k n).toInt = 23) : r_pj k (n + 1) = true :: r_pj k n := by
  show (if (k n).toInt = 20 then false :: r_pj k n else if (k n).toInt = 23 then true :: r_pj k n else r_pj k n) = _
  rw [if_neg (by omega), if_pos h]
theorem r_pj.b {k : Nat → Int32} {n : Nat} (h : (k n).toInt = 21 ∨ (k n).toInt = 22) : r_pj k (n + 1) = r_pj k n := by
  show (if (k n).toInt = 20 then false :: r_pj k n else if (k n).toInt = 23 then true :: r_pj k n else r_pj k n) = _
  rw [if_neg (by omega), if_neg (by omega)]
/-- well formed: 20 to 23; under AND, OR no NOT -/
def r_wf (k : Nat → Int32) (n : Nat) : Prop := (∀ z, z < n → 20 ≤ (k z).toInt ∧ (k z).toInt ≤ 23) ∧ ∀ z, z + 1 < n → ((k (z + 1)).toInt = 21 ∨ (k (z + 1)).toInt = 22) → (k z).toInt ≠ 20
theorem r_wf.c {k k1 : Nat → Int32} {n : Nat} (h : r_wf k n) (e : ∀ z, z < n → k1 z = k z) : r_wf k1 n := ⟨fun z hz => by rw [e z hz]; exact h.1 z hz, fun z hz => by rw [e z (by omega), e (z + 1) hz]; exact h.2 z hz⟩
theorem r_wf.pop {k : Nat → Int32} {n : Nat} (h : r_wf k (n + 1)) : r_wf k n := ⟨fun z hz => h.1 z (by omega), fun z hz => h.2 z (by omega)⟩
/-- the top is no NOT -/
def r_tp (k : Nat → Int32) (n : Nat) : Prop := n = 0 ∨ (k (n - 1)).toInt ≠ 20
theorem r_wf.tp {k : Nat → Int32} {n : Nat} (h : r_wf k (n + 1)) (hb : (k n).toInt = 21 ∨ (k n).toInt = 22) : r_tp k n := by
  cases n with
  | zero => exact Or.inl rfl
  | succ n => exact Or.inr (h.2 n (by omega) hb)
theorem r_dn {k : Nat → Int32} : ∀ n, r_wf k n → r_tp k n → s_dn (r_pj k n) = r_pj k n
  | 0, _, _ => rfl
  | n + 1, h, t => by
    have v := h.1 n (by omega)
    have t1 : (k n).toInt ≠ 20 := by
      rcases t with t | t
      · omega
      · exact t
    by_cases q : (k n).toInt = 23
    · rw [r_pj.o q]; rfl
    · have b : (k n).toInt = 21 ∨ (k n).toInt = 22 := by omega
      rw [r_pj.b b]
      exact r_dn n h.pop (h.tp b)
/-- of the memory -/
abbrev r_k (M : pM) : Nat → Int32 := o_a (M 305)
abbrev r_n (M : pM) : Nat := (o_i (M 294) 35).toNat
def r_P (M : pM) : List Bool := r_pj (o_a (M 305)) (o_i (M 294) 35).toNat
def r_Q (M : pM) : Prop := r_wf (o_a (M 305)) (o_i (M 294) 35).toNat ∧ o_i (M 294) 36 = 1 + ((r_pj (o_a (M 305)) (o_i (M 294) 35).toNat).length : Int)
def r_T (M : pM) : Prop := r_tp (o_a (M 305)) (o_i (M 294) 35).toNat
/-- like stacks -/
def r_E (M M1 : pM) : Prop := o_a (M1 305) = o_a (M 305) ∧ o_i (M1 294) 35 = o_i (M 294) 35 ∧ o_i (M1 294) 36 = o_i (M 294) 36
theorem r_E.refl {M : pM} : r_E M M := ⟨rfl, rfl, rfl⟩
theorem r_E.P {M M1 : pM} (e : r_E M M1) : r_P M1 = r_P M := by unfold r_P; rw [e.1, e.2.1]
theorem r_E.Q {M M1 : pM} (e : r_E M M1) (h : r_Q M) : r_Q M1 := by unfold r_Q; rw [e.1, e.2.1, e.2.2]; exact h
theorem r_E.T {M M1 : pM} (e : r_E M M1) (h : r_T M) : r_T M1 := by unfold r_T; rw [e.1, e.2.1]; exact h
theorem r_Q.zero {M : pM} (e : o_i (M 294) 35 = 0) (e2 : o_i (M 294) 36 = 1) : r_Q M ∧ r_P M = [] := by
  unfold r_Q r_P
  rw [e, e2]
  exact ⟨⟨⟨fun z hz => absurd hz (Nat.not_lt_zero z), fun z hz => absurd hz (Nat.not_lt_zero _)⟩, rfl⟩, rfl⟩
theorem r_Q.deep {M : pM} (h : r_Q M) : o_i (M 294) 36 = 1 + ((r_P M).length : Int) := h.2
/-- a NOT goes -/
theorem r_Q.pn {M M1 : pM} (h : r_Q M) (ea : o_a (M1 305) = o_a (M 305)) (h1 : 1 ≤ o_i (M 294) 35) (e : o_i (M1 294) 35 = o_i (M 294) 35 - 1) (e2 : o_i (M1 294) 36 = o_i (M 294) 36 - 1) (hk : (o_a (M 305) (o_i (M 294) 35 - 1).toNat).toInt = 20) : r_Q M1 ∧ r_P M = false :: r_P M1 := by
  obtain ⟨a, b⟩ := h
  have n1 : (o_i (M 294) 35).toNat = (o_i (M 294) 35 - 1).toNat + 1 := by omega
  rw [n1] at a b
  rw [r_pj.n hk] at b
  rw [List.length_cons] at b
  unfold r_Q r_P
  rw [ea, e, e2, n1, r_pj.n hk]
  exact ⟨⟨a.pop, by omega⟩, rfl⟩
/-- AND, OR go -/
theorem r_Q.pb {M M1 : pM} (h : r_Q M) (ea : o_a (M1 305) = o_a (M 305)) (h1 : 1 ≤ o_i (M 294) 35) (e : o_i (M1 294) 35 = o_i (M 294) 35 - 1) (e2 : o_i (M1 294) 36 = o_i (M 294) 36) (hk : (o_a (M 305) (o_i (M 294) 35 - 1).toNat).toInt = 21 ∨ (o_a (M 305) (o_i (M 294) 35 - 1).toNat).toInt = 22) : r_Q M1 ∧ r_P M1 = r_P M ∧ r_T M1 := by
  obtain ⟨a, b⟩ := h
  have n1 : (o_i (M 294) 35).toNat = (o_i (M 294) 35 - 1).toNat + 1 := by omega
  rw [n1] at a b
  rw [r_pj.b hk] at b
  unfold r_Q r_P r_T
  rw [ea, e, e2, n1, r_pj.b hk]
  exact ⟨⟨a.pop, b⟩, rfl, a.tp hk⟩
/-- behind joins: nothing, or a bracket; it goes -/
theorem r_Q.top {M : pM} (h : r_Q M) (t : r_T M) (hj : o_i (M 294) 35 = 0 ∨ ((o_a (M 305) (o_i (M 294) 35 - 1).toNat).toInt ≠ 21 ∧ (o_a (M 305) (o_i (M 294) 35 - 1).toNat).toInt ≠ 22)) (h0 : 0 ≤ o_i (M 294) 35) : (o_i (M 294) 35 = 0 ∧ r_P M = []) ∨ (1 ≤ o_i (M 294) 35 ∧ (o_a (M 305) (o_i (M 294) 35 - 1).toNat).toInt = 23 ∧ r_P M ≠ []) := by
  by_cases z : o_i (M 294) 35 = 0
  · refine Or.inl ⟨z, ?_⟩
    unfold r_P
    rw [z]; rfl
  · have n1 : (o_i (M 294) 35).toNat = (o_i (M 294) 35 - 1).toNat + 1 := by omega
    have v := h.1.1 (o_i (M 294) 35 - 1).toNat (by omega)
    have t1 : (o_a (M 305) (o_i (M 294) 35 - 1).toNat).toInt ≠ 20 := by
      rcases t with t | t
      · omega
      · rw [show (o_i (M 294) 35).toNat - 1 = (o_i (M 294) 35 - 1).toNat from by omega] at t; exact t
    have k : (o_a (M 305) (o_i (M 294) 35 - 1).toNat).toInt = 23 := by omega
    refine Or.inr ⟨by omega, k, ?_⟩
    unfold r_P
    rw [n1, r_pj.o k]
    exact List.cons_ne_nil _ _
theorem r_Q.po {M M1 : pM} (h : r_Q M) (ea : o_a (M1 305) = o_a (M 305)) (h1 : 1 ≤ o_i (M 294) 35) (e : o_i (M1 294) 35 = o_i (M 294) 35 - 1) (e2 : o_i (M1 294) 36 = o_i (M 294) 36 - 1) (hk : (o_a (M 305) (o_i (M 294) 35 - 1).toNat).toInt = 23) : r_Q M1 ∧ r_P M = true :: r_P M1 := by
  obtain ⟨a, b⟩ := h
  have n1 : (o_i (M 294) 35).toNat = (o_i (M 294) 35 - 1).toNat + 1 := by omega
  rw [n1] at a b
  rw [r_pj.o hk] at b
  rw [List.length_cons] at b
  unfold r_Q r_P
  rw [ea, e, e2, n1, r_pj.o hk]
  exact ⟨⟨a.pop, by omega⟩, rfl⟩
/-- a NOT, a bracket comes -/
theorem r_wf.push {k k1 : Nat → Int32} {n : Nat} (h : r_wf k n) (e : ∀ z, z ≠ n → k1 z = k z) (hv : 20 ≤ (k1 n).toInt ∧ (k1 n).toInt ≤ 23) (ht : (k1 n).toInt = 21 ∨ (k1 n).toInt = 22 → r_tp k n) : r_wf k1 (n + 1) := by
  refine ⟨fun z hz => ?_, fun z hz hb => ?_⟩
  · by_cases q : z = n
    · subst q; exact hv
    · rw [e z q]; exact h.1 z (by omega)
  · by_cases q : z + 1 = n
    · rw [q] at hb
      rw [e z (by omega)]
      rcases ht hb with w | w
      · omega
      · rw [show n - 1 = z from by omega] at w; exact w
    · rw [e (z + 1) q] at hb
      rw [e z (by omega)]
      exact h.2 z (by omega) hb
theorem r_Q.un {M M1 : pM} {b : Bool} {v : Int} (h : r_Q M) (h0 : 0 ≤ o_i (M 294) 35) (ea : ∀ z, z ≠ (o_i (M 294) 35).toNat → o_a (M1 305) z = o_a (M 305) z) (hk : (o_a (M1 305) (o_i (M 294) 35).toNat).toInt = v) (hv : (v = 20 ∧ b = false) ∨ (v = 23 ∧ b = true)) (e : o_i (M1 294) 35 = o_i (M 294) 35 + 1) (e2 : o_i (M1 294) 36 = o_i (M 294) 36 + 1) : r_Q M1 ∧ r_P M1 = b :: r_P M := by
  obtain ⟨a, d⟩ := h
  have n1 : (o_i (M 294) 35 + 1).toNat = (o_i (M 294) 35).toNat + 1 := by omega
  have w := a.push ea (by omega) (fun q => by omega)
  have c := r_pj.c (o_i (M 294) 35).toNat (fun z hz => ea z (by omega))
  have p : r_pj (o_a (M1 305)) ((o_i (M 294) 35).toNat + 1) = b :: r_pj (o_a (M 305)) (o_i (M 294) 35).toNat := by
    rcases hv with ⟨q1, q2⟩ | ⟨q1, q2⟩
    · rw [r_pj.n (by omega), c, q2]
    · rw [r_pj.o (by omega), c, q2]
  unfold r_Q r_P
  rw [e, e2, n1, p, List.length_cons]
  exact ⟨⟨w, by omega⟩, rfl⟩
/-- AND, OR come -/
theorem r_Q.bn {M M1 : pM} (h : r_Q M) (t : r_T M) (h0 : 0 ≤ o_i (M 294) 35) (ea : ∀ z, z ≠ (o_i (M 294) 35).toNat → o_a (M1 305) z = o_a (M 305) z) (hk : (o_a (M1 305) (o_i (M 294) 35).toNat).toInt = 21 ∨ (o_a (M1 305) (o_i (M 294) 35).toNat).toInt = 22) (e : o_i (M1 294) 35 = o_i (M 294) 35 + 1) (e2 : o_i (M1 294) 36 = o_i (M 294) 36) : r_Q M1 ∧ r_P M1 = r_P M := by
  obtain ⟨a, d⟩ := h
  have n1 : (o_i (M 294) 35 + 1).toNat = (o_i (M 294) 35).toNat + 1 := by omega
  have w := a.push ea (by omega) (fun _ => t)
  have c := r_pj.c (o_i (M 294) 35).toNat (fun z hz => ea z (by omega))
  unfold r_Q r_P
  rw [e, e2, n1, r_pj.b hk, c]
  exact ⟨⟨w, d⟩, rfl⟩
theorem r_Q.dn {M : pM} (h : r_Q M) (t : r_T M) : s_dn (r_P M) = r_P M := r_dn _ h.1 t
theorem r_T.of {M : pM} (h : o_i (M 294) 35 = 0 ∨ (o_a (M 305) (o_i (M 294) 35 - 1).toNat).toInt ≠ 20) : r_T M := by
  rcases h with h | h
  · exact Or.inl (by omega)
  · by_cases z : (o_i (M 294) 35).toNat = 0
    · exact Or.inl z
    · exact Or.inr (by rw [show (o_i (M 294) 35).toNat - 1 = (o_i (M 294) 35 - 1).toNat from by omega]; exact h)
/-- a token rests on none of these fields -/
theorem k_ra.K {x : k_X} {l : List Nat} {M M1 : pM} {i : Nat} (h : k_ra x M i) (Q : gKl l M M1) (e1 : M1 295 = M 295) (e2 : M1 300 = M 300) (hl : ([3, 4, 5, 11, 12, 14, 15, 17].all fun k => !l.contains k) = true) : k_ra x M1 i := by
  have n : ∀ k, [3, 4, 5, 11, 12, 14, 15, 17].contains k = true → l.contains k = false := fun k hk => by
    have q := List.all_eq_true.mp hl k (by simpa using hk)
    simpa using q
  unfold k_ra k_rx k_rt
  rw [Q.i 3 (n 3 rfl), Q.i 4 (n 4 rfl), Q.i 5 (n 5 rfl), Q.i 11 (n 11 rfl), Q.i 12 (n 12 rfl), Q.i 14 (n 14 rfl), Q.i 15 (n 15 rfl), Q.J 17 (n 17 rfl), e1, e2]
  exact h
theorem r_pj.le (k : Nat → Int32) : ∀ n, (r_pj k n).length ≤ n
  | 0 => Nat.le_refl _
  | n + 1 => by
    have ih := r_pj.le k n
    show (if (k n).toInt = 20 then false :: r_pj k n else if (k n).toInt = 23 then true :: r_pj k n else r_pj k n).length ≤ n + 1
    split
    · rw [List.length_cons]; omega
    split
    · rw [List.length_cons]; omega
    · omega
theorem r_Q.dl {M : pM} (h : r_Q M) (h0 : 0 ≤ o_i (M 294) 35) : 1 ≤ o_i (M 294) 36 ∧ o_i (M 294) 36 ≤ 1 + o_i (M 294) 35 := by
  have a := h.2
  have b := r_pj.le (o_a (M 305)) (o_i (M 294) 35).toNat
  omega
/-- the names of the WALKERS, as the reference holds them -/
def r_nm (M : pM) (f : Nat → Int) (m : Int) : Prop := (o_a (M 296) 0).toInt = m ∧ 0 ≤ m ∧ m ≤ 6 ∧ ∀ j : Nat, (j : Int) < m → (o_l (M 299) (0 + j)).toInt = k_wi (f j) ∧ 0 ≤ f j ∧ f j < 34359738368
theorem r_nm.cg {M M1 : pM} {f : Nat → Int} {m : Int} (h : r_nm M f m) (e1 : M1 296 = M 296) (e2 : M1 299 = M 299) : r_nm M1 f m := by unfold r_nm; rw [e1, e2]; exact h
/-- the machine's state, as the reference holds it -/
def r_J (x : k_X) (M : pM) (s : s_S) : Prop := k_ra x M s.1 ∧ r_Q M ∧ o_i (M 294) 34 = s.2.2.2 ∧ ((s.2.1 = false ∧ o_i (M 294) 37 = 0 ∧ r_P M = s.2.2.1) ∨ (s.2.1 = true ∧ o_i (M 294) 37 = 1 ∧ s_dn (r_P M) = s.2.2.1))
theorem c_X12_find_vk0 (V : pM → Prop) (hV : Stab V) (G : pG) (Kr : pK) (M : pM) (I : Iv V M) (a1 : Int32) (a2 : Int32) (hl_a1 : 0 ≤ a1.toInt) (hh_a1 : a1.toInt ≤ 0) (hl_a2 : 0 ≤ a2.toInt) (hh_a2 : a2.toInt ≤ 6) (y : k_X) (i : Nat) (f : Nat → Int) (m : Int) (hp_0 : k_ra y M i) (hp_1 : ∀ j : Nat, (j : Int) < m → (o_l (M 299) (0 + j)).toInt = k_wi (f j) ∧ 0 ≤ f j ∧ f j < 34359738368) (hp_2 : kK y i = 2) (hp_3 : a2.toInt = m) (hK : ∀ (x : Int32), -1 ≤ x.toInt → x.toInt ≤ 5 → (x.toInt = k_fd f (kV y i) m.toNat) → Kr.1 (some (.int x)) 311 M) : PW G false 0 185 (p_mc 185) (p_msl 185) Kr 0 (lv_args 0 [.ref 294, .int a1, .int a2]) [] 311 M 0 0 := by
  have F : Fr [] M M := Fr.refl
  obtain ⟨q1, q2, q3, q4⟩ : o_i (M 294) 11 = 1 ∧ kK y i = 2 ∧ o_J (M 294) 17 = k_wi (kV y i) ∧ 0 ≤ kV y i ∧ kV y i < 34359738368 := by rcases k_rW hp_0 with q | q; (· exact q); (· omega)
  refine PW.cI q_185_0 (by decide) fun c1 hc1 => ?_
  refine PW.istore_n q_185_1 (by decide) ?_
  have L185_2_2 : ∀ (n : Nat) (v3 : Int32), 0 ≤ v3.toInt → v3.toInt ≤ 6 → (∀ j : Nat, (j : Int) < v3.toInt → f j ≠ kV y i) → (6 - v3.toInt).toNat = n → PW G false 0 185 (p_mc 185) (p_msl 185) Kr 2 [(0, .ref 294), (1, .int a1), (2, .int a2), (3, .int v3)] [] 311 M 0 0 := by
    intro n
    induction n using Nat.strongRecOn with
    | ind n ih_L185_2_2 =>
    intro v3 hbL185_2_20 hbL185_2_21 hbL185_2_22 hmL185_2_2
    refine PW.iload_n q_185_2 rfl ?_
    refine PW.iload_n q_185_3 rfl ?_
    refine PW.jc_ge q_185_4 rfl (fun h4 => ?_) (fun h4 => ?_)
    · skip
      refine PW.cI q_185_31 (by decide) fun c5 hc5 => ?_
      refine PW.rI q_185_32 rfl (by decide) (by decide) ?_
      exact hK c5 (by omega) (by omega) (by rw [k_fd_no fun j hj => hbL185_2_22 j (by omega)]; omega)
    · skip
      refine PW.aload_n q_185_7 rfl ?_
      refine PW.gR 299 q_185_8 (Or.inl t_ft_185_43) gF_40_9 kd_294 I.1 (by decide) rfl ?_
      refine PW.iload_n q_185_11 rfl ?_
      refine PW.iload_n q_185_12 rfl ?_
      refine PW.addN q_185_13 (by omega) (by omega) fun x6 hx6 => ?_
      refine PW.aL q_185_14 rfl kd_299 I.1 (by decide) (by omega) (by omega) fun l7 fl7 => ?_
      refine PW.aload_n q_185_15 rfl ?_
      refine PW.gL q_185_16 (Or.inl t_ft_185_157) gF_40_17 kd_294 I.1 (by decide) fun l8 fl8 => ?_
      refine PW.lcmpK q_185_19 fun x9 lax9 lcx9 => ?_
      refine PW.jz_ne q_185_20 rfl (fun h10 => ?_) (fun h10 => ?_)
      · skip
        refine PW.incN q_185_25 rfl (by decide) (by decide) (by omega) (by omega) fun x11 hx11 => ?_
        refine PW.goto q_185_28 rfl ?_
        exact PW.lvS (lk1 rfl (lk1 rfl (lk1 rfl (lk1 rfl lk0)))) (ih_L185_2_2 _ (by omega) x11 (by omega) (by omega) (fun j hj e => by by_cases q : j = v3.toInt.toNat; (· subst q; have w1 := o_J_of fl8; have w3 := hp_1 v3.toInt.toNat (by omega); rw [show 0 + v3.toInt.toNat = x6.toInt.toNat from by omega, fl7] at w3; exact lax9 (by omega) (by rw [w3.1, ← w1, q3, e])); (· exact hbL185_2_22 j (by omega) e)) rfl)
      · skip
        refine PW.iload_n q_185_23 rfl ?_
        refine PW.rI q_185_24 rfl (by decide) (by decide) ?_
        exact hK v3 (by omega) (by omega) (by rw [k_fd_hit (i := v3.toInt.toNat) (fun j hj => hbL185_2_22 j (by omega)) (by have w1 := o_J_of fl8; have w3 := hp_1 v3.toInt.toNat (by omega); rw [show 0 + v3.toInt.toNat = x6.toInt.toNat from by omega, fl7] at w3; exact k_wi_inj (w3.2) q4 (by rw [← w3.1, lcx9 (by omega), ← w1, q3])) (by omega)]; omega)
  exact PW.lvS (lk1 rfl (lk1 rfl (lk1 rfl (lk1 rfl lk0)))) (L185_2_2 _ c1 (by omega) (by omega) (fun j hj => by omega) rfl)
theorem c_X12_looksAt_vk0 (V : pM → Prop) (hV : Stab V) (G : pG) (Kr : pK) (M : pM) (I : Iv V M) (a1 : Int32) (a2 : Int32) (hl_a1 : 0 ≤ a1.toInt) (hh_a1 : a1.toInt ≤ 0) (hl_a2 : 0 ≤ a2.toInt) (hh_a2 : a2.toInt ≤ 6) (y : k_X) (i : Nat) (f : Nat → Int) (m : Int) (hp_0 : k_ra y M i) (hp_1 : r_nm M f m) (hp_2 : a2.toInt = m) (hK : ∀ (x : Int32) (M1 : pM), Iv V M1 → Fr [40] M M1 → 0 ≤ x.toInt → x.toInt ≤ 1 → (gKl [15, 16, 18] M M1 ∧ ((x.toInt = 0 ∧ k_ni y i = 0 ∧ o_i (M1 294) 15 = 1 ∧ o_i (M1 294) 16 = kP y i) ∨ (x.toInt = 0 ∧ k_ni y i = 1 ∧ k_fd f (kV y i) m.toNat = -1 ∧ o_i (M1 294) 15 = 3 ∧ o_i (M1 294) 16 = kP y i) ∨ (x.toInt = 1 ∧ k_ni y i = 1 ∧ kK y i = 2 ∧ o_i (M1 294) 18 = k_fd f (kV y i) m.toNat ∧ k_fd f (kV y i) m.toNat ≠ -1 ∧ k_ra y M1 i ∧ o_i (M1 294) 15 = o_i (M 294) 15))) → Kr.1 (some (.int x)) 311 M1) : PW G false 1 187 (p_mc 187) (p_msl 187) Kr 0 (lv_args 0 [.ref 294, .int a1, .int a2]) [] 311 M 0 0 := by
  have F : Fr [40] M M := Fr.refl
  refine PW.aload_n q_187_0 rfl ?_
  refine PW.cV (as := []) (rest := []) q_187_1 t_mv_187_187 kd_294 I.1 (by decide) rfl (by decide) rfl rfl (Nat.le_of_ble_eq_true rfl) (Nat.le_of_ble_eq_true rfl) (by decide) (by decide) ?_
  refine PW.up (by decide) (c_X12_isName_vk (V) (hV) G _ M I _ _ hp_0 fun x2  hx2 kx2 PM1 => ?_)
  rcases PM1 with ⟨PaM1, PbM1⟩ | ⟨PaM1, PbM1, PcM1⟩
  · skip
    refine PW.jz_ne q_187_4 rfl (fun h3 => False.elim (by omega)) (fun h3 => ?_)
    refine PW.aload_n q_187_7 rfl ?_
    refine PW.cI q_187_8 (by decide) fun c4 hc4 => ?_
    refine PW.cV (as := [_]) (rest := []) q_187_9 t_mv_187_170 kd_294 I.1 (by decide) rfl (by decide) rfl rfl (Nat.le_of_ble_eq_true rfl) (Nat.le_of_ble_eq_true rfl) (by decide) (by decide) ?_
    refine PW.up (by decide) (c_X12_bad_vk (V) (hV) G _ M I c4 _ _ hp_0 fun x6 M5 IM5 GM5 hx6 kx6 PM5 => ?_)
    have FM5 := Fr.trans F GM5 (rfl)
    rcases PM5 with ⟨QM5, ⟨PfM5, PgM5⟩⟩
    refine PW.rZ q_187_12 rfl (by omega) (by omega) (by decide) (by decide) ?_
    exact hK x6 M5 IM5 FM5 (by omega) (by omega) ⟨(gKl.refl.tr QM5 rfl), (Or.inl ⟨by omega, by omega, by omega, by omega⟩)⟩
  · skip
    refine PW.jz_ne q_187_4 rfl (fun h7 => ?_) (fun h7 => False.elim (by omega))
    refine PW.aload_n q_187_13 rfl ?_
    refine PW.aload_n q_187_14 rfl ?_
    refine PW.iload_n q_187_15 rfl ?_
    refine PW.iload_n q_187_16 rfl ?_
    refine PW.cV (as := [_, _]) (rest := [_]) q_187_17 t_mv_187_191 kd_294 I.1 (by decide) rfl (by decide) rfl rfl (Nat.le_of_ble_eq_true rfl) (Nat.le_of_ble_eq_true rfl) (by decide) (by decide) ?_
    refine PW.up (by decide) (c_X12_find_vk0 (V) (hV) G _ M I a1 a2 (by omega) (by omega) (by omega) (by omega) _ _ f m hp_0 hp_1.2.2.2 (by omega) (by omega) fun x9  hx9 kx9 PM8 => ?_)
    refine PW.pI q_187_20 (Or.inl t_ft_187_180) gF_40_18 gP_40_18 kd_294 hV I (by decide) rfl (n_lo _) (n_hi _) fun M10 IM10 fM10 UM10 => ?_
    have FM10 := Fr.pu F UM10.1 kd_294 (rfl : List.contains [40] 40 = true)
    refine PW.aload_n q_187_23 rfl ?_
    refine PW.gE q_187_24 (Or.inl t_ft_187_180) gF_40_18 kd_294 IM10.1 (by decide) fM10 ?_
    refine PW.jz_ge q_187_27 rfl (fun h11 => ?_) (fun h11 => ?_)
    · skip
      refine PW.cI q_187_38 (by decide) fun c12 hc12 => ?_
      refine PW.goto q_187_39 rfl ?_
      refine PW.rZ q_187_43 rfl (by omega) (by omega) (by decide) (by decide) ?_
      exact hK c12 M10 IM10 FM10 (by omega) (by omega) ⟨(gKl.refl.put UM10 rfl), (Or.inr (Or.inr ⟨by omega, by omega, by omega, by have w := (o_i_of fM10); omega, by omega, (hp_0.U UM10 rfl), (UM10.i (c := 294) (k := 15) (Or.inr (by decide)))⟩))⟩
    · skip
      refine PW.aload_n q_187_30 rfl ?_
      refine PW.cI q_187_31 (by decide) fun c13 hc13 => ?_
      refine PW.cV (as := [_]) (rest := []) q_187_32 t_mv_187_170 kd_294 IM10.1 (by decide) rfl (by decide) rfl rfl (Nat.le_of_ble_eq_true rfl) (Nat.le_of_ble_eq_true rfl) (by decide) (by decide) ?_
      refine PW.up (by decide) (c_X12_bad_vk (V) (hV) G _ M10 IM10 c13 _ _ (hp_0.U UM10 rfl) fun x15 M14 IM14 GM14 hx15 kx15 PM14 => ?_)
      have FM14 := Fr.trans FM10 GM14 (rfl)
      rcases PM14 with ⟨QM14, ⟨PfM14, PgM14⟩⟩
      refine PW.jz_eq q_187_35 rfl (fun h16 => ?_) (fun h16 => False.elim (by omega))
      refine PW.cI q_187_42 (by decide) fun c17 hc17 => ?_
      refine PW.rZ q_187_43 rfl (by omega) (by omega) (by decide) (by decide) ?_
      exact hK c17 M14 IM14 FM14 (by omega) (by omega) ⟨((gKl.refl.put UM10 rfl).tr QM14 rfl), (Or.inr (Or.inl ⟨by omega, by omega, by omega, by omega, by omega⟩))⟩
theorem c_X12_code_vs (G : pG) (Kr : pK) (M : pM) (I : Iv gTT M) (a1 : Int32) (a2 : Int32) (a3 : Int32) (hp_0 : o_i (M 294) 33 ≤ 39) (hK : ∀ (M1 : pM), Iv gTT M1 → Fr [40, 44] M M1 → (gKl [33] M M1 ∧ o_i (M1 294) 33 = o_i (M 294) 33 + 1 ∧ o_i (M1 294) 35 = o_i (M 294) 35 ∧ o_i (M1 294) 37 = o_i (M 294) 37 ∧ o_i (M1 294) 34 = o_i (M 294) 34 ∧ o_i (M1 294) 4 = o_i (M 294) 4 ∧ o_i (M1 294) 11 = o_i (M 294) 11 ∧ gce (o_a (M 298)) (o_a (M1 298)) (o_i (M 294) 33) a1 a3) → Kr.1 none 311 M1) : PW G false 0 261 (p_mc 261) (p_msl 261) Kr 0 (lv_args 0 [.ref 294, .int a1, .int a2, .int a3]) [] 311 M 0 0 := by
  have F : Fr [40, 44] M M := Fr.refl
  refine PW.aload_n q_261_0 rfl ?_
  refine PW.gR 298 q_261_1 (Or.inl t_ft_261_40) gF_40_8 kd_294 I.1 (by decide) rfl ?_
  refine PW.cI q_261_4 (by decide) fun c1 hc1 => ?_
  refine PW.aload_n q_261_5 rfl ?_
  refine PW.gI q_261_6 (Or.inl t_ft_261_382) gF_40_33 kd_294 I.1 (by decide) fun x2 fx2 hx2 kx2 => ?_
  have trx2 := o_i_of fx2
  refine PW.mulN q_261_9 (3) (by omega) x2 (fun h => n_eq.mpr (by omega)) (fun h => n_eq.mpr (by omega)) (by omega) (by omega) fun x3 hx3 => ?_
  refine PW.iload_n q_261_10 rfl ?_
  refine PW.wT q_261_11 gA_44 kd_298 I (by decide) rfl gC_44_0_120 (by decide) (by omega) (by omega) (n_lo _) (n_hi _) fun M4 IM4 fM4 UM4 => ?_
  have FM4 := Fr.pu F UM4.1 kd_298 (rfl : List.contains [40, 44] 44 = true)
  have tr5 : o_i (M4 294) 33 = o_i (M 294) 33 := by rw [UM4.1 294 (g_ne kd_294 kd_298 (by decide))]
  have tr6 : o_i (M4 294) 35 = o_i (M 294) 35 := by rw [UM4.1 294 (g_ne kd_294 kd_298 (by decide))]
  have tr7 : o_i (M4 294) 37 = o_i (M 294) 37 := by rw [UM4.1 294 (g_ne kd_294 kd_298 (by decide))]
  have tr8 : o_i (M4 294) 34 = o_i (M 294) 34 := by rw [UM4.1 294 (g_ne kd_294 kd_298 (by decide))]
  have tr9 : o_i (M4 294) 4 = o_i (M 294) 4 := by rw [UM4.1 294 (g_ne kd_294 kd_298 (by decide))]
  have tr10 : o_i (M4 294) 11 = o_i (M 294) 11 := by rw [UM4.1 294 (g_ne kd_294 kd_298 (by decide))]
  have tr11 : o_i (M4 294) 36 = o_i (M 294) 36 := by rw [UM4.1 294 (g_ne kd_294 kd_298 (by decide))]
  refine PW.aload_n q_261_12 rfl ?_
  refine PW.gR 298 q_261_13 (Or.inl t_ft_261_40) gF_40_8 kd_294 IM4.1 (by decide) rfl ?_
  refine PW.cI q_261_16 (by decide) fun c12 hc12 => ?_
  refine PW.aload_n q_261_17 rfl ?_
  refine PW.gE q_261_18 (Or.inl t_ft_261_382) gF_40_33 kd_294 IM4.1 (by decide) ((congrArg (fun e => o_f e 33) (UM4.1 _ (g_ne kd_294 kd_298 (by decide)))).trans fx2) ?_
  have tr13 := o_i_of ((congrArg (fun e => o_f e 33) (UM4.1 _ (g_ne kd_294 kd_298 (by decide)))).trans fx2)
  refine PW.mulN q_261_21 (3) (by omega) x2 (fun h => n_eq.mpr (by omega)) (fun h => n_eq.mpr (by omega)) (by omega) (by omega) fun x14 hx14 => ?_
  refine PW.cI q_261_22 (by decide) fun c15 hc15 => ?_
  refine PW.addN q_261_23 (by omega) (by omega) fun x16 hx16 => ?_
  refine PW.iload_n q_261_24 rfl ?_
  refine PW.wT q_261_25 gA_44 kd_298 IM4 (by decide) rfl gC_44_1_121 (by decide) (by omega) (by omega) (n_lo _) (n_hi _) fun M17 IM17 fM17 UM17 => ?_
  have FM17 := Fr.pu FM4 UM17.1 kd_298 (rfl : List.contains [40, 44] 44 = true)
  have tr18 : o_i (M17 294) 33 = o_i (M4 294) 33 := by rw [UM17.1 294 (g_ne kd_294 kd_298 (by decide))]
  have tr19 : o_i (M17 294) 35 = o_i (M4 294) 35 := by rw [UM17.1 294 (g_ne kd_294 kd_298 (by decide))]
  have tr20 : o_i (M17 294) 37 = o_i (M4 294) 37 := by rw [UM17.1 294 (g_ne kd_294 kd_298 (by decide))]
  have tr21 : o_i (M17 294) 34 = o_i (M4 294) 34 := by rw [UM17.1 294 (g_ne kd_294 kd_298 (by decide))]
  have tr22 : o_i (M17 294) 4 = o_i (M4 294) 4 := by rw [UM17.1 294 (g_ne kd_294 kd_298 (by decide))]
  have tr23 : o_i (M17 294) 11 = o_i (M4 294) 11 := by rw [UM17.1 294 (g_ne kd_294 kd_298 (by decide))]
  have tr24 : o_i (M17 294) 36 = o_i (M4 294) 36 := by rw [UM17.1 294 (g_ne kd_294 kd_298 (by decide))]
  refine PW.aload_n q_261_26 rfl ?_
  refine PW.gR 298 q_261_27 (Or.inl t_ft_261_40) gF_40_8 kd_294 IM17.1 (by decide) rfl ?_
  refine PW.cI q_261_30 (by decide) fun c25 hc25 => ?_
  refine PW.aload_n q_261_31 rfl ?_
  refine PW.gE q_261_32 (Or.inl t_ft_261_382) gF_40_33 kd_294 IM17.1 (by decide) ((congrArg (fun e => o_f e 33) (UM17.1 _ (g_ne kd_294 kd_298 (by decide)))).trans ((congrArg (fun e => o_f e 33) (UM4.1 _ (g_ne kd_294 kd_298 (by decide)))).trans fx2)) ?_
  have tr26 := o_i_of ((congrArg (fun e => o_f e 33) (UM17.1 _ (g_ne kd_294 kd_298 (by decide)))).trans ((congrArg (fun e => o_f e 33) (UM4.1 _ (g_ne kd_294 kd_298 (by decide)))).trans fx2))
  refine PW.mulN q_261_35 (3) (by omega) x2 (fun h => n_eq.mpr (by omega)) (fun h => n_eq.mpr (by omega)) (by omega) (by omega) fun x27 hx27 => ?_
  refine PW.cI q_261_36 (by decide) fun c28 hc28 => ?_
  refine PW.addN q_261_37 (by omega) (by omega) fun x29 hx29 => ?_
  refine PW.iload_n q_261_38 rfl ?_
  refine PW.wT q_261_39 gA_44 kd_298 IM17 (by decide) rfl gC_44_2_122 (by decide) (by omega) (by omega) (n_lo _) (n_hi _) fun M30 IM30 fM30 UM30 => ?_
  have FM30 := Fr.pu FM17 UM30.1 kd_298 (rfl : List.contains [40, 44] 44 = true)
  have tr31 : o_i (M30 294) 33 = o_i (M17 294) 33 := by rw [UM30.1 294 (g_ne kd_294 kd_298 (by decide))]
  have tr32 : o_i (M30 294) 35 = o_i (M17 294) 35 := by rw [UM30.1 294 (g_ne kd_294 kd_298 (by decide))]
  have tr33 : o_i (M30 294) 37 = o_i (M17 294) 37 := by rw [UM30.1 294 (g_ne kd_294 kd_298 (by decide))]
  have tr34 : o_i (M30 294) 34 = o_i (M17 294) 34 := by rw [UM30.1 294 (g_ne kd_294 kd_298 (by decide))]
  have tr35 : o_i (M30 294) 4 = o_i (M17 294) 4 := by rw [UM30.1 294 (g_ne kd_294 kd_298 (by decide))]
  have tr36 : o_i (M30 294) 11 = o_i (M17 294) 11 := by rw [UM30.1 294 (g_ne kd_294 kd_298 (by decide))]
  have tr37 : o_i (M30 294) 36 = o_i (M17 294) 36 := by rw [UM30.1 294 (g_ne kd_294 kd_298 (by decide))]
  refine PW.aload_n q_261_40 rfl ?_
  refine PW.dup q_261_41 rfl ?_
  refine PW.gE q_261_42 (Or.inl t_ft_261_382) gF_40_33 kd_294 IM30.1 (by decide) ((congrArg (fun e => o_f e 33) (UM30.1 _ (g_ne kd_294 kd_298 (by decide)))).trans ((congrArg (fun e => o_f e 33) (UM17.1 _ (g_ne kd_294 kd_298 (by decide)))).trans ((congrArg (fun e => o_f e 33) (UM4.1 _ (g_ne kd_294 kd_298 (by decide)))).trans fx2))) ?_
  have tr38 := o_i_of ((congrArg (fun e => o_f e 33) (UM30.1 _ (g_ne kd_294 kd_298 (by decide)))).trans ((congrArg (fun e => o_f e 33) (UM17.1 _ (g_ne kd_294 kd_298 (by decide)))).trans ((congrArg (fun e => o_f e 33) (UM4.1 _ (g_ne kd_294 kd_298 (by decide)))).trans fx2)))
  refine PW.cI q_261_45 (by decide) fun c39 hc39 => ?_
  refine PW.addN q_261_46 (by omega) (by omega) fun x40 hx40 => ?_
  refine PW.pT q_261_47 (Or.inl t_ft_261_382) gF_40_33 gP_40_33 kd_294 IM30 (by decide) rfl (by omega) (by omega) fun M41 IM41 fM41 UM41 => ?_
  have FM41 := Fr.pu FM30 UM41.1 kd_294 (rfl : List.contains [40, 44] 40 = true)
  have tr42 := o_i_of fM41
  have tr43 := UM41.i (c := 294) (k := 35) (Or.inr (by decide))
  have tr44 := UM41.i (c := 294) (k := 37) (Or.inr (by decide))
  have tr45 := UM41.i (c := 294) (k := 34) (Or.inr (by decide))
  have tr46 := UM41.i (c := 294) (k := 4) (Or.inr (by decide))
  have tr47 := UM41.i (c := 294) (k := 11) (Or.inr (by decide))
  have tr48 := UM41.i (c := 294) (k := 36) (Or.inr (by decide))
  refine PW.vret q_261_50 rfl (by decide) (by decide) ?_
  exact hK M41 IM41 FM41 ⟨((((gKl.refl.cg (UM4.1 294 (by decide))).cg (UM17.1 294 (by decide))).cg (UM30.1 294 (by decide))).put UM41 rfl), by omega, by omega, by omega, by omega, by omega, by omega, fun z hz => ((congrFun (congrArg o_a (UM41.1 298 (by decide))) z).trans ((UM30.2 z (by omega)).trans ((UM17.2 z (by omega)).trans (UM4.2 z (by omega))))), by rw [show (3 * o_i (M 294) 33).toNat = x3.toInt.toNat from by omega, ((congrFun (congrArg o_a (UM41.1 298 (by decide))) x3.toInt.toNat).trans ((UM30.2 x3.toInt.toNat (by omega)).trans (UM17.2 x3.toInt.toNat (by omega)))), fM4], by rw [show (3 * o_i (M 294) 33 + 2).toNat = x29.toInt.toNat from by omega, (congrFun (congrArg o_a (UM41.1 298 (by decide))) x29.toInt.toNat), fM30]⟩
theorem c_X12_nots_vs (G : pG) (Kr : pK) (M : pM) (I : Iv gTT M) (hp_0 : gSm M) (hp_1 : o_i (M 294) 37 = 1) (hp_2 : r_Q M) (hK : ∀ (M1 : pM), Iv gTT M1 → Fr [40, 44] M M1 → (gSm M1 ∧ o_i (M1 294) 37 = 1 ∧ o_i (M1 294) 34 = o_i (M 294) 34 ∧ o_i (M1 294) 4 = o_i (M 294) 4 ∧ o_i (M1 294) 11 = o_i (M 294) 11 ∧ gKl [33, 35, 36] M M1 ∧ r_Q M1 ∧ r_T M1 ∧ r_P M1 = s_dn (r_P M)) → Kr.1 none 311 M1) : PW G false 1 263 (p_mc 263) (p_msl 263) Kr 0 (lv_args 0 [.ref 294]) [] 311 M 0 0 := by
  have F : Fr [40, 44] M M := Fr.refl
  have L263_0_1 : ∀ (n : Nat) (ML263_0_1 : pM), Iv (gTT) ML263_0_1 → Fr [40, 44] M ML263_0_1 → gSm ML263_0_1 → o_i (ML263_0_1 294) 37 = 1 → o_i (ML263_0_1 294) 34 = o_i (M 294) 34 → o_i (ML263_0_1 294) 4 = o_i (M 294) 4 → o_i (ML263_0_1 294) 11 = o_i (M 294) 11 → gKl [33, 35, 36] M ML263_0_1 → r_Q ML263_0_1 → s_dn (r_P ML263_0_1) = s_dn (r_P M) → (o_i (ML263_0_1 294) 35).toNat = n → PW G false 1 263 (p_mc 263) (p_msl 263) Kr 0 [(0, .ref 294)] [] 311 ML263_0_1 0 0 := by
    intro n
    induction n using Nat.strongRecOn with
    | ind n ih_L263_0_1 =>
    intro ML263_0_1  IML263_0_1 FML263_0_1 hbL263_0_10 hbL263_0_11 hbL263_0_12 hbL263_0_13 hbL263_0_14 hbL263_0_15 hbL263_0_16 hbL263_0_17 hmL263_0_1
    refine PW.aload_n q_263_0 rfl ?_
    have hs2 : o_i (ML263_0_1 294) 33 + o_i (ML263_0_1 294) 35 + o_i (ML263_0_1 294) 37 ≤ 2 * o_i (ML263_0_1 294) 34 := hbL263_0_10.2.2
    have ho2 := g_on20 IML263_0_1.1
    have hc2 := g_co IML263_0_1.1
    have dl3 := r_Q.dl hbL263_0_16 (by omega)
    refine PW.gI q_263_1 (Or.inl t_ft_263_385) gF_40_35 kd_294 IML263_0_1.1 (by decide) fun x4 fx4 hx4 kx4 => ?_
    have trx4 := o_i_of fx4
    refine PW.jz_le q_263_4 rfl (fun h5 => ?_) (fun h5 => ?_)
    · skip
      refine PW.vret q_263_54 rfl (by decide) (by decide) ?_
      have rt : r_T ML263_0_1 := r_T.of (by omega)
      exact hK ML263_0_1 IML263_0_1 FML263_0_1 ⟨hbL263_0_10, by omega, by omega, by omega, by omega, hbL263_0_15, hbL263_0_16, rt, (r_Q.dn hbL263_0_16 rt).symm.trans hbL263_0_17⟩
    · skip
      refine PW.aload_n q_263_7 rfl ?_
      refine PW.gR 305 q_263_8 (Or.inl t_ft_263_62) gF_40_32 kd_294 IML263_0_1.1 (by decide) rfl ?_
      refine PW.aload_n q_263_11 rfl ?_
      refine PW.gE q_263_12 (Or.inl t_ft_263_385) gF_40_35 kd_294 IML263_0_1.1 (by decide) fx4 ?_
      have tr6 := o_i_of fx4
      refine PW.cI q_263_15 (by decide) fun c7 hc7 => ?_
      refine PW.subN q_263_16 (by omega) (by omega) fun x8 hx8 => ?_
      refine PW.aH q_263_17 gA_51 kd_305 IML263_0_1.1 (by decide) (by omega) (by omega) fun x9 fx9 => ?_
      have tk10 : (o_a (ML263_0_1 305) (o_i (ML263_0_1 294) 35 - 1).toNat).toInt = x9.toInt := by rw [show (o_i (ML263_0_1 294) 35 - 1).toNat = x8.toInt.toNat from by omega, fx9]
      refine PW.cB q_263_18 (by decide) fun c11 hc11 => ?_
      refine PW.jc_ne q_263_20 rfl (fun h12 => ?_) (fun h12 => ?_)
      · skip
        refine PW.vret q_263_54 rfl (by decide) (by decide) ?_
        have rt : r_T ML263_0_1 := r_T.of (by omega)
        exact hK ML263_0_1 IML263_0_1 FML263_0_1 ⟨hbL263_0_10, by omega, by omega, by omega, by omega, hbL263_0_15, hbL263_0_16, rt, (r_Q.dn hbL263_0_16 rt).symm.trans hbL263_0_17⟩
      · skip
        refine PW.aload_n q_263_23 rfl ?_
        refine PW.dup q_263_24 rfl ?_
        refine PW.gE q_263_25 (Or.inl t_ft_263_385) gF_40_35 kd_294 IML263_0_1.1 (by decide) fx4 ?_
        have tr13 := o_i_of fx4
        refine PW.cI q_263_28 (by decide) fun c14 hc14 => ?_
        refine PW.subN q_263_29 (by omega) (by omega) fun x15 hx15 => ?_
        refine PW.pT q_263_30 (Or.inl t_ft_263_385) gF_40_35 gP_40_35 kd_294 IML263_0_1 (by decide) rfl (by omega) (by omega) fun M16 IM16 fM16 UM16 => ?_
        have FM16 := Fr.pu FML263_0_1 UM16.1 kd_294 (rfl : List.contains [40, 44] 40 = true)
        have tr17 := UM16.i (c := 294) (k := 33) (Or.inr (by decide))
        have tr18 := o_i_of fM16
        have tr19 := UM16.i (c := 294) (k := 37) (Or.inr (by decide))
        have tr20 := UM16.i (c := 294) (k := 34) (Or.inr (by decide))
        have tr21 := UM16.i (c := 294) (k := 4) (Or.inr (by decide))
        have tr22 := UM16.i (c := 294) (k := 11) (Or.inr (by decide))
        have tr23 := UM16.i (c := 294) (k := 36) (Or.inr (by decide))
        refine PW.aload_n q_263_33 rfl ?_
        refine PW.dup q_263_34 rfl ?_
        refine PW.gI q_263_35 (Or.inl t_ft_263_392) gF_40_36 kd_294 IM16.1 (by decide) fun x24 fx24 hx24 kx24 => ?_
        have trx24 := o_i_of fx24
        clear hx24 kx24
        refine PW.cI q_263_38 (by decide) fun c25 hc25 => ?_
        refine PW.subN q_263_39 (by omega) (by omega) fun x26 hx26 => ?_
        refine PW.pI q_263_40 (Or.inl t_ft_263_392) gF_40_36 gP_40_36 kd_294 Stab0 IM16 (by decide) rfl (n_lo _) (n_hi _) fun M27 IM27 fM27 UM27 => ?_
        have FM27 := Fr.pu FM16 UM27.1 kd_294 (rfl : List.contains [40, 44] 40 = true)
        have tr28 := UM27.i (c := 294) (k := 33) (Or.inr (by decide))
        have tr29 := UM27.i (c := 294) (k := 35) (Or.inr (by decide))
        have tr30 := UM27.i (c := 294) (k := 37) (Or.inr (by decide))
        have tr31 := UM27.i (c := 294) (k := 34) (Or.inr (by decide))
        have tr32 := UM27.i (c := 294) (k := 4) (Or.inr (by decide))
        have tr33 := UM27.i (c := 294) (k := 11) (Or.inr (by decide))
        have tr34 := o_i_of fM27
        refine PW.aload_n q_263_43 rfl ?_
        refine PW.cB q_263_44 (by decide) fun c35 hc35 => ?_
        refine PW.cI q_263_46 (by decide) fun c36 hc36 => ?_
        refine PW.cI q_263_47 (by decide) fun c37 hc37 => ?_
        refine PW.cV (as := [_, _, _]) (rest := []) q_263_48 t_mv_263_388 kd_294 IM27.1 (by decide) rfl (by decide) rfl rfl (Nat.le_of_ble_eq_true rfl) (Nat.le_of_ble_eq_true rfl) (by decide) (by decide) ?_
        refine PW.up (by decide) (c_X12_code_vs G _ M27 IM27 c35 c36 c37 (by omega) fun M38 IM38 GM38 PM38 => ?_)
        have FM38 := Fr.trans FM27 GM38 (rfl)
        obtain ⟨QM38, KaM38, KbM38, KcM38, KeM38, KfM38, KhM38, KgM38⟩ := PM38
        refine PW.goto q_263_51 rfl ?_
        have w39 : gSn (o_i (ML263_0_1 294) 33) (o_i (ML263_0_1 294) 35) 1 (o_i (ML263_0_1 294) 34) (o_a (ML263_0_1 298)) (o_a (ML263_0_1 305)) := by have q := hbL263_0_10; unfold gSm at q; rw [show o_i (ML263_0_1 294) 37 = 1 from by omega] at q; exact q
        have kg40 := KgM38
        rw [((congrArg o_a (UM27.1 298 (by decide))).trans (congrArg o_a (UM16.1 298 (by decide)))), show o_i (M27 294) 33 = o_i (ML263_0_1 294) 33 from by omega] at kg40
        have d36 := QM38.i 36 rfl
        have rq := r_Q.pn hbL263_0_16 (((congrArg o_a (Fr.at GM38 kd_305 rfl)).trans ((congrArg o_a (UM27.1 305 (by decide))).trans (congrArg o_a (UM16.1 305 (by decide)))))) (by omega) (by omega) (by omega) (by omega)
        refine PW.lvS (lk1 rfl lk0) (ih_L263_0_1 _ ?_ M38  IM38 FM38 (gSm.of (gSn.not w39 (by omega) (by omega) (by omega) kg40 (by omega)) (by omega) (by omega) (by omega) (by omega) rfl ((congrArg o_a (Fr.at GM38 kd_305 rfl)).trans ((congrArg o_a (UM27.1 305 (by decide))).trans (congrArg o_a (UM16.1 305 (by decide)))))) (by omega) (by omega) (by omega) (by omega) (((hbL263_0_15.put UM16 rfl).put UM27 rfl).tr QM38 rfl) rq.1 (by have w := hbL263_0_17; rw [rq.2] at w; exact w) rfl)
        omega
  exact PW.lvS (lk1 rfl lk0) (L263_0_1 _ M  I F hp_0 hp_1 rfl rfl rfl gKl.refl hp_2 rfl rfl)
theorem c_X12_joins_vs (G : pG) (Kr : pK) (M : pM) (I : Iv gTT M) (a1 : Int32) (hp_0 : gSm M) (hp_1 : o_i (M 294) 37 = 1) (hp_2 : r_Q M) (hp_3 : r_T M) (hK : ∀ (M1 : pM), Iv gTT M1 → Fr [40, 44] M M1 → (gSm M1 ∧ o_i (M1 294) 37 = 1 ∧ o_i (M1 294) 34 = o_i (M 294) 34 ∧ o_i (M1 294) 4 = o_i (M 294) 4 ∧ o_i (M1 294) 11 = o_i (M 294) 11 ∧ (o_i (M1 294) 35 = 0 ∨ ((o_a (M1 305) (o_i (M1 294) 35 - 1).toNat).toInt ≠ 21 ∧ (a1.toInt ≠ 22 ∨ (o_a (M1 305) (o_i (M1 294) 35 - 1).toNat).toInt ≠ 22))) ∧ gKl [33, 35] M M1 ∧ r_Q M1 ∧ r_P M1 = r_P M ∧ r_T M1) → Kr.1 none 311 M1) : PW G false 1 262 (p_mc 262) (p_msl 262) Kr 0 (lv_args 0 [.ref 294, .int a1]) [] 311 M 0 0 := by
  have F : Fr [40, 44] M M := Fr.refl
  have L262_0_1 : ∀ (n : Nat) (ML262_0_1 : pM), Iv (gTT) ML262_0_1 → Fr [40, 44] M ML262_0_1 → gSm ML262_0_1 → o_i (ML262_0_1 294) 37 = 1 → o_i (ML262_0_1 294) 34 = o_i (M 294) 34 → o_i (ML262_0_1 294) 4 = o_i (M 294) 4 → o_i (ML262_0_1 294) 11 = o_i (M 294) 11 → gKl [33, 35] M ML262_0_1 → r_Q ML262_0_1 → r_P ML262_0_1 = r_P M → r_T ML262_0_1 → (o_i (ML262_0_1 294) 35).toNat = n → PW G false 1 262 (p_mc 262) (p_msl 262) Kr 0 [(0, .ref 294), (1, .int a1)] [] 311 ML262_0_1 0 0 := by
    intro n
    induction n using Nat.strongRecOn with
    | ind n ih_L262_0_1 =>
    intro ML262_0_1  IML262_0_1 FML262_0_1 hbL262_0_10 hbL262_0_11 hbL262_0_12 hbL262_0_13 hbL262_0_14 hbL262_0_15 hbL262_0_16 hbL262_0_17 hbL262_0_18 hmL262_0_1
    refine PW.aload_n q_262_0 rfl ?_
    have hs2 : o_i (ML262_0_1 294) 33 + o_i (ML262_0_1 294) 35 + o_i (ML262_0_1 294) 37 ≤ 2 * o_i (ML262_0_1 294) 34 := hbL262_0_10.2.2
    have ho2 := g_on20 IML262_0_1.1
    have hc2 := g_co IML262_0_1.1
    refine PW.gI q_262_1 (Or.inl t_ft_262_385) gF_40_35 kd_294 IML262_0_1.1 (by decide) fun x3 fx3 hx3 kx3 => ?_
    have trx3 := o_i_of fx3
    refine PW.jz_le q_262_4 rfl (fun h4 => ?_) (fun h4 => ?_)
    · skip
      refine PW.vret q_262_73 rfl (by decide) (by decide) ?_
      exact hK ML262_0_1 IML262_0_1 FML262_0_1 ⟨hbL262_0_10, by omega, by omega, by omega, by omega, by omega, hbL262_0_15, hbL262_0_16, hbL262_0_17, hbL262_0_18⟩
    · skip
      refine PW.aload_n q_262_7 rfl ?_
      refine PW.gR 305 q_262_8 (Or.inl t_ft_262_62) gF_40_32 kd_294 IML262_0_1.1 (by decide) rfl ?_
      refine PW.aload_n q_262_11 rfl ?_
      refine PW.gE q_262_12 (Or.inl t_ft_262_385) gF_40_35 kd_294 IML262_0_1.1 (by decide) fx3 ?_
      have tr5 := o_i_of fx3
      refine PW.cI q_262_15 (by decide) fun c6 hc6 => ?_
      refine PW.subN q_262_16 (by omega) (by omega) fun x7 hx7 => ?_
      refine PW.aH q_262_17 gA_51 kd_305 IML262_0_1.1 (by decide) (by omega) (by omega) fun x8 fx8 => ?_
      have tk9 : (o_a (ML262_0_1 305) (o_i (ML262_0_1 294) 35 - 1).toNat).toInt = x8.toInt := by rw [show (o_i (ML262_0_1 294) 35 - 1).toNat = x7.toInt.toNat from by omega, fx8]
      refine PW.cB q_262_18 (by decide) fun c10 hc10 => ?_
      refine PW.jc_eq q_262_20 rfl (fun h11 => ?_) (fun h11 => ?_)
      · skip
        refine PW.aload_n q_262_45 rfl ?_
        refine PW.dup q_262_46 rfl ?_
        refine PW.gE q_262_47 (Or.inl t_ft_262_385) gF_40_35 kd_294 IML262_0_1.1 (by decide) fx3 ?_
        have tr12 := o_i_of fx3
        refine PW.cI q_262_50 (by decide) fun c13 hc13 => ?_
        refine PW.subN q_262_51 (by omega) (by omega) fun x14 hx14 => ?_
        refine PW.pT q_262_52 (Or.inl t_ft_262_385) gF_40_35 gP_40_35 kd_294 IML262_0_1 (by decide) rfl (by omega) (by omega) fun M15 IM15 fM15 UM15 => ?_
        have FM15 := Fr.pu FML262_0_1 UM15.1 kd_294 (rfl : List.contains [40, 44] 40 = true)
        have tr16 := UM15.i (c := 294) (k := 33) (Or.inr (by decide))
        have tr17 := o_i_of fM15
        have tr18 := UM15.i (c := 294) (k := 37) (Or.inr (by decide))
        have tr19 := UM15.i (c := 294) (k := 34) (Or.inr (by decide))
        have tr20 := UM15.i (c := 294) (k := 4) (Or.inr (by decide))
        have tr21 := UM15.i (c := 294) (k := 11) (Or.inr (by decide))
        have tr22 := UM15.i (c := 294) (k := 36) (Or.inr (by decide))
        refine PW.aload_n q_262_55 rfl ?_
        refine PW.aload_n q_262_56 rfl ?_
        refine PW.gR 305 q_262_57 (Or.inl t_ft_262_62) gF_40_32 kd_294 IM15.1 (by decide) rfl ?_
        refine PW.aload_n q_262_60 rfl ?_
        refine PW.gE q_262_61 (Or.inl t_ft_262_385) gF_40_35 kd_294 IM15.1 (by decide) fM15 ?_
        have tr23 := o_i_of fM15
        refine PW.aH q_262_64 gA_51 kd_305 IM15.1 (by decide) (by omega) (by omega) fun x24 fx24 => ?_
        have tz25 : (o_a (ML262_0_1 305) (o_i (ML262_0_1 294) 35 - 1).toNat).toInt = x24.toInt := by rw [show (o_i (ML262_0_1 294) 35 - 1).toNat = x14.toInt.toNat from by omega, ← (congrArg o_a (UM15.1 305 (by decide))), fx24]
        refine PW.cI q_262_65 (by decide) fun c26 hc26 => ?_
        refine PW.cI q_262_66 (by decide) fun c27 hc27 => ?_
        refine PW.cV (as := [_, _, _]) (rest := []) q_262_67 t_mv_262_388 kd_294 IM15.1 (by decide) rfl (by decide) rfl rfl (Nat.le_of_ble_eq_true rfl) (Nat.le_of_ble_eq_true rfl) (by decide) (by decide) ?_
        refine PW.up (by decide) (c_X12_code_vs G _ M15 IM15 x24 c26 c27 (by omega) fun M28 IM28 GM28 PM28 => ?_)
        have FM28 := Fr.trans FM15 GM28 (rfl)
        obtain ⟨QM28, KaM28, KbM28, KcM28, KeM28, KfM28, KhM28, KgM28⟩ := PM28
        refine PW.goto q_262_70 rfl ?_
        have w29 : gSn (o_i (ML262_0_1 294) 33) (o_i (ML262_0_1 294) 35) 1 (o_i (ML262_0_1 294) 34) (o_a (ML262_0_1 298)) (o_a (ML262_0_1 305)) := by have q := hbL262_0_10; unfold gSm at q; rw [show o_i (ML262_0_1 294) 37 = 1 from by omega] at q; exact q
        have kg30 := KgM28
        rw [(congrArg o_a (UM15.1 298 (by decide))), show o_i (M15 294) 33 = o_i (ML262_0_1 294) 33 from by omega] at kg30
        have d36 := QM28.i 36 rfl
        have rq := r_Q.pb hbL262_0_16 (((congrArg o_a (Fr.at GM28 kd_305 rfl)).trans (congrArg o_a (UM15.1 305 (by decide))))) (by omega) (by omega) (by omega) (by omega)
        refine PW.lvS (lk1 rfl (lk1 rfl lk0)) (ih_L262_0_1 _ ?_ M28  IM28 FM28 (gSm.of (gSn.join w29 (by omega) (by omega) (by rw [show (o_i (ML262_0_1 294) 35 - 1).toNat = x14.toInt.toNat from by omega, ← (congrArg o_a (UM15.1 305 (by decide))), fx24]) kg30 (by omega)) (by omega) (by omega) (by omega) (by omega) rfl ((congrArg o_a (Fr.at GM28 kd_305 rfl)).trans (congrArg o_a (UM15.1 305 (by decide))))) (by omega) (by omega) (by omega) (by omega) ((hbL262_0_15.put UM15 rfl).tr QM28 rfl) rq.1 (rq.2.1.trans hbL262_0_17) rq.2.2 rfl)
        omega
      · skip
        refine PW.aload_n q_262_23 rfl ?_
        refine PW.gR 305 q_262_24 (Or.inl t_ft_262_62) gF_40_32 kd_294 IML262_0_1.1 (by decide) rfl ?_
        refine PW.aload_n q_262_27 rfl ?_
        refine PW.gE q_262_28 (Or.inl t_ft_262_385) gF_40_35 kd_294 IML262_0_1.1 (by decide) fx3 ?_
        have tr31 := o_i_of fx3
        refine PW.cI q_262_31 (by decide) fun c32 hc32 => ?_
        refine PW.subN q_262_32 (by omega) (by omega) fun x33 hx33 => ?_
        refine PW.aH q_262_33 gA_51 kd_305 IML262_0_1.1 (by decide) (by omega) (by omega) fun x34 fx34 => ?_
        have tk35 : (o_a (ML262_0_1 305) (o_i (ML262_0_1 294) 35 - 1).toNat).toInt = x34.toInt := by rw [show (o_i (ML262_0_1 294) 35 - 1).toNat = x33.toInt.toNat from by omega, fx34]
        refine PW.cB q_262_34 (by decide) fun c36 hc36 => ?_
        refine PW.jc_ne q_262_36 rfl (fun h37 => ?_) (fun h37 => ?_)
        · skip
          refine PW.vret q_262_73 rfl (by decide) (by decide) ?_
          exact hK ML262_0_1 IML262_0_1 FML262_0_1 ⟨hbL262_0_10, by omega, by omega, by omega, by omega, by omega, hbL262_0_15, hbL262_0_16, hbL262_0_17, hbL262_0_18⟩
        · skip
          refine PW.iload_n q_262_39 rfl ?_
          refine PW.cB q_262_40 (by decide) fun c38 hc38 => ?_
          refine PW.jc_ne q_262_42 rfl (fun h39 => ?_) (fun h39 => ?_)
          · skip
            refine PW.vret q_262_73 rfl (by decide) (by decide) ?_
            exact hK ML262_0_1 IML262_0_1 FML262_0_1 ⟨hbL262_0_10, by omega, by omega, by omega, by omega, by omega, hbL262_0_15, hbL262_0_16, hbL262_0_17, hbL262_0_18⟩
          · skip
            refine PW.aload_n q_262_45 rfl ?_
            refine PW.dup q_262_46 rfl ?_
            refine PW.gE q_262_47 (Or.inl t_ft_262_385) gF_40_35 kd_294 IML262_0_1.1 (by decide) fx3 ?_
            have tr40 := o_i_of fx3
            refine PW.cI q_262_50 (by decide) fun c41 hc41 => ?_
            refine PW.subN q_262_51 (by omega) (by omega) fun x42 hx42 => ?_
            refine PW.pT q_262_52 (Or.inl t_ft_262_385) gF_40_35 gP_40_35 kd_294 IML262_0_1 (by decide) rfl (by omega) (by omega) fun M43 IM43 fM43 UM43 => ?_
            have FM43 := Fr.pu FML262_0_1 UM43.1 kd_294 (rfl : List.contains [40, 44] 40 = true)
            have tr44 := UM43.i (c := 294) (k := 33) (Or.inr (by decide))
            have tr45 := o_i_of fM43
            have tr46 := UM43.i (c := 294) (k := 37) (Or.inr (by decide))
            have tr47 := UM43.i (c := 294) (k := 34) (Or.inr (by decide))
            have tr48 := UM43.i (c := 294) (k := 4) (Or.inr (by decide))
            have tr49 := UM43.i (c := 294) (k := 11) (Or.inr (by decide))
            have tr50 := UM43.i (c := 294) (k := 36) (Or.inr (by decide))
            refine PW.aload_n q_262_55 rfl ?_
            refine PW.aload_n q_262_56 rfl ?_
            refine PW.gR 305 q_262_57 (Or.inl t_ft_262_62) gF_40_32 kd_294 IM43.1 (by decide) rfl ?_
            refine PW.aload_n q_262_60 rfl ?_
            refine PW.gE q_262_61 (Or.inl t_ft_262_385) gF_40_35 kd_294 IM43.1 (by decide) fM43 ?_
            have tr51 := o_i_of fM43
            refine PW.aH q_262_64 gA_51 kd_305 IM43.1 (by decide) (by omega) (by omega) fun x52 fx52 => ?_
            have tz53 : (o_a (ML262_0_1 305) (o_i (ML262_0_1 294) 35 - 1).toNat).toInt = x52.toInt := by rw [show (o_i (ML262_0_1 294) 35 - 1).toNat = x42.toInt.toNat from by omega, ← (congrArg o_a (UM43.1 305 (by decide))), fx52]
            refine PW.cI q_262_65 (by decide) fun c54 hc54 => ?_
            refine PW.cI q_262_66 (by decide) fun c55 hc55 => ?_
            refine PW.cV (as := [_, _, _]) (rest := []) q_262_67 t_mv_262_388 kd_294 IM43.1 (by decide) rfl (by decide) rfl rfl (Nat.le_of_ble_eq_true rfl) (Nat.le_of_ble_eq_true rfl) (by decide) (by decide) ?_
            refine PW.up (by decide) (c_X12_code_vs G _ M43 IM43 x52 c54 c55 (by omega) fun M56 IM56 GM56 PM56 => ?_)
            have FM56 := Fr.trans FM43 GM56 (rfl)
            obtain ⟨QM56, KaM56, KbM56, KcM56, KeM56, KfM56, KhM56, KgM56⟩ := PM56
            refine PW.goto q_262_70 rfl ?_
            have w57 : gSn (o_i (ML262_0_1 294) 33) (o_i (ML262_0_1 294) 35) 1 (o_i (ML262_0_1 294) 34) (o_a (ML262_0_1 298)) (o_a (ML262_0_1 305)) := by have q := hbL262_0_10; unfold gSm at q; rw [show o_i (ML262_0_1 294) 37 = 1 from by omega] at q; exact q
            have kg58 := KgM56
            rw [(congrArg o_a (UM43.1 298 (by decide))), show o_i (M43 294) 33 = o_i (ML262_0_1 294) 33 from by omega] at kg58
            have d36 := QM56.i 36 rfl
            have rq := r_Q.pb hbL262_0_16 (((congrArg o_a (Fr.at GM56 kd_305 rfl)).trans (congrArg o_a (UM43.1 305 (by decide))))) (by omega) (by omega) (by omega) (by omega)
            refine PW.lvS (lk1 rfl (lk1 rfl lk0)) (ih_L262_0_1 _ ?_ M56  IM56 FM56 (gSm.of (gSn.join w57 (by omega) (by omega) (by rw [show (o_i (ML262_0_1 294) 35 - 1).toNat = x42.toInt.toNat from by omega, ← (congrArg o_a (UM43.1 305 (by decide))), fx52]) kg58 (by omega)) (by omega) (by omega) (by omega) (by omega) rfl ((congrArg o_a (Fr.at GM56 kd_305 rfl)).trans (congrArg o_a (UM43.1 305 (by decide))))) (by omega) (by omega) (by omega) (by omega) ((hbL262_0_15.put UM43 rfl).tr QM56 rfl) rq.1 (rq.2.1.trans hbL262_0_17) rq.2.2 rfl)
            omega
  exact PW.lvS (lk1 rfl (lk1 rfl lk0)) (L262_0_1 _ M  I F hp_0 hp_1 rfl rfl rfl gKl.refl hp_2 rfl hp_3 rfl)
theorem c_X12_leafOf_vk (V : pM → Prop) (hV : Stab V) (G : pG) (Kr : pK) (M : pM) (I : Iv V M) (y : k_X) (i : Nat) (hp_0 : k_ra y M i) (hK : ∀ (x : Int32), -1 ≤ x.toInt → x.toInt ≤ 7 → ((kK y i = 2 ∧ 20 ≤ s_wn y i ∧ s_wn y i ≤ 27 ∧ x.toInt = (s_wn y i : Int) - 20) ∨ (x.toInt = -1 ∧ ¬ (kK y i = 2 ∧ 20 ≤ s_wn y i ∧ s_wn y i ≤ 27))) → Kr.1 (some (.int x)) 311 M) : PW G false 1 264 (p_mc 264) (p_msl 264) Kr 0 (lv_args 0 [.ref 294]) [] 311 M 0 0 := by
  have F : Fr [] M M := Fr.refl
  refine PW.aload_n q_264_0 rfl ?_
  refine PW.ldc2 q_264_1 t_lt_264_118 ?_
  refine PW.nmLk fun l1 el1 => ?_
  refine PW.cV (as := [_]) (rest := []) q_264_4 t_mv_264_201 kd_294 I.1 (by decide) rfl (by decide) rfl rfl (Nat.le_of_ble_eq_true rfl) (Nat.le_of_ble_eq_true rfl) (by decide) (by decide) ?_
  refine PW.up (by decide) (c_X12_isWord_vk (V) (hV) G _ M I l1 y (i) 20 hp_0 (by rw [el1]; decide +kernel) (by decide) fun x3  hx3 kx3 PM2 => ?_)
  rcases PM2 with ⟨PaM2, PbM2, PcM2⟩ | ⟨PaM2, PnM2⟩
  · skip
    have swM2 := (s_wn_iff (x := y) (i := i) (show 20 < 28 by decide)).mp PcM2
    refine PW.jz_eq q_264_7 rfl (fun h4 => False.elim (by omega)) (fun h4 => ?_)
    refine PW.cI q_264_10 (by decide) fun c5 hc5 => ?_
    refine PW.goto q_264_11 rfl ?_
    refine PW.rI q_264_115 rfl (by decide) (by decide) ?_
    exact hK c5 (by omega) (by omega) (Or.inl ⟨PbM2, by omega, by omega, by omega⟩)
  · skip
    have snM2 : kK y (i) = 2 → s_wn y (i) ≠ 20 := fun h q => PnM2 ⟨h, (s_wn_iff (show 20 < 28 by decide)).mpr q⟩
    refine PW.jz_eq q_264_7 rfl (fun h6 => ?_) (fun h6 => False.elim (by omega))
    refine PW.aload_n q_264_14 rfl ?_
    refine PW.ldc2 q_264_15 t_lt_264_120 ?_
    refine PW.nmLk fun l7 el7 => ?_
    refine PW.cV (as := [_]) (rest := []) q_264_18 t_mv_264_201 kd_294 I.1 (by decide) rfl (by decide) rfl rfl (Nat.le_of_ble_eq_true rfl) (Nat.le_of_ble_eq_true rfl) (by decide) (by decide) ?_
    refine PW.up (by decide) (c_X12_isWord_vk (V) (hV) G _ M I l7 y (i) 21 hp_0 (by rw [el7]; decide +kernel) (by decide) fun x9  hx9 kx9 PM8 => ?_)
    rcases PM8 with ⟨PaM8, PbM8, PcM8⟩ | ⟨PaM8, PnM8⟩
    · skip
      have swM8 := (s_wn_iff (x := y) (i := i) (show 21 < 28 by decide)).mp PcM8
      refine PW.jz_eq q_264_21 rfl (fun h10 => False.elim (by omega)) (fun h10 => ?_)
      refine PW.cI q_264_24 (by decide) fun c11 hc11 => ?_
      refine PW.goto q_264_25 rfl ?_
      refine PW.rI q_264_115 rfl (by decide) (by decide) ?_
      exact hK c11 (by omega) (by omega) (Or.inl ⟨PbM8, by omega, by omega, by omega⟩)
    · skip
      have snM8 : kK y (i) = 2 → s_wn y (i) ≠ 21 := fun h q => PnM8 ⟨h, (s_wn_iff (show 21 < 28 by decide)).mpr q⟩
      refine PW.jz_eq q_264_21 rfl (fun h12 => ?_) (fun h12 => False.elim (by omega))
      refine PW.aload_n q_264_28 rfl ?_
      refine PW.ldc2 q_264_29 t_lt_264_122 ?_
      refine PW.nmLk fun l13 el13 => ?_
      refine PW.cV (as := [_]) (rest := []) q_264_32 t_mv_264_201 kd_294 I.1 (by decide) rfl (by decide) rfl rfl (Nat.le_of_ble_eq_true rfl) (Nat.le_of_ble_eq_true rfl) (by decide) (by decide) ?_
      refine PW.up (by decide) (c_X12_isWord_vk (V) (hV) G _ M I l13 y (i) 22 hp_0 (by rw [el13]; decide +kernel) (by decide) fun x15  hx15 kx15 PM14 => ?_)
      rcases PM14 with ⟨PaM14, PbM14, PcM14⟩ | ⟨PaM14, PnM14⟩
      · skip
        have swM14 := (s_wn_iff (x := y) (i := i) (show 22 < 28 by decide)).mp PcM14
        refine PW.jz_eq q_264_35 rfl (fun h16 => False.elim (by omega)) (fun h16 => ?_)
        refine PW.cI q_264_38 (by decide) fun c17 hc17 => ?_
        refine PW.goto q_264_39 rfl ?_
        refine PW.rI q_264_115 rfl (by decide) (by decide) ?_
        exact hK c17 (by omega) (by omega) (Or.inl ⟨PbM14, by omega, by omega, by omega⟩)
      · skip
        have snM14 : kK y (i) = 2 → s_wn y (i) ≠ 22 := fun h q => PnM14 ⟨h, (s_wn_iff (show 22 < 28 by decide)).mpr q⟩
        refine PW.jz_eq q_264_35 rfl (fun h18 => ?_) (fun h18 => False.elim (by omega))
        refine PW.aload_n q_264_42 rfl ?_
        refine PW.ldc2 q_264_43 t_lt_264_124 ?_
        refine PW.nmLk fun l19 el19 => ?_
        refine PW.cV (as := [_]) (rest := []) q_264_46 t_mv_264_201 kd_294 I.1 (by decide) rfl (by decide) rfl rfl (Nat.le_of_ble_eq_true rfl) (Nat.le_of_ble_eq_true rfl) (by decide) (by decide) ?_
        refine PW.up (by decide) (c_X12_isWord_vk (V) (hV) G _ M I l19 y (i) 23 hp_0 (by rw [el19]; decide +kernel) (by decide) fun x21  hx21 kx21 PM20 => ?_)
        rcases PM20 with ⟨PaM20, PbM20, PcM20⟩ | ⟨PaM20, PnM20⟩
        · skip
          have swM20 := (s_wn_iff (x := y) (i := i) (show 23 < 28 by decide)).mp PcM20
          refine PW.jz_eq q_264_49 rfl (fun h22 => False.elim (by omega)) (fun h22 => ?_)
          refine PW.cI q_264_52 (by decide) fun c23 hc23 => ?_
          refine PW.goto q_264_53 rfl ?_
          refine PW.rI q_264_115 rfl (by decide) (by decide) ?_
          exact hK c23 (by omega) (by omega) (Or.inl ⟨PbM20, by omega, by omega, by omega⟩)
        · skip
          have snM20 : kK y (i) = 2 → s_wn y (i) ≠ 23 := fun h q => PnM20 ⟨h, (s_wn_iff (show 23 < 28 by decide)).mpr q⟩
          refine PW.jz_eq q_264_49 rfl (fun h24 => ?_) (fun h24 => False.elim (by omega))
          refine PW.aload_n q_264_56 rfl ?_
          refine PW.ldc2 q_264_57 t_lt_264_126 ?_
          refine PW.nmLk fun l25 el25 => ?_
          refine PW.cV (as := [_]) (rest := []) q_264_60 t_mv_264_201 kd_294 I.1 (by decide) rfl (by decide) rfl rfl (Nat.le_of_ble_eq_true rfl) (Nat.le_of_ble_eq_true rfl) (by decide) (by decide) ?_
          refine PW.up (by decide) (c_X12_isWord_vk (V) (hV) G _ M I l25 y (i) 24 hp_0 (by rw [el25]; decide +kernel) (by decide) fun x27  hx27 kx27 PM26 => ?_)
          rcases PM26 with ⟨PaM26, PbM26, PcM26⟩ | ⟨PaM26, PnM26⟩
          · skip
            have swM26 := (s_wn_iff (x := y) (i := i) (show 24 < 28 by decide)).mp PcM26
            refine PW.jz_eq q_264_63 rfl (fun h28 => False.elim (by omega)) (fun h28 => ?_)
            refine PW.cI q_264_66 (by decide) fun c29 hc29 => ?_
            refine PW.goto q_264_67 rfl ?_
            refine PW.rI q_264_115 rfl (by decide) (by decide) ?_
            exact hK c29 (by omega) (by omega) (Or.inl ⟨PbM26, by omega, by omega, by omega⟩)
          · skip
            have snM26 : kK y (i) = 2 → s_wn y (i) ≠ 24 := fun h q => PnM26 ⟨h, (s_wn_iff (show 24 < 28 by decide)).mpr q⟩
            refine PW.jz_eq q_264_63 rfl (fun h30 => ?_) (fun h30 => False.elim (by omega))
            refine PW.aload_n q_264_70 rfl ?_
            refine PW.ldc2 q_264_71 t_lt_264_128 ?_
            refine PW.nmLk fun l31 el31 => ?_
            refine PW.cV (as := [_]) (rest := []) q_264_74 t_mv_264_201 kd_294 I.1 (by decide) rfl (by decide) rfl rfl (Nat.le_of_ble_eq_true rfl) (Nat.le_of_ble_eq_true rfl) (by decide) (by decide) ?_
            refine PW.up (by decide) (c_X12_isWord_vk (V) (hV) G _ M I l31 y (i) 25 hp_0 (by rw [el31]; decide +kernel) (by decide) fun x33  hx33 kx33 PM32 => ?_)
            rcases PM32 with ⟨PaM32, PbM32, PcM32⟩ | ⟨PaM32, PnM32⟩
            · skip
              have swM32 := (s_wn_iff (x := y) (i := i) (show 25 < 28 by decide)).mp PcM32
              refine PW.jz_eq q_264_77 rfl (fun h34 => False.elim (by omega)) (fun h34 => ?_)
              refine PW.cI q_264_80 (by decide) fun c35 hc35 => ?_
              refine PW.goto q_264_81 rfl ?_
              refine PW.rI q_264_115 rfl (by decide) (by decide) ?_
              exact hK c35 (by omega) (by omega) (Or.inl ⟨PbM32, by omega, by omega, by omega⟩)
            · skip
              have snM32 : kK y (i) = 2 → s_wn y (i) ≠ 25 := fun h q => PnM32 ⟨h, (s_wn_iff (show 25 < 28 by decide)).mpr q⟩
              refine PW.jz_eq q_264_77 rfl (fun h36 => ?_) (fun h36 => False.elim (by omega))
              refine PW.aload_n q_264_84 rfl ?_
              refine PW.ldc2 q_264_85 t_lt_264_130 ?_
              refine PW.nmLk fun l37 el37 => ?_
              refine PW.cV (as := [_]) (rest := []) q_264_88 t_mv_264_201 kd_294 I.1 (by decide) rfl (by decide) rfl rfl (Nat.le_of_ble_eq_true rfl) (Nat.le_of_ble_eq_true rfl) (by decide) (by decide) ?_
              refine PW.up (by decide) (c_X12_isWord_vk (V) (hV) G _ M I l37 y (i) 26 hp_0 (by rw [el37]; decide +kernel) (by decide) fun x39  hx39 kx39 PM38 => ?_)
              rcases PM38 with ⟨PaM38, PbM38, PcM38⟩ | ⟨PaM38, PnM38⟩
              · skip
                have swM38 := (s_wn_iff (x := y) (i := i) (show 26 < 28 by decide)).mp PcM38
                refine PW.jz_eq q_264_91 rfl (fun h40 => False.elim (by omega)) (fun h40 => ?_)
                refine PW.cB q_264_94 (by decide) fun c41 hc41 => ?_
                refine PW.goto q_264_96 rfl ?_
                refine PW.rI q_264_115 rfl (by decide) (by decide) ?_
                exact hK c41 (by omega) (by omega) (Or.inl ⟨PbM38, by omega, by omega, by omega⟩)
              · skip
                have snM38 : kK y (i) = 2 → s_wn y (i) ≠ 26 := fun h q => PnM38 ⟨h, (s_wn_iff (show 26 < 28 by decide)).mpr q⟩
                refine PW.jz_eq q_264_91 rfl (fun h42 => ?_) (fun h42 => False.elim (by omega))
                refine PW.aload_n q_264_99 rfl ?_
                refine PW.ldc2 q_264_100 t_lt_264_132 ?_
                refine PW.nmLk fun l43 el43 => ?_
                refine PW.cV (as := [_]) (rest := []) q_264_103 t_mv_264_201 kd_294 I.1 (by decide) rfl (by decide) rfl rfl (Nat.le_of_ble_eq_true rfl) (Nat.le_of_ble_eq_true rfl) (by decide) (by decide) ?_
                refine PW.up (by decide) (c_X12_isWord_vk (V) (hV) G _ M I l43 y (i) 27 hp_0 (by rw [el43]; decide +kernel) (by decide) fun x45  hx45 kx45 PM44 => ?_)
                rcases PM44 with ⟨PaM44, PbM44, PcM44⟩ | ⟨PaM44, PnM44⟩
                · skip
                  have swM44 := (s_wn_iff (x := y) (i := i) (show 27 < 28 by decide)).mp PcM44
                  refine PW.jz_eq q_264_106 rfl (fun h46 => False.elim (by omega)) (fun h46 => ?_)
                  refine PW.cB q_264_109 (by decide) fun c47 hc47 => ?_
                  refine PW.goto q_264_111 rfl ?_
                  refine PW.rI q_264_115 rfl (by decide) (by decide) ?_
                  exact hK c47 (by omega) (by omega) (Or.inl ⟨PbM44, by omega, by omega, by omega⟩)
                · skip
                  have snM44 : kK y (i) = 2 → s_wn y (i) ≠ 27 := fun h q => PnM44 ⟨h, (s_wn_iff (show 27 < 28 by decide)).mpr q⟩
                  refine PW.jz_eq q_264_106 rfl (fun h48 => ?_) (fun h48 => False.elim (by omega))
                  refine PW.cI q_264_114 (by decide) fun c49 hc49 => ?_
                  refine PW.rI q_264_115 rfl (by decide) (by decide) ?_
                  exact hK c49 (by omega) (by omega) (Or.inr ⟨by omega, fun h => by have hk := h.1; have uM2 := snM2 hk; have uM8 := snM8 hk; have uM14 := snM14 hk; have uM20 := snM20 hk; have uM26 := snM26 hk; have uM32 := snM32 hk; have uM38 := snM38 hk; have uM44 := snM44 hk; omega⟩)
theorem c_X12_operand_vk (G : pG) (Kr : pK) (M : pM) (I : Iv gTT M) (y : k_X) (i : Nat) (f : Nat → Int) (m : Int) (st : List Bool) (on : Int) (hp_0 : gSm M) (hp_1 : o_i (M 294) 37 = 0) (hp_2 : k_ra y M i) (hp_3 : r_nm M f m) (hp_4 : r_Q M) (hp_5 : r_P M = st) (hp_6 : o_i (M 294) 34 = on) (hK : ∀ (x : Int32) (M1 : pM), Iv gTT M1 → Fr [40, 44, 51] M M1 → 0 ≤ x.toInt → x.toInt ≤ 1 → (gKl [4, 11, 12, 13, 14, 15, 16, 17, 18, 33, 34, 35, 36, 37] M M1 ∧ ((x.toInt = 1 ∧ (s_op y f m i st on).1 = 0 ∧ gSm M1 ∧ r_J y M1 (s_op y f m i st on).2.2 ∧ o_i (M1 294) 15 = o_i (M 294) 15) ∨ (x.toInt = 0 ∧ 1 ≤ (s_op y f m i st on).1 ∧ (s_op y f m i st on).1 ≤ 4 ∧ o_i (M1 294) 15 = (s_op y f m i st on).1 ∧ o_i (M1 294) 16 = (s_op y f m i st on).2.1))) → Kr.1 (some (.int x)) 311 M1) : PW G false 2 265 (p_mc 265) (p_msl 265) Kr 0 (lv_args 0 [.ref 294]) [] 311 M 0 0 := by
  have F : Fr [40, 44, 51] M M := Fr.refl
  have hs1 : o_i (M 294) 33 + o_i (M 294) 35 + o_i (M 294) 37 ≤ 2 * o_i (M 294) 34 := hp_0.2.2
  have ho1 := g_on20 I.1
  have hc1 := g_co I.1
  have w2 : gSn (o_i (M 294) 33) (o_i (M 294) 35) 0 (o_i (M 294) 34) (o_a (M 298)) (o_a (M 305)) := by have q := hp_0; unfold gSm at q; rw [show o_i (M 294) 37 = 0 from by omega] at q; exact q
  have dl := r_Q.dl hp_4 (by omega)
  have dp := r_Q.deep hp_4
  rw [hp_5] at dp
  refine PW.aload_n q_265_0 rfl ?_
  refine PW.ldc2 q_265_1 t_lt_265_116 ?_
  refine PW.nmLk fun l3 el3 => ?_
  refine PW.cV (as := [_]) (rest := []) q_265_4 t_mv_265_201 kd_294 I.1 (by decide) rfl (by decide) rfl rfl (Nat.le_of_ble_eq_true rfl) (Nat.le_of_ble_eq_true rfl) (by decide) (by decide) ?_
  refine PW.up (by decide) (c_X12_isWord_vk (gTT) (Stab0) G _ M I l3 y (i) 19 hp_2 (by rw [el3]; decide +kernel) (by decide) fun x5  hx5 kx5 PM4 => ?_)
  rcases PM4 with ⟨PaM4, PbM4, PcM4⟩ | ⟨PaM4, PnM4⟩
  · skip
    have swM4 := (s_wn_iff (x := y) (i := i) (show 19 < 28 by decide)).mp PcM4
    refine PW.istore_n q_265_7 (by decide) ?_
    refine PW.aload_n q_265_8 rfl ?_
    refine PW.cB q_265_9 (by decide) fun c6 hc6 => ?_
    refine PW.cV (as := [_]) (rest := []) q_265_11 t_mv_265_167 kd_294 I.1 (by decide) rfl (by decide) rfl rfl (Nat.le_of_ble_eq_true rfl) (Nat.le_of_ble_eq_true rfl) (by decide) (by decide) ?_
    refine PW.up (by decide) (c_X12_isSign_vk (gTT) (Stab0) G _ M I c6 y (i) hp_2 fun x8  hx8 kx8 PM7 => ?_)
    rcases PM7 with ⟨PaM7, PbM7, PcM7⟩ | ⟨PaM7, PnM7⟩
    · skip
      exfalso; omega
    · skip
      refine PW.istore_n q_265_14 (by decide) ?_
      refine PW.aload_n q_265_15 rfl ?_
      refine PW.cV (as := []) (rest := []) q_265_16 t_mv_265_395 kd_294 I.1 (by decide) rfl (by decide) rfl rfl (Nat.le_of_ble_eq_true rfl) (Nat.le_of_ble_eq_true rfl) (by decide) (by decide) ?_
      refine PW.up (by decide) (c_X12_leafOf_vk (gTT) (Stab0) G _ M I y (i) hp_2 fun x10  hx10 kx10 PM9 => ?_)
      rcases PM9 with ⟨PbM9, PcM9, PdM9, PaM9⟩ | ⟨PaM9, PnM9⟩
      · skip
        exfalso; omega
      · skip
        refine PW.istore_n q_265_19 (by decide) ?_
        refine PW.iload_n q_265_20 rfl ?_
        refine PW.jz_ne q_265_21 rfl (fun h11 => ?_) (fun h11 => False.elim (by omega))
        refine PW.aload_n q_265_38 rfl ?_
        refine PW.gI q_265_39 (Or.inl t_ft_265_398) gF_40_34 kd_294 I.1 (by decide) fun x12 fx12 hx12 kx12 => ?_
        have ix12 := o_i_of fx12
        have trx12 := o_i_of fx12
        refine PW.cB q_265_42 (by decide) fun c13 hc13 => ?_
        refine PW.jc_eq q_265_44 rfl (fun h14 => ?_) (fun h14 => ?_)
        · skip
          refine PW.aload_n q_265_56 rfl ?_
          refine PW.cI q_265_57 (by decide) fun c15 hc15 => ?_
          refine PW.cV (as := [_]) (rest := []) q_265_58 t_mv_265_170 kd_294 I.1 (by decide) rfl (by decide) rfl rfl (Nat.le_of_ble_eq_true rfl) (Nat.le_of_ble_eq_true rfl) (by decide) (by decide) ?_
          refine PW.up (by decide) (c_X12_bad_vk (gTT) (Stab0) G _ M I c15 y (i) hp_2 fun x17 M16 IM16 GM16 hx17 kx17 PM16 => ?_)
          have FM16 := Fr.trans F GM16 (rfl)
          rcases PM16 with ⟨QM16, ⟨PfM16, PgM16⟩⟩
          refine PW.rZ q_265_61 rfl (by omega) (by omega) (by decide) (by decide) ?_
          have ons : s_one y i := by omega
          have e : s_op y f m i st on = (4, kP y i, (0, false, [], 0)) := by unfold s_op; rw [if_neg (not_not_intro ons), if_pos (by omega)]
          exact hK x17 M16 IM16 FM16 (by omega) (by omega) ⟨(gKl.refl.tr QM16 rfl), (Or.inr ⟨by omega, by rw [e]; exact (show (1 : Int) ≤ 4 by omega), by rw [e]; exact (show (4 : Int) ≤ 4 by omega), by rw [e]; exact (show o_i (M16 294) 15 = 4 by omega), by rw [e]; exact (show o_i (M16 294) 16 = kP y i by omega)⟩)⟩
        · skip
          refine PW.aload_n q_265_47 rfl ?_
          refine PW.gI q_265_48 (Or.inl t_ft_265_392) gF_40_36 kd_294 I.1 (by decide) fun x18 fx18 hx18 kx18 => ?_
          have ix18 := o_i_of fx18
          have trx18 := o_i_of fx18
          clear hx18 kx18
          refine PW.cB q_265_51 (by decide) fun c19 hc19 => ?_
          refine PW.jc_le q_265_53 rfl (fun h20 => ?_) (fun h20 => ?_)
          · skip
            refine PW.aload_n q_265_62 rfl ?_
            refine PW.dup q_265_63 rfl ?_
            refine PW.gE q_265_64 (Or.inl t_ft_265_398) gF_40_34 kd_294 I.1 (by decide) fx12 ?_
            have tr21 := o_i_of fx12
            refine PW.cI q_265_67 (by decide) fun c22 hc22 => ?_
            refine PW.addN q_265_68 (by omega) (by omega) fun x23 hx23 => ?_
            refine PW.pI q_265_69 (Or.inl t_ft_265_398) gF_40_34 gP_40_34 kd_294 Stab0 I (by decide) rfl (by omega) (by omega) fun M24 IM24 fM24 UM24 => ?_
            have FM24 := Fr.pu F UM24.1 kd_294 (rfl : List.contains [40, 44, 51] 40 = true)
            have tr25 := UM24.i (c := 294) (k := 33) (Or.inr (by decide))
            have tr26 := o_i_of fM24
            have tr27 := UM24.i (c := 294) (k := 35) (Or.inr (by decide))
            have tr28 := UM24.i (c := 294) (k := 36) (Or.inr (by decide))
            have tr29 := UM24.i (c := 294) (k := 37) (Or.inr (by decide))
            refine PW.aload_n q_265_72 rfl ?_
            refine PW.cV (as := []) (rest := []) q_265_73 t_mv_265_173 kd_294 IM24.1 (by decide) rfl (by decide) rfl rfl (Nat.le_of_ble_eq_true rfl) (Nat.le_of_ble_eq_true rfl) (by decide) (by decide) ?_
            refine PW.up (by decide) (c_X12_go_vk (gTT) (Stab0) G _ M24 IM24 y (i + 1) (k_ra.nx (hp_2.U UM24 rfl) (by omega)) fun M30 IM30 GM30 PM30 => ?_)
            have FM30 := Fr.trans FM24 GM30 (rfl)
            rcases PM30 with ⟨QM30, PtM30⟩
            have tr31 := QM30.i 33 rfl
            have tr32 := QM30.i 34 rfl
            have tr33 := QM30.i 35 rfl
            have tr34 := QM30.i 36 rfl
            have tr35 := QM30.i 37 rfl
            refine PW.iload_n q_265_76 rfl ?_
            refine PW.jz_ne q_265_77 rfl (fun h36 => ?_) (fun h36 => False.elim (by omega))
            refine PW.aload_n q_265_84 rfl ?_
            refine PW.gR 305 q_265_85 (Or.inl t_ft_265_62) gF_40_32 kd_294 IM30.1 (by decide) rfl ?_
            refine PW.aload_n q_265_88 rfl ?_
            refine PW.gI q_265_89 (Or.inl t_ft_265_385) gF_40_35 kd_294 IM30.1 (by decide) fun x37 fx37 hx37 kx37 => ?_
            have ix37 := o_i_of fx37
            have trx37 := o_i_of fx37
            refine PW.iload_n q_265_92 rfl ?_
            refine PW.jz_eq q_265_93 rfl (fun h38 => False.elim (by omega)) (fun h38 => ?_)
            refine PW.cB q_265_96 (by decide) fun c39 hc39 => ?_
            refine PW.goto q_265_98 rfl ?_
            refine PW.wT q_265_103 gA_51 kd_305 IM30 (by decide) rfl gC_51_0_40 (by decide) (by omega) (by omega) (n_lo _) (n_hi _) fun M40 IM40 fM40 UM40 => ?_
            have FM40 := Fr.pu FM30 UM40.1 kd_305 (rfl : List.contains [40, 44, 51] 51 = true)
            have tr41 : o_i (M40 294) 33 = o_i (M30 294) 33 := by rw [UM40.1 294 (g_ne kd_294 kd_305 (by decide))]
            have tr42 : o_i (M40 294) 34 = o_i (M30 294) 34 := by rw [UM40.1 294 (g_ne kd_294 kd_305 (by decide))]
            have tr43 : o_i (M40 294) 35 = o_i (M30 294) 35 := by rw [UM40.1 294 (g_ne kd_294 kd_305 (by decide))]
            have tr44 : o_i (M40 294) 36 = o_i (M30 294) 36 := by rw [UM40.1 294 (g_ne kd_294 kd_305 (by decide))]
            have tr45 : o_i (M40 294) 37 = o_i (M30 294) 37 := by rw [UM40.1 294 (g_ne kd_294 kd_305 (by decide))]
            refine PW.aload_n q_265_104 rfl ?_
            refine PW.dup q_265_105 rfl ?_
            refine PW.gE q_265_106 (Or.inl t_ft_265_385) gF_40_35 kd_294 IM40.1 (by decide) ((congrArg (fun e => o_f e 35) (UM40.1 _ (g_ne kd_294 kd_305 (by decide)))).trans fx37) ?_
            have tr46 := o_i_of ((congrArg (fun e => o_f e 35) (UM40.1 _ (g_ne kd_294 kd_305 (by decide)))).trans fx37)
            refine PW.cI q_265_109 (by decide) fun c47 hc47 => ?_
            refine PW.addN q_265_110 (by omega) (by omega) fun x48 hx48 => ?_
            refine PW.pT q_265_111 (Or.inl t_ft_265_385) gF_40_35 gP_40_35 kd_294 IM40 (by decide) rfl (by omega) (by omega) fun M49 IM49 fM49 UM49 => ?_
            have FM49 := Fr.pu FM40 UM49.1 kd_294 (rfl : List.contains [40, 44, 51] 40 = true)
            have tr50 := UM49.i (c := 294) (k := 33) (Or.inr (by decide))
            have tr51 := UM49.i (c := 294) (k := 34) (Or.inr (by decide))
            have tr52 := o_i_of fM49
            have tr53 := UM49.i (c := 294) (k := 36) (Or.inr (by decide))
            have tr54 := UM49.i (c := 294) (k := 37) (Or.inr (by decide))
            refine PW.aload_n q_265_114 rfl ?_
            refine PW.dup q_265_115 rfl ?_
            refine PW.gE q_265_116 (Or.inl t_ft_265_392) gF_40_36 kd_294 IM49.1 (by decide) ((UM49.f (Or.inr (by decide))).trans ((congrArg (fun e => o_f e 36) (UM40.1 _ (g_ne kd_294 kd_305 (by decide)))).trans ((QM30 36 rfl).trans ((UM24.f (Or.inr (by decide))).trans fx18)))) ?_
            have tr55 := o_i_of ((UM49.f (Or.inr (by decide))).trans ((congrArg (fun e => o_f e 36) (UM40.1 _ (g_ne kd_294 kd_305 (by decide)))).trans ((QM30 36 rfl).trans ((UM24.f (Or.inr (by decide))).trans fx18))))
            refine PW.cI q_265_119 (by decide) fun c56 hc56 => ?_
            refine PW.addN q_265_120 (by omega) (by omega) fun x57 hx57 => ?_
            refine PW.pI q_265_121 (Or.inl t_ft_265_392) gF_40_36 gP_40_36 kd_294 Stab0 IM49 (by decide) rfl (n_lo _) (n_hi _) fun M58 IM58 fM58 UM58 => ?_
            have FM58 := Fr.pu FM49 UM58.1 kd_294 (rfl : List.contains [40, 44, 51] 40 = true)
            have tr59 := UM58.i (c := 294) (k := 33) (Or.inr (by decide))
            have tr60 := UM58.i (c := 294) (k := 34) (Or.inr (by decide))
            have tr61 := UM58.i (c := 294) (k := 35) (Or.inr (by decide))
            have tr62 := o_i_of fM58
            have tr63 := UM58.i (c := 294) (k := 37) (Or.inr (by decide))
            refine PW.cI q_265_124 (by decide) fun c64 hc64 => ?_
            refine PW.rZ q_265_125 rfl (by omega) (by omega) (by decide) (by decide) ?_
            have ons : s_one y i := by omega
            have e : s_op y f m i st on = (0, 0, (i + 1, false, false :: st, on + 1)) := by unfold s_op; rw [if_neg (not_not_intro ons), if_neg (by omega), if_pos ⟨by omega, by omega⟩]
            have rq := r_Q.un (M1 := M58) (b := false) (v := 20) hp_4 (by omega) (fun z hz => ((congrFun ((congrArg o_a (UM58.1 305 (by decide))).trans (congrArg o_a (UM49.1 305 (by decide)))) z).trans ((UM40.2 z (by omega)).trans (congrFun ((congrArg o_a (Fr.at GM30 kd_305 rfl)).trans (congrArg o_a (UM24.1 305 (by decide)))) z)))) (by rw [((congrArg o_a (UM58.1 305 (by decide))).trans (congrArg o_a (UM49.1 305 (by decide)))), show (o_i (M 294) 35).toNat = x37.toInt.toNat from by omega, fM40]; omega) (Or.inl ⟨rfl, rfl⟩) (by omega) (by omega)
            exact hK c64 M58 IM58 FM58 (by omega) (by omega) ⟨(((((gKl.refl.put UM24 rfl).tr QM30 rfl).cg (UM40.1 294 (by decide))).put UM49 rfl).put UM58 rfl), (Or.inl ⟨by omega, by rw [e], gSm.of (gSn.push (k1 := o_a (M40 305)) w2 (by omega) (fun z hz => (UM40.2 z (by omega)).trans (congrFun ((congrArg o_a (Fr.at GM30 kd_305 rfl)).trans (congrArg o_a (UM24.1 305 (by decide)))) z)) (by rw [show (o_i (M 294) 35).toNat = x37.toInt.toNat from by omega, fM40]; omega) rfl) (by omega) (by omega) (by omega) (by omega) ((congrArg o_a (UM58.1 298 (by decide))).trans ((congrArg o_a (UM49.1 298 (by decide))).trans ((congrArg o_a (UM40.1 298 (by decide))).trans ((congrArg o_a (Fr.at GM30 kd_298 rfl)).trans (congrArg o_a (UM24.1 298 (by decide))))))) ((congrArg o_a (UM58.1 305 (by decide))).trans (congrArg o_a (UM49.1 305 (by decide)))), by rw [e]; exact ⟨(((PtM30.cg (UM40.1 294 (by decide)) (UM40.1 295 (by decide)) (UM40.1 300 (by decide))).U UM49 rfl).U UM58 rfl), rq.1, by show _ = on + 1; omega, Or.inl ⟨rfl, by omega, by rw [rq.2, hp_5]⟩⟩, ((UM58.i (c := 294) (k := 15) (Or.inr (by decide))).trans ((UM49.i (c := 294) (k := 15) (Or.inr (by decide))).trans ((congrArg (fun e => o_i e 15) (UM40.1 294 (by decide))).trans ((QM30.i 15 rfl).trans (UM24.i (c := 294) (k := 15) (Or.inr (by decide)))))))⟩)⟩
          · skip
            refine PW.aload_n q_265_56 rfl ?_
            refine PW.cI q_265_57 (by decide) fun c65 hc65 => ?_
            refine PW.cV (as := [_]) (rest := []) q_265_58 t_mv_265_170 kd_294 I.1 (by decide) rfl (by decide) rfl rfl (Nat.le_of_ble_eq_true rfl) (Nat.le_of_ble_eq_true rfl) (by decide) (by decide) ?_
            refine PW.up (by decide) (c_X12_bad_vk (gTT) (Stab0) G _ M I c65 y (i) hp_2 fun x67 M66 IM66 GM66 hx67 kx67 PM66 => ?_)
            have FM66 := Fr.trans F GM66 (rfl)
            rcases PM66 with ⟨QM66, ⟨PfM66, PgM66⟩⟩
            refine PW.rZ q_265_61 rfl (by omega) (by omega) (by decide) (by decide) ?_
            have ons : s_one y i := by omega
            have e : s_op y f m i st on = (4, kP y i, (0, false, [], 0)) := by unfold s_op; rw [if_neg (not_not_intro ons), if_pos (by omega)]
            exact hK x67 M66 IM66 FM66 (by omega) (by omega) ⟨(gKl.refl.tr QM66 rfl), (Or.inr ⟨by omega, by rw [e]; exact (show (1 : Int) ≤ 4 by omega), by rw [e]; exact (show (4 : Int) ≤ 4 by omega), by rw [e]; exact (show o_i (M66 294) 15 = 4 by omega), by rw [e]; exact (show o_i (M66 294) 16 = kP y i by omega)⟩)⟩
  · skip
    have snM4 : kK y (i) = 2 → s_wn y (i) ≠ 19 := fun h q => PnM4 ⟨h, (s_wn_iff (show 19 < 28 by decide)).mpr q⟩
    refine PW.istore_n q_265_7 (by decide) ?_
    refine PW.aload_n q_265_8 rfl ?_
    refine PW.cB q_265_9 (by decide) fun c68 hc68 => ?_
    refine PW.cV (as := [_]) (rest := []) q_265_11 t_mv_265_167 kd_294 I.1 (by decide) rfl (by decide) rfl rfl (Nat.le_of_ble_eq_true rfl) (Nat.le_of_ble_eq_true rfl) (by decide) (by decide) ?_
    refine PW.up (by decide) (c_X12_isSign_vk (gTT) (Stab0) G _ M I c68 y (i) hp_2 fun x70  hx70 kx70 PM69 => ?_)
    rcases PM69 with ⟨PaM69, PbM69, PcM69⟩ | ⟨PaM69, PnM69⟩
    · skip
      refine PW.istore_n q_265_14 (by decide) ?_
      refine PW.aload_n q_265_15 rfl ?_
      refine PW.cV (as := []) (rest := []) q_265_16 t_mv_265_395 kd_294 I.1 (by decide) rfl (by decide) rfl rfl (Nat.le_of_ble_eq_true rfl) (Nat.le_of_ble_eq_true rfl) (by decide) (by decide) ?_
      refine PW.up (by decide) (c_X12_leafOf_vk (gTT) (Stab0) G _ M I y (i) hp_2 fun x72  hx72 kx72 PM71 => ?_)
      rcases PM71 with ⟨PbM71, PcM71, PdM71, PaM71⟩ | ⟨PaM71, PnM71⟩
      · skip
        exfalso; omega
      · skip
        refine PW.istore_n q_265_19 (by decide) ?_
        refine PW.iload_n q_265_20 rfl ?_
        refine PW.jz_ne q_265_21 rfl (fun h73 => False.elim (by omega)) (fun h73 => ?_)
        refine PW.iload_n q_265_24 rfl ?_
        refine PW.jz_ne q_265_25 rfl (fun h74 => ?_) (fun h74 => False.elim (by omega))
        refine PW.aload_n q_265_38 rfl ?_
        refine PW.gI q_265_39 (Or.inl t_ft_265_398) gF_40_34 kd_294 I.1 (by decide) fun x75 fx75 hx75 kx75 => ?_
        have ix75 := o_i_of fx75
        have trx75 := o_i_of fx75
        refine PW.cB q_265_42 (by decide) fun c76 hc76 => ?_
        refine PW.jc_eq q_265_44 rfl (fun h77 => ?_) (fun h77 => ?_)
        · skip
          refine PW.aload_n q_265_56 rfl ?_
          refine PW.cI q_265_57 (by decide) fun c78 hc78 => ?_
          refine PW.cV (as := [_]) (rest := []) q_265_58 t_mv_265_170 kd_294 I.1 (by decide) rfl (by decide) rfl rfl (Nat.le_of_ble_eq_true rfl) (Nat.le_of_ble_eq_true rfl) (by decide) (by decide) ?_
          refine PW.up (by decide) (c_X12_bad_vk (gTT) (Stab0) G _ M I c78 y (i) hp_2 fun x80 M79 IM79 GM79 hx80 kx80 PM79 => ?_)
          have FM79 := Fr.trans F GM79 (rfl)
          rcases PM79 with ⟨QM79, ⟨PfM79, PgM79⟩⟩
          refine PW.rZ q_265_61 rfl (by omega) (by omega) (by decide) (by decide) ?_
          have ons : s_one y i := by omega
          have e : s_op y f m i st on = (4, kP y i, (0, false, [], 0)) := by unfold s_op; rw [if_neg (not_not_intro ons), if_pos (by omega)]
          exact hK x80 M79 IM79 FM79 (by omega) (by omega) ⟨(gKl.refl.tr QM79 rfl), (Or.inr ⟨by omega, by rw [e]; exact (show (1 : Int) ≤ 4 by omega), by rw [e]; exact (show (4 : Int) ≤ 4 by omega), by rw [e]; exact (show o_i (M79 294) 15 = 4 by omega), by rw [e]; exact (show o_i (M79 294) 16 = kP y i by omega)⟩)⟩
        · skip
          refine PW.aload_n q_265_47 rfl ?_
          refine PW.gI q_265_48 (Or.inl t_ft_265_392) gF_40_36 kd_294 I.1 (by decide) fun x81 fx81 hx81 kx81 => ?_
          have ix81 := o_i_of fx81
          have trx81 := o_i_of fx81
          clear hx81 kx81
          refine PW.cB q_265_51 (by decide) fun c82 hc82 => ?_
          refine PW.jc_le q_265_53 rfl (fun h83 => ?_) (fun h83 => ?_)
          · skip
            refine PW.aload_n q_265_62 rfl ?_
            refine PW.dup q_265_63 rfl ?_
            refine PW.gE q_265_64 (Or.inl t_ft_265_398) gF_40_34 kd_294 I.1 (by decide) fx75 ?_
            have tr84 := o_i_of fx75
            refine PW.cI q_265_67 (by decide) fun c85 hc85 => ?_
            refine PW.addN q_265_68 (by omega) (by omega) fun x86 hx86 => ?_
            refine PW.pI q_265_69 (Or.inl t_ft_265_398) gF_40_34 gP_40_34 kd_294 Stab0 I (by decide) rfl (by omega) (by omega) fun M87 IM87 fM87 UM87 => ?_
            have FM87 := Fr.pu F UM87.1 kd_294 (rfl : List.contains [40, 44, 51] 40 = true)
            have tr88 := UM87.i (c := 294) (k := 33) (Or.inr (by decide))
            have tr89 := o_i_of fM87
            have tr90 := UM87.i (c := 294) (k := 35) (Or.inr (by decide))
            have tr91 := UM87.i (c := 294) (k := 36) (Or.inr (by decide))
            have tr92 := UM87.i (c := 294) (k := 37) (Or.inr (by decide))
            refine PW.aload_n q_265_72 rfl ?_
            refine PW.cV (as := []) (rest := []) q_265_73 t_mv_265_173 kd_294 IM87.1 (by decide) rfl (by decide) rfl rfl (Nat.le_of_ble_eq_true rfl) (Nat.le_of_ble_eq_true rfl) (by decide) (by decide) ?_
            refine PW.up (by decide) (c_X12_go_vk (gTT) (Stab0) G _ M87 IM87 y (i + 1) (k_ra.nx (hp_2.U UM87 rfl) (by omega)) fun M93 IM93 GM93 PM93 => ?_)
            have FM93 := Fr.trans FM87 GM93 (rfl)
            rcases PM93 with ⟨QM93, PtM93⟩
            have tr94 := QM93.i 33 rfl
            have tr95 := QM93.i 34 rfl
            have tr96 := QM93.i 35 rfl
            have tr97 := QM93.i 36 rfl
            have tr98 := QM93.i 37 rfl
            refine PW.iload_n q_265_76 rfl ?_
            refine PW.jz_ne q_265_77 rfl (fun h99 => False.elim (by omega)) (fun h99 => ?_)
            refine PW.iload_n q_265_80 rfl ?_
            refine PW.jz_eq q_265_81 rfl (fun h100 => False.elim (by omega)) (fun h100 => ?_)
            refine PW.aload_n q_265_84 rfl ?_
            refine PW.gR 305 q_265_85 (Or.inl t_ft_265_62) gF_40_32 kd_294 IM93.1 (by decide) rfl ?_
            refine PW.aload_n q_265_88 rfl ?_
            refine PW.gI q_265_89 (Or.inl t_ft_265_385) gF_40_35 kd_294 IM93.1 (by decide) fun x101 fx101 hx101 kx101 => ?_
            have ix101 := o_i_of fx101
            have trx101 := o_i_of fx101
            refine PW.iload_n q_265_92 rfl ?_
            refine PW.jz_eq q_265_93 rfl (fun h102 => ?_) (fun h102 => False.elim (by omega))
            refine PW.cB q_265_101 (by decide) fun c103 hc103 => ?_
            refine PW.wT q_265_103 gA_51 kd_305 IM93 (by decide) rfl gC_51_0_40 (by decide) (by omega) (by omega) (n_lo _) (n_hi _) fun M104 IM104 fM104 UM104 => ?_
            have FM104 := Fr.pu FM93 UM104.1 kd_305 (rfl : List.contains [40, 44, 51] 51 = true)
            have tr105 : o_i (M104 294) 33 = o_i (M93 294) 33 := by rw [UM104.1 294 (g_ne kd_294 kd_305 (by decide))]
            have tr106 : o_i (M104 294) 34 = o_i (M93 294) 34 := by rw [UM104.1 294 (g_ne kd_294 kd_305 (by decide))]
            have tr107 : o_i (M104 294) 35 = o_i (M93 294) 35 := by rw [UM104.1 294 (g_ne kd_294 kd_305 (by decide))]
            have tr108 : o_i (M104 294) 36 = o_i (M93 294) 36 := by rw [UM104.1 294 (g_ne kd_294 kd_305 (by decide))]
            have tr109 : o_i (M104 294) 37 = o_i (M93 294) 37 := by rw [UM104.1 294 (g_ne kd_294 kd_305 (by decide))]
            refine PW.aload_n q_265_104 rfl ?_
            refine PW.dup q_265_105 rfl ?_
            refine PW.gE q_265_106 (Or.inl t_ft_265_385) gF_40_35 kd_294 IM104.1 (by decide) ((congrArg (fun e => o_f e 35) (UM104.1 _ (g_ne kd_294 kd_305 (by decide)))).trans fx101) ?_
            have tr110 := o_i_of ((congrArg (fun e => o_f e 35) (UM104.1 _ (g_ne kd_294 kd_305 (by decide)))).trans fx101)
            refine PW.cI q_265_109 (by decide) fun c111 hc111 => ?_
            refine PW.addN q_265_110 (by omega) (by omega) fun x112 hx112 => ?_
            refine PW.pT q_265_111 (Or.inl t_ft_265_385) gF_40_35 gP_40_35 kd_294 IM104 (by decide) rfl (by omega) (by omega) fun M113 IM113 fM113 UM113 => ?_
            have FM113 := Fr.pu FM104 UM113.1 kd_294 (rfl : List.contains [40, 44, 51] 40 = true)
            have tr114 := UM113.i (c := 294) (k := 33) (Or.inr (by decide))
            have tr115 := UM113.i (c := 294) (k := 34) (Or.inr (by decide))
            have tr116 := o_i_of fM113
            have tr117 := UM113.i (c := 294) (k := 36) (Or.inr (by decide))
            have tr118 := UM113.i (c := 294) (k := 37) (Or.inr (by decide))
            refine PW.aload_n q_265_114 rfl ?_
            refine PW.dup q_265_115 rfl ?_
            refine PW.gE q_265_116 (Or.inl t_ft_265_392) gF_40_36 kd_294 IM113.1 (by decide) ((UM113.f (Or.inr (by decide))).trans ((congrArg (fun e => o_f e 36) (UM104.1 _ (g_ne kd_294 kd_305 (by decide)))).trans ((QM93 36 rfl).trans ((UM87.f (Or.inr (by decide))).trans fx81)))) ?_
            have tr119 := o_i_of ((UM113.f (Or.inr (by decide))).trans ((congrArg (fun e => o_f e 36) (UM104.1 _ (g_ne kd_294 kd_305 (by decide)))).trans ((QM93 36 rfl).trans ((UM87.f (Or.inr (by decide))).trans fx81))))
            refine PW.cI q_265_119 (by decide) fun c120 hc120 => ?_
            refine PW.addN q_265_120 (by omega) (by omega) fun x121 hx121 => ?_
            refine PW.pI q_265_121 (Or.inl t_ft_265_392) gF_40_36 gP_40_36 kd_294 Stab0 IM113 (by decide) rfl (n_lo _) (n_hi _) fun M122 IM122 fM122 UM122 => ?_
            have FM122 := Fr.pu FM113 UM122.1 kd_294 (rfl : List.contains [40, 44, 51] 40 = true)
            have tr123 := UM122.i (c := 294) (k := 33) (Or.inr (by decide))
            have tr124 := UM122.i (c := 294) (k := 34) (Or.inr (by decide))
            have tr125 := UM122.i (c := 294) (k := 35) (Or.inr (by decide))
            have tr126 := o_i_of fM122
            have tr127 := UM122.i (c := 294) (k := 37) (Or.inr (by decide))
            refine PW.cI q_265_124 (by decide) fun c128 hc128 => ?_
            refine PW.rZ q_265_125 rfl (by omega) (by omega) (by decide) (by decide) ?_
            have ons : s_one y i := by omega
            have e : s_op y f m i st on = (0, 0, (i + 1, false, true :: st, on + 1)) := by unfold s_op; rw [if_neg (not_not_intro ons), if_neg (by omega), if_neg (by omega), if_pos (by omega)]
            have rq := r_Q.un (M1 := M122) (b := true) (v := 23) hp_4 (by omega) (fun z hz => ((congrFun ((congrArg o_a (UM122.1 305 (by decide))).trans (congrArg o_a (UM113.1 305 (by decide)))) z).trans ((UM104.2 z (by omega)).trans (congrFun ((congrArg o_a (Fr.at GM93 kd_305 rfl)).trans (congrArg o_a (UM87.1 305 (by decide)))) z)))) (by rw [((congrArg o_a (UM122.1 305 (by decide))).trans (congrArg o_a (UM113.1 305 (by decide)))), show (o_i (M 294) 35).toNat = x101.toInt.toNat from by omega, fM104]; omega) (Or.inr ⟨rfl, rfl⟩) (by omega) (by omega)
            exact hK c128 M122 IM122 FM122 (by omega) (by omega) ⟨(((((gKl.refl.put UM87 rfl).tr QM93 rfl).cg (UM104.1 294 (by decide))).put UM113 rfl).put UM122 rfl), (Or.inl ⟨by omega, by rw [e], gSm.of (gSn.push (k1 := o_a (M104 305)) w2 (by omega) (fun z hz => (UM104.2 z (by omega)).trans (congrFun ((congrArg o_a (Fr.at GM93 kd_305 rfl)).trans (congrArg o_a (UM87.1 305 (by decide)))) z)) (by rw [show (o_i (M 294) 35).toNat = x101.toInt.toNat from by omega, fM104]; omega) rfl) (by omega) (by omega) (by omega) (by omega) ((congrArg o_a (UM122.1 298 (by decide))).trans ((congrArg o_a (UM113.1 298 (by decide))).trans ((congrArg o_a (UM104.1 298 (by decide))).trans ((congrArg o_a (Fr.at GM93 kd_298 rfl)).trans (congrArg o_a (UM87.1 298 (by decide))))))) ((congrArg o_a (UM122.1 305 (by decide))).trans (congrArg o_a (UM113.1 305 (by decide)))), by rw [e]; exact ⟨(((PtM93.cg (UM104.1 294 (by decide)) (UM104.1 295 (by decide)) (UM104.1 300 (by decide))).U UM113 rfl).U UM122 rfl), rq.1, by show _ = on + 1; omega, Or.inl ⟨rfl, by omega, by rw [rq.2, hp_5]⟩⟩, ((UM122.i (c := 294) (k := 15) (Or.inr (by decide))).trans ((UM113.i (c := 294) (k := 15) (Or.inr (by decide))).trans ((congrArg (fun e => o_i e 15) (UM104.1 294 (by decide))).trans ((QM93.i 15 rfl).trans (UM87.i (c := 294) (k := 15) (Or.inr (by decide)))))))⟩)⟩
          · skip
            refine PW.aload_n q_265_56 rfl ?_
            refine PW.cI q_265_57 (by decide) fun c129 hc129 => ?_
            refine PW.cV (as := [_]) (rest := []) q_265_58 t_mv_265_170 kd_294 I.1 (by decide) rfl (by decide) rfl rfl (Nat.le_of_ble_eq_true rfl) (Nat.le_of_ble_eq_true rfl) (by decide) (by decide) ?_
            refine PW.up (by decide) (c_X12_bad_vk (gTT) (Stab0) G _ M I c129 y (i) hp_2 fun x131 M130 IM130 GM130 hx131 kx131 PM130 => ?_)
            have FM130 := Fr.trans F GM130 (rfl)
            rcases PM130 with ⟨QM130, ⟨PfM130, PgM130⟩⟩
            refine PW.rZ q_265_61 rfl (by omega) (by omega) (by decide) (by decide) ?_
            have ons : s_one y i := by omega
            have e : s_op y f m i st on = (4, kP y i, (0, false, [], 0)) := by unfold s_op; rw [if_neg (not_not_intro ons), if_pos (by omega)]
            exact hK x131 M130 IM130 FM130 (by omega) (by omega) ⟨(gKl.refl.tr QM130 rfl), (Or.inr ⟨by omega, by rw [e]; exact (show (1 : Int) ≤ 4 by omega), by rw [e]; exact (show (4 : Int) ≤ 4 by omega), by rw [e]; exact (show o_i (M130 294) 15 = 4 by omega), by rw [e]; exact (show o_i (M130 294) 16 = kP y i by omega)⟩)⟩
    · skip
      refine PW.istore_n q_265_14 (by decide) ?_
      refine PW.aload_n q_265_15 rfl ?_
      refine PW.cV (as := []) (rest := []) q_265_16 t_mv_265_395 kd_294 I.1 (by decide) rfl (by decide) rfl rfl (Nat.le_of_ble_eq_true rfl) (Nat.le_of_ble_eq_true rfl) (by decide) (by decide) ?_
      refine PW.up (by decide) (c_X12_leafOf_vk (gTT) (Stab0) G _ M I y (i) hp_2 fun x133  hx133 kx133 PM132 => ?_)
      rcases PM132 with ⟨PbM132, PcM132, PdM132, PaM132⟩ | ⟨PaM132, PnM132⟩
      · skip
        refine PW.istore_n q_265_19 (by decide) ?_
        refine PW.iload_n q_265_20 rfl ?_
        refine PW.jz_ne q_265_21 rfl (fun h134 => False.elim (by omega)) (fun h134 => ?_)
        refine PW.iload_n q_265_24 rfl ?_
        refine PW.jz_ne q_265_25 rfl (fun h135 => False.elim (by omega)) (fun h135 => ?_)
        refine PW.iload_n q_265_28 rfl ?_
        refine PW.jz_ge q_265_29 rfl (fun h136 => ?_) (fun h136 => False.elim (by omega))
        refine PW.aload_n q_265_38 rfl ?_
        refine PW.gI q_265_39 (Or.inl t_ft_265_398) gF_40_34 kd_294 I.1 (by decide) fun x137 fx137 hx137 kx137 => ?_
        have ix137 := o_i_of fx137
        have trx137 := o_i_of fx137
        refine PW.cB q_265_42 (by decide) fun c138 hc138 => ?_
        refine PW.jc_eq q_265_44 rfl (fun h139 => ?_) (fun h139 => ?_)
        · skip
          refine PW.aload_n q_265_56 rfl ?_
          refine PW.cI q_265_57 (by decide) fun c140 hc140 => ?_
          refine PW.cV (as := [_]) (rest := []) q_265_58 t_mv_265_170 kd_294 I.1 (by decide) rfl (by decide) rfl rfl (Nat.le_of_ble_eq_true rfl) (Nat.le_of_ble_eq_true rfl) (by decide) (by decide) ?_
          refine PW.up (by decide) (c_X12_bad_vk (gTT) (Stab0) G _ M I c140 y (i) hp_2 fun x142 M141 IM141 GM141 hx142 kx142 PM141 => ?_)
          have FM141 := Fr.trans F GM141 (rfl)
          rcases PM141 with ⟨QM141, ⟨PfM141, PgM141⟩⟩
          refine PW.rZ q_265_61 rfl (by omega) (by omega) (by decide) (by decide) ?_
          have ons : s_one y i := by omega
          have e : s_op y f m i st on = (4, kP y i, (0, false, [], 0)) := by unfold s_op; rw [if_neg (not_not_intro ons), if_pos (by omega)]
          exact hK x142 M141 IM141 FM141 (by omega) (by omega) ⟨(gKl.refl.tr QM141 rfl), (Or.inr ⟨by omega, by rw [e]; exact (show (1 : Int) ≤ 4 by omega), by rw [e]; exact (show (4 : Int) ≤ 4 by omega), by rw [e]; exact (show o_i (M141 294) 15 = 4 by omega), by rw [e]; exact (show o_i (M141 294) 16 = kP y i by omega)⟩)⟩
        · skip
          refine PW.aload_n q_265_47 rfl ?_
          refine PW.gI q_265_48 (Or.inl t_ft_265_392) gF_40_36 kd_294 I.1 (by decide) fun x143 fx143 hx143 kx143 => ?_
          have ix143 := o_i_of fx143
          have trx143 := o_i_of fx143
          clear hx143 kx143
          refine PW.cB q_265_51 (by decide) fun c144 hc144 => ?_
          refine PW.jc_le q_265_53 rfl (fun h145 => ?_) (fun h145 => ?_)
          · skip
            refine PW.aload_n q_265_62 rfl ?_
            refine PW.dup q_265_63 rfl ?_
            refine PW.gE q_265_64 (Or.inl t_ft_265_398) gF_40_34 kd_294 I.1 (by decide) fx137 ?_
            have tr146 := o_i_of fx137
            refine PW.cI q_265_67 (by decide) fun c147 hc147 => ?_
            refine PW.addN q_265_68 (by omega) (by omega) fun x148 hx148 => ?_
            refine PW.pI q_265_69 (Or.inl t_ft_265_398) gF_40_34 gP_40_34 kd_294 Stab0 I (by decide) rfl (by omega) (by omega) fun M149 IM149 fM149 UM149 => ?_
            have FM149 := Fr.pu F UM149.1 kd_294 (rfl : List.contains [40, 44, 51] 40 = true)
            have tr150 := UM149.i (c := 294) (k := 33) (Or.inr (by decide))
            have tr151 := o_i_of fM149
            have tr152 := UM149.i (c := 294) (k := 35) (Or.inr (by decide))
            have tr153 := UM149.i (c := 294) (k := 36) (Or.inr (by decide))
            have tr154 := UM149.i (c := 294) (k := 37) (Or.inr (by decide))
            refine PW.aload_n q_265_72 rfl ?_
            refine PW.cV (as := []) (rest := []) q_265_73 t_mv_265_173 kd_294 IM149.1 (by decide) rfl (by decide) rfl rfl (Nat.le_of_ble_eq_true rfl) (Nat.le_of_ble_eq_true rfl) (by decide) (by decide) ?_
            refine PW.up (by decide) (c_X12_go_vk (gTT) (Stab0) G _ M149 IM149 y (i + 1) (k_ra.nx (hp_2.U UM149 rfl) (by omega)) fun M155 IM155 GM155 PM155 => ?_)
            have FM155 := Fr.trans FM149 GM155 (rfl)
            rcases PM155 with ⟨QM155, PtM155⟩
            have tr156 := QM155.i 33 rfl
            have tr157 := QM155.i 34 rfl
            have tr158 := QM155.i 35 rfl
            have tr159 := QM155.i 36 rfl
            have tr160 := QM155.i 37 rfl
            refine PW.iload_n q_265_76 rfl ?_
            refine PW.jz_ne q_265_77 rfl (fun h161 => False.elim (by omega)) (fun h161 => ?_)
            refine PW.iload_n q_265_80 rfl ?_
            refine PW.jz_eq q_265_81 rfl (fun h162 => ?_) (fun h162 => False.elim (by omega))
            refine PW.aload_n q_265_126 rfl ?_
            refine PW.cI q_265_127 (by decide) fun c163 hc163 => ?_
            refine PW.pT q_265_128 (Or.inl t_ft_265_401) gF_40_37 gP_40_37 kd_294 IM155 (by decide) rfl (by omega) (by omega) fun M164 IM164 fM164 UM164 => ?_
            have FM164 := Fr.pu FM155 UM164.1 kd_294 (rfl : List.contains [40, 44, 51] 40 = true)
            have tr165 := UM164.i (c := 294) (k := 33) (Or.inr (by decide))
            have tr166 := UM164.i (c := 294) (k := 34) (Or.inr (by decide))
            have tr167 := UM164.i (c := 294) (k := 35) (Or.inr (by decide))
            have tr168 := UM164.i (c := 294) (k := 36) (Or.inr (by decide))
            have tr169 := o_i_of fM164
            refine PW.iload_n q_265_131 rfl ?_
            refine PW.cI q_265_132 (by decide) fun c170 hc170 => ?_
            refine PW.jc_ge q_265_133 rfl (fun h171 => ?_) (fun h171 => ?_)
            · skip
              refine PW.iload_n q_265_145 rfl ?_
              refine PW.cI q_265_146 (by decide) fun c172 hc172 => ?_
              refine PW.jc_ne q_265_147 rfl (fun h173 => ?_) (fun h173 => ?_)
              · skip
                have ks := k_rS (PtM155.U UM164 rfl)
                refine PW.aload_n q_265_182 rfl ?_
                refine PW.gI q_265_183 (Or.inl t_ft_265_144) gF_40_11 kd_294 IM164.1 (by decide) fun x174 fx174 hx174 kx174 => ?_
                have ix174 := o_i_of fx174
                clear hx174 kx174
                refine PW.cI q_265_186 (by decide) fun c175 hc175 => ?_
                refine PW.jc_ne q_265_187 rfl (fun h176 => ?_) (fun h176 => ?_)
                · skip
                  refine PW.aload_n q_265_208 rfl ?_
                  refine PW.cI q_265_209 (by decide) fun c177 hc177 => ?_
                  refine PW.cV (as := [_]) (rest := []) q_265_210 t_mv_265_170 kd_294 IM164.1 (by decide) rfl (by decide) rfl rfl (Nat.le_of_ble_eq_true rfl) (Nat.le_of_ble_eq_true rfl) (by decide) (by decide) ?_
                  refine PW.up (by decide) (c_X12_bad_vk (gTT) (Stab0) G _ M164 IM164 c177 y (i + 1) (PtM155.U UM164 rfl) fun x179 M178 IM178 GM178 hx179 kx179 PM178 => ?_)
                  have FM178 := Fr.trans FM164 GM178 (rfl)
                  rcases PM178 with ⟨QM178, ⟨PfM178, PgM178⟩⟩
                  refine PW.rZ q_265_213 rfl (by omega) (by omega) (by decide) (by decide) ?_
                  have ons : s_one y i := by omega
                  have e1 : s_pn y f m i = (1, kP y (i + 1), 0) := by unfold s_pn; rw [if_neg (by omega), if_neg (by omega), if_pos (by omega)]
                  have e0 : (s_pn y f m i).1 ≠ 0 := by rw [e1]; show (1 : Int) ≠ 0; omega
                  have e : s_op y f m i st on = (1, kP y (i + 1), (0, false, [], 0)) := by unfold s_op; rw [if_neg (not_not_intro ons), if_neg (by omega), if_neg (by omega), if_neg (by omega), if_pos e0, e1]
                  exact hK x179 M178 IM178 FM178 (by omega) (by omega) ⟨((((gKl.refl.put UM149 rfl).tr QM155 rfl).put UM164 rfl).tr QM178 rfl), (Or.inr ⟨by omega, by rw [e]; exact (show (1 : Int) ≤ 1 by omega), by rw [e]; exact (show (1 : Int) ≤ 4 by omega), by rw [e]; exact (show o_i (M178 294) 15 = 1 by omega), by rw [e]; exact (show o_i (M178 294) 16 = kP y (i + 1) by omega)⟩)⟩
                · skip
                  refine PW.aload_n q_265_190 rfl ?_
                  refine PW.gI q_265_191 (Or.inl t_ft_265_154) gF_40_14 kd_294 IM164.1 (by decide) fun x180 fx180 hx180 kx180 => ?_
                  have ix180 := o_i_of fx180
                  clear hx180 kx180
                  refine PW.cB q_265_194 (by decide) fun c181 hc181 => ?_
                  refine PW.jc_lt q_265_196 rfl (fun h182 => ?_) (fun h182 => ?_)
                  · skip
                    refine PW.aload_n q_265_208 rfl ?_
                    refine PW.cI q_265_209 (by decide) fun c183 hc183 => ?_
                    refine PW.cV (as := [_]) (rest := []) q_265_210 t_mv_265_170 kd_294 IM164.1 (by decide) rfl (by decide) rfl rfl (Nat.le_of_ble_eq_true rfl) (Nat.le_of_ble_eq_true rfl) (by decide) (by decide) ?_
                    refine PW.up (by decide) (c_X12_bad_vk (gTT) (Stab0) G _ M164 IM164 c183 y (i + 1) (PtM155.U UM164 rfl) fun x185 M184 IM184 GM184 hx185 kx185 PM184 => ?_)
                    have FM184 := Fr.trans FM164 GM184 (rfl)
                    rcases PM184 with ⟨QM184, ⟨PfM184, PgM184⟩⟩
                    refine PW.rZ q_265_213 rfl (by omega) (by omega) (by decide) (by decide) ?_
                    have ons : s_one y i := by omega
                    have e1 : s_pn y f m i = (1, kP y (i + 1), 0) := by unfold s_pn; rw [if_neg (by omega), if_neg (by omega), if_pos (by omega)]
                    have e0 : (s_pn y f m i).1 ≠ 0 := by rw [e1]; show (1 : Int) ≠ 0; omega
                    have e : s_op y f m i st on = (1, kP y (i + 1), (0, false, [], 0)) := by unfold s_op; rw [if_neg (not_not_intro ons), if_neg (by omega), if_neg (by omega), if_neg (by omega), if_pos e0, e1]
                    exact hK x185 M184 IM184 FM184 (by omega) (by omega) ⟨((((gKl.refl.put UM149 rfl).tr QM155 rfl).put UM164 rfl).tr QM184 rfl), (Or.inr ⟨by omega, by rw [e]; exact (show (1 : Int) ≤ 1 by omega), by rw [e]; exact (show (1 : Int) ≤ 4 by omega), by rw [e]; exact (show o_i (M184 294) 15 = 1 by omega), by rw [e]; exact (show o_i (M184 294) 16 = kP y (i + 1) by omega)⟩)⟩
                  · skip
                    refine PW.aload_n q_265_199 rfl ?_
                    refine PW.gE q_265_200 (Or.inl t_ft_265_154) gF_40_14 kd_294 IM164.1 (by decide) fx180 ?_
                    refine PW.cB q_265_203 (by decide) fun c186 hc186 => ?_
                    refine PW.jc_le q_265_205 rfl (fun h187 => ?_) (fun h187 => ?_)
                    · skip
                      refine PW.aload_n q_265_214 rfl ?_
                      refine PW.gE q_265_215 (Or.inl t_ft_265_154) gF_40_14 kd_294 IM164.1 (by decide) fx180 ?_
                      refine PW.istore q_265_218 (by decide) ?_
                      refine PW.aload_n q_265_220 rfl ?_
                      refine PW.cV (as := []) (rest := []) q_265_221 t_mv_265_173 kd_294 IM164.1 (by decide) rfl (by decide) rfl rfl (Nat.le_of_ble_eq_true rfl) (Nat.le_of_ble_eq_true rfl) (by decide) (by decide) ?_
                      refine PW.up (by decide) (c_X12_go_vk (gTT) (Stab0) G _ M164 IM164 y (i + 2) (k_ra.nx (PtM155.U UM164 rfl) (by omega)) fun M188 IM188 GM188 PM188 => ?_)
                      have FM188 := Fr.trans FM164 GM188 (rfl)
                      rcases PM188 with ⟨QM188, PtM188⟩
                      have tr189 := QM188.i 33 rfl
                      have tr190 := QM188.i 34 rfl
                      have tr191 := QM188.i 35 rfl
                      have tr192 := QM188.i 36 rfl
                      have tr193 := QM188.i 37 rfl
                      have kn := k_rN PtM188
                      refine PW.aload_n q_265_224 rfl ?_
                      refine PW.gI q_265_225 (Or.inl t_ft_265_144) gF_40_11 kd_294 IM188.1 (by decide) fun x194 fx194 hx194 kx194 => ?_
                      have ix194 := o_i_of fx194
                      clear hx194 kx194
                      refine PW.cI q_265_228 (by decide) fun c195 hc195 => ?_
                      refine PW.jc_eq q_265_229 rfl (fun h196 => ?_) (fun h196 => ?_)
                      · skip
                        refine PW.aload_n q_265_238 rfl ?_
                        refine PW.iload_n q_265_239 rfl ?_
                        refine PW.iload q_265_240 rfl ?_
                        refine PW.aload_n q_265_242 rfl ?_
                        refine PW.gI q_265_243 (Or.inl t_ft_265_154) gF_40_14 kd_294 IM188.1 (by decide) fun x197 fx197 hx197 kx197 => ?_
                        have ix197 := o_i_of fx197
                        clear hx197 kx197
                        refine PW.cV (as := [_, _, _]) (rest := []) q_265_246 t_mv_265_388 kd_294 IM188.1 (by decide) rfl (by decide) rfl rfl (Nat.le_of_ble_eq_true rfl) (Nat.le_of_ble_eq_true rfl) (by decide) (by decide) ?_
                        refine PW.up (by decide) (c_X12_code_vs G _ M188 IM188 x133 x180 x197 (by omega) fun M198 IM198 GM198 PM198 => ?_)
                        have FM198 := Fr.trans FM188 GM198 (rfl)
                        obtain ⟨QM198, KaM198, KbM198, KcM198, KeM198, KfM198, KhM198, KgM198⟩ := PM198
                        have tr199 := QM198.i 36 rfl
                        refine PW.aload_n q_265_249 rfl ?_
                        refine PW.cV (as := []) (rest := []) q_265_250 t_mv_265_173 kd_294 IM198.1 (by decide) rfl (by decide) rfl rfl (Nat.le_of_ble_eq_true rfl) (Nat.le_of_ble_eq_true rfl) (by decide) (by decide) ?_
                        refine PW.up (by decide) (c_X12_go_vk (gTT) (Stab0) G _ M198 IM198 y (i + 3) (k_ra.nx (PtM188.K QM198 (Fr.at GM198 kd_295 (by decide)) (Fr.at GM198 kd_300 (by decide)) rfl) (by omega)) fun M200 IM200 GM200 PM200 => ?_)
                        have FM200 := Fr.trans FM198 GM200 (rfl)
                        rcases PM200 with ⟨QM200, PtM200⟩
                        have tr201 := QM200.i 33 rfl
                        have tr202 := QM200.i 34 rfl
                        have tr203 := QM200.i 35 rfl
                        have tr204 := QM200.i 36 rfl
                        have tr205 := QM200.i 37 rfl
                        refine PW.cI q_265_253 (by decide) fun c206 hc206 => ?_
                        refine PW.rZ q_265_254 rfl (by omega) (by omega) (by decide) (by decide) ?_
                        have ons : s_one y i := by omega
                        have e1 : s_pn y f m i = (0, 0, i + 3) := by unfold s_pn; rw [if_neg (by omega), if_neg (by omega), if_neg (by omega), if_neg (by omega)]
                        have e0 : (s_pn y f m i).1 = 0 := by rw [e1]
                        have e : s_op y f m i st on = (0, 0, (i + 3, true, s_dn st, on + 1)) := by unfold s_op; rw [if_neg (not_not_intro ons), if_neg (by omega), if_neg (by omega), if_neg (by omega), if_neg (not_not_intro e0), e1]
                        have kg207 := KgM198
                        rw [((congrArg o_a (Fr.at GM188 kd_298 rfl)).trans ((congrArg o_a (UM164.1 298 (by decide))).trans ((congrArg o_a (Fr.at GM155 kd_298 rfl)).trans (congrArg o_a (UM149.1 298 (by decide)))))), show o_i (M188 294) 33 = o_i (M 294) 33 from by omega] at kg207
                        have re : r_E M M200 := ⟨((congrArg o_a (Fr.at GM200 kd_305 rfl)).trans ((congrArg o_a (Fr.at GM198 kd_305 rfl)).trans ((congrArg o_a (Fr.at GM188 kd_305 rfl)).trans ((congrArg o_a (UM164.1 305 (by decide))).trans ((congrArg o_a (Fr.at GM155 kd_305 rfl)).trans (congrArg o_a (UM149.1 305 (by decide)))))))), by omega, by omega⟩
                        exact hK c206 M200 IM200 FM200 (by omega) (by omega) ⟨((((((gKl.refl.put UM149 rfl).tr QM155 rfl).put UM164 rfl).tr QM188 rfl).tr QM198 rfl).tr QM200 rfl), (Or.inl ⟨by omega, by rw [e], gSm.of (gSn.leaf w2 (by omega) kg207 ⟨by omega, by omega⟩ (by omega) rfl) (by omega) (by omega) (by omega) (by omega) (congrArg o_a (Fr.at GM200 kd_298 rfl)) ((congrArg o_a (Fr.at GM200 kd_305 rfl)).trans ((congrArg o_a (Fr.at GM198 kd_305 rfl)).trans ((congrArg o_a (Fr.at GM188 kd_305 rfl)).trans ((congrArg o_a (UM164.1 305 (by decide))).trans ((congrArg o_a (Fr.at GM155 kd_305 rfl)).trans (congrArg o_a (UM149.1 305 (by decide)))))))), by rw [e]; exact ⟨PtM200, re.Q hp_4, by show _ = on + 1; omega, Or.inr ⟨rfl, by omega, by rw [re.P, hp_5]⟩⟩, ((QM200.i 15 rfl).trans ((QM198.i 15 rfl).trans ((QM188.i 15 rfl).trans ((UM164.i (c := 294) (k := 15) (Or.inr (by decide))).trans ((QM155.i 15 rfl).trans (UM149.i (c := 294) (k := 15) (Or.inr (by decide))))))))⟩)⟩
                      · skip
                        refine PW.aload_n q_265_232 rfl ?_
                        refine PW.cI q_265_233 (by decide) fun c208 hc208 => ?_
                        refine PW.cV (as := [_]) (rest := []) q_265_234 t_mv_265_170 kd_294 IM188.1 (by decide) rfl (by decide) rfl rfl (Nat.le_of_ble_eq_true rfl) (Nat.le_of_ble_eq_true rfl) (by decide) (by decide) ?_
                        refine PW.up (by decide) (c_X12_bad_vk (gTT) (Stab0) G _ M188 IM188 c208 y (i + 2) PtM188 fun x210 M209 IM209 GM209 hx210 kx210 PM209 => ?_)
                        have FM209 := Fr.trans FM188 GM209 (rfl)
                        rcases PM209 with ⟨QM209, ⟨PfM209, PgM209⟩⟩
                        refine PW.rZ q_265_237 rfl (by omega) (by omega) (by decide) (by decide) ?_
                        have ons : s_one y i := by omega
                        have e1 : s_pn y f m i = (1, kP y (i + 2), 0) := by unfold s_pn; rw [if_neg (by omega), if_neg (by omega), if_neg (by omega), if_pos (by omega)]
                        have e0 : (s_pn y f m i).1 ≠ 0 := by rw [e1]; show (1 : Int) ≠ 0; omega
                        have e : s_op y f m i st on = (1, kP y (i + 2), (0, false, [], 0)) := by unfold s_op; rw [if_neg (not_not_intro ons), if_neg (by omega), if_neg (by omega), if_neg (by omega), if_pos e0, e1]
                        exact hK x210 M209 IM209 FM209 (by omega) (by omega) ⟨(((((gKl.refl.put UM149 rfl).tr QM155 rfl).put UM164 rfl).tr QM188 rfl).tr QM209 rfl), (Or.inr ⟨by omega, by rw [e]; exact (show (1 : Int) ≤ 1 by omega), by rw [e]; exact (show (1 : Int) ≤ 4 by omega), by rw [e]; exact (show o_i (M209 294) 15 = 1 by omega), by rw [e]; exact (show o_i (M209 294) 16 = kP y (i + 2) by omega)⟩)⟩
                    · skip
                      refine PW.aload_n q_265_208 rfl ?_
                      refine PW.cI q_265_209 (by decide) fun c211 hc211 => ?_
                      refine PW.cV (as := [_]) (rest := []) q_265_210 t_mv_265_170 kd_294 IM164.1 (by decide) rfl (by decide) rfl rfl (Nat.le_of_ble_eq_true rfl) (Nat.le_of_ble_eq_true rfl) (by decide) (by decide) ?_
                      refine PW.up (by decide) (c_X12_bad_vk (gTT) (Stab0) G _ M164 IM164 c211 y (i + 1) (PtM155.U UM164 rfl) fun x213 M212 IM212 GM212 hx213 kx213 PM212 => ?_)
                      have FM212 := Fr.trans FM164 GM212 (rfl)
                      rcases PM212 with ⟨QM212, ⟨PfM212, PgM212⟩⟩
                      refine PW.rZ q_265_213 rfl (by omega) (by omega) (by decide) (by decide) ?_
                      have ons : s_one y i := by omega
                      have e1 : s_pn y f m i = (1, kP y (i + 1), 0) := by unfold s_pn; rw [if_neg (by omega), if_neg (by omega), if_pos (by omega)]
                      have e0 : (s_pn y f m i).1 ≠ 0 := by rw [e1]; show (1 : Int) ≠ 0; omega
                      have e : s_op y f m i st on = (1, kP y (i + 1), (0, false, [], 0)) := by unfold s_op; rw [if_neg (not_not_intro ons), if_neg (by omega), if_neg (by omega), if_neg (by omega), if_pos e0, e1]
                      exact hK x213 M212 IM212 FM212 (by omega) (by omega) ⟨((((gKl.refl.put UM149 rfl).tr QM155 rfl).put UM164 rfl).tr QM212 rfl), (Or.inr ⟨by omega, by rw [e]; exact (show (1 : Int) ≤ 1 by omega), by rw [e]; exact (show (1 : Int) ≤ 4 by omega), by rw [e]; exact (show o_i (M212 294) 15 = 1 by omega), by rw [e]; exact (show o_i (M212 294) 16 = kP y (i + 1) by omega)⟩)⟩
              · skip
                refine PW.aload_n q_265_150 rfl ?_
                refine PW.cI q_265_151 (by decide) fun c214 hc214 => ?_
                refine PW.aload_n q_265_152 rfl ?_
                refine PW.gR 296 q_265_153 (Or.inl t_ft_265_33) gF_40_6 kd_294 IM164.1 (by decide) rfl ?_
                refine PW.cI q_265_156 (by decide) fun c215 hc215 => ?_
                refine PW.aI q_265_157 gA_42 kd_296 IM164.1 (by decide) gB_42_0_0 (by decide) (by omega) (by omega) fun x216 fx216 hx216 kx216 => ?_
                have sm : x216.toInt = m := by rw [← fx216, show c215.toInt.toNat = 0 from by omega, ((UM164.1 _ (g_ne kd_296 kd_294 (by decide))).trans ((Fr.at GM155 kd_296 (by decide)).trans (UM149.1 _ (g_ne kd_296 kd_294 (by decide)))))]; exact hp_3.1
                have sm6 := hp_3.2.1
                have sm7 := hp_3.2.2.1
                refine PW.cV (as := [_, _]) (rest := []) q_265_158 t_mv_265_217 kd_294 IM164.1 (by decide) rfl (by decide) rfl rfl (Nat.le_of_ble_eq_true rfl) (Nat.le_of_ble_eq_true rfl) (by decide) (by decide) ?_
                refine PW.up (by decide) (c_X12_looksAt_vk0 (gTT) (Stab0) G _ M164 IM164 c214 x216 (by omega) (by omega) (by omega) (by omega) y (i + 1) f m (PtM155.U UM164 rfl) (hp_3.cg ((UM164.1 _ (g_ne kd_296 kd_294 (by decide))).trans ((Fr.at GM155 kd_296 (by decide)).trans (UM149.1 _ (g_ne kd_296 kd_294 (by decide))))) ((UM164.1 _ (g_ne kd_299 kd_294 (by decide))).trans ((Fr.at GM155 kd_299 (by decide)).trans (UM149.1 _ (g_ne kd_299 kd_294 (by decide)))))) (by omega) fun x218 M217 IM217 GM217 hx218 kx218 PM217 => ?_)
                have FM217 := Fr.trans FM164 GM217 (rfl)
                rcases PM217 with ⟨QM217, ⟨PaM217, PbM217, PfM217, PgM217⟩ | ⟨PaM217, PbM217, PcM217, PfM217, PgM217⟩ | ⟨PaM217, PbM217, PkM217, PvM217, PnM217, PtM217, P5M217⟩⟩
                · skip
                  have tr219 := QM217.i 33 rfl
                  have tr220 := QM217.i 34 rfl
                  have tr221 := QM217.i 35 rfl
                  have tr222 := QM217.i 36 rfl
                  have tr223 := QM217.i 37 rfl
                  refine PW.jz_ne q_265_161 rfl (fun h224 => False.elim (by omega)) (fun h224 => ?_)
                  refine PW.cI q_265_164 (by decide) fun c225 hc225 => ?_
                  refine PW.rZ q_265_165 rfl (by omega) (by omega) (by decide) (by decide) ?_
                  have ons : s_one y i := by omega
                  have e1 : s_pn y f m i = (1, kP y (i + 1), 0) := by unfold s_pn; rw [if_neg (by omega), if_pos (by omega), if_pos (by omega)]
                  have e0 : (s_pn y f m i).1 ≠ 0 := by rw [e1]; show (1 : Int) ≠ 0; omega
                  have e : s_op y f m i st on = (1, kP y (i + 1), (0, false, [], 0)) := by unfold s_op; rw [if_neg (not_not_intro ons), if_neg (by omega), if_neg (by omega), if_neg (by omega), if_pos e0, e1]
                  exact hK c225 M217 IM217 FM217 (by omega) (by omega) ⟨((((gKl.refl.put UM149 rfl).tr QM155 rfl).put UM164 rfl).tr QM217 rfl), (Or.inr ⟨by omega, by rw [e]; exact (show (1 : Int) ≤ 1 by omega), by rw [e]; exact (show (1 : Int) ≤ 4 by omega), by rw [e]; exact (show o_i (M217 294) 15 = 1 by omega), by rw [e]; exact (show o_i (M217 294) 16 = kP y (i + 1) by omega)⟩)⟩
                · skip
                  have tr226 := QM217.i 33 rfl
                  have tr227 := QM217.i 34 rfl
                  have tr228 := QM217.i 35 rfl
                  have tr229 := QM217.i 36 rfl
                  have tr230 := QM217.i 37 rfl
                  refine PW.jz_ne q_265_161 rfl (fun h231 => False.elim (by omega)) (fun h231 => ?_)
                  refine PW.cI q_265_164 (by decide) fun c232 hc232 => ?_
                  refine PW.rZ q_265_165 rfl (by omega) (by omega) (by decide) (by decide) ?_
                  have ons : s_one y i := by omega
                  have e1 : s_pn y f m i = (3, kP y (i + 1), 0) := by unfold s_pn; rw [if_neg (by omega), if_pos (by omega), if_neg (by omega), if_pos (by omega)]
                  have e0 : (s_pn y f m i).1 ≠ 0 := by rw [e1]; show (3 : Int) ≠ 0; omega
                  have e : s_op y f m i st on = (3, kP y (i + 1), (0, false, [], 0)) := by unfold s_op; rw [if_neg (not_not_intro ons), if_neg (by omega), if_neg (by omega), if_neg (by omega), if_pos e0, e1]
                  exact hK c232 M217 IM217 FM217 (by omega) (by omega) ⟨((((gKl.refl.put UM149 rfl).tr QM155 rfl).put UM164 rfl).tr QM217 rfl), (Or.inr ⟨by omega, by rw [e]; exact (show (1 : Int) ≤ 3 by omega), by rw [e]; exact (show (3 : Int) ≤ 4 by omega), by rw [e]; exact (show o_i (M217 294) 15 = 3 by omega), by rw [e]; exact (show o_i (M217 294) 16 = kP y (i + 1) by omega)⟩)⟩
                · skip
                  have tr233 := QM217.i 33 rfl
                  have tr234 := QM217.i 34 rfl
                  have tr235 := QM217.i 35 rfl
                  have tr236 := QM217.i 36 rfl
                  have tr237 := QM217.i 37 rfl
                  refine PW.jz_ne q_265_161 rfl (fun h238 => ?_) (fun h238 => False.elim (by omega))
                  refine PW.aload_n q_265_166 rfl ?_
                  refine PW.iload_n q_265_167 rfl ?_
                  refine PW.cI q_265_168 (by decide) fun c239 hc239 => ?_
                  refine PW.aload_n q_265_169 rfl ?_
                  refine PW.gI q_265_170 (Or.inl t_ft_265_180) gF_40_18 kd_294 IM217.1 (by decide) fun x240 fx240 hx240 kx240 => ?_
                  have ix240 := o_i_of fx240
                  clear hx240 kx240
                  have kb := k_fd_b f (kV y (i + 1)) m.toNat
                  refine PW.cV (as := [_, _, _]) (rest := []) q_265_173 t_mv_265_388 kd_294 IM217.1 (by decide) rfl (by decide) rfl rfl (Nat.le_of_ble_eq_true rfl) (Nat.le_of_ble_eq_true rfl) (by decide) (by decide) ?_
                  refine PW.up (by decide) (c_X12_code_vs G _ M217 IM217 x133 c239 x240 (by omega) fun M241 IM241 GM241 PM241 => ?_)
                  have FM241 := Fr.trans FM217 GM241 (rfl)
                  obtain ⟨QM241, KaM241, KbM241, KcM241, KeM241, KfM241, KhM241, KgM241⟩ := PM241
                  have tr242 := QM241.i 36 rfl
                  refine PW.aload_n q_265_176 rfl ?_
                  refine PW.cV (as := []) (rest := []) q_265_177 t_mv_265_173 kd_294 IM241.1 (by decide) rfl (by decide) rfl rfl (Nat.le_of_ble_eq_true rfl) (Nat.le_of_ble_eq_true rfl) (by decide) (by decide) ?_
                  refine PW.up (by decide) (c_X12_go_vk (gTT) (Stab0) G _ M241 IM241 y (i + 2) (k_ra.nx (PtM217.K QM241 (Fr.at GM241 kd_295 (by decide)) (Fr.at GM241 kd_300 (by decide)) rfl) (by omega)) fun M243 IM243 GM243 PM243 => ?_)
                  have FM243 := Fr.trans FM241 GM243 (rfl)
                  rcases PM243 with ⟨QM243, PtM243⟩
                  have tr244 := QM243.i 33 rfl
                  have tr245 := QM243.i 34 rfl
                  have tr246 := QM243.i 35 rfl
                  have tr247 := QM243.i 36 rfl
                  have tr248 := QM243.i 37 rfl
                  refine PW.cI q_265_180 (by decide) fun c249 hc249 => ?_
                  refine PW.rZ q_265_181 rfl (by omega) (by omega) (by decide) (by decide) ?_
                  have ons : s_one y i := by omega
                  have e1 : s_pn y f m i = (0, 0, i + 2) := by unfold s_pn; rw [if_neg (by omega), if_pos (by omega), if_neg (by omega), if_neg (by omega)]
                  have e0 : (s_pn y f m i).1 = 0 := by rw [e1]
                  have e : s_op y f m i st on = (0, 0, (i + 2, true, s_dn st, on + 1)) := by unfold s_op; rw [if_neg (not_not_intro ons), if_neg (by omega), if_neg (by omega), if_neg (by omega), if_neg (not_not_intro e0), e1]
                  have kg250 := KgM241
                  rw [((congrArg o_a (Fr.at GM217 kd_298 rfl)).trans ((congrArg o_a (UM164.1 298 (by decide))).trans ((congrArg o_a (Fr.at GM155 kd_298 rfl)).trans (congrArg o_a (UM149.1 298 (by decide)))))), show o_i (M217 294) 33 = o_i (M 294) 33 from by omega] at kg250
                  have re : r_E M M243 := ⟨((congrArg o_a (Fr.at GM243 kd_305 rfl)).trans ((congrArg o_a (Fr.at GM241 kd_305 rfl)).trans ((congrArg o_a (Fr.at GM217 kd_305 rfl)).trans ((congrArg o_a (UM164.1 305 (by decide))).trans ((congrArg o_a (Fr.at GM155 kd_305 rfl)).trans (congrArg o_a (UM149.1 305 (by decide)))))))), by omega, by omega⟩
                  exact hK c249 M243 IM243 FM243 (by omega) (by omega) ⟨((((((gKl.refl.put UM149 rfl).tr QM155 rfl).put UM164 rfl).tr QM217 rfl).tr QM241 rfl).tr QM243 rfl), (Or.inl ⟨by omega, by rw [e], gSm.of (gSn.leaf w2 (by omega) kg250 ⟨by omega, by omega⟩ (by omega) rfl) (by omega) (by omega) (by omega) (by omega) (congrArg o_a (Fr.at GM243 kd_298 rfl)) ((congrArg o_a (Fr.at GM243 kd_305 rfl)).trans ((congrArg o_a (Fr.at GM241 kd_305 rfl)).trans ((congrArg o_a (Fr.at GM217 kd_305 rfl)).trans ((congrArg o_a (UM164.1 305 (by decide))).trans ((congrArg o_a (Fr.at GM155 kd_305 rfl)).trans (congrArg o_a (UM149.1 305 (by decide)))))))), by rw [e]; exact ⟨PtM243, re.Q hp_4, by show _ = on + 1; omega, Or.inr ⟨rfl, by omega, by rw [re.P, hp_5]⟩⟩, ((QM243.i 15 rfl).trans ((QM241.i 15 rfl).trans (P5M217.trans ((UM164.i (c := 294) (k := 15) (Or.inr (by decide))).trans ((QM155.i 15 rfl).trans (UM149.i (c := 294) (k := 15) (Or.inr (by decide))))))))⟩)⟩
            · skip
              refine PW.aload_n q_265_136 rfl ?_
              refine PW.iload_n q_265_137 rfl ?_
              refine PW.cI q_265_138 (by decide) fun c251 hc251 => ?_
              refine PW.cI q_265_139 (by decide) fun c252 hc252 => ?_
              refine PW.cV (as := [_, _, _]) (rest := []) q_265_140 t_mv_265_388 kd_294 IM164.1 (by decide) rfl (by decide) rfl rfl (Nat.le_of_ble_eq_true rfl) (Nat.le_of_ble_eq_true rfl) (by decide) (by decide) ?_
              refine PW.up (by decide) (c_X12_code_vs G _ M164 IM164 x133 c251 c252 (by omega) fun M253 IM253 GM253 PM253 => ?_)
              have FM253 := Fr.trans FM164 GM253 (rfl)
              obtain ⟨QM253, KaM253, KbM253, KcM253, KeM253, KfM253, KhM253, KgM253⟩ := PM253
              have tr254 := QM253.i 36 rfl
              refine PW.cI q_265_143 (by decide) fun c255 hc255 => ?_
              refine PW.rZ q_265_144 rfl (by omega) (by omega) (by decide) (by decide) ?_
              have ons : s_one y i := by omega
              have e1 : s_pn y f m i = (0, 0, i + 1) := by unfold s_pn; rw [if_pos (by omega)]
              have e0 : (s_pn y f m i).1 = 0 := by rw [e1]
              have e : s_op y f m i st on = (0, 0, (i + 1, true, s_dn st, on + 1)) := by unfold s_op; rw [if_neg (not_not_intro ons), if_neg (by omega), if_neg (by omega), if_neg (by omega), if_neg (not_not_intro e0), e1]
              have kg256 := KgM253
              rw [((congrArg o_a (UM164.1 298 (by decide))).trans ((congrArg o_a (Fr.at GM155 kd_298 rfl)).trans (congrArg o_a (UM149.1 298 (by decide))))), show o_i (M164 294) 33 = o_i (M 294) 33 from by omega] at kg256
              have re : r_E M M253 := ⟨((congrArg o_a (Fr.at GM253 kd_305 rfl)).trans ((congrArg o_a (UM164.1 305 (by decide))).trans ((congrArg o_a (Fr.at GM155 kd_305 rfl)).trans (congrArg o_a (UM149.1 305 (by decide)))))), by omega, by omega⟩
              exact hK c255 M253 IM253 FM253 (by omega) (by omega) ⟨((((gKl.refl.put UM149 rfl).tr QM155 rfl).put UM164 rfl).tr QM253 rfl), (Or.inl ⟨by omega, by rw [e], gSm.of (gSn.leaf w2 (by omega) kg256 ⟨by omega, by omega⟩ (by omega) rfl) (by omega) (by omega) (by omega) (by omega) rfl ((congrArg o_a (Fr.at GM253 kd_305 rfl)).trans ((congrArg o_a (UM164.1 305 (by decide))).trans ((congrArg o_a (Fr.at GM155 kd_305 rfl)).trans (congrArg o_a (UM149.1 305 (by decide)))))), by rw [e]; exact ⟨((PtM155.U UM164 rfl).K QM253 (Fr.at GM253 kd_295 (by decide)) (Fr.at GM253 kd_300 (by decide)) rfl), re.Q hp_4, by show _ = on + 1; omega, Or.inr ⟨rfl, by omega, by rw [re.P, hp_5]⟩⟩, ((QM253.i 15 rfl).trans ((UM164.i (c := 294) (k := 15) (Or.inr (by decide))).trans ((QM155.i 15 rfl).trans (UM149.i (c := 294) (k := 15) (Or.inr (by decide))))))⟩)⟩
          · skip
            refine PW.aload_n q_265_56 rfl ?_
            refine PW.cI q_265_57 (by decide) fun c257 hc257 => ?_
            refine PW.cV (as := [_]) (rest := []) q_265_58 t_mv_265_170 kd_294 I.1 (by decide) rfl (by decide) rfl rfl (Nat.le_of_ble_eq_true rfl) (Nat.le_of_ble_eq_true rfl) (by decide) (by decide) ?_
            refine PW.up (by decide) (c_X12_bad_vk (gTT) (Stab0) G _ M I c257 y (i) hp_2 fun x259 M258 IM258 GM258 hx259 kx259 PM258 => ?_)
            have FM258 := Fr.trans F GM258 (rfl)
            rcases PM258 with ⟨QM258, ⟨PfM258, PgM258⟩⟩
            refine PW.rZ q_265_61 rfl (by omega) (by omega) (by decide) (by decide) ?_
            have ons : s_one y i := by omega
            have e : s_op y f m i st on = (4, kP y i, (0, false, [], 0)) := by unfold s_op; rw [if_neg (not_not_intro ons), if_pos (by omega)]
            exact hK x259 M258 IM258 FM258 (by omega) (by omega) ⟨(gKl.refl.tr QM258 rfl), (Or.inr ⟨by omega, by rw [e]; exact (show (1 : Int) ≤ 4 by omega), by rw [e]; exact (show (4 : Int) ≤ 4 by omega), by rw [e]; exact (show o_i (M258 294) 15 = 4 by omega), by rw [e]; exact (show o_i (M258 294) 16 = kP y i by omega)⟩)⟩
      · skip
        refine PW.istore_n q_265_19 (by decide) ?_
        refine PW.iload_n q_265_20 rfl ?_
        refine PW.jz_ne q_265_21 rfl (fun h260 => False.elim (by omega)) (fun h260 => ?_)
        refine PW.iload_n q_265_24 rfl ?_
        refine PW.jz_ne q_265_25 rfl (fun h261 => False.elim (by omega)) (fun h261 => ?_)
        refine PW.iload_n q_265_28 rfl ?_
        refine PW.jz_ge q_265_29 rfl (fun h262 => False.elim (by omega)) (fun h262 => ?_)
        refine PW.aload_n q_265_32 rfl ?_
        refine PW.cI q_265_33 (by decide) fun c263 hc263 => ?_
        refine PW.cV (as := [_]) (rest := []) q_265_34 t_mv_265_170 kd_294 I.1 (by decide) rfl (by decide) rfl rfl (Nat.le_of_ble_eq_true rfl) (Nat.le_of_ble_eq_true rfl) (by decide) (by decide) ?_
        refine PW.up (by decide) (c_X12_bad_vk (gTT) (Stab0) G _ M I c263 y (i) hp_2 fun x265 M264 IM264 GM264 hx265 kx265 PM264 => ?_)
        have FM264 := Fr.trans F GM264 (rfl)
        rcases PM264 with ⟨QM264, ⟨PfM264, PgM264⟩⟩
        refine PW.rZ q_265_37 rfl (by omega) (by omega) (by decide) (by decide) ?_
        have e : s_op y f m i st on = (1, kP y i, (0, false, [], 0)) := by unfold s_op; rw [if_pos (by omega)]
        exact hK x265 M264 IM264 FM264 (by omega) (by omega) ⟨(gKl.refl.tr QM264 rfl), (Or.inr ⟨by omega, by rw [e]; exact (show (1 : Int) ≤ 1 by omega), by rw [e]; exact (show (1 : Int) ≤ 4 by omega), by rw [e]; exact (show o_i (M264 294) 15 = 1 by omega), by rw [e]; exact (show o_i (M264 294) 16 = kP y i by omega)⟩)⟩
theorem c_X12_behind_vk (G : pG) (Kr : pK) (M : pM) (I : Iv gTT M) (y : k_X) (i : Nat) (st : List Bool) (on : Int) (hp_0 : gSm M) (hp_1 : o_i (M 294) 37 = 1) (hp_2 : k_ra y M i) (hp_3 : r_Q M) (hp_4 : s_dn (r_P M) = st) (hp_5 : o_i (M 294) 34 = on) (hp_6 : kK y i ≠ 0) (hK : ∀ (x : Int32) (M1 : pM), Iv gTT M1 → Fr [40, 44, 51] M M1 → 0 ≤ x.toInt → x.toInt ≤ 1 → (gKl [4, 11, 12, 13, 14, 15, 16, 17, 18, 33, 34, 35, 36, 37] M M1 ∧ ((x.toInt = 1 ∧ (s_bh y i st on).1 = 0 ∧ gSm M1 ∧ r_J y M1 (s_bh y i st on).2.2 ∧ o_i (M1 294) 15 = o_i (M 294) 15) ∨ (x.toInt = 0 ∧ 1 ≤ (s_bh y i st on).1 ∧ (s_bh y i st on).1 ≤ 4 ∧ o_i (M1 294) 15 = (s_bh y i st on).1 ∧ o_i (M1 294) 16 = (s_bh y i st on).2.1))) → Kr.1 (some (.int x)) 311 M1) : PW G false 2 266 (p_mc 266) (p_msl 266) Kr 0 (lv_args 0 [.ref 294]) [] 311 M 0 0 := by
  have F : Fr [40, 44, 51] M M := Fr.refl
  have hs1 : o_i (M 294) 33 + o_i (M 294) 35 + o_i (M 294) 37 ≤ 2 * o_i (M 294) 34 := hp_0.2.2
  have ho1 := g_on20 I.1
  have hc1 := g_co I.1
  refine PW.aload_n q_266_0 rfl ?_
  refine PW.cV (as := []) (rest := []) q_266_1 t_mv_266_404 kd_294 I.1 (by decide) rfl (by decide) rfl rfl (Nat.le_of_ble_eq_true rfl) (Nat.le_of_ble_eq_true rfl) (by decide) (by decide) ?_
  refine PW.up (by decide) (c_X12_nots_vs G _ M I hp_0 (by omega) hp_3 fun M2 IM2 GM2 PM2 => ?_)
  have FM2 := Fr.trans F GM2 (rfl)
  obtain ⟨NaM2, NbM2, NcM2, NeM2, NfM2, QM2, NqM2, NtM2, NpM2⟩ := PM2
  have hs3 : o_i (M2 294) 33 + o_i (M2 294) 35 + o_i (M2 294) 37 ≤ 2 * o_i (M2 294) 34 := NaM2.2.2
  have ho3 := g_on20 IM2.1
  have hc3 := g_co IM2.1
  have stN : r_P M2 = st := NpM2.trans hp_4
  have dl4 := r_Q.dl NqM2 (by omega)
  have d36 := QM2.i 34 rfl
  refine PW.aload_n q_266_4 rfl ?_
  refine PW.ldc2 q_266_5 t_lt_266_114 ?_
  refine PW.nmLk fun l5 el5 => ?_
  refine PW.cV (as := [_]) (rest := []) q_266_8 t_mv_266_201 kd_294 IM2.1 (by decide) rfl (by decide) rfl rfl (Nat.le_of_ble_eq_true rfl) (Nat.le_of_ble_eq_true rfl) (by decide) (by decide) ?_
  refine PW.up (by decide) (c_X12_isWord_vk (gTT) (Stab0) G _ M2 IM2 l5 y (i) 18 (hp_2.K QM2 (Fr.at GM2 kd_295 (by decide)) (Fr.at GM2 kd_300 (by decide)) rfl) (by rw [el5]; decide +kernel) (by decide) fun x7  hx7 kx7 PM6 => ?_)
  rcases PM6 with ⟨PaM6, PbM6, PcM6⟩ | ⟨PaM6, PnM6⟩
  · skip
    have swM6 := (s_wn_iff (x := y) (i := i) (show 18 < 28 by decide)).mp PcM6
    refine PW.jz_ne q_266_11 rfl (fun h8 => ?_) (fun h8 => False.elim (by omega))
    refine PW.aload_n q_266_24 rfl ?_
    refine PW.aload_n q_266_25 rfl ?_
    refine PW.ldc2 q_266_26 t_lt_266_114 ?_
    refine PW.nmLk fun l9 el9 => ?_
    refine PW.cV (as := [_]) (rest := [_]) q_266_29 t_mv_266_201 kd_294 IM2.1 (by decide) rfl (by decide) rfl rfl (Nat.le_of_ble_eq_true rfl) (Nat.le_of_ble_eq_true rfl) (by decide) (by decide) ?_
    refine PW.up (by decide) (c_X12_isWord_vk (gTT) (Stab0) G _ M2 IM2 l9 y (i) 18 (hp_2.K QM2 (Fr.at GM2 kd_295 (by decide)) (Fr.at GM2 kd_300 (by decide)) rfl) (by rw [el9]; decide +kernel) (by decide) fun x11  hx11 kx11 PM10 => ?_)
    rcases PM10 with ⟨PaM10, PbM10, PcM10⟩ | ⟨PaM10, PnM10⟩
    · skip
      have swM10 := (s_wn_iff (x := y) (i := i) (show 18 < 28 by decide)).mp PcM10
      refine PW.jz_eq q_266_32 rfl (fun h12 => False.elim (by omega)) (fun h12 => ?_)
      refine PW.cB q_266_35 (by decide) fun c13 hc13 => ?_
      refine PW.goto q_266_37 rfl ?_
      refine PW.cV (as := [_]) (rest := []) q_266_42 t_mv_266_407 kd_294 IM2.1 (by decide) rfl (by decide) rfl rfl (Nat.le_of_ble_eq_true rfl) (Nat.le_of_ble_eq_true rfl) (by decide) (by decide) ?_
      refine PW.up (by decide) (c_X12_joins_vs G _ M2 IM2 c13 NaM2 (by omega) NqM2 NtM2 fun M14 IM14 GM14 PM14 => ?_)
      have FM14 := Fr.trans FM2 GM14 (rfl)
      obtain ⟨NaM14, NbM14, NcM14, NeM14, NfM14, NgM14, QM14, NqM14, NpM14, NtM14⟩ := PM14
      have hs15 : o_i (M14 294) 33 + o_i (M14 294) 35 + o_i (M14 294) 37 ≤ 2 * o_i (M14 294) 34 := NaM14.2.2
      have ho15 := g_on20 IM14.1
      have hc15 := g_co IM14.1
      have w16 : gSn (o_i (M14 294) 33) (o_i (M14 294) 35) 1 (o_i (M14 294) 34) (o_a (M14 298)) (o_a (M14 305)) := by have q := NaM14; unfold gSm at q; rw [show o_i (M14 294) 37 = 1 from by omega] at q; exact q
      have stJ : r_P M14 = st := NpM14.trans stN
      have dl17 := r_Q.dl NqM14 (by omega)
      have dJ := QM14.i 36 rfl
      refine PW.aload_n q_266_45 rfl ?_
      refine PW.gR 305 q_266_46 (Or.inl t_ft_266_62) gF_40_32 kd_294 IM14.1 (by decide) rfl ?_
      refine PW.aload_n q_266_49 rfl ?_
      refine PW.gI q_266_50 (Or.inl t_ft_266_385) gF_40_35 kd_294 IM14.1 (by decide) fun x18 fx18 hx18 kx18 => ?_
      have ix18 := o_i_of fx18
      have trx18 := o_i_of fx18
      refine PW.aload_n q_266_53 rfl ?_
      refine PW.ldc2 q_266_54 t_lt_266_114 ?_
      refine PW.nmLk fun l19 el19 => ?_
      refine PW.cV (as := [_]) (rest := [_, _]) q_266_57 t_mv_266_201 kd_294 IM14.1 (by decide) rfl (by decide) rfl rfl (Nat.le_of_ble_eq_true rfl) (Nat.le_of_ble_eq_true rfl) (by decide) (by decide) ?_
      refine PW.up (by decide) (c_X12_isWord_vk (gTT) (Stab0) G _ M14 IM14 l19 y (i) 18 ((hp_2.K QM2 (Fr.at GM2 kd_295 (by decide)) (Fr.at GM2 kd_300 (by decide)) rfl).K QM14 (Fr.at GM14 kd_295 (by decide)) (Fr.at GM14 kd_300 (by decide)) rfl) (by rw [el19]; decide +kernel) (by decide) fun x21  hx21 kx21 PM20 => ?_)
      rcases PM20 with ⟨PaM20, PbM20, PcM20⟩ | ⟨PaM20, PnM20⟩
      · skip
        have swM20 := (s_wn_iff (x := y) (i := i) (show 18 < 28 by decide)).mp PcM20
        refine PW.jz_eq q_266_60 rfl (fun h22 => False.elim (by omega)) (fun h22 => ?_)
        refine PW.cB q_266_63 (by decide) fun c23 hc23 => ?_
        refine PW.goto q_266_65 rfl ?_
        refine PW.wT q_266_70 gA_51 kd_305 IM14 (by decide) rfl gC_51_0_40 (by decide) (by omega) (by omega) (n_lo _) (n_hi _) fun M24 IM24 fM24 UM24 => ?_
        have FM24 := Fr.pu FM14 UM24.1 kd_305 (rfl : List.contains [40, 44, 51] 51 = true)
        have tr25 : o_i (M24 294) 33 = o_i (M14 294) 33 := by rw [UM24.1 294 (g_ne kd_294 kd_305 (by decide))]
        have tr26 : o_i (M24 294) 34 = o_i (M14 294) 34 := by rw [UM24.1 294 (g_ne kd_294 kd_305 (by decide))]
        have tr27 : o_i (M24 294) 35 = o_i (M14 294) 35 := by rw [UM24.1 294 (g_ne kd_294 kd_305 (by decide))]
        have tr28 : o_i (M24 294) 36 = o_i (M14 294) 36 := by rw [UM24.1 294 (g_ne kd_294 kd_305 (by decide))]
        have tr29 : o_i (M24 294) 37 = o_i (M14 294) 37 := by rw [UM24.1 294 (g_ne kd_294 kd_305 (by decide))]
        refine PW.aload_n q_266_71 rfl ?_
        refine PW.dup q_266_72 rfl ?_
        refine PW.gE q_266_73 (Or.inl t_ft_266_385) gF_40_35 kd_294 IM24.1 (by decide) ((congrArg (fun e => o_f e 35) (UM24.1 _ (g_ne kd_294 kd_305 (by decide)))).trans fx18) ?_
        have tr30 := o_i_of ((congrArg (fun e => o_f e 35) (UM24.1 _ (g_ne kd_294 kd_305 (by decide)))).trans fx18)
        refine PW.cI q_266_76 (by decide) fun c31 hc31 => ?_
        refine PW.addN q_266_77 (by omega) (by omega) fun x32 hx32 => ?_
        refine PW.pT q_266_78 (Or.inl t_ft_266_385) gF_40_35 gP_40_35 kd_294 IM24 (by decide) rfl (by omega) (by omega) fun M33 IM33 fM33 UM33 => ?_
        have FM33 := Fr.pu FM24 UM33.1 kd_294 (rfl : List.contains [40, 44, 51] 40 = true)
        have tr34 := UM33.i (c := 294) (k := 33) (Or.inr (by decide))
        have tr35 := UM33.i (c := 294) (k := 34) (Or.inr (by decide))
        have tr36 := o_i_of fM33
        have tr37 := UM33.i (c := 294) (k := 36) (Or.inr (by decide))
        have tr38 := UM33.i (c := 294) (k := 37) (Or.inr (by decide))
        refine PW.aload_n q_266_81 rfl ?_
        refine PW.cI q_266_82 (by decide) fun c39 hc39 => ?_
        refine PW.pT q_266_83 (Or.inl t_ft_266_401) gF_40_37 gP_40_37 kd_294 IM33 (by decide) rfl (by omega) (by omega) fun M40 IM40 fM40 UM40 => ?_
        have FM40 := Fr.pu FM33 UM40.1 kd_294 (rfl : List.contains [40, 44, 51] 40 = true)
        have tr41 := UM40.i (c := 294) (k := 33) (Or.inr (by decide))
        have tr42 := UM40.i (c := 294) (k := 34) (Or.inr (by decide))
        have tr43 := UM40.i (c := 294) (k := 35) (Or.inr (by decide))
        have tr44 := UM40.i (c := 294) (k := 36) (Or.inr (by decide))
        have tr45 := o_i_of fM40
        refine PW.aload_n q_266_86 rfl ?_
        refine PW.cV (as := []) (rest := []) q_266_87 t_mv_266_173 kd_294 IM40.1 (by decide) rfl (by decide) rfl rfl (Nat.le_of_ble_eq_true rfl) (Nat.le_of_ble_eq_true rfl) (by decide) (by decide) ?_
        refine PW.up (by decide) (c_X12_go_vk (gTT) (Stab0) G _ M40 IM40 y (i + 1) (k_ra.nx (((((hp_2.K QM2 (Fr.at GM2 kd_295 (by decide)) (Fr.at GM2 kd_300 (by decide)) rfl).K QM14 (Fr.at GM14 kd_295 (by decide)) (Fr.at GM14 kd_300 (by decide)) rfl).cg (UM24.1 294 (by decide)) (UM24.1 295 (by decide)) (UM24.1 300 (by decide))).U UM33 rfl).U UM40 rfl) (by omega)) fun M46 IM46 GM46 PM46 => ?_)
        have FM46 := Fr.trans FM40 GM46 (rfl)
        rcases PM46 with ⟨QM46, PtM46⟩
        have tr47 := QM46.i 33 rfl
        have tr48 := QM46.i 34 rfl
        have tr49 := QM46.i 35 rfl
        have tr50 := QM46.i 36 rfl
        have tr51 := QM46.i 37 rfl
        refine PW.cI q_266_90 (by decide) fun c52 hc52 => ?_
        refine PW.rZ q_266_91 rfl (by omega) (by omega) (by decide) (by decide) ?_
        have e : s_bh y i st on = (0, 0, (i + 1, false, st, on)) := by unfold s_bh; rw [if_pos ⟨by omega, by omega⟩]
        have rq := r_Q.bn (M1 := M46) NqM14 NtM14 (by omega) (fun z hz => ((congrFun ((congrArg o_a (Fr.at GM46 kd_305 rfl)).trans ((congrArg o_a (UM40.1 305 (by decide))).trans (congrArg o_a (UM33.1 305 (by decide))))) z).trans (UM24.2 z (by omega)))) (by rw [((congrArg o_a (Fr.at GM46 kd_305 rfl)).trans ((congrArg o_a (UM40.1 305 (by decide))).trans (congrArg o_a (UM33.1 305 (by decide))))), show (o_i (M14 294) 35).toNat = x18.toInt.toNat from by omega, fM24]; omega) (by omega) (by omega)
        exact hK c52 M46 IM46 FM46 (by omega) (by omega) ⟨((((((gKl.refl.tr QM2 rfl).tr QM14 rfl).cg (UM24.1 294 (by decide))).put UM33 rfl).put UM40 rfl).tr QM46 rfl), (Or.inl ⟨by omega, by rw [e], gSm.of (gSn.bin (k1 := o_a (M24 305)) w16 (by omega) (fun z hz => (UM24.2 z (by omega)).trans (congrFun rfl z)) (by rw [show (o_i (M14 294) 35).toNat = x18.toInt.toNat from by omega, fM24]; omega)) (by omega) (by omega) (by omega) (by omega) ((congrArg o_a (Fr.at GM46 kd_298 rfl)).trans ((congrArg o_a (UM40.1 298 (by decide))).trans ((congrArg o_a (UM33.1 298 (by decide))).trans (congrArg o_a (UM24.1 298 (by decide)))))) ((congrArg o_a (Fr.at GM46 kd_305 rfl)).trans ((congrArg o_a (UM40.1 305 (by decide))).trans (congrArg o_a (UM33.1 305 (by decide))))), by rw [e]; exact ⟨PtM46, rq.1, by show _ = on; omega, Or.inl ⟨rfl, by omega, rq.2.trans stJ⟩⟩, ((QM46.i 15 rfl).trans ((UM40.i (c := 294) (k := 15) (Or.inr (by decide))).trans ((UM33.i (c := 294) (k := 15) (Or.inr (by decide))).trans ((congrArg (fun e => o_i e 15) (UM24.1 294 (by decide))).trans ((QM14.i 15 rfl).trans (QM2.i 15 rfl))))))⟩)⟩
      · skip
        exact absurd ⟨PbM6, PcM6⟩ PnM20
    · skip
      exact absurd ⟨PbM6, PcM6⟩ PnM10
  · skip
    have snM6 : kK y (i) = 2 → s_wn y (i) ≠ 18 := fun h q => PnM6 ⟨h, (s_wn_iff (show 18 < 28 by decide)).mpr q⟩
    refine PW.jz_ne q_266_11 rfl (fun h53 => False.elim (by omega)) (fun h53 => ?_)
    refine PW.aload_n q_266_14 rfl ?_
    refine PW.ldc2 q_266_15 t_lt_266_112 ?_
    refine PW.nmLk fun l54 el54 => ?_
    refine PW.cV (as := [_]) (rest := []) q_266_18 t_mv_266_201 kd_294 IM2.1 (by decide) rfl (by decide) rfl rfl (Nat.le_of_ble_eq_true rfl) (Nat.le_of_ble_eq_true rfl) (by decide) (by decide) ?_
    refine PW.up (by decide) (c_X12_isWord_vk (gTT) (Stab0) G _ M2 IM2 l54 y (i) 17 (hp_2.K QM2 (Fr.at GM2 kd_295 (by decide)) (Fr.at GM2 kd_300 (by decide)) rfl) (by rw [el54]; decide +kernel) (by decide) fun x56  hx56 kx56 PM55 => ?_)
    rcases PM55 with ⟨PaM55, PbM55, PcM55⟩ | ⟨PaM55, PnM55⟩
    · skip
      have swM55 := (s_wn_iff (x := y) (i := i) (show 17 < 28 by decide)).mp PcM55
      refine PW.jz_eq q_266_21 rfl (fun h57 => False.elim (by omega)) (fun h57 => ?_)
      refine PW.aload_n q_266_24 rfl ?_
      refine PW.aload_n q_266_25 rfl ?_
      refine PW.ldc2 q_266_26 t_lt_266_114 ?_
      refine PW.nmLk fun l58 el58 => ?_
      refine PW.cV (as := [_]) (rest := [_]) q_266_29 t_mv_266_201 kd_294 IM2.1 (by decide) rfl (by decide) rfl rfl (Nat.le_of_ble_eq_true rfl) (Nat.le_of_ble_eq_true rfl) (by decide) (by decide) ?_
      refine PW.up (by decide) (c_X12_isWord_vk (gTT) (Stab0) G _ M2 IM2 l58 y (i) 18 (hp_2.K QM2 (Fr.at GM2 kd_295 (by decide)) (Fr.at GM2 kd_300 (by decide)) rfl) (by rw [el58]; decide +kernel) (by decide) fun x60  hx60 kx60 PM59 => ?_)
      rcases PM59 with ⟨PaM59, PbM59, PcM59⟩ | ⟨PaM59, PnM59⟩
      · skip
        exact absurd ⟨PbM59, PcM59⟩ PnM6
      · skip
        have snM59 : kK y (i) = 2 → s_wn y (i) ≠ 18 := fun h q => PnM59 ⟨h, (s_wn_iff (show 18 < 28 by decide)).mpr q⟩
        refine PW.jz_eq q_266_32 rfl (fun h61 => ?_) (fun h61 => False.elim (by omega))
        refine PW.cB q_266_40 (by decide) fun c62 hc62 => ?_
        refine PW.cV (as := [_]) (rest := []) q_266_42 t_mv_266_407 kd_294 IM2.1 (by decide) rfl (by decide) rfl rfl (Nat.le_of_ble_eq_true rfl) (Nat.le_of_ble_eq_true rfl) (by decide) (by decide) ?_
        refine PW.up (by decide) (c_X12_joins_vs G _ M2 IM2 c62 NaM2 (by omega) NqM2 NtM2 fun M63 IM63 GM63 PM63 => ?_)
        have FM63 := Fr.trans FM2 GM63 (rfl)
        obtain ⟨NaM63, NbM63, NcM63, NeM63, NfM63, NgM63, QM63, NqM63, NpM63, NtM63⟩ := PM63
        have hs64 : o_i (M63 294) 33 + o_i (M63 294) 35 + o_i (M63 294) 37 ≤ 2 * o_i (M63 294) 34 := NaM63.2.2
        have ho64 := g_on20 IM63.1
        have hc64 := g_co IM63.1
        have w65 : gSn (o_i (M63 294) 33) (o_i (M63 294) 35) 1 (o_i (M63 294) 34) (o_a (M63 298)) (o_a (M63 305)) := by have q := NaM63; unfold gSm at q; rw [show o_i (M63 294) 37 = 1 from by omega] at q; exact q
        have stJ : r_P M63 = st := NpM63.trans stN
        have dl66 := r_Q.dl NqM63 (by omega)
        have dJ := QM63.i 36 rfl
        refine PW.aload_n q_266_45 rfl ?_
        refine PW.gR 305 q_266_46 (Or.inl t_ft_266_62) gF_40_32 kd_294 IM63.1 (by decide) rfl ?_
        refine PW.aload_n q_266_49 rfl ?_
        refine PW.gI q_266_50 (Or.inl t_ft_266_385) gF_40_35 kd_294 IM63.1 (by decide) fun x67 fx67 hx67 kx67 => ?_
        have ix67 := o_i_of fx67
        have trx67 := o_i_of fx67
        refine PW.aload_n q_266_53 rfl ?_
        refine PW.ldc2 q_266_54 t_lt_266_114 ?_
        refine PW.nmLk fun l68 el68 => ?_
        refine PW.cV (as := [_]) (rest := [_, _]) q_266_57 t_mv_266_201 kd_294 IM63.1 (by decide) rfl (by decide) rfl rfl (Nat.le_of_ble_eq_true rfl) (Nat.le_of_ble_eq_true rfl) (by decide) (by decide) ?_
        refine PW.up (by decide) (c_X12_isWord_vk (gTT) (Stab0) G _ M63 IM63 l68 y (i) 18 ((hp_2.K QM2 (Fr.at GM2 kd_295 (by decide)) (Fr.at GM2 kd_300 (by decide)) rfl).K QM63 (Fr.at GM63 kd_295 (by decide)) (Fr.at GM63 kd_300 (by decide)) rfl) (by rw [el68]; decide +kernel) (by decide) fun x70  hx70 kx70 PM69 => ?_)
        rcases PM69 with ⟨PaM69, PbM69, PcM69⟩ | ⟨PaM69, PnM69⟩
        · skip
          exact absurd ⟨PbM69, PcM69⟩ PnM6
        · skip
          have snM69 : kK y (i) = 2 → s_wn y (i) ≠ 18 := fun h q => PnM69 ⟨h, (s_wn_iff (show 18 < 28 by decide)).mpr q⟩
          refine PW.jz_eq q_266_60 rfl (fun h71 => ?_) (fun h71 => False.elim (by omega))
          refine PW.cB q_266_68 (by decide) fun c72 hc72 => ?_
          refine PW.wT q_266_70 gA_51 kd_305 IM63 (by decide) rfl gC_51_0_40 (by decide) (by omega) (by omega) (n_lo _) (n_hi _) fun M73 IM73 fM73 UM73 => ?_
          have FM73 := Fr.pu FM63 UM73.1 kd_305 (rfl : List.contains [40, 44, 51] 51 = true)
          have tr74 : o_i (M73 294) 33 = o_i (M63 294) 33 := by rw [UM73.1 294 (g_ne kd_294 kd_305 (by decide))]
          have tr75 : o_i (M73 294) 34 = o_i (M63 294) 34 := by rw [UM73.1 294 (g_ne kd_294 kd_305 (by decide))]
          have tr76 : o_i (M73 294) 35 = o_i (M63 294) 35 := by rw [UM73.1 294 (g_ne kd_294 kd_305 (by decide))]
          have tr77 : o_i (M73 294) 36 = o_i (M63 294) 36 := by rw [UM73.1 294 (g_ne kd_294 kd_305 (by decide))]
          have tr78 : o_i (M73 294) 37 = o_i (M63 294) 37 := by rw [UM73.1 294 (g_ne kd_294 kd_305 (by decide))]
          refine PW.aload_n q_266_71 rfl ?_
          refine PW.dup q_266_72 rfl ?_
          refine PW.gE q_266_73 (Or.inl t_ft_266_385) gF_40_35 kd_294 IM73.1 (by decide) ((congrArg (fun e => o_f e 35) (UM73.1 _ (g_ne kd_294 kd_305 (by decide)))).trans fx67) ?_
          have tr79 := o_i_of ((congrArg (fun e => o_f e 35) (UM73.1 _ (g_ne kd_294 kd_305 (by decide)))).trans fx67)
          refine PW.cI q_266_76 (by decide) fun c80 hc80 => ?_
          refine PW.addN q_266_77 (by omega) (by omega) fun x81 hx81 => ?_
          refine PW.pT q_266_78 (Or.inl t_ft_266_385) gF_40_35 gP_40_35 kd_294 IM73 (by decide) rfl (by omega) (by omega) fun M82 IM82 fM82 UM82 => ?_
          have FM82 := Fr.pu FM73 UM82.1 kd_294 (rfl : List.contains [40, 44, 51] 40 = true)
          have tr83 := UM82.i (c := 294) (k := 33) (Or.inr (by decide))
          have tr84 := UM82.i (c := 294) (k := 34) (Or.inr (by decide))
          have tr85 := o_i_of fM82
          have tr86 := UM82.i (c := 294) (k := 36) (Or.inr (by decide))
          have tr87 := UM82.i (c := 294) (k := 37) (Or.inr (by decide))
          refine PW.aload_n q_266_81 rfl ?_
          refine PW.cI q_266_82 (by decide) fun c88 hc88 => ?_
          refine PW.pT q_266_83 (Or.inl t_ft_266_401) gF_40_37 gP_40_37 kd_294 IM82 (by decide) rfl (by omega) (by omega) fun M89 IM89 fM89 UM89 => ?_
          have FM89 := Fr.pu FM82 UM89.1 kd_294 (rfl : List.contains [40, 44, 51] 40 = true)
          have tr90 := UM89.i (c := 294) (k := 33) (Or.inr (by decide))
          have tr91 := UM89.i (c := 294) (k := 34) (Or.inr (by decide))
          have tr92 := UM89.i (c := 294) (k := 35) (Or.inr (by decide))
          have tr93 := UM89.i (c := 294) (k := 36) (Or.inr (by decide))
          have tr94 := o_i_of fM89
          refine PW.aload_n q_266_86 rfl ?_
          refine PW.cV (as := []) (rest := []) q_266_87 t_mv_266_173 kd_294 IM89.1 (by decide) rfl (by decide) rfl rfl (Nat.le_of_ble_eq_true rfl) (Nat.le_of_ble_eq_true rfl) (by decide) (by decide) ?_
          refine PW.up (by decide) (c_X12_go_vk (gTT) (Stab0) G _ M89 IM89 y (i + 1) (k_ra.nx (((((hp_2.K QM2 (Fr.at GM2 kd_295 (by decide)) (Fr.at GM2 kd_300 (by decide)) rfl).K QM63 (Fr.at GM63 kd_295 (by decide)) (Fr.at GM63 kd_300 (by decide)) rfl).cg (UM73.1 294 (by decide)) (UM73.1 295 (by decide)) (UM73.1 300 (by decide))).U UM82 rfl).U UM89 rfl) (by omega)) fun M95 IM95 GM95 PM95 => ?_)
          have FM95 := Fr.trans FM89 GM95 (rfl)
          rcases PM95 with ⟨QM95, PtM95⟩
          have tr96 := QM95.i 33 rfl
          have tr97 := QM95.i 34 rfl
          have tr98 := QM95.i 35 rfl
          have tr99 := QM95.i 36 rfl
          have tr100 := QM95.i 37 rfl
          refine PW.cI q_266_90 (by decide) fun c101 hc101 => ?_
          refine PW.rZ q_266_91 rfl (by omega) (by omega) (by decide) (by decide) ?_
          have e : s_bh y i st on = (0, 0, (i + 1, false, st, on)) := by unfold s_bh; rw [if_pos ⟨by omega, by omega⟩]
          have rq := r_Q.bn (M1 := M95) NqM63 NtM63 (by omega) (fun z hz => ((congrFun ((congrArg o_a (Fr.at GM95 kd_305 rfl)).trans ((congrArg o_a (UM89.1 305 (by decide))).trans (congrArg o_a (UM82.1 305 (by decide))))) z).trans (UM73.2 z (by omega)))) (by rw [((congrArg o_a (Fr.at GM95 kd_305 rfl)).trans ((congrArg o_a (UM89.1 305 (by decide))).trans (congrArg o_a (UM82.1 305 (by decide))))), show (o_i (M63 294) 35).toNat = x67.toInt.toNat from by omega, fM73]; omega) (by omega) (by omega)
          exact hK c101 M95 IM95 FM95 (by omega) (by omega) ⟨((((((gKl.refl.tr QM2 rfl).tr QM63 rfl).cg (UM73.1 294 (by decide))).put UM82 rfl).put UM89 rfl).tr QM95 rfl), (Or.inl ⟨by omega, by rw [e], gSm.of (gSn.bin (k1 := o_a (M73 305)) w65 (by omega) (fun z hz => (UM73.2 z (by omega)).trans (congrFun rfl z)) (by rw [show (o_i (M63 294) 35).toNat = x67.toInt.toNat from by omega, fM73]; omega)) (by omega) (by omega) (by omega) (by omega) ((congrArg o_a (Fr.at GM95 kd_298 rfl)).trans ((congrArg o_a (UM89.1 298 (by decide))).trans ((congrArg o_a (UM82.1 298 (by decide))).trans (congrArg o_a (UM73.1 298 (by decide)))))) ((congrArg o_a (Fr.at GM95 kd_305 rfl)).trans ((congrArg o_a (UM89.1 305 (by decide))).trans (congrArg o_a (UM82.1 305 (by decide))))), by rw [e]; exact ⟨PtM95, rq.1, by show _ = on; omega, Or.inl ⟨rfl, by omega, rq.2.trans stJ⟩⟩, ((QM95.i 15 rfl).trans ((UM89.i (c := 294) (k := 15) (Or.inr (by decide))).trans ((UM82.i (c := 294) (k := 15) (Or.inr (by decide))).trans ((congrArg (fun e => o_i e 15) (UM73.1 294 (by decide))).trans ((QM63.i 15 rfl).trans (QM2.i 15 rfl))))))⟩)⟩
    · skip
      have snM55 : kK y (i) = 2 → s_wn y (i) ≠ 17 := fun h q => PnM55 ⟨h, (s_wn_iff (show 17 < 28 by decide)).mpr q⟩
      refine PW.jz_eq q_266_21 rfl (fun h102 => ?_) (fun h102 => False.elim (by omega))
      refine PW.aload_n q_266_92 rfl ?_
      refine PW.cB q_266_93 (by decide) fun c103 hc103 => ?_
      refine PW.cV (as := [_]) (rest := []) q_266_95 t_mv_266_407 kd_294 IM2.1 (by decide) rfl (by decide) rfl rfl (Nat.le_of_ble_eq_true rfl) (Nat.le_of_ble_eq_true rfl) (by decide) (by decide) ?_
      refine PW.up (by decide) (c_X12_joins_vs G _ M2 IM2 c103 NaM2 (by omega) NqM2 NtM2 fun M104 IM104 GM104 PM104 => ?_)
      have FM104 := Fr.trans FM2 GM104 (rfl)
      obtain ⟨NaM104, NbM104, NcM104, NeM104, NfM104, NgM104, QM104, NqM104, NpM104, NtM104⟩ := PM104
      have hs105 : o_i (M104 294) 33 + o_i (M104 294) 35 + o_i (M104 294) 37 ≤ 2 * o_i (M104 294) 34 := NaM104.2.2
      have ho105 := g_on20 IM104.1
      have hc105 := g_co IM104.1
      have w106 : gSn (o_i (M104 294) 33) (o_i (M104 294) 35) 1 (o_i (M104 294) 34) (o_a (M104 298)) (o_a (M104 305)) := by have q := NaM104; unfold gSm at q; rw [show o_i (M104 294) 37 = 1 from by omega] at q; exact q
      have stJ : r_P M104 = st := NpM104.trans stN
      have dl107 := r_Q.dl NqM104 (by omega)
      have dJ := QM104.i 36 rfl
      have tp := r_Q.top NqM104 NtM104 (by omega) (by omega)
      refine PW.aload_n q_266_98 rfl ?_
      refine PW.cB q_266_99 (by decide) fun c108 hc108 => ?_
      refine PW.cV (as := [_]) (rest := []) q_266_101 t_mv_266_167 kd_294 IM104.1 (by decide) rfl (by decide) rfl rfl (Nat.le_of_ble_eq_true rfl) (Nat.le_of_ble_eq_true rfl) (by decide) (by decide) ?_
      refine PW.up (by decide) (c_X12_isSign_vk (gTT) (Stab0) G _ M104 IM104 c108 y (i) ((hp_2.K QM2 (Fr.at GM2 kd_295 (by decide)) (Fr.at GM2 kd_300 (by decide)) rfl).K QM104 (Fr.at GM104 kd_295 (by decide)) (Fr.at GM104 kd_300 (by decide)) rfl) fun x110  hx110 kx110 PM109 => ?_)
      rcases PM109 with ⟨PaM109, PbM109, PcM109⟩ | ⟨PaM109, PnM109⟩
      · skip
        refine PW.jz_eq q_266_104 rfl (fun h111 => False.elim (by omega)) (fun h111 => ?_)
        refine PW.aload_n q_266_107 rfl ?_
        refine PW.gI q_266_108 (Or.inl t_ft_266_385) gF_40_35 kd_294 IM104.1 (by decide) fun x112 fx112 hx112 kx112 => ?_
        have ix112 := o_i_of fx112
        have trx112 := o_i_of fx112
        refine PW.jz_ne q_266_111 rfl (fun h113 => ?_) (fun h113 => ?_)
        · skip
          refine PW.aload_n q_266_120 rfl ?_
          refine PW.dup q_266_121 rfl ?_
          refine PW.gE q_266_122 (Or.inl t_ft_266_385) gF_40_35 kd_294 IM104.1 (by decide) fx112 ?_
          have tr114 := o_i_of fx112
          refine PW.cI q_266_125 (by decide) fun c115 hc115 => ?_
          refine PW.subN q_266_126 (by omega) (by omega) fun x116 hx116 => ?_
          refine PW.pT q_266_127 (Or.inl t_ft_266_385) gF_40_35 gP_40_35 kd_294 IM104 (by decide) rfl (by omega) (by omega) fun M117 IM117 fM117 UM117 => ?_
          have FM117 := Fr.pu FM104 UM117.1 kd_294 (rfl : List.contains [40, 44, 51] 40 = true)
          have tr118 := UM117.i (c := 294) (k := 33) (Or.inr (by decide))
          have tr119 := UM117.i (c := 294) (k := 34) (Or.inr (by decide))
          have tr120 := o_i_of fM117
          have tr121 := UM117.i (c := 294) (k := 36) (Or.inr (by decide))
          have tr122 := UM117.i (c := 294) (k := 37) (Or.inr (by decide))
          refine PW.aload_n q_266_130 rfl ?_
          refine PW.dup q_266_131 rfl ?_
          refine PW.gI q_266_132 (Or.inl t_ft_266_392) gF_40_36 kd_294 IM117.1 (by decide) fun x123 fx123 hx123 kx123 => ?_
          have ix123 := o_i_of fx123
          have trx123 := o_i_of fx123
          clear hx123 kx123
          refine PW.cI q_266_135 (by decide) fun c124 hc124 => ?_
          refine PW.subN q_266_136 (by omega) (by omega) fun x125 hx125 => ?_
          refine PW.pI q_266_137 (Or.inl t_ft_266_392) gF_40_36 gP_40_36 kd_294 Stab0 IM117 (by decide) rfl (n_lo _) (n_hi _) fun M126 IM126 fM126 UM126 => ?_
          have FM126 := Fr.pu FM117 UM126.1 kd_294 (rfl : List.contains [40, 44, 51] 40 = true)
          have tr127 := UM126.i (c := 294) (k := 33) (Or.inr (by decide))
          have tr128 := UM126.i (c := 294) (k := 34) (Or.inr (by decide))
          have tr129 := UM126.i (c := 294) (k := 35) (Or.inr (by decide))
          have tr130 := o_i_of fM126
          have tr131 := UM126.i (c := 294) (k := 37) (Or.inr (by decide))
          refine PW.aload_n q_266_140 rfl ?_
          refine PW.cV (as := []) (rest := []) q_266_141 t_mv_266_173 kd_294 IM126.1 (by decide) rfl (by decide) rfl rfl (Nat.le_of_ble_eq_true rfl) (Nat.le_of_ble_eq_true rfl) (by decide) (by decide) ?_
          refine PW.up (by decide) (c_X12_go_vk (gTT) (Stab0) G _ M126 IM126 y (i + 1) (k_ra.nx ((((hp_2.K QM2 (Fr.at GM2 kd_295 (by decide)) (Fr.at GM2 kd_300 (by decide)) rfl).K QM104 (Fr.at GM104 kd_295 (by decide)) (Fr.at GM104 kd_300 (by decide)) rfl).U UM117 rfl).U UM126 rfl) (by omega)) fun M132 IM132 GM132 PM132 => ?_)
          have FM132 := Fr.trans FM126 GM132 (rfl)
          rcases PM132 with ⟨QM132, PtM132⟩
          have tr133 := QM132.i 33 rfl
          have tr134 := QM132.i 34 rfl
          have tr135 := QM132.i 35 rfl
          have tr136 := QM132.i 36 rfl
          have tr137 := QM132.i 37 rfl
          refine PW.cI q_266_144 (by decide) fun c138 hc138 => ?_
          refine PW.rZ q_266_145 rfl (by omega) (by omega) (by decide) (by decide) ?_
          obtain ⟨tp1, tp2, tp3⟩ : 1 ≤ o_i (M104 294) 35 ∧ (o_a (M104 305) (o_i (M104 294) 35 - 1).toNat).toInt = 23 ∧ r_P M104 ≠ [] := by rcases tp with q | q; (· omega); (· exact q)
          have rq := r_Q.po (M1 := M132) NqM104 ((congrArg o_a (Fr.at GM132 kd_305 rfl)).trans ((congrArg o_a (UM126.1 305 (by decide))).trans (congrArg o_a (UM117.1 305 (by decide))))) tp1 (by omega) (by omega) tp2
          have e : s_bh y i st on = (0, 0, (i + 1, true, s_dn st.tail, on)) := by unfold s_bh; rw [if_neg (by omega), if_pos ⟨⟨PbM109, PcM109.trans (by omega)⟩, fun h => tp3 (stJ.trans h)⟩]
          exact hK c138 M132 IM132 FM132 (by omega) (by omega) ⟨(((((gKl.refl.tr QM2 rfl).tr QM104 rfl).put UM117 rfl).put UM126 rfl).tr QM132 rfl), (Or.inl ⟨by omega, by rw [e], gSm.of (gSn.pop w106 (by omega) ⟨by omega, by omega⟩) (by omega) (by omega) (by omega) (by omega) ((congrArg o_a (Fr.at GM132 kd_298 rfl)).trans ((congrArg o_a (UM126.1 298 (by decide))).trans (congrArg o_a (UM117.1 298 (by decide))))) ((congrArg o_a (Fr.at GM132 kd_305 rfl)).trans ((congrArg o_a (UM126.1 305 (by decide))).trans (congrArg o_a (UM117.1 305 (by decide))))), by rw [e]; exact ⟨PtM132, rq.1, by show _ = on; omega, Or.inr ⟨rfl, by omega, by rw [← stJ, rq.2]; rfl⟩⟩, ((QM132.i 15 rfl).trans ((UM126.i (c := 294) (k := 15) (Or.inr (by decide))).trans ((UM117.i (c := 294) (k := 15) (Or.inr (by decide))).trans ((QM104.i 15 rfl).trans (QM2.i 15 rfl)))))⟩)⟩
        · skip
          refine PW.aload_n q_266_114 rfl ?_
          refine PW.cI q_266_115 (by decide) fun c139 hc139 => ?_
          refine PW.cV (as := [_]) (rest := []) q_266_116 t_mv_266_170 kd_294 IM104.1 (by decide) rfl (by decide) rfl rfl (Nat.le_of_ble_eq_true rfl) (Nat.le_of_ble_eq_true rfl) (by decide) (by decide) ?_
          refine PW.up (by decide) (c_X12_bad_vk (gTT) (Stab0) G _ M104 IM104 c139 y (i) ((hp_2.K QM2 (Fr.at GM2 kd_295 (by decide)) (Fr.at GM2 kd_300 (by decide)) rfl).K QM104 (Fr.at GM104 kd_295 (by decide)) (Fr.at GM104 kd_300 (by decide)) rfl) fun x141 M140 IM140 GM140 hx141 kx141 PM140 => ?_)
          have FM140 := Fr.trans FM104 GM140 (rfl)
          rcases PM140 with ⟨QM140, ⟨PfM140, PgM140⟩⟩
          refine PW.rZ q_266_119 rfl (by omega) (by omega) (by decide) (by decide) ?_
          have s0 : st = [] := by rcases tp with q | q; (· rw [← stJ]; exact q.2); (· omega)
          have e : s_bh y i st on = (1, kP y i, (0, false, [], 0)) := by unfold s_bh; rw [if_neg (by omega), if_neg (show ¬ ((kK y i = 5 ∧ kV y i = 41) ∧ st ≠ []) from fun h => h.2 s0), if_neg (by omega)]
          exact hK x141 M140 IM140 FM140 (by omega) (by omega) ⟨(((gKl.refl.tr QM2 rfl).tr QM104 rfl).tr QM140 rfl), (Or.inr ⟨by omega, by rw [e]; exact (show (1 : Int) ≤ 1 by omega), by rw [e]; exact (show (1 : Int) ≤ 4 by omega), by rw [e]; exact (show o_i (M140 294) 15 = 1 by omega), by rw [e]; exact (show o_i (M140 294) 16 = kP y i by omega)⟩)⟩
      · skip
        refine PW.jz_eq q_266_104 rfl (fun h142 => ?_) (fun h142 => False.elim (by omega))
        refine PW.aload_n q_266_114 rfl ?_
        refine PW.cI q_266_115 (by decide) fun c143 hc143 => ?_
        refine PW.cV (as := [_]) (rest := []) q_266_116 t_mv_266_170 kd_294 IM104.1 (by decide) rfl (by decide) rfl rfl (Nat.le_of_ble_eq_true rfl) (Nat.le_of_ble_eq_true rfl) (by decide) (by decide) ?_
        refine PW.up (by decide) (c_X12_bad_vk (gTT) (Stab0) G _ M104 IM104 c143 y (i) ((hp_2.K QM2 (Fr.at GM2 kd_295 (by decide)) (Fr.at GM2 kd_300 (by decide)) rfl).K QM104 (Fr.at GM104 kd_295 (by decide)) (Fr.at GM104 kd_300 (by decide)) rfl) fun x145 M144 IM144 GM144 hx145 kx145 PM144 => ?_)
        have FM144 := Fr.trans FM104 GM144 (rfl)
        rcases PM144 with ⟨QM144, ⟨PfM144, PgM144⟩⟩
        refine PW.rZ q_266_119 rfl (by omega) (by omega) (by decide) (by decide) ?_
        have e : s_bh y i st on = (1, kP y i, (0, false, [], 0)) := by unfold s_bh; rw [if_neg (by omega), if_neg (show ¬ ((kK y i = 5 ∧ kV y i = 41) ∧ st ≠ []) from fun h => PnM109 ⟨h.1.1, h.1.2.trans (by omega)⟩), if_neg (by omega)]
        exact hK x145 M144 IM144 FM144 (by omega) (by omega) ⟨(((gKl.refl.tr QM2 rfl).tr QM104 rfl).tr QM144 rfl), (Or.inr ⟨by omega, by rw [e]; exact (show (1 : Int) ≤ 1 by omega), by rw [e]; exact (show (1 : Int) ≤ 4 by omega), by rw [e]; exact (show o_i (M144 294) 15 = 1 by omega), by rw [e]; exact (show o_i (M144 294) 16 = kP y i by omega)⟩)⟩
/-- while it is read -/
def r_I (x : k_X) (f : Nat → Int) (m : Int) (M : pM) (n : Nat) : Prop := ∃ s : s_S, s_to x f m (0, false, [], 0) s ∧ r_J x M s ∧ x.2.1 + 2 ≤ n + k_ps x s.1 ∧ k_ps x s.1 ≤ x.2.1
/-- at its end -/
def r_Z (x : k_X) (f : Nat → Int) (m : Int) (M : pM) : Prop := (∃ on : Int, s_fin x f m (0, false, [], 0) (-1, on) ∧ o_i (M 294) 34 = on) ∧ o_i (M 294) 37 = 1 ∧ o_i (M 294) 35 = 0
theorem r_I.op {x : k_X} {f : Nat → Int} {m : Int} {M1 : pM} {n i : Nat} {st : List Bool} {on : Int} (t : s_to x f m (0, false, [], 0) (i, false, st, on)) (hz : (s_op x f m i st on).1 = 0) (hj : r_J x M1 (s_op x f m i st on).2.2) (hn : x.2.1 + 2 ≤ n + k_ps x i) (hp : k_ps x i ≤ x.2.1) : 1 ≤ n ∧ r_I x f m M1 (n - 1) := by
  have w := s_op_ps hz
  have t1 : s_to x f m (i, false, st, on) (s_op x f m i st on).2.2 := s_to.one (s := (i, false, st, on)) hz
  exact ⟨by omega, _, t.trans t1, hj, by omega, w.2⟩
theorem r_I.bh {x : k_X} {f : Nat → Int} {m : Int} {M1 : pM} {n i : Nat} {st : List Bool} {on : Int} (t : s_to x f m (0, false, [], 0) (i, true, st, on)) (hz : (s_bh x i st on).1 = 0) (hj : r_J x M1 (s_bh x i st on).2.2) (hn : x.2.1 + 2 ≤ n + k_ps x i) (hp : k_ps x i ≤ x.2.1) : 1 ≤ n ∧ r_I x f m M1 (n - 1) := by
  have w := s_bh_ps hz
  have t1 : s_to x f m (i, true, st, on) (s_bh x i st on).2.2 := s_to.one (s := (i, true, st, on)) hz
  exact ⟨by omega, _, t.trans t1, hj, by omega, w.2⟩
theorem s_fin.op {x : k_X} {f : Nat → Int} {m : Int} {i : Nat} {st : List Bool} {on : Int} (t : s_to x f m (0, false, [], 0) (i, false, st, on)) (hz : 1 ≤ (s_op x f m i st on).1) : s_fin x f m (0, false, [], 0) ((s_op x f m i st on).1, (s_op x f m i st on).2.1) := t.fin (s_fin.here (s := (i, false, st, on)) (show (s_op x f m i st on).1 ≠ 0 by omega))
theorem s_fin.bh {x : k_X} {f : Nat → Int} {m : Int} {i : Nat} {st : List Bool} {on : Int} (t : s_to x f m (0, false, [], 0) (i, true, st, on)) (hz : (s_bh x i st on).1 ≠ 0) : s_fin x f m (0, false, [], 0) ((s_bh x i st on).1, (s_bh x i st on).2.1) := t.fin (s_fin.here (s := (i, true, st, on)) hz)
theorem c_X12_sentence_vk (G : pG) (Kr : pK) (M : pM) (I : Iv gTT M) (y : k_X) (f : Nat → Int) (m : Int) (hp_0 : k_rtp y M) (hp_1 : y.2.2 = 200) (hp_2 : y.2.1 ≤ 940) (hp_3 : r_nm M f m) (hK : ∀ (x : Int32) (M1 : pM), Iv gTT M1 → Fr [40, 42, 44, 51] M M1 → (∃ q : Int × Int, s_fin y f m (0, false, [], 0) q ∧ ((q.1 = -1 ∧ x.toInt = q.2 ∧ o_i (M1 294) 15 = 0) ∨ (1 ≤ q.1 ∧ q.1 ≤ 4 ∧ x.toInt = -1 - q.2 ∧ o_i (M1 294) 15 = q.1)) ∧ o_i (M1 294) 2 = 0 ∧ gHs M1 M) → Kr.1 (some (.int x)) 311 M1) : PW G false 3 267 (p_mc 267) (p_msl 267) Kr 0 (lv_args 0 [.ref 294]) [] 311 M 0 0 := by
  have F : Fr [40, 42, 44, 51] M M := Fr.refl
  refine PW.aload_n q_267_0 rfl ?_
  refine PW.cI q_267_1 (by decide) fun c1 hc1 => ?_
  refine PW.pI q_267_2 (Or.inl t_ft_267_1) gF_40_0 gP_40_0 kd_294 Stab0 I (by decide) rfl (n_lo _) (n_hi _) fun M2 IM2 fM2 UM2 => ?_
  have FM2 := Fr.pu F UM2.1 kd_294 (rfl : List.contains [40, 42, 44, 51] 40 = true)
  have tr3 := UM2.i (c := 294) (k := 33) (Or.inr (by decide))
  have tr4 := UM2.i (c := 294) (k := 34) (Or.inr (by decide))
  have tr5 := UM2.i (c := 294) (k := 35) (Or.inr (by decide))
  have tr6 := UM2.i (c := 294) (k := 36) (Or.inr (by decide))
  have tr7 := UM2.i (c := 294) (k := 37) (Or.inr (by decide))
  refine PW.aload_n q_267_5 rfl ?_
  refine PW.cS q_267_6 (by decide) fun c8 hc8 => ?_
  refine PW.cV (as := [_]) (rest := []) q_267_9 t_mv_267_226 kd_294 IM2.1 (by decide) rfl (by decide) rfl rfl (Nat.le_of_ble_eq_true rfl) (Nat.le_of_ble_eq_true rfl) (by decide) (by decide) ?_
  refine PW.up (by decide) (c_X12_taken_vk (gTT) (Stab0) G _ M2 IM2 c8 fun M9 IM9 GM9 PM9 => ?_)
  have FM9 := Fr.trans FM2 GM9 (rfl)
  rcases PM9 with ⟨QM9, ⟨PaM9, PbM9, PcM9, PdM9⟩⟩
  refine PW.aload_n q_267_12 rfl ?_
  refine PW.cI q_267_13 (by decide) fun c10 hc10 => ?_
  refine PW.pI q_267_14 (Or.inl t_ft_267_161) gF_40_15 gP_40_15 kd_294 Stab0 IM9 (by decide) rfl (n_lo _) (n_hi _) fun M11 IM11 fM11 UM11 => ?_
  have FM11 := Fr.pu FM9 UM11.1 kd_294 (rfl : List.contains [40, 42, 44, 51] 40 = true)
  have tr12 := UM11.i (c := 294) (k := 33) (Or.inr (by decide))
  have tr13 := UM11.i (c := 294) (k := 34) (Or.inr (by decide))
  have tr14 := UM11.i (c := 294) (k := 35) (Or.inr (by decide))
  have tr15 := UM11.i (c := 294) (k := 36) (Or.inr (by decide))
  have tr16 := UM11.i (c := 294) (k := 37) (Or.inr (by decide))
  refine PW.aload_n q_267_17 rfl ?_
  refine PW.cI q_267_18 (by decide) fun c17 hc17 => ?_
  refine PW.pT q_267_19 (Or.inl t_ft_267_382) gF_40_33 gP_40_33 kd_294 IM11 (by decide) rfl (by omega) (by omega) fun M18 IM18 fM18 UM18 => ?_
  have FM18 := Fr.pu FM11 UM18.1 kd_294 (rfl : List.contains [40, 42, 44, 51] 40 = true)
  have tr19 := o_i_of fM18
  have tr20 := UM18.i (c := 294) (k := 34) (Or.inr (by decide))
  have tr21 := UM18.i (c := 294) (k := 35) (Or.inr (by decide))
  have tr22 := UM18.i (c := 294) (k := 36) (Or.inr (by decide))
  have tr23 := UM18.i (c := 294) (k := 37) (Or.inr (by decide))
  refine PW.aload_n q_267_22 rfl ?_
  refine PW.cI q_267_23 (by decide) fun c24 hc24 => ?_
  refine PW.pI q_267_24 (Or.inl t_ft_267_398) gF_40_34 gP_40_34 kd_294 Stab0 IM18 (by decide) rfl (by omega) (by omega) fun M25 IM25 fM25 UM25 => ?_
  have FM25 := Fr.pu FM18 UM25.1 kd_294 (rfl : List.contains [40, 42, 44, 51] 40 = true)
  have tr26 := UM25.i (c := 294) (k := 33) (Or.inr (by decide))
  have tr27 := o_i_of fM25
  have tr28 := UM25.i (c := 294) (k := 35) (Or.inr (by decide))
  have tr29 := UM25.i (c := 294) (k := 36) (Or.inr (by decide))
  have tr30 := UM25.i (c := 294) (k := 37) (Or.inr (by decide))
  refine PW.aload_n q_267_27 rfl ?_
  refine PW.cI q_267_28 (by decide) fun c31 hc31 => ?_
  refine PW.pT q_267_29 (Or.inl t_ft_267_385) gF_40_35 gP_40_35 kd_294 IM25 (by decide) rfl (by omega) (by omega) fun M32 IM32 fM32 UM32 => ?_
  have FM32 := Fr.pu FM25 UM32.1 kd_294 (rfl : List.contains [40, 42, 44, 51] 40 = true)
  have tr33 := UM32.i (c := 294) (k := 33) (Or.inr (by decide))
  have tr34 := UM32.i (c := 294) (k := 34) (Or.inr (by decide))
  have tr35 := o_i_of fM32
  have tr36 := UM32.i (c := 294) (k := 36) (Or.inr (by decide))
  have tr37 := UM32.i (c := 294) (k := 37) (Or.inr (by decide))
  refine PW.aload_n q_267_32 rfl ?_
  refine PW.cI q_267_33 (by decide) fun c38 hc38 => ?_
  refine PW.pI q_267_34 (Or.inl t_ft_267_392) gF_40_36 gP_40_36 kd_294 Stab0 IM32 (by decide) rfl (n_lo _) (n_hi _) fun M39 IM39 fM39 UM39 => ?_
  have FM39 := Fr.pu FM32 UM39.1 kd_294 (rfl : List.contains [40, 42, 44, 51] 40 = true)
  have tr40 := UM39.i (c := 294) (k := 33) (Or.inr (by decide))
  have tr41 := UM39.i (c := 294) (k := 34) (Or.inr (by decide))
  have tr42 := UM39.i (c := 294) (k := 35) (Or.inr (by decide))
  have tr43 := o_i_of fM39
  have tr44 := UM39.i (c := 294) (k := 37) (Or.inr (by decide))
  refine PW.aload_n q_267_37 rfl ?_
  refine PW.cI q_267_38 (by decide) fun c45 hc45 => ?_
  refine PW.pT q_267_39 (Or.inl t_ft_267_401) gF_40_37 gP_40_37 kd_294 IM39 (by decide) rfl (by omega) (by omega) fun M46 IM46 fM46 UM46 => ?_
  have FM46 := Fr.pu FM39 UM46.1 kd_294 (rfl : List.contains [40, 42, 44, 51] 40 = true)
  have tr47 := UM46.i (c := 294) (k := 33) (Or.inr (by decide))
  have tr48 := UM46.i (c := 294) (k := 34) (Or.inr (by decide))
  have tr49 := UM46.i (c := 294) (k := 35) (Or.inr (by decide))
  have tr50 := UM46.i (c := 294) (k := 36) (Or.inr (by decide))
  have tr51 := o_i_of fM46
  have b2 : o_i (M46 294) 2 = 0 := ((UM46.i (c := 294) (k := 2) (Or.inr (by decide))).trans ((UM39.i (c := 294) (k := 2) (Or.inr (by decide))).trans ((UM32.i (c := 294) (k := 2) (Or.inr (by decide))).trans ((UM25.i (c := 294) (k := 2) (Or.inr (by decide))).trans ((UM18.i (c := 294) (k := 2) (Or.inr (by decide))).trans (UM11.i (c := 294) (k := 2) (Or.inr (by decide)))))))).trans PaM9
  have b3 : o_i (M46 294) 3 = y.2.1 := (((UM46.i (c := 294) (k := 3) (Or.inr (by decide))).trans ((UM39.i (c := 294) (k := 3) (Or.inr (by decide))).trans ((UM32.i (c := 294) (k := 3) (Or.inr (by decide))).trans ((UM25.i (c := 294) (k := 3) (Or.inr (by decide))).trans ((UM18.i (c := 294) (k := 3) (Or.inr (by decide))).trans (UM11.i (c := 294) (k := 3) (Or.inr (by decide)))))))).trans PbM9).trans (((UM2.i (c := 294) (k := 2) (Or.inr (by decide)))).trans hp_0.1)
  have b4 : o_i (M46 294) 4 = 0 := ((UM46.i (c := 294) (k := 4) (Or.inr (by decide))).trans ((UM39.i (c := 294) (k := 4) (Or.inr (by decide))).trans ((UM32.i (c := 294) (k := 4) (Or.inr (by decide))).trans ((UM25.i (c := 294) (k := 4) (Or.inr (by decide))).trans ((UM18.i (c := 294) (k := 4) (Or.inr (by decide))).trans (UM11.i (c := 294) (k := 4) (Or.inr (by decide)))))))).trans PcM9
  have b5 : o_i (M46 294) 5 = y.2.2 := by rw [((UM46.i (c := 294) (k := 5) (Or.inr (by decide))).trans ((UM39.i (c := 294) (k := 5) (Or.inr (by decide))).trans ((UM32.i (c := 294) (k := 5) (Or.inr (by decide))).trans ((UM25.i (c := 294) (k := 5) (Or.inr (by decide))).trans ((UM18.i (c := 294) (k := 5) (Or.inr (by decide))).trans (UM11.i (c := 294) (k := 5) (Or.inr (by decide)))))))), PdM9]; omega
  have b15 : o_i (M46 294) 15 = 0 := (by have w := (o_i_of ((UM46.f (Or.inr (by decide))).trans ((UM39.f (Or.inr (by decide))).trans ((UM32.f (Or.inr (by decide))).trans ((UM25.f (Or.inr (by decide))).trans ((UM18.f (Or.inr (by decide))).trans fM11)))))); omega)
  have t33 : o_i (M46 294) 33 = 0 := (by have w := (o_i_of ((UM46.f (Or.inr (by decide))).trans ((UM39.f (Or.inr (by decide))).trans ((UM32.f (Or.inr (by decide))).trans ((UM25.f (Or.inr (by decide))).trans fM18))))); omega)
  have t34 : o_i (M46 294) 34 = 0 := (by have w := (o_i_of ((UM46.f (Or.inr (by decide))).trans ((UM39.f (Or.inr (by decide))).trans ((UM32.f (Or.inr (by decide))).trans fM25)))); omega)
  have t35 : o_i (M46 294) 35 = 0 := (by have w := (o_i_of ((UM46.f (Or.inr (by decide))).trans ((UM39.f (Or.inr (by decide))).trans fM32))); omega)
  have t36 : o_i (M46 294) 36 = 1 := (by have w := (o_i_of ((UM46.f (Or.inr (by decide))).trans fM39)); omega)
  have t37 : o_i (M46 294) 37 = 0 := (by have w := (o_i_of fM46); omega)
  have RX : k_rx y M46 := ⟨b3, b5, fun i hi => by rw [((UM46.1 _ (g_ne kd_295 kd_294 (by decide))).trans ((UM39.1 _ (g_ne kd_295 kd_294 (by decide))).trans ((UM32.1 _ (g_ne kd_295 kd_294 (by decide))).trans ((UM25.1 _ (g_ne kd_295 kd_294 (by decide))).trans ((UM18.1 _ (g_ne kd_295 kd_294 (by decide))).trans ((UM11.1 _ (g_ne kd_295 kd_294 (by decide))).trans ((Fr.at GM9 kd_295 (by decide)).trans (UM2.1 _ (g_ne kd_295 kd_294 (by decide))))))))))]; exact hp_0.2.1 i hi, fun r hr => by rw [((UM46.1 _ (g_ne kd_300 kd_294 (by decide))).trans ((UM39.1 _ (g_ne kd_300 kd_294 (by decide))).trans ((UM32.1 _ (g_ne kd_300 kd_294 (by decide))).trans ((UM25.1 _ (g_ne kd_300 kd_294 (by decide))).trans ((UM18.1 _ (g_ne kd_300 kd_294 (by decide))).trans ((UM11.1 _ (g_ne kd_300 kd_294 (by decide))).trans ((Fr.at GM9 kd_300 (by decide)).trans (UM2.1 _ (g_ne kd_300 kd_294 (by decide))))))))))]; exact hp_0.2.2 r hr, b15⟩
  refine PW.aload_n q_267_42 rfl ?_
  refine PW.cV (as := []) (rest := []) q_267_43 t_mv_267_173 kd_294 IM46.1 (by decide) rfl (by decide) rfl rfl (Nat.le_of_ble_eq_true rfl) (Nat.le_of_ble_eq_true rfl) (by decide) (by decide) ?_
  refine PW.up (by decide) (c_X12_go_vk (gTT) (Stab0) G _ M46 IM46 y 0 ⟨RX, b4, Nat.zero_le _⟩ fun M52 IM52 GM52 PM52 => ?_)
  have FM52 := Fr.trans FM46 GM52 (rfl)
  rcases PM52 with ⟨QM52, PtM52⟩
  have tr53 := QM52.i 33 rfl
  have tr54 := QM52.i 34 rfl
  have tr55 := QM52.i 35 rfl
  have tr56 := QM52.i 36 rfl
  have tr57 := QM52.i 37 rfl
  refine PW.cI q_267_46 (by decide) fun c58 hc58 => ?_
  refine PW.istore_n q_267_47 (by decide) ?_
  have L267_48_59 : ∀ (n : Nat) (ML267_48_59 : pM) (v60 : Int32), Iv (gTT) ML267_48_59 → Fr [40, 42, 44, 51] M ML267_48_59 → 0 ≤ v60.toInt → v60.toInt ≤ 1 → gSm ML267_48_59 → (v60.toInt = 1 ∧ r_I y f m ML267_48_59 n) ∨ (v60.toInt = 0 ∧ r_Z y f m ML267_48_59) → o_i (ML267_48_59 294) 15 = 0 → o_i (ML267_48_59 294) 2 = 0 → ML267_48_59 296 = M 296 → ML267_48_59 299 = M 299 → PW G false 3 267 (p_mc 267) (p_msl 267) Kr 48 [(0, .ref 294), (1, .int v60)] [] 311 ML267_48_59 0 0 := by
    intro n
    induction n using Nat.strongRecOn with
    | ind n ih_L267_48_59 =>
    intro ML267_48_59 v60 IML267_48_59 FML267_48_59 hbL267_48_590 hbL267_48_591 hbL267_48_592 hbL267_48_593 hbL267_48_594 hbL267_48_595 hbL267_48_596 hbL267_48_597 
    refine PW.iload_n q_267_48 rfl ?_
    have SM := hbL267_48_592
    have f15 := hbL267_48_594
    have f2 := hbL267_48_595
    have e296 := hbL267_48_596
    have e299 := hbL267_48_597
    have hs61 : o_i (ML267_48_59 294) 33 + o_i (ML267_48_59 294) 35 + o_i (ML267_48_59 294) 37 ≤ 2 * o_i (ML267_48_59 294) 34 := SM.2.2
    have ho61 := g_on20 IML267_48_59.1
    have hc61 := g_co IML267_48_59.1
    refine PW.jz_eq q_267_49 rfl (fun h62 => ?_) (fun h62 => ?_)
    · skip
      have RZ : r_Z y f m ML267_48_59 := by rcases hbL267_48_593 with q | q; (· omega); (· exact q.2)
      have rz2 := RZ.2
      have g15 := hbL267_48_594
      have g2 := hbL267_48_595
      have hx132 : o_i (ML267_48_59 294) 37 = 1 ∧ o_i (ML267_48_59 294) 35 = 0 := by omega
      have w63 : gSn (o_i (ML267_48_59 294) 33) (o_i (ML267_48_59 294) 35) 1 (o_i (ML267_48_59 294) 34) (o_a (ML267_48_59 298)) (o_a (ML267_48_59 305)) := by have q := hbL267_48_592; unfold gSm at q; rw [show o_i (ML267_48_59 294) 37 = 1 from by omega] at q; exact q
      have hs64 : o_i (ML267_48_59 294) 33 + o_i (ML267_48_59 294) 35 + o_i (ML267_48_59 294) 37 ≤ 2 * o_i (ML267_48_59 294) 34 := hbL267_48_592.2.2
      have ho64 := g_on20 IML267_48_59.1
      have hc64 := g_co IML267_48_59.1
      have X65 : Iv (gX 296) ML267_48_59 := ⟨IML267_48_59.1, gX.of IML267_48_59.2⟩
      refine PW.aload_n q_267_132 rfl ?_
      refine PW.gR 296 q_267_133 (Or.inl t_ft_267_33) gF_40_6 kd_294 X65.1 (by decide) rfl ?_
      refine PW.cS q_267_136 (by decide) fun c66 hc66 => ?_
      refine PW.aload_n q_267_139 rfl ?_
      refine PW.gI q_267_140 (Or.inl t_ft_267_382) gF_40_33 kd_294 X65.1 (by decide) fun x67 fx67 hx67 kx67 => ?_
      have ix67 := o_i_of fx67
      have trx67 := o_i_of fx67
      refine PW.wB q_267_143 gA_42 kd_296 X65.1 (by decide) (by omega) (by omega) (by rw [show c66.toInt.toNat = 216 from by omega]; exact ⟨by show (0 : Int) ≤ _; omega, by show _ ≤ (40 : Int); omega⟩) fun M68 JM68 fM68 UM68 => ?_
      have IM68 : Iv (gX 296) M68 := ⟨JM68, gX.up X65.2 UM68.1 (by decide)⟩
      have FM68 := Fr.pu FML267_48_59 UM68.1 kd_296 (rfl : List.contains [40, 42, 44, 51] 42 = true)
      have tr69 : o_i (M68 294) 33 = o_i (ML267_48_59 294) 33 := by rw [UM68.1 294 (g_ne kd_294 kd_296 (by decide))]
      have tr70 : o_i (M68 294) 34 = o_i (ML267_48_59 294) 34 := by rw [UM68.1 294 (g_ne kd_294 kd_296 (by decide))]
      have tr71 : o_i (M68 294) 35 = o_i (ML267_48_59 294) 35 := by rw [UM68.1 294 (g_ne kd_294 kd_296 (by decide))]
      have tr72 : o_i (M68 294) 36 = o_i (ML267_48_59 294) 36 := by rw [UM68.1 294 (g_ne kd_294 kd_296 (by decide))]
      have tr73 : o_i (M68 294) 37 = o_i (ML267_48_59 294) 37 := by rw [UM68.1 294 (g_ne kd_294 kd_296 (by decide))]
      refine PW.cI q_267_144 (by decide) fun c74 hc74 => ?_
      refine PW.istore_n q_267_145 (by decide) ?_
      have L267_146_75 : ∀ (n : Nat) (ML267_146_75 : pM) (v76 : Int32), Iv (gX 296) ML267_146_75 → Fr [40, 42, 44, 51] M ML267_146_75 → 0 ≤ v76.toInt → v76.toInt ≤ 120 → g_st (fun i => o_a (ML267_146_75 296) (33 + i)) → (o_a (ML267_146_75 296) 216).toInt = o_i (ML267_146_75 294) 33 → gcp ML267_146_75 296 217 298 0 v76.toInt → ML267_146_75 294 = ML267_48_59 294 → ML267_146_75 298 = ML267_48_59 298 → gHs ML267_146_75 M → (120 - v76.toInt).toNat = n → PW G false 3 267 (p_mc 267) (p_msl 267) Kr 146 [(0, .ref 294), (1, .int v60), (2, .int v76)] [] 311 ML267_146_75 0 0 := by
        intro n
        induction n using Nat.strongRecOn with
        | ind n ih_L267_146_75 =>
        intro ML267_146_75 v76 IML267_146_75 FML267_146_75 hbL267_146_750 hbL267_146_751 hbL267_146_752 hbL267_146_753 hbL267_146_754 hbL267_146_755 hbL267_146_756 hbL267_146_757 hmL267_146_75
        refine PW.iload_n q_267_146 rfl ?_
        refine PW.cI q_267_147 (by decide) fun c77 hc77 => ?_
        refine PW.aload_n q_267_148 rfl ?_
        refine PW.gI q_267_149 (Or.inl t_ft_267_382) gF_40_33 kd_294 IML267_146_75.1 (by decide) fun x78 fx78 hx78 kx78 => ?_
        have ix78 := o_i_of fx78
        have trx78 := o_i_of fx78
        refine PW.mulN q_267_152 (3) (by omega) x78 (fun h => n_eq.mpr (by omega)) (fun h => n_eq.mpr (by omega)) (by omega) (by omega) fun x79 hx79 => ?_
        refine PW.jc_ge q_267_153 rfl (fun h80 => ?_) (fun h80 => ?_)
        · skip
          have h2 : o_i (ML267_146_75 294) 2 = o_i (ML267_48_59 294) 2 := by rw [hbL267_146_755]
          have h15 : o_i (ML267_146_75 294) 15 = o_i (ML267_48_59 294) 15 := by rw [hbL267_146_755]
          have h34 : o_i (ML267_146_75 294) 34 = o_i (ML267_48_59 294) 34 := by rw [hbL267_146_755]
          have w33 : o_i (ML267_146_75 294) 33 = o_i (ML267_48_59 294) 33 := by rw [hbL267_146_755]
          have X81 : Iv gTT ML267_146_75 := ⟨IML267_146_75.1, gX.e296 IML267_146_75.2 ⟨hbL267_146_752, by rw [hbL267_146_753, hbL267_146_755]; exact gSn.RP w63 (by omega) (by omega) (fun z hz => by have w := hbL267_146_754 z (by omega); rw [Nat.zero_add, hbL267_146_756] at w; exact w)⟩⟩
          refine PW.aload_n q_267_178 rfl ?_
          refine PW.gI q_267_179 (Or.inl t_ft_267_398) gF_40_34 kd_294 X81.1 (by decide) fun x82 fx82 hx82 kx82 => ?_
          have ix82 := o_i_of fx82
          have trx82 := o_i_of fx82
          refine PW.rI q_267_182 rfl (by decide) (by decide) ?_
          obtain ⟨⟨on, ZF, Zo⟩, -, -⟩ := RZ
          exact hK x82 ML267_146_75 X81 FML267_146_75 ⟨(-1, on), ZF, Or.inl ⟨rfl, by show _ = on; omega, by omega⟩, by omega, hbL267_146_757⟩
        · skip
          refine PW.aload_n q_267_156 rfl ?_
          refine PW.gR 296 q_267_157 (Or.inl t_ft_267_33) gF_40_6 kd_294 IML267_146_75.1 (by decide) rfl ?_
          refine PW.cS q_267_160 (by decide) fun c83 hc83 => ?_
          refine PW.iload_n q_267_163 rfl ?_
          refine PW.addN q_267_164 (by omega) (by omega) fun x84 hx84 => ?_
          refine PW.aload_n q_267_165 rfl ?_
          refine PW.gR 298 q_267_166 (Or.inl t_ft_267_40) gF_40_8 kd_294 IML267_146_75.1 (by decide) rfl ?_
          refine PW.iload_n q_267_169 rfl ?_
          refine PW.aH q_267_170 gA_44 kd_298 IML267_146_75.1 (by decide) (by omega) (by omega) fun x85 fx85 => ?_
          refine PW.wB q_267_171 gA_42 kd_296 IML267_146_75.1 (by decide) (by omega) (by omega) (as217 (by omega)) fun M86 JM86 fM86 UM86 => ?_
          have IM86 : Iv (gX 296) M86 := ⟨JM86, gX.up IML267_146_75.2 UM86.1 (by decide)⟩
          have FM86 := Fr.pu FML267_146_75 UM86.1 kd_296 (rfl : List.contains [40, 42, 44, 51] 42 = true)
          have tr87 : o_i (M86 294) 33 = o_i (ML267_146_75 294) 33 := by rw [UM86.1 294 (g_ne kd_294 kd_296 (by decide))]
          have tr88 : o_i (M86 294) 34 = o_i (ML267_146_75 294) 34 := by rw [UM86.1 294 (g_ne kd_294 kd_296 (by decide))]
          have tr89 : o_i (M86 294) 35 = o_i (ML267_146_75 294) 35 := by rw [UM86.1 294 (g_ne kd_294 kd_296 (by decide))]
          have tr90 : o_i (M86 294) 36 = o_i (ML267_146_75 294) 36 := by rw [UM86.1 294 (g_ne kd_294 kd_296 (by decide))]
          have tr91 : o_i (M86 294) 37 = o_i (ML267_146_75 294) 37 := by rw [UM86.1 294 (g_ne kd_294 kd_296 (by decide))]
          refine PW.incN q_267_172 rfl (by decide) (by decide) (by omega) (by omega) fun x92 hx92 => ?_
          refine PW.goto q_267_175 rfl ?_
          refine PW.lvS (lk1 rfl (lk1 rfl (lk1 rfl lk0))) (ih_L267_146_75 _ ?_ M86 x92 IM86 FM86 (by omega) (by omega) (gst_up hbL267_146_752 UM86 (by omega)) (by rw [UM86.2 216 (by omega), UM86.1 294 (by decide)]; exact hbL267_146_753) (gcp.step hbL267_146_754 UM86 (by omega) (by decide) fM86 (by omega) fx85 (by omega) (by omega)) ((UM86.1 294 (by decide)).trans hbL267_146_755) ((UM86.1 298 (by decide)).trans hbL267_146_756) (gHs.st hbL267_146_757 UM86 (by omega)) rfl)
          omega
      exact PW.lvS (lk1 rfl (lk1 rfl (lk1 rfl lk0))) (L267_146_75 _ M68 c74 IM68 FM68 (by omega) (by omega) (gst_up (IML267_48_59.2.2.1).1 UM68 (by omega)) (by have e : c66.toInt.toNat = 216 := (by omega); rw [← e, fM68, UM68.1 294 (by decide)]; omega) (gcp.zero (by omega)) (UM68.1 294 (by decide)) (UM68.1 298 (by decide)) (gHs.st (gHs.cg gHs.refl e296) UM68 (by omega)) rfl)
    · skip
      obtain ⟨⟨i, b, st, on⟩, T, ⟨J1, J2, J3, J⟩, N1, N2⟩ : r_I y f m ML267_48_59 n := by rcases hbL267_48_593 with q | q; (· exact q.2); (· omega)
      have J1 : k_ra y ML267_48_59 i := J1
      have J3 : o_i (ML267_48_59 294) 34 = on := J3
      have N1 : y.2.1 + 2 ≤ n + k_ps y i := N1
      have N2 : k_ps y i ≤ y.2.1 := N2
      have w := k_rE J1
      refine PW.aload_n q_267_52 rfl ?_
      refine PW.gI q_267_53 (Or.inl t_ft_267_401) gF_40_37 kd_294 IML267_48_59.1 (by decide) fun x93 fx93 hx93 kx93 => ?_
      have ix93 := o_i_of fx93
      have trx93 := o_i_of fx93
      refine PW.jz_eq q_267_56 rfl (fun h94 => ?_) (fun h94 => ?_)
      · skip
        refine PW.aload_n q_267_101 rfl ?_
        refine PW.gE q_267_102 (Or.inl t_ft_267_401) gF_40_37 kd_294 IML267_48_59.1 (by decide) fx93 ?_
        have tr95 := o_i_of fx93
        refine PW.jz_eq q_267_105 rfl (fun h96 => ?_) (fun h96 => False.elim (by omega))
        obtain ⟨rfl, -, J4⟩ : b = false ∧ o_i (ML267_48_59 294) 37 = 0 ∧ r_P ML267_48_59 = st := by rcases J with q | q; (· exact q); (· omega)
        refine PW.aload_n q_267_118 rfl ?_
        refine PW.cV (as := []) (rest := []) q_267_119 t_mv_267_413 kd_294 IML267_48_59.1 (by decide) rfl (by decide) rfl rfl (Nat.le_of_ble_eq_true rfl) (Nat.le_of_ble_eq_true rfl) (by decide) (by decide) ?_
        refine PW.up (by decide) (c_X12_operand_vk G _ ML267_48_59 IML267_48_59 y i f m st on SM (by omega) J1 (hp_3.cg e296 e299) J2 J4 J3 fun x98 M97 IM97 GM97 hx98 kx98 PM97 => ?_)
        have FM97 := Fr.trans FML267_48_59 GM97 (rfl)
        rcases PM97 with ⟨QM97, ⟨PaM97, PzM97, PsM97, PjM97, P5M97⟩ | ⟨PaM97, PzM97, PyM97, PfM97, PgM97⟩⟩
        · skip
          have RI := r_I.op T PzM97 PjM97 N1 N2
          have hn1 := RI.1
          refine PW.jz_ne q_267_122 rfl (fun h99 => ?_) (fun h99 => False.elim (by omega))
          refine PW.lvS (lk1 rfl (lk1 rfl lk0)) (ih_L267_48_59 (n - 1) ?_ M97 v60 IM97 FM97 (by omega) (by omega) PsM97 (Or.inl ⟨by omega, RI.2⟩) (P5M97.trans f15) ((QM97.i 2 rfl).trans f2) ((Fr.at GM97 kd_296 (by decide)).trans e296) ((Fr.at GM97 kd_299 (by decide)).trans e299))
          omega
        · skip
          have ZF := s_fin.op T PzM97
          refine PW.jz_ne q_267_122 rfl (fun h100 => False.elim (by omega)) (fun h100 => ?_)
          refine PW.cI q_267_125 (by decide) fun c101 hc101 => ?_
          refine PW.aload_n q_267_126 rfl ?_
          refine PW.gI q_267_127 (Or.inl t_ft_267_164) gF_40_16 kd_294 IM97.1 (by decide) fun x102 fx102 hx102 kx102 => ?_
          have ix102 := o_i_of fx102
          clear hx102 kx102
          refine PW.subN q_267_130 (by have := n_lo x102; have := n_hi x102; omega) (by have := n_lo x102; have := n_hi x102; omega) fun x103 hx103 => ?_
          refine PW.rI q_267_131 rfl (by decide) (by decide) ?_
          exact hK x103 M97 IM97 FM97 ⟨((s_op y f m i st on).1, (s_op y f m i st on).2.1), ZF, Or.inr ⟨PzM97, PyM97, by show _ = -1 - (s_op y f m i st on).2.1; omega, PfM97⟩, ((QM97.i 2 rfl).trans f2), (gHs.cg gHs.refl ((Fr.at GM97 kd_296 (by decide)).trans e296))⟩
      · skip
        refine PW.aload_n q_267_59 rfl ?_
        refine PW.gI q_267_60 (Or.inl t_ft_267_144) gF_40_11 kd_294 IML267_48_59.1 (by decide) fun x104 fx104 hx104 kx104 => ?_
        have ix104 := o_i_of fx104
        clear hx104 kx104
        refine PW.jz_ne q_267_63 rfl (fun h105 => ?_) (fun h105 => ?_)
        · skip
          refine PW.aload_n q_267_101 rfl ?_
          refine PW.gE q_267_102 (Or.inl t_ft_267_401) gF_40_37 kd_294 IML267_48_59.1 (by decide) fx93 ?_
          have tr106 := o_i_of fx93
          refine PW.jz_eq q_267_105 rfl (fun h107 => False.elim (by omega)) (fun h107 => ?_)
          obtain ⟨rfl, -, J4⟩ : b = true ∧ o_i (ML267_48_59 294) 37 = 1 ∧ s_dn (r_P ML267_48_59) = st := by rcases J with q | q; (· omega); (· exact q)
          refine PW.aload_n q_267_108 rfl ?_
          refine PW.cV (as := []) (rest := []) q_267_109 t_mv_267_410 kd_294 IML267_48_59.1 (by decide) rfl (by decide) rfl rfl (Nat.le_of_ble_eq_true rfl) (Nat.le_of_ble_eq_true rfl) (by decide) (by decide) ?_
          refine PW.up (by decide) (c_X12_behind_vk G _ ML267_48_59 IML267_48_59 y i st on SM (by omega) J1 J2 J4 J3 (by omega) fun x109 M108 IM108 GM108 hx109 kx109 PM108 => ?_)
          have FM108 := Fr.trans FML267_48_59 GM108 (rfl)
          rcases PM108 with ⟨QM108, ⟨PaM108, PzM108, PsM108, PjM108, P5M108⟩ | ⟨PaM108, PzM108, PyM108, PfM108, PgM108⟩⟩
          · skip
            have RI := r_I.bh T PzM108 PjM108 N1 N2
            have hn1 := RI.1
            refine PW.jz_ne q_267_112 rfl (fun h110 => ?_) (fun h110 => False.elim (by omega))
            refine PW.lvS (lk1 rfl (lk1 rfl lk0)) (ih_L267_48_59 (n - 1) ?_ M108 v60 IM108 FM108 (by omega) (by omega) PsM108 (Or.inl ⟨by omega, RI.2⟩) (P5M108.trans f15) ((QM108.i 2 rfl).trans f2) ((Fr.at GM108 kd_296 (by decide)).trans e296) ((Fr.at GM108 kd_299 (by decide)).trans e299))
            omega
          · skip
            have ZF := s_fin.bh T (show (s_bh y i st on).1 ≠ 0 by omega)
            refine PW.jz_ne q_267_112 rfl (fun h111 => False.elim (by omega)) (fun h111 => ?_)
            refine PW.goto q_267_115 rfl ?_
            refine PW.cI q_267_125 (by decide) fun c112 hc112 => ?_
            refine PW.aload_n q_267_126 rfl ?_
            refine PW.gI q_267_127 (Or.inl t_ft_267_164) gF_40_16 kd_294 IM108.1 (by decide) fun x113 fx113 hx113 kx113 => ?_
            have ix113 := o_i_of fx113
            clear hx113 kx113
            refine PW.subN q_267_130 (by have := n_lo x113; have := n_hi x113; omega) (by have := n_lo x113; have := n_hi x113; omega) fun x114 hx114 => ?_
            refine PW.rI q_267_131 rfl (by decide) (by decide) ?_
            exact hK x114 M108 IM108 FM108 ⟨((s_bh y i st on).1, (s_bh y i st on).2.1), ZF, Or.inr ⟨PzM108, PyM108, by show _ = -1 - (s_bh y i st on).2.1; omega, PfM108⟩, ((QM108.i 2 rfl).trans f2), (gHs.cg gHs.refl ((Fr.at GM108 kd_296 (by decide)).trans e296))⟩
        · skip
          obtain ⟨rfl, -, J4⟩ : b = true ∧ o_i (ML267_48_59 294) 37 = 1 ∧ s_dn (r_P ML267_48_59) = st := by rcases J with q | q; (· omega); (· exact q)
          refine PW.aload_n q_267_66 rfl ?_
          refine PW.cV (as := []) (rest := []) q_267_67 t_mv_267_404 kd_294 IML267_48_59.1 (by decide) rfl (by decide) rfl rfl (Nat.le_of_ble_eq_true rfl) (Nat.le_of_ble_eq_true rfl) (by decide) (by decide) ?_
          refine PW.up (by decide) (c_X12_nots_vs G _ ML267_48_59 IML267_48_59 SM (by omega) J2 fun M115 IM115 GM115 PM115 => ?_)
          have FM115 := Fr.trans FML267_48_59 GM115 (rfl)
          obtain ⟨NaM115, NbM115, NcM115, NeM115, NfM115, QM115, NqM115, NtM115, NpM115⟩ := PM115
          have stN : r_P M115 = st := NpM115.trans J4
          have hs116 : o_i (M115 294) 33 + o_i (M115 294) 35 + o_i (M115 294) 37 ≤ 2 * o_i (M115 294) 34 := NaM115.2.2
          have ho116 := g_on20 IM115.1
          have hc116 := g_co IM115.1
          refine PW.aload_n q_267_70 rfl ?_
          refine PW.cB q_267_71 (by decide) fun c117 hc117 => ?_
          refine PW.cV (as := [_]) (rest := []) q_267_73 t_mv_267_407 kd_294 IM115.1 (by decide) rfl (by decide) rfl rfl (Nat.le_of_ble_eq_true rfl) (Nat.le_of_ble_eq_true rfl) (by decide) (by decide) ?_
          refine PW.up (by decide) (c_X12_joins_vs G _ M115 IM115 c117 NaM115 (by omega) NqM115 NtM115 fun M118 IM118 GM118 PM118 => ?_)
          have FM118 := Fr.trans FM115 GM118 (rfl)
          obtain ⟨NaM118, NbM118, NcM118, NeM118, NfM118, NgM118, QM118, NqM118, NpM118, NtM118⟩ := PM118
          have stJ : r_P M118 = st := NpM118.trans stN
          have hs119 : o_i (M118 294) 33 + o_i (M118 294) 35 + o_i (M118 294) 37 ≤ 2 * o_i (M118 294) 34 := NaM118.2.2
          have ho119 := g_on20 IM118.1
          have hc119 := g_co IM118.1
          have tp := r_Q.top NqM118 NtM118 (by omega) (by omega)
          refine PW.aload_n q_267_76 rfl ?_
          refine PW.gI q_267_77 (Or.inl t_ft_267_385) gF_40_35 kd_294 IM118.1 (by decide) fun x120 fx120 hx120 kx120 => ?_
          have ix120 := o_i_of fx120
          have trx120 := o_i_of fx120
          refine PW.jz_le q_267_80 rfl (fun h121 => ?_) (fun h121 => ?_)
          · skip
            have s1 : st = [] := by rcases tp with q | q; (· rw [← stJ]; exact q.2); (· omega)
            have e : s_bh y i st on = (-1, on, (0, false, [], 0)) := by unfold s_bh; rw [if_neg (by omega), if_neg (show ¬ ((kK y i = 5 ∧ kV y i = 41) ∧ st ≠ []) from fun h => h.2 s1), if_pos (show kK y i = 0 ∧ st = [] from ⟨by omega, s1⟩)]
            have ZF : s_fin y f m (0, false, [], 0) (-1, on) := by have q := s_fin.bh T (show (s_bh y i st on).1 ≠ 0 by rw [e]; exact (by decide : (-1 : Int) ≠ 0)); rw [e] at q; exact q
            have hn1 : 1 ≤ n := by omega
            refine PW.cI q_267_96 (by decide) fun c122 hc122 => ?_
            refine PW.istore_n q_267_97 (by decide) ?_
            refine PW.goto q_267_98 rfl ?_
            refine PW.lvS (lk1 rfl (lk1 rfl lk0)) (ih_L267_48_59 (n - 1) ?_ M118 c122 IM118 FM118 (by omega) (by omega) NaM118 (Or.inr ⟨by omega, ⟨on, ZF, by omega⟩, by omega, by omega⟩) (((QM118.i 15 rfl).trans (QM115.i 15 rfl)).trans f15) (((QM118.i 2 rfl).trans (QM115.i 2 rfl)).trans f2) (((Fr.at GM118 kd_296 (by decide)).trans (Fr.at GM115 kd_296 (by decide))).trans e296) (((Fr.at GM118 kd_299 (by decide)).trans (Fr.at GM115 kd_299 (by decide))).trans e299))
            omega
          · skip
            have s1 : st ≠ [] := by rcases tp with q | q; (· omega); (· rw [← stJ]; exact q.2.2)
            have e : s_bh y i st on = (1, kP y i, (0, false, [], 0)) := by unfold s_bh; rw [if_neg (by omega), if_neg (show ¬ ((kK y i = 5 ∧ kV y i = 41) ∧ st ≠ []) from fun h => by omega), if_neg (show ¬ (kK y i = 0 ∧ st = []) from fun h => s1 h.2)]
            have ZF : s_fin y f m (0, false, [], 0) (1, kP y i) := by have q := s_fin.bh T (show (s_bh y i st on).1 ≠ 0 by rw [e]; exact (by decide : (1 : Int) ≠ 0)); rw [e] at q; exact q
            refine PW.aload_n q_267_83 rfl ?_
            refine PW.cI q_267_84 (by decide) fun c123 hc123 => ?_
            refine PW.cV (as := [_]) (rest := []) q_267_85 t_mv_267_170 kd_294 IM118.1 (by decide) rfl (by decide) rfl rfl (Nat.le_of_ble_eq_true rfl) (Nat.le_of_ble_eq_true rfl) (by decide) (by decide) ?_
            refine PW.up (by decide) (c_X12_bad_vk (gTT) (Stab0) G _ M118 IM118 c123 y i ((J1.K QM115 (Fr.at GM115 kd_295 (by decide)) (Fr.at GM115 kd_300 (by decide)) rfl).K QM118 (Fr.at GM118 kd_295 (by decide)) (Fr.at GM118 kd_300 (by decide)) rfl) fun x125 M124 IM124 GM124 hx125 kx125 PM124 => ?_)
            have FM124 := Fr.trans FM118 GM124 (rfl)
            rcases PM124 with ⟨QM124, ⟨PfM124, PgM124⟩⟩
            refine PW.pop q_267_88 rfl ?_
            refine PW.cI q_267_89 (by decide) fun c126 hc126 => ?_
            refine PW.aload_n q_267_90 rfl ?_
            refine PW.gI q_267_91 (Or.inl t_ft_267_164) gF_40_16 kd_294 IM124.1 (by decide) fun x127 fx127 hx127 kx127 => ?_
            have ix127 := o_i_of fx127
            clear hx127 kx127
            refine PW.subN q_267_94 (by have := n_lo x127; have := n_hi x127; omega) (by have := n_lo x127; have := n_hi x127; omega) fun x128 hx128 => ?_
            refine PW.rI q_267_95 rfl (by decide) (by decide) ?_
            exact hK x128 M124 IM124 FM124 ⟨(1, kP y i), ZF, Or.inr ⟨by show (1 : Int) ≤ 1; omega, by show (1 : Int) ≤ 4; omega, by show _ = -1 - kP y i; omega, by show _ = (1 : Int); omega⟩, (((QM124.i 2 rfl).trans ((QM118.i 2 rfl).trans (QM115.i 2 rfl))).trans f2), (gHs.cg gHs.refl (((Fr.at GM124 kd_296 (by decide)).trans ((Fr.at GM118 kd_296 (by decide)).trans (Fr.at GM115 kd_296 (by decide)))).trans e296))⟩
  have rz := r_Q.zero (M := M52) (by omega) (by omega)
  exact PW.lvS (lk1 rfl (lk1 rfl lk0)) (L267_48_59 (y.2.1 + 2) M52 c58 IM52 FM52 (by omega) (by omega) (gSm.of gSn.zero (by omega) (by omega) (by omega) (by omega) rfl rfl) (Or.inl ⟨by omega, (0, false, [], 0), s_to.refl, ⟨PtM52, rz.1, by show _ = (0 : Int); omega, Or.inl ⟨rfl, by omega, rz.2⟩⟩, by show y.2.1 + 2 ≤ y.2.1 + 2 + 0; omega, Nat.zero_le _⟩) ((QM52.i 15 rfl).trans b15) ((QM52.i 2 rfl).trans b2) ((Fr.at GM52 kd_296 (by decide)).trans ((UM46.1 _ (g_ne kd_296 kd_294 (by decide))).trans ((UM39.1 _ (g_ne kd_296 kd_294 (by decide))).trans ((UM32.1 _ (g_ne kd_296 kd_294 (by decide))).trans ((UM25.1 _ (g_ne kd_296 kd_294 (by decide))).trans ((UM18.1 _ (g_ne kd_296 kd_294 (by decide))).trans ((UM11.1 _ (g_ne kd_296 kd_294 (by decide))).trans ((Fr.at GM9 kd_296 (by decide)).trans (UM2.1 _ (g_ne kd_296 kd_294 (by decide))))))))))) ((Fr.at GM52 kd_299 (by decide)).trans ((UM46.1 _ (g_ne kd_299 kd_294 (by decide))).trans ((UM39.1 _ (g_ne kd_299 kd_294 (by decide))).trans ((UM32.1 _ (g_ne kd_299 kd_294 (by decide))).trans ((UM25.1 _ (g_ne kd_299 kd_294 (by decide))).trans ((UM18.1 _ (g_ne kd_299 kd_294 (by decide))).trans ((UM11.1 _ (g_ne kd_299 kd_294 (by decide))).trans ((Fr.at GM9 kd_299 (by decide)).trans (UM2.1 _ (g_ne kd_299 kd_294 (by decide))))))))))))
