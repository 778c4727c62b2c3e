/-! ===== a text's tokens, as a function of its bytes: x = (bytes, how many, the most) ===== -/
abbrev k_X : Type := (Nat → Int) × Nat × Nat
abbrev k_T : Type := Int × Int × Int × Nat
/-- the first place from p on that is no space, by a fuel -/
def k_skF (x : k_X) : Nat → Nat → Nat
  | 0, p => p
  | k + 1, p => if p < x.2.1 ∧ (x.1 p = 32 ∨ x.1 p = 10) then k_skF x k (p + 1) else p
def k_sk (x : k_X) (p : Nat) : Nat := k_skF x (x.2.1 - p) p
theorem k_sk_on {x : k_X} {p : Nat} (h : p < x.2.1) (hs : x.1 p = 32 ∨ x.1 p = 10) : k_sk x p = k_sk x (p + 1) := by
  unfold k_sk
  rw [show x.2.1 - p = (x.2.1 - (p + 1)) + 1 from by omega]
  exact if_pos ⟨h, hs⟩
theorem k_sk_at {x : k_X} {p : Nat} (h : ¬ (p < x.2.1 ∧ (x.1 p = 32 ∨ x.1 p = 10))) : k_sk x p = p := by
  unfold k_sk
  cases x.2.1 - p with
  | zero => rfl
  | succ k => exact if_neg h
theorem k_skF_le (x : k_X) : ∀ k p, p ≤ k_skF x k p := by
  intro k
  induction k with
  | zero => intro p; exact Nat.le_refl _
  | succ k ih =>
    intro p
    show p ≤ (if p < x.2.1 ∧ (x.1 p = 32 ∨ x.1 p = 10) then k_skF x k (p + 1) else p)
    split
    · have := ih (p + 1); omega
    · exact Nat.le_refl _
theorem k_sk_le (x : k_X) (p : Nat) : p ≤ k_sk x p := k_skF_le x _ p
/-- a letter or a digit -/
def k_ld (c : Int) : Prop := (97 ≤ c ∧ c ≤ 122) ∨ (48 ≤ c ∧ c ≤ 57)
/-- the end of the run of letters and digits at p -/
def k_rnF (x : k_X) : Nat → Nat → Nat
  | 0, p => p
  | k + 1, p => if p < x.2.1 ∧ ((97 ≤ x.1 p ∧ x.1 p ≤ 122) ∨ (48 ≤ x.1 p ∧ x.1 p ≤ 57)) then k_rnF x k (p + 1) else p
def k_rn (x : k_X) (p : Nat) : Nat := k_rnF x (x.2.1 - p) p
theorem k_rn_on {x : k_X} {p : Nat} (h : p < x.2.1) (hs : (97 ≤ x.1 p ∧ x.1 p ≤ 122) ∨ (48 ≤ x.1 p ∧ x.1 p ≤ 57)) : k_rn x p = k_rn x (p + 1) := by
  unfold k_rn
  rw [show x.2.1 - p = (x.2.1 - (p + 1)) + 1 from by omega]
  exact if_pos ⟨h, hs⟩
theorem k_rn_at {x : k_X} {p : Nat} (h : ¬ (p < x.2.1 ∧ ((97 ≤ x.1 p ∧ x.1 p ≤ 122) ∨ (48 ≤ x.1 p ∧ x.1 p ≤ 57)))) : k_rn x p = p := by
  unfold k_rn
  cases x.2.1 - p with
  | zero => rfl
  | succ k => exact if_neg h
theorem k_rnF_le (x : k_X) : ∀ k p, p ≤ k_rnF x k p ∧ (p ≤ x.2.1 → k_rnF x k p ≤ x.2.1) := by
  intro k
  induction k with
  | zero => intro p; exact ⟨Nat.le_refl _, fun h => h⟩
  | succ k ih =>
    intro p
    show p ≤ (if p < x.2.1 ∧ ((97 ≤ x.1 p ∧ x.1 p ≤ 122) ∨ (48 ≤ x.1 p ∧ x.1 p ≤ 57)) then k_rnF x k (p + 1) else p) ∧ (p ≤ x.2.1 → (if p < x.2.1 ∧ ((97 ≤ x.1 p ∧ x.1 p ≤ 122) ∨ (48 ≤ x.1 p ∧ x.1 p ≤ 57)) then k_rnF x k (p + 1) else p) ≤ x.2.1)
    split
    · next h =>
      have := ih (p + 1)
      exact ⟨by omega, fun _ => this.2 (by omega)⟩
    · exact ⟨Nat.le_refl _, fun h => h⟩
theorem k_rn_le (x : k_X) (p : Nat) : p ≤ k_rn x p := (k_rnF_le x _ p).1
theorem k_rn_le2 {x : k_X} {p : Nat} (h : p ≤ x.2.1) : k_rn x p ≤ x.2.1 := (k_rnF_le x _ p).2 h
/-- of the first k signs from q on: how many letters, the word to base 32, the number, the word to base 256 -/
def k_lt (x : k_X) (q : Nat) : Nat → Int
  | 0 => 0
  | k + 1 => k_lt x q k + (if 97 ≤ x.1 (q + k) ∧ x.1 (q + k) ≤ 122 then 1 else 0)
def k_cd (x : k_X) (q : Nat) : Nat → Int
  | 0 => 0
  | k + 1 => k_cd x q k * 32 + (x.1 (q + k) - 96)
def k_nu (x : k_X) (q : Nat) : Nat → Int
  | 0 => 0
  | k + 1 => 10 * k_nu x q k + (x.1 (q + k) - 48)
def k_w8 (x : k_X) (q : Nat) : Nat → Int
  | 0 => 0
  | k + 1 => k_w8 x q k * 256 + x.1 (q + k)
theorem k_lt_l {x : k_X} {q k : Nat} (h : 97 ≤ x.1 (q + k)) (h2 : x.1 (q + k) ≤ 122) : k_lt x q (k + 1) = k_lt x q k + 1 := by
  show k_lt x q k + (if 97 ≤ x.1 (q + k) ∧ x.1 (q + k) ≤ 122 then 1 else 0) = _
  rw [if_pos ⟨h, h2⟩]
theorem k_lt_d {x : k_X} {q k : Nat} (h : ¬ (97 ≤ x.1 (q + k) ∧ x.1 (q + k) ≤ 122)) : k_lt x q (k + 1) = k_lt x q k := by
  show k_lt x q k + (if 97 ≤ x.1 (q + k) ∧ x.1 (q + k) ≤ 122 then 1 else 0) = _
  rw [if_neg h, Int.add_zero]
theorem k_lt_b (x : k_X) (q : Nat) : ∀ k, 0 ≤ k_lt x q k ∧ k_lt x q k ≤ k := by
  intro k
  induction k with
  | zero => show (0 : Int) ≤ 0 ∧ (0 : Int) ≤ ((0 : Nat) : Int); omega
  | succ k ih =>
    by_cases h : 97 ≤ x.1 (q + k) ∧ x.1 (q + k) ≤ 122
    · rw [k_lt_l h.1 h.2]; omega
    · rw [k_lt_d h]; omega
/-- the run that begins at q, as a token -/
def k_ru (x : k_X) (q : Nat) : k_T :=
  if k_lt x q (k_rn x q - q) = (k_rn x q - q : Nat) ∧ k_rn x q - q ≤ 7 then (2, k_cd x q (k_rn x q - q), q, k_rn x q)
  else if k_lt x q (k_rn x q - q) = 0 ∧ k_rn x q - q ≤ 3 then (4, k_nu x q (k_rn x q - q), q, k_rn x q)
  else (1, 0, q, 0)
/-- the token at a place: kind (0 end, 1 none, 2 word or name, 4 number, 5 sign), value, place, where the next begins -/
def k_tk (x : k_X) (p : Nat) : k_T :=
  if x.2.1 ≤ x.2.2 ∧ x.2.1 ≤ k_sk x p then (0, 0, x.2.1, 0)
  else if x.2.2 < x.2.1 ∧ x.2.2 ≤ k_sk x p then (1, 0, x.2.2, 0)
  else if (97 ≤ x.1 (k_sk x p) ∧ x.1 (k_sk x p) ≤ 122) ∨ (48 ≤ x.1 (k_sk x p) ∧ x.1 (k_sk x p) ≤ 57) then k_ru x (k_sk x p)
  else if x.1 (k_sk x p) = 59 ∨ x.1 (k_sk x p) = 40 ∨ x.1 (k_sk x p) = 41 ∨ (60 ≤ x.1 (k_sk x p) ∧ x.1 (k_sk x p) ≤ 62) then (5, x.1 (k_sk x p), k_sk x p, k_sk x p + 1)
  else (1, 0, k_sk x p, 0)
/-- where the token number i begins to be looked for -/
def k_ps (x : k_X) : Nat → Nat
  | 0 => 0
  | i + 1 => (k_tk x (k_ps x i)).2.2.2
def kK (x : k_X) (i : Nat) : Int := (k_tk x (k_ps x i)).1
def kV (x : k_X) (i : Nat) : Int := (k_tk x (k_ps x i)).2.1
def kP (x : k_X) (i : Nat) : Int := (k_tk x (k_ps x i)).2.2.1
/-- a token of a kind goes on, and stays in the text -/
theorem k_ru_on {x : k_X} {q : Nat} (h : 2 ≤ (k_ru x q).1) : (k_ru x q).2.2.2 = k_rn x q := by
  unfold k_ru at h ⊢
  split at h
  · next q1 => rw [if_pos q1]
  · next q1 =>
    split at h
    · next q2 => rw [if_neg q1, if_pos q2]
    · exact absurd (show (2 : Int) ≤ 1 from h) (by decide)
theorem k_tk_on {x : k_X} {p : Nat} (h : 2 ≤ (k_tk x p).1) : p < (k_tk x p).2.2.2 ∧ (k_tk x p).2.2.2 ≤ x.2.1 := by
  have h1 := k_sk_le x p
  by_cases q1 : x.2.1 ≤ x.2.2 ∧ x.2.1 ≤ k_sk x p
  · exfalso; unfold k_tk at h; rw [if_pos q1] at h; exact absurd (show (2 : Int) ≤ 0 from h) (by decide)
  by_cases q2 : x.2.2 < x.2.1 ∧ x.2.2 ≤ k_sk x p
  · exfalso; unfold k_tk at h; rw [if_neg q1, if_pos q2] at h; exact absurd (show (2 : Int) ≤ 1 from h) (by decide)
  have q3 : k_sk x p < x.2.1 := by omega
  by_cases q5 : (97 ≤ x.1 (k_sk x p) ∧ x.1 (k_sk x p) ≤ 122) ∨ (48 ≤ x.1 (k_sk x p) ∧ x.1 (k_sk x p) ≤ 57)
  · have e : k_tk x p = k_ru x (k_sk x p) := by unfold k_tk; rw [if_neg q1, if_neg q2, if_pos q5]
    rw [e] at h ⊢
    rw [k_ru_on h]
    have q4 := k_rn_le2 (x := x) (p := k_sk x p) (by omega)
    have q6 : k_sk x p + 1 ≤ k_rn x (k_sk x p) := by rw [k_rn_on q3 q5]; exact k_rn_le x _
    exact ⟨by omega, q4⟩
  by_cases q6 : x.1 (k_sk x p) = 59 ∨ x.1 (k_sk x p) = 40 ∨ x.1 (k_sk x p) = 41 ∨ (60 ≤ x.1 (k_sk x p) ∧ x.1 (k_sk x p) ≤ 62)
  · have e : k_tk x p = (5, x.1 (k_sk x p), (k_sk x p : Int), k_sk x p + 1) := by unfold k_tk; rw [if_neg q1, if_neg q2, if_neg q5, if_pos q6]
    rw [e]
    exact ⟨by show p < k_sk x p + 1; omega, by show k_sk x p + 1 ≤ x.2.1; omega⟩
  · exfalso; unfold k_tk at h; rw [if_neg q1, if_neg q2, if_neg q5, if_neg q6] at h; exact absurd (show (2 : Int) ≤ 1 from h) (by decide)
theorem k_ps_on {x : k_X} {i : Nat} (h : 2 ≤ kK x i) : k_ps x i < k_ps x (i + 1) ∧ k_ps x (i + 1) ≤ x.2.1 := k_tk_on h
/-! ===== bounds of the first signs' values  ===== -/
def k_cb (k : Nat) (v : Int) : Prop := 0 ≤ v ∧ (k ≤ 0 → v ≤ 0) ∧ (k ≤ 1 → v ≤ 31) ∧ (k ≤ 2 → v ≤ 1023) ∧ (k ≤ 3 → v ≤ 32767) ∧ (k ≤ 4 → v ≤ 1048575) ∧ (k ≤ 5 → v ≤ 33554431) ∧ (k ≤ 6 → v ≤ 1073741823) ∧ (k ≤ 7 → v ≤ 34359738367)
theorem k_cb.on {k : Nat} {v c : Int} (h : k_cb k v) (h1 : 1 ≤ c) (h2 : c ≤ 26) : k_cb (k + 1) (v * 32 + c) := by
  obtain ⟨a, a0, a1, a2, a3, a4, a5, a6, a7⟩ := h
  exact ⟨by omega, fun q => by omega, fun q => by have := a0 (by omega); omega, fun q => by have := a1 (by omega); omega, fun q => by have := a2 (by omega); omega, fun q => by have := a3 (by omega); omega, fun q => by have := a4 (by omega); omega, fun q => by have := a5 (by omega); omega, fun q => by have := a6 (by omega); omega⟩
def k_nb (k : Nat) (v : Int) : Prop := 0 ≤ v ∧ (k ≤ 0 → v ≤ 0) ∧ (k ≤ 1 → v ≤ 9) ∧ (k ≤ 2 → v ≤ 99) ∧ (k ≤ 3 → v ≤ 999)
theorem k_nb.on {k : Nat} {v c : Int} (h : k_nb k v) (h1 : 0 ≤ c) (h2 : c ≤ 9) : k_nb (k + 1) (10 * v + c) := by
  obtain ⟨a, a0, a1, a2, a3⟩ := h
  exact ⟨by omega, fun q => by omega, fun q => by have := a0 (by omega); omega, fun q => by have := a1 (by omega); omega, fun q => by have := a2 (by omega); omega⟩
