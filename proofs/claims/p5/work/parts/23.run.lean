/-! ===== the class reads a run ===== -/
theorem p_wcA : ((List.range 28).all fun r => (List.range 28).all fun s => (r == s) || !((p_wc r).toInt == (p_wc s).toInt)) = true := by decide +kernel
theorem p_wc_inj {r s : Nat} (hr : r < 28) (hs : s < 28) (e : (p_wc r).toInt = (p_wc s).toInt) : r = s := by
  have q := List.all_eq_true.mp (List.all_eq_true.mp p_wcA r (List.mem_range.mpr hr)) s (List.mem_range.mpr hs)
  simp only [Bool.or_eq_true, beq_iff_eq, Bool.not_eq_true', beq_eq_false_iff_ne, ne_eq] at q
  rcases q with q | q
  · exact q
  · exact absurd e q
/-- two words are the same, or they aren't -/
theorem PW.jw_ne {G : pG} {al : Bool} {d j mc ms : Nat} {Kr : pK} {pc : Nat} {lv : List (Nat × Value)} {st : List Value} {N : Nat} {M : pM} {ce sl : Nat} {r s : Nat} {off : Int} {tgt : Nat} (h : p_tb j pc = some (.if_acmp .ne off, 3)) (ht : (pc : Int) + off = (tgt : Int)) (hr : r < 28) (hs : s < 28) (kt : r ≠ s → PW G al d j mc ms Kr tgt lv st N M ce sl) (kf : r = s → PW G al d j mc ms Kr (pc + 3) lv st N M ce sl) : PW G al d j mc ms Kr pc lv (.ref (65536 + s) :: .ref (65536 + r) :: st) N M ce sl := by
  intro p l e R s0 m args below meth c H locs ls Q hC hret hR hS hl
  have hE := hC.2.2.2.2.2.2.1.2.2.2.2.2.2.2.2
  have inj : p_r G (65536 + r) = p_r G (65536 + s) → r = s := fun q => by
    rw [p_wr, p_wr] at q
    obtain ⟨cf, k, i, f, cell, z1, z2, z3, z4, z5, z6⟩ := hE r hr
    obtain ⟨cf', k', i', f', cell', y1, y2, y3, y4, y5, y6⟩ := hE s hs
    rw [z1] at y1
    have e1 := Option.some.inj y1
    simp only [Prod.mk.injEq] at e1
    obtain ⟨-, -, -, rfl⟩ := e1
    rw [q, y3] at z3
    obtain rfl := Option.some.inj z3
    rw [z5] at y5
    have e2 := Option.some.inj y5
    have e3 : p_wc r = p_wc s := Value.long.inj e2
    exact p_wc_inj hr hs (by rw [e3])
  exact PW.ja_ne (rx := some (65536 + r)) (ry := some (65536 + s)) h ht (fun q => kt (fun e => q (by rw [e]))) (fun q => kf (inj (Option.some.inj q))) p l e R s0 m args below meth c H locs ls Q hC hret hR hS hl
theorem k_tx.U {x : k_X} {M M1 : pM} {i : Nat} (h : k_tx x M) (U : gU M M1 1 i) (h1 : 1 ≠ i) (h2 : 2 ≠ i) (h3 : 10 ≠ i) : k_tx x M1 := by
  unfold k_tx
  rw [U.i (c := 1) (Or.inr h1), U.i (c := 1) (Or.inr h2), U.i (c := 1) (Or.inr h3), U.1 2 (by decide)]
  exact h
theorem gU.J {M M1 : pM} {a i c k : Nat} (U : gU M M1 a i) (h : c ≠ a ∨ k ≠ i) : o_J (M1 c) k = o_J (M c) k := by unfold o_J; rw [U.f h]
def k_run (x : k_X) (q : Nat) (M : pM) (l d : Int) : Prop :=
  ∃ k : Nat, o_i (M 1) 3 = (q : Int) + k ∧ q + k ≤ x.2.1 ∧ k_rn x (q + k) = k_rn x q ∧ l = k_lt x q k ∧ d = k - k_lt x q k ∧
    (d = 0 → k ≤ 7 → o_J (M 1) 7 = k_cd x q k ∧ k_cb k (k_cd x q k)) ∧ (l = 0 → k ≤ 3 → o_i (M 1) 8 = k_nu x q k ∧ k_nb k (k_nu x q k)) ∧ k_tx x M ∧ o_i (M 1) 4 = q
theorem k_run.tx {x : k_X} {q : Nat} {M : pM} {l d : Int} (h : k_run x q M l d) : k_tx x M := by
  obtain ⟨k, h1, h2, h3, h4, h5, h6, h7, h8, h9⟩ := h
  exact h8
theorem k_run.bd {x : k_X} {q : Nat} {M : pM} {l d : Int} (h : k_run x q M l d) : l + d = o_i (M 1) 3 - q ∧ 0 ≤ l ∧ 0 ≤ d := by
  obtain ⟨k, h1, h2, h3, h4, h5, h6, h7, h8, h9⟩ := h
  have eb := k_lt_b x q k
  omega
theorem k_run.init {x : k_X} {q : Nat} {M : pM} {l d : Int} (e3 : o_i (M 1) 3 = q) (hq : q ≤ x.2.1) (hl : l = 0) (hd : d = 0) (e7 : o_J (M 1) 7 = 0) (e8 : o_i (M 1) 8 = 0) (tx : k_tx x M) (e4 : o_i (M 1) 4 = q) : k_run x q M l d := by
  have z1 : k_cb 0 0 := ⟨by omega, fun _ => by omega, fun _ => by omega, fun _ => by omega, fun _ => by omega, fun _ => by omega, fun _ => by omega, fun _ => by omega, fun _ => by omega⟩
  have z2 : k_nb 0 0 := ⟨by omega, fun _ => by omega, fun _ => by omega, fun _ => by omega, fun _ => by omega⟩
  exact ⟨0, by omega, hq, rfl, hl, by show d = ((0 : Nat) : Int) - 0; omega, fun _ _ => ⟨e7, z1⟩, fun _ _ => ⟨e8, z2⟩, tx, e4⟩
theorem k_run.l {x : k_X} {q : Nat} {M M1 : pM} {l d l' c : Int} (h : k_run x q M l d) (hc1 : 97 ≤ c) (hc2 : c ≤ 122) (hn : o_i (M 1) 3 < x.2.1) (hx : c = x.1 (o_i (M 1) 3).toNat) (e3 : o_i (M1 1) 3 = o_i (M 1) 3 + 1) (e7 : 0 ≤ o_J (M 1) 7 → o_J (M 1) 7 < 34359738368 → o_J (M1 1) 7 = o_J (M 1) 7 * 32 + (c - 96)) (tx : k_tx x M1) (e4 : o_i (M1 1) 4 = o_i (M 1) 4) (el : l' = l + 1) : k_run x q M1 l' d := by
  obtain ⟨k, h1, h2, h3, h4, h5, h6, h7, h8, h9⟩ := h
  have ex : (o_i (M 1) 3).toNat = q + k := by omega
  rw [ex] at hx
  have el2 := k_lt_l (x := x) (q := q) (k := k) (by omega) (by omega)
  have eb := k_lt_b x q k
  refine ⟨k + 1, by omega, by omega, ?_, by omega, by omega, fun a b => ?_, fun a b => by omega, tx, by omega⟩
  · rw [← h3, k_rn_on (p := q + k) (by omega) (Or.inl ⟨by omega, by omega⟩)]; rfl
  · obtain ⟨a1, a2⟩ := h6 a (by omega)
    have b1 := e7 (by have := a2.1; omega) (by have := a2.2.2.2.2.2.2.2.2 (by omega); omega)
    refine ⟨?_, ?_⟩
    · show _ = k_cd x q k * 32 + (x.1 (q + k) - 96)
      rw [b1, a1, hx]
    · show k_cb (k + 1) (k_cd x q k * 32 + (x.1 (q + k) - 96))
      exact a2.on (by omega) (by omega)
theorem k_run.d {x : k_X} {q : Nat} {M M1 : pM} {l d d' c : Int} (h : k_run x q M l d) (hc1 : 48 ≤ c) (hc2 : c ≤ 57) (hn : o_i (M 1) 3 < x.2.1) (hx : c = x.1 (o_i (M 1) 3).toNat) (e3 : o_i (M1 1) 3 = o_i (M 1) 3 + 1) (e8 : 0 ≤ o_i (M 1) 8 → o_i (M 1) 8 ≤ 999 → o_i (M1 1) 8 = 10 * o_i (M 1) 8 + c - 48) (tx : k_tx x M1) (e4 : o_i (M1 1) 4 = o_i (M 1) 4) (el : d' = d + 1) : k_run x q M1 l d' := by
  obtain ⟨k, h1, h2, h3, h4, h5, h6, h7, h8, h9⟩ := h
  have ex : (o_i (M 1) 3).toNat = q + k := by omega
  rw [ex] at hx
  have el2 := k_lt_d (x := x) (q := q) (k := k) (by omega)
  have eb := k_lt_b x q k
  refine ⟨k + 1, by omega, by omega, ?_, by omega, by omega, fun a b => by omega, fun a b => ?_, tx, by omega⟩
  · rw [← h3, k_rn_on (p := q + k) (by omega) (Or.inr ⟨by omega, by omega⟩)]; rfl
  · obtain ⟨a1, a2⟩ := h7 a (by omega)
    have b1 := e8 (by have := a2.1; omega) (by have := a2.2.2.2.2 (by omega); omega)
    refine ⟨?_, ?_⟩
    · show _ = 10 * k_nu x q k + (x.1 (q + k) - 48)
      rw [b1, a1, hx]; omega
    · show k_nb (k + 1) (10 * k_nu x q k + (x.1 (q + k) - 48))
      exact a2.on (by omega) (by omega)
/-- the run's end -/
theorem k_run.e {x : k_X} {q : Nat} {M : pM} {l d : Int} (h : k_run x q M l d) (hx : ¬ (o_i (M 1) 3 < x.2.1 ∧ ((97 ≤ x.1 (o_i (M 1) 3).toNat ∧ x.1 (o_i (M 1) 3).toNat ≤ 122) ∨ (48 ≤ x.1 (o_i (M 1) 3).toNat ∧ x.1 (o_i (M 1) 3).toNat ≤ 57)))) :
    o_i (M 1) 3 = k_rn x q ∧ q ≤ k_rn x q ∧ l = k_lt x q (k_rn x q - q) ∧ d = ((k_rn x q - q : Nat) : Int) - l ∧ (d = 0 → k_rn x q - q ≤ 7 → o_J (M 1) 7 = k_cd x q (k_rn x q - q)) ∧ (l = 0 → k_rn x q - q ≤ 3 → o_i (M 1) 8 = k_nu x q (k_rn x q - q)) ∧ k_tx x M ∧ o_i (M 1) 4 = q := by
  obtain ⟨k, h1, h2, h3, h4, h5, h6, h7, h8, h9⟩ := h
  have ex : (o_i (M 1) 3).toNat = q + k := by omega
  rw [ex] at hx
  have er : k_rn x q = q + k := by rw [← h3]; exact k_rn_at (by omega)
  have ek : k_rn x q - q = k := by omega
  rw [ek]
  exact ⟨by omega, by omega, h4, by omega, fun a b => (h6 a b).1, fun a b => (h7 a b).1, h8, h9⟩
theorem k_run.w {x : k_X} {q : Nat} {M M1 : pM} {l d : Int} (h : k_run x q M l d) (hx : ¬ (o_i (M 1) 3 < x.2.1 ∧ ((97 ≤ x.1 (o_i (M 1) 3).toNat ∧ x.1 (o_i (M 1) 3).toNat ≤ 122) ∨ (48 ≤ x.1 (o_i (M 1) 3).toNat ∧ x.1 (o_i (M 1) 3).toNat ≤ 57)))) (hd : d = 0) (hl : l ≤ 7) (e3 : o_i (M1 1) 3 = o_i (M 1) 3) (e4 : o_i (M1 1) 4 = o_i (M 1) 4) (e7 : o_J (M1 1) 7 = o_J (M 1) 7)
    (hk : (o_i (M1 1) 5 = 2 ∧ ∃ r, r < 28 ∧ o_f (M1 1) 6 = .ref (65536 + r) ∧ (p_wc r).toInt = o_J (M 1) 7) ∨ (o_i (M1 1) 5 = 3 ∧ ∀ r, r < 28 → (p_wc r).toInt ≠ o_J (M 1) 7)) : k_tt x M1 (k_ru x q) := by
  obtain ⟨a1, a2, a3, a4, a5, a6, a7, a8⟩ := h.e hx
  have b := a5 hd (by omega)
  unfold k_ru
  rw [if_pos ⟨by omega, by omega⟩]
  refine ⟨by show o_i (M1 1) 4 = q; omega, Or.inr (Or.inr (Or.inl ⟨rfl, by show o_i (M1 1) 3 = k_rn x q; omega, e7.trans b, ?_⟩))⟩
  rw [b] at hk
  exact hk
theorem k_run.n {x : k_X} {q : Nat} {M M1 : pM} {l d : Int} (h : k_run x q M l d) (hx : ¬ (o_i (M 1) 3 < x.2.1 ∧ ((97 ≤ x.1 (o_i (M 1) 3).toNat ∧ x.1 (o_i (M 1) 3).toNat ≤ 122) ∨ (48 ≤ x.1 (o_i (M 1) 3).toNat ∧ x.1 (o_i (M 1) 3).toNat ≤ 57)))) (hd : d ≠ 0 ∨ 7 < l) (hl : l = 0) (hd2 : d ≤ 3) (e3 : o_i (M1 1) 3 = o_i (M 1) 3) (e4 : o_i (M1 1) 4 = o_i (M 1) 4) (e8 : o_i (M1 1) 8 = o_i (M 1) 8) (hk : o_i (M1 1) 5 = 4) : k_tt x M1 (k_ru x q) := by
  obtain ⟨a1, a2, a3, a4, a5, a6, a7, a8⟩ := h.e hx
  have b := a6 hl (by omega)
  unfold k_ru
  rw [if_neg (by omega), if_pos ⟨by omega, by omega⟩]
  exact ⟨by show o_i (M1 1) 4 = q; omega, Or.inr (Or.inr (Or.inr (Or.inl ⟨rfl, by show o_i (M1 1) 3 = k_rn x q; omega, hk, e8.trans b⟩)))⟩
theorem k_run.b {x : k_X} {q : Nat} {M M1 : pM} {l d : Int} (h : k_run x q M l d) (hx : ¬ (o_i (M 1) 3 < x.2.1 ∧ ((97 ≤ x.1 (o_i (M 1) 3).toNat ∧ x.1 (o_i (M 1) 3).toNat ≤ 122) ∨ (48 ≤ x.1 (o_i (M 1) 3).toNat ∧ x.1 (o_i (M 1) 3).toNat ≤ 57)))) (hd : d ≠ 0 ∨ 7 < l) (hl : l ≠ 0 ∨ 3 < d) (e4 : o_i (M1 1) 4 = o_i (M 1) 4) (hk : o_i (M1 1) 5 = 1) : k_tt x M1 (k_ru x q) := by
  obtain ⟨a1, a2, a3, a4, a5, a6, a7, a8⟩ := h.e hx
  unfold k_ru
  rw [if_neg (by omega), if_neg (by omega)]
  exact ⟨by show o_i (M1 1) 4 = q; omega, Or.inr (Or.inl ⟨rfl, Or.inl hk⟩)⟩
/-! ===== the token at a place, case by case  ===== -/
theorem k_tk_r {x : k_X} {p : Nat} (h1 : k_sk x p < x.2.1) (h2 : k_sk x p < x.2.2) (h3 : (97 ≤ x.1 (k_sk x p) ∧ x.1 (k_sk x p) ≤ 122) ∨ (48 ≤ x.1 (k_sk x p) ∧ x.1 (k_sk x p) ≤ 57)) : k_tk x p = k_ru x (k_sk x p) := by
  unfold k_tk
  rw [if_neg (by omega), if_neg (by omega), if_pos h3]
theorem k_tk_s {x : k_X} {p : Nat} (h1 : k_sk x p < x.2.1) (h2 : k_sk x p < x.2.2) (h3 : ¬ ((97 ≤ x.1 (k_sk x p) ∧ x.1 (k_sk x p) ≤ 122) ∨ (48 ≤ x.1 (k_sk x p) ∧ x.1 (k_sk x p) ≤ 57))) (h4 : x.1 (k_sk x p) = 59 ∨ x.1 (k_sk x p) = 40 ∨ x.1 (k_sk x p) = 41 ∨ (60 ≤ x.1 (k_sk x p) ∧ x.1 (k_sk x p) ≤ 62)) : k_tk x p = (5, x.1 (k_sk x p), (k_sk x p : Int), k_sk x p + 1) := by
  unfold k_tk
  rw [if_neg (by omega), if_neg (by omega), if_neg h3, if_pos h4]
theorem k_tk_b {x : k_X} {p : Nat} (h1 : k_sk x p < x.2.1) (h2 : k_sk x p < x.2.2) (h3 : ¬ ((97 ≤ x.1 (k_sk x p) ∧ x.1 (k_sk x p) ≤ 122) ∨ (48 ≤ x.1 (k_sk x p) ∧ x.1 (k_sk x p) ≤ 57))) (h4 : ¬ (x.1 (k_sk x p) = 59 ∨ x.1 (k_sk x p) = 40 ∨ x.1 (k_sk x p) = 41 ∨ (60 ≤ x.1 (k_sk x p) ∧ x.1 (k_sk x p) ≤ 62))) : k_tk x p = (1, 0, (k_sk x p : Int), 0) := by
  unfold k_tk
  rw [if_neg (by omega), if_neg (by omega), if_neg h3, if_neg h4]
theorem k_tt_e {x : k_X} {M : pM} {p : Nat} (h : (x.2.1 ≤ x.2.2 ∧ x.2.1 ≤ k_sk x p ∧ o_i (M 1) 4 = x.2.1) ∨ (x.2.2 < x.2.1 ∧ x.2.2 ≤ k_sk x p ∧ o_i (M 1) 4 = x.2.2)) (hk : o_i (M 1) 5 = 0) : k_tt x M (k_tk x p) := by
  unfold k_tk
  rcases h with ⟨h1, h2, h3⟩ | ⟨h1, h2, h3⟩
  · rw [if_pos ⟨h1, h2⟩]
    exact ⟨h3, Or.inl ⟨rfl, hk, h1⟩⟩
  · rw [if_neg (by omega), if_pos ⟨h1, h2⟩]
    exact ⟨h3, Or.inr (Or.inl ⟨rfl, Or.inr ⟨hk, h1⟩⟩)⟩
/-! ===== what the class sees  ===== -/
theorem k_see1 {x : k_X} {M : pM} {i r : Nat} (T : k_at x M i) (hk : o_i (M 1) 5 = 2) (hw : o_f (M 1) 6 = .ref (65536 + r)) : kK x i = 2 ∧ kV x i = (p_wc r).toInt := by
  unfold kK kV
  rcases T.2.2 with ⟨-, q, -⟩ | ⟨-, q⟩ | ⟨q, -, -, ⟨-, r', q1, q2, q3⟩ | ⟨q1, -⟩⟩ | ⟨-, -, q, -⟩ | ⟨-, -, q, -⟩
  · omega
  · omega
  · rw [hw] at q2
    have q5 : (65536 + r : Nat) = 65536 + r' := Value.ref.inj q2
    obtain rfl : r = r' := by omega
    exact ⟨q, q3.symm⟩
  · omega
  · omega
  · omega
theorem k_see0 {x : k_X} {M : pM} {i : Nat} (T : k_at x M i) (hk : o_i (M 1) 5 ≠ 2) {r : Nat} (hr : r < 28) : ¬ (kK x i = 2 ∧ kV x i = (p_wc r).toInt) := by
  unfold kK kV
  rintro ⟨a, b⟩
  rcases T.2.2 with ⟨q, -⟩ | ⟨q, -⟩ | ⟨-, -, -, ⟨q, -⟩ | ⟨-, q⟩⟩ | ⟨q, -⟩ | ⟨q, -⟩
  · omega
  · omega
  · exact hk q
  · exact q r hr b.symm
  · omega
  · omega
theorem k_sg {x : k_X} {M : pM} {i : Nat} (T : k_at x M i) : (o_i (M 1) 5 = 5 ∧ kK x i = 5 ∧ kV x i = o_i (M 1) 9) ∨ (o_i (M 1) 5 ≠ 5 ∧ kK x i ≠ 5) := by
  unfold kK kV
  rcases T.2.2 with ⟨q, q2, -⟩ | ⟨q, q2⟩ | ⟨q, -, -, ⟨q2, -⟩ | ⟨q2, -⟩⟩ | ⟨q, -, q2, -⟩ | ⟨q, -, q2, q3⟩
  · exact Or.inr ⟨by omega, by omega⟩
  · exact Or.inr ⟨by omega, by omega⟩
  · exact Or.inr ⟨by omega, by omega⟩
  · exact Or.inr ⟨by omega, by omega⟩
  · exact Or.inr ⟨by omega, by omega⟩
  · exact Or.inl ⟨q2, q, q3.symm⟩
theorem k_no {x : k_X} {M : pM} {i : Nat} (T : k_at x M i) : (o_i (M 1) 5 = 4 ∧ kK x i = 4 ∧ kV x i = o_i (M 1) 8) ∨ (o_i (M 1) 5 ≠ 4 ∧ kK x i ≠ 4) := by
  unfold kK kV
  rcases T.2.2 with ⟨q, q2, -⟩ | ⟨q, q2⟩ | ⟨q, -, -, ⟨q2, -⟩ | ⟨q2, -⟩⟩ | ⟨q, -, q2, q3⟩ | ⟨q, -, q2, q3⟩
  · exact Or.inr ⟨by omega, by omega⟩
  · exact Or.inr ⟨by omega, by omega⟩
  · exact Or.inr ⟨by omega, by omega⟩
  · exact Or.inr ⟨by omega, by omega⟩
  · exact Or.inl ⟨q2, q, q3.symm⟩
  · exact Or.inr ⟨by omega, by omega⟩
theorem k_en {x : k_X} {M : pM} {i : Nat} (T : k_at x M i) : (o_i (M 1) 5 = 0 ∧ kK x i = 0 ∧ x.2.1 ≤ x.2.2) ∨ (o_i (M 1) 5 = 0 ∧ kK x i = 1 ∧ x.2.2 < x.2.1) ∨ (o_i (M 1) 5 ≠ 0 ∧ kK x i ≠ 0) := by
  unfold kK
  rcases T.2.2 with ⟨q, q2, q3⟩ | ⟨q, q2 | ⟨q2, q3⟩⟩ | ⟨q, -, -, ⟨q2, -⟩ | ⟨q2, -⟩⟩ | ⟨q, -, q2, q3⟩ | ⟨q, -, q2, q3⟩
  · exact Or.inl ⟨q2, q, q3⟩
  · exact Or.inr (Or.inr ⟨by omega, by omega⟩)
  · exact Or.inr (Or.inl ⟨q2, q, q3⟩)
  · exact Or.inr (Or.inr ⟨by omega, by omega⟩)
  · exact Or.inr (Or.inr ⟨by omega, by omega⟩)
  · exact Or.inr (Or.inr ⟨by omega, by omega⟩)
  · exact Or.inr (Or.inr ⟨by omega, by omega⟩)
theorem k_nam {x : k_X} {M : pM} {i : Nat} (T : k_at x M i) : (o_i (M 1) 5 = 3 ∧ k_ni x i = 1 ∧ kK x i = 2 ∧ o_J (M 1) 7 = kV x i) ∨ (o_i (M 1) 5 ≠ 3 ∧ k_ni x i = 0) := by
  have h0 : kK x i ≠ 2 → k_ni x i = 0 := fun q => by
    have hn : ¬ (kK x i = 2 ∧ ∀ r, r < 28 → (p_wc r).toInt ≠ kV x i) := fun h => q h.1
    unfold k_ni; rw [if_neg hn]
  have hK : kK x i = (k_tk x (k_ps x i)).1 := rfl
  rcases T.2.2 with ⟨q, q2, q3⟩ | ⟨q, q2⟩ | ⟨q, -, q4, ⟨q2, r, q5, -, q6⟩ | ⟨q2, q3⟩⟩ | ⟨q, -, q2, q3⟩ | ⟨q, -, q2, q3⟩
  · exact Or.inr ⟨by omega, h0 (by omega)⟩
  · exact Or.inr ⟨by omega, h0 (by omega)⟩
  · refine Or.inr ⟨by omega, ?_⟩
    have hn : ¬ (kK x i = 2 ∧ ∀ r, r < 28 → (p_wc r).toInt ≠ kV x i) := fun h => h.2 r q5 q6
    unfold k_ni
    rw [if_neg hn]
  · refine Or.inl ⟨q2, ?_, q, q4⟩
    have hn : kK x i = 2 ∧ ∀ r, r < 28 → (p_wc r).toInt ≠ kV x i := ⟨q, q3⟩
    unfold k_ni
    rw [if_pos hn]
  · exact Or.inr ⟨by omega, h0 (by omega)⟩
  · exact Or.inr ⟨by omega, h0 (by omega)⟩
theorem k_upl {e0 e1 : va_E} {f : Nat → Int} {w v : Int} (h : ∀ j : Nat, (j : Int) < w → (o_l e0 j).toInt = f j) (h0 : 0 ≤ w) (hv : (o_l e1 w.toNat).toInt = v) (hn : ∀ z, z ≠ w.toNat → o_l e1 z = o_l e0 z) : ∀ j : Nat, (j : Int) < w + 1 → (o_l e1 j).toInt = va_up f w.toNat v j := by
  intro j hj
  by_cases e : j = w.toNat
  · subst e; rw [p_up_eq]; exact hv
  · rw [va_up_ne _ _ e, hn j e]; exact h j (by omega)
theorem k_upa {e0 e1 : va_E} {f : Nat → Int} {w v : Int} (h : ∀ j : Nat, (j : Int) < w → (o_a e0 j).toInt = f j) (h0 : 0 ≤ w) (hv : (o_a e1 w.toNat).toInt = v) (hn : ∀ z, z ≠ w.toNat → o_a e1 z = o_a e0 z) : ∀ j : Nat, (j : Int) < w + 1 → (o_a e1 j).toInt = va_up f w.toNat v j := by
  intro j hj
  by_cases e : j = w.toNat
  · subst e; rw [p_up_eq]; exact hv
  · rw [va_up_ne _ _ e, hn j e]; exact h j (by omega)
theorem k_upt {e0 e1 : va_E} {f : Nat → Int} {w v : Int} {q : Nat} (h : ∀ j : Nat, (j : Int) < w → (o_a e0 j).toInt = f j) (hv : (o_a e1 q).toInt = v) (hn : ∀ z, z ≠ q → o_a e1 z = o_a e0 z) : ∀ j : Nat, (j : Int) < w → (o_a e1 j).toInt = va_up f q v j := by
  intro j hj
  by_cases e : j = q
  · subst e; rw [p_up_eq]; exact hv
  · rw [va_up_ne _ _ e, hn j e]; exact h j hj
