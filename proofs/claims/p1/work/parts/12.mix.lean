/-! ===== calls whose run is closed ===== -/
def c_chk (r : Option Value) (lo N : Nat) (M : pM) (x : Option (Option Value × Nat × pM)) : Bool := match x with
  | some (v, N2, M2) => decide (v = r) && decide (N2 = N) && (List.range N).all (fun k => decide (k < lo) || p_eqE (M2 k) (M k))
  | none => false
def c_mem (x : Option (Option Value × Nat × pM)) : pM := match x with
  | some (_, _, M2) => M2
  | none => f_M
/-- of the cells below 294 nothing, of the others the fresh ones -/
def f_lo : pM := fun k => if k < 294 then p_un else f_M k
theorem PW.exC {G : pG} {al : Bool} {d j mc ms : Nat} {Kr : pK} {pc : Nat} {lv : List (Nat × Value)} {st : List Value} {N n lo : Nat} {M M0 : pM} {ce sl : Nat} {r : Option Value} (h : c_chk r lo N M0 (p_ex n al d j mc ms pc lv st N M ce sl) = true) (k : Kr.1 r N (c_mem (p_ex n al d j mc ms pc lv st N M ce sl))) : PW G al d j mc ms Kr pc lv st N M ce sl := by
  cases hx : p_ex n al d j mc ms pc lv st N M ce sl with
  | none => rw [hx] at h; cases h
  | some q =>
    obtain ⟨v, N2, M2⟩ := q
    rw [hx] at h k
    simp only [c_chk, Bool.and_eq_true, decide_eq_true_eq] at h
    obtain ⟨⟨rfl, rfl⟩, -⟩ := h
    exact p_ex_ok n hx k
theorem PW.mem2 {G : pG} {al : Bool} {d j mc ms : Nat} {Kr : pK} {pc : Nat} {lv : List (Nat × Value)} {st : List Value} {N : Nat} {M M2 : pM} {ce sl : Nat} (h : ∀ k, k < N → p_kn (M2 k) = false ∨ M k = M2 k ∨ p_eqE (M k) (M2 k) = true) (k : PW G al d j mc ms Kr pc lv st N M2 ce sl) : PW G al d j mc ms Kr pc lv st N M ce sl := by
  intro p l e R s m args below meth c H locs ls Q hC hret hR hS hl
  refine k p l e R s m args below meth c H locs ls Q hC hret ⟨fun k hk hkn => ?_, hR.2⟩ hS hl
  rcases h k hk with q | q | q
  · rw [q] at hkn; cases hkn
  · rw [← q] at hkn ⊢; exact hR.1 k hk hkn
  · exact p_eqE_at q (hR.1 k hk (p_eqE_kn q hkn))
theorem c_mix {r : Option Value} {x : Option (Option Value × Nat × pM)} (h : c_chk r 294 311 f_M x = true) : ∀ k, k < 311 → p_kn (f_lo k) = false ∨ c_mem x k = f_lo k ∨ p_eqE (c_mem x k) (f_lo k) = true := by
  intro k hk
  unfold f_lo
  by_cases h1 : k < 294
  · rw [if_pos h1]; exact Or.inl rfl
  · rw [if_neg h1]
    cases x with
    | none => cases h
    | some q =>
      obtain ⟨v, N2, M2⟩ := q
      simp only [c_chk, Bool.and_eq_true, List.all_eq_true, List.mem_range, Bool.or_eq_true, decide_eq_true_eq] at h
      exact Or.inr (Or.inr ((h.2 k hk).resolve_left h1))
