/-! ===== the law's cases on the fresh objects ===== -/
theorem s_eqI {x c : Int32} (h : x = c) : x.toInt = c.toInt := congrArg _ h
theorem s_neI {x c : Int32} (h : ¬ x = c) : ¬ x.toInt = c.toInt := fun q => h (Int32.toInt_inj.mp q)
theorem s_ltI {x c : Int32} (h : x < c) : x.toInt < c.toInt := Int32.lt_iff_toInt_lt.mp h
theorem s_geI {x c : Int32} (h : c ≤ x) : x.toInt ≥ c.toInt := Int32.le_iff_toInt_le.mp h
theorem s_gtI {x c : Int32} (h : c < x) : x.toInt > c.toInt := Int32.lt_iff_toInt_lt.mp h
theorem s_leI {x c : Int32} (h : x ≤ c) : x.toInt ≤ c.toInt := Int32.le_iff_toInt_le.mp h
theorem s_nltI {x c : Int32} (h : ¬ x < c) : x.toInt ≥ c.toInt := by have q : ¬ x.toInt < c.toInt := fun q => h (Int32.lt_iff_toInt_lt.mpr q); omega
theorem s_ngeI {x c : Int32} (h : ¬ c ≤ x) : x.toInt < c.toInt := by have q : ¬ c.toInt ≤ x.toInt := fun q => h (Int32.le_iff_toInt_le.mpr q); omega
theorem s_ngtI {x c : Int32} (h : ¬ c < x) : x.toInt ≤ c.toInt := by have q : ¬ c.toInt < x.toInt := fun q => h (Int32.lt_iff_toInt_lt.mpr q); omega
theorem s_nleI {x c : Int32} (h : ¬ x ≤ c) : x.toInt > c.toInt := by have q : ¬ x.toInt ≤ c.toInt := fun q => h (Int32.le_iff_toInt_le.mpr q); omega
theorem PW.sldE {G : pG} {al : Bool} {d j mc ms : Nat} {Kr : pK} {pc : Nat} {lv : List (Nat × Value)} {st : List Value} {N : Nat} {M : pM} {ce sl : Nat} {i x : Int32} (h : p_tb j pc = some (.iaload, 1)) (hin : vp_in i G.2.2.2.2.1) (hx : G.2.2.2.2.2 i.toNatClampNeg = x) (kk : PW G al d j mc ms Kr (pc + 1) lv (.int x :: st) N M ce sl) : PW G al d j mc ms Kr pc lv (.int i :: .ref 65564 :: st) N M ce sl := PW.sld h hin (by rw [hx]; exact kk)
theorem PW.topi {G : pG} {al : Bool} {d j mc ms : Nat} {Kr : pK} {pc : Nat} {lv : List (Nat × Value)} {st : List Value} {N : Nat} {M : pM} {ce sl : Nat} {x y : Int32} (e : x = y) (kk : PW G al d j mc ms Kr pc lv (.int y :: st) N M ce sl) : PW G al d j mc ms Kr pc lv (.int x :: st) N M ce sl := by rw [e]; exact kk
def law_K : pK := (fun v _ _ => v = some (.int 1), p_nx)
abbrev law_lv : List (Nat × Value) := [(4, .int 0), (3, .ref 310), (2, .ref 294), (1, .ref 0), (0, .ref 65564)]
theorem law_tail (G : pG) (hL : G.2.2.2.2.1 = 6) (M : pM) : PW G false 22 285 400 9000 law_K 1685 law_lv [] 311 M 311 8628 := by
  refine PW.iinc q_285_1685 rfl (by decide) ?_
  refine PW.goto q_285_1688 rfl ?_
  refine PW.iload q_285_23 rfl ?_
  refine PW.aload_n q_285_25 rfl ?_
  refine PW.slen q_285_26 ?_
  refine PW.bipush q_285_27 ?_
  refine PW.isub q_285_29 ?_
  refine PW.topi (y := 0) (by rw [hL]; decide) ?_
  refine PW.icmp_gt q_285_30 rfl (fun _ => ?_) (fun q => absurd (by decide) q)
  refine PW.iconst q_285_1691 ?_
  exact PW.zret q_285_1692 rfl (by decide) (by decide) (by decide) rfl
