/-! ===== the law: the switch, the first lines ===== -/
theorem q_285_0 : p_tb 285 0 = some (.new 8, 3) := by decide +kernel
theorem q_285_3 : p_tb 285 3 = some (.dup, 1) := by decide +kernel
theorem q_285_4 : p_tb 285 4 = some (.invokespecial 30, 3) := by decide +kernel
theorem q_285_7 : p_tb 285 7 = some (.astore_n 1, 1) := by decide +kernel
theorem q_285_8 : p_tb 285 8 = some (.new 31, 3) := by decide +kernel
theorem q_285_11 : p_tb 285 11 = some (.dup, 1) := by decide +kernel
theorem q_285_12 : p_tb 285 12 = some (.invokespecial 33, 3) := by decide +kernel
theorem q_285_15 : p_tb 285 15 = some (.astore_n 2, 1) := by decide +kernel
theorem q_285_16 : p_tb 285 16 = some (.iconst 1, 1) := by decide +kernel
theorem q_285_17 : p_tb 285 17 = some (.newarray .long, 2) := by decide +kernel
theorem q_285_19 : p_tb 285 19 = some (.astore_n 3, 1) := by decide +kernel
theorem q_285_20 : p_tb 285 20 = some (.iconst 0, 1) := by decide +kernel
theorem q_285_21 : p_tb 285 21 = some (.istore 4, 2) := by decide +kernel
theorem law_out (G : pG) (hL : G.2.2.2.2.1 < 6) : PW G false 22 285 400 9000 (law_K.1, fun pc' lv' st' N' M' ce' sl' => PX G false 22 285 400 9000 law_K pc' lv' st' N' M' ce' sl') 30 law_lv [.int (Int32.ofNat G.2.2.2.2.1 - (Int8.ofInt 6).toInt32), .int 0] 311 f_M 311 8628 := by
  rcases (by omega : G.2.2.2.2.1 = 0 ∨ G.2.2.2.2.1 = 1 ∨ G.2.2.2.2.1 = 2 ∨ G.2.2.2.2.1 = 3 ∨ G.2.2.2.2.1 = 4 ∨ G.2.2.2.2.1 = 5) with h | h | h | h | h | h
  · refine PW.topi (y := (-6)) (by rw [h]; decide) ?_
    refine PW.icmp_gt q_285_30 rfl (fun _ => ?_) (fun q => absurd (by decide) q)
    refine PW.iconst q_285_1691 ?_
    exact PW.zret q_285_1692 rfl (by decide) (by decide) (by decide) rfl
  · refine PW.topi (y := (-5)) (by rw [h]; decide) ?_
    refine PW.icmp_gt q_285_30 rfl (fun _ => ?_) (fun q => absurd (by decide) q)
    refine PW.iconst q_285_1691 ?_
    exact PW.zret q_285_1692 rfl (by decide) (by decide) (by decide) rfl
  · refine PW.topi (y := (-4)) (by rw [h]; decide) ?_
    refine PW.icmp_gt q_285_30 rfl (fun _ => ?_) (fun q => absurd (by decide) q)
    refine PW.iconst q_285_1691 ?_
    exact PW.zret q_285_1692 rfl (by decide) (by decide) (by decide) rfl
  · refine PW.topi (y := (-3)) (by rw [h]; decide) ?_
    refine PW.icmp_gt q_285_30 rfl (fun _ => ?_) (fun q => absurd (by decide) q)
    refine PW.iconst q_285_1691 ?_
    exact PW.zret q_285_1692 rfl (by decide) (by decide) (by decide) rfl
  · refine PW.topi (y := (-2)) (by rw [h]; decide) ?_
    refine PW.icmp_gt q_285_30 rfl (fun _ => ?_) (fun q => absurd (by decide) q)
    refine PW.iconst q_285_1691 ?_
    exact PW.zret q_285_1692 rfl (by decide) (by decide) (by decide) rfl
  · refine PW.topi (y := (-1)) (by rw [h]; decide) ?_
    refine PW.icmp_gt q_285_30 rfl (fun _ => ?_) (fun q => absurd (by decide) q)
    refine PW.iconst q_285_1691 ?_
    exact PW.zret q_285_1692 rfl (by decide) (by decide) (by decide) rfl
set_option maxRecDepth 100000 in
set_option maxHeartbeats 40000000 in
theorem law_main (G : pG) (hL : G.2.2.2.2.1 ≤ 6) : PX G false 22 285 400 9000 law_K 23 law_lv [] 311 f_M 311 8628 := by
  refine PX.run ?_
  refine PW.iload q_285_23 rfl ?_
  refine PW.aload_n q_285_25 rfl ?_
  refine PW.slen q_285_26 ?_
  refine PW.bipush q_285_27 ?_
  refine PW.isub q_285_29 ?_
  by_cases h6 : G.2.2.2.2.1 = 6
  · refine PW.topi (y := 0) (by rw [h6]; decide) ?_
    refine PW.icmp_gt q_285_30 rfl (fun q => absurd q (by decide)) (fun _ => ?_)
    refine PW.aload_n q_285_33 rfl ?_
    refine PW.iload q_285_34 rfl ?_
    refine PW.sld q_285_36 (by rw [h6]; unfold vp_in; decide) ?_
    refine PW.bipush q_285_37 ?_
    refine PW.iand q_285_39 ?_
    obtain ⟨j, hj, e⟩ := pk_andE (G.2.2.2.2.2 (0 : Int32).toNatClampNeg) (m := (Int8.ofInt 63).toInt32) 6 (by decide)
    refine PW.topi (y := nI j) e ?_
    rcases (by omega : j = 0 ∨ j = 1 ∨ j = 2 ∨ j = 3 ∨ j = 4 ∨ j = 5 ∨ j = 6 ∨ j = 7 ∨ j = 8 ∨ j = 9 ∨ j = 10 ∨ j = 11 ∨ j = 12 ∨ j = 13 ∨ j = 14 ∨ j = 15 ∨ j = 16 ∨ j = 17 ∨ j = 18 ∨ j = 19 ∨ j = 20 ∨ j = 21 ∨ j = 22 ∨ j = 23 ∨ j = 24 ∨ j = 25 ∨ j = 26 ∨ j = 27 ∨ j = 28 ∨ j = 29 ∨ j = 30 ∨ j = 31 ∨ j = 32 ∨ j = 33 ∨ j = 34 ∨ j = 35 ∨ j = 36 ∨ j = 37 ∨ j = 38 ∨ j = 39 ∨ j = 40 ∨ j = 41 ∨ j = 42 ∨ 43 ≤ j) with rfl | rfl | rfl | rfl | rfl | rfl | rfl | rfl | rfl | rfl | rfl | rfl | rfl | rfl | rfl | rfl | rfl | rfl | rfl | rfl | rfl | rfl | rfl | rfl | rfl | rfl | rfl | rfl | rfl | rfl | rfl | rfl | rfl | rfl | rfl | rfl | rfl | rfl | rfl | rfl | rfl | rfl | rfl | h
    · exact PW.tswI q_285_40 (by decide) (by decide) rfl rfl (PW.exit (PX.of (law_feed G h6 _ _ _ _ _ rfl rfl rfl rfl rfl)))
    · exact PW.tswI q_285_40 (by decide) (by decide) rfl rfl (PW.exit (PX.of (law_end G h6 _ _ _ _ _ rfl rfl rfl rfl rfl)))
    · exact PW.tswI q_285_40 (by decide) (by decide) rfl rfl (PW.exit (PX.of (law_beach G h6 _ _ _ _ _ rfl rfl rfl rfl rfl)))
    · exact PW.tswI q_285_40 (by decide) (by decide) rfl rfl (PW.exit (PX.of (law_fault G h6 _ _ _ _ _ rfl rfl rfl rfl rfl)))
    · exact PW.tswI q_285_40 (by decide) (by decide) rfl rfl (PW.exit (law_walker G h6 _ _ _ _ _ rfl rfl rfl rfl rfl))
    · exact PW.tswI q_285_40 (by decide) (by decide) rfl rfl (PW.exit (law_dog G h6 _ _ _ _ _ rfl rfl rfl rfl rfl))
    · exact PW.tswI q_285_40 (by decide) (by decide) rfl rfl (PW.exit (PX.of (law_now G h6 _ _ _ _ _ rfl rfl rfl rfl rfl)))
    · exact PW.tswI q_285_40 (by decide) (by decide) rfl rfl (PW.exit (PX.of (law_stop G h6 _ _ _ _ _ rfl rfl rfl rfl rfl)))
    · exact PW.tswI q_285_40 (by decide) (by decide) rfl rfl (PW.exit (PX.of (law_walk G h6 _ _ _ _ _ rfl rfl rfl rfl rfl)))
    · exact PW.tswI q_285_40 (by decide) (by decide) rfl rfl (PW.exit (PX.of (law_turn G h6 _ _ _ _ _ rfl rfl rfl rfl rfl)))
    · exact PW.tswI q_285_40 (by decide) (by decide) rfl rfl (PW.exit (PX.of (law_call G h6 _ _ _ _ _ rfl rfl rfl rfl rfl)))
    · exact PW.tswI q_285_40 (by decide) (by decide) rfl rfl (PW.exit (PX.of (law_throwStick G h6 _ _ _ _ _ rfl rfl rfl rfl rfl)))
    · exact PW.tswI q_285_40 (by decide) (by decide) rfl rfl (PW.exit (PX.of (law_seconds G h6 _ _ _ _ _ rfl rfl rfl rfl rfl)))
    · exact PW.tswI q_285_40 (by decide) (by decide) rfl rfl (PW.exit (PX.of (law_undo G h6 _ _ _ _ _ rfl rfl rfl rfl rfl)))
    · exact PW.tswI q_285_40 (by decide) (by decide) rfl rfl (PW.exit (PX.of (law_gap G h6 _ _ _ _ _ rfl rfl rfl rfl rfl)))
    · exact PW.tswI q_285_40 (by decide) (by decide) rfl rfl (PW.exit (PX.of (law_meet G h6 _ _ _ _ _ rfl rfl rfl rfl rfl)))
    · exact PW.tswI q_285_40 (by decide) (by decide) rfl rfl (PW.exit (PX.of (law_run G h6 _ _ _ _ _ rfl rfl rfl rfl rfl)))
    · exact PW.tswI q_285_40 (by decide) (by decide) rfl rfl (PW.exit (PX.of (law_turns G h6 _ _ _ _ _ rfl rfl rfl rfl rfl)))
    · exact PW.tswI q_285_40 (by decide) (by decide) rfl rfl (PW.exit (PX.of (law_next G h6 _ _ _ _ _ rfl rfl rfl rfl rfl)))
    · exact PW.tswI q_285_40 (by decide) (by decide) rfl rfl (PW.exit (PX.of (law_said G h6 _ _ _ _ _ rfl rfl rfl rfl rfl)))
    · exact PW.tswI q_285_40 (by decide) (by decide) rfl rfl (PW.exit (PX.of (law_dearest G h6 _ _ _ _ _ rfl rfl rfl rfl rfl)))
    · exact PW.tswI q_285_40 (by decide) (by decide) rfl rfl (PW.exit (law_far G h6 _ _ _ _ _ rfl rfl rfl rfl rfl))
    · exact PW.tswI q_285_40 (by decide) (by decide) rfl rfl (PW.exit (law_near G h6 _ _ _ _ _ rfl rfl rfl rfl rfl))
    · exact PW.tswI q_285_40 (by decide) (by decide) rfl rfl (PW.exit (law_ends G h6 _ _ _ _ _ rfl rfl rfl rfl rfl))
    · exact PW.tswI q_285_40 (by decide) (by decide) rfl rfl (PW.exit (PX.of (law_round G h6 _ _ _ _ _ rfl rfl rfl rfl rfl)))
    · exact PW.tswI q_285_40 (by decide) (by decide) rfl rfl (PW.exit (PX.of (law_circle G h6 _ _ _ _ _ rfl rfl rfl rfl rfl)))
    · exact PW.tswI q_285_40 (by decide) (by decide) rfl rfl (PW.exit (PX.of (law_strays G h6 _ _ _ _ _ rfl rfl rfl rfl rfl)))
    · exact PW.tswI q_285_40 (by decide) (by decide) rfl rfl (PW.exit (PX.of (law_least G h6 _ _ _ _ _ rfl rfl rfl rfl rfl)))
    · exact PW.tswI q_285_40 (by decide) (by decide) rfl rfl (PW.exit (PX.of (law_runs G h6 _ _ _ _ _ rfl rfl rfl rfl rfl)))
    · exact PW.tswI q_285_40 (by decide) (by decide) rfl rfl (PW.exit (PX.of (law_prints G h6 _ _ _ _ _ rfl rfl rfl rfl rfl)))
    · exact PW.tswI q_285_40 (by decide) (by decide) rfl rfl (PW.exit (PX.of (law_judge G h6 _ _ _ _ _ rfl rfl rfl rfl rfl)))
    · exact PW.tswI q_285_40 (by decide) (by decide) rfl rfl (PW.exit (PX.of (law_laws G h6 _ _ _ _ _ rfl rfl rfl rfl rfl)))
    · exact PW.tswI q_285_40 (by decide) (by decide) rfl rfl (PW.exit (PX.of (law_turned G h6 _ _ _ _ _ rfl rfl rfl rfl rfl)))
    · exact PW.tswI q_285_40 (by decide) (by decide) rfl rfl (PW.exit (PX.of (law_turnedAt G h6 _ _ _ _ _ rfl rfl rfl rfl rfl)))
    · exact PW.tswI q_285_40 (by decide) (by decide) rfl rfl (PW.exit (PX.of (law_drawn G h6 _ _ _ _ _ rfl rfl rfl rfl rfl)))
    · exact PW.tswI q_285_40 (by decide) (by decide) rfl rfl (PW.exit (PX.of (law_odds G h6 _ _ _ _ _ rfl rfl rfl rfl rfl)))
    · exact PW.tswI q_285_40 (by decide) (by decide) rfl rfl (PW.exit (PX.of (law_log G h6 _ _ _ _ _ rfl rfl rfl rfl rfl)))
    · exact PW.tswI q_285_40 (by decide) (by decide) rfl rfl (PW.exit (PX.of (law_logged G h6 _ _ _ _ _ rfl rfl rfl rfl rfl)))
    · exact PW.tswI q_285_40 (by decide) (by decide) rfl rfl (PW.exit (PX.of (law_sentence G h6 _ _ _ _ _ rfl rfl rfl rfl rfl)))
    · exact PW.tswI q_285_40 (by decide) (by decide) rfl rfl (PW.exit (PX.of (law_told G h6 _ _ _ _ _ rfl rfl rfl rfl rfl)))
    · exact PW.tswI q_285_40 (by decide) (by decide) rfl rfl (PW.exit (PX.of (law_image G h6 _ _ _ _ _ rfl rfl rfl rfl rfl)))
    · exact PW.tswI q_285_40 (by decide) (by decide) rfl rfl (PW.exit (PX.of (law_restore G h6 _ _ _ _ _ rfl rfl rfl rfl rfl)))
    · exact PW.tswI q_285_40 (by decide) (by decide) rfl rfl (PW.exit (PX.of (law_count G h6 _ _ _ _ _ rfl rfl rfl rfl rfl)))
    · exact PW.tswO q_285_40 (Or.inr (by rw [nI_toInt (by omega)]; omega)) rfl (PW.exit (PX.of (law_tail G h6 _)))
  · exact law_out G (by omega)
theorem PW.exF {G : pG} {d j mc ms : Nat} {Kr : pK} {pc : Nat} {lv : List (Nat × Value)} {st : List Value} {N n fu : Nat} {M M0 : pM} {ce sl : Nat} (h : f_chk n M0 (p_ex fu true d j mc ms pc lv st N M ce sl) = true) (k : ∀ M2 : pM, (∀ k, k < n → p_eqE (M2 k) (M0 k) = true) → Kr.1 none n M2) : PW G true d j mc ms Kr pc lv st N M ce sl := by
  cases hx : p_ex fu true d j mc ms pc lv st N M ce sl with
  | none => rw [hx] at h; cases h
  | some q =>
    obtain ⟨v, N2, M2⟩ := q
    rw [hx] at h
    cases v with
    | some v => simp [f_chk] at h
    | none =>
      simp only [f_chk, Bool.and_eq_true, decide_eq_true_eq, List.all_eq_true, List.mem_range] at h
      obtain ⟨rfl, h2⟩ := h
      exact p_ex_ok fu hx (k M2 h2)
set_option maxRecDepth 100000 in
set_option maxHeartbeats 40000000 in
theorem law_pre (G : pG) : PW G true 21 285 400 9000 (law_K.1, fun pc' lv' st' N' M' ce' sl' => pc' = 23 ∧ lv' = law_lv ∧ st' = [] ∧ N' = 311 ∧ M' = f_M ∧ ce' = 311 ∧ sl' = 8628) 0 (lv_args 0 [.ref 65564]) [] 0 (fun _ => f_no) 0 0 := by
  refine PW.new q_285_0 rfl (by decide) (by decide) (by decide) ?_
  refine PW.dup q_285_3 rfl ?_
  refine PW.callI (as := []) (rest := [_]) q_285_4 rfl rfl rfl (Nat.le_of_ble_eq_true rfl) (Nat.le_of_ble_eq_true rfl) (by decide) (by decide) ?_
  refine PW.exF f_ctor1 (fun M2 hM2 => ?_)
  refine PW.mem hM2 ?_
  refine PW.astore_n q_285_7 (by decide) ?_
  refine PW.new q_285_8 rfl (by decide) (by decide) (by decide) ?_
  refine PW.dup q_285_11 rfl ?_
  refine PW.callI (as := []) (rest := [_]) q_285_12 rfl rfl rfl (Nat.le_of_ble_eq_true rfl) (Nat.le_of_ble_eq_true rfl) (by decide) (by decide) ?_
  refine PW.exF f_ctor2 (fun M2 hM2 => ?_)
  refine PW.mem hM2 ?_
  refine PW.astore_n q_285_15 (by decide) ?_
  refine PW.iconst q_285_16 ?_
  refine PW.newa q_285_17 rfl (by decide) (by decide) (by decide) (by decide) (by decide) ?_
  refine PW.mem2 (M2 := f_M) (fun k _ => ?_) ?_
  · by_cases h : k = 310
    · subst h; exact Or.inr (Or.inr (by decide +kernel))
    · exact Or.inr (Or.inl (va_up_ne _ _ h))
  refine PW.astore_n q_285_19 (by decide) ?_
  refine PW.iconst q_285_20 ?_
  refine PW.topi (y := 0) (by decide) ?_
  refine PW.istore q_285_21 (by decide) ?_
  exact PW.exit ⟨rfl, rfl, rfl, rfl, rfl, rfl, rfl⟩
