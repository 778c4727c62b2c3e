theorem q_284_23 : p_tb 284 23 = some (.iload 4, 2) := by decide +kernel
theorem q_284_25 : p_tb 284 25 = some (.aload_n 0, 1) := by decide +kernel
theorem q_284_26 : p_tb 284 26 = some (.arraylength, 1) := by decide +kernel
theorem q_284_27 : p_tb 284 27 = some (.bipush 6, 2) := by decide +kernel
theorem q_284_29 : p_tb 284 29 = some (.isub, 1) := by decide +kernel
theorem q_284_30 : p_tb 284 30 = some (.if_icmp .gt 1522, 3) := by decide +kernel
theorem q_284_1552 : p_tb 284 1552 = some (.iconst 1, 1) := by decide +kernel
theorem q_284_1553 : p_tb 284 1553 = some (.ireturn, 1) := by decide +kernel
theorem q_284_33 : p_tb 284 33 = some (.aload_n 0, 1) := by decide +kernel
theorem q_284_34 : p_tb 284 34 = some (.iload 4, 2) := by decide +kernel
theorem q_284_36 : p_tb 284 36 = some (.iaload, 1) := by decide +kernel
theorem q_284_37 : p_tb 284 37 = some (.bipush 63, 2) := by decide +kernel
theorem q_284_39 : p_tb 284 39 = some (.iand, 1) := by decide +kernel
theorem q_284_40 : p_tb 284 40 = some (.tableswitch 1506 0 42 #[188, 261, 286, 299, 312, 352, 392, 417, 442, 467, 492, 517, 542, 567, 580, 617, 654, 691, 728, 753, 790, 803, 867, 943, 995, 1020, 1045, 1058, 1095, 1132, 1145, 1170, 1183, 1220, 1257, 1294, 1343, 1368, 1393, 1406, 1431, 1456, 1481], 188) := by decide +kernel
theorem q_284_0 : p_tb 284 0 = some (.new 8, 3) := by decide +kernel
theorem q_284_3 : p_tb 284 3 = some (.dup, 1) := by decide +kernel
theorem q_284_4 : p_tb 284 4 = some (.invokespecial 30, 3) := by decide +kernel
theorem q_284_7 : p_tb 284 7 = some (.astore_n 1, 1) := by decide +kernel
theorem q_284_8 : p_tb 284 8 = some (.new 31, 3) := by decide +kernel
theorem q_284_11 : p_tb 284 11 = some (.dup, 1) := by decide +kernel
theorem q_284_12 : p_tb 284 12 = some (.invokespecial 33, 3) := by decide +kernel
theorem q_284_15 : p_tb 284 15 = some (.astore_n 2, 1) := by decide +kernel
theorem q_284_16 : p_tb 284 16 = some (.iconst 1, 1) := by decide +kernel
theorem q_284_17 : p_tb 284 17 = some (.newarray .long, 2) := by decide +kernel
theorem q_284_19 : p_tb 284 19 = some (.astore_n 3, 1) := by decide +kernel
theorem q_284_20 : p_tb 284 20 = some (.iconst 0, 1) := by decide +kernel
theorem q_284_21 : p_tb 284 21 = some (.istore 4, 2) := by decide +kernel
theorem PW.topi {G : pG} {al : Bool} {d j mc ms : Nat} {Kr : pK} {pc : Nat} {lv : List (Nat × Value)} {st : List Value} {N : Nat} {M : pM} {ce sl : Nat} {x y : Int32} (e : x = y) (k : PW G al d j mc ms Kr pc lv (.int y :: st) N M ce sl) : PW G al d j mc ms Kr pc lv (.int x :: st) N M ce sl := by subst e; exact k
theorem n_len {n : Nat} (h : n ≤ 3072) : (Int32.ofNat n).toInt = n := by
  rw [Int32.toInt_ofNat']
  exact Int.bmod_eq_of_le (by unfold Int32.size; omega) (by unfold Int32.size; omega)
set_option maxRecDepth 100000 in
set_option maxHeartbeats 4000000 in
theorem law_loop (G : pG) (hL : G.2.2.2.2.1 ≤ 3072) : ∀ (n : Nat) (i : Int32) (M : pM) (c : Nat), 0 ≤ i.toInt → i.toInt ≤ (G.2.2.2.2.1 : Int) → LI M → 6 * (c : Int) ≤ i.toInt → ((G.2.2.2.2.1 : Int) - i.toInt).toNat = n → law_N G i M c := by
  intro n
  induction n using Nat.strongRecOn with
  | ind n ih =>
  intro i M c h0 hi J hc hn
  refine PX.run ?_
  refine PW.iload q_284_23 rfl ?_
  refine PW.aload_n q_284_25 rfl ?_
  refine PW.slen q_284_26 ?_
  refine PW.nmI ?_; intro z ez
  have hz : z.toInt = (G.2.2.2.2.1 : Int) := by rw [ez]; exact n_len hL
  refine PW.cB q_284_27 (by decide) fun b hb => ?_
  refine PW.subN q_284_29 (by omega) (by omega) fun y hy => ?_
  refine PW.jc_gt q_284_30 rfl (fun hgt => ?_) (fun hle => ?_)
  · refine PW.iconst q_284_1552 ?_
    exact PW.zret q_284_1553 rfl (by decide) (by show 311 + c ≤ 1000; omega) (by show 8628 + 6 * c ≤ 13000; omega) rfl
  · have kk : ∀ (M1 : pM) (c1 : Nat) (i1 : Int32), LI M1 → c1 ≤ c + 1 → i1.toInt = i.toInt + 6 → law_N G i1 M1 c1 := fun M1 c1 i1 J1 h1 h2 => ih _ (by omega) i1 M1 c1 (by omega) (by omega) J1 (by omega) rfl
    refine PW.aload_n q_284_33 rfl ?_
    refine PW.iload q_284_34 rfl ?_
    refine PW.sld q_284_36 (vp_in_iff.mpr ⟨by omega, by omega⟩) ?_
    refine PW.hvI fun a => ?_
    refine PW.cB q_284_37 (by decide) fun m hm => ?_
    refine PW.andP q_284_39 (by omega) fun w hw0 hw1 => ?_
    have hd : w.toInt = 0 ∨ w.toInt = 1 ∨ w.toInt = 2 ∨ w.toInt = 3 ∨ w.toInt = 4 ∨ w.toInt = 5 ∨ w.toInt = 6 ∨ w.toInt = 7 ∨ w.toInt = 8 ∨ w.toInt = 9 ∨ w.toInt = 10 ∨ w.toInt = 11 ∨ w.toInt = 12 ∨ w.toInt = 13 ∨ w.toInt = 14 ∨ w.toInt = 15 ∨ w.toInt = 16 ∨ w.toInt = 17 ∨ w.toInt = 18 ∨ w.toInt = 19 ∨ w.toInt = 20 ∨ w.toInt = 21 ∨ w.toInt = 22 ∨ w.toInt = 23 ∨ w.toInt = 24 ∨ w.toInt = 25 ∨ w.toInt = 26 ∨ w.toInt = 27 ∨ w.toInt = 28 ∨ w.toInt = 29 ∨ w.toInt = 30 ∨ w.toInt = 31 ∨ w.toInt = 32 ∨ w.toInt = 33 ∨ w.toInt = 34 ∨ w.toInt = 35 ∨ w.toInt = 36 ∨ w.toInt = 37 ∨ w.toInt = 38 ∨ w.toInt = 39 ∨ w.toInt = 40 ∨ w.toInt = 41 ∨ w.toInt = 42 ∨ (w.toInt < 0 ∨ 42 < w.toInt) := by omega
    rcases hd with hd | hd | hd | hd | hd | hd | hd | hd | hd | hd | hd | hd | hd | hd | hd | hd | hd | hd | hd | hd | hd | hd | hd | hd | hd | hd | hd | hd | hd | hd | hd | hd | hd | hd | hd | hd | hd | hd | hd | hd | hd | hd | hd | hd
    · exact PW.sw1 (0) hd q_284_40 (by decide) (by decide) rfl rfl (PW.exit (law_feed G i M c h0 (by omega) hL J hc kk))
    · exact PW.sw1 (1) hd q_284_40 (by decide) (by decide) rfl rfl (PW.exit (law_end G i M c h0 (by omega) hL J hc kk))
    · exact PW.sw1 (2) hd q_284_40 (by decide) (by decide) rfl rfl (PW.exit (law_beach G i M c h0 (by omega) hL J hc kk))
    · exact PW.sw1 (3) hd q_284_40 (by decide) (by decide) rfl rfl (PW.exit (law_fault G i M c h0 (by omega) hL J hc kk))
    · exact PW.sw1 (4) hd q_284_40 (by decide) (by decide) rfl rfl (PW.exit (law_walker G i M c h0 (by omega) hL J hc kk))
    · exact PW.sw1 (5) hd q_284_40 (by decide) (by decide) rfl rfl (PW.exit (law_dog G i M c h0 (by omega) hL J hc kk))
    · exact PW.sw1 (6) hd q_284_40 (by decide) (by decide) rfl rfl (PW.exit (law_now G i M c h0 (by omega) hL J hc kk))
    · exact PW.sw1 (7) hd q_284_40 (by decide) (by decide) rfl rfl (PW.exit (law_stop G i M c h0 (by omega) hL J hc kk))
    · exact PW.sw1 (8) hd q_284_40 (by decide) (by decide) rfl rfl (PW.exit (law_walk G i M c h0 (by omega) hL J hc kk))
    · exact PW.sw1 (9) hd q_284_40 (by decide) (by decide) rfl rfl (PW.exit (law_turn G i M c h0 (by omega) hL J hc kk))
    · exact PW.sw1 (10) hd q_284_40 (by decide) (by decide) rfl rfl (PW.exit (law_call G i M c h0 (by omega) hL J hc kk))
    · exact PW.sw1 (11) hd q_284_40 (by decide) (by decide) rfl rfl (PW.exit (law_throwStick G i M c h0 (by omega) hL J hc kk))
    · exact PW.sw1 (12) hd q_284_40 (by decide) (by decide) rfl rfl (PW.exit (law_seconds G i M c h0 (by omega) hL J hc kk))
    · exact PW.sw1 (13) hd q_284_40 (by decide) (by decide) rfl rfl (PW.exit (law_undo G i M c h0 (by omega) hL J hc kk))
    · exact PW.sw1 (14) hd q_284_40 (by decide) (by decide) rfl rfl (PW.exit (law_gap G i M c h0 (by omega) hL J hc kk))
    · exact PW.sw1 (15) hd q_284_40 (by decide) (by decide) rfl rfl (PW.exit (law_meet G i M c h0 (by omega) hL J hc kk))
    · exact PW.sw1 (16) hd q_284_40 (by decide) (by decide) rfl rfl (PW.exit (law_run G i M c h0 (by omega) hL J hc kk))
    · exact PW.sw1 (17) hd q_284_40 (by decide) (by decide) rfl rfl (PW.exit (law_turns G i M c h0 (by omega) hL J hc kk))
    · exact PW.sw1 (18) hd q_284_40 (by decide) (by decide) rfl rfl (PW.exit (law_next G i M c h0 (by omega) hL J hc kk))
    · exact PW.sw1 (19) hd q_284_40 (by decide) (by decide) rfl rfl (PW.exit (law_said G i M c h0 (by omega) hL J hc kk))
    · exact PW.sw1 (20) hd q_284_40 (by decide) (by decide) rfl rfl (PW.exit (law_dearest G i M c h0 (by omega) hL J hc kk))
    · exact PW.sw1 (21) hd q_284_40 (by decide) (by decide) rfl rfl (PW.exit (law_far G i M c h0 (by omega) hL J hc kk))
    · exact PW.sw1 (22) hd q_284_40 (by decide) (by decide) rfl rfl (PW.exit (law_near G i M c h0 (by omega) hL J hc kk))
    · exact PW.sw1 (23) hd q_284_40 (by decide) (by decide) rfl rfl (PW.exit (law_ends G i M c h0 (by omega) hL J hc kk))
    · exact PW.sw1 (24) hd q_284_40 (by decide) (by decide) rfl rfl (PW.exit (law_round G i M c h0 (by omega) hL J hc kk))
    · exact PW.sw1 (25) hd q_284_40 (by decide) (by decide) rfl rfl (PW.exit (law_circle G i M c h0 (by omega) hL J hc kk))
    · exact PW.sw1 (26) hd q_284_40 (by decide) (by decide) rfl rfl (PW.exit (law_strays G i M c h0 (by omega) hL J hc kk))
    · exact PW.sw1 (27) hd q_284_40 (by decide) (by decide) rfl rfl (PW.exit (law_least G i M c h0 (by omega) hL J hc kk))
    · exact PW.sw1 (28) hd q_284_40 (by decide) (by decide) rfl rfl (PW.exit (law_runs G i M c h0 (by omega) hL J hc kk))
    · exact PW.sw1 (29) hd q_284_40 (by decide) (by decide) rfl rfl (PW.exit (law_prints G i M c h0 (by omega) hL J hc kk))
    · exact PW.sw1 (30) hd q_284_40 (by decide) (by decide) rfl rfl (PW.exit (law_judge G i M c h0 (by omega) hL J hc kk))
    · exact PW.sw1 (31) hd q_284_40 (by decide) (by decide) rfl rfl (PW.exit (law_laws G i M c h0 (by omega) hL J hc kk))
    · exact PW.sw1 (32) hd q_284_40 (by decide) (by decide) rfl rfl (PW.exit (law_turned G i M c h0 (by omega) hL J hc kk))
    · exact PW.sw1 (33) hd q_284_40 (by decide) (by decide) rfl rfl (PW.exit (law_turnedAt G i M c h0 (by omega) hL J hc kk))
    · exact PW.sw1 (34) hd q_284_40 (by decide) (by decide) rfl rfl (PW.exit (law_drawn G i M c h0 (by omega) hL J hc kk))
    · exact PW.sw1 (35) hd q_284_40 (by decide) (by decide) rfl rfl (PW.exit (law_odds G i M c h0 (by omega) hL J hc kk))
    · exact PW.sw1 (36) hd q_284_40 (by decide) (by decide) rfl rfl (PW.exit (law_log G i M c h0 (by omega) hL J hc kk))
    · exact PW.sw1 (37) hd q_284_40 (by decide) (by decide) rfl rfl (PW.exit (law_logged G i M c h0 (by omega) hL J hc kk))
    · exact PW.sw1 (38) hd q_284_40 (by decide) (by decide) rfl rfl (PW.exit (law_sentence G i M c h0 (by omega) hL J hc kk))
    · exact PW.sw1 (39) hd q_284_40 (by decide) (by decide) rfl rfl (PW.exit (law_told G i M c h0 (by omega) hL J hc kk))
    · exact PW.sw1 (40) hd q_284_40 (by decide) (by decide) rfl rfl (PW.exit (law_image G i M c h0 (by omega) hL J hc kk))
    · exact PW.sw1 (41) hd q_284_40 (by decide) (by decide) rfl rfl (PW.exit (law_restore G i M c h0 (by omega) hL J hc kk))
    · exact PW.sw1 (42) hd q_284_40 (by decide) (by decide) rfl rfl (PW.exit (law_count G i M c h0 (by omega) hL J hc kk))
    · exact PW.tswO q_284_40 hd rfl (PW.exit (law_tail G i M c h0 (by omega) hL J hc kk))
theorem PW.mem2 {G : pG} {al : Bool} {d j mc ms : Nat} {Kr : pK} {pc : Nat} {lv : List (Nat × Value)} {st : List Value} {N : Nat} {M M2 : pM} {ce sl : Nat} (h : ∀ k, k < N → p_kn (M2 k) = false ∨ M k = M2 k ∨ p_eqE (M k) (M2 k) = true) (k : PW G al d j mc ms Kr pc lv st N M2 ce sl) : PW G al d j mc ms Kr pc lv st N M ce sl := by
  intro p l e R s m args below meth c H locs ls Q hC hret hR hS hl
  refine k p l e R s m args below meth c H locs ls Q hC hret ⟨fun k hk hkn => ?_, hR.2⟩ hS hl
  rcases h k hk with q | q | q
  · rw [q] at hkn; cases hkn
  · rw [← q] at hkn ⊢; exact hR.1 k hk hkn
  · exact p_eqE_at q (hR.1 k hk (p_eqE_kn q hkn))
theorem PW.exF {G : pG} {d j mc ms : Nat} {Kr : pK} {pc : Nat} {lv : List (Nat × Value)} {st : List Value} {N n fu : Nat} {M M0 : pM} {ce sl : Nat} (h : f_chk n M0 (p_ex fu true d j mc ms pc lv st N M ce sl) = true) (k : ∀ M2 : pM, (∀ k, k < n → p_eqE (M2 k) (M0 k) = true) → Kr.1 none n M2) : PW G true d j mc ms Kr pc lv st N M ce sl := by
  cases hx : p_ex fu true d j mc ms pc lv st N M ce sl with
  | none => rw [hx] at h; cases h
  | some q =>
    obtain ⟨v, N2, M2⟩ := q
    rw [hx] at h
    cases v with
    | some v => simp [f_chk] at h
    | none =>
      simp only [f_chk, Bool.and_eq_true, decide_eq_true_eq, List.all_eq_true, List.mem_range] at h
      obtain ⟨rfl, h2⟩ := h
      exact p_ex_ok fu hx (k M2 h2)
set_option maxRecDepth 100000 in
set_option maxHeartbeats 40000000 in
theorem law_pre (G : pG) : PW G true 21 284 1000 13000 (law_K.1, fun pc' lv' st' N' M' ce' sl' => pc' = 23 ∧ lv' = law_lv 0 ∧ st' = [] ∧ N' = 311 ∧ M' = f_M ∧ ce' = 311 ∧ sl' = 8628) 0 (lv_args 0 [.ref 65564]) [] 0 (fun _ => f_no) 0 0 := by
  refine PW.new q_284_0 rfl (by decide) (by decide) (by decide) ?_
  refine PW.dup q_284_3 rfl ?_
  refine PW.callI (as := []) (rest := [_]) q_284_4 rfl rfl rfl (Nat.le_of_ble_eq_true rfl) (Nat.le_of_ble_eq_true rfl) (by decide) (by decide) ?_
  refine PW.exF f_ctor1 (fun M2 hM2 => ?_)
  refine PW.mem hM2 ?_
  refine PW.astore_n q_284_7 (by decide) ?_
  refine PW.new q_284_8 rfl (by decide) (by decide) (by decide) ?_
  refine PW.dup q_284_11 rfl ?_
  refine PW.callI (as := []) (rest := [_]) q_284_12 rfl rfl rfl (Nat.le_of_ble_eq_true rfl) (Nat.le_of_ble_eq_true rfl) (by decide) (by decide) ?_
  refine PW.exF f_ctor2 (fun M2 hM2 => ?_)
  refine PW.mem hM2 ?_
  refine PW.astore_n q_284_15 (by decide) ?_
  refine PW.iconst q_284_16 ?_
  refine PW.newa q_284_17 rfl (by decide) (by decide) (by decide) (by decide) (by decide) ?_
  refine PW.mem2 (M2 := f_M) (fun k _ => ?_) ?_
  · by_cases h : k = 310
    · subst h; exact Or.inr (Or.inr (by decide +kernel))
    · exact Or.inr (Or.inl (va_up_ne _ _ h))
  refine PW.astore_n q_284_19 (by decide) ?_
  refine PW.iconst q_284_20 ?_
  refine PW.topi (y := 0) (by decide) ?_
  refine PW.istore q_284_21 (by decide) ?_
  refine PW.lvS (lv' := law_lv 0) (lk1 rfl (lk1 rfl (lk1 rfl (lk1 rfl (lk1 rfl lk0))))) ?_
  exact PW.exit ⟨rfl, rfl, rfl, rfl, rfl, rfl, rfl⟩
