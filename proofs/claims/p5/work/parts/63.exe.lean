abbrev xc_WS (k : Nat) (hh : List (Nat × Nat × Nat × Nat)) : List Cond := .codeWith (p_mY k) (p_mC k) (p_mL k) (p_mR k) hh :: p_GW
theorem xc_goodW {k : Nat} {hh : List (Nat × Nat × Nat × Nat)} (hcode : Cond.codeWith (p_mY k) (p_mC k) (p_mL k) (p_mR k) hh ∈ p_GW) : GoodIn p_GW (xc_WS k hh) := by
  intro w hw
  have hm : w ∈ p_GW := by
    rcases List.mem_cons.mp hw with rfl | h9
    · exact hcode
    · exact h9
  exact ⟨hm, good_of_word (List.mem_filter.mp hm).2⟩
/-- returns, where a helper may catch -/
theorem xc_ret {G : pG} {k : Nat} {as : List Value} {KL : Option Value → Nat → pM → Prop} {XC : String → State → State → Prop} {p : Program} {l : Launch} {e : Env} {R : Room} {s : State} {m : MethodId} {below : List Frame} {meth : Method} {c : Code} (hexec : p.tables.exec = Jvm.exec) (hb : c.code = p_mC k) (hr0 : meth.sig.returnType = p_mR k) (hns : meth.locks = false) :
    ∀ (v : Option Value) (N' : Nat) (M' : pM) (H' : Heap) (locs' : List Loc) (ls' : Array Slot) (pc' : Nat) (i : Instr), KL v N' M' → p_ret k i v → decode (p_mC k) pc' = .ok (i, 1) → p_R G false N' M' H' → va_S (p_A G) s.heap H' locs' → W p l e R s m (as.map (p_v G)).toArray below meth c H' locs' 1 6 (vx_MQ below (p_Qc G false KL) XC (as.map (p_v G)).toArray s 1 6 (p_A G)) (F0 m pc' ls' (v.toList.map (p_v G))) := by
  intro v N' M' H' locs' ls' pc' i hK hrt hd' hR' hS'
  refine vx_ret ?_
  have hq : ∀ t : State, t.heap = H' → s.WarmedH t.vm → p_Qc G false KL (as.map (p_v G)).toArray s (.returned (v.map (p_v G))) t := fun t ht hW => ⟨⟨v, N', M', rfl, hK, by rw [ht]; exact hR'⟩, hS'.F ht⟩
  rcases hrt with ⟨rfl, hr, x, rfl⟩ | ⟨rfl, hr, x, rfl, hx⟩ | ⟨rfl, hr, rfl⟩ | ⟨rfl, hr, x, rfl⟩ | ⟨rfl, ⟨n, hr⟩, x, rfl⟩
  · exact W.iret hexec hb (by rw [hr0, hr]) hq hS'.2.2 hd' hns
  · exact W.zret hexec hb (by rw [hr0, hr]) hx hq hS'.2.2 hd' hns
  · exact W.vret hexec hb (by rw [hr0, hr]) hq hS'.2.2 hd' hns
  · exact W.lret hexec hb (by rw [hr0, hr]) hq hS'.2.2 hd' hns
  · exact W.aret hexec hb (by rw [hr0, hr]) (Or.inl ⟨n, rfl⟩) (Or.inr ⟨_, rfl⟩) hq hS'.2.2 hd' hns
/-- a helper of the law that calls such a method and catches -/
theorem xc_catcher {G : pG} {d k kx pI eI hpc idx nS ci : Nat} {M : pM} {as as2 rest fs : List Value} {lvI : List (Nat × Value)} {K1 KL : Option Value → Nat → pM → Prop} {Kt : pM → Prop} (hpl : plainName (p_mY k).cls = true) (hO : p_mO k = (p_mY k).cls) (hOL : p_mO k = "BetweenThemLaw") (hcode : Cond.codeWith (p_mY k) (p_mC k) (p_mL k) (p_mR k) [(0, eI, hpc, 13)] ∈ p_GW) (hri : p_mR k = some .int) (hsz : (lg_sl as).length ≤ p_mL k)
    (hX : ∀ l : Launch, l.stackTraces = false → vx_Met l (p_mY kx) (p_WS kx) (xc_rm d) (xc_Pc G (.ref 0 :: as2) 311 M) (p_Qc G false K1) (xc_X G Kt) 1 6 (p_A G))
    (hI : p_tb k pI = some (.invokevirtual idx, 3)) (hkx : p_f2 p_mv (p_mK k) idx = some kx) (hM : M 0 = .inr (ci, fs)) (hci : ci < 12) (hcl : (p_cl ci).1 = (p_mY kx).cls) (hn : as2.length = p_mN kx) (hsum : (rest.map fun v => v.category).sum ≤ 8) (hin : pI < eI)
    (hA : p_tb k hpc = some (.astore nS, 2)) (hnS : nS < p_mL k) (hA2 : p_tb k (hpc + 2) = some (.iconst 1, 1)) (hA3 : p_tb k (hpc + 3) = some (.ireturn, 1))
    (hrun : PW G false (d + 1) k 1 6 (fun _ _ _ => False, fun pc' lv' st' N' M' ce' sl' => pc' = pI ∧ lv' = lvI ∧ st' = as2.reverse ++ .ref 0 :: rest ∧ N' = 311 ∧ M' = M ∧ ce' = 0 ∧ sl' = 0) 0 (lv_args 0 as) [] 311 M 0 0)
    (hafter : ∀ v N' M', K1 v N' M' → PW G false (d + 1) k 1 6 (KL, p_nx) (pI + 3) lvI (v.toList ++ rest) N' M' (0 + 1) (0 + 6))
    (hKt : ∀ M', Kt M' → KL (some (.int (Int32.ofInt 1))) 311 M') (l : Launch) (hl0 : l.stackTraces = false) :
    vx_Met l (p_mY k) (xc_WS k [(0, eI, hpc, 13)]) (xc_rm (d + 1)) (xc_Pc G as 311 M) (p_Qc G false KL) (fun _ _ _ => False) 1 6 (p_A G) := by
  refine vx_ofWH (cc := p_mC k) (maxL := p_mL k) (ret := p_mR k) (hh := [(0, eI, hpc, 13)]) hpl rfl ?_
  intro p e s m args below meth c s₁ B hml hv
  obtain ⟨rfl, hG, hR, hF⟩ := hv
  have hts := atoms_spec (ws := xc_WS k [(0, eI, hpc, 13)]) B.pre
  have htg : ∀ w ∈ p_GW, w.before (as.map (p_v G)).toArray s = true := fun w hw => hts w (List.mem_cons_of_mem _ hw)
  have htab := vx_table (x := p_mY k) B (hts _ List.mem_cons_self)
  have hl := lv_entry (as.map (p_v G)) (n := p_mL k) (by rw [p_lgs]; exact hsz)
  rw [p_lva] at hl
  rw [lg_entry_eq]
  have hown : s.vm.findClass (p_mO k) = some m.cls := by rw [hO]; exact findClass_of_methodNamed B.named
  have hC : p_C G (d + 1) k 1 6 p (xc_rm (d + 1)) s m (as.map (p_v G)).toArray meth c := ⟨B.exec, B.bytes, hml, hown, fun w hw hg => htg w (List.mem_filter.mpr ⟨hw, hg⟩), fun hi => by rw [(name_of_methodNamed B.named B.method).1]; exact p_mI_in k hi, hG, Nat.le_refl _, Nat.le_refl _, Nat.le_refl _, Nat.le_refl _⟩
  refine hrun p l e (xc_rm (d + 1)) s m _ below meth c s.heap [] _ _ hC ⟨fun _ _ _ _ _ _ _ _ hf => hf.elim, ?_⟩ hR va_S.rf hl
  intro pc' lv' st' N' M' ce' sl' H' locs' ls' hk' hR' hS' hl'
  obtain ⟨rfl, rfl, rfl, rfl, rfl, rfl, rfl⟩ := hk'
  obtain ⟨hok, w1, w2, w3⟩ := p_vlink hkx
  obtain ⟨o1, o2, o3, o4, o5, o6, o7⟩ := p_okK_spec hok
  rw [List.map_append, List.map_reverse, List.map_cons]
  have hr : vx_Run p l e (xc_rm (d + 1)) s m (as.map (p_v G)).toArray below meth c H' locs' 0 0 1 6 (F0 m pc' ls' ((as2.map (p_v G)).reverse ++ p_v G (.ref 0) :: rest.map (p_v G))) (rest.map (p_v G)) (p_Qc G false K1 (p_v G (.ref 0) :: as2.map (p_v G)).toArray) (xc_X G Kt) (p_A G) :=
    vx_runV (As := as2.map (p_v G)) (rest := rest.map (p_v G)) (b := p_r G 0) (C := (p_mY kx).cls) (index := idx) (bytes := p_mC kx) (maxL := p_mL kx) (ret := p_mR kx) (n := p_mN kx) ⟨hC.1, hC.2.1, hC.2.2.1, hC.2.2.2.1, p_hts hC⟩ (hX l hl0) ⟨callB_of (ws' := p_GW) (p_mN kx) (p_hts hC) (p_good hok) rfl rfl rfl (p_hts hC _ o3) (p_hts hC _ w1) ⟨o1.1, o1.2, o4⟩ ⟨by show d + 1 ≤ d + 1; omega, by show 8 + (p_mL kx + 11) + 80 * d ≤ 80 * (d + 1); omega⟩, p_hts hC _ w2, p_hts hC _ w3⟩ ⟨xc_blind _ _ _ _, (by
      rw [p_r_lt hR' (by decide : 0 < 311), ← hcl]
      exact va_recv (p_hK hC) (p_one hR' (by decide : 0 < 311) hM (p_kn_lt hci)) (p_cl_q hci) (q0 := 0) rfl), fun U hU hW => ⟨rfl, hC.2.2.2.2.2.2.1.warm hW (by rw [hU]; exact hS'), by rw [hU]; exact hR', hF.warm hW (by rw [hU]; exact hS')⟩⟩ rfl (by rw [List.length_map]; exact hn) hl'.1 rfl (by show 2 * 0 + _ ≤ 8; rw [p_cat_map]; omega) (p_tb_ok hI) ⟨Nat.le_refl _, Nat.le_refl _⟩
  intro T hT X
  rcases hr T hT X with ⟨v, st₀, t, T', L, h0, X', hL, e1, e2, ⟨⟨v', N1, M1, hv, hK1, hR1⟩, hz, hkp⟩, st⟩ | ⟨q, st₀, t, T', L, E, ce, h0, X', hL, e1, e2, ⟨rfl, ⟨M1, hK1, hRt⟩, hFt⟩, hce, hcv, hcl9, st⟩
  · have hv' : v = v'.map (p_v G) := Outcome.returned.inj hv
    subst hv'
    rw [h0] at hz hkp
    have hS2 : va_S (p_A G) s.heap T'.heap (locs' ++ L) := ⟨Nat.le_trans hS'.1 (by rw [e1]; exact hz), fun q h1 h2 => by rw [e1, hkp q (Nat.lt_of_lt_of_le h1 hS'.1) h2]; exact hS'.2.1 q h1 h2, fun q hq => by
      rcases List.mem_append.mp hq with h | h
      · exact hS'.2.2 q h
      · exact hL q h⟩
    have kq := hafter v' N1 M1 hK1 p l e (xc_rm (d + 1)) s m (as.map (p_v G)).toArray below meth c T'.heap (locs' ++ L) ls' (vx_MQ below (p_Qc G false KL) (fun _ _ _ => False) (as.map (p_v G)).toArray s 1 6 (p_A G)) hC ⟨xc_ret B.exec B.bytes B.returns B.notSynchronized, fun _ _ _ _ _ _ _ _ _ _ hf => hf.elim⟩ (by rw [e1]; exact hR1) hS2 hl'
    rw [List.map_append, show v'.toList.map (p_v G) = (v'.map (p_v G)).toList from by cases v' <;> rfl] at kq
    obtain ⟨t2, a1, b1⟩ := kq T' rfl X'
    exact ⟨t2, st t2 a1, b1⟩
  · rw [← e1] at hce hRt
    have hS2 : va_S (p_A G) s.heap T'.heap (locs' ++ L) := ⟨Nat.le_trans hS'.1 (by rw [e1, ← h0]; exact hFt.1), fun q h1 h2 => by rw [e1, hFt.2 q (by rw [h0]; exact Nat.lt_of_lt_of_le h1 hS'.1) h2, h0]; exact hS'.2.1 q h1 h2, fun q hq => by
      rcases List.mem_append.mp hq with h | h
      · exact hS'.2.2 q h
      · exact hL q h⟩
    have kk : W p l e (xc_rm (d + 1)) s m (as.map (p_v G)).toArray below meth c T'.heap (locs' ++ L) (0 + 1) (0 + 6) (vx_MQ below (p_Qc G false KL) (fun _ _ _ => False) (as.map (p_v G)).toArray s 1 6 (p_A G)) (F0 m hpc ls' [.ref q]) :=
      lv_astore B.exec B.bytes (p_tb_ok hA) hl' hnS rfl (fun ls2 hl2 => lv_iconst B.exec B.bytes (p_tb_ok hA2) rfl (vx_ret (W.iret B.exec B.bytes (by rw [B.returns, hri]) (fun t2 ht2 hW2 => ⟨⟨some (.int (Int32.ofInt 1)), 311, M1, rfl, hKt M1 hK1, by rw [ht2]; exact hRt⟩, hS2.F ht2⟩) hS2.2.2 (p_tb_ok hA3) B.notSynchronized)))
    obtain ⟨t2, a1, b1⟩ := xc_catch (x := ⟨0, eI, hpc, 13⟩) (own := "BetweenThemLaw") (name := xc_E) (pc := pc') (rest := rest.map (p_v G)) (by rw [← hOL]; exact hown) htab (by simp [covers]; exact hin) (show (13 : Nat) ≠ 0 by decide) (htg _ xc_l3) (va_tabs rfl rfl hF.1.2.2.2) hce hcv hcl9 kk T' rfl X'
    exact ⟨t2, st.trans a1, b1⟩
section PXC
variable {G : pG} {d j mc ms : Nat} {Kr : pK} {pc : Nat} {lv : List (Nat × Value)} {N : Nat} {M : pM} {ce sl : Nat}
theorem PX.callX {idx k : Nat} {hh : List (Nat × Nat × Nat × Nat)} {as rest : List Value} {KL : Option Value → Nat → pM → Prop} (h : p_tb j pc = some (.invokestatic idx, 3)) (hk : p_f2 p_ms (p_mK j) idx = some k) (hcode : Cond.codeWith (p_mY k) (p_mC k) (p_mL k) (p_mR k) hh ∈ p_GW) (hini : Cond.initialized (p_mY k).cls ∈ p_GW) (hy : (p_mY k).cls ≠ "java/lang/invoke/MethodHandle" ∧ (p_mY k).cls ≠ "java/lang/invoke/VarHandle") (hde : (parseMethodDescriptor (p_mY k).desc).map (fun d => d.parameters.length) = some as.length) (hL : p_mL k ≤ 40) (hsum : (rest.map fun v => v.category).sum ≤ 8) (hce : ce + 1 ≤ mc) (hsl : sl + 6 ≤ ms)
    (hMet : ∀ l : Launch, l.stackTraces = false → vx_Met l (p_mY k) (xc_WS k hh) (xc_rm d) (xc_Pc G as N M) (p_Qc G false KL) (fun _ _ _ => False) 1 6 (p_A G))
    (kk : ∀ v N' M', KL v N' M' → PX G false (d + 1) j mc ms Kr (pc + 3) lv (v.toList ++ rest) N' M' (ce + 1) (sl + 6)) : PX G false (d + 1) j mc ms Kr pc lv (as.reverse ++ rest) N M ce sl := by
  intro p l e R s m args below meth c H locs ls Q hl0 hF hC hret hR hS hl
  obtain ⟨-, w1, w2⟩ := p_slink hk
  have h8 := hC.2.2.2.2.2.2.2.1
  have h9 := hC.2.2.2.2.2.2.2.2.1
  rw [List.map_append, List.map_reverse]
  have hr : vx_Run p l e R s m args below meth c H locs ce sl 1 6 (F0 m pc ls ((as.map (p_v G)).reverse ++ rest.map (p_v G))) (rest.map (p_v G)) (p_Qc G false KL (as.map (p_v G)).toArray) (fun _ _ _ => False) (p_A G) :=
    vx_runSX (hh := hh) (As := as.map (p_v G)) (rest := rest.map (p_v G)) (index := idx) (bytes := p_mC k) (maxL := p_mL k) (ret := p_mR k) (n := as.length) ⟨hC.1, hC.2.1, hC.2.2.1, hC.2.2.2.1, p_hts hC⟩ (hMet l hl0) ⟨⟨rfl, rfl, by show d + 1 ≤ _; omega, by show 8 + (p_mL k + 11) + 80 * d ≤ _; omega, pay_in (p_hts hC) (xc_goodW hcode), List.mem_cons_self⟩, p_hts hC _ hcode, p_hts hC _ hini, hy, fun sig hs => (by rw [hs] at hde; exact (Option.some.inj hde).symm), p_hts hC _ w1, p_hts hC _ w2⟩ ⟨xc_blind _ _ _ _, fun U hU hW => ⟨rfl, hC.2.2.2.2.2.2.1.warm hW (by rw [hU]; exact hS), by rw [hU]; exact hR, hF.warm hW (by rw [hU]; exact hS)⟩⟩ rfl (by rw [List.length_map]) hl.1 rfl (by show 2 * 0 + _ ≤ 8; rw [p_cat_map]; omega) (p_tb_ok h) ⟨Nat.le_trans hce hC.2.2.2.2.2.2.2.2.2.1, Nat.le_trans hsl hC.2.2.2.2.2.2.2.2.2.2⟩
  intro T hT X
  rcases hr T hT X with ⟨v, st₀, t, T', L, h0, X', hLo, e1, e2, ⟨⟨v', N', M', hv, hKL, hR'⟩, hz, hkp⟩, st⟩ | ⟨q, st₀, t, T', L, E, ce, h0, X', hLo, e1, e2, hX, hce, hcv, hcl9, st⟩
  · have hv' : v = v'.map (p_v G) := Outcome.returned.inj hv
    subst hv'
    rw [h0] at hz hkp
    have hS' : va_S (p_A G) s.heap T'.heap (locs ++ L) := ⟨Nat.le_trans hS.1 (by rw [e1]; exact hz), fun q h1 h2 => by rw [e1, hkp q (Nat.lt_of_lt_of_le h1 hS.1) h2]; exact hS.2.1 q h1 h2, fun q hq => by
      rcases List.mem_append.mp hq with h | h
      · exact hS.2.2 q h
      · exact hLo q h⟩
    have kq := kk v' N' M' hKL p l e R s m args below meth c T'.heap (locs ++ L) ls Q hl0 hF hC hret (by rw [e1]; exact hR') hS' hl
    rw [List.map_append, show v'.toList.map (p_v G) = (v'.map (p_v G)).toList from by cases v' <;> rfl] at kq
    obtain ⟨t2, a1, b1⟩ := kq T' rfl X'
    exact ⟨t2, st t2 a1, b1⟩
  · exact hX.elim
end PXC
