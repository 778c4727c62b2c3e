/-! ===== the law's helpers that catch; the class's methods that throw at the fresh objects ===== -/
theorem xc_cast {s U : State} {args args' : Array Value} (h : s.vm.Alike U.vm) {a b : String} (q : (Cond.castable a b).before args s = true) : (Cond.castable a b).before args' U = true := va_tabs (u := s.setVm U.vm) (A := args) rfl rfl (by rw [Cond.castable_setVm h]; exact q)
theorem xc_decl {s U : State} {args args' : Array Value} (h : s.vm.Alike U.vm) {x : MethodName} (q : (Cond.declares x).before args s = true) : (Cond.declares x).before args' U = true := by
  refine va_tabs (u := s.setVm U.vm) (A := args) rfl rfl ?_
  obtain ⟨m, meth, h1, h2, h3, h4⟩ := Cond.declares_spec q
  simp only [Cond.before, Cond.holds, Cond.value]
  have h5 : (s.setVm U.vm).vm.method? m = some meth := by show U.vm.method? m = some meth; rw [h.method?]; exact h2
  rw [State.methodNamed?_setVm h, h1, Option.bind_some, h5, h4]
  simp [h3]
abbrev xc_E : String := "java/util/NoSuchElementException"
abbrev xc_nm : List String := ["java/lang/RuntimeException", "java/lang/Exception"]
def xc_F (G : pG) (U : State) : Prop :=
  ((Cond.declares (Bundle.init0 "java/lang/RuntimeException")).before #[] U = true ∧ (Cond.declares (Bundle.init0 "java/lang/Exception")).before #[] U = true ∧ (Cond.declares (Bundle.init0 Bundle.tN)).before #[] U = true ∧ (Cond.castable xc_E xc_E).before #[] U = true) ∧
  vx_Zq Bundle.tN "UNASSIGNED_STACK" Bundle.steD (p_A G) U U.heap ∧ vx_Zq Bundle.tN "SUPPRESSED_SENTINEL" Bundle.listD (p_A G) U U.heap
theorem xc_F.warm {G : pG} {s U : State} {locs : List Loc} (hW : s.WarmedH U.vm) (hS : va_S (p_A G) s.heap U.heap locs) (h : xc_F G s) : xc_F G U :=
  ⟨⟨xc_decl hW.alike h.1.1, xc_decl hW.alike h.1.2.1, xc_decl hW.alike h.1.2.2.1, xc_cast hW.alike h.1.2.2.2⟩, (vx_Zq.moved hW.alike h.2.1).kept (fun a h1 h2 => hS.2.1 a h1 h2), (vx_Zq.moved hW.alike h.2.2).kept (fun a h1 h2 => hS.2.1 a h1 h2)⟩
theorem xc_F.calling {G : pG} {U : State} {g : JFrame} {mk : MethodId} {a : Array Value} (h : xc_F G U) : xc_F G (U.calling g mk a) :=
  ⟨⟨xc_decl (s := U) (U := U.calling g mk a) (Vm.Alike.refl U.vm) h.1.1, xc_decl (s := U) (U := U.calling g mk a) (Vm.Alike.refl U.vm) h.1.2.1, xc_decl (s := U) (U := U.calling g mk a) (Vm.Alike.refl U.vm) h.1.2.2.1, xc_cast (s := U) (U := U.calling g mk a) (Vm.Alike.refl U.vm) h.1.2.2.2⟩, vx_Zq.moved (u := U) (U := U.calling g mk a) (Vm.Alike.refl U.vm) h.2.1, vx_Zq.moved (u := U) (U := U.calling g mk a) (Vm.Alike.refl U.vm) h.2.2⟩
def xc_ix : List Nat := [121, 1284, 1293, 1295, 1298, 1300, 1285, 1286, 133, 134, 1287, 1292, 1296, 1312, 1274, 1313, 1276, 1314, 1278, 1288, 1290, 1280, 1302, 1303, 1304, 1305, 1265, 1305, 1306, 1307, 1308, 1267, 1308, 1309, 1310, 1285, 1269, 1301, 1263, 1264, 1271, 1272, 1273, 1275, 1277, 1279, 1283, 1282, 1281]
def xc_ws : List Cond := vx_at0 "BetweenThem" 175 xc_E xc_nm
def xc_4 : List Cond := [.declares (Bundle.init0 "java/lang/RuntimeException"), .declares (Bundle.init0 "java/lang/Exception"), .declares (Bundle.init0 Bundle.tN), .castable xc_E xc_E]
set_option maxRecDepth 100000 in
theorem xc_eq : xc_ws.map some = xc_ix.map (fun i => lw_tbl[i]?) := by rfl
theorem xc_in (w : Cond) (h : w ∈ xc_ws) : w ∈ lw_tbl := by
  have h1 : some w ∈ xc_ws.map some := List.mem_map.mpr ⟨w, h, rfl⟩
  rw [xc_eq] at h1
  obtain ⟨i, -, hi⟩ := List.mem_map.mp h1
  exact List.mem_of_getElem? hi
theorem xc_g4 : (xc_ws.all fun w => goodWord w || decide (w ∈ xc_4)) = true := by decide +kernel
theorem xc_ot : ((Cond.classLink "BetweenThem" 173 xc_E :: Cond.initialized xc_E :: xc_ws).all vx_ot) = true := by decide +kernel
theorem xc_l1 : Cond.classLink "BetweenThem" 173 xc_E ∈ p_GW := p_gi (List.mem_of_getElem? (i := 1262) (by decide +kernel)) rfl
theorem xc_l2 : Cond.initialized xc_E ∈ p_GW := p_gi (List.mem_of_getElem? (i := 124) (by decide +kernel)) rfl
theorem xc_l3 : Cond.classLink "BetweenThemLaw" 13 xc_E ∈ p_GW := p_gi (List.mem_of_getElem? (i := 1257) (by decide +kernel)) rfl
theorem xc_hat {G : pG} {s : State} {args : Array Value} (hts : ∀ w ∈ p_GW, w.before args s = true) (h : xc_F G s) : ∀ w ∈ xc_ws, w.before args s = true := by
  intro w hw
  have q := List.all_eq_true.mp xc_g4 w hw
  simp only [Bool.or_eq_true, decide_eq_true_eq] at q
  rcases q with q | q
  · exact hts w (p_gi (xc_in w hw) q)
  · simp only [xc_4, List.mem_cons, List.not_mem_nil, or_false] at q
    rcases q with rfl | rfl | rfl | rfl
    · exact va_tabs rfl rfl h.1.1
    · exact va_tabs rfl rfl h.1.2.1
    · exact va_tabs rfl rfl h.1.2.2.1
    · exact va_tabs rfl rfl h.1.2.2.2
/-- as PW, where exceptions may be made -/
def PX (G : pG) (al : Bool) (d j mc ms : Nat) (Kr : pK) (pc : Nat) (lv : List (Nat × Value)) (st : List Value) (N : Nat) (M : pM) (ce sl : Nat) : Prop :=
  ∀ (p : Program) (l : Launch) (e : Env) (R : Room) (s : State) (m : MethodId) (args : Array Value) (below : List Frame) (meth : Method) (c : Code) (H : Heap) (locs : List Loc) (ls : Array Slot) (Q : State → Prop),
    l.stackTraces = false → xc_F G s → p_C G d j mc ms p R s m args meth c →
    p_K G al j mc ms Kr p l e R s m args below meth c Q →
    p_R G al N M H → va_S (p_A G) s.heap H locs → lv_has ls (p_mL j) (p_l G lv) → W p l e R s m args below meth c H locs ce sl Q (F0 m pc ls (st.map (p_v G)))
section PXS
variable {G : pG} {al : Bool} {d j mc ms : Nat} {Kr : pK} {pc : Nat} {lv : List (Nat × Value)} {st : List Value} {N : Nat} {M : pM} {ce sl : Nat}
theorem PX.of (h : PW G al d j mc ms Kr pc lv st N M ce sl) : PX G al d j mc ms Kr pc lv st N M ce sl := by
  intro p l e R s m args below meth c H locs ls Q hl0 hF hC hret hR hS hl
  exact h p l e R s m args below meth c H locs ls Q hC hret hR hS hl
theorem PX.run (h : PW G al d j mc ms (Kr.1, fun pc' lv' st' N' M' ce' sl' => PX G al d j mc ms Kr pc' lv' st' N' M' ce' sl') pc lv st N M ce sl) : PX G al d j mc ms Kr pc lv st N M ce sl := by
  intro p l e R s m args below meth c H locs ls Q hl0 hF hC hret hR hS hl
  exact h p l e R s m args below meth c H locs ls Q hC ⟨hret.1, fun pc' lv' st' N' M' ce' sl' H' locs' ls' hk hR' hS' hl' => hk p l e R s m args below meth c H' locs' ls' Q hl0 hF hC hret hR' hS' hl'⟩ hR hS hl
end PXS
abbrev xc_rm (d : Nat) : Room := { frames := d, cells := 1, slots := 6, locals := 80 * d }
def xc_X (G : pG) (Kt : pM → Prop) : String → State → State → Prop := fun E s0 t => E = xc_E ∧ (∃ M', Kt M' ∧ p_R G false 311 M' t.heap) ∧ va_F (p_A G) s0 t
def xc_Pc (G : pG) (as : List Value) (N : Nat) (M : pM) : Array Value → State → Prop := fun v U => v = (as.map (p_v G)).toArray ∧ p_G G U ∧ p_R G false N M U.heap ∧ xc_F G U
theorem xc_blind (G : pG) (as : List Value) (N : Nat) (M : pM) : FrameBlind (xc_Pc G as N M) := fun a U g mk q => ⟨q.1, q.2.1.calling, q.2.2.1, q.2.2.2.calling⟩
/-- a method of the class that answers, or comes to 'throw new NoSuchElementException()' -/
theorem xc_thrower {G : pG} {d k pn : Nat} {M : pM} {as : List Value} {K1 : Option Value → Nat → pM → Prop} {Kt : pM → Prop} (hd : 6 ≤ d) (hk : p_okK k = true) (hO : (p_mY k).cls = "BetweenThem") (hsz : (lg_sl as).length ≤ p_mL k)
    (d0 : decode (p_mC k) pn = .ok (.new 173, 3)) (d3 : decode (p_mC k) (pn + 3) = .ok (.dup, 1)) (d4 : decode (p_mC k) (pn + 4) = .ok (.invokespecial 175, 3)) (d7 : decode (p_mC k) (pn + 7) = .ok (.athrow, 1))
    (h : PW G false d k 1 6 (K1, fun pc' lv' st' N' M' ce' sl' => pc' = pn ∧ st' = [] ∧ N' = 311 ∧ Kt M' ∧ ce' = 0 ∧ sl' = 0) 0 (lv_args 0 as) [] 311 M 0 0) (l : Launch) (hl0 : l.stackTraces = false) :
    vx_Met l (p_mY k) (p_WS k) (xc_rm d) (xc_Pc G as 311 M) (p_Qc G false K1) (xc_X G Kt) 1 6 (p_A G) := by
  obtain ⟨-, -, -, -, -, hO2, hpl⟩ := p_okK_spec hk
  refine vx_ofW (cc := p_mC k) (maxL := p_mL k) (ret := p_mR k) hpl rfl ?_
  intro p e s m args below meth c s₁ B hml htab hv
  obtain ⟨rfl, hG, hR, hF⟩ := hv
  have hts := atoms_spec (ws := p_WS k) B.pre
  have htg : ∀ w ∈ p_GW, w.before (as.map (p_v G)).toArray s = true := fun w hw => hts w (List.mem_cons_of_mem _ hw)
  have hl := lv_entry (as.map (p_v G)) (n := p_mL k) (by rw [p_lgs]; exact hsz)
  rw [p_lva] at hl
  rw [lg_entry_eq]
  have hcls : s.vm.findClass "BetweenThem" = some m.cls := by rw [← hO]; exact findClass_of_methodNamed B.named
  refine h p l e (xc_rm d) s m _ below meth c s.heap [] _ _ ⟨B.exec, B.bytes, hml, ?_, fun w hw hg => htg w (List.mem_filter.mpr ⟨hw, hg⟩), fun hi => ?_, hG, Nat.le_refl _, Nat.le_refl _, Nat.le_refl _, Nat.le_refl _⟩ ⟨?_, ?_⟩ hR va_S.rf hl
  · rw [hO2]
    exact findClass_of_methodNamed B.named
  · have := (name_of_methodNamed B.named B.method).1
    rw [this]
    exact p_mI_in k hi
  · intro v N' M' H' locs' ls' pc' i hK hrt hd' hR' hS'
    refine vx_ret ?_
    have hq : ∀ t : State, t.heap = H' → s.WarmedH t.vm → p_Qc G false K1 (as.map (p_v G)).toArray s (.returned (v.map (p_v G))) t := fun t ht hW => ⟨⟨v, N', M', rfl, hK, by rw [ht]; exact hR'⟩, hS'.F ht⟩
    rcases hrt with ⟨rfl, hr, x, rfl⟩ | ⟨rfl, hr, x, rfl, hx⟩ | ⟨rfl, hr, rfl⟩ | ⟨rfl, hr, x, rfl⟩ | ⟨rfl, ⟨n, hr⟩, x, rfl⟩
    · exact W.iret B.exec B.bytes (by rw [B.returns, hr]) hq hS'.2.2 hd' B.notSynchronized
    · exact W.zret B.exec B.bytes (by rw [B.returns, hr]) hx hq hS'.2.2 hd' B.notSynchronized
    · exact W.vret B.exec B.bytes (by rw [B.returns, hr]) hq hS'.2.2 hd' B.notSynchronized
    · exact W.lret B.exec B.bytes (by rw [B.returns, hr]) hq hS'.2.2 hd' B.notSynchronized
    · exact W.aret B.exec B.bytes (by rw [B.returns, hr]) (Or.inl ⟨n, rfl⟩) (Or.inr ⟨_, rfl⟩) hq hS'.2.2 hd' B.notSynchronized
  · intro pc' lv' st' N' M' ce' sl' H' locs' ls' hk' hR' hS' hl'
    obtain ⟨rfl, rfl, rfl, hKt, rfl, rfl⟩ := hk'
    exact vx_throw0 (own := "BetweenThem") (cls := xc_E) (names := xc_nm) (ik := 173) (ic := 175) (A := p_A G) B.exec B.bytes hl0 hcls (by decide +kernel) (by decide +kernel) (htg _ xc_l1) (htg _ xc_l2) (xc_hat htg hF) (fun w hw => List.all_eq_true.mp xc_ot w hw) hF.2.1 hF.2.2 hS' (hl'.1.trans hml.symm) d0 d3 d4 d7 (fun x hx => (htab x hx).elim) (by show 2 + 3 < d; omega) (by show (([] : List Value).map _).sum + (13 * (2 + 1) + 42) ≤ 80 * d; simp; omega) (by show 0 + 1 ≤ 1; omega) (by show 0 + 6 ≤ 6; omega) B.notSynchronized
      (fun t ht h1 h2 => ⟨rfl, ⟨M', hKt, ⟨fun k hk hkn => (hR'.1 k hk hkn).kept (h2 _ (hR'.1 k hk hkn).lt), ⟨fun q => absurd q (by decide), hR'.2.2⟩⟩⟩, Nat.le_trans hS'.1 h1, fun q hq hA => by rw [h2 q (Nat.lt_of_lt_of_le hq hS'.1)]; exact hS'.2.1 q hq hA⟩) hS'.2.2 (by omega) (by omega)
