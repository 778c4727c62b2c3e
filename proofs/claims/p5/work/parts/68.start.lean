/-! THE CLAIM OUT OF ONE WALK OF THE LAW'S BODY. Your part is whole_start (and what it stands on); all else here is the same for every law, but numbers. -/
def R_law : String := "BetweenThemLaw"
def lw_P (b : Addr) (xs : List Int32) (args : Array Value) (s : State) : Prop := args = #[.ref b] ∧ s.IntsAt b xs ∧ xs.length ≤ 3072 ∧ (Jvm.Cond.and given_1 narrow_1).before args s = true
def lw_Q (_ : Array Value) (s : State) (o : Outcome) (t : State) : Prop := o = .returned (some (.int 1)) ∧ Framed s o t [] 601024 7293034
def lw_Z (below : List Frame) (a : Array Value) (s : State) : State → Prop := fun t => ∃ o, t.status = .running ∧ Ended t below o ∧ lw_Q a s o t
/-- the law's own end, with 1 on the stack, nothing written that was there before, its room as the claim has it -/
theorem lw_ret {p : Program} {l : Launch} {e : Env} {s : State} {m : MethodId} {below : List Frame} {meth : Method} {c : Code} {b : Nat} (hx : p.tables.exec = Jvm.exec) (hb : c.code = code) (hr : meth.sig.returnType = ret) (hlocks : meth.locks = false) {pc : Nat} {H : Heap} {ls : Array Slot} (hdg : decode code pc = .ok (.ireturn, 1)) : W p l e room_1 s m #[Value.ref b] below meth c H [] 601024 7293034 (lw_Z below #[Value.ref b] s) (F0 m pc ls [.int 1]) := by
  intro T hT X
  obtain ⟨fs, hret, hrun, hended, hW, hframe⟩ := X.leave (v := some (.int 1)) (hlocks := hlocks) (fun h => by rw [hr] at h; cases h)
  have hmeth' : T.vm.method? m = some meth := X.method'
  refine ⟨T.setFrames fs, ?_, .returned (some (.int 1)), hrun, hended, rfl, ⟨_, rfl⟩, hW, hframe⟩
  jvm_step X.here [X.here.top, hx, hb, hdg, hmeth', hr, ret, narrow_b1]
  (try refine ⟨rfl, ?_⟩); (try refine ⟨rfl, ?_⟩)
  first | (intro acts; rw [hret _ acts rfl rfl rfl]) | rw [hret _ _ rfl rfl rfl]
  exact Steps.refl _
/-- what holds at the law's entry: the machine, the code, the tables' words (any of lw_tbl by 'hts w (by decide +kernel)'), the script of L ints xs at the cell b, what the Statement gives of the start (any of its parts by flat_of_before) -/
def lw_At (p : Program) (s : State) (m : MethodId) (meth : Method) (c : Code) (b L : Nat) (xs : Nat → Int32) : Prop :=
  p.tables.exec = Jvm.exec ∧ c.code = code ∧ meth.sig.returnType = ret ∧ c.maxLocals = 8 ∧ s.vm.findClass R_law = some m.cls ∧ (∀ w ∈ lw_tbl, w.before #[Value.ref b] s = true) ∧ va_X b L xs s s.heap ∧ b < s.heap.size ∧ meth.locks = false ∧ (Jvm.Cond.and given_1 narrow_1).before #[Value.ref b] s = true
def g_lsI : List Nat := [142, 661, 667, 673, 686, 693, 707, 709, 711, 713, 715, 898, 900, 902, 904, 906, 880, 826, 824, 791, 796, 798, 800, 794, 802, 804, 806, 808]
def g_exI : List Nat := [4, 40, 43, 46, 49, 52, 55, 58, 61, 64, 67, 106, 109, 112, 115, 118, 103, 100, 97, 70, 76, 79, 82, 73, 85, 88, 91, 94]
def g_inI : List Nat := [345, 464, 527, 196, 422, 290, 488, 136, 297, 190, 128, 1377]
def g_aoI : List Nat := [344, 470, 296, 462, 428]
set_option maxRecDepth 100000 in
theorem g_ls0 : (List.range 28).map (fun i => lw_tbl[g_lsI.getD i 0]?) = (List.range 28).map (fun i => some (Cond.laysStatic RX9 (p_nm.getD i "") "LBetweenThem$Word;")) := rfl
set_option maxRecDepth 100000 in
theorem g_ex0 : (List.range 28).map (fun i => (flatC (Jvm.Cond.and given_1 narrow_1))[g_exI.getD i 0]?) = (List.range 28).map (fun i => some (Cond.exactly (.static RX9 (p_nm.getD i "") "LBetweenThem$Word;") RX9)) := rfl
set_option maxRecDepth 100000 in
theorem g_in0 : (List.range 12).map (fun i => lw_tbl[g_inI.getD i 0]?) = (List.range 12).map (fun i => some (Cond.instantiable (p_cl i).1 (p_cl i).2.2)) := rfl
set_option maxRecDepth 100000 in
theorem g_ao0 : (List.range 5).map (fun i => lw_tbl[g_aoI.getD i 0]?) = (List.range 5).map (fun i => some (Cond.arrayOver (.object (p_tn (i + 4))))) := rfl
theorem g_ls (i : Nat) (h : i < 28) : Cond.laysStatic RX9 (p_nm.getD i "") "LBetweenThem$Word;" ∈ lw_tbl := List.mem_of_getElem? (List.map_inj_left.mp g_ls0 i (List.mem_range.mpr h))
theorem g_ex (i : Nat) (h : i < 28) : Cond.exactly (.static RX9 (p_nm.getD i "") "LBetweenThem$Word;") RX9 ∈ flatC (Jvm.Cond.and given_1 narrow_1) := List.mem_of_getElem? (List.map_inj_left.mp g_ex0 i (List.mem_range.mpr h))
theorem g_in (i : Nat) (h : i < 12) : Cond.instantiable (p_cl i).1 (p_cl i).2.2 ∈ lw_tbl := List.mem_of_getElem? (List.map_inj_left.mp g_in0 i (List.mem_range.mpr h))
theorem g_ao (t : Nat) (h4 : 4 ≤ t) (h9 : t < 9) : Cond.arrayOver (.object (p_tn t)) ∈ lw_tbl := by
  have q := List.mem_of_getElem? (List.map_inj_left.mp g_ao0 (t - 4) (List.mem_range.mpr (by omega)))
  rw [Nat.sub_add_cancel h4] at q
  exact q
set_option maxRecDepth 100000 in
theorem g_we0 : (List.range 28).map (fun i => (flatC (Jvm.Cond.and given_1 narrow_1))[12 + i]?) = (List.range 28).map (fun i => some (Cond.eq (.elem (.static RX11 "WORDS" "[LBetweenThem$Word;") (.int (Int32.ofNat i))) (.static RX9 (p_nm.getD i "") "LBetweenThem$Word;"))) := rfl
set_option maxRecDepth 100000 in
theorem g_co0 : (List.range 28).map (fun i => (flatC (Jvm.Cond.and given_1 narrow_1))[g_exI.getD i 0 + 2]?) = (List.range 28).map (fun i => some (Cond.eq (.field (.static RX9 (p_nm.getD i "") "LBetweenThem$Word;") RX9 "code" "J") (.long (p_wc i)))) := rfl
theorem g_we (i : Nat) (h : i < 28) : Cond.eq (.elem (.static RX11 "WORDS" "[LBetweenThem$Word;") (.int (Int32.ofNat i))) (.static RX9 (p_nm.getD i "") "LBetweenThem$Word;") ∈ flatC (Jvm.Cond.and given_1 narrow_1) := List.mem_of_getElem? (List.map_inj_left.mp g_we0 i (List.mem_range.mpr h))
theorem g_cod (i : Nat) (h : i < 28) : Cond.eq (.field (.static RX9 (p_nm.getD i "") "LBetweenThem$Word;") RX9 "code" "J") (.long (p_wc i)) ∈ flatC (Jvm.Cond.and given_1 narrow_1) := List.mem_of_getElem? (List.map_inj_left.mp g_co0 i (List.mem_range.mpr h))
theorem g_wa : Cond.arrayOf (.static RX11 "WORDS" "[LBetweenThem$Word;") (.object RX9) ∈ flatC (Jvm.Cond.and given_1 narrow_1) := List.mem_of_getElem? (i := 9) (by decide +kernel)
theorem g_wl : Cond.eq (.length (.static RX11 "WORDS" "[LBetweenThem$Word;")) (.int 28) ∈ flatC (Jvm.Cond.and given_1 narrow_1) := List.mem_of_getElem? (i := 10) (by decide +kernel)
theorem g_wls : Cond.laysStatic RX11 "WORDS" "[LBetweenThem$Word;" ∈ lw_tbl := List.mem_of_getElem? (i := 629) (by decide +kernel)
theorem g_wini : Cond.initialized RX11 ∈ lw_tbl := List.mem_of_getElem? (i := 106) (by decide +kernel)
theorem g_w1 : Cond.initialized RX9 ∈ lw_tbl := List.mem_of_getElem? (i := 109) (by decide +kernel)
theorem g_w2 : Cond.laysStatic Bundle.tN "UNASSIGNED_STACK" Bundle.steD ∈ lw_tbl := List.mem_of_getElem? (i := 1289) (by decide +kernel)
theorem g_w3 : Cond.laysStatic Bundle.tN "SUPPRESSED_SENTINEL" Bundle.listD ∈ lw_tbl := List.mem_of_getElem? (i := 1291) (by decide +kernel)
theorem g_w4 : Cond.initialized Bundle.tN ∈ lw_tbl := List.mem_of_getElem? (i := 121) (by decide +kernel)
theorem g_w5 : Cond.isRef (.static Bundle.tN "UNASSIGNED_STACK" Bundle.steD) ∈ flatC (Jvm.Cond.and given_1 narrow_1) := List.mem_of_getElem? (i := 121) (by decide +kernel)
theorem g_w6 : Cond.isRef (.static Bundle.tN "SUPPRESSED_SENTINEL" Bundle.listD) ∈ flatC (Jvm.Cond.and given_1 narrow_1) := List.mem_of_getElem? (i := 122) (by decide +kernel)
theorem g_w7 : Cond.declares (Bundle.init0 "java/lang/RuntimeException") ∈ lw_tbl ∧ Cond.declares (Bundle.init0 "java/lang/Exception") ∈ lw_tbl ∧ Cond.declares (Bundle.init0 Bundle.tN) ∈ lw_tbl ∧ Cond.castable xc_E xc_E ∈ lw_tbl := ⟨List.mem_of_getElem? (i := 1265) (by decide +kernel), List.mem_of_getElem? (i := 1267) (by decide +kernel), List.mem_of_getElem? (i := 1269) (by decide +kernel), List.mem_of_getElem? (i := 1264) (by decide +kernel)⟩
theorem g_cl {c : Nat} {q : vw_C} (h : vwCl[c]? = some q) : c < 12 ∧ q = p_cl c := by
  have hlt : c < 12 := (List.getElem?_eq_some_iff.mp h).1
  refine ⟨hlt, ?_⟩
  unfold p_cl
  rw [List.getD_eq_getElem?_getD, h]; rfl
theorem g_arr {s : State} {c : ClassId} {k : Class} {comp : ClassId} {ty : FieldType} (hk : s.vm.classes[c]? = some k) (hd : k.kind = .array comp ty) : ArrOfT s c ty := fun n z => ⟨fun q h => (by cases h), k, hk, comp, hd⟩
theorem g_prim {s : State} {args : Array Value} {ty : FieldType} (hra : ∀ c, s.vm.findClass ("[" ++ ty.toString) = some c → va_RA s c ty) (h : (Cond.arrayClass ty).before args s = true) : ∃ c : ClassId, ArrOfT s c ty ∧ va_RA s c ty := by
  obtain ⟨c, k, comp, h1, h2, h3⟩ := Cond.arrayClass_spec h
  exact ⟨c, g_arr h2 h3, hra c h1⟩
/-- the world of the start -/
theorem st_G {s : State} {b L : Nat} {xs : Nat → Int32} (hts : ∀ w ∈ lw_tbl, w.before #[Value.ref b] s = true) (hX : va_X b L xs s s.heap) (hbl : b < s.heap.size) (hgv : (Jvm.Cond.and given_1 narrow_1).before #[Value.ref b] s = true) : ∃ G : pG, G.1 = s.heap.size ∧ G.2.1 28 = b ∧ G.2.2.2.2.1 = L ∧ p_G G s ∧ xc_F G s := by
  have hA : ∀ a : Nat, a < s.heap.size → ¬ (fun q : Nat => s.heap.size ≤ q) a := fun a h => Nat.not_le.mpr h
  have hg := flat_of_before _ hgv
  have hZ : ∀ i : Nat, ∃ a : Nat, i < 28 → (Term.static RX9 (p_nm.getD i "") "LBetweenThem$Word;").eval #[Value.ref b] s none [] s = some (.ref a) ∧ va_O RX9 a (fun q => s.heap.size ≤ q) s s.heap := fun i => by
    by_cases h : i < 28
    · obtain ⟨a, c, cell, k, q1, q2, q3, q4, q5, q6, -⟩ := Cond.exactly_spec (hg _ (g_ex i h))
      exact ⟨a, fun _ => ⟨q1, cell, q3, q5, by rw [q6]; exact q2, hA a (Array.getElem?_eq_some_iff.mp q3).1⟩⟩
    · exact ⟨0, fun q => absurd q h⟩
  obtain ⟨ad, had0⟩ := Classical.axiomOfChoice hZ
  have had : ∀ i, i < 28 → va_Z RX9 (p_nm.getD i "") "LBetweenThem$Word;" (.ref (ad i)) (fun q => s.heap.size ≤ q) s s.heap := fun i hi => va_Zof (hts _ (g_ls i hi)) (hts _ g_w1) (had0 i hi).1 hA
  obtain ⟨aw, hw1, hwT⟩ := va_Tof (tm := .static RX11 "WORDS" "[LBetweenThem$Word;") (ty := .object RX9) (N := 28) (f := fun i => .ref (ad i)) (A := fun q => s.heap.size ≤ q) (by decide) (hg _ g_wa) (va_eqv (hg _ g_wl) rfl) (fun j hj => va_eqv (hg _ (g_we j hj)) (had0 j hj).1) hA
  have hwZ := va_Zof (hts _ g_wls) (hts _ g_wini) hw1 hA
  have hCl : ∀ ci : Nat, ∃ q : ClassId × (Nat → Nat), ci < 12 → u_Kn s (p_cl ci).1 (p_cl ci).2.1 (p_cl ci).2.2 q.1 q.2 := fun ci => by
    by_cases h : ci < 12
    · obtain ⟨c, iS, hk⟩ := u_known (ws := lw_tbl) (n := (p_cl ci).2.2) hts (fun w hw => (List.mem_filter.mp (p_in h w hw)).1) (hts _ (g_in ci h))
      exact ⟨(c, iS), fun _ => hk⟩
    · exact ⟨(0, fun _ => 0), fun q => absurd q h⟩
  obtain ⟨cl, hcl⟩ := Classical.axiomOfChoice hCl
  have hAr : ∀ t : Nat, ∃ c : ClassId, t < 9 → ArrOfT s c (p_ty t) ∧ va_RA s c (p_ty t) := fun t => by
    by_cases h : t < 9
    · by_cases h4 : 4 ≤ t
      · obtain ⟨comp, c, k, h1, -, h2, h3, h5⟩ := Cond.arrayOver_spec (hts _ (g_ao t h4 h))
        refine ⟨c, fun _ => ?_⟩
        rw [p_ty_obj h4 h]
        exact ⟨g_arr h2 h3, k, comp, h2, h3, h1, h5⟩
      · have w : ∀ w ∈ [Cond.arrayClass .byte, .arrayClass .int, .arrayClass .long, .arrayClass .boolean], w.before #[Value.ref b] s = true := fun w hw => hts w (List.mem_filter.mp (p_arr w hw)).1
        rcases (by omega : t = 0 ∨ t = 1 ∨ t = 2 ∨ t = 3) with rfl | rfl | rfl | rfl
        · obtain ⟨c, hc⟩ := g_prim (ty := .byte) (fun c h => h) (w _ (by simp))
          exact ⟨c, fun _ => hc⟩
        · obtain ⟨c, hc⟩ := g_prim (ty := .int) (fun c h => h) (w _ (by simp))
          exact ⟨c, fun _ => hc⟩
        · obtain ⟨c, hc⟩ := g_prim (ty := .long) (fun c h => h) (w _ (by simp))
          exact ⟨c, fun _ => hc⟩
        · obtain ⟨c, hc⟩ := g_prim (ty := .boolean) (fun c h => h) (w _ (by simp))
          exact ⟨c, fun _ => hc⟩
    · exact ⟨0, fun q => absurd q h⟩
  obtain ⟨ga, hga⟩ := Classical.axiomOfChoice hAr
  refine ⟨(s.heap.size, fun i => if i = 28 then b else if i = 29 then aw else ad i, ga, (fun ci => (cl ci).1, fun ci => (cl ci).2), L, xs), rfl, rfl, rfl, ⟨fun w hw hn => va_Nw.of (p_onT hn) (hts w hw), ⟨fun c q hq => ?_, fun k q hq => ?_⟩, fun i hi => ?_, ⟨Nat.le_refl _, hbl, hX⟩, fun t h4 h9 => va_AO.of (hts _ (g_ao t h4 h9)), hwZ, ?_, fun i hi => ?_, ?_⟩, ?_⟩
  · obtain ⟨h1, rfl⟩ := g_cl hq
    exact hcl c h1
  · have hk : k < 9 := by
      have := (List.getElem?_eq_some_iff.mp hq).1
      simpa [p_tys] using this
    have e : q = (ga k, p_ty k) := by
      unfold p_tys at hq
      rw [List.getElem?_map, List.getElem?_range hk] at hq
      exact (Option.some.inj hq).symm
    subst e
    exact hga k hk
  · show va_Z RX9 (p_nm.getD i "") "LBetweenThem$Word;" (.ref (if i = 28 then b else if i = 29 then aw else ad i)) (fun q => s.heap.size ≤ q) s s.heap
    rw [if_neg (by omega), if_neg (by omega)]
    exact had i hi
  · obtain ⟨cell, a1, a2, a3, a4, a5, a6, a7⟩ := hwT
    refine ⟨cell, a1, a2, a3, a4, a5, fun j hj => ?_, a7⟩
    rw [a6 j hj]
    show some (Value.ref (ad j)) = some (.ref (if j = 28 then b else if j = 29 then aw else ad j))
    rw [if_neg (by omega), if_neg (by omega)]
  · show va_O RX9 (if i = 28 then b else if i = 29 then aw else ad i) (fun q => s.heap.size ≤ q) s s.heap
    rw [if_neg (by omega), if_neg (by omega)]
    exact (had0 i hi).2
  · exact va_Efof (nm := p_nm) (tm := fun i => .long (p_wc i)) (fun i hi => by
      show _ = some (Value.ref (if i = 28 then b else if i = 29 then aw else ad i))
      rw [if_neg (by omega), if_neg (by omega)]
      exact (had0 i hi).1) (fun i hi => hg _ (g_cod i hi)) (fun i hi => rfl) hA
  · exact ⟨⟨va_Nw.of rfl (hts _ g_w7.1), va_Nw.of rfl (hts _ g_w7.2.1), va_Nw.of rfl (hts _ g_w7.2.2.1), va_Nw.of rfl (hts _ g_w7.2.2.2)⟩, vx_Zqof (hts _ g_w2) (hts _ g_w4) (hg _ g_w5) hA, vx_Zqof (hts _ g_w3) (hts _ g_w4) (hg _ g_w6) hA⟩
set_option maxHeartbeats 4000000 in
/-- from the entry, for every script of at most 3072 ints, the law comes to its end with true -/
theorem whole_start {p : Program} {e : Env} {s : State} {m : MethodId} {below : List Frame} {meth : Method} {c : Code} (l : Launch) (hl0 : l.stackTraces = false) {b L : Nat} {xs : Nat → Int32} (hL : L ≤ 3072) (C0 : lw_At p s m meth c b L xs) : W p l e room_1 s m #[Value.ref b] below meth c s.heap [] 0 0 (lw_Z below #[Value.ref b] s) (entryFrame m ([Value.ref b] : List Value).toArray 8) := by
  obtain ⟨hx, hb, hr, hml, hown, hts, hX, hbl, hlocks, hgv⟩ := id C0
  obtain ⟨G, g1, g2, g3, hG, hF⟩ := st_G hts hX hbl hgv
  have hl := lv_entry ([.ref b]) (n := 8) (Nat.le_of_ble_eq_true rfl)
  rw [lg_entry_eq]
  have hp : p_v G (.ref 65564) = .ref b := by
    show Value.ref (p_r G 65564) = _
    unfold p_r
    rw [if_neg (by decide)]
    exact congrArg Value.ref g2
  generalize (lg_sl ([.ref b]) ++ List.replicate (8 - (lg_sl ([.ref b])).length) Slot.unset).toArray = ls at hl ⊢
  have hl2 : lv_has ls (p_mL 284) (p_l G (lv_args 0 [.ref 65564])) := by
    rw [← p_lva]
    show lv_has ls 8 (lv_args 0 [p_v G (.ref 65564)])
    rw [hp]; exact hl
  have hC : ∀ d, d ≤ 60 → p_C G d 284 1000 13000 p room_1 s m #[Value.ref b] meth c := fun d hd => ⟨hx, hb, hml, hown, fun w hw _ => hts w hw, fun h => absurd h (by decide +kernel), hG, by show d ≤ 2048; omega, by show 80 * d ≤ 84000; omega, by show 1000 ≤ 601024; omega, by show 13000 ≤ 7293034; omega⟩
  have hK : ∀ al, p_K G al 284 1000 13000 law_K p l e room_1 s m #[Value.ref b] below meth c (lw_Z below #[Value.ref b] s) := fun al => by
    refine ⟨fun v N2 M2 H2 locs2 ls2 pc2 i hk hrt hd hR hS => ?_, fun _ _ _ _ _ _ _ _ _ _ hf => hf.elim⟩
    have hv : v = some (.int 1) := hk
    subst hv
    have hi : i = .ireturn := by
      rcases hrt with ⟨h, -⟩ | ⟨h, -⟩ | ⟨-, -, h⟩ | ⟨-, -, x, h⟩ | ⟨-, -, a, h⟩
      · exact h
      · exact h
      · cases h
      · cases h
      · cases h
    subst hi
    exact va_forget (fun q hq => by have := hS.2.2 q hq; rw [← g1]; exact this) (W.widen (by omega) (by omega) (lw_ret hx hb hr hlocks hd))
  exact law_pre G p l e room_1 s m _ below meth c s.heap [] ls _ (hC 21 (by omega)) ⟨(hK true).1, fun pc2 lv2 st2 N2 M2 ce2 sl2 H2 locs2 ls2 hk hR hS hl3 => by
    obtain ⟨rfl, rfl, rfl, rfl, rfl, rfl, rfl⟩ := hk
    exact law_loop G (by rw [g3]; exact hL) _ 0 f_M 0 (by decide) (by show (0 : Int) ≤ _; omega) f_LI (by decide) rfl p l e room_1 s m _ below meth c H2 locs2 ls2 _ hl0 hF (hC 60 (Nat.le_refl _)) (hK false) ⟨hR.1, fun h => absurd h (by decide), hR.2.2⟩ hS hl3⟩ ⟨fun k hk => absurd hk (by omega), fun _ => g1.symm, by decide⟩ va_S.rf hl2
set_option maxHeartbeats 4000000 in
theorem lw_walk (l : Launch) (hl0 : l.stackTraces = false) (b : Addr) (xs : List Int32) : MetFree l x (headSpec (Jvm.Cond.code x code maxLocals ret :: tables_1) room_1) (lw_P b xs) (fun _ _ _ _ _ => True) lw_Q := by
  refine MetFree.of_bodyS (code := code) (maxLocals := maxLocals) (ret := ret) (by decide) ?_ ?_
  · intro args s m h hn
    obtain ⟨meth, c, h1, h2, h3, h4, h5, h6, -, -⟩ := Cond.code_spec hn (atoms_spec (ws := Jvm.Cond.code x code maxLocals ret :: tables_1) h _ List.mem_cons_self)
    exact ⟨meth, c, h1, h2, h3, h4, h5, h6⟩
  · intro p e s m args below meth c s₁ B hml0 hP _
    obtain ⟨rfl, hx, hbd, hgv⟩ := hP
    obtain ⟨scr, harrAt, hlist, hof, hsmall⟩ := hx
    obtain ⟨hcb, hkn, -, -⟩ := State.arrayAt?_spec harrAt
    have hown : s.vm.findClass R_law = some m.cls := findClass_of_methodNamed B.named
    have hts0 : ∀ c ∈ (Jvm.Cond.code x code maxLocals ret :: tables_1), c.before #[Value.ref b] s = true := atoms_spec (ws := Jvm.Cond.code x code maxLocals ret :: tables_1) B.pre
    have hts : ∀ w ∈ lw_tbl, w.before #[Value.ref b] s = true := k2_hts_sels lw_privs (fun w hw => hts0 w (List.mem_cons_of_mem _ hw)) lw_privs_ok
    have hml : c.maxLocals = 8 := B.maxLocals_eq (hts0 _ List.mem_cons_self)
    have X₀ : Stand p l e room_1 s m #[Value.ref b] below meth c s₁ [] 0 0 := Stand.of_body B
    have hh0 : s₁.heap = s.heap := by rw [B.state]; rfl
    have hsz : scr.slots.size = xs.length := by rw [← Array.length_toList, hlist, List.length_map]
    have hval : ∀ j : Nat, j < xs.length → scr.slots[j]? = some (.int (xs.getD j 0)) := fun j hj => by
      rw [← Array.getElem?_toList, hlist]
      simp [hj]
    have hbl : b < s.heap.size := (Array.getElem?_eq_some_iff.mp hcb).1
    have hX : va_X b xs.length (fun j => xs.getD j 0) s s.heap := ⟨scr, hcb, hof, hkn, hsz, hval⟩
    have K : W p l e room_1 s m #[Value.ref b] below meth c s₁.heap [] 0 0 (lw_Z below #[Value.ref b] s) (entryFrame m ([Value.ref b] : List Value).toArray 8) := by
      rw [hh0]
      exact whole_start l hl0 hbd ⟨B.exec, B.bytes, B.returns, hml, hown, hts, hX, hbl, B.notSynchronized, hgv⟩
    obtain ⟨t, a1, o, b1, b2, b3⟩ := K s₁ rfl X₀
    exact ⟨t, o, a1, b1, b2, b3⟩
theorem lw_pre_spec {args : Array Value} {s : State} (h : (Jvm.Cond.and given_1 narrow_1).before args s = true) (hr : rest_1_c.before args s = true) : ∃ (b : Addr) (xs : List Int32), lw_P b xs args s := by
  have hs := flat_of_before _ h
  have hq := flat_of_before _ hr
  have hc : (Cond.count 1).before args s = true := hs _ (by decide +kernel)
  have harr : (Cond.arrayOf (.arg 0) .int).before args s = true := hs _ (by decide +kernel)
  have hle : (Cond.le (.length (.arg 0)) (.int 3072)).before args s = true := hs _ (by decide +kernel)
  have hlen : (Cond.isInt (.length (.arg 0))).before args s = true := hq _ (by decide +kernel)
  have hall : (Cond.all (.arg 0) (.isInt (.elem (.arg 0) (.index 0)))).before args s = true := hq _ (by decide +kernel)
  obtain ⟨b, xs, hb, hx⟩ := State.ints_of_pre rfl harr hlen hall
  have hsm : xs.length < 2 ^ 31 := hx.choose_spec.2.2.2
  have hev : (Term.length (.arg 0)).eval args s none [] s = some (.int xs.length.toInt32) := hx.length_eval hb
  have hv := Cond.le_ints hev (show (Term.int 3072).eval args s none [] s = some (.int 3072) from rfl)
  have hd : xs.length.toInt32 ≤ 3072 := by
    simpa [Cond.before, Cond.holds, hv] using hle
  have hN : xs.length ≤ 3072 := (Int32.ofNat_le_ofNat hsm (by decide)).mp (show Int32.ofNat xs.length ≤ Int32.ofNat 3072 from hd)
  exact ⟨b, xs, Cond.one_arg hc (show args[0]? = some (.ref b) from hb), hx, hN, h⟩
theorem lw_comes (l : Launch) (hl0 : l.stackTraces = false) : Comes l x (Jvm.Cond.code x code maxLocals ret :: tables_1) room_1 (fun tb e args s => Calls_1 tb e args s ∧ rest_1 tb e args s ∧ Pre_1 tb e args s)
    (fun _ _ args s o t => lw_Q args s o t) := by
  intro p e ha hc hk s m args below hf hfit hheap happ hpre
  obtain ⟨b, xs, hP⟩ := lw_pre_spec hpre.2.2 hpre.2.1
  obtain ⟨k, o, h1, h2, h3, hQ⟩ := lw_walk l hl0 b xs p e ha hc hk s m args below hf ((Spec.applies_iff_loose hf).mp happ).1 hP trivial
  exact ⟨k, o, h1, h2, h3, hQ⟩
theorem lw_frame {s t : State} {o : Outcome} {args : Array Value} (h : Framed s o t [] 601024 7293034) :
    Framed s o t (fieldLocs frame_1_writes args s ++ arrayLocs frame_1_arrays args s ++ staticLocs frame_1_statics s) 601024 7293034 := h
theorem lw_limb (L : Cond) (hL : ∀ (args : Array Value) (s t : State), L.after args s (.returned (some (.int 1))) t = true) :
    ArmFor flags0 classFile x code maxLocals ret World_1 tables_1 room_1 Calls_1 rest_1 Pre_1
      (fun tb e a s o t => postC L tb e a s o t ∧ Framed s o t (fieldLocs frame_1_writes a s ++ arrayLocs frame_1_arrays a s ++ staticLocs frame_1_statics s) 601024 7293034) := by
  intro l hfl _ _ p e ha hc hk s m args below hf hfit hheap happ hpre
  have hl0 : l.stackTraces = false := by unfold Launch.stackTraces; rw [hfl]; decide
  obtain ⟨k, o, h1, h2, h3, rfl, hF⟩ := lw_comes l hl0 p e ha hc hk s m args below hf hfit hheap happ hpre
  exact ⟨k, _, h1, h2, h3, hL args s _, lw_frame hF⟩
theorem i_vc : Claimed_1_1 ∧ Claimed_1_2 := ⟨lw_limb limb_1_1 (fun args s t => by simp [limb_1_1, Cond.after, Cond.holds, Cond.value]), lw_limb limb_1_2 (fun args s t => Cond.after_iff.mpr (by
  first | (rw [show limb_1_2 = Cond.eq .result (.int 1) from rfl, Cond.eq_ints (x := 1) (y := 1) rfl rfl]; simp; done) | (simp [limb_1_2, Cond.value, Term.eval]; done)))⟩
