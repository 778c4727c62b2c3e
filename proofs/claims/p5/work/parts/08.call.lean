/-! ===== stores into arrays, constants, answers, calls ===== -/
theorem p_ltlink {o idx : Nat} {x : Int64} (h : p_f2 p_lt o idx = some x) : Cond.constantLong (p_own o) idx x ∈ p_GW := by
  have hm := p_f2_in h
  rw [p_lt_eq] at hm
  obtain ⟨r, hr, e⟩ := List.mem_map.mp hm
  have w := p_gi (p_ltR_w0 r hr) rfl
  cases e
  exact w
theorem p_itlink {o idx : Nat} {x : Int32} (h : p_f2 p_it o idx = some x) : Cond.constant (p_own o) idx x ∈ p_GW := by
  have hm := p_f2_in h
  rw [p_it_eq] at hm
  obtain ⟨r, hr, e⟩ := List.mem_map.mp hm
  have w := p_gi (p_itR_w0 r hr) rfl
  cases e
  exact w
theorem p_stlink {o idx i : Nat} (h : p_f2 p_st o idx = some i) : i < 28 ∧ Cond.fieldLink (p_own o) idx RX9 (p_nm.getD i "") "LBetweenThem$Word;" ∈ p_GW := by
  have hm := p_f2_in h
  rw [p_st_eq] at hm
  obtain ⟨r, hr, e⟩ := List.mem_map.mp hm
  have q := List.all_eq_true.mp p_stR_ok r hr
  simp only [decide_eq_true_eq] at q
  have w := p_gi (p_stR_w0 r hr) rfl
  cases e
  exact ⟨q, w⟩
theorem p_olink {o idx x : Nat} (h : p_f2 p_mo o idx = some x) : Cond.methodLink (p_own o) idx objectInit ∈ p_GW ∧ Cond.instanceMethod objectInit ∈ p_GW ∧ Cond.code objectInit ⟨#[0xb1]⟩ 1 none ∈ p_GW := by
  have hm := p_f2_in h
  rw [p_mo_eq] at hm
  obtain ⟨r, hr, e⟩ := List.mem_map.mp hm
  have w1 := p_gi (p_moR_w0 r hr) rfl
  have w2 := p_gi (p_moR_w1 r hr) rfl
  have w3 := p_gi (p_moR_w2 r hr) rfl
  cases e
  exact ⟨w1, w2, w3⟩
theorem p_vlink {o idx k : Nat} (h : p_f2 p_mv o idx = some k) : p_okK k = true ∧ Cond.methodLink (p_own o) idx (p_mY k) ∈ p_GW ∧ Cond.instanceMethod (p_mY k) ∈ p_GW ∧ Cond.selects (p_mY k).cls (p_mY k) (p_mY k) ∈ p_GW := by
  have hm := p_f2_in h
  have hok := List.all_eq_true.mp p_mv_k _ hm
  rw [p_mv_eq] at hm
  obtain ⟨r, hr, e⟩ := List.mem_map.mp hm
  have w1 := p_gi (p_mvR_w0 r hr) rfl
  have w2 := p_gi (p_mvR_w1 r hr) rfl
  have w3 := p_gi (p_mvR_w2 r hr) rfl
  cases e
  exact ⟨hok, w1, w2, w3⟩
theorem p_slink {o idx k : Nat} (h : p_f2 p_ms o idx = some k) : (o = 13 ∨ p_okK k = true) ∧ Cond.methodLink (p_own o) idx (p_mY k) ∈ p_GW ∧ Cond.static (p_mY k) ∈ p_GW := by
  have hm := p_f2_in h
  have hok := List.all_eq_true.mp p_ms_k _ hm
  simp only [Bool.or_eq_true, decide_eq_true_eq] at hok
  rw [p_ms_eq] at hm
  obtain ⟨r, hr, e⟩ := List.mem_map.mp hm
  have w1 := p_gi (p_msR_w0 r hr) rfl
  have w2 := p_gi (p_msR_w1 r hr) rfl
  cases e
  exact ⟨hok, w1, w2⟩
theorem p_ilink {o idx k : Nat} (h : p_f2 p_mi o idx = some k) : p_okK k = true ∧ Cond.methodLink (p_own o) idx (p_mY k) ∈ p_GW ∧ Cond.instanceMethod (p_mY k) ∈ p_GW ∧ (p_mY k).name = "<init>" := by
  have hm := p_f2_in h
  have hok := List.all_eq_true.mp p_mi_k _ hm
  rw [p_mi_eq] at hm
  obtain ⟨r, hr, e⟩ := List.mem_map.mp hm
  have w3 := List.all_eq_true.mp p_miR_ok r hr
  simp only [decide_eq_true_eq] at w3
  have w1 := p_gi (p_miR_w0 r hr) rfl
  have w2 := p_gi (p_miR_w1 r hr) rfl
  cases e
  exact ⟨hok, w1, w2, w3⟩
theorem p_nlink {o idx k : Nat} (h : p_f2 p_mn o idx = some k) : p_okK k = true ∧ Cond.methodLinkNest (p_own o) idx (p_mY k) RX11 ∈ lw_tbl ∧ Cond.instanceMethod (p_mY k) ∈ p_GW ∧ (p_mY k).name = "<init>" := by
  have hm := p_f2_in h
  have hok := List.all_eq_true.mp p_mn_k _ hm
  rw [p_mn_eq] at hm
  obtain ⟨r, hr, e⟩ := List.mem_map.mp hm
  have w3 := List.all_eq_true.mp p_mnR_ok r hr
  simp only [decide_eq_true_eq] at w3
  have w1 := p_mnR_w0 r hr
  have w2 := p_gi (p_mnR_w1 r hr) rfl
  cases e
  exact ⟨hok, w1, w2, w3⟩
section Rules
variable {G : pG} {al : Bool} {d j mc ms : Nat} {Kr : pK} {pc : Nat} {lv : List (Nat × Value)} {st : List Value} {N : Nat} {M : pM} {ce sl : Nat}
theorem p_sI (cA : ClassId) (n k : Nat) (f : Nat → Int32) (x y : Int32) (e : Value.int y = .int x) : (vp_cell cA (n, .inl f)).setSlot k (.int y) = vp_cell cA (n, .inl (upd f k x)) := by
  rw [e, vp_cell_i, vp_cell_i, arrV_store]
  congr 1
  funext q
  by_cases hq : q = k
  · subst hq; simp [updV, upd]
  · simp [updV, upd, hq]
theorem p_sL (cA : ClassId) (n k : Nat) (f : Nat → Int64) (x : Int64) : (vp_cell cA (n, .inr (.inl f))).setSlot k (.long x) = vp_cell cA (n, .inr (.inl (vp_updL f k x))) := by
  rw [vp_cell_l, vp_cell_l, arrV_store]
  congr 1
  funext q
  by_cases hq : q = k
  · subst hq; simp [updV, vp_updL]
  · simp [updV, vp_updL, hq]
theorem p_sRf (cA : ClassId) (n k : Nat) (f : Nat → Option Nat) (x : Option Nat) : (vp_cell cA (n, .inr (.inr (.inr (.inr f))))).setSlot k (va_rf x) = vp_cell cA (n, .inr (.inr (.inr (.inr (va_up f k x))))) := by
  rw [vp_cell_q, vp_cell_q, arrV_store]
  congr 1
  funext q
  by_cases hq : q = k
  · subst hq; simp [updV, va_up]
  · simp [updV, va_up, hq]
theorem p_up_map (G : pG) (f : Nat → Option Nat) (k : Nat) (x : Option Nat) : (fun i => (va_up f k x i).map (p_r G)) = va_up (fun i => (f i).map (p_r G)) k (x.map (p_r G)) := by
  funext q
  by_cases hq : q = k
  · subst hq; simp [va_up]
  · simp [va_up, hq]
theorem PW.iast {a n : Nat} {f : Nat → Int32} {i x : Int32} (h : p_tb j pc = some (.iastore, 1)) (ha : a < N) (hM : M a = .inl (1, n, .inl f)) (hin : vp_in i n) (kk : PW G al d j mc ms Kr (pc + 1) lv st N (va_up M a (.inl (1, n, .inl (upd f i.toNatClampNeg x)))) ce sl) : PW G al d j mc ms Kr pc lv (.int x :: .int i :: .ref a :: st) N M ce sl := by
  intro p l e R s m args below meth c H locs ls Q hC hret hR hS hl
  show W p l e R s m args below meth c H locs ce sl Q (F0 m pc ls (.int x :: .int i :: .ref (p_r G a) :: st.map (p_v G)))
  rw [p_r_lt hR ha]
  refine W.iast hC.1 hC.2.1 (p_cell hR ha hM rfl : H[G.1 + a]? = some (vp_cell (G.2.2.1 1) (n, .inl f))) (((p_hK hC).2 1 _ (p_tys_at G (by decide))).1 n (fun q => .int (f q))) (fun q => by cases q) (by show ¬ (i < 0 ∨ (arrV _ _ _).slots.size ≤ _); rw [arrV_size]; exact hin) rfl rfl (p_tb_ok h) fun H1 e1 z1 o1 => ?_
  exact kk p l e R s m args below meth c H1 _ ls Q hC hret (p_set hR (by show H1[G.1 + a]? = some (vp_cell (G.2.2.1 1) (n, .inl _)); rw [e1]; exact congrArg some (p_sI _ _ _ _ x x rfl)) z1 o1) (hS.put z1 o1 (Nat.le_add_right _ _)) hl
theorem PW.bast {a n : Nat} {f : Nat → Int32} {i x : Int32} (h : p_tb j pc = some (.bastore, 1)) (ha : a < N) (hM : M a = .inl (0, n, .inl f)) (hin : vp_in i n) (kk : PW G al d j mc ms Kr (pc + 1) lv st N (va_up M a (.inl (0, n, .inl (upd f i.toNatClampNeg (vp_nar .byte x))))) ce sl) : PW G al d j mc ms Kr pc lv (.int x :: .int i :: .ref a :: st) N M ce sl := by
  intro p l e R s m args below meth c H locs ls Q hC hret hR hS hl
  show W p l e R s m args below meth c H locs ce sl Q (F0 m pc ls (.int x :: .int i :: .ref (p_r G a) :: st.map (p_v G)))
  rw [p_r_lt hR ha]
  refine W.bast hC.1 hC.2.1 (p_cell hR ha hM rfl : H[G.1 + a]? = some (vp_cell (G.2.2.1 0) (n, .inl f))) (((p_hK hC).2 0 _ (p_tys_at G (by decide))).1 n (fun q => .int (f q))) (fun q => by cases q) (by show ¬ (i < 0 ∨ (arrV _ _ _).slots.size ≤ _); rw [arrV_size]; exact hin) rfl rfl (p_tb_ok h) fun H1 e1 z1 o1 => ?_
  exact kk p l e R s m args below meth c H1 _ ls Q hC hret (p_set hR (by show H1[G.1 + a]? = some (vp_cell (G.2.2.1 0) (n, .inl _)); rw [e1]; exact congrArg some (p_sI _ _ _ _ (vp_nar .byte x) (vp_nar .byte x) rfl)) z1 o1) (hS.put z1 o1 (Nat.le_add_right _ _)) hl
theorem PW.zast {a n : Nat} {f : Nat → Int32} {i x : Int32} (h : p_tb j pc = some (.bastore, 1)) (ha : a < N) (hM : M a = .inl (3, n, .inl f)) (hin : vp_in i n) (kk : PW G al d j mc ms Kr (pc + 1) lv st N (va_up M a (.inl (3, n, .inl (upd f i.toNatClampNeg (vp_nar .boolean x))))) ce sl) : PW G al d j mc ms Kr pc lv (.int x :: .int i :: .ref a :: st) N M ce sl := by
  intro p l e R s m args below meth c H locs ls Q hC hret hR hS hl
  show W p l e R s m args below meth c H locs ce sl Q (F0 m pc ls (.int x :: .int i :: .ref (p_r G a) :: st.map (p_v G)))
  rw [p_r_lt hR ha]
  refine W.zast hC.1 hC.2.1 (p_cell hR ha hM rfl : H[G.1 + a]? = some (vp_cell (G.2.2.1 3) (n, .inl f))) (((p_hK hC).2 3 _ (p_tys_at G (by decide))).1 n (fun q => .int (f q))) (fun q => by cases q) (by show ¬ (i < 0 ∨ (arrV _ _ _).slots.size ≤ _); rw [arrV_size]; exact hin) rfl rfl (p_tb_ok h) fun H1 e1 z1 o1 => ?_
  exact kk p l e R s m args below meth c H1 _ ls Q hC hret (p_set hR (by show H1[G.1 + a]? = some (vp_cell (G.2.2.1 3) (n, .inl _)); rw [e1]; exact congrArg some (p_sI _ _ _ _ (vp_nar .boolean x) (vp_nar .boolean x) rfl)) z1 o1) (hS.put z1 o1 (Nat.le_add_right _ _)) hl
theorem PW.last {a n : Nat} {f : Nat → Int64} {i : Int32} {x : Int64} (h : p_tb j pc = some (.lastore, 1)) (ha : a < N) (hM : M a = .inl (2, n, .inr (.inl f))) (hin : vp_in i n) (kk : PW G al d j mc ms Kr (pc + 1) lv st N (va_up M a (.inl (2, n, .inr (.inl (vp_updL f i.toNatClampNeg x))))) ce sl) : PW G al d j mc ms Kr pc lv (.long x :: .int i :: .ref a :: st) N M ce sl := by
  intro p l e R s m args below meth c H locs ls Q hC hret hR hS hl
  show W p l e R s m args below meth c H locs ce sl Q (F0 m pc ls (.long x :: .int i :: .ref (p_r G a) :: st.map (p_v G)))
  rw [p_r_lt hR ha]
  refine W.last hC.1 hC.2.1 (p_cell hR ha hM rfl : H[G.1 + a]? = some (vp_cell (G.2.2.1 2) (n, .inr (.inl f)))) (((p_hK hC).2 2 _ (p_tys_at G (by decide))).1 n (fun q => .long (f q))) (fun q => by cases q) (by show ¬ (i < 0 ∨ (arrV _ _ _).slots.size ≤ _); rw [arrV_size]; exact hin) rfl rfl (p_tb_ok h) fun H1 e1 z1 o1 => ?_
  exact kk p l e R s m args below meth c H1 _ ls Q hC hret (p_set hR (by show H1[G.1 + a]? = some (vp_cell (G.2.2.1 2) (n, .inr (.inl _))); rw [e1]; exact congrArg some (p_sL _ _ _ _ x)) z1 o1) (hS.put z1 o1 (Nat.le_add_right _ _)) hl
/-- an object of a class of ours into a row of that class -/
theorem PW.aast {a n t v ci : Nat} {f : Nat → Option Nat} {fs : List Value} {i : Int32} (h : p_tb j pc = some (.aastore, 1)) (ha : a < N) (hM : M a = .inl (t, n, .inr (.inr (.inr (.inr f))))) (ht4 : 4 ≤ t) (ht9 : t < 9) (hv : v < N) (hMv : M v = .inr (ci, fs)) (hci : ci < 12) (hcl : (p_cl ci).1 = p_tn t) (hin : vp_in i n) (kk : PW G al d j mc ms Kr (pc + 1) lv st N (va_up M a (.inl (t, n, .inr (.inr (.inr (.inr (va_up f i.toNatClampNeg (some v)))))))) ce sl) : PW G al d j mc ms Kr pc lv (.ref v :: .int i :: .ref a :: st) N M ce sl := by
  intro p l e R s m args below meth c H locs ls Q hC hret hR hS hl
  show W p l e R s m args below meth c H locs ce sl Q (F0 m pc ls (.ref (p_r G v) :: .int i :: .ref (p_r G a) :: st.map (p_v G)))
  have hrv := p_r_lt hR hv
  rw [p_r_lt hR ha, hrv]
  have hlt : i.toNatClampNeg < n := Nat.not_le.mp fun q => hin (Or.inr q)
  have h0 : ¬ i < 0 := fun q => hin (Or.inl q)
  obtain ⟨r', hr', cellV, g1, g2, g3, -⟩ := (p_cell hR hv hMv (p_kn_lt hci) : va_at G.2.2.2.1 vwCl (G.1 + v, .inr (ci, fs.map (p_v G))) H)
  have hcls := ((p_hK hC).1 ci _ (p_cl_q hci)).2
  have h9 := ((p_hK hC).2 t _ (p_tys_at G ht9)).2
  rw [p_ty_obj ht4 ht9] at h9
  obtain ⟨kA, comp, k1, k2, k3, -⟩ := h9
  have hcomp : comp = G.2.2.2.1.1 ci := by
    rw [hcl] at hcls
    exact Option.some.inj (k3.symm.trans hcls.1)
  subst hcomp
  obtain ⟨kC, hkC, -⟩ := hcls.2
  refine W.aast hC.1 hC.2.1 (p_cell hR ha hM rfl : H[G.1 + a]? = some (vp_cell (G.2.2.1 t) (n, .inr (.inr (.inr (.inr (fun i => (f i).map (p_r G)))))))) (fun q h => by cases h) (fun h => by cases h) k1 k2 rfl hkC ⟨h0, by show _ < (arrV _ _ _).slots.size; rw [arrV_size]; exact hlt⟩ g1 (fun q h => by rw [g3] at h; cases h) (by rw [g2]; exact hkC) (by rw [g2]; exact va_assign hcls) rfl rfl (p_tb_ok h) fun H1 e1 z1 o1 => ?_
  refine kk p l e R s m args below meth c H1 _ ls Q hC hret (p_set hR (by
    show H1[G.1 + a]? = some (vp_cell (G.2.2.1 t) (n, .inr (.inr (.inr (.inr (fun q => (va_up f i.toNatClampNeg (some v) q).map (p_r G)))))))
    rw [e1, p_up_map, ← p_sRf]
    show some (Cell.setSlot _ _ (Value.ref (G.1 + v))) = some (Cell.setSlot _ _ (Value.ref (p_r G v)))
    rw [hrv]
    rfl) z1 o1) (hS.put z1 o1 (Nat.le_add_right _ _)) hl
theorem PW.ldc2 {idx : Nat} {x : Int64} (h : p_tb j pc = some (.ldc2_w idx, 3)) (hf : p_f2 p_lt (p_mK j) idx = some x) (kk : PW G al d j mc ms Kr (pc + 3) lv (.long x :: st) N M ce sl) : PW G al d j mc ms Kr pc lv st N M ce sl := by
  intro p l e R s m args below meth c H locs ls Q hC hret hR hS hl
  exact lv_ldc2 hC.1 hC.2.1 hC.2.2.2.1 (p_hts hC _ (p_ltlink hf)) (p_tb_ok h) (kk p l e R s m args below meth c H locs ls Q hC hret hR hS hl)
theorem PW.ldcw {idx : Nat} {x : Int32} (h : p_tb j pc = some (.ldc_w idx, 3)) (hf : p_f2 p_it (p_mK j) idx = some x) (kk : PW G al d j mc ms Kr (pc + 3) lv (.int x :: st) N M ce sl) : PW G al d j mc ms Kr pc lv st N M ce sl := by
  intro p l e R s m args below meth c H locs ls Q hC hret hR hS hl
  exact lv_ldcw hC.1 hC.2.1 hC.2.2.2.1 (p_hts hC _ (p_itlink hf)) (p_tb_ok h) (kk p l e R s m args below meth c H locs ls Q hC hret hR hS hl)
theorem PW.ldc {idx : Nat} {x : Int32} (h : p_tb j pc = some (.ldc idx, 2)) (hf : p_f2 p_it (p_mK j) idx = some x) (kk : PW G al d j mc ms Kr (pc + 2) lv (.int x :: st) N M ce sl) : PW G al d j mc ms Kr pc lv st N M ce sl := by
  intro p l e R s m args below meth c H locs ls Q hC hret hR hS hl
  exact lv_ldc hC.1 hC.2.1 hC.2.2.2.1 (p_hts hC _ (p_itlink hf)) (p_tb_ok h) (kk p l e R s m args below meth c H locs ls Q hC hret hR hS hl)
/-- a constant of Word -/
theorem PW.gets {idx i : Nat} (h : p_tb j pc = some (.getstatic idx, 3)) (hf : p_f2 p_st (p_mK j) idx = some i) (kk : PW G al d j mc ms Kr (pc + 3) lv (.ref (65536 + i) :: st) N M ce sl) : PW G al d j mc ms Kr pc lv st N M ce sl := by
  intro p l e R s m args below meth c H locs ls Q hC hret hR hS hl
  have q := p_stlink hf
  have kq := kk p l e R s m args below meth c H locs ls Q hC hret hR hS hl
  rw [List.map_cons, show p_v G (.ref (65536 + i)) = .ref (G.2.1 i) from by show Value.ref (p_r G (65536 + i)) = _; unfold p_r; rw [if_neg (by omega), Nat.add_sub_cancel_left]] at kq
  exact va_gets hC.1 hC.2.1 (hC.2.2.2.2.2.2.1.2.2.1 i q.1) hS hC.2.2.2.1 (p_hts hC _ q.2) (fun _ h9 => h9) (p_tb_ok h) kq
/-- the script -/
theorem PW.sld {i : Int32} (h : p_tb j pc = some (.iaload, 1)) (hin : vp_in i G.2.2.2.2.1) (kk : PW G al d j mc ms Kr (pc + 1) lv (.int (G.2.2.2.2.2 i.toNatClampNeg) :: st) N M ce sl) : PW G al d j mc ms Kr pc lv (.int i :: .ref 65564 :: st) N M ce sl := by
  intro p l e R s m args below meth c H locs ls Q hC hret hR hS hl
  have hX := hC.2.2.2.2.2.2.1.2.2.2.1
  exact va_sld hC.1 hC.2.1 hX.2.2 (Nat.lt_of_lt_of_le hX.2.1 hX.1) (Nat.not_le.mpr hX.2.1) hS hin (p_tb_ok h) (kk p l e R s m args below meth c H locs ls Q hC hret hR hS hl)
theorem PW.slen (h : p_tb j pc = some (.arraylength, 1)) (kk : PW G al d j mc ms Kr (pc + 1) lv (.int (Int32.ofNat G.2.2.2.2.1) :: st) N M ce sl) : PW G al d j mc ms Kr pc lv (.ref 65564 :: st) N M ce sl := by
  intro p l e R s m args below meth c H locs ls Q hC hret hR hS hl
  have hX := hC.2.2.2.2.2.2.1.2.2.2.1
  exact va_slen hC.1 hC.2.1 hX.2.2 (Nat.lt_of_lt_of_le hX.2.1 hX.1) (Nat.not_le.mpr hX.2.1) hS (p_tb_ok h) (kk p l e R s m args below meth c H locs ls Q hC hret hR hS hl)
theorem PW.iret {x : Int32} (h : p_tb j pc = some (.ireturn, 1)) (hr : p_mR j = some .int) (hc : ce ≤ mc) (hs : sl ≤ ms) (k : Kr.1 (some (.int x)) N M) : PW G al d j mc ms Kr pc lv [.int x] N M ce sl := by
  intro p l e R s m args below meth c H locs ls Q hC hret hR hS hl
  exact W.widen hc hs (hret.1 _ _ _ _ _ _ _ _ k (Or.inl ⟨rfl, hr, x, rfl⟩) (p_tb_ok h) hR hS)
theorem PW.zret {x : Int32} (h : p_tb j pc = some (.ireturn, 1)) (hr : p_mR j = some .boolean) (hx : narrow .boolean (.int x) = .int x) (hc : ce ≤ mc) (hs : sl ≤ ms) (k : Kr.1 (some (.int x)) N M) : PW G al d j mc ms Kr pc lv [.int x] N M ce sl := by
  intro p l e R s m args below meth c H locs ls Q hC hret hR hS hl
  exact W.widen hc hs (hret.1 _ _ _ _ _ _ _ _ k (Or.inr (Or.inl ⟨rfl, hr, x, rfl, hx⟩)) (p_tb_ok h) hR hS)
theorem PW.vret (h : p_tb j pc = some (.return_, 1)) (hr : p_mR j = none) (hc : ce ≤ mc) (hs : sl ≤ ms) (k : Kr.1 none N M) : PW G al d j mc ms Kr pc lv [] N M ce sl := by
  intro p l e R s m args below meth c H locs ls Q hC hret hR hS hl
  exact W.widen hc hs (hret.1 _ _ _ _ _ _ _ _ k (Or.inr (Or.inr (Or.inl ⟨rfl, hr, rfl⟩))) (p_tb_ok h) hR hS)
theorem PW.lret {x : Int64} (h : p_tb j pc = some (.lreturn, 1)) (hr : p_mR j = some .long) (hc : ce ≤ mc) (hs : sl ≤ ms) (k : Kr.1 (some (.long x)) N M) : PW G al d j mc ms Kr pc lv [.long x] N M ce sl := by
  intro p l e R s m args below meth c H locs ls Q hC hret hR hS hl
  exact W.widen hc hs (hret.1 _ _ _ _ _ _ _ _ k (Or.inr (Or.inr (Or.inr (Or.inl ⟨rfl, hr, x, rfl⟩)))) (p_tb_ok h) hR hS)
theorem PW.aret {a : Nat} {n : String} (h : p_tb j pc = some (.areturn, 1)) (hr : p_mR j = some (.object n)) (hc : ce ≤ mc) (hs : sl ≤ ms) (k : Kr.1 (some (.ref a)) N M) : PW G al d j mc ms Kr pc lv [.ref a] N M ce sl := by
  intro p l e R s m args below meth c H locs ls Q hC hret hR hS hl
  exact W.widen hc hs (hret.1 _ _ _ _ _ _ _ _ k (Or.inr (Or.inr (Or.inr (Or.inr ⟨rfl, ⟨n, hr⟩, a, rfl⟩)))) (p_tb_ok h) hR hS)
theorem PW.objInit {idx a : Nat} (h : p_tb j pc = some (.invokespecial idx, 3)) (hf : p_f2 p_mo (p_mK j) idx = some 0) (hd : 1 ≤ d) (hsum : (st.map fun v => v.category).sum ≤ 8) (kk : PW G al d j mc ms Kr (pc + 3) lv st N M ce sl) : PW G al d j mc ms Kr pc lv (.ref a :: st) N M ce sl := by
  intro p l e R s m args below meth c H locs ls Q hC hret hR hS hl
  have q := p_olink hf
  have hcat : ((st.map (p_v G)).map fun v => v.category).sum = (st.map fun v => v.category).sum := by
    rw [List.map_map]
    congr 1
    exact List.map_congr_left (fun v _ => p_v_cat G v)
  have h8 := hC.2.2.2.2.2.2.2.1
  have h9 := hC.2.2.2.2.2.2.2.2.1
  exact W.objInit hC.1 hC.2.1 hC.2.2.2.1 (p_hts hC _ q.1) (p_hts hC _ q.2.1) (p_hts hC _ q.2.2) rfl (by rw [hC.2.2.1]; exact hl.1) rfl (p_tb_ok h) (by omega) (by show 2 * 0 + _ + 12 ≤ _; rw [hcat]; omega) (kk p l e R s m args below meth c H locs ls Q hC hret hR hS hl)
end Rules
/-! ===== calls ===== -/
def p_mcT : List (Nat × Nat × Nat) := [(0, 3, 46), (46, 17, 204), (19, 10, 36), (32, 4, 160), (97, 34, 430), (11, 145, 1688), (65, 2, 80), (72, 1, 940), (99, 293, 4466), (173, 15, 4108)]
def p_f1 : List (Nat × Nat × Nat) → Nat → Nat × Nat
  | [], _ => (0, 0)
  | (a, x, y) :: t, k => if a = k then (x, y) else p_f1 t k
abbrev p_mc (k : Nat) : Nat := (p_f1 p_mcT k).1
abbrev p_msl (k : Nat) : Nat := (p_f1 p_mcT k).2
def p_WS (k : Nat) : List Cond := .code (p_mY k) (p_mC k) (p_mL k) (p_mR k) :: p_GW
abbrev p_rm (d k : Nat) : Room := { frames := d, cells := p_mc k, slots := p_msl k, locals := 80 * d }
theorem p_mI_ok : (p_mts.all fun l => l.all fun q => !q.2.2.2.2.2.1 || decide (q.1.name = "<init>")) = true := by decide +kernel
theorem p_mI_in (k : Nat) (h : p_mI k = true) : (p_mY k).name = "<init>" := by
  have key : (!(p_m k).2.2.2.2.2.1 || decide ((p_m k).1.name = "<init>")) = true := by
    unfold p_m
    by_cases h1 : k / 48 < p_mts.length
    · have hm : p_mts.getD (k / 48) [] ∈ p_mts := by rw [List.getD_eq_getElem?_getD, List.getElem?_eq_getElem h1]; exact List.getElem_mem h1
      generalize p_mts.getD (k / 48) [] = l at hm ⊢
      by_cases h2 : k % 48 < l.length
      · have hm2 : l.getD (k % 48) p_m0 ∈ l := by rw [List.getD_eq_getElem?_getD, List.getElem?_eq_getElem h2]; exact List.getElem_mem h2
        exact List.all_eq_true.mp (List.all_eq_true.mp p_mI_ok l hm) _ hm2
      · rw [List.getD_eq_getElem?_getD, List.getElem?_eq_none (by omega)]; rfl
    · rw [List.getD_eq_getElem?_getD (l := p_mts), List.getElem?_eq_none (by omega)]; rfl
  have h' : (p_m k).2.2.2.2.2.1 = true := h
  rw [h'] at key
  simpa using key
theorem p_lgs (G : pG) : ∀ as : List Value, (lg_sl (as.map (p_v G))).length = (lg_sl as).length
  | [] => rfl
  | v :: t => by
    have ih := p_lgs G t
    unfold lg_sl at ih ⊢
    rw [List.map_cons, List.flatMap_cons, List.flatMap_cons, List.length_append, List.length_append, ih, p_v_cat]
    by_cases h : v.category = 2
    · rw [if_pos h, if_pos h]; rfl
    · rw [if_neg h, if_neg h]; rfl
theorem p_lva (G : pG) : ∀ (i : Nat) (as : List Value), lv_args i (as.map (p_v G)) = p_l G (lv_args i as)
  | _, [] => rfl
  | i, v :: t => by
    show (i, p_v G v) :: lv_args (if (p_v G v).category = 2 then i + 2 else i + 1) (t.map (p_v G)) = (i, p_v G v) :: p_l G (lv_args (if v.category = 2 then i + 2 else i + 1) t)
    rw [p_v_cat, p_lva G _ t]
def p_Pc (G : pG) (al : Bool) (as : List Value) (N : Nat) (M : pM) : Array Value → State → Prop := fun v U => v = (as.map (p_v G)).toArray ∧ p_G G U ∧ p_R G al N M U.heap
def p_Qc (G : pG) (al : Bool) (Kr : Option Value → Nat → pM → Prop) : Array Value → State → Outcome → State → Prop := fun _ s0 o t => (∃ (v : Option Value) (N' : Nat) (M' : pM), o = .returned (v.map (p_v G)) ∧ Kr v N' M' ∧ p_R G al N' M' t.heap) ∧ va_F (p_A G) s0 t
theorem PW.met {G : pG} {al : Bool} {d k N : Nat} {M : pM} {as : List Value} {Kr : Option Value → Nat → pM → Prop} (hk : p_okK k = true) (hsz : (lg_sl as).length ≤ p_mL k) (h : PW G al d k (p_mc k) (p_msl k) (Kr, p_nx) 0 (lv_args 0 as) [] N M 0 0) (l : Launch) : Met l (p_mY k) (p_WS k) (p_rm d k) (p_Pc G al as N M) (p_Qc G al Kr) (p_mc k) (p_msl k) (p_A G) := by
  obtain ⟨-, -, -, -, -, hO, hpl⟩ := p_okK_spec hk
  refine Met.ofW (cc := p_mC k) (maxL := p_mL k) (ret := p_mR k) hpl rfl ?_
  intro p e s m args below meth c s₁ B hml hv
  obtain ⟨rfl, hG, hR⟩ := hv
  have hts := atoms_spec (ws := p_WS k) B.pre
  have hl := lv_entry (as.map (p_v G)) (n := p_mL k) (by rw [p_lgs]; exact hsz)
  rw [p_lva] at hl
  rw [lg_entry_eq]
  refine h p l e (p_rm d k) s m _ below meth c s.heap [] _ _ ⟨B.exec, B.bytes, hml, ?_, fun w hw hg => hts w (List.mem_cons_of_mem _ (List.mem_filter.mpr ⟨hw, hg⟩)), fun hi => ?_, hG, Nat.le_refl _, Nat.le_refl _, Nat.le_refl _, Nat.le_refl _⟩ ⟨?_, fun _ _ _ _ _ _ _ _ _ _ hf => hf.elim⟩ hR va_S.rf hl
  · rw [hO]
    exact findClass_of_methodNamed B.named
  · have := (name_of_methodNamed B.named B.method).1
    rw [this]
    exact p_mI_in k hi
  · intro v N' M' H' locs' ls' pc' i hK hrt hd hR' hS'
    have hq : ∀ t : State, t.heap = H' → s.WarmedH t.vm → p_Qc G al Kr (as.map (p_v G)).toArray s (.returned (v.map (p_v G))) t := fun t ht hW => ⟨⟨v, N', M', rfl, hK, by rw [ht]; exact hR'⟩, hS'.F ht⟩
    rcases hrt with ⟨rfl, hr, x, rfl⟩ | ⟨rfl, hr, x, rfl, hx⟩ | ⟨rfl, hr, rfl⟩ | ⟨rfl, hr, x, rfl⟩ | ⟨rfl, ⟨n, hr⟩, x, rfl⟩
    · exact W.iret B.exec B.bytes (by rw [B.returns, hr]) hq hS'.2.2 hd B.notSynchronized
    · exact W.zret B.exec B.bytes (by rw [B.returns, hr]) hx hq hS'.2.2 hd B.notSynchronized
    · exact W.vret B.exec B.bytes (by rw [B.returns, hr]) hq hS'.2.2 hd B.notSynchronized
    · exact W.lret B.exec B.bytes (by rw [B.returns, hr]) hq hS'.2.2 hd B.notSynchronized
    · exact W.aret B.exec B.bytes (by rw [B.returns, hr]) (Or.inl ⟨n, rfl⟩) (Or.inr ⟨_, rfl⟩) hq hS'.2.2 hd B.notSynchronized
theorem p_onT {w : Cond} (h : p_nest w = true) : w.onTables = true := by cases w <;> first | (simp [p_nest] at h; done) | rfl
theorem p_G.warm {G : pG} {s U : State} {locs : List Loc} (hW : s.WarmedH U.vm) (hS : va_S (p_A G) s.heap U.heap locs) (h : p_G G s) : p_G G U := by
  refine ⟨fun w hw hn => ?_, va_K.moved hW.alike h.2.1, fun i hi => ?_, ⟨Nat.le_trans h.2.2.2.1.1 hS.1, h.2.2.2.1.2.1, (va_X.moved hW.alike h.2.2.2.1.2.2).kept (hS.2.1 _ (Nat.lt_of_lt_of_le h.2.2.2.1.2.1 h.2.2.2.1.1) (Nat.not_le.mpr h.2.2.2.1.2.1))⟩, fun t h1 h2 => va_AO.moved hW.alike (h.2.2.2.2.1 t h1 h2), (va_Z.moved hW.alike h.2.2.2.2.2.1).kept (fun a h1 h2 => hS.2.1 a h1 h2), (va_T.moved hW.alike h.2.2.2.2.2.2.1).kept (fun a h1 h2 => hS.2.1 a h1 h2), fun i hi => (va_O.moved hW.alike (h.2.2.2.2.2.2.2.1 i hi)).kept (fun a h1 h2 => hS.2.1 a h1 h2), (va_Ef.moved hW.alike h.2.2.2.2.2.2.2.2).kept (fun a h1 h2 => hS.2.1 a h1 h2)⟩
  · have q := h.1 w hw hn
    cases w <;> first | (simp [p_nest] at hn; done) | exact va_Nw.warmF hW q | exact va_Nw.warmM hW q
  · exact (va_Z.moved hW.alike (h.2.2.1 i hi)).kept (fun a h1 h2 => hS.2.1 a h1 h2)
theorem p_G.calling {G : pG} {U : State} {g : JFrame} {mk : MethodId} {a : Array Value} (h : p_G G U) : p_G G (U.calling g mk a) :=
  ⟨fun w hw hn => va_Nw.same (p_onT hn) (rfl : U.vm = (U.calling g mk a).vm) (h.1 w hw hn), va_K.moved (u := U) (U := U.calling g mk a) (Vm.Alike.refl U.vm) h.2.1, fun i hi => va_Z.moved (u := U) (U := U.calling g mk a) (Vm.Alike.refl U.vm) (h.2.2.1 i hi), ⟨h.2.2.2.1.1, h.2.2.2.1.2.1, va_X.moved (u := U) (U := U.calling g mk a) (Vm.Alike.refl U.vm) h.2.2.2.1.2.2⟩, fun t h1 h2 => va_AO.moved (u := U) (U := U.calling g mk a) (Vm.Alike.refl U.vm) (h.2.2.2.2.1 t h1 h2), va_Z.moved (u := U) (U := U.calling g mk a) (Vm.Alike.refl U.vm) h.2.2.2.2.2.1, va_T.moved (u := U) (U := U.calling g mk a) (Vm.Alike.refl U.vm) h.2.2.2.2.2.2.1, fun i hi => va_O.moved (u := U) (U := U.calling g mk a) (Vm.Alike.refl U.vm) (h.2.2.2.2.2.2.2.1 i hi), va_Ef.moved (u := U) (U := U.calling g mk a) (Vm.Alike.refl U.vm) h.2.2.2.2.2.2.2.2⟩
theorem p_blind (G : pG) (al : Bool) (as : List Value) (N : Nat) (M : pM) : FrameBlind (p_Pc G al as N M) := fun a U g mk q => ⟨q.1, q.2.1.calling, q.2.2⟩
theorem p_good {k : Nat} (h : p_okK k = true) : GoodIn p_GW (p_WS k) := by
  intro w hw
  have hm : w ∈ p_GW := by
    rcases List.mem_cons.mp hw with rfl | h9
    · exact (p_okK_spec h).2.1
    · exact h9
  exact ⟨hm, good_of_word (List.mem_filter.mp hm).2⟩
theorem p_cat_map (G : pG) (st : List Value) : ((st.map (p_v G)).map fun v => v.category).sum = (st.map fun v => v.category).sum := by
  rw [List.map_map]
  congr 1
  exact List.map_congr_left (fun v _ => p_v_cat G v)
section Calls
variable {G : pG} {al : Bool} {d j mc ms : Nat} {Kr : pK} {pc : Nat} {lv : List (Nat × Value)} {N : Nat} {M : pM} {ce sl : Nat}
theorem p_back {p : Program} {l : Launch} {e : Env} {R : Room} {s : State} {m : MethodId} {args : Array Value} {below : List Frame} {meth : Method} {c : Code} {H : Heap} {locs : List Loc} {ls : Array Slot} {Q : State → Prop} {mcK msK : Nat} {rest st0 : List Value} {a : Array Value} {K : Option Value → Nat → pM → Prop} (hC : p_C G (d + 1) j mc ms p R s m args meth c)
    (hret : p_K G al j mc ms Kr p l e R s m args below meth c Q)
    (hS : va_S (p_A G) s.heap H locs) (hl : lv_has ls (p_mL j) (p_l G lv)) (hKK : ∀ v N' M', K v N' M' → PW G al (d + 1) j mc ms Kr (pc + 3) lv (v.toList ++ rest) N' M' (ce + mcK) (sl + msK))
    (hr : va_Run p l e R s m args below meth c H locs ce sl mcK msK (F0 m pc ls st0) (rest.map (p_v G)) (p_Qc G al K a) (p_A G)) : W p l e R s m args below meth c H locs ce sl Q (F0 m pc ls st0) := by
  intro T hT X
  obtain ⟨v, st₀, t, T', L, h0, X', hL, e1, e2, ⟨⟨v', N', M', hv, hK, hR'⟩, hz, hk⟩, st⟩ := hr T hT X
  have hv' : v = v'.map (p_v G) := Outcome.returned.inj hv
  subst hv'
  rw [h0] at hz hk
  have hS' : va_S (p_A G) s.heap T'.heap (locs ++ L) := ⟨Nat.le_trans hS.1 (by rw [e1]; exact hz), fun q h1 h2 => by rw [e1, hk q (Nat.lt_of_lt_of_le h1 hS.1) h2]; exact hS.2.1 q h1 h2, fun q hq => by
    rcases List.mem_append.mp hq with h | h
    · exact hS.2.2 q h
    · exact hL q h⟩
  obtain ⟨t2, a1, b1⟩ := hKK v' N' M' hK p l e R s m args below meth c T'.heap (locs ++ L) ls Q hC hret (by rw [e1]; exact hR') hS' hl T' rfl X'
  refine ⟨t2, st t2 ?_, b1⟩
  rw [List.map_append] at a1
  cases v' <;> exact a1
theorem PW.callV {idx k a ci : Nat} {as rest : List Value} {fs : List Value} (h : p_tb j pc = some (.invokevirtual idx, 3)) (hk : p_f2 p_mv (p_mK j) idx = some k) (ha : a < N) (hM : M a = .inr (ci, fs)) (hci : ci < 12) (hcl : (p_cl ci).1 = (p_mY k).cls) (hn : as.length = p_mN k) (hsum : (rest.map fun v => v.category).sum ≤ 8) (hsz : (lg_sl (.ref a :: as)).length ≤ p_mL k) (hce : ce + p_mc k ≤ mc) (hsl : sl + p_msl k ≤ ms)
    (h2 : PW G al d k (p_mc k) (p_msl k) (fun v N' M' => PW G al (d + 1) j mc ms Kr (pc + 3) lv (v.toList ++ rest) N' M' (ce + p_mc k) (sl + p_msl k), p_nx) 0 (lv_args 0 (.ref a :: as)) [] N M 0 0) : PW G al (d + 1) j mc ms Kr pc lv (as.reverse ++ .ref a :: rest) N M ce sl := by
  intro p l e R s m args below meth c H locs ls Q hC hret hR hS hl
  obtain ⟨hok, w1, w2, w3⟩ := p_vlink hk
  obtain ⟨o1, o2, o3, o4, o5, o6, o7⟩ := p_okK_spec hok
  have h8 := hC.2.2.2.2.2.2.2.1
  have h9 := hC.2.2.2.2.2.2.2.2.1
  rw [List.map_append, List.map_reverse, List.map_cons]
  refine p_back hC hret hS hl (fun v N' M' hK => hK) (va_runV (As := as.map (p_v G)) (rest := rest.map (p_v G)) (b := p_r G a) (C := (p_mY k).cls) (index := idx) (bytes := p_mC k) (maxL := p_mL k) (ret := p_mR k) (n := p_mN k) ⟨hC.1, hC.2.1, hC.2.2.1, hC.2.2.2.1, p_hts hC⟩ (h2.met hok hsz l) ⟨callB_of (ws' := p_GW) (p_mN k) (p_hts hC) (p_good hok) rfl rfl rfl (p_hts hC _ o3) (p_hts hC _ w1) ⟨o1.1, o1.2, o4⟩ ⟨by show d + 1 ≤ _; omega, by show 8 + (p_mL k + 11) + 80 * d ≤ _; omega⟩, p_hts hC _ w2, p_hts hC _ w3⟩ ⟨p_blind _ _ _ _ _, ?_, fun U hU hW => ⟨rfl, hC.2.2.2.2.2.2.1.warm hW (by rw [hU]; exact hS), by rw [hU]; exact hR⟩⟩ rfl (by rw [List.length_map]; exact hn) hl.1 rfl (by show 2 * 0 + _ ≤ 8; rw [p_cat_map]; omega) (p_tb_ok h) ⟨Nat.le_trans hce hC.2.2.2.2.2.2.2.2.2.1, Nat.le_trans hsl hC.2.2.2.2.2.2.2.2.2.2⟩)
  rw [p_r_lt hR ha, ← hcl]
  exact va_recv (p_hK hC) (p_one hR ha hM (p_kn_lt hci)) (p_cl_q hci) (q0 := 0) rfl
theorem PW.callS {idx k : Nat} {as rest : List Value} (h : p_tb j pc = some (.invokestatic idx, 3)) (hk : p_f2 p_ms (p_mK j) idx = some k) (hj : ¬ p_mK j = 13) (hn : as.length = p_mN k) (hsum : (rest.map fun v => v.category).sum ≤ 8) (hsz : (lg_sl as).length ≤ p_mL k) (hce : ce + p_mc k ≤ mc) (hsl : sl + p_msl k ≤ ms)
    (h2 : PW G al d k (p_mc k) (p_msl k) (fun v N' M' => PW G al (d + 1) j mc ms Kr (pc + 3) lv (v.toList ++ rest) N' M' (ce + p_mc k) (sl + p_msl k), p_nx) 0 (lv_args 0 as) [] N M 0 0) : PW G al (d + 1) j mc ms Kr pc lv (as.reverse ++ rest) N M ce sl := by
  intro p l e R s m args below meth c H locs ls Q hC hret hR hS hl
  obtain ⟨hok, w1, w2⟩ := p_slink hk
  have hok := hok.resolve_left hj
  obtain ⟨o1, o2, o3, o4, o5, o6, o7⟩ := p_okK_spec hok
  have h8 := hC.2.2.2.2.2.2.2.1
  have h9 := hC.2.2.2.2.2.2.2.2.1
  rw [List.map_append, List.map_reverse]
  exact p_back hC hret hS hl (fun v N' M' hK => hK) (va_runS (As := as.map (p_v G)) (rest := rest.map (p_v G)) (index := idx) (bytes := p_mC k) (maxL := p_mL k) (ret := p_mR k) (n := p_mN k) ⟨hC.1, hC.2.1, hC.2.2.1, hC.2.2.2.1, p_hts hC⟩ (h2.met hok hsz l) ⟨callB_of (ws' := p_GW) (p_mN k) (p_hts hC) (p_good hok) rfl rfl rfl (p_hts hC _ o3) (p_hts hC _ w1) ⟨o1.1, o1.2, o4⟩ ⟨by show d + 1 ≤ _; omega, by show 8 + (p_mL k + 11) + 80 * d ≤ _; omega⟩, p_hts hC _ w2⟩ ⟨p_blind _ _ _ _ _, fun U hU hW => ⟨rfl, hC.2.2.2.2.2.2.1.warm hW (by rw [hU]; exact hS), by rw [hU]; exact hR⟩⟩ rfl (by rw [List.length_map]; exact hn) hl.1 rfl (by show 2 * 0 + _ ≤ 8; rw [p_cat_map]; omega) (p_tb_ok h) ⟨Nat.le_trans hce hC.2.2.2.2.2.2.2.2.2.1, Nat.le_trans hsl hC.2.2.2.2.2.2.2.2.2.2⟩)
theorem PW.callI {idx k a : Nat} {as rest : List Value} (h : p_tb j pc = some (.invokespecial idx, 3)) (hk : p_f2 p_mi (p_mK j) idx = some k) (hrn : p_mR k = none) (hn : as.length = p_mN k) (hsum : (rest.map fun v => v.category).sum ≤ 8) (hsz : (lg_sl (.ref a :: as)).length ≤ p_mL k) (hce : ce + p_mc k ≤ mc) (hsl : sl + p_msl k ≤ ms)
    (h2 : PW G al d k (p_mc k) (p_msl k) (fun v N' M' => PW G al (d + 1) j mc ms Kr (pc + 3) lv (v.toList ++ rest) N' M' (ce + p_mc k) (sl + p_msl k), p_nx) 0 (lv_args 0 (.ref a :: as)) [] N M 0 0) : PW G al (d + 1) j mc ms Kr pc lv (as.reverse ++ .ref a :: rest) N M ce sl := by
  intro p l e R s m args below meth c H locs ls Q hC hret hR hS hl
  obtain ⟨hok, w1, w2, w3⟩ := p_ilink hk
  obtain ⟨o1, o2, o3, o4, o5, o6, o7⟩ := p_okK_spec hok
  have h8 := hC.2.2.2.2.2.2.2.1
  have h9 := hC.2.2.2.2.2.2.2.2.1
  rw [List.map_append, List.map_reverse, List.map_cons]
  exact p_back hC hret hS hl (fun v N' M' hK => hK) (va_runI (As := as.map (p_v G)) (rest := rest.map (p_v G)) (b := p_r G a) (index := idx) (bytes := p_mC k) (maxL := p_mL k) (n := p_mN k) ⟨hC.1, hC.2.1, hC.2.2.1, hC.2.2.2.1, p_hts hC⟩ (h2.met hok hsz l) ⟨callB_of (ws' := p_GW) (p_mN k) (p_hts hC) (p_good hok) (by unfold p_WS; rw [hrn]) rfl rfl (p_hts hC _ o3) (p_hts hC _ w1) ⟨o1.1, o1.2, o4⟩ ⟨by show d + 1 ≤ _; omega, by show 8 + (p_mL k + 11) + 80 * d ≤ _; omega⟩, w3, p_hts hC _ w2⟩ ⟨p_blind _ _ _ _ _, fun U hU hW => ⟨rfl, hC.2.2.2.2.2.2.1.warm hW (by rw [hU]; exact hS), by rw [hU]; exact hR⟩⟩ rfl (by rw [List.length_map]; exact hn) hl.1 rfl (by show 2 * 0 + _ ≤ 8; rw [p_cat_map]; omega) (p_tb_ok h) ⟨Nat.le_trans hce hC.2.2.2.2.2.2.2.2.2.1, Nat.le_trans hsl hC.2.2.2.2.2.2.2.2.2.2⟩)
/-- a nest mate's private constructor -/
theorem PW.callN {idx k a : Nat} {as rest : List Value} (h : p_tb j pc = some (.invokespecial idx, 3)) (hk : p_f2 p_mn (p_mK j) idx = some k) (hrn : p_mR k = none) (hn : as.length = p_mN k) (hsum : (rest.map fun v => v.category).sum ≤ 8) (hsz : (lg_sl (.ref a :: as)).length ≤ p_mL k) (hce : ce + p_mc k ≤ mc) (hsl : sl + p_msl k ≤ ms)
    (h2 : PW G al d k (p_mc k) (p_msl k) (fun v N' M' => PW G al (d + 1) j mc ms Kr (pc + 3) lv (v.toList ++ rest) N' M' (ce + p_mc k) (sl + p_msl k), p_nx) 0 (lv_args 0 (.ref a :: as)) [] N M 0 0) : PW G al (d + 1) j mc ms Kr pc lv (as.reverse ++ .ref a :: rest) N M ce sl := by
  intro p l e R s m args below meth c H locs ls Q hC hret hR hS hl
  obtain ⟨hok, w1, w2, w3⟩ := p_nlink hk
  obtain ⟨o1, o2, o3, o4, o5, o6, o7⟩ := p_okK_spec hok
  have h8 := hC.2.2.2.2.2.2.2.1
  have h9 := hC.2.2.2.2.2.2.2.2.1
  rw [List.map_append, List.map_reverse, List.map_cons]
  exact p_back hC hret hS hl (fun v N' M' hK => hK) (va_runIN (As := as.map (p_v G)) (rest := rest.map (p_v G)) (b := p_r G a) (host := RX11) (index := idx) (bytes := p_mC k) (maxL := p_mL k) (n := p_mN k) ⟨hC.1, hC.2.1, hC.2.2.1, hC.2.2.2.1, p_hts hC⟩ (h2.met hok hsz l) ⟨va_cnB (ws' := p_GW) (p_mN k) (p_hts hC) (p_good hok) (by unfold p_WS; rw [hrn]) rfl rfl (hC.2.2.2.2.2.2.1.1 _ w1 rfl) (p_hts hC _ o3) ⟨o1.1, o1.2, o4⟩ ⟨by show d + 1 ≤ _; omega, by show 8 + (p_mL k + 11) + 80 * d ≤ _; omega⟩, w3, p_hts hC _ w2⟩ ⟨p_blind _ _ _ _ _, fun U hU hW => ⟨rfl, hC.2.2.2.2.2.2.1.warm hW (by rw [hU]; exact hS), by rw [hU]; exact hR⟩⟩ rfl (by rw [List.length_map]; exact hn) hl.1 rfl (by show 2 * 0 + _ ≤ 8; rw [p_cat_map]; omega) (p_tb_ok h) ⟨Nat.le_trans hce hC.2.2.2.2.2.2.2.2.2.1, Nat.le_trans hsl hC.2.2.2.2.2.2.2.2.2.2⟩)
end Calls
