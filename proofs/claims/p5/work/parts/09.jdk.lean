/-! ===== Math.min, max, abs, System.arraycopy of rows of ints ===== -/
abbrev p_jws : List Cond := [.static Lib.Math.min.name, .static Lib.Math.max.name, .static Lib.Math.abs.name, .initialized "java/lang/Math", .static arraycopyName, .native arraycopyName, .initialized "java/lang/System"]
set_option maxRecDepth 100000 in
theorem p_jw : [604, 950, 857, 120, 926, 927, 125].map (fun k => lw_tbl[k]?) = p_jws.map some := rfl
set_option maxRecDepth 100000 in
theorem p_jc1 : Cond.code Lib.Math.min.name Lib.Math.min.code 2 (some .int) ∈ p_GW := List.mem_filter.mpr ⟨List.mem_of_getElem? (i := 605) rfl, rfl⟩
set_option maxRecDepth 100000 in
theorem p_jc2 : Cond.code Lib.Math.max.name Lib.Math.max.code 2 (some .int) ∈ p_GW := List.mem_filter.mpr ⟨List.mem_of_getElem? (i := 951) rfl, rfl⟩
set_option maxRecDepth 100000 in
theorem p_jc3 : Cond.code Lib.Math.abs.name Lib.Math.abs.code 1 (some .int) ∈ p_GW := List.mem_filter.mpr ⟨List.mem_of_getElem? (i := 858) rfl, rfl⟩
def p_jn : Nat → MethodName
  | 1 => Lib.Math.min.name
  | 2 => Lib.Math.max.name
  | 3 => Lib.Math.abs.name
  | _ => arraycopyName
set_option maxRecDepth 100000 in
theorem p_mj_ok : [1101, 1195, 925, 973, 928, 856, 603, 949, 952, 953].map (fun k => lw_tbl[k]?) = p_mj.map (fun r => some (Cond.methodLink (p_own r.1) r.2.1 (p_jn r.2.2))) := rfl
section Rules
variable {G : pG} {al : Bool} {d j mc ms : Nat} {Kr : pK} {pc : Nat} {lv : List (Nat × Value)} {st : List Value} {N : Nat} {M : pM} {ce sl : Nat}
theorem p_jl {o idx w : Nat} (h : p_f2 p_mj o idx = some w) : Cond.methodLink (p_own o) idx (p_jn w) ∈ p_GW := by
  have hm : some (Cond.methodLink (p_own o) idx (p_jn w)) ∈ p_mj.map (fun r => some (Cond.methodLink (p_own r.1) r.2.1 (p_jn r.2.2))) := List.mem_map.mpr ⟨_, p_f2_in h, rfl⟩
  rw [← p_mj_ok] at hm
  obtain ⟨k, -, e⟩ := List.mem_map.mp hm
  exact p_gi (List.mem_of_getElem? e) rfl
theorem p_jx {w : Cond} (h : w ∈ p_jws) : w ∈ p_GW := by
  have hm : some w ∈ p_jws.map some := List.mem_map.mpr ⟨_, h, rfl⟩
  rw [← p_jw] at hm
  obtain ⟨k, -, e⟩ := List.mem_map.mp hm
  refine p_gi (List.mem_of_getElem? e) ?_
  simp only [p_jws, List.mem_cons, List.not_mem_nil, or_false] at h
  rcases h with rfl | rfl | rfl | rfl | rfl | rfl | rfl <;> rfl
theorem PW.mmin {idx : Nat} {x y : Int32} (h : p_tb j pc = some (.invokestatic idx, 3)) (hf : p_f2 p_mj (p_mK j) idx = some 1) (hd : 1 ≤ d) (hsum : (st.map fun v => v.category).sum ≤ 8) (hc : ce ≤ mc) (hs : sl ≤ ms) (kk : PW G al d j mc ms Kr (pc + 3) lv (.int (if y < x then y else x) :: st) N M ce sl) : PW G al d j mc ms Kr pc lv (.int y :: .int x :: st) N M ce sl := by
  intro p l e R s m args below meth c H locs ls Q hC hret hR hS hl
  have h8 := hC.2.2.2.2.2.2.2.1
  have h9 := hC.2.2.2.2.2.2.2.2.1
  have ha := hC.2.2.2.2.2.2.2.2.2.1
  have hb := hC.2.2.2.2.2.2.2.2.2.2
  exact va_mmin hC.1 hC.2.1 (by rw [hC.2.2.1]; exact hl.1.symm) hC.2.2.2.1 (p_hts hC _ (p_jl hf)) (p_hts hC _ (p_jx (by simp))) (p_hts hC _ (p_jx (by simp))) (p_hts hC _ p_jc1) (by omega) (by rw [p_cat_map]; omega) (by omega) (by omega) (p_tb_ok h) (kk p l e R s m args below meth c H locs ls Q hC hret hR hS hl)
theorem PW.mmax {idx : Nat} {x y : Int32} (h : p_tb j pc = some (.invokestatic idx, 3)) (hf : p_f2 p_mj (p_mK j) idx = some 2) (hd : 1 ≤ d) (hsum : (st.map fun v => v.category).sum ≤ 8) (hc : ce ≤ mc) (hs : sl ≤ ms) (kk : PW G al d j mc ms Kr (pc + 3) lv (.int (if x < y then y else x) :: st) N M ce sl) : PW G al d j mc ms Kr pc lv (.int y :: .int x :: st) N M ce sl := by
  intro p l e R s m args below meth c H locs ls Q hC hret hR hS hl
  have h8 := hC.2.2.2.2.2.2.2.1
  have h9 := hC.2.2.2.2.2.2.2.2.1
  have ha := hC.2.2.2.2.2.2.2.2.2.1
  have hb := hC.2.2.2.2.2.2.2.2.2.2
  exact va_mmax hC.1 hC.2.1 (by rw [hC.2.2.1]; exact hl.1.symm) hC.2.2.2.1 (p_hts hC _ (p_jl hf)) (p_hts hC _ (p_jx (by simp))) (p_hts hC _ (p_jx (by simp))) (p_hts hC _ p_jc2) (by omega) (by rw [p_cat_map]; omega) (by omega) (by omega) (p_tb_ok h) (kk p l e R s m args below meth c H locs ls Q hC hret hR hS hl)
theorem PW.mabs {idx : Nat} {x : Int32} (h : p_tb j pc = some (.invokestatic idx, 3)) (hf : p_f2 p_mj (p_mK j) idx = some 3) (hd : 1 ≤ d) (hsum : (st.map fun v => v.category).sum ≤ 8) (hc : ce ≤ mc) (hs : sl ≤ ms) (kk : PW G al d j mc ms Kr (pc + 3) lv (.int (if 0 ≤ x then x else 0 - x) :: st) N M ce sl) : PW G al d j mc ms Kr pc lv (.int x :: st) N M ce sl := by
  intro p l e R s m args below meth c H locs ls Q hC hret hR hS hl
  have h8 := hC.2.2.2.2.2.2.2.1
  have h9 := hC.2.2.2.2.2.2.2.2.1
  have ha := hC.2.2.2.2.2.2.2.2.2.1
  have hb := hC.2.2.2.2.2.2.2.2.2.2
  exact va_mabs hC.1 hC.2.1 (by rw [hC.2.2.1]; exact hl.1.symm) hC.2.2.2.1 (p_hts hC _ (p_jl hf)) (p_hts hC _ (p_jx (by simp))) (p_hts hC _ (p_jx (by simp))) (p_hts hC _ p_jc3) (by omega) (by rw [p_cat_map]; omega) (by omega) (by omega) (p_tb_ok h) (kk p l e R s m args below meth c H locs ls Q hC hret hR hS hl)
theorem PW.copyi {idx a b n0 n1 : Nat} {f g : Nat → Int32} {sp dp n : Int32} (h : p_tb j pc = some (.invokestatic idx, 3)) (hf : p_f2 p_mj (p_mK j) idx = some 4) (ha : a < N) (hb : b < N) (hMa : M a = .inl (1, n0, .inl f)) (hMb : M b = .inl (1, n1, .inl g)) (h1 : ¬ sp < 0) (h2 : ¬ dp < 0) (h3 : ¬ n < 0) (h4 : sp.toNatClampNeg + n.toNatClampNeg ≤ n0) (h5 : dp.toNatClampNeg + n.toNatClampNeg ≤ n1) (hd : 2 ≤ d) (hsum : (st.map fun v => v.category).sum ≤ 8)
    (kk : PW G false d j mc ms Kr (pc + 3) lv st N (va_up M b (.inl (1, n1, .inl (va_cpy f g sp.toNatClampNeg dp.toNatClampNeg n.toNatClampNeg)))) ce sl) : PW G false d j mc ms Kr pc lv (.int n :: .int dp :: .ref b :: .int sp :: .ref a :: st) N M ce sl := by
  intro p l e R s m args below meth c H locs ls Q hC hret hR hS hl
  show W p l e R s m args below meth c H locs ce sl Q (F0 m pc ls (.int n :: .int dp :: .ref (p_r G b) :: .int sp :: .ref (p_r G a) :: st.map (p_v G)))
  rw [p_r_lt hR ha, p_r_lt hR hb]
  have h8 := hC.2.2.2.2.2.2.2.1
  have h9 := hC.2.2.2.2.2.2.2.2.1
  -- the cells that are known, in the order of their numbers
  let ks : List Nat := (List.range N).filter (fun k => p_kn (M k))
  have hks : ∀ {i k : Nat}, ks[i]? = some k → k < N ∧ p_kn (M k) = true := fun {i k} q => by
    have := List.mem_filter.mp (List.mem_of_getElem? q)
    exact ⟨List.mem_range.mp this.1, this.2⟩
  have hnd : ks.Pairwise (fun x y => x ≠ y) := List.Pairwise.filter _ List.nodup_range
  let ws : va_W := ks.map (fun k => (G.1 + k, p_e G (M k)))
  have hat : ∀ {i : Nat} {q : Nat × va_E}, ws[i]? = some q → ∃ k, ks[i]? = some k ∧ q = (G.1 + k, p_e G (M k)) := fun {i q} hq => by
    rw [List.getElem?_map] at hq
    cases hk : ks[i]? with
    | none => rw [hk] at hq; cases hq
    | some k => rw [hk] at hq; exact ⟨k, rfl, (Option.some.inj hq).symm⟩
  have hP : va_P G.2.2.2.1 vwCl ws H := fun i q hq => by
    obtain ⟨k, hk, rfl⟩ := hat hq
    exact hR.1 k (hks hk).1 (hks hk).2
  have hD : va_D (p_A G) ws := ⟨fun i i2 x y hx hy hxy => by
    obtain ⟨k, hk, rfl⟩ := hat hx
    obtain ⟨k2, hk2, rfl⟩ := hat hy
    have e : k = k2 := by have : G.1 + k = G.1 + k2 := hxy; omega
    subst e
    obtain ⟨l1, e1⟩ := List.getElem?_eq_some_iff.mp hk
    obtain ⟨l2, e2⟩ := List.getElem?_eq_some_iff.mp hk2
    rcases Nat.lt_trichotomy i i2 with q | q | q
    · exact absurd (e1.trans e2.symm) (List.pairwise_iff_getElem.mp hnd i i2 l1 l2 q)
    · exact q
    · exact absurd (e2.trans e1.symm) (List.pairwise_iff_getElem.mp hnd i2 i l2 l1 q), fun i q hq => by
    obtain ⟨k, -, rfl⟩ := hat hq
    exact Nat.le_add_right _ _⟩
  obtain ⟨ia, hia⟩ := List.mem_iff_getElem?.mp (List.mem_filter.mpr ⟨List.mem_range.mpr ha, by rw [hMa]; rfl⟩ : a ∈ ks)
  obtain ⟨ib, hib⟩ := List.mem_iff_getElem?.mp (List.mem_filter.mpr ⟨List.mem_range.mpr hb, by rw [hMb]; rfl⟩ : b ∈ ks)
  have wa : ws[ia]? = some (G.1 + a, .inl (G.2.2.1 1, n0, .inl f)) := by rw [List.getElem?_map, hia]; show some (G.1 + a, p_e G (M a)) = _; rw [hMa]; rfl
  have wb : ws[ib]? = some (G.1 + b, .inl (G.2.2.1 1, n1, .inl g)) := by rw [List.getElem?_map, hib]; show some (G.1 + b, p_e G (M b)) = _; rw [hMb]; rfl
  refine va_copyi (ws := ws) (ty := .int) (f := f) (g := g) (n0 := n0) (n1 := n1) hC.1 hC.2.1 (by rw [hC.2.2.1]; exact hl.1.symm) hC.2.2.2.1 (p_hts hC _ (p_jl hf)) (p_hts hC _ (p_jx (by simp))) (p_hts hC _ (p_jx (by simp))) (p_hts hC _ (p_jx (by simp))) (p_hK hC) hP hD hS ia ib 1 1 wa wb (p_tys_at G (by decide)) (p_tys_at G (by decide)) rfl h1 h2 h3 h4 h5 (fun _ _ => rfl) (by omega) (by rw [p_cat_map]; have : nativeFrameWords "java/lang/System" "arraycopy" 5 ≤ 100 := (by decide +kernel); omega) (p_tb_ok h) fun H1 locs1 hP1 _ hS1 => ?_
  refine kk p l e R s m args below meth c H1 locs1 ls Q hC hret ⟨fun k hk hkn => ?_, fun q => absurd q (by decide), hR.2.2⟩ hS1 hl
  by_cases hkb : k = b
  · subst hkb
    rw [p_up_eq]
    exact hP1 ib _ (by rw [List.getElem?_set_self (List.getElem?_eq_some_iff.mp wb).1]; rfl)
  · rw [va_up_ne _ _ hkb] at hkn ⊢
    obtain ⟨ik, hik⟩ := List.mem_iff_getElem?.mp (List.mem_filter.mpr ⟨List.mem_range.mpr hk, hkn⟩ : k ∈ ks)
    have hne : ib ≠ ik := fun q => by subst q; rw [hib] at hik; exact hkb (Option.some.inj hik).symm
    exact hP1 ik _ (by rw [List.getElem?_set_ne hne, List.getElem?_map, hik]; rfl)
theorem PW.tswO {dflt lo hi : Int} {offs : Array Int} {len : Nat} {x : Int32} {tgt : Nat} (h : p_tb j pc = some (.tableswitch dflt lo hi offs, len)) (ho : x.toInt < lo ∨ hi < x.toInt) (ht : (pc : Int) + dflt = (tgt : Int)) (k : PW G al d j mc ms Kr tgt lv st N M ce sl) : PW G al d j mc ms Kr pc lv (.int x :: st) N M ce sl := by
  intro p l e R s m args below meth c H locs ls Q hC hret hR hS hl
  exact lv_tableOut hC.1 hC.2.1 (p_tb_ok h) ho ht (k p l e R s m args below meth c H locs ls Q hC hret hR hS hl)
theorem PW.tswI {dflt lo hi : Int} {offs : Array Int} {len : Nat} {x : Int32} {off : Int} {tgt : Nat} (h : p_tb j pc = some (.tableswitch dflt lo hi offs, len)) (h1 : ¬ x.toInt < lo) (h2 : ¬ hi < x.toInt) (ho : offs[(x.toInt - lo).toNat]? = some off) (ht : (pc : Int) + off = (tgt : Int)) (k : PW G al d j mc ms Kr tgt lv st N M ce sl) : PW G al d j mc ms Kr pc lv (.int x :: st) N M ce sl := by
  intro p l e R s m args below meth c H locs ls Q hC hret hR hS hl
  exact lv_tableIn hC.1 hC.2.1 (p_tb_ok h) h1 h2 ho ht (k p l e R s m args below meth c H locs ls Q hC hret hR hS hl)
theorem PW.dup2 {v w : Value} (h : p_tb j pc = some (.dup2, 1)) (hv : v.category = 1) (hw : w.category = 1) (k : PW G al d j mc ms Kr (pc + 1) lv (v :: w :: v :: w :: st) N M ce sl) : PW G al d j mc ms Kr pc lv (v :: w :: st) N M ce sl := by
  intro p l e R s m args below meth c H locs ls Q hC hret hR hS hl
  exact lv_dup2_11 hC.1 hC.2.1 (p_tb_ok h) (by rw [p_v_cat]; exact hv) (by rw [p_v_cat]; exact hw) (k p l e R s m args below meth c H locs ls Q hC hret hR hS hl)
theorem PW.aasN {a n t : Nat} {f : Nat → Option Nat} {i : Int32} (h : p_tb j pc = some (.aastore, 1)) (ha : a < N) (hM : M a = .inl (t, n, .inr (.inr (.inr (.inr f))))) (ht4 : 4 ≤ t) (ht9 : t < 9) (hin : vp_in i n) (kk : PW G al d j mc ms Kr (pc + 1) lv st N (va_up M a (.inl (t, n, .inr (.inr (.inr (.inr (va_up f i.toNatClampNeg none))))))) ce sl) : PW G al d j mc ms Kr pc lv (.null :: .int i :: .ref a :: st) N M ce sl := by
  intro p l e R s m args below meth c H locs ls Q hC hret hR hS hl
  show W p l e R s m args below meth c H locs ce sl Q (F0 m pc ls (.null :: .int i :: .ref (p_r G a) :: st.map (p_v G)))
  rw [p_r_lt hR ha]
  refine va_WaastN (C := p_tn t) hC.1 hC.2.1 (p_cell hR ha hM rfl : H[G.1 + a]? = some (vp_cell (G.2.2.1 t) (n, .inr (.inr (.inr (.inr (fun i => (f i).map (p_r G)))))))) (by have q := ((p_hK hC).2 t _ (p_tys_at G ht9)).1 n (fun q => va_rf ((f q).map (p_r G))); rw [p_ty_obj ht4 ht9] at q; exact q) (fun h => by cases h) (by show ¬ (i < 0 ∨ (arrV _ _ _).slots.size ≤ _); rw [arrV_size]; exact hin) rfl rfl (p_tb_ok h) fun H1 e1 z1 o1 => ?_
  refine kk p l e R s m args below meth c H1 _ ls Q hC hret (p_set hR (by
    show H1[G.1 + a]? = some (vp_cell (G.2.2.1 t) (n, .inr (.inr (.inr (.inr (fun q => (va_up f i.toNatClampNeg none q).map (p_r G)))))))
    rw [e1, p_up_map, ← p_sRf]
    rfl) z1 o1) (hS.put z1 o1 (Nat.le_add_right _ _)) hl
end Rules
