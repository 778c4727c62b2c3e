/-! ===== the static row of words, and words as objects ===== -/
theorem p_wr (G : pG) (i : Nat) : p_r G (65536 + i) = G.2.1 i := by unfold p_r; rw [if_neg (by omega), Nat.add_sub_cancel_left]
set_option maxRecDepth 100000 in
theorem p_w1 : [628, 1991].map (fun k => lw_tbl[k]?) = [Cond.fieldLinkNest RX7 92 RX11 "WORDS" "[LBetweenThem$Word;" RX11, .fieldLinkNest RX7 96 RX9 "code" "J" RX11].map some := rfl
theorem p_w2 (w : Cond) (hw : w ∈ [Cond.fieldLinkNest RX7 92 RX11 "WORDS" "[LBetweenThem$Word;" RX11, .fieldLinkNest RX7 96 RX9 "code" "J" RX11]) : w ∈ lw_tbl := by
  have hm : some w ∈ [628, 1991].map (fun k => lw_tbl[k]?) := by rw [p_w1]; exact List.mem_map.mpr ⟨w, hw, rfl⟩
  obtain ⟨k, -, e⟩ := List.mem_map.mp hm
  exact List.mem_of_getElem? e
theorem p_7 {j : Nat} (h : p_mO j = RX7) {s : State} {m : MethodId} (q : s.vm.findClass (p_mO j) = some m.cls) : s.vm.findClass RX7 = some m.cls := by rw [← h]; exact q
section Rules
variable {V : pM → Prop} {G : pG} {al : Bool} {d j mc ms : Nat} {Kr : pK} {pc : Nat} {lv : List (Nat × Value)} {st : List Value} {N : Nat} {M : pM} {ce sl : Nat}
theorem PW.gWS (h : p_tb j pc = some (.getstatic 92, 3)) (hj : p_mO j = RX7) (kk : PW G al d j mc ms Kr (pc + 3) lv (.ref 65565 :: st) N M ce sl) : PW G al d j mc ms Kr pc lv st N M ce sl := by
  intro p l e R s m args below meth c H locs ls Q hC hret hR hS hl
  have kq := kk p l e R s m args below meth c H locs ls Q hC hret hR hS hl
  rw [List.map_cons, show p_v G (.ref 65565) = .ref (G.2.1 29) from by show Value.ref (p_r G (65536 + 29)) = _; rw [p_wr]] at kq
  obtain ⟨cf, kf, fi, f, a, cell, z1, z2, z3, z4, z5, z6, z7, z8⟩ := hC.2.2.2.2.2.2.1.2.2.2.2.2.1
  exact va_WgetsN hC.1 hC.2.1 (p_7 hj hC.2.2.2.1) (va_Nw.use rfl (hC.2.2.2.2.2.2.1.1 _ (p_w2 (Cond.fieldLinkNest RX7 92 RX11 "WORDS" "[LBetweenThem$Word;" RX11) List.mem_cons_self) rfl)) z1 z2 z3 z4 (by rw [hS.2.1 a (Array.getElem?_eq_some_iff.mp z5).1 z8]; exact z5) (fun q => by rw [q] at z6; cases z6) z7 rfl (p_tb_ok h) kq
theorem PW.wlen (h : p_tb j pc = some (.arraylength, 1)) (kk : ∀ z : Int32, z.toInt = 28 → PW G al d j mc ms Kr (pc + 1) lv (.int z :: st) N M ce sl) : PW G al d j mc ms Kr pc lv (.ref 65565 :: st) N M ce sl := by
  intro p l e R s m args below meth c H locs ls Q hC hret hR hS hl
  have kq := kk (Int32.ofNat 28) (by decide) p l e R s m args below meth c H locs ls Q hC hret hR hS hl
  rw [List.map_cons, show p_v G (.ref 65565) = .ref (G.2.1 29) from by show Value.ref (p_r G (65536 + 29)) = _; rw [p_wr]]
  exact va_tlen hC.1 hC.2.1 hC.2.2.2.2.2.2.1.2.2.2.2.2.2.1 hS rfl (p_tb_ok h) kq
theorem PW.wald {i : Int32} (h : p_tb j pc = some (.aaload, 1)) (h1 : 0 ≤ i.toInt) (h2 : i.toInt < 28) (kk : ∀ r : Nat, r < 28 → (r : Int) = i.toInt → PW G al d j mc ms Kr (pc + 1) lv (.ref (65536 + r) :: st) N M ce sl) : PW G al d j mc ms Kr pc lv (.int i :: .ref 65565 :: st) N M ce sl := by
  intro p l e R s m args below meth c H locs ls Q hC hret hR hS hl
  have kq := kk i.toInt.toNat (by omega) (by omega) p l e R s m args below meth c H locs ls Q hC hret hR hS hl
  rw [List.map_cons, List.map_cons, show p_v G (.ref 65565) = .ref (G.2.1 29) from by show Value.ref (p_r G (65536 + 29)) = _; rw [p_wr]]
  rw [List.map_cons, show p_v G (.ref (65536 + i.toInt.toNat)) = .ref (G.2.1 i.toInt.toNat) from by show Value.ref (p_r G (65536 + _)) = _; rw [p_wr]] at kq
  exact vb_tq hC.1 hC.2.1 hC.2.2.2.2.2.2.1.2.2.2.2.2.2.1 hS (vp_in_iff.mpr ⟨h1, by omega⟩) rfl (p_tb_ok h) kq
theorem PW.wcode {r : Nat} (h : p_tb j pc = some (.getfield 96, 3)) (hj : p_mO j = RX7) (hr : r < 28) (kk : PW G al d j mc ms Kr (pc + 3) lv (.long (p_wc r) :: st) N M ce sl) : PW G al d j mc ms Kr pc lv (.ref (65536 + r) :: st) N M ce sl := by
  intro p l e R s m args below meth c H locs ls Q hC hret hR hS hl
  have kq := kk p l e R s m args below meth c H locs ls Q hC hret hR hS hl
  rw [List.map_cons, show p_v G (.ref (65536 + r)) = .ref (G.2.1 r) from by show Value.ref (p_r G (65536 + r)) = _; rw [p_wr]]
  obtain ⟨cf, k, i, f, cell, z1, z2, z3, z4, z5, z6⟩ := hC.2.2.2.2.2.2.1.2.2.2.2.2.2.2.2 r hr
  exact va_Wgetf hC.1 hC.2.1 (p_7 hj hC.2.2.2.1) (va_Nw.use rfl (hC.2.2.2.2.2.2.1.1 _ (p_w2 (Cond.fieldLinkNest RX7 96 RX9 "code" "J" RX11) (List.mem_cons_of_mem _ List.mem_cons_self)) rfl)) z1 z2 (by rw [hS.2.1 _ (Array.getElem?_eq_some_iff.mp z3).1 z6]; exact z3) z4 z5 rfl rfl (p_tb_ok h) kq
theorem PW.aastW {a n r : Nat} {f : Nat → Option Nat} {i : Int32} (h : p_tb j pc = some (.aastore, 1)) (ha : a < N) (hM : M a = .inl (8, n, .inr (.inr (.inr (.inr f))))) (hr : r < 28) (hin : vp_in i n) (kk : PW G al d j mc ms Kr (pc + 1) lv st N (va_up M a (.inl (8, n, .inr (.inr (.inr (.inr (va_up f i.toNatClampNeg (some (65536 + r))))))))) ce sl) : PW G al d j mc ms Kr pc lv (.ref (65536 + r) :: .int i :: .ref a :: st) N M ce sl := by
  intro p l e R s m args below meth c H locs ls Q hC hret hR hS hl
  show W p l e R s m args below meth c H locs ce sl Q (F0 m pc ls (.ref (p_r G (65536 + r)) :: .int i :: .ref (p_r G a) :: st.map (p_v G)))
  rw [p_r_lt hR ha, p_wr]
  have hlt : i.toNatClampNeg < n := Nat.not_le.mp fun q => hin (Or.inr q)
  have h0 : ¬ i < 0 := fun q => hin (Or.inl q)
  obtain ⟨cellV, z1, g3, g2, z4⟩ := hC.2.2.2.2.2.2.1.2.2.2.2.2.2.2.1 r hr
  have g1 : H[G.2.1 r]? = some cellV := by rw [hS.2.1 _ (Array.getElem?_eq_some_iff.mp z1).1 z4]; exact z1
  have h9 := ((p_hK hC).2 8 _ (p_tys_at G (by decide))).2
  rw [p_ty_obj (by decide) (by decide)] at h9
  obtain ⟨kA, comp, k1, k2, k3, -⟩ := h9
  obtain ⟨kE, hkE, -⟩ := Vm.findClass_spec k3
  obtain ⟨kC, hkC, -⟩ := Vm.findClass_spec g2
  refine W.aast hC.1 hC.2.1 (p_cell hR ha hM rfl : H[G.1 + a]? = some (vp_cell (G.2.2.1 8) (n, .inr (.inr (.inr (.inr (fun i => (f i).map (p_r G)))))))) (fun q h => by cases h) (fun h => by cases h) k1 k2 rfl hkE ⟨h0, by show _ < (arrV _ _ _).slots.size; rw [arrV_size]; exact hlt⟩ g1 (fun q h => by rw [h] at g3; cases g3) hkC (vb_asgS _ _ k3 g2) rfl rfl (p_tb_ok h) fun H1 e1 z1 o1 => ?_
  refine kk p l e R s m args below meth c H1 _ ls Q hC hret (p_set hR (by
    show H1[G.1 + a]? = some (vp_cell (G.2.2.1 8) (n, .inr (.inr (.inr (.inr (fun q => (va_up f i.toNatClampNeg (some (65536 + r)) q).map (p_r G)))))))
    rw [e1, p_up_map, ← p_sRf]
    show some (Cell.setSlot _ _ (Value.ref (G.2.1 r))) = some (Cell.setSlot _ _ (Value.ref (p_r G (65536 + r))))
    rw [p_wr]
    rfl) z1 o1) (hS.put z1 o1 (Nat.le_add_right _ _)) hl
end Rules
section Rules
variable {V : pM → Prop} {G : pG} {al : Bool} {d j mc ms : Nat} {Kr : pK} {pc : Nat} {lv : List (Nat × Value)} {st : List Value} {N : Nat} {M : pM} {ce sl : Nat}
/-- a row of words: bounds alone -/
theorem PW.wWB {a K n : Nat} {i : Int32} {r : Option Nat} (h : p_tb j pc = some (.aastore, 1)) (hA : g_sh K = (4, 8, n)) (hk : g_kd a = K) (I : InvB M) (hK : K < 60) (h1 : 0 ≤ i.toInt) (h2 : i.toInt < (n : Int)) (hr : r = none ∨ ∃ w, w < 28 ∧ r = some (65536 + w)) (kk : ∀ M1, InvB M1 → (∀ c, c ≠ a → M1 c = M c) → o_r (M1 a) i.toInt.toNat = r → (∀ q, q ≠ i.toInt.toNat → o_r (M1 a) q = o_r (M a) q) → PW G al d j mc ms Kr (pc + 1) lv st 311 M1 ce sl) : PW G al d j mc ms Kr pc lv (va_rf r :: .int i :: .ref a :: st) 311 M ce sl := by
  obtain ⟨ha, e1, e2⟩ := I.warr hk hK hA
  have hI : InvB (va_up M a (.inl (8, n, .inr (.inr (.inr (.inr (va_up (o_r (M a)) i.toNatClampNeg r))))))) := by
    refine I.setW hk hA _ (p_up_eq _ _ _) (fun q hq => ?_) (fun c hc => va_up_ne _ _ hc)
    by_cases e : q = i.toNatClampNeg
    · subst e; rw [p_up_eq]; exact hr
    · rw [va_up_ne _ _ e]; exact e2 q hq
  have hk2 := kk _ hI (fun c hc => va_up_ne _ _ hc) (by rw [p_up_eq]; exact p_up_eq _ _ _) (fun q hq => by rw [p_up_eq]; exact va_up_ne _ _ hq)
  rcases hr with rfl | ⟨w, hw, rfl⟩
  · exact PW.aasN h ha e1 (by decide) (by decide) (vp_in_iff.mpr ⟨by omega, by omega⟩) hk2
  · exact PW.aastW h ha e1 hw (vp_in_iff.mpr ⟨by omega, by omega⟩) hk2
theorem PW.wWo {a K n : Nat} {i : Int32} {r : Option Nat} (h : p_tb j pc = some (.aastore, 1)) (hA : g_sh K = (4, 8, n)) (hk : g_kd a = K) (hV : Stab V) (I : Iv V M) (hK : K < 60 ∧ g_sA K = false) (h1 : 0 ≤ i.toInt) (h2 : i.toInt < (n : Int)) (hr : r = none ∨ ∃ w, w < 28 ∧ r = some (65536 + w)) (kk : ∀ M1, Iv V M1 → (∀ c, c ≠ a → M1 c = M c) → PW G al d j mc ms Kr (pc + 1) lv st 311 M1 ce sl) : PW G al d j mc ms Kr pc lv (va_rf r :: .int i :: .ref a :: st) 311 M ce sl :=
  PW.wWB h hA hk I.1 hK.1 h1 h2 hr fun M1 i1 u _ _ => kk M1 ⟨i1, hV.2.1 _ _ a K I.2 u hk (by rw [hA]; exact Nat.succ_ne_zero _) hK.2⟩ u
theorem PW.wWw {a K n w : Nat} {i : Int32} (h : p_tb j pc = some (.aastore, 1)) (hA : g_sh K = (4, 8, n)) (hk : g_kd a = K) (hV : Stab V) (I : Iv V M) (hK : K < 60 ∧ g_sA K = false) (h1 : 0 ≤ i.toInt) (h2 : i.toInt < (n : Int)) (hw : w < 28) (kk : ∀ M1, Iv V M1 → (∀ c, c ≠ a → M1 c = M c) → PW G al d j mc ms Kr (pc + 1) lv st 311 M1 ce sl) : PW G al d j mc ms Kr pc lv (.ref (65536 + w) :: .int i :: .ref a :: st) 311 M ce sl :=
  PW.wWo (r := some (65536 + w)) h hA hk hV I hK h1 h2 (Or.inr ⟨w, hw, rfl⟩) kk
end Rules
section Rules
variable {G : pG} {al : Bool} {d j mc ms : Nat} {Kr : pK} {pc : Nat} {lv : List (Nat × Value)} {st : List Value} {N : Nat} {M : pM} {ce sl : Nat}
theorem n_cmp0 {x y : Int64} (h : (lg_cmp x y).toInt ≠ 0) : x ≠ y := fun e => h (by subst e; unfold lg_cmp; simp)
theorem n_cmp1 {x y : Int64} (h : 0 < (lg_cmp x y).toInt) : y.toInt < x.toInt := by
  unfold lg_cmp at h
  by_cases h1 : x > y
  · exact Int64.lt_iff_toInt_lt.mp h1
  · rw [if_neg h1] at h
    by_cases h2 : x = y
    · rw [if_pos h2] at h; exact absurd h (by decide)
    · rw [if_neg h2] at h; exact absurd h (by decide)
theorem PW.lcmpN {x y : Int64} (h : p_tb j pc = some (.lcmp, 1)) (k : ∀ z : Int32, (z.toInt ≠ 0 → x ≠ y) → (0 < z.toInt → y.toInt < x.toInt) → PW G al d j mc ms Kr (pc + 1) lv (.int z :: st) N M ce sl) : PW G al d j mc ms Kr pc lv (.long y :: .long x :: st) N M ce sl := PW.lcmp h (k _ n_cmp0 n_cmp1)
end Rules
