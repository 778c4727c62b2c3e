/-! ===== rules of the pure machine that touch memory ===== -/
theorem p_cl_q {ci : Nat} (h : ci < 12) : vwCl[ci]? = some (p_cl ci) := by
  unfold p_cl
  rw [List.getD_eq_getElem?_getD, List.getElem?_eq_getElem (show ci < vwCl.length from h)]
  rfl
theorem p_uin {ks : List Nat} {C : String} {T : u_T} {n : Nat} (h : ks.map (fun k => lw_tbl[k]?) = (u_ws C T n).map some) : ∀ w ∈ u_ws C T n, w ∈ p_GW := by
  intro w hw
  have hm : some w ∈ ks.map (fun k => lw_tbl[k]?) := by rw [h]; exact List.mem_map.mpr ⟨w, hw, rfl⟩
  obtain ⟨k, -, e⟩ := List.mem_map.mp hm
  refine p_gi (List.mem_of_getElem? e) ?_
  obtain ⟨q, -, rfl⟩ := List.mem_map.mp hw
  unfold u_lay
  split <;> rfl
theorem p_in {ci : Nat} (h : ci < 12) : ∀ w ∈ u_ws (p_cl ci).1 (p_cl ci).2.1 (p_cl ci).2.2, w ∈ p_GW := by
  match ci, h with
  | 0, _ => exact p_uin p_u0
  | 1, _ => exact p_uin p_u1
  | 2, _ => exact p_uin p_u2
  | 3, _ => exact p_uin p_u3
  | 4, _ => exact p_uin p_u4
  | 5, _ => exact p_uin p_u5
  | 6, _ => exact p_uin p_u6
  | 7, _ => exact p_uin p_u7
  | 8, _ => exact p_uin p_u8
  | 9, _ => exact p_uin p_u9
  | 10, _ => exact p_uin p_u10
  | 11, _ => exact p_uin p_u11
  | n + 12, h => exact absurd h (by omega)
theorem p_dcin {f g : Nat → String} {n k : Nat} (h : (List.range n).map f = (List.range n).map g) (hk : k < n) : f k = g k := List.map_inj_left.mp h k (List.mem_range.mpr hk)
theorem p_decl {ci k : Nat} (h : ci < 12) (hk : k < (p_cl ci).2.2) : ((p_cl ci).2.1 k).1 = (p_cl ci).1 := by
  match ci, h, hk with
  | 0, _, hk => exact p_dcin (f := fun k => ((p_cl 0).2.1 k).1) (g := fun _ => (p_cl 0).1) p_dc0 hk
  | 1, _, hk => exact p_dcin (f := fun k => ((p_cl 1).2.1 k).1) (g := fun _ => (p_cl 1).1) p_dc1 hk
  | 2, _, hk => exact p_dcin (f := fun k => ((p_cl 2).2.1 k).1) (g := fun _ => (p_cl 2).1) p_dc2 hk
  | 3, _, hk => exact p_dcin (f := fun k => ((p_cl 3).2.1 k).1) (g := fun _ => (p_cl 3).1) p_dc3 hk
  | 4, _, hk => exact p_dcin (f := fun k => ((p_cl 4).2.1 k).1) (g := fun _ => (p_cl 4).1) p_dc4 hk
  | 5, _, hk => exact p_dcin (f := fun k => ((p_cl 5).2.1 k).1) (g := fun _ => (p_cl 5).1) p_dc5 hk
  | 6, _, hk => exact p_dcin (f := fun k => ((p_cl 6).2.1 k).1) (g := fun _ => (p_cl 6).1) p_dc6 hk
  | 7, _, hk => exact p_dcin (f := fun k => ((p_cl 7).2.1 k).1) (g := fun _ => (p_cl 7).1) p_dc7 hk
  | 8, _, hk => exact p_dcin (f := fun k => ((p_cl 8).2.1 k).1) (g := fun _ => (p_cl 8).1) p_dc8 hk
  | 9, _, hk => exact p_dcin (f := fun k => ((p_cl 9).2.1 k).1) (g := fun _ => (p_cl 9).1) p_dc9 hk
  | 10, _, hk => exact p_dcin (f := fun k => ((p_cl 10).2.1 k).1) (g := fun _ => (p_cl 10).1) p_dc10 hk
  | 11, _, hk => exact p_dcin (f := fun k => ((p_cl 11).2.1 k).1) (g := fun _ => (p_cl 11).1) p_dc11 hk
  | n + 12, h, _ => exact absurd h (by omega)
def p_tyf (ci : Nat) : Nat → FieldType := match ci with
  | 0 => tyX0
  | 1 => tyX1
  | 2 => tyX2
  | 3 => tyX3
  | 4 => tyX4
  | 5 => tyX5
  | 6 => tyX6
  | 7 => tyX7
  | 8 => tyX8
  | 9 => tyX10
  | 10 => tyX11
  | _ => tyX12
theorem p_tyf_ok {ci : Nat} (h : ci < 12) : ∀ k, k < (p_cl ci).2.2 → parseFieldDescriptor ((p_cl ci).2.1 k).2.2.1 = some (p_tyf ci k) := by
  match ci, h with
  | 0, _ => exact tyX0_ok
  | 1, _ => exact tyX1_ok
  | 2, _ => exact tyX2_ok
  | 3, _ => exact tyX3_ok
  | 4, _ => exact tyX4_ok
  | 5, _ => exact tyX5_ok
  | 6, _ => exact tyX6_ok
  | 7, _ => exact tyX7_ok
  | 8, _ => exact tyX8_ok
  | 9, _ => exact tyX10_ok
  | 10, _ => exact tyX11_ok
  | 11, _ => exact tyX12_ok
  | n + 12, h => exact absurd h (by omega)
theorem p_nmf {ci : Nat} (h : ci < 12) : ∀ a, a < (p_cl ci).2.2 → ∀ b, b < (p_cl ci).2.2 → a ≠ b → ((p_cl ci).2.1 a).2.1 ≠ ((p_cl ci).2.1 b).2.1 := by
  match ci, h with
  | 0, _ => exact nmX0
  | 1, _ => exact nmX1
  | 2, _ => exact nmX2
  | 3, _ => exact nmX3
  | 4, _ => exact nmX4
  | 5, _ => exact nmX5
  | 6, _ => exact nmX6
  | 7, _ => exact nmX7
  | 8, _ => exact nmX8
  | 9, _ => exact nmX10
  | 10, _ => exact nmX11
  | 11, _ => exact nmX12
  | n + 12, h => exact absurd h (by omega)
theorem p_flink {o idx ci k : Nat} (h : p_f2 p_ft o idx = some (ci, k)) : ci < 12 ∧ k < (p_cl ci).2.2 ∧ Cond.fieldLink (p_own o) idx (p_cl ci).1 ((p_cl ci).2.1 k).2.1 ((p_cl ci).2.1 k).2.2.1 ∈ p_GW := by
  have hm := p_f2_in h
  rw [p_ft_eq] at hm
  obtain ⟨r, hr, e⟩ := List.mem_map.mp hm
  have q := List.all_eq_true.mp p_ftR_ok r hr
  simp only [Bool.and_eq_true, decide_eq_true_eq] at q
  have w := p_ftR_w0 r hr
  cases e
  exact ⟨q.1, q.2, p_gi w rfl⟩
theorem p_flinkN {o idx ci k : Nat} (h : p_f2 p_fN o idx = some (ci, k)) : ci < 12 ∧ k < (p_cl ci).2.2 ∧ Cond.fieldLinkNest (p_own o) idx (p_cl ci).1 ((p_cl ci).2.1 k).2.1 ((p_cl ci).2.1 k).2.2.1 RX11 ∈ lw_tbl := by
  have hm := p_f2_in h
  rw [p_fN_eq] at hm
  obtain ⟨r, hr, e⟩ := List.mem_map.mp hm
  have q := List.all_eq_true.mp p_fNR_ok r hr
  simp only [Bool.and_eq_true, decide_eq_true_eq] at q
  have w := p_fNR_w0 r hr
  cases e
  exact ⟨q.1, q.2, w⟩
theorem p_clink {o idx ci : Nat} (h : p_f2 p_ct o idx = some ci) : ci < 12 ∧ Cond.classLink (p_own o) idx (p_cl ci).1 ∈ p_GW ∧ Cond.instantiable (p_cl ci).1 (p_cl ci).2.2 ∈ p_GW ∧ Cond.initialized (p_cl ci).1 ∈ p_GW := by
  have hm := p_f2_in h
  rw [p_ct_eq] at hm
  obtain ⟨r, hr, e⟩ := List.mem_map.mp hm
  have q := List.all_eq_true.mp p_ctR_ok r hr
  simp only [decide_eq_true_eq] at q
  have w1 := p_gi (p_ctR_w0 r hr) rfl
  have w2 := p_gi (p_ctR_w1 r hr) rfl
  have w3 := p_gi (p_ctR_w2 r hr) rfl
  cases e
  exact ⟨q, w1, w2, w3⟩
theorem p_alink {o idx t : Nat} (h : p_f2 p_at o idx = some t) : 4 ≤ t ∧ t < 9 ∧ Cond.classLink (p_own o) idx (p_tn t) ∈ p_GW := by
  have hm := p_f2_in h
  rw [p_at_eq] at hm
  obtain ⟨r, hr, e⟩ := List.mem_map.mp hm
  have q := List.all_eq_true.mp p_atR_ok r hr
  simp only [Bool.and_eq_true, decide_eq_true_eq] at q
  have w1 := p_gi (p_atR_w0 r hr) rfl
  cases e
  exact ⟨q.1, q.2, w1⟩
theorem p_up_eq {α : Type} (f : Nat → α) (k : Nat) (v : α) : va_up f k v k = v := by simp [va_up]
theorem p_set {G : pG} {al : Bool} {N a : Nat} {M : pM} {H H1 : Heap} {x : va_E} (hR : p_R G al N M H) (hat : va_at G.2.2.2.1 vwCl (G.1 + a, p_e G x) H1) (hz : H1.size = H.size) (ho : ∀ q : Nat, q ≠ G.1 + a → H1[q]? = H[q]?) : p_R G al N (va_up M a x) H1 := by
  refine ⟨fun k hk hkn => ?_, fun h => by rw [hz]; exact hR.2.1 h, hR.2.2⟩
  by_cases hka : k = a
  · subst hka
    rw [p_up_eq]
    exact hat
  · rw [va_up_ne _ _ hka] at hkn ⊢
    exact (hR.1 k hk hkn).kept (ho _ (by show G.1 + k ≠ G.1 + a; omega))
theorem p_push {G : pG} {N : Nat} {M : pM} {H H1 : Heap} {x : va_E} (hR : p_R G true N M H) (hN : N < 65536) (hat : va_at G.2.2.2.1 vwCl (G.1 + N, p_e G x) H1) (hz : H1.size = H.size + 1) (ho : ∀ q : Nat, q < H.size → H1[q]? = H[q]?) : p_R G true (N + 1) (va_up M N x) H1 := by
  have hsz := hR.2.1 rfl
  refine ⟨fun k hk hkn => ?_, fun _ => by rw [hz, hsz]; omega, hN⟩
  by_cases hka : k = N
  · subst hka
    rw [p_up_eq]
    exact hat
  · rw [va_up_ne _ _ hka] at hkn ⊢
    exact (hR.1 k (by omega) hkn).kept (ho _ (by show G.1 + k < H.size; rw [hsz]; omega))
theorem p_r_lt {G : pG} {al : Bool} {N a : Nat} {M : pM} {H : Heap} (hR : p_R G al N M H) (ha : a < N) : p_r G a = G.1 + a := by
  unfold p_r
  rw [if_pos (Nat.lt_of_lt_of_le ha hR.2.2)]
theorem p_cell {G : pG} {al : Bool} {N a : Nat} {M : pM} {H : Heap} {x : va_E} (hR : p_R G al N M H) (ha : a < N) (hM : M a = x) (hkn : p_kn x = true) : va_at G.2.2.2.1 vwCl (G.1 + a, p_e G x) H := by
  have q := hR.1 a ha
  rw [hM] at q
  exact q hkn
theorem p_one {G : pG} {al : Bool} {N a : Nat} {M : pM} {H : Heap} {x : va_E} (hR : p_R G al N M H) (ha : a < N) (hM : M a = x) (hkn : p_kn x = true) : va_P G.2.2.2.1 vwCl [(G.1 + a, p_e G x)] H := by
  intro k q hq
  cases k with
  | zero => cases hq; exact p_cell hR ha hM hkn
  | succ n => cases hq
def p_fv : FieldType → Value → Bool
  | .int, .int _ => true
  | .boolean, .int x => x == 0 || x == 1
  | .long, .long _ => true
  | .object _, .ref _ => true
  | .object _, .null => true
  | .array _, .ref _ => true
  | .array _, .null => true
  | _, _ => false
theorem p_fv_ok {G : pG} {ty : FieldType} {v : Value} (h : p_fv ty v = true) : narrow ty (p_v G v) = p_v G v ∧ fits ty (p_v G v) = true := by
  cases ty <;> cases v <;> first | (simp [p_fv] at h; done) | exact ⟨rfl, rfl⟩ | skip
  simp only [p_fv, Bool.or_eq_true, beq_iff_eq] at h
  rcases h with rfl | rfl
  · exact (by decide +kernel : narrow .boolean (.int 0) = .int 0 ∧ fits .boolean (.int 0) = true)
  · exact (by decide +kernel : narrow .boolean (.int 1) = .int 1 ∧ fits .boolean (.int 1) = true)
def p_df (ci : Nat) : List Value := (List.range (p_cl ci).2.2).map (fun k => defaultValue (p_tyf ci k))
theorem p_v_def (G : pG) (ty : FieldType) : p_v G (defaultValue ty) = defaultValue ty := by cases ty <;> rfl
theorem p_tys_at (G : pG) {t : Nat} (h : t < 9) : (p_tys G)[t]? = some (G.2.2.1 t, p_ty t) := by
  unfold p_tys
  rw [List.getElem?_map, List.getElem?_range h]
  rfl
theorem p_ty_obj {t : Nat} (h1 : 4 ≤ t) (h2 : t < 9) : p_ty t = .object (p_tn t) := by
  match t, h1, h2 with
  | 4, _, _ => rfl
  | 5, _, _ => rfl
  | 6, _, _ => rfl
  | 7, _, _ => rfl
  | 8, _, _ => rfl
  | n + 9, _, h => exact absurd h (by omega)
set_option maxRecDepth 100000 in
theorem p_arr0 : [188, 287, 286, 288].map (fun k => lw_tbl[k]?) = [Cond.arrayClass .byte, .arrayClass .int, .arrayClass .long, .arrayClass .boolean].map some := rfl
theorem p_arr (w : Cond) (hw : w ∈ [Cond.arrayClass .byte, .arrayClass .int, .arrayClass .long, .arrayClass .boolean]) : w ∈ p_GW := by
  have hm : some w ∈ [188, 287, 286, 288].map (fun k => lw_tbl[k]?) := by rw [p_arr0]; exact List.mem_map.mpr ⟨w, hw, rfl⟩
  obtain ⟨k, -, e⟩ := List.mem_map.mp hm
  refine p_gi (List.mem_of_getElem? e) ?_
  simp only [List.mem_cons, List.not_mem_nil, or_false] at hw
  rcases hw with rfl | rfl | rfl | rfl <;> rfl
def p_aty : ArrayType → Option Nat
  | .byte => some 0
  | .int => some 1
  | .long => some 2
  | .boolean => some 3
  | _ => none
def p_z (t : Nat) : (Nat → Int32) ⊕ (Nat → Int64) ⊕ (Nat → UInt32) ⊕ (Nat → UInt64) ⊕ (Nat → Option Nat) := if t = 2 then .inr (.inl (fun _ => 0)) else .inl (fun _ => 0)
theorem p_rf (G : pG) (r : Option Nat) : va_rf (r.map (p_r G)) = p_v G (va_rf r) := by cases r <;> rfl
section Rules
variable {G : pG} {al : Bool} {d j mc ms : Nat} {Kr : pK} {pc : Nat} {lv : List (Nat × Value)} {st : List Value} {N : Nat} {M : pM} {ce sl : Nat}
theorem p_hts {p : Program} {R : Room} {s : State} {m : MethodId} {args : Array Value} {meth : Method} {c : Code} (hC : p_C G d j mc ms p R s m args meth c) : ∀ w ∈ p_GW, w.before args s = true := fun w hw => hC.2.2.2.2.1 w (List.mem_filter.mp hw).1 (List.mem_filter.mp hw).2
theorem p_hK {p : Program} {R : Room} {s : State} {m : MethodId} {args : Array Value} {meth : Method} {c : Code} (hC : p_C G d j mc ms p R s m args meth c) : va_K G.2.2.2.1 vwCl (p_tys G) s := hC.2.2.2.2.2.2.1.2.1
theorem PW.getf {idx ci k a : Nat} {fs : List Value} {v : Value} (h : p_tb j pc = some (.getfield idx, 3)) (hf : p_f2 p_ft (p_mK j) idx = some (ci, k)) (ha : a < N) (hM : M a = .inr (ci, fs)) (hv : fs[k]? = some v) (kk : PW G al d j mc ms Kr (pc + 3) lv (v :: st) N M ce sl) : PW G al d j mc ms Kr pc lv (.ref a :: st) N M ce sl := by
  intro p l e R s m args below meth c H locs ls Q hC hret hR hS hl
  obtain ⟨hci, hk, hw⟩ := p_flink hf
  show W p l e R s m args below meth c H locs ce sl Q (F0 m pc ls (.ref (p_r G a) :: st.map (p_v G)))
  rw [p_r_lt hR ha]
  exact va_get (D := G.2.2.2.1) (cl := vwCl) (ci := ci) (v := p_v G v) (C := (p_cl ci).1) (T := (p_cl ci).2.1) (N := (p_cl ci).2.2) hC.1 hC.2.1 (p_hts hC) (p_in hci) hC.2.2.2.1 (p_hK hC) (p_one hR ha hM (p_kn_lt hci)) 0 rfl (p_cl_q hci) k hk (p_hts hC _ hw) (fun x hx => by rw [p_decl hci hk] at hx; exact hx) (by rw [List.getElem?_map, hv]; rfl) (p_tb_ok h) (kk p l e R s m args below meth c H locs ls Q hC hret hR hS hl)
theorem PW.getN {idx ci k a : Nat} {fs : List Value} {v : Value} (h : p_tb j pc = some (.getfield idx, 3)) (hf : p_f2 p_fN (p_mK j) idx = some (ci, k)) (ha : a < N) (hM : M a = .inr (ci, fs)) (hv : fs[k]? = some v) (kk : PW G al d j mc ms Kr (pc + 3) lv (v :: st) N M ce sl) : PW G al d j mc ms Kr pc lv (.ref a :: st) N M ce sl := by
  intro p l e R s m args below meth c H locs ls Q hC hret hR hS hl
  obtain ⟨hci, hk, hw⟩ := p_flinkN hf
  show W p l e R s m args below meth c H locs ce sl Q (F0 m pc ls (.ref (p_r G a) :: st.map (p_v G)))
  rw [p_r_lt hR ha]
  exact va_getN (D := G.2.2.2.1) (cl := vwCl) (ci := ci) (v := p_v G v) (C := (p_cl ci).1) (T := (p_cl ci).2.1) (N := (p_cl ci).2.2) (host := RX11) hC.1 hC.2.1 (p_hts hC) (p_in hci) hC.2.2.2.1 (p_hK hC) (p_one hR ha hM (p_kn_lt hci)) 0 rfl (p_cl_q hci) k hk (va_Nw.use rfl (hC.2.2.2.2.2.2.1.1 _ hw rfl)) (fun x hx => by rw [p_decl hci hk] at hx; exact hx) (by rw [List.getElem?_map, hv]; rfl) (p_tb_ok h) (kk p l e R s m args below meth c H locs ls Q hC hret hR hS hl)
theorem PW.putf {idx ci k a : Nat} {fs : List Value} {v : Value} (h : p_tb j pc = some (.putfield idx, 3)) (hf : p_f2 p_ft (p_mK j) idx = some (ci, k)) (ha : a < N) (hM : M a = .inr (ci, fs)) (hfin : ((p_cl ci).2.1 k).2.2.2 = false) (hok : p_fv (p_tyf ci k) v = true) (hkl : k < fs.length) (kk : PW G al d j mc ms Kr (pc + 3) lv st N (va_up M a (.inr (ci, fs.set k v))) ce sl) : PW G al d j mc ms Kr pc lv (v :: .ref a :: st) N M ce sl := by
  intro p l e R s m args below meth c H locs ls Q hC hret hR hS hl
  obtain ⟨hci, hk, hw⟩ := p_flink hf
  show W p l e R s m args below meth c H locs ce sl Q (F0 m pc ls (p_v G v :: .ref (p_r G a) :: st.map (p_v G)))
  rw [p_r_lt hR ha]
  have hap := va_apart (own := p_mO j) (p_hts hC) (p_in hci) (p_tyf ci) (p_tyf_ok hci) (p_nmf hci) (p_hK hC) (p_cl_q hci)
  obtain ⟨r, h1, cell, q1, q2, q3, q4⟩ := (p_cell hR ha hM (p_kn_lt hci) : va_at G.2.2.2.1 vwCl (G.1 + a, .inr (ci, fs.map (p_v G))) H)
  have hr : r = p_cl ci := Option.some.inj (h1.symm.trans (p_cl_q hci))
  subst hr
  obtain ⟨hSl, hfc, kC, hkC, hkind⟩ := (p_hK hC).1 ci _ (p_cl_q hci)
  obtain ⟨cf, kf, fi, f, hi, hsl⟩ := hSl k hk
  have hlay := (p_hts hC) _ (p_in hci _ (u_in_lay hk))
  unfold u_lay at hlay
  rw [if_neg (by rw [hfin]; decide)] at hlay
  have hst := (u_facts hfc hkC (u_lays (p_hts hC) (p_in hci) hk) hi).1
  obtain ⟨hn, hfit⟩ := p_fv_ok (G := G) hok
  have h6 := u_store hfc hkC hkind hlay hi (p_tyf_ok hci k hk) hn hfit
  refine W.putK hC.1 hC.2.1 (f := f) ⟨hC.2.2.2.1, p_hts hC _ hw, ⟨_, _, _, by rw [← p_decl hci hk]; exact hi⟩, hst⟩ (by rw [q2]; exact h6) q1 q3 (by rw [hsl]; exact k2_hasslot (q4 k hk)) rfl rfl (p_tb_ok h) fun H' e1 e2 e3 => ?_
  rw [hsl] at e1 ⊢
  refine kk p l e R s m args below meth c H' _ ls Q hC hret (p_set hR ⟨_, p_cl_q hci, t_OB.to (V := updV (vp_V (fs.map (p_v G))) k (p_v G v)) ⟨_, e1, q2, q3, t_set q4 hap hk (p_v G v)⟩ (fun jj _ => ?_)⟩ e2 e3) (hS.put e2 e3 (Nat.le_add_right _ _)) hl
  rw [vp_updV_set (by rw [List.length_map]; exact hkl), List.map_set]
theorem PW.putN {idx ci k a : Nat} {fs : List Value} {v : Value} (h : p_tb j pc = some (.putfield idx, 3)) (hf : p_f2 p_fN (p_mK j) idx = some (ci, k)) (ha : a < N) (hM : M a = .inr (ci, fs)) (hfin : ((p_cl ci).2.1 k).2.2.2 = false) (hok : p_fv (p_tyf ci k) v = true) (hkl : k < fs.length) (kk : PW G al d j mc ms Kr (pc + 3) lv st N (va_up M a (.inr (ci, fs.set k v))) ce sl) : PW G al d j mc ms Kr pc lv (v :: .ref a :: st) N M ce sl := by
  intro p l e R s m args below meth c H locs ls Q hC hret hR hS hl
  obtain ⟨hci, hk, hw⟩ := p_flinkN hf
  show W p l e R s m args below meth c H locs ce sl Q (F0 m pc ls (p_v G v :: .ref (p_r G a) :: st.map (p_v G)))
  rw [p_r_lt hR ha]
  have hap := va_apart (own := p_mO j) (p_hts hC) (p_in hci) (p_tyf ci) (p_tyf_ok hci) (p_nmf hci) (p_hK hC) (p_cl_q hci)
  obtain ⟨r, h1, cell, q1, q2, q3, q4⟩ := (p_cell hR ha hM (p_kn_lt hci) : va_at G.2.2.2.1 vwCl (G.1 + a, .inr (ci, fs.map (p_v G))) H)
  have hr : r = p_cl ci := Option.some.inj (h1.symm.trans (p_cl_q hci))
  subst hr
  obtain ⟨hSl, hfc, kC, hkC, hkind⟩ := (p_hK hC).1 ci _ (p_cl_q hci)
  obtain ⟨cf, kf, fi, f, hi, hsl⟩ := hSl k hk
  have hlay := (p_hts hC) _ (p_in hci _ (u_in_lay hk))
  unfold u_lay at hlay
  rw [if_neg (by rw [hfin]; decide)] at hlay
  have hst := (u_facts hfc hkC (u_lays (p_hts hC) (p_in hci) hk) hi).1
  obtain ⟨hn, hfit⟩ := p_fv_ok (G := G) hok
  have h6 := u_store hfc hkC hkind hlay hi (p_tyf_ok hci k hk) hn hfit
  refine va_WputK hC.1 hC.2.1 (f := f) hC.2.2.2.1 (va_Nw.use rfl (hC.2.2.2.2.2.2.1.1 _ hw rfl)) (by rw [← p_decl hci hk]; exact hi) hst (by rw [q2]; exact h6) q1 q3 (by rw [hsl]; exact k2_hasslot (q4 k hk)) rfl rfl (p_tb_ok h) fun H' e1 e2 e3 => ?_
  rw [hsl] at e1 ⊢
  refine kk p l e R s m args below meth c H' _ ls Q hC hret (p_set hR ⟨_, p_cl_q hci, t_OB.to (V := updV (vp_V (fs.map (p_v G))) k (p_v G v)) ⟨_, e1, q2, q3, t_set q4 hap hk (p_v G v)⟩ (fun jj _ => ?_)⟩ e2 e3) (hS.put e2 e3 (Nat.le_add_right _ _)) hl
  rw [vp_updV_set (by rw [List.length_map]; exact hkl), List.map_set]
theorem PW.putF {idx ci k a : Nat} {fs : List Value} {v : Value} (h : p_tb j pc = some (.putfield idx, 3)) (hf : p_f2 p_ft (p_mK j) idx = some (ci, k)) (ha : a < N) (hM : M a = .inr (ci, fs)) (hfin : ((p_cl ci).2.1 k).2.2.2 = true) (hI : p_mI j = true) (hO : (p_cl ci).1 = p_mO j) (hok : p_fv (p_tyf ci k) v = true) (hkl : k < fs.length) (kk : PW G al d j mc ms Kr (pc + 3) lv st N (va_up M a (.inr (ci, fs.set k v))) ce sl) : PW G al d j mc ms Kr pc lv (v :: .ref a :: st) N M ce sl := by
  intro p l e R s m args below meth c H locs ls Q hC hret hR hS hl
  obtain ⟨hci, hk, hw⟩ := p_flink hf
  show W p l e R s m args below meth c H locs ce sl Q (F0 m pc ls (p_v G v :: .ref (p_r G a) :: st.map (p_v G)))
  rw [p_r_lt hR ha]
  have hap := va_apart (own := p_mO j) (p_hts hC) (p_in hci) (p_tyf ci) (p_tyf_ok hci) (p_nmf hci) (p_hK hC) (p_cl_q hci)
  obtain ⟨r, h1, cell, q1, q2, q3, q4⟩ := (p_cell hR ha hM (p_kn_lt hci) : va_at G.2.2.2.1 vwCl (G.1 + a, .inr (ci, fs.map (p_v G))) H)
  have hr : r = p_cl ci := Option.some.inj (h1.symm.trans (p_cl_q hci))
  subst hr
  obtain ⟨hSl, hfc, kC, hkC, hkind⟩ := (p_hK hC).1 ci _ (p_cl_q hci)
  obtain ⟨cf, kf, fi, f, hi, hsl⟩ := hSl k hk
  have hlay := (p_hts hC) _ (p_in hci _ (u_in_lay hk))
  unfold u_lay at hlay
  rw [if_pos hfin] at hlay
  have hst := (u_facts hfc hkC (u_lays (p_hts hC) (p_in hci) hk) hi).1
  have hcf : m.cls = cf := by
    obtain ⟨_, _, c', _, _, _, -, -, hf', -, -, -, hown2, -⟩ := Cond.laysFinal_spec hlay
    have e1 : c' = cf := by have := hi.symm.trans hf'; simp at this; exact this.1.symm
    rw [p_decl hci hk, hO] at hown2
    rw [← e1]; exact Option.some.inj (hC.2.2.2.1.symm.trans hown2)
  obtain ⟨hn, hfit⟩ := p_fv_ok (G := G) hok
  have h6 := u_fits hfc hkC hkind (Or.inr hlay) hi (p_tyf_ok hci k hk) hn hfit
  refine W.putFinK hC.1 hC.2.1 hC.2.2.2.1 (p_hts hC _ hw) (by rw [← p_decl hci hk]; exact hi) hst hcf (hC.2.2.2.2.2.1 hI) (by rw [q2]; exact h6) q1 q3 (by rw [hsl]; exact k2_hasslot (q4 k hk)) rfl rfl (p_tb_ok h) fun H' e1 e2 e3 => ?_
  rw [hsl] at e1 ⊢
  refine kk p l e R s m args below meth c H' _ ls Q hC hret (p_set hR ⟨_, p_cl_q hci, t_OB.to (V := updV (vp_V (fs.map (p_v G))) k (p_v G v)) ⟨_, e1, q2, q3, t_set q4 hap hk (p_v G v)⟩ (fun jj _ => ?_)⟩ e2 e3) (hS.put e2 e3 (Nat.le_add_right _ _)) hl
  rw [vp_updV_set (by rw [List.length_map]; exact hkl), List.map_set]
theorem PW.new {idx ci : Nat} (h : p_tb j pc = some (.new idx, 3)) (hf : p_f2 p_ct (p_mK j) idx = some ci) (hc : ce + 1 ≤ mc) (hs : sl + (p_cl ci).2.2 ≤ ms) (hN : N < 65536) (kk : PW G true d j mc ms Kr (pc + 3) lv (.ref N :: st) (N + 1) (va_up M N (.inr (ci, p_df ci))) (ce + 1) (sl + (p_cl ci).2.2)) : PW G true d j mc ms Kr pc lv st N M ce sl := by
  intro p l e R s m args below meth c H locs ls Q hC hret hR hS hl
  obtain ⟨hci, w1, w2, w3⟩ := p_clink hf
  have hsz := hR.2.1 rfl
  have hKn := (p_hK hC).1 ci _ (p_cl_q hci)
  refine W.newcK hC.1 hC.2.1 hC.2.2.2.1 (p_hts hC _ w1) (p_hts hC _ w2) (p_hts hC _ w3) rfl (p_tb_ok h) (Nat.le_trans hc hC.2.2.2.2.2.2.2.2.2.1) (Nat.le_trans hs hC.2.2.2.2.2.2.2.2.2.2) hKn.2.1 rfl fun H1 kC hkC e1 z1 o1 => ?_
  have hr : p_r G N = H.size := by unfold p_r; rw [if_pos hN, hsz]
  have kq := kk p l e R s m args below meth c H1 locs ls Q hC hret (p_push hR hN ⟨_, p_cl_q hci, by
    show t_OB (G.1 + N) _ _ _ H1 (vp_V ((p_df ci).map (p_v G)))
    rw [← hsz]
    refine (u_born (p_tyf ci) (p_hts hC) (p_in hci) hKn hkC e1 (p_tyf_ok hci)).to (fun jj hj => ?_)
    simp [vp_V, p_df, hj, p_v_def]⟩ z1 (fun q hq => o1 q hq)) ⟨Nat.le_trans hS.1 (by omega), fun x g1 g2 => (o1 x (Nat.lt_of_lt_of_le g1 hS.1)).trans (hS.2.1 x g1 g2), hS.2.2⟩ hl
  rw [List.map_cons, show p_v G (.ref N) = .ref (p_r G N) from rfl, hr] at kq
  exact kq
theorem PW.newa {aty : ArrayType} {t : Nat} {n : Int32} (h : p_tb j pc = some (.newarray aty, 2)) (ht : p_aty aty = some t) (hn : ¬ n < 0) (hb : n.toNatClampNeg ≤ 100000) (hc : ce + 1 ≤ mc) (hs : sl + n.toNatClampNeg ≤ ms) (hN : N < 65536) (kk : PW G true d j mc ms Kr (pc + 2) lv (.ref N :: st) (N + 1) (va_up M N (.inl (t, n.toNatClampNeg, p_z t))) (ce + 1) (sl + n.toNatClampNeg)) : PW G true d j mc ms Kr pc lv (.int n :: st) N M ce sl := by
  intro p l e R s m args below meth c H locs ls Q hC hret hR hS hl
  have hsz := hR.2.1 rfl
  have hr : p_r G N = H.size := by unfold p_r; rw [if_pos hN, hsz]
  have harr : (Cond.arrayClass (newarray.typeOf aty)).before args s = true := p_hts hC _ (by cases aty <;> first | (simp [p_aty] at ht; done) | exact p_arr _ (by simp [newarray.typeOf]))
  refine va_newaK hC.1 hC.2.1 harr rfl (p_tb_ok h) rfl hn rfl (by cases aty <;> first | (simp [p_aty] at ht; done) | (simp only [newarray.typeOf, componentBytes]; omega)) (Nat.le_trans hc hC.2.2.2.2.2.2.2.2.2.1) (Nat.le_trans hs hC.2.2.2.2.2.2.2.2.2.2) rfl fun H1 cA e1 z1 o1 hAr hNm => ?_
  have ht9 : t < 9 := by cases aty <;> simp [p_aty] at ht <;> omega
  have hcA : cA = G.2.2.1 t := by
    have := ((p_hK hC).2 t _ (p_tys_at G ht9)).2
    cases aty <;> simp [p_aty] at ht <;> subst ht <;> exact Option.some.inj (hNm.symm.trans this)
  have kq := kk p l e R s m args below meth c H1 locs ls Q hC hret (p_push hR hN (by
    show H1[G.1 + N]? = some (vp_cell (G.2.2.1 t) (p_d G (n.toNatClampNeg, p_z t)))
    rw [← hsz, e1, hcA]
    cases aty <;> simp [p_aty] at ht <;> subst ht <;> rfl) z1 (fun q hq => o1 q hq)) ⟨Nat.le_trans hS.1 (by omega), fun x g1 g2 => (o1 x (Nat.lt_of_lt_of_le g1 hS.1)).trans (hS.2.1 x g1 g2), hS.2.2⟩ hl
  rw [List.map_cons, show p_v G (.ref N) = .ref (p_r G N) from rfl, hr] at kq
  exact kq
theorem PW.anew {idx t : Nat} {n : Int32} (h : p_tb j pc = some (.anewarray idx, 3)) (hf : p_f2 p_at (p_mK j) idx = some t) (hn : ¬ n < 0) (hb : n.toNatClampNeg ≤ 100000) (hc : ce + 1 ≤ mc) (hs : sl + n.toNatClampNeg ≤ ms) (hN : N < 65536) (kk : PW G true d j mc ms Kr (pc + 3) lv (.ref N :: st) (N + 1) (va_up M N (.inl (t, n.toNatClampNeg, .inr (.inr (.inr (.inr (fun _ => none))))))) (ce + 1) (sl + n.toNatClampNeg)) : PW G true d j mc ms Kr pc lv (.int n :: st) N M ce sl := by
  intro p l e R s m args below meth c H locs ls Q hC hret hR hS hl
  obtain ⟨ht4, ht9, w1⟩ := p_alink hf
  have hsz := hR.2.1 rfl
  have hr : p_r G N = H.size := by unfold p_r; rw [if_pos hN, hsz]
  refine W.anew hC.1 hC.2.1 hC.2.2.2.1 (p_hts hC _ w1) (va_AO.use (hC.2.2.2.2.2.2.1.2.2.2.2.1 t ht4 ht9)) rfl (p_tb_ok h) rfl hn (by omega) (Nat.le_trans hc hC.2.2.2.2.2.2.2.2.2.1) (Nat.le_trans hs hC.2.2.2.2.2.2.2.2.2.2) fun cA kA comp f1 f2 f3 f4 => ?_
  generalize hH1 : H.push ({ cls := cA, slots := Array.replicate n.toNatClampNeg .null, vm := .none } : Cell) = H1
  have z1 : H1.size = H.size + 1 := by rw [← hH1, Array.size_push]
  have e1 : H1[H.size]? = some (arrV cA n.toNatClampNeg (fun _ => .null)) := by rw [← hH1, Array.getElem?_push_size, ← arrV_new]
  have o1 : ∀ q : Nat, q < H.size → H1[q]? = H[q]? := fun q hq => by rw [← hH1, Array.getElem?_push, if_neg (Nat.ne_of_lt hq)]
  have hcA : cA = G.2.2.1 t := by
    have h9 := ((p_hK hC).2 t _ (p_tys_at G ht9)).2
    rw [p_ty_obj ht4 ht9] at h9
    obtain ⟨_, _, _, _, _, h4⟩ := h9
    exact Option.some.inj (f1.symm.trans h4)
  have kq := kk p l e R s m args below meth c H1 locs ls Q hC hret (p_push hR hN (by
    show H1[G.1 + N]? = some (vp_cell (G.2.2.1 t) (n.toNatClampNeg, .inr (.inr (.inr (.inr (fun i => (none : Option Nat).map (p_r G)))))))
    rw [← hsz, e1, hcA]
    rfl) z1 o1) ⟨Nat.le_trans hS.1 (by omega), fun x g1 g2 => (o1 x (Nat.lt_of_lt_of_le g1 hS.1)).trans (hS.2.1 x g1 g2), hS.2.2⟩ hl
  rw [List.map_cons, show p_v G (.ref N) = .ref (p_r G N) from rfl, hr] at kq
  exact kq
theorem PW.iald {a n : Nat} {f : Nat → Int32} {i : Int32} (h : p_tb j pc = some (.iaload, 1)) (ha : a < N) (hM : M a = .inl (1, n, .inl f)) (hin : vp_in i n) (kk : PW G al d j mc ms Kr (pc + 1) lv (.int (f i.toNatClampNeg) :: st) N M ce sl) : PW G al d j mc ms Kr pc lv (.int i :: .ref a :: st) N M ce sl := by
  intro p l e R s m args below meth c H locs ls Q hC hret hR hS hl
  show W p l e R s m args below meth c H locs ce sl Q (F0 m pc ls (.int i :: .ref (p_r G a) :: st.map (p_v G)))
  rw [p_r_lt hR ha]
  exact va_iald (n := n) (f := f) hC.1 hC.2.1 (p_hK hC) (p_one hR ha hM rfl) 0 1 rfl (p_tys_at G (by decide)) hin (p_tb_ok h) (kk p l e R s m args below meth c H locs ls Q hC hret hR hS hl)
theorem PW.bald {a n : Nat} {f : Nat → Int32} {i : Int32} (h : p_tb j pc = some (.baload, 1)) (ha : a < N) (hM : M a = .inl (0, n, .inl f)) (hin : vp_in i n) (kk : PW G al d j mc ms Kr (pc + 1) lv (.int (f i.toNatClampNeg) :: st) N M ce sl) : PW G al d j mc ms Kr pc lv (.int i :: .ref a :: st) N M ce sl := by
  intro p l e R s m args below meth c H locs ls Q hC hret hR hS hl
  show W p l e R s m args below meth c H locs ce sl Q (F0 m pc ls (.int i :: .ref (p_r G a) :: st.map (p_v G)))
  rw [p_r_lt hR ha]
  exact va_bald (n := n) (f := f) hC.1 hC.2.1 (p_hK hC) (p_one hR ha hM rfl) 0 0 rfl (p_tys_at G (by decide)) hin (p_tb_ok h) (kk p l e R s m args below meth c H locs ls Q hC hret hR hS hl)
theorem PW.zald {a n : Nat} {f : Nat → Int32} {i : Int32} (h : p_tb j pc = some (.baload, 1)) (ha : a < N) (hM : M a = .inl (3, n, .inl f)) (hin : vp_in i n) (kk : PW G al d j mc ms Kr (pc + 1) lv (.int (f i.toNatClampNeg) :: st) N M ce sl) : PW G al d j mc ms Kr pc lv (.int i :: .ref a :: st) N M ce sl := by
  intro p l e R s m args below meth c H locs ls Q hC hret hR hS hl
  show W p l e R s m args below meth c H locs ce sl Q (F0 m pc ls (.int i :: .ref (p_r G a) :: st.map (p_v G)))
  rw [p_r_lt hR ha]
  exact va_zald (n := n) (f := f) hC.1 hC.2.1 (p_hK hC) (p_one hR ha hM rfl) 0 3 rfl (p_tys_at G (by decide)) hin (p_tb_ok h) (kk p l e R s m args below meth c H locs ls Q hC hret hR hS hl)
theorem PW.lald {a n : Nat} {f : Nat → Int64} {i : Int32} (h : p_tb j pc = some (.laload, 1)) (ha : a < N) (hM : M a = .inl (2, n, .inr (.inl f))) (hin : vp_in i n) (kk : PW G al d j mc ms Kr (pc + 1) lv (.long (f i.toNatClampNeg) :: st) N M ce sl) : PW G al d j mc ms Kr pc lv (.int i :: .ref a :: st) N M ce sl := by
  intro p l e R s m args below meth c H locs ls Q hC hret hR hS hl
  show W p l e R s m args below meth c H locs ce sl Q (F0 m pc ls (.int i :: .ref (p_r G a) :: st.map (p_v G)))
  rw [p_r_lt hR ha]
  exact va_lald (n := n) (f := f) hC.1 hC.2.1 (p_hK hC) (p_one hR ha hM rfl) 0 2 rfl (p_tys_at G (by decide)) hin (p_tb_ok h) (kk p l e R s m args below meth c H locs ls Q hC hret hR hS hl)
theorem PW.aald {a n t : Nat} {f : Nat → Option Nat} {i : Int32} (h : p_tb j pc = some (.aaload, 1)) (ha : a < N) (hM : M a = .inl (t, n, .inr (.inr (.inr (.inr f))))) (ht4 : 4 ≤ t) (ht9 : t < 9) (hin : vp_in i n) (kk : PW G al d j mc ms Kr (pc + 1) lv (va_rf (f i.toNatClampNeg) :: st) N M ce sl) : PW G al d j mc ms Kr pc lv (.int i :: .ref a :: st) N M ce sl := by
  intro p l e R s m args below meth c H locs ls Q hC hret hR hS hl
  show W p l e R s m args below meth c H locs ce sl Q (F0 m pc ls (.int i :: .ref (p_r G a) :: st.map (p_v G)))
  rw [p_r_lt hR ha]
  have kq := kk p l e R s m args below meth c H locs ls Q hC hret hR hS hl
  rw [List.map_cons, ← p_rf] at kq
  exact va_aldq (n := n) (f := fun i => (f i).map (p_r G)) (C := p_tn t) hC.1 hC.2.1 (p_hK hC) (p_one hR ha hM rfl) 0 t rfl (by rw [p_tys_at G ht9, p_ty_obj ht4 ht9]) hin (p_tb_ok h) kq
theorem PW.alen {a n t : Nat} {x : (Nat → Int32) ⊕ (Nat → Int64) ⊕ (Nat → UInt32) ⊕ (Nat → UInt64) ⊕ (Nat → Option Nat)} (h : p_tb j pc = some (.arraylength, 1)) (ha : a < N) (hM : M a = .inl (t, n, x)) (ht9 : t < 9) (kk : PW G al d j mc ms Kr (pc + 1) lv (.int (Int32.ofNat n) :: st) N M ce sl) : PW G al d j mc ms Kr pc lv (.ref a :: st) N M ce sl := by
  intro p l e R s m args below meth c H locs ls Q hC hret hR hS hl
  show W p l e R s m args below meth c H locs ce sl Q (F0 m pc ls (.ref (p_r G a) :: st.map (p_v G)))
  rw [p_r_lt hR ha]
  exact va_alen (x := p_d G (n, x)) hC.1 hC.2.1 (p_hK hC) (p_one hR ha hM rfl) 0 t rfl (p_tys_at G ht9) (by rcases x with x | x | x | x | x <;> rfl) (p_tb_ok h) (kk p l e R s m args below meth c H locs ls Q hC hret hR hS hl)
end Rules
