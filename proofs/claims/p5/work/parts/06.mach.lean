/-! ===== the pure machine: a memory of cells by number, translated to the heap; PW: from here the machine comes to its answer ===== -/
abbrev pM : Type := Nat → va_E
abbrev pG : Type := Nat × (Nat → Nat) × (Nat → ClassId) × va_G × Nat × (Nat → Int32)
def p_r (G : pG) (k : Nat) : Nat := if k < 65536 then G.1 + k else G.2.1 (k - 65536)
def p_v (G : pG) : Value → Value
  | .ref k => .ref (p_r G k)
  | .int x => .int x
  | .long x => .long x
  | .float x => .float x
  | .double x => .double x
  | .null => .null
  | .retAddr x => .retAddr x
def p_d (G : pG) : vp_A → vp_A
  | (n, .inr (.inr (.inr (.inr f)))) => (n, .inr (.inr (.inr (.inr (fun i => (f i).map (p_r G))))))
  | (n, .inr (.inr (.inr (.inl f)))) => (n, .inr (.inr (.inr (.inl f))))
  | (n, .inr (.inr (.inl f))) => (n, .inr (.inr (.inl f)))
  | (n, .inr (.inl f)) => (n, .inr (.inl f))
  | (n, .inl f) => (n, .inl f)
def p_e (G : pG) : va_E → va_E
  | .inl (t, x) => .inl (G.2.2.1 t, p_d G x)
  | .inr (ci, fs) => .inr (ci, fs.map (p_v G))
def p_l (G : pG) (lv : List (Nat × Value)) : List (Nat × Value) := lv.map (fun q => (q.1, p_v G q.2))
def p_A (G : pG) : Nat → Prop := fun q => G.1 ≤ q
def p_tys (G : pG) : List (ClassId × FieldType) := (List.range 9).map (fun t => (G.2.2.1 t, p_ty t))
def p_nest : Cond → Bool
  | .fieldLinkNest .. => true
  | .methodLinkNest .. => true
  | _ => false
/-- the words' numbers, the static row of words, each word an object with its number -/
def p_wc (i : Nat) : Int64 := ([402885, 81049, 11703827, 773205170, 66667, 4583, 16392370, 463922, 394868, 99724, 21285043, 20594195, 24162675, 21678547, 3191187, 680083187, 642891204, 498, 1476, 14836, 658552979, 8435955, 653958420, 89, 17171557, 525413, 748267155, 492210354] : List Int64).getD i 0
def p_WD (G : pG) (U : State) : Prop := va_Z RX11 "WORDS" "[LBetweenThem$Word;" (.ref (G.2.1 29)) (p_A G) U U.heap ∧ va_T (.object RX9) (G.2.1 29) 28 (fun i => .ref (G.2.1 i)) (p_A G) U U.heap ∧ (∀ i, i < 28 → va_O RX9 (G.2.1 i) (p_A G) U U.heap) ∧ va_Ef 28 RX9 "code" "J" (fun i => .long (p_wc i)) G.2.1 (p_A G) U U.heap
/-- what holds in every state of the run -/
def p_G (G : pG) (U : State) : Prop :=
  (∀ w ∈ lw_tbl, p_nest w = true → va_Nw w U) ∧ va_K G.2.2.2.1 vwCl (p_tys G) U ∧ (∀ i, i < 28 → va_Z RX9 (p_nm.getD i "") "LBetweenThem$Word;" (.ref (G.2.1 i)) (p_A G) U U.heap) ∧ (G.1 ≤ U.heap.size ∧ G.2.1 28 < G.1 ∧ va_X (G.2.1 28) G.2.2.2.2.1 G.2.2.2.2.2 U U.heap) ∧ (∀ t, 4 ≤ t → t < 9 → va_AO (p_tn t) U) ∧ p_WD G U
/-- a frame of method j -/
def p_C (G : pG) (d j mc ms : Nat) (p : Program) (R : Room) (s : State) (m : MethodId) (args : Array Value) (meth : Method) (c : Code) : Prop :=
  p.tables.exec = Jvm.exec ∧ c.code = p_mC j ∧ c.maxLocals = p_mL j ∧ s.vm.findClass (p_mO j) = some m.cls ∧ (∀ w ∈ lw_tbl, goodWord w = true → w.before args s = true) ∧ (p_mI j = true → meth.name = "<init>") ∧ p_G G s ∧ d ≤ R.frames ∧ 80 * d ≤ R.locals ∧ mc ≤ R.cells ∧ ms ≤ R.slots
/-- a cell of which nothing is known -/
def p_un : va_E := .inr (99, [])
def p_kn : va_E → Bool
  | .inr (ci, _) => decide (ci ≠ 99)
  | .inl _ => true
theorem p_kn_lt {ci : Nat} {fs : List Value} (h : ci < 12) : p_kn (.inr (ci, fs)) = true := by
  unfold p_kn
  exact decide_eq_true (by omega)
def p_R (G : pG) (al : Bool) (N : Nat) (M : pM) (H : Heap) : Prop :=
  (∀ k, k < N → p_kn (M k) = true → va_at G.2.2.2.1 vwCl (G.1 + k, p_e G (M k)) H) ∧ (al = true → H.size = G.1 + N) ∧ N ≤ 65536
def p_ret (j : Nat) (i : Instr) (v : Option Value) : Prop :=
  (i = .ireturn ∧ p_mR j = some .int ∧ ∃ x, v = some (.int x)) ∨ (i = .ireturn ∧ p_mR j = some .boolean ∧ ∃ x, v = some (.int x) ∧ narrow .boolean (.int x) = .int x) ∨ (i = .return_ ∧ p_mR j = none ∧ v = none) ∨ (i = .lreturn ∧ p_mR j = some .long ∧ ∃ x, v = some (.long x)) ∨ (i = .areturn ∧ (∃ n, p_mR j = some (.object n)) ∧ ∃ a, v = some (.ref a))
abbrev pK : Type := (Option Value → Nat → pM → Prop) × (Nat → List (Nat × Value) → List Value → Nat → pM → Nat → Nat → Prop)
def p_nx : Nat → List (Nat × Value) → List Value → Nat → pM → Nat → Nat → Prop := fun _ _ _ _ _ _ _ => False
/-- what is owed behind method j in this frame: at its return, and at the places where it is left to the reader -/
def p_K (G : pG) (al : Bool) (j mc ms : Nat) (Kr : pK) (p : Program) (l : Launch) (e : Env) (R : Room) (s : State) (m : MethodId) (args : Array Value) (below : List Frame) (meth : Method) (c : Code) (Q : State → Prop) : Prop :=
  (∀ (v : Option Value) (N' : Nat) (M' : pM) (H' : Heap) (locs' : List Loc) (ls' : Array Slot) (pc' : Nat) (i : Instr), Kr.1 v N' M' → p_ret j i v → decode (p_mC j) pc' = .ok (i, 1) → p_R G al N' M' H' → va_S (p_A G) s.heap H' locs' → W p l e R s m args below meth c H' locs' mc ms Q (F0 m pc' ls' (v.toList.map (p_v G)))) ∧
  (∀ (pc' : Nat) (lv' : List (Nat × Value)) (st' : List Value) (N' : Nat) (M' : pM) (ce' sl' : Nat) (H' : Heap) (locs' : List Loc) (ls' : Array Slot), Kr.2 pc' lv' st' N' M' ce' sl' → p_R G al N' M' H' → va_S (p_A G) s.heap H' locs' → lv_has ls' (p_mL j) (p_l G lv') → W p l e R s m args below meth c H' locs' ce' sl' Q (F0 m pc' ls' (st'.map (p_v G))))
def PW (G : pG) (al : Bool) (d j mc ms : Nat) (Kr : pK) (pc : Nat) (lv : List (Nat × Value)) (st : List Value) (N : Nat) (M : pM) (ce sl : Nat) : Prop :=
  ∀ (p : Program) (l : Launch) (e : Env) (R : Room) (s : State) (m : MethodId) (args : Array Value) (below : List Frame) (meth : Method) (c : Code) (H : Heap) (locs : List Loc) (ls : Array Slot) (Q : State → Prop),
    p_C G d j mc ms p R s m args meth c →
    p_K G al j mc ms Kr p l e R s m args below meth c Q →
    p_R G al N M H → va_S (p_A G) s.heap H locs → lv_has ls (p_mL j) (p_l G lv) → W p l e R s m args below meth c H locs ce sl Q (F0 m pc ls (st.map (p_v G)))
theorem p_v_cat (G : pG) (v : Value) : (p_v G v).category = v.category := by cases v <;> rfl
def p_lk : List (Nat × Value) → Nat → Option Value
  | [], _ => none
  | (a, v) :: t, i => if a = i then some v else p_lk t i
theorem p_lk_in : ∀ {l : List (Nat × Value)} {i : Nat} {v : Value}, p_lk l i = some v → (i, v) ∈ l
  | [], _, _, h => by simp [p_lk] at h
  | (a, w) :: t, i, v, h => by
    unfold p_lk at h
    by_cases e : a = i
    · rw [if_pos e] at h
      cases h; subst e
      exact List.mem_cons_self
    · rw [if_neg e] at h
      exact List.mem_cons_of_mem _ (p_lk_in h)
theorem p_lk_at {G : pG} {ls : Array Slot} {n : Nat} {lv : List (Nat × Value)} (hl : lv_has ls n (p_l G lv)) {i : Nat} {v : Value} (h : p_lk lv i = some v) : ls[i]? = some (.val (p_v G v)) :=
  hl.2.2 (i, p_v G v) (List.mem_map.mpr ⟨(i, v), p_lk_in h, rfl⟩)
def p_fi (i : Nat) (q : Nat × Value) : Bool := !(q.1 == i) && !(q.1 + 1 == i && q.2.category == 2)
def p_s1 (lv : List (Nat × Value)) (i : Nat) (v : Value) : List (Nat × Value) := (i, v) :: lv.filter (p_fi i)
def p_fj (i : Nat) (q : Nat × Value) : Bool := !(q.1 == i) && (!(q.1 == i + 1) && !(q.1 + 1 == i && q.2.category == 2))
def p_s2 (lv : List (Nat × Value)) (i : Nat) (v : Value) : List (Nat × Value) := (i, v) :: lv.filter (p_fj i)
theorem p_fil (G : pG) (f : Nat × Value → Bool) (hf : ∀ q, f (q.1, p_v G q.2) = f q) : ∀ lv : List (Nat × Value), (p_l G lv).filter f = p_l G (lv.filter f)
  | [] => rfl
  | q :: t => by
    show ((q.1, p_v G q.2) :: p_l G t).filter f = _
    by_cases h : f q = true
    · rw [List.filter_cons_of_pos (by rw [hf]; exact h), List.filter_cons_of_pos h, p_fil G f hf t]; rfl
    · rw [List.filter_cons_of_neg (by rw [hf]; exact h), List.filter_cons_of_neg h, p_fil G f hf t]
theorem p_s1_eq (G : pG) (lv : List (Nat × Value)) (i : Nat) (v : Value) : (i, p_v G v) :: (p_l G lv).filter (fun q => !(q.1 == i) && !(q.1 + 1 == i && q.2.category == 2)) = p_l G (p_s1 lv i v) := by
  have h := p_fil G (p_fi i) (fun q => by simp [p_fi, p_v_cat]) lv
  show (i, p_v G v) :: (p_l G lv).filter (p_fi i) = _
  rw [h]; rfl
theorem p_s2_eq (G : pG) (lv : List (Nat × Value)) (i : Nat) (v : Value) : (i, p_v G v) :: (p_l G lv).filter (fun q => !(q.1 == i) && (!(q.1 == i + 1) && !(q.1 + 1 == i && q.2.category == 2))) = p_l G (p_s2 lv i v) := by
  have h := p_fil G (p_fj i) (fun q => by simp [p_fj, p_v_cat]) lv
  show (i, p_v G v) :: (p_l G lv).filter (p_fj i) = _
  rw [h]; rfl
section Rules
variable {G : pG} {al : Bool} {d j mc ms : Nat} {Kr : pK} {pc : Nat} {lv : List (Nat × Value)} {st : List Value} {N : Nat} {M : pM} {ce sl : Nat}
theorem PW.exit (k : Kr.2 pc lv st N M ce sl) : PW G al d j mc ms Kr pc lv st N M ce sl := by
  intro p l e R s m args below meth c H locs ls Q hC hret hR hS hl
  exact hret.2 pc lv st N M ce sl H locs ls k hR hS hl
theorem PW.iconst {n : Int} (h : p_tb j pc = some (.iconst n, 1)) (k : PW G al d j mc ms Kr (pc + 1) lv (.int (Int32.ofInt n) :: st) N M ce sl) : PW G al d j mc ms Kr pc lv st N M ce sl := by
  intro p l e R s m args below meth c H locs ls Q hC hret hR hS hl
  exact lv_iconst hC.1 hC.2.1 (p_tb_ok h) rfl (k p l e R s m args below meth c H locs ls Q hC hret hR hS hl)
theorem PW.bipush {n : Int} (h : p_tb j pc = some (.bipush n, 2)) (k : PW G al d j mc ms Kr (pc + 2) lv (.int (Int8.ofInt n).toInt32 :: st) N M ce sl) : PW G al d j mc ms Kr pc lv st N M ce sl := by
  intro p l e R s m args below meth c H locs ls Q hC hret hR hS hl
  exact lv_bipush hC.1 hC.2.1 (p_tb_ok h) rfl (k p l e R s m args below meth c H locs ls Q hC hret hR hS hl)
theorem PW.sipush {n : Int} (h : p_tb j pc = some (.sipush n, 3)) (k : PW G al d j mc ms Kr (pc + 3) lv (.int (Int16.ofInt n).toInt32 :: st) N M ce sl) : PW G al d j mc ms Kr pc lv st N M ce sl := by
  intro p l e R s m args below meth c H locs ls Q hC hret hR hS hl
  exact lv_sipush hC.1 hC.2.1 (p_tb_ok h) rfl (k p l e R s m args below meth c H locs ls Q hC hret hR hS hl)
theorem PW.lconst {n : Fin 2} (h : p_tb j pc = some (.lconst n, 1)) (k : PW G al d j mc ms Kr (pc + 1) lv (.long (Int64.ofNat (n : Nat)) :: st) N M ce sl) : PW G al d j mc ms Kr pc lv st N M ce sl := by
  intro p l e R s m args below meth c H locs ls Q hC hret hR hS hl
  exact lv_lconst hC.1 hC.2.1 (p_tb_ok h) rfl (k p l e R s m args below meth c H locs ls Q hC hret hR hS hl)
theorem PW.iload_n {n : Fin 4} {x : Int32} (h : p_tb j pc = some (.iload_n n, 1)) (hv : p_lk lv n = some (.int x)) (k : PW G al d j mc ms Kr (pc + 1) lv (.int x :: st) N M ce sl) : PW G al d j mc ms Kr pc lv st N M ce sl := by
  intro p l e R s m args below meth c H locs ls Q hC hret hR hS hl
  exact lv_iload_n hC.1 hC.2.1 (p_tb_ok h) rfl (p_lk_at hl hv) (k p l e R s m args below meth c H locs ls Q hC hret hR hS hl)
theorem PW.iload {i : Nat} {x : Int32} (h : p_tb j pc = some (.iload i, 2)) (hv : p_lk lv i = some (.int x)) (k : PW G al d j mc ms Kr (pc + 2) lv (.int x :: st) N M ce sl) : PW G al d j mc ms Kr pc lv st N M ce sl := by
  intro p l e R s m args below meth c H locs ls Q hC hret hR hS hl
  exact lv_iload hC.1 hC.2.1 (p_tb_ok h) (p_lk_at hl hv) (k p l e R s m args below meth c H locs ls Q hC hret hR hS hl)
theorem PW.lload_n {n : Fin 4} {x : Int64} (h : p_tb j pc = some (.lload_n n, 1)) (hv : p_lk lv n = some (.long x)) (k : PW G al d j mc ms Kr (pc + 1) lv (.long x :: st) N M ce sl) : PW G al d j mc ms Kr pc lv st N M ce sl := by
  intro p l e R s m args below meth c H locs ls Q hC hret hR hS hl
  exact lv_lload_n hC.1 hC.2.1 (p_tb_ok h) rfl (p_lk_at hl hv) (k p l e R s m args below meth c H locs ls Q hC hret hR hS hl)
theorem PW.lload {i : Nat} {x : Int64} (h : p_tb j pc = some (.lload i, 2)) (hv : p_lk lv i = some (.long x)) (k : PW G al d j mc ms Kr (pc + 2) lv (.long x :: st) N M ce sl) : PW G al d j mc ms Kr pc lv st N M ce sl := by
  intro p l e R s m args below meth c H locs ls Q hC hret hR hS hl
  exact lv_lload hC.1 hC.2.1 (p_tb_ok h) (p_lk_at hl hv) (k p l e R s m args below meth c H locs ls Q hC hret hR hS hl)
theorem PW.aload_n {n : Fin 4} {a : Nat} (h : p_tb j pc = some (.aload_n n, 1)) (hv : p_lk lv n = some (.ref a)) (k : PW G al d j mc ms Kr (pc + 1) lv (.ref a :: st) N M ce sl) : PW G al d j mc ms Kr pc lv st N M ce sl := by
  intro p l e R s m args below meth c H locs ls Q hC hret hR hS hl
  exact lv_aload_n hC.1 hC.2.1 (p_tb_ok h) rfl (p_lk_at hl hv) (k p l e R s m args below meth c H locs ls Q hC hret hR hS hl)
theorem PW.aload {i a : Nat} (h : p_tb j pc = some (.aload i, 2)) (hv : p_lk lv i = some (.ref a)) (k : PW G al d j mc ms Kr (pc + 2) lv (.ref a :: st) N M ce sl) : PW G al d j mc ms Kr pc lv st N M ce sl := by
  intro p l e R s m args below meth c H locs ls Q hC hret hR hS hl
  exact lv_aload hC.1 hC.2.1 (p_tb_ok h) (p_lk_at hl hv) (k p l e R s m args below meth c H locs ls Q hC hret hR hS hl)
theorem PW.istore_n {n : Fin 4} {x : Int32} (h : p_tb j pc = some (.istore_n n, 1)) (hn : (n : Nat) < p_mL j) (k : PW G al d j mc ms Kr (pc + 1) (p_s1 lv n (.int x)) st N M ce sl) : PW G al d j mc ms Kr pc lv (.int x :: st) N M ce sl := by
  intro p l e R s m args below meth c H locs ls Q hC hret hR hS hl
  exact lv_istore_n hC.1 hC.2.1 (p_tb_ok h) rfl hl hn (p_s1_eq G lv n (.int x)) (fun ls' hl' => k p l e R s m args below meth c H locs ls' Q hC hret hR hS hl')
theorem PW.istore {i : Nat} {x : Int32} (h : p_tb j pc = some (.istore i, 2)) (hn : i < p_mL j) (k : PW G al d j mc ms Kr (pc + 2) (p_s1 lv i (.int x)) st N M ce sl) : PW G al d j mc ms Kr pc lv (.int x :: st) N M ce sl := by
  intro p l e R s m args below meth c H locs ls Q hC hret hR hS hl
  exact lv_istore hC.1 hC.2.1 (p_tb_ok h) hl hn (p_s1_eq G lv i (.int x)) (fun ls' hl' => k p l e R s m args below meth c H locs ls' Q hC hret hR hS hl')
theorem PW.astore_n {n : Fin 4} {a : Nat} (h : p_tb j pc = some (.astore_n n, 1)) (hn : (n : Nat) < p_mL j) (k : PW G al d j mc ms Kr (pc + 1) (p_s1 lv n (.ref a)) st N M ce sl) : PW G al d j mc ms Kr pc lv (.ref a :: st) N M ce sl := by
  intro p l e R s m args below meth c H locs ls Q hC hret hR hS hl
  exact lv_astore_n hC.1 hC.2.1 (p_tb_ok h) rfl hl hn (p_s1_eq G lv n (.ref a)) (fun ls' hl' => k p l e R s m args below meth c H locs ls' Q hC hret hR hS hl')
theorem PW.astore {i a : Nat} (h : p_tb j pc = some (.astore i, 2)) (hn : i < p_mL j) (k : PW G al d j mc ms Kr (pc + 2) (p_s1 lv i (.ref a)) st N M ce sl) : PW G al d j mc ms Kr pc lv (.ref a :: st) N M ce sl := by
  intro p l e R s m args below meth c H locs ls Q hC hret hR hS hl
  exact lv_astore hC.1 hC.2.1 (p_tb_ok h) hl hn (p_s1_eq G lv i (.ref a)) (fun ls' hl' => k p l e R s m args below meth c H locs ls' Q hC hret hR hS hl')
theorem PW.lstore_n {n : Fin 4} {x : Int64} (h : p_tb j pc = some (.lstore_n n, 1)) (hn : (n : Nat) + 1 < p_mL j) (k : PW G al d j mc ms Kr (pc + 1) (p_s2 lv n (.long x)) st N M ce sl) : PW G al d j mc ms Kr pc lv (.long x :: st) N M ce sl := by
  intro p l e R s m args below meth c H locs ls Q hC hret hR hS hl
  exact lv_lstore_n hC.1 hC.2.1 (p_tb_ok h) rfl hl hn (p_s2_eq G lv n (.long x)) (fun ls' hl' => k p l e R s m args below meth c H locs ls' Q hC hret hR hS hl')
theorem PW.lstore {i : Nat} {x : Int64} (h : p_tb j pc = some (.lstore i, 2)) (hn : i + 1 < p_mL j) (k : PW G al d j mc ms Kr (pc + 2) (p_s2 lv i (.long x)) st N M ce sl) : PW G al d j mc ms Kr pc lv (.long x :: st) N M ce sl := by
  intro p l e R s m args below meth c H locs ls Q hC hret hR hS hl
  exact lv_lstore hC.1 hC.2.1 (p_tb_ok h) hl hn (p_s2_eq G lv i (.long x)) (fun ls' hl' => k p l e R s m args below meth c H locs ls' Q hC hret hR hS hl')
theorem PW.iinc {i : Nat} {n : Int} {x : Int32} (h : p_tb j pc = some (.iinc i n, 3)) (hv : p_lk lv i = some (.int x)) (hn : i < p_mL j) (k : PW G al d j mc ms Kr (pc + 3) (p_s1 lv i (.int (x + Int32.ofInt n))) st N M ce sl) : PW G al d j mc ms Kr pc lv st N M ce sl := by
  intro p l e R s m args below meth c H locs ls Q hC hret hR hS hl
  obtain ⟨q, hq⟩ := List.mem_iff_getElem?.mp (List.mem_map.mpr ⟨(i, .int x), p_lk_in hv, rfl⟩ : (i, p_v G (.int x)) ∈ p_l G lv)
  exact lv_iinc hC.1 hC.2.1 (p_tb_ok h) hl hq rfl hn (p_s1_eq G lv i (.int (x + Int32.ofInt n))) (fun ls' hl' => k p l e R s m args below meth c H locs ls' Q hC hret hR hS hl')
theorem PW.goto {off : Int} {tgt : Nat} (h : p_tb j pc = some (.goto off, 3)) (ht : (pc : Int) + off = (tgt : Int)) (k : PW G al d j mc ms Kr tgt lv st N M ce sl) : PW G al d j mc ms Kr pc lv st N M ce sl := by
  intro p l e R s m args below meth c H locs ls Q hC hret hR hS hl
  exact lv_goto hC.1 hC.2.1 (p_tb_ok h) ht (k p l e R s m args below meth c H locs ls Q hC hret hR hS hl)
theorem PW.dup {v : Value} (h : p_tb j pc = some (.dup, 1)) (hv : v.category = 1) (k : PW G al d j mc ms Kr (pc + 1) lv (v :: v :: st) N M ce sl) : PW G al d j mc ms Kr pc lv (v :: st) N M ce sl := by
  intro p l e R s m args below meth c H locs ls Q hC hret hR hS hl
  exact lv_dup hC.1 hC.2.1 (p_tb_ok h) (by rw [p_v_cat]; exact hv) (k p l e R s m args below meth c H locs ls Q hC hret hR hS hl)
theorem PW.pop {v : Value} (h : p_tb j pc = some (.pop, 1)) (hv : v.category = 1) (k : PW G al d j mc ms Kr (pc + 1) lv st N M ce sl) : PW G al d j mc ms Kr pc lv (v :: st) N M ce sl := by
  intro p l e R s m args below meth c H locs ls Q hC hret hR hS hl
  exact lv_pop hC.1 hC.2.1 (p_tb_ok h) (by rw [p_v_cat]; exact hv) (k p l e R s m args below meth c H locs ls Q hC hret hR hS hl)
theorem PW.iadd {x y : Int32} (h : p_tb j pc = some (.iadd, 1)) (k : PW G al d j mc ms Kr (pc + 1) lv (.int (x + y) :: st) N M ce sl) : PW G al d j mc ms Kr pc lv (.int y :: .int x :: st) N M ce sl := by
  intro p l e R s m args below meth c H locs ls Q hC hret hR hS hl
  exact lv_iadd hC.1 hC.2.1 (p_tb_ok h) (k p l e R s m args below meth c H locs ls Q hC hret hR hS hl)
theorem PW.isub {x y : Int32} (h : p_tb j pc = some (.isub, 1)) (k : PW G al d j mc ms Kr (pc + 1) lv (.int (x - y) :: st) N M ce sl) : PW G al d j mc ms Kr pc lv (.int y :: .int x :: st) N M ce sl := by
  intro p l e R s m args below meth c H locs ls Q hC hret hR hS hl
  exact lv_isub hC.1 hC.2.1 (p_tb_ok h) (k p l e R s m args below meth c H locs ls Q hC hret hR hS hl)
theorem PW.imul {x y : Int32} (h : p_tb j pc = some (.imul, 1)) (k : PW G al d j mc ms Kr (pc + 1) lv (.int (x * y) :: st) N M ce sl) : PW G al d j mc ms Kr pc lv (.int y :: .int x :: st) N M ce sl := by
  intro p l e R s m args below meth c H locs ls Q hC hret hR hS hl
  exact lv_imul hC.1 hC.2.1 (p_tb_ok h) (k p l e R s m args below meth c H locs ls Q hC hret hR hS hl)
theorem PW.iand {x y : Int32} (h : p_tb j pc = some (.iand, 1)) (k : PW G al d j mc ms Kr (pc + 1) lv (.int (x &&& y) :: st) N M ce sl) : PW G al d j mc ms Kr pc lv (.int y :: .int x :: st) N M ce sl := by
  intro p l e R s m args below meth c H locs ls Q hC hret hR hS hl
  exact lv_iand hC.1 hC.2.1 (p_tb_ok h) (k p l e R s m args below meth c H locs ls Q hC hret hR hS hl)
theorem PW.ior {x y : Int32} (h : p_tb j pc = some (.ior, 1)) (k : PW G al d j mc ms Kr (pc + 1) lv (.int (x ||| y) :: st) N M ce sl) : PW G al d j mc ms Kr pc lv (.int y :: .int x :: st) N M ce sl := by
  intro p l e R s m args below meth c H locs ls Q hC hret hR hS hl
  exact lv_ior hC.1 hC.2.1 (p_tb_ok h) (k p l e R s m args below meth c H locs ls Q hC hret hR hS hl)
theorem PW.ixor {x y : Int32} (h : p_tb j pc = some (.ixor, 1)) (k : PW G al d j mc ms Kr (pc + 1) lv (.int (x ^^^ y) :: st) N M ce sl) : PW G al d j mc ms Kr pc lv (.int y :: .int x :: st) N M ce sl := by
  intro p l e R s m args below meth c H locs ls Q hC hret hR hS hl
  exact lv_ixor hC.1 hC.2.1 (p_tb_ok h) (k p l e R s m args below meth c H locs ls Q hC hret hR hS hl)
theorem PW.ishl {x y : Int32} (h : p_tb j pc = some (.ishl, 1)) (k : PW G al d j mc ms Kr (pc + 1) lv (.int (x <<< (y &&& 31)) :: st) N M ce sl) : PW G al d j mc ms Kr pc lv (.int y :: .int x :: st) N M ce sl := by
  intro p l e R s m args below meth c H locs ls Q hC hret hR hS hl
  exact lv_ishl hC.1 hC.2.1 (p_tb_ok h) (k p l e R s m args below meth c H locs ls Q hC hret hR hS hl)
theorem PW.ishr {x y : Int32} (h : p_tb j pc = some (.ishr, 1)) (k : PW G al d j mc ms Kr (pc + 1) lv (.int (x >>> (y &&& 31)) :: st) N M ce sl) : PW G al d j mc ms Kr pc lv (.int y :: .int x :: st) N M ce sl := by
  intro p l e R s m args below meth c H locs ls Q hC hret hR hS hl
  exact lv_ishr hC.1 hC.2.1 (p_tb_ok h) (k p l e R s m args below meth c H locs ls Q hC hret hR hS hl)
theorem PW.iushr {x y : Int32} (h : p_tb j pc = some (.iushr, 1)) (k : PW G al d j mc ms Kr (pc + 1) lv (.int (x.toUInt32 >>> (y.toUInt32 &&& Int32.toUInt32 31)).toInt32 :: st) N M ce sl) : PW G al d j mc ms Kr pc lv (.int y :: .int x :: st) N M ce sl := by
  intro p l e R s m args below meth c H locs ls Q hC hret hR hS hl
  exact lv_iushr hC.1 hC.2.1 (p_tb_ok h) rfl (k p l e R s m args below meth c H locs ls Q hC hret hR hS hl)
theorem PW.ineg {x : Int32} (h : p_tb j pc = some (.ineg, 1)) (k : PW G al d j mc ms Kr (pc + 1) lv (.int (-x) :: st) N M ce sl) : PW G al d j mc ms Kr pc lv (.int x :: st) N M ce sl := by
  intro p l e R s m args below meth c H locs ls Q hC hret hR hS hl
  exact lv_ineg hC.1 hC.2.1 (p_tb_ok h) (k p l e R s m args below meth c H locs ls Q hC hret hR hS hl)
theorem PW.idiv {x y : Int32} (h : p_tb j pc = some (.idiv, 1)) (hy : ¬ y = 0) (k : PW G al d j mc ms Kr (pc + 1) lv (.int (x / y) :: st) N M ce sl) : PW G al d j mc ms Kr pc lv (.int y :: .int x :: st) N M ce sl := by
  intro p l e R s m args below meth c H locs ls Q hC hret hR hS hl
  exact lv_idiv hC.1 hC.2.1 (p_tb_ok h) hy (k p l e R s m args below meth c H locs ls Q hC hret hR hS hl)
theorem PW.irem {x y : Int32} (h : p_tb j pc = some (.irem, 1)) (hy : ¬ y = 0) (k : PW G al d j mc ms Kr (pc + 1) lv (.int (x - x / y * y) :: st) N M ce sl) : PW G al d j mc ms Kr pc lv (.int y :: .int x :: st) N M ce sl := by
  intro p l e R s m args below meth c H locs ls Q hC hret hR hS hl
  exact lv_irem hC.1 hC.2.1 (p_tb_ok h) hy (k p l e R s m args below meth c H locs ls Q hC hret hR hS hl)
theorem PW.ladd {x y : Int64} (h : p_tb j pc = some (.ladd, 1)) (k : PW G al d j mc ms Kr (pc + 1) lv (.long (x + y) :: st) N M ce sl) : PW G al d j mc ms Kr pc lv (.long y :: .long x :: st) N M ce sl := by
  intro p l e R s m args below meth c H locs ls Q hC hret hR hS hl
  exact lv_ladd hC.1 hC.2.1 (p_tb_ok h) (k p l e R s m args below meth c H locs ls Q hC hret hR hS hl)
theorem PW.lmul {x y : Int64} (h : p_tb j pc = some (.lmul, 1)) (k : PW G al d j mc ms Kr (pc + 1) lv (.long (x * y) :: st) N M ce sl) : PW G al d j mc ms Kr pc lv (.long y :: .long x :: st) N M ce sl := by
  intro p l e R s m args below meth c H locs ls Q hC hret hR hS hl
  exact lv_lmul hC.1 hC.2.1 (p_tb_ok h) (k p l e R s m args below meth c H locs ls Q hC hret hR hS hl)
theorem PW.lor {x y : Int64} (h : p_tb j pc = some (.lor, 1)) (k : PW G al d j mc ms Kr (pc + 1) lv (.long (x ||| y) :: st) N M ce sl) : PW G al d j mc ms Kr pc lv (.long y :: .long x :: st) N M ce sl := by
  intro p l e R s m args below meth c H locs ls Q hC hret hR hS hl
  exact lv_lor hC.1 hC.2.1 (p_tb_ok h) (k p l e R s m args below meth c H locs ls Q hC hret hR hS hl)
theorem PW.ldiv {x y : Int64} (h : p_tb j pc = some (.ldiv, 1)) (hy : ¬ y = 0) (k : PW G al d j mc ms Kr (pc + 1) lv (.long (x / y) :: st) N M ce sl) : PW G al d j mc ms Kr pc lv (.long y :: .long x :: st) N M ce sl := by
  intro p l e R s m args below meth c H locs ls Q hC hret hR hS hl
  exact lv_ldiv hC.1 hC.2.1 (p_tb_ok h) hy (k p l e R s m args below meth c H locs ls Q hC hret hR hS hl)
theorem PW.lrem {x y : Int64} (h : p_tb j pc = some (.lrem, 1)) (hy : ¬ y = 0) (k : PW G al d j mc ms Kr (pc + 1) lv (.long (x - x / y * y) :: st) N M ce sl) : PW G al d j mc ms Kr pc lv (.long y :: .long x :: st) N M ce sl := by
  intro p l e R s m args below meth c H locs ls Q hC hret hR hS hl
  exact lv_lrem hC.1 hC.2.1 (p_tb_ok h) hy (k p l e R s m args below meth c H locs ls Q hC hret hR hS hl)
theorem PW.lshl {x : Int64} {y : Int32} (h : p_tb j pc = some (.lshl, 1)) (k : PW G al d j mc ms Kr (pc + 1) lv (.long (x <<< (y.toInt64 &&& 63)) :: st) N M ce sl) : PW G al d j mc ms Kr pc lv (.int y :: .long x :: st) N M ce sl := by
  intro p l e R s m args below meth c H locs ls Q hC hret hR hS hl
  exact lv_lshl hC.1 hC.2.1 (p_tb_ok h) rfl (k p l e R s m args below meth c H locs ls Q hC hret hR hS hl)
theorem PW.lcmp {x y : Int64} (h : p_tb j pc = some (.lcmp, 1)) (k : PW G al d j mc ms Kr (pc + 1) lv (.int (lg_cmp x y) :: st) N M ce sl) : PW G al d j mc ms Kr pc lv (.long y :: .long x :: st) N M ce sl := by
  intro p l e R s m args below meth c H locs ls Q hC hret hR hS hl
  exact W.lcmp hC.1 hC.2.1 (p_tb_ok h) (k p l e R s m args below meth c H locs ls Q hC hret hR hS hl)
theorem PW.i2l {x : Int32} (h : p_tb j pc = some (.i2l, 1)) (k : PW G al d j mc ms Kr (pc + 1) lv (.long x.toInt64 :: st) N M ce sl) : PW G al d j mc ms Kr pc lv (.int x :: st) N M ce sl := by
  intro p l e R s m args below meth c H locs ls Q hC hret hR hS hl
  exact lv_i2l hC.1 hC.2.1 (p_tb_ok h) rfl (k p l e R s m args below meth c H locs ls Q hC hret hR hS hl)
theorem PW.l2i {x : Int64} (h : p_tb j pc = some (.l2i, 1)) (k : PW G al d j mc ms Kr (pc + 1) lv (.int x.toInt32 :: st) N M ce sl) : PW G al d j mc ms Kr pc lv (.long x :: st) N M ce sl := by
  intro p l e R s m args below meth c H locs ls Q hC hret hR hS hl
  exact lv_l2i hC.1 hC.2.1 (p_tb_ok h) rfl (k p l e R s m args below meth c H locs ls Q hC hret hR hS hl)
theorem PW.i2b {x : Int32} (h : p_tb j pc = some (.i2b, 1)) (k : PW G al d j mc ms Kr (pc + 1) lv (.int x.toInt8.toInt32 :: st) N M ce sl) : PW G al d j mc ms Kr pc lv (.int x :: st) N M ce sl := by
  intro p l e R s m args below meth c H locs ls Q hC hret hR hS hl
  exact lv_i2b hC.1 hC.2.1 (p_tb_ok h) rfl (k p l e R s m args below meth c H locs ls Q hC hret hR hS hl)
theorem PW.if_eq {x : Int32} {off : Int} {tgt : Nat} (h : p_tb j pc = some (.ifCond .eq off, 3)) (ht : (pc : Int) + off = (tgt : Int)) (kt : x = 0 → PW G al d j mc ms Kr tgt lv st N M ce sl) (kf : ¬ x = 0 → PW G al d j mc ms Kr (pc + 3) lv st N M ce sl) : PW G al d j mc ms Kr pc lv (.int x :: st) N M ce sl := by
  intro p l e R s m args below meth c H locs ls Q hC hret hR hS hl
  exact lv_if_eq hC.1 hC.2.1 (p_tb_ok h) ht (fun q => kt q p l e R s m args below meth c H locs ls Q hC hret hR hS hl) (fun q => kf q p l e R s m args below meth c H locs ls Q hC hret hR hS hl)
theorem PW.if_ne {x : Int32} {off : Int} {tgt : Nat} (h : p_tb j pc = some (.ifCond .ne off, 3)) (ht : (pc : Int) + off = (tgt : Int)) (kt : ¬ x = 0 → PW G al d j mc ms Kr tgt lv st N M ce sl) (kf : x = 0 → PW G al d j mc ms Kr (pc + 3) lv st N M ce sl) : PW G al d j mc ms Kr pc lv (.int x :: st) N M ce sl := by
  intro p l e R s m args below meth c H locs ls Q hC hret hR hS hl
  exact lv_if_ne hC.1 hC.2.1 (p_tb_ok h) ht (fun q => kt q p l e R s m args below meth c H locs ls Q hC hret hR hS hl) (fun q => kf q p l e R s m args below meth c H locs ls Q hC hret hR hS hl)
theorem PW.if_lt {x : Int32} {off : Int} {tgt : Nat} (h : p_tb j pc = some (.ifCond .lt off, 3)) (ht : (pc : Int) + off = (tgt : Int)) (kt : x < 0 → PW G al d j mc ms Kr tgt lv st N M ce sl) (kf : ¬ x < 0 → PW G al d j mc ms Kr (pc + 3) lv st N M ce sl) : PW G al d j mc ms Kr pc lv (.int x :: st) N M ce sl := by
  intro p l e R s m args below meth c H locs ls Q hC hret hR hS hl
  exact lv_if_lt hC.1 hC.2.1 (p_tb_ok h) ht (fun q => kt q p l e R s m args below meth c H locs ls Q hC hret hR hS hl) (fun q => kf q p l e R s m args below meth c H locs ls Q hC hret hR hS hl)
theorem PW.if_ge {x : Int32} {off : Int} {tgt : Nat} (h : p_tb j pc = some (.ifCond .ge off, 3)) (ht : (pc : Int) + off = (tgt : Int)) (kt : 0 ≤ x → PW G al d j mc ms Kr tgt lv st N M ce sl) (kf : ¬ 0 ≤ x → PW G al d j mc ms Kr (pc + 3) lv st N M ce sl) : PW G al d j mc ms Kr pc lv (.int x :: st) N M ce sl := by
  intro p l e R s m args below meth c H locs ls Q hC hret hR hS hl
  exact lv_if_ge hC.1 hC.2.1 (p_tb_ok h) ht (fun q => kt q p l e R s m args below meth c H locs ls Q hC hret hR hS hl) (fun q => kf q p l e R s m args below meth c H locs ls Q hC hret hR hS hl)
theorem PW.if_gt {x : Int32} {off : Int} {tgt : Nat} (h : p_tb j pc = some (.ifCond .gt off, 3)) (ht : (pc : Int) + off = (tgt : Int)) (kt : 0 < x → PW G al d j mc ms Kr tgt lv st N M ce sl) (kf : ¬ 0 < x → PW G al d j mc ms Kr (pc + 3) lv st N M ce sl) : PW G al d j mc ms Kr pc lv (.int x :: st) N M ce sl := by
  intro p l e R s m args below meth c H locs ls Q hC hret hR hS hl
  exact lv_if_gt hC.1 hC.2.1 (p_tb_ok h) ht (fun q => kt q p l e R s m args below meth c H locs ls Q hC hret hR hS hl) (fun q => kf q p l e R s m args below meth c H locs ls Q hC hret hR hS hl)
theorem PW.if_le {x : Int32} {off : Int} {tgt : Nat} (h : p_tb j pc = some (.ifCond .le off, 3)) (ht : (pc : Int) + off = (tgt : Int)) (kt : x ≤ 0 → PW G al d j mc ms Kr tgt lv st N M ce sl) (kf : ¬ x ≤ 0 → PW G al d j mc ms Kr (pc + 3) lv st N M ce sl) : PW G al d j mc ms Kr pc lv (.int x :: st) N M ce sl := by
  intro p l e R s m args below meth c H locs ls Q hC hret hR hS hl
  exact lv_if_le hC.1 hC.2.1 (p_tb_ok h) ht (fun q => kt q p l e R s m args below meth c H locs ls Q hC hret hR hS hl) (fun q => kf q p l e R s m args below meth c H locs ls Q hC hret hR hS hl)
theorem PW.icmp_eq {x y : Int32} {off : Int} {tgt : Nat} (h : p_tb j pc = some (.if_icmp .eq off, 3)) (ht : (pc : Int) + off = (tgt : Int)) (kt : x = y → PW G al d j mc ms Kr tgt lv st N M ce sl) (kf : ¬ x = y → PW G al d j mc ms Kr (pc + 3) lv st N M ce sl) : PW G al d j mc ms Kr pc lv (.int y :: .int x :: st) N M ce sl := by
  intro p l e R s m args below meth c H locs ls Q hC hret hR hS hl
  exact lv_icmp_eq hC.1 hC.2.1 (p_tb_ok h) ht (fun q => kt q p l e R s m args below meth c H locs ls Q hC hret hR hS hl) (fun q => kf q p l e R s m args below meth c H locs ls Q hC hret hR hS hl)
theorem PW.icmp_ne {x y : Int32} {off : Int} {tgt : Nat} (h : p_tb j pc = some (.if_icmp .ne off, 3)) (ht : (pc : Int) + off = (tgt : Int)) (kt : ¬ x = y → PW G al d j mc ms Kr tgt lv st N M ce sl) (kf : x = y → PW G al d j mc ms Kr (pc + 3) lv st N M ce sl) : PW G al d j mc ms Kr pc lv (.int y :: .int x :: st) N M ce sl := by
  intro p l e R s m args below meth c H locs ls Q hC hret hR hS hl
  exact lv_icmp_ne hC.1 hC.2.1 (p_tb_ok h) ht (fun q => kt q p l e R s m args below meth c H locs ls Q hC hret hR hS hl) (fun q => kf q p l e R s m args below meth c H locs ls Q hC hret hR hS hl)
theorem PW.icmp_lt {x y : Int32} {off : Int} {tgt : Nat} (h : p_tb j pc = some (.if_icmp .lt off, 3)) (ht : (pc : Int) + off = (tgt : Int)) (kt : x < y → PW G al d j mc ms Kr tgt lv st N M ce sl) (kf : ¬ x < y → PW G al d j mc ms Kr (pc + 3) lv st N M ce sl) : PW G al d j mc ms Kr pc lv (.int y :: .int x :: st) N M ce sl := by
  intro p l e R s m args below meth c H locs ls Q hC hret hR hS hl
  exact lv_icmp_lt hC.1 hC.2.1 (p_tb_ok h) ht (fun q => kt q p l e R s m args below meth c H locs ls Q hC hret hR hS hl) (fun q => kf q p l e R s m args below meth c H locs ls Q hC hret hR hS hl)
theorem PW.icmp_ge {x y : Int32} {off : Int} {tgt : Nat} (h : p_tb j pc = some (.if_icmp .ge off, 3)) (ht : (pc : Int) + off = (tgt : Int)) (kt : y ≤ x → PW G al d j mc ms Kr tgt lv st N M ce sl) (kf : ¬ y ≤ x → PW G al d j mc ms Kr (pc + 3) lv st N M ce sl) : PW G al d j mc ms Kr pc lv (.int y :: .int x :: st) N M ce sl := by
  intro p l e R s m args below meth c H locs ls Q hC hret hR hS hl
  exact lv_icmp_ge hC.1 hC.2.1 (p_tb_ok h) ht (fun q => kt q p l e R s m args below meth c H locs ls Q hC hret hR hS hl) (fun q => kf q p l e R s m args below meth c H locs ls Q hC hret hR hS hl)
theorem PW.icmp_gt {x y : Int32} {off : Int} {tgt : Nat} (h : p_tb j pc = some (.if_icmp .gt off, 3)) (ht : (pc : Int) + off = (tgt : Int)) (kt : y < x → PW G al d j mc ms Kr tgt lv st N M ce sl) (kf : ¬ y < x → PW G al d j mc ms Kr (pc + 3) lv st N M ce sl) : PW G al d j mc ms Kr pc lv (.int y :: .int x :: st) N M ce sl := by
  intro p l e R s m args below meth c H locs ls Q hC hret hR hS hl
  exact lv_icmp_gt hC.1 hC.2.1 (p_tb_ok h) ht (fun q => kt q p l e R s m args below meth c H locs ls Q hC hret hR hS hl) (fun q => kf q p l e R s m args below meth c H locs ls Q hC hret hR hS hl)
theorem PW.icmp_le {x y : Int32} {off : Int} {tgt : Nat} (h : p_tb j pc = some (.if_icmp .le off, 3)) (ht : (pc : Int) + off = (tgt : Int)) (kt : x ≤ y → PW G al d j mc ms Kr tgt lv st N M ce sl) (kf : ¬ x ≤ y → PW G al d j mc ms Kr (pc + 3) lv st N M ce sl) : PW G al d j mc ms Kr pc lv (.int y :: .int x :: st) N M ce sl := by
  intro p l e R s m args below meth c H locs ls Q hC hret hR hS hl
  exact lv_icmp_le hC.1 hC.2.1 (p_tb_ok h) ht (fun q => kt q p l e R s m args below meth c H locs ls Q hC hret hR hS hl) (fun q => kf q p l e R s m args below meth c H locs ls Q hC hret hR hS hl)
end Rules
