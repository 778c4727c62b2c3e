/-! ===== rules with named results ===== -/
theorem n_bd {z : Int} (h1 : -2147483648 ≤ z) (h2 : z ≤ 2147483647) : z.bmod (2 ^ 32) = z := Int.bmod_eq_of_le (by omega) (by omega)
theorem n_lt {x y : Int32} : x < y ↔ x.toInt < y.toInt := Int32.lt_iff_toInt_lt
theorem n_le {x y : Int32} : x ≤ y ↔ x.toInt ≤ y.toInt := Int32.le_iff_toInt_le
theorem n_eq {x y : Int32} : x = y ↔ x.toInt = y.toInt := ⟨fun h => by rw [h], fun h => Int32.toInt_inj.mp h⟩
theorem n_0 : (0 : Int32).toInt = 0 := rfl
theorem n_nat (x : Int32) : x.toNatClampNeg = x.toInt.toNat := rfl
def gB (K p q : Nat) (lo hi : Int) : Prop := ∀ c, p ≤ c → c ≤ q → lo ≤ (g_as K c).1 ∧ (g_as K c).2 ≤ hi
def gBk (K p q : Nat) (lo hi : Int) : Bool := (List.range (q + 1 - p)).all fun d => decide (lo ≤ (g_as K (p + d)).1) && decide ((g_as K (p + d)).2 ≤ hi)
theorem gB.of {K p q : Nat} {lo hi : Int} (h : gBk K p q lo hi = true) : gB K p q lo hi := fun c h1 h2 => by
  have r := List.all_eq_true.mp h (c - p) (List.mem_range.mpr (by omega))
  rw [Bool.and_eq_true, decide_eq_true_eq, decide_eq_true_eq, show p + (c - p) = c by omega] at r
  exact r
def gC (K p q : Nat) (lo hi : Int) : Prop := ∀ c, p ≤ c → c ≤ q → (g_as K c).1 ≤ lo ∧ hi ≤ (g_as K c).2
def gCk (K p q : Nat) (lo hi : Int) : Bool := (List.range (q + 1 - p)).all fun d => decide ((g_as K (p + d)).1 ≤ lo) && decide (hi ≤ (g_as K (p + d)).2)
theorem gC.of {K p q : Nat} {lo hi : Int} (h : gCk K p q lo hi = true) : gC K p q lo hi := fun c h1 h2 => by
  have r := List.all_eq_true.mp h (c - p) (List.mem_range.mpr (by omega))
  rw [Bool.and_eq_true, decide_eq_true_eq, decide_eq_true_eq, show p + (c - p) = c by omega] at r
  exact r
theorem InvB.arr {M : pM} {a K t n : Nat} (I : InvB M) (hk : g_kd a = K) (hK : K < 60) (hA : g_sh K = (1, t, n)) : a < 311 ∧ M a = .inl (t, n, .inl (o_a (M a))) ∧ ∀ i, i < n → (g_as K i).1 ≤ (o_a (M a) i).toInt ∧ (o_a (M a) i).toInt ≤ (g_as K i).2 := by
  have ha := g_kd_lt hk hK
  have q := (I a ha).2.1
  rw [hk, hA] at q
  obtain ⟨f, e1, e2⟩ := q rfl
  have e3 : o_a (M a) = f := by rw [e1]; rfl
  exact ⟨ha, by rw [e3]; exact e1, by rw [e3]; exact e2⟩
theorem InvB.larr {M : pM} {a K n : Nat} (I : InvB M) (hk : g_kd a = K) (hK : K < 60) (hA : g_sh K = (2, 2, n)) : a < 311 ∧ M a = .inl (2, n, .inr (.inl (o_l (M a)))) := by
  have ha := g_kd_lt hk hK
  have q := (I a ha).2.2.1
  rw [hk, hA] at q
  obtain ⟨f, e1⟩ := q rfl
  have e3 : o_l (M a) = f := by rw [e1]; rfl
  exact ⟨ha, by rw [e3]; exact e1⟩
theorem InvB.rarr {M : pM} {a K t n : Nat} (I : InvB M) (hk : g_kd a = K) (hK : K < 60) (hA : g_sh K = (3, t, n)) : a < 311 ∧ M a = .inl (t, n, .inr (.inr (.inr (.inr (o_r (M a)))))) ∧ ∀ i, i < n → o_r (M a) i = some (a + 1 + (g_fs K 0).2.1.toNat * i) := by
  have ha := g_kd_lt hk hK
  have q := (I a ha).2.2.2.1
  rw [hk, hA] at q
  obtain ⟨f, e1, e2⟩ := q rfl
  have e3 : o_r (M a) = f := by rw [e1]; rfl
  exact ⟨ha, by rw [e3]; exact e1, by rw [e3]; exact e2⟩
theorem InvB.warr {M : pM} {a K t n : Nat} (I : InvB M) (hk : g_kd a = K) (hK : K < 60) (hA : g_sh K = (4, t, n)) : a < 311 ∧ M a = .inl (t, n, .inr (.inr (.inr (.inr (o_r (M a)))))) ∧ ∀ i, i < n → o_r (M a) i = none ∨ ∃ r, r < 28 ∧ o_r (M a) i = some (65536 + r) := by
  have ha := g_kd_lt hk hK
  have q := (I a ha).2.2.2.2
  rw [hk, hA] at q
  obtain ⟨f, e1, e2⟩ := q rfl
  have e3 : o_r (M a) = f := by rw [e1]; rfl
  exact ⟨ha, by rw [e3]; exact e1, by rw [e3]; exact e2⟩
theorem InvB.setA {M M1 : pM} {a K t n : Nat} (I : InvB M) (hk : g_kd a = K) (hA : g_sh K = (1, t, n)) (f : Nat → Int32) (e : M1 a = .inl (t, n, .inl f)) (hf : ∀ i, i < n → (g_as K i).1 ≤ (f i).toInt ∧ (f i).toInt ≤ (g_as K i).2) (ho : ∀ c, c ≠ a → M1 c = M c) : InvB M1 := fun c hc => by
  by_cases q : c = a
  · subst q
    have r0 : (g_sh (g_kd c)).1 = 1 := by rw [hk, hA]
    rw [e]
    refine ⟨fun r => ?_, fun _ => ⟨f, by rw [hk, hA], by rw [hk, hA]; exact hf⟩, fun r => ?_, fun r => ?_, fun r => ?_⟩
    all_goals (rw [r0] at r; cases r)
  · rw [ho c q]
    exact I c hc
theorem InvB.setL {M M1 : pM} {a K n : Nat} (I : InvB M) (hk : g_kd a = K) (hA : g_sh K = (2, 2, n)) (f : Nat → Int64) (e : M1 a = .inl (2, n, .inr (.inl f))) (ho : ∀ c, c ≠ a → M1 c = M c) : InvB M1 := fun c hc => by
  by_cases q : c = a
  · subst q
    have r0 : (g_sh (g_kd c)).1 = 2 := by rw [hk, hA]
    rw [e]
    refine ⟨fun r => ?_, fun r => ?_, fun _ => ⟨f, by rw [hk, hA]⟩, fun r => ?_, fun r => ?_⟩
    all_goals (rw [r0] at r; cases r)
  · rw [ho c q]
    exact I c hc
theorem InvB.setW {M M1 : pM} {a K t n : Nat} (I : InvB M) (hk : g_kd a = K) (hA : g_sh K = (4, t, n)) (f : Nat → Option Nat) (e : M1 a = .inl (t, n, .inr (.inr (.inr (.inr f))))) (hf : ∀ i, i < n → f i = none ∨ ∃ r, r < 28 ∧ f i = some (65536 + r)) (ho : ∀ c, c ≠ a → M1 c = M c) : InvB M1 := fun c hc => by
  by_cases q : c = a
  · subst q
    have r0 : (g_sh (g_kd c)).1 = 4 := by rw [hk, hA]
    rw [e]
    refine ⟨fun r => ?_, fun r => ?_, fun r => ?_, fun r => ?_, fun _ => ⟨f, by rw [hk, hA], by rw [hk, hA]; exact hf⟩⟩
    all_goals (rw [r0] at r; cases r)
  · rw [ho c q]
    exact I c hc
theorem gVT {M M1 : pM} {a K : Nat} (h : ∀ c, c ≠ a → M1 c = M c) (hk : g_kd a = K) (hs : (g_sh K).1 ≠ 0) (T : g_T M) : g_T M1 := by
  have s : ∀ c K2, g_kd c = K2 → (g_sh K2).1 = 0 → M1 c = M c := fun c K2 h1 h2 => h c fun e => hs (by rw [← hk, ← e, h1]; exact h2)
  intro b hb
  obtain ⟨q1, q2, -⟩ := g_k5 hb
  rw [s _ 9 q1 rfl, s _ 9 q2 rfl, s b 5 hb rfl]
  exact T b hb
theorem gVTM {M M1 : pM} {a K : Nat} (h : ∀ c, c ≠ a → M1 c = M c) (hk : g_kd a = K) (hs : g_sA K = false) (T : g_TM M) : g_TM M1 := by
  have s : ∀ c K2, g_kd c = K2 → g_sA K2 = true → M1 c = M c := fun c K2 h1 h2 => h c fun e => by
    subst e; rw [h1] at hk; subst hk; rw [h2] at hs; cases hs
  unfold g_TM
  rw [s 296 42 rfl rfl, s 302 48 rfl rfl, s 301 47 rfl rfl, s 307 53 rfl rfl]
  exact T
theorem gVv.TM {M M1 : pM} {q : Nat} (U : gVv M M1 296 q) (hn : g_no q) (h : g_TM M) : g_TM M1 := by
  obtain ⟨n1, n2, n3, n4⟩ := hn
  have s : ∀ z, z = 33 ∨ z = 80 ∨ z = 81 ∨ 216 ≤ z → o_a (M1 296) z = o_a (M 296) z := fun z hz => U.2 z (by omega)
  obtain ⟨⟨⟨t1, t2⟩, t3⟩, t4, t5, t6⟩ := h
  unfold g_TM
  rw [U.1 302 (by decide), U.1 301 (by decide), U.1 307 (by decide)]
  refine ⟨⟨⟨?_, ?_⟩, ?_⟩, t4, t5, t6⟩
  · show (o_a (M1 296) 80).toInt ≤ (o_a (M1 296) 33).toInt
    rw [s 80 (by omega), s 33 (by omega)]; exact t1
  · show (o_a (M1 296) 81).toInt ≤ (o_a (M1 296) 33).toInt
    rw [s 81 (by omega), s 33 (by omega)]; exact t2
  · rw [s 216 (by omega), show (fun i => o_a (M1 296) (217 + i)) = (fun i => o_a (M 296) (217 + i)) from funext fun i => s _ (by omega)]
    exact t3
theorem Stab0 : Stab gTT := ⟨fun M M1 a i K h U hk hs hs2 => ⟨U.T hk hs h.1, U.TM hk hs2 h.2⟩, fun M M1 a K h U hk hs hs2 => ⟨gVT U hk hs h.1, gVTM U hk hs2 h.2⟩, fun M M1 q h U hn => ⟨gVT (K := 42) U.1 rfl (by decide) h.1, U.TM hn h.2⟩⟩
/-- the dogs' and the scenes' numbers are those of M0, and the reference is whole -/
def gEq (M0 M : pM) : Prop := (∀ a, g_kd a = 5 → o_f (M a) 0 = o_f (M0 a) 0) ∧ (∀ a, g_kd a = 9 → o_f (M a) 3 = o_f (M0 a) 3) ∧ g_TM M
theorem StabE (M0 : pM) : Stab (gEq M0) := by
  refine ⟨fun M M1 a i K h U hk hs hs2 => ⟨fun b hb => ?_, fun b hb => ?_, U.TM hk hs2 h.2.2⟩, fun M M1 a K h U hk hs hs2 => ⟨fun b hb => ?_, fun b hb => ?_, gVTM U hk hs2 h.2.2⟩, fun M M1 q h U hn => ⟨fun b hb => ?_, fun b hb => ?_, U.TM hn h.2.2⟩⟩
  · rw [U.f (by
      by_cases e : b = a
      · refine Or.inr fun e2 => ?_
        subst e; subst e2; rw [hb] at hk; subst hk; cases hs
      · exact Or.inl e)]
    exact h.1 b hb
  · rw [U.f (by
      by_cases e : b = a
      · refine Or.inr fun e2 => ?_
        subst e; subst e2; rw [hb] at hk; subst hk; cases hs
      · exact Or.inl e)]
    exact h.2.1 b hb
  · rw [U b fun e => hs (by rw [← hk, ← e, hb]; rfl)]; exact h.1 b hb
  · rw [U b fun e => hs (by rw [← hk, ← e, hb]; rfl)]; exact h.2.1 b hb
  · rw [U.1 b (g_ne hb (rfl : g_kd 296 = 42) (by decide))]; exact h.1 b hb
  · rw [U.1 b (g_ne hb (rfl : g_kd 296 = 42) (by decide))]; exact h.2.1 b hb
theorem Fr.pu {l : List Nat} {M M1 M2 : pM} {a K : Nat} (h : Fr l M M1) (U : ∀ c, c ≠ a → M2 c = M1 c) (hk : g_kd a = K) (hl : l.contains K = true) : Fr l M M2 := fun c hc => by
  rw [U c fun e => hc (by rw [e, hk]; simpa using hl), h c hc]
theorem Fr.at {l : List Nat} {M M1 : pM} {c K : Nat} (h : Fr l M M1) (hk : g_kd c = K) (hl : l.contains K = false) : M1 c = M c := h c (by rw [hk]; simpa using hl)
section Rules
variable {V : pM → Prop} {G : pG} {al : Bool} {d j mc ms : Nat} {Kr : pK} {pc : Nat} {lv : List (Nat × Value)} {st : List Value} {N : Nat} {M : pM} {ce sl : Nat}
theorem PW.up {d' : Nat} (h : d' ≤ d) (k : PW G al d' j mc ms Kr pc lv st N M ce sl) : PW G al d j mc ms Kr pc lv st N M ce sl := by
  intro p l e R s m args below meth c H locs ls Q hC hret hR hS hl
  exact k p l e R s m args below meth c H locs ls Q ⟨hC.1, hC.2.1, hC.2.2.1, hC.2.2.2.1, hC.2.2.2.2.1, hC.2.2.2.2.2.1, hC.2.2.2.2.2.2.1, Nat.le_trans h hC.2.2.2.2.2.2.2.1, Nat.le_trans (Nat.mul_le_mul_left 80 h) hC.2.2.2.2.2.2.2.2.1, hC.2.2.2.2.2.2.2.2.2.1, hC.2.2.2.2.2.2.2.2.2.2⟩ hret hR hS hl
theorem PW.lvC {lv' : List (Nat × Value)} (e : lv = lv') (k : PW G al d j mc ms Kr pc lv' st N M ce sl) : PW G al d j mc ms Kr pc lv st N M ce sl := by rw [e]; exact k
theorem PW.stC {st' : List Value} (e : st = st') (k : PW G al d j mc ms Kr pc lv st' N M ce sl) : PW G al d j mc ms Kr pc lv st N M ce sl := by rw [e]; exact k
theorem PW.cI {n : Int} (h : p_tb j pc = some (.iconst n, 1)) (hn : (Int32.ofInt n).toInt = n) (k : ∀ z : Int32, z.toInt = n → PW G al d j mc ms Kr (pc + 1) lv (.int z :: st) N M ce sl) : PW G al d j mc ms Kr pc lv st N M ce sl := PW.iconst h (k _ hn)
theorem PW.cB {n : Int} (h : p_tb j pc = some (.bipush n, 2)) (hn : (Int8.ofInt n).toInt32.toInt = n) (k : ∀ z : Int32, z.toInt = n → PW G al d j mc ms Kr (pc + 2) lv (.int z :: st) N M ce sl) : PW G al d j mc ms Kr pc lv st N M ce sl := PW.bipush h (k _ hn)
theorem PW.cS {n : Int} (h : p_tb j pc = some (.sipush n, 3)) (hn : (Int16.ofInt n).toInt32.toInt = n) (k : ∀ z : Int32, z.toInt = n → PW G al d j mc ms Kr (pc + 3) lv (.int z :: st) N M ce sl) : PW G al d j mc ms Kr pc lv st N M ce sl := PW.sipush h (k _ hn)
theorem PW.incN {i : Nat} {n : Int} {x : Int32} (h : p_tb j pc = some (.iinc i n, 3)) (hv : p_lk lv i = some (.int x)) (hn : i < p_mL j) (hz : (Int32.ofInt n).toInt = n) (h1 : -2147483648 ≤ x.toInt + n) (h2 : x.toInt + n ≤ 2147483647) (k : ∀ z : Int32, z.toInt = x.toInt + n → PW G al d j mc ms Kr (pc + 3) (p_s1 lv i (.int z)) st N M ce sl) : PW G al d j mc ms Kr pc lv st N M ce sl :=
  PW.iinc h hv hn (k _ (by rw [Int32.toInt_add, hz]; exact n_bd h1 h2))
theorem PW.incH {i : Nat} {n : Int} {x : Int32} (h : p_tb j pc = some (.iinc i n, 3)) (hv : p_lk lv i = some (.int x)) (hn : i < p_mL j) (k : ∀ z : Int32, PW G al d j mc ms Kr (pc + 3) (p_s1 lv i (.int z)) st N M ce sl) : PW G al d j mc ms Kr pc lv st N M ce sl := PW.iinc h hv hn (k _)
theorem PW.addN {x y : Int32} (h : p_tb j pc = some (.iadd, 1)) (h1 : -2147483648 ≤ x.toInt + y.toInt) (h2 : x.toInt + y.toInt ≤ 2147483647) (k : ∀ z : Int32, z.toInt = x.toInt + y.toInt → PW G al d j mc ms Kr (pc + 1) lv (.int z :: st) N M ce sl) : PW G al d j mc ms Kr pc lv (.int y :: .int x :: st) N M ce sl := PW.iadd h (k _ (by rw [Int32.toInt_add]; exact n_bd h1 h2))
theorem PW.addH {x y : Int32} (h : p_tb j pc = some (.iadd, 1)) (k : ∀ z : Int32, PW G al d j mc ms Kr (pc + 1) lv (.int z :: st) N M ce sl) : PW G al d j mc ms Kr pc lv (.int y :: .int x :: st) N M ce sl := PW.iadd h (k _)
theorem PW.subN {x y : Int32} (h : p_tb j pc = some (.isub, 1)) (h1 : -2147483648 ≤ x.toInt - y.toInt) (h2 : x.toInt - y.toInt ≤ 2147483647) (k : ∀ z : Int32, z.toInt = x.toInt - y.toInt → PW G al d j mc ms Kr (pc + 1) lv (.int z :: st) N M ce sl) : PW G al d j mc ms Kr pc lv (.int y :: .int x :: st) N M ce sl := PW.isub h (k _ (by rw [Int32.toInt_sub]; exact n_bd h1 h2))
theorem PW.subH {x y : Int32} (h : p_tb j pc = some (.isub, 1)) (k : ∀ z : Int32, PW G al d j mc ms Kr (pc + 1) lv (.int z :: st) N M ce sl) : PW G al d j mc ms Kr pc lv (.int y :: .int x :: st) N M ce sl := PW.isub h (k _)
theorem PW.mulN {x y : Int32} (h : p_tb j pc = some (.imul, 1)) (c : Int) (hy : x.toInt = c ∨ y.toInt = c) (w : Int32) (hw : x.toInt = c → w = y) (hw2 : y.toInt = c → w = x) (h1 : -2147483648 ≤ c * w.toInt) (h2 : c * w.toInt ≤ 2147483647) (k : ∀ z : Int32, z.toInt = c * w.toInt → PW G al d j mc ms Kr (pc + 1) lv (.int z :: st) N M ce sl) : PW G al d j mc ms Kr pc lv (.int y :: .int x :: st) N M ce sl := by
  refine PW.imul h (k _ ?_)
  rw [Int32.toInt_mul]
  rcases hy with q | q
  · rw [hw q] at h1 h2 ⊢; rw [q]; exact n_bd h1 h2
  · rw [hw2 q] at h1 h2 ⊢; rw [q, Int.mul_comm]; exact n_bd h1 h2
theorem PW.mulH {x y : Int32} (h : p_tb j pc = some (.imul, 1)) (k : ∀ z : Int32, PW G al d j mc ms Kr (pc + 1) lv (.int z :: st) N M ce sl) : PW G al d j mc ms Kr pc lv (.int y :: .int x :: st) N M ce sl := PW.imul h (k _)
theorem PW.andH {x y : Int32} (h : p_tb j pc = some (.iand, 1)) (k : ∀ z : Int32, PW G al d j mc ms Kr (pc + 1) lv (.int z :: st) N M ce sl) : PW G al d j mc ms Kr pc lv (.int y :: .int x :: st) N M ce sl := PW.iand h (k _)
theorem PW.orH {x y : Int32} (h : p_tb j pc = some (.ior, 1)) (k : ∀ z : Int32, PW G al d j mc ms Kr (pc + 1) lv (.int z :: st) N M ce sl) : PW G al d j mc ms Kr pc lv (.int y :: .int x :: st) N M ce sl := PW.ior h (k _)
theorem PW.xorH {x y : Int32} (h : p_tb j pc = some (.ixor, 1)) (k : ∀ z : Int32, PW G al d j mc ms Kr (pc + 1) lv (.int z :: st) N M ce sl) : PW G al d j mc ms Kr pc lv (.int y :: .int x :: st) N M ce sl := PW.ixor h (k _)
theorem PW.shlH {x y : Int32} (h : p_tb j pc = some (.ishl, 1)) (k : ∀ z : Int32, PW G al d j mc ms Kr (pc + 1) lv (.int z :: st) N M ce sl) : PW G al d j mc ms Kr pc lv (.int y :: .int x :: st) N M ce sl := PW.ishl h (k _)
theorem PW.shrH {x y : Int32} (h : p_tb j pc = some (.ishr, 1)) (k : ∀ z : Int32, PW G al d j mc ms Kr (pc + 1) lv (.int z :: st) N M ce sl) : PW G al d j mc ms Kr pc lv (.int y :: .int x :: st) N M ce sl := PW.ishr h (k _)
theorem PW.ushrH {x y : Int32} (h : p_tb j pc = some (.iushr, 1)) (k : ∀ z : Int32, PW G al d j mc ms Kr (pc + 1) lv (.int z :: st) N M ce sl) : PW G al d j mc ms Kr pc lv (.int y :: .int x :: st) N M ce sl := PW.iushr h (k _)
theorem PW.negH {x : Int32} (h : p_tb j pc = some (.ineg, 1)) (k : ∀ z : Int32, PW G al d j mc ms Kr (pc + 1) lv (.int z :: st) N M ce sl) : PW G al d j mc ms Kr pc lv (.int x :: st) N M ce sl := PW.ineg h (k _)
theorem PW.bH {x : Int32} (h : p_tb j pc = some (.i2b, 1)) (k : ∀ z : Int32, PW G al d j mc ms Kr (pc + 1) lv (.int z :: st) N M ce sl) : PW G al d j mc ms Kr pc lv (.int x :: st) N M ce sl := PW.i2b h (k _)
theorem PW.divH {x y : Int32} (h : p_tb j pc = some (.idiv, 1)) (hy : y.toInt ≠ 0) (k : ∀ z : Int32, PW G al d j mc ms Kr (pc + 1) lv (.int z :: st) N M ce sl) : PW G al d j mc ms Kr pc lv (.int y :: .int x :: st) N M ce sl := PW.idiv h (fun q => hy (by rw [q]; rfl)) (k _)
theorem PW.remH {x y : Int32} (h : p_tb j pc = some (.irem, 1)) (hy : y.toInt ≠ 0) (k : ∀ z : Int32, PW G al d j mc ms Kr (pc + 1) lv (.int z :: st) N M ce sl) : PW G al d j mc ms Kr pc lv (.int y :: .int x :: st) N M ce sl := PW.irem h (fun q => hy (by rw [q]; rfl)) (k _)
theorem n_rem {x y : Int32} (hx : 0 ≤ x.toInt) (hy : 0 < y.toInt) : (x - x / y * y).toInt = x.toInt % y.toInt := by
  have b1 := Int32.toInt_lt x
  have b2 := Int32.toInt_lt y
  have hd : (x / y).toInt = x.toInt / y.toInt := by
    rw [Int32.toInt_div, Int.tdiv_eq_ediv_of_nonneg hx]
    have q1 : 0 ≤ x.toInt / y.toInt := Int.ediv_nonneg hx (Int.le_of_lt hy)
    have q2 : x.toInt / y.toInt ≤ x.toInt := Int.ediv_le_self _ hx
    exact n_bd (by omega) (by omega)
  have q3 : x.toInt / y.toInt * y.toInt = x.toInt - x.toInt % y.toInt := by have := Int.mul_ediv_add_emod x.toInt y.toInt; rw [Int.mul_comm] at this; omega
  have q4 : 0 ≤ x.toInt % y.toInt := Int.emod_nonneg _ (by omega)
  have q5 : x.toInt % y.toInt < y.toInt := Int.emod_lt_of_pos _ hy
  have q6 : x.toInt % y.toInt ≤ x.toInt := by
    have : 0 ≤ x.toInt / y.toInt * y.toInt := Int.mul_nonneg (Int.ediv_nonneg hx (Int.le_of_lt hy)) (Int.le_of_lt hy)
    omega
  rw [Int32.toInt_sub, Int32.toInt_mul, hd, q3, n_bd (z := x.toInt - x.toInt % y.toInt) (by omega) (by omega), n_bd (by omega) (by omega)]
  omega
theorem PW.remP {x y : Int32} (h : p_tb j pc = some (.irem, 1)) (hx : 0 ≤ x.toInt) (hy : 0 < y.toInt) (k : ∀ z : Int32, 0 ≤ z.toInt → z.toInt < y.toInt → z.toInt = x.toInt % y.toInt → PW G al d j mc ms Kr (pc + 1) lv (.int z :: st) N M ce sl) : PW G al d j mc ms Kr pc lv (.int y :: .int x :: st) N M ce sl :=
  PW.irem h (fun q => by rw [q] at hy; exact absurd hy (by decide)) (k _ (by rw [n_rem hx hy]; exact Int.emod_nonneg _ (by omega)) (by rw [n_rem hx hy]; exact Int.emod_lt_of_pos _ hy) (n_rem hx hy))
theorem n_and {x y : Int32} (hy : 0 ≤ y.toInt) : 0 ≤ (x &&& y).toInt ∧ (x &&& y).toInt ≤ y.toInt := by
  rcases x with ⟨⟨x⟩⟩; rcases y with ⟨⟨y⟩⟩
  have hy2 : y.msb = false := by
    cases h : y.msb with
    | false => rfl
    | true =>
      exfalso
      have : y.toInt < 0 := BitVec.toInt_neg_iff.mpr (by have := BitVec.msb_eq_true_iff_two_mul_ge.mp h; omega)
      exact absurd hy (by show ¬ 0 ≤ y.toInt; omega)
  have hm : (x &&& y).msb = false := by rw [BitVec.msb_and, hy2, Bool.and_false]
  show 0 ≤ (x &&& y).toInt ∧ (x &&& y).toInt ≤ y.toInt
  rw [BitVec.toInt_eq_toNat_of_msb hm, BitVec.toInt_eq_toNat_of_msb hy2, BitVec.toNat_and]
  exact ⟨by omega, by exact_mod_cast Nat.and_le_right⟩
theorem PW.andP {x y : Int32} (h : p_tb j pc = some (.iand, 1)) (hy : 0 ≤ y.toInt) (k : ∀ z : Int32, 0 ≤ z.toInt → z.toInt ≤ y.toInt → PW G al d j mc ms Kr (pc + 1) lv (.int z :: st) N M ce sl) : PW G al d j mc ms Kr pc lv (.int y :: .int x :: st) N M ce sl := PW.iand h (k _ (n_and hy).1 (n_and hy).2)
theorem PW.lcmpH {x y : Int64} (h : p_tb j pc = some (.lcmp, 1)) (k : ∀ z : Int32, PW G al d j mc ms Kr (pc + 1) lv (.int z :: st) N M ce sl) : PW G al d j mc ms Kr pc lv (.long y :: .long x :: st) N M ce sl := PW.lcmp h (k _)
theorem PW.jc_eq {x y : Int32} {off : Int} {tgt : Nat} (h : p_tb j pc = some (.if_icmp .eq off, 3)) (ht : (pc : Int) + off = (tgt : Int)) (kt : x.toInt = y.toInt → PW G al d j mc ms Kr tgt lv st N M ce sl) (kf : x.toInt ≠ y.toInt → PW G al d j mc ms Kr (pc + 3) lv st N M ce sl) : PW G al d j mc ms Kr pc lv (.int y :: .int x :: st) N M ce sl := PW.icmp_eq h ht (fun q => kt (n_eq.mp q)) (fun q => kf (fun r => q (n_eq.mpr r)))
theorem PW.jz_eq {x : Int32} {off : Int} {tgt : Nat} (h : p_tb j pc = some (.ifCond .eq off, 3)) (ht : (pc : Int) + off = (tgt : Int)) (kt : x.toInt = 0 → PW G al d j mc ms Kr tgt lv st N M ce sl) (kf : x.toInt ≠ 0 → PW G al d j mc ms Kr (pc + 3) lv st N M ce sl) : PW G al d j mc ms Kr pc lv (.int x :: st) N M ce sl := PW.if_eq h ht (fun q => kt (n_eq.mp q)) (fun q => kf (fun r => q (n_eq.mpr r)))
theorem PW.jc_ne {x y : Int32} {off : Int} {tgt : Nat} (h : p_tb j pc = some (.if_icmp .ne off, 3)) (ht : (pc : Int) + off = (tgt : Int)) (kt : x.toInt ≠ y.toInt → PW G al d j mc ms Kr tgt lv st N M ce sl) (kf : x.toInt = y.toInt → PW G al d j mc ms Kr (pc + 3) lv st N M ce sl) : PW G al d j mc ms Kr pc lv (.int y :: .int x :: st) N M ce sl := PW.icmp_ne h ht (fun q => kt (fun r => q (n_eq.mpr r))) (fun q => kf (n_eq.mp q))
theorem PW.jz_ne {x : Int32} {off : Int} {tgt : Nat} (h : p_tb j pc = some (.ifCond .ne off, 3)) (ht : (pc : Int) + off = (tgt : Int)) (kt : x.toInt ≠ 0 → PW G al d j mc ms Kr tgt lv st N M ce sl) (kf : x.toInt = 0 → PW G al d j mc ms Kr (pc + 3) lv st N M ce sl) : PW G al d j mc ms Kr pc lv (.int x :: st) N M ce sl := PW.if_ne h ht (fun q => kt (fun r => q (n_eq.mpr r))) (fun q => kf (n_eq.mp q))
theorem PW.jc_lt {x y : Int32} {off : Int} {tgt : Nat} (h : p_tb j pc = some (.if_icmp .lt off, 3)) (ht : (pc : Int) + off = (tgt : Int)) (kt : x.toInt < y.toInt → PW G al d j mc ms Kr tgt lv st N M ce sl) (kf : y.toInt ≤ x.toInt → PW G al d j mc ms Kr (pc + 3) lv st N M ce sl) : PW G al d j mc ms Kr pc lv (.int y :: .int x :: st) N M ce sl := PW.icmp_lt h ht (fun q => kt (n_lt.mp q)) (fun q => kf (Int.not_lt.mp fun r => q (n_lt.mpr r)))
theorem PW.jz_lt {x : Int32} {off : Int} {tgt : Nat} (h : p_tb j pc = some (.ifCond .lt off, 3)) (ht : (pc : Int) + off = (tgt : Int)) (kt : x.toInt < 0 → PW G al d j mc ms Kr tgt lv st N M ce sl) (kf : 0 ≤ x.toInt → PW G al d j mc ms Kr (pc + 3) lv st N M ce sl) : PW G al d j mc ms Kr pc lv (.int x :: st) N M ce sl := PW.if_lt h ht (fun q => kt (n_lt.mp q)) (fun q => kf (Int.not_lt.mp fun r => q (n_lt.mpr r)))
theorem PW.jc_ge {x y : Int32} {off : Int} {tgt : Nat} (h : p_tb j pc = some (.if_icmp .ge off, 3)) (ht : (pc : Int) + off = (tgt : Int)) (kt : y.toInt ≤ x.toInt → PW G al d j mc ms Kr tgt lv st N M ce sl) (kf : x.toInt < y.toInt → PW G al d j mc ms Kr (pc + 3) lv st N M ce sl) : PW G al d j mc ms Kr pc lv (.int y :: .int x :: st) N M ce sl := PW.icmp_ge h ht (fun q => kt (n_le.mp q)) (fun q => kf (Int.not_le.mp fun r => q (n_le.mpr r)))
theorem PW.jz_ge {x : Int32} {off : Int} {tgt : Nat} (h : p_tb j pc = some (.ifCond .ge off, 3)) (ht : (pc : Int) + off = (tgt : Int)) (kt : 0 ≤ x.toInt → PW G al d j mc ms Kr tgt lv st N M ce sl) (kf : x.toInt < 0 → PW G al d j mc ms Kr (pc + 3) lv st N M ce sl) : PW G al d j mc ms Kr pc lv (.int x :: st) N M ce sl := PW.if_ge h ht (fun q => kt (n_le.mp q)) (fun q => kf (Int.not_le.mp fun r => q (n_le.mpr r)))
theorem PW.jc_gt {x y : Int32} {off : Int} {tgt : Nat} (h : p_tb j pc = some (.if_icmp .gt off, 3)) (ht : (pc : Int) + off = (tgt : Int)) (kt : y.toInt < x.toInt → PW G al d j mc ms Kr tgt lv st N M ce sl) (kf : x.toInt ≤ y.toInt → PW G al d j mc ms Kr (pc + 3) lv st N M ce sl) : PW G al d j mc ms Kr pc lv (.int y :: .int x :: st) N M ce sl := PW.icmp_gt h ht (fun q => kt (n_lt.mp q)) (fun q => kf (Int.not_lt.mp fun r => q (n_lt.mpr r)))
theorem PW.jz_gt {x : Int32} {off : Int} {tgt : Nat} (h : p_tb j pc = some (.ifCond .gt off, 3)) (ht : (pc : Int) + off = (tgt : Int)) (kt : 0 < x.toInt → PW G al d j mc ms Kr tgt lv st N M ce sl) (kf : x.toInt ≤ 0 → PW G al d j mc ms Kr (pc + 3) lv st N M ce sl) : PW G al d j mc ms Kr pc lv (.int x :: st) N M ce sl := PW.if_gt h ht (fun q => kt (n_lt.mp q)) (fun q => kf (Int.not_lt.mp fun r => q (n_lt.mpr r)))
theorem PW.jc_le {x y : Int32} {off : Int} {tgt : Nat} (h : p_tb j pc = some (.if_icmp .le off, 3)) (ht : (pc : Int) + off = (tgt : Int)) (kt : x.toInt ≤ y.toInt → PW G al d j mc ms Kr tgt lv st N M ce sl) (kf : y.toInt < x.toInt → PW G al d j mc ms Kr (pc + 3) lv st N M ce sl) : PW G al d j mc ms Kr pc lv (.int y :: .int x :: st) N M ce sl := PW.icmp_le h ht (fun q => kt (n_le.mp q)) (fun q => kf (Int.not_le.mp fun r => q (n_le.mpr r)))
theorem PW.jz_le {x : Int32} {off : Int} {tgt : Nat} (h : p_tb j pc = some (.ifCond .le off, 3)) (ht : (pc : Int) + off = (tgt : Int)) (kt : x.toInt ≤ 0 → PW G al d j mc ms Kr tgt lv st N M ce sl) (kf : 0 < x.toInt → PW G al d j mc ms Kr (pc + 3) lv st N M ce sl) : PW G al d j mc ms Kr pc lv (.int x :: st) N M ce sl := PW.if_le h ht (fun q => kt (n_le.mp q)) (fun q => kf (Int.not_le.mp fun r => q (n_le.mpr r)))
theorem PW.ja_eq {rx ry : Option Nat} {off : Int} {tgt : Nat} (h : p_tb j pc = some (.if_acmp .eq off, 3)) (ht : (pc : Int) + off = (tgt : Int)) (kt :  (rx.map (p_r G) = ry.map (p_r G)) → PW G al d j mc ms Kr tgt lv st N M ce sl) (kf : ¬ (rx.map (p_r G) = ry.map (p_r G)) → PW G al d j mc ms Kr (pc + 3) lv st N M ce sl) : PW G al d j mc ms Kr pc lv (va_rf ry :: va_rf rx :: st) N M ce sl := by
  intro p l e R s m args below meth c H locs ls Q hC hret hR hS hl
  show W p l e R s m args below meth c H locs ce sl Q (F0 m pc ls (p_v G (va_rf ry) :: p_v G (va_rf rx) :: st.map (p_v G)))
  rw [← p_rf, ← p_rf]
  exact lv_acmp_eq hC.1 hC.2.1 (p_tb_ok h) ht (fun q => kt q p l e R s m args below meth c H locs ls Q hC hret hR hS hl) (fun q => kf q p l e R s m args below meth c H locs ls Q hC hret hR hS hl)
theorem PW.ja_ne {rx ry : Option Nat} {off : Int} {tgt : Nat} (h : p_tb j pc = some (.if_acmp .ne off, 3)) (ht : (pc : Int) + off = (tgt : Int)) (kt : ¬ (rx.map (p_r G) = ry.map (p_r G)) → PW G al d j mc ms Kr tgt lv st N M ce sl) (kf :  (rx.map (p_r G) = ry.map (p_r G)) → PW G al d j mc ms Kr (pc + 3) lv st N M ce sl) : PW G al d j mc ms Kr pc lv (va_rf ry :: va_rf rx :: st) N M ce sl := by
  intro p l e R s m args below meth c H locs ls Q hC hret hR hS hl
  show W p l e R s m args below meth c H locs ce sl Q (F0 m pc ls (p_v G (va_rf ry) :: p_v G (va_rf rx) :: st.map (p_v G)))
  rw [← p_rf, ← p_rf]
  exact lv_acmp_ne hC.1 hC.2.1 (p_tb_ok h) ht (fun q => kt q p l e R s m args below meth c H locs ls Q hC hret hR hS hl) (fun q => kf q p l e R s m args below meth c H locs ls Q hC hret hR hS hl)
theorem PW.aI {a K n p q : Nat} {lo hi : Int} {i : Int32} (h : p_tb j pc = some (.iaload, 1)) (hA : g_sh K = (1, 1, n)) (hk : g_kd a = K) (I : InvB M) (hK : K < 60) (hb : gB K p q lo hi) (hq : q < n) (h1 : (p : Int) ≤ i.toInt) (h2 : i.toInt ≤ (q : Int)) (kk : ∀ x : Int32, o_a (M a) i.toInt.toNat = x → lo ≤ x.toInt → x.toInt ≤ hi → PW G al d j mc ms Kr (pc + 1) lv (.int x :: st) 311 M ce sl) : PW G al d j mc ms Kr pc lv (.int i :: .ref a :: st) 311 M ce sl := by
  obtain ⟨ha, e1, e2⟩ := I.arr hk hK hA
  have b := e2 i.toInt.toNat (by omega)
  have c := hb i.toInt.toNat (by omega) (by omega)
  exact PW.iald h ha e1 (vp_in_iff.mpr ⟨by omega, by omega⟩) (kk _ rfl (by rw [n_nat]; omega) (by rw [n_nat]; omega))
theorem PW.aH {a K n : Nat} {i : Int32} (h : p_tb j pc = some (.iaload, 1)) (hA : g_sh K = (1, 1, n)) (hk : g_kd a = K) (I : InvB M) (hK : K < 60) (h1 : 0 ≤ i.toInt) (h2 : i.toInt < (n : Int)) (kk : ∀ x : Int32, o_a (M a) i.toInt.toNat = x → PW G al d j mc ms Kr (pc + 1) lv (.int x :: st) 311 M ce sl) : PW G al d j mc ms Kr pc lv (.int i :: .ref a :: st) 311 M ce sl := by
  obtain ⟨ha, e1, e2⟩ := I.arr hk hK hA
  exact PW.iald h ha e1 (vp_in_iff.mpr ⟨by omega, by omega⟩) (kk _ rfl)
theorem PW.aY {a K n : Nat} {i : Int32} (h : p_tb j pc = some (.baload, 1)) (hA : g_sh K = (1, 0, n)) (hk : g_kd a = K) (I : InvB M) (hK : K < 60) (h1 : 0 ≤ i.toInt) (h2 : i.toInt < (n : Int)) (kk : ∀ x : Int32, o_a (M a) i.toInt.toNat = x → PW G al d j mc ms Kr (pc + 1) lv (.int x :: st) 311 M ce sl) : PW G al d j mc ms Kr pc lv (.int i :: .ref a :: st) 311 M ce sl := by
  obtain ⟨ha, e1, e2⟩ := I.arr hk hK hA
  exact PW.bald h ha e1 (vp_in_iff.mpr ⟨by omega, by omega⟩) (kk _ rfl)
theorem PW.aZ {a K n : Nat} {i : Int32} (h : p_tb j pc = some (.baload, 1)) (hA : g_sh K = (1, 3, n)) (hk : g_kd a = K) (I : InvB M) (hK : K < 60) (hb : gB K 0 (n - 1) 0 1) (h1 : 0 ≤ i.toInt) (h2 : i.toInt < (n : Int)) (kk : ∀ x : Int32, o_a (M a) i.toInt.toNat = x → 0 ≤ x.toInt → x.toInt ≤ 1 → PW G al d j mc ms Kr (pc + 1) lv (.int x :: st) 311 M ce sl) : PW G al d j mc ms Kr pc lv (.int i :: .ref a :: st) 311 M ce sl := by
  obtain ⟨ha, e1, e2⟩ := I.arr hk hK hA
  have b := e2 i.toInt.toNat (by omega)
  have c := hb i.toInt.toNat (by omega) (by omega)
  exact PW.zald h ha e1 (vp_in_iff.mpr ⟨by omega, by omega⟩) (kk _ rfl (by rw [n_nat]; omega) (by rw [n_nat]; omega))
theorem PW.aL {a K n : Nat} {i : Int32} (h : p_tb j pc = some (.laload, 1)) (hA : g_sh K = (2, 2, n)) (hk : g_kd a = K) (I : InvB M) (hK : K < 60) (h1 : 0 ≤ i.toInt) (h2 : i.toInt < (n : Int)) (kk : ∀ x : Int64, o_l (M a) i.toInt.toNat = x → PW G al d j mc ms Kr (pc + 1) lv (.long x :: st) 311 M ce sl) : PW G al d j mc ms Kr pc lv (.int i :: .ref a :: st) 311 M ce sl := by
  obtain ⟨ha, e1⟩ := I.larr hk hK hA
  exact PW.lald h ha e1 (vp_in_iff.mpr ⟨by omega, by omega⟩) (kk _ rfl)
theorem PW.aR {a K t n : Nat} {i : Int32} (h : p_tb j pc = some (.aaload, 1)) (hA : g_sh K = (3, t, n)) (ht4 : 4 ≤ t) (ht9 : t < 9) (hk : g_kd a = K) (I : InvB M) (hK : K < 60) (h1 : 0 ≤ i.toInt) (h2 : i.toInt < (n : Int)) (kk : ∀ b, b = a + 1 + (g_fs K 0).2.1.toNat * i.toInt.toNat → PW G al d j mc ms Kr (pc + 1) lv (.ref b :: st) 311 M ce sl) : PW G al d j mc ms Kr pc lv (.int i :: .ref a :: st) 311 M ce sl := by
  obtain ⟨ha, e1, e2⟩ := I.rarr hk hK hA
  refine PW.aald h ha e1 ht4 ht9 (vp_in_iff.mpr ⟨by omega, by omega⟩) ?_
  rw [n_nat, e2 i.toInt.toNat (by omega)]
  exact kk _ rfl
theorem PW.aW {a K t n : Nat} {i : Int32} (h : p_tb j pc = some (.aaload, 1)) (hA : g_sh K = (4, t, n)) (ht4 : 4 ≤ t) (ht9 : t < 9) (hk : g_kd a = K) (I : InvB M) (hK : K < 60) (h1 : 0 ≤ i.toInt) (h2 : i.toInt < (n : Int)) (kk : ∀ r : Option Nat, (r = none ∨ ∃ w, w < 28 ∧ r = some (65536 + w)) → o_r (M a) i.toInt.toNat = r → PW G al d j mc ms Kr (pc + 1) lv (va_rf r :: st) 311 M ce sl) : PW G al d j mc ms Kr pc lv (.int i :: .ref a :: st) 311 M ce sl := by
  obtain ⟨ha, e1, e2⟩ := I.warr hk hK hA
  refine PW.aald h ha e1 ht4 ht9 (vp_in_iff.mpr ⟨by omega, by omega⟩) ?_
  exact kk _ (e2 i.toInt.toNat (by omega)) rfl
theorem n_upd {f : Nat → Int32} {q : Nat} {x : Int32} : upd f q x q = x := by simp [upd]
theorem n_upd_ne {f : Nat → Int32} {q z : Nat} {x : Int32} (h : z ≠ q) : upd f q x z = f z := by simp [upd, h]
theorem InvB.putA {M : pM} {a K t n q : Nat} {x : Int32} (I : InvB M) (hk : g_kd a = K) (hK : K < 60) (hA : g_sh K = (1, t, n)) (hx : (g_as K q).1 ≤ x.toInt ∧ x.toInt ≤ (g_as K q).2) : InvB (va_up M a (.inl (t, n, .inl (upd (o_a (M a)) q x)))) ∧ o_a (va_up M a (.inl (t, n, .inl (upd (o_a (M a)) q x))) a) q = x ∧ gVv M (va_up M a (.inl (t, n, .inl (upd (o_a (M a)) q x)))) a q := by
  obtain ⟨ha, e1, e2⟩ := I.arr hk hK hA
  refine ⟨I.setA hk hA _ (p_up_eq _ _ _) (fun i hi => ?_) (fun c hc => va_up_ne _ _ hc), ?_, fun c hc => va_up_ne _ _ hc, fun z hz => ?_⟩
  · by_cases e : i = q
    · subst e; rw [n_upd]; exact hx
    · rw [n_upd_ne e]; exact e2 i hi
  · rw [p_up_eq]; exact n_upd
  · rw [p_up_eq]; exact n_upd_ne hz
/-- a row of ints: bounds alone are kept -/
theorem PW.wB {a K n : Nat} {i x : Int32} (h : p_tb j pc = some (.iastore, 1)) (hA : g_sh K = (1, 1, n)) (hk : g_kd a = K) (I : InvB M) (hK : K < 60) (h1 : 0 ≤ i.toInt) (h2 : i.toInt < (n : Int)) (hx : (g_as K i.toInt.toNat).1 ≤ x.toInt ∧ x.toInt ≤ (g_as K i.toInt.toNat).2) (kk : ∀ M1, InvB M1 → o_a (M1 a) i.toInt.toNat = x → gVv M M1 a i.toInt.toNat → PW G al d j mc ms Kr (pc + 1) lv st 311 M1 ce sl) : PW G al d j mc ms Kr pc lv (.int x :: .int i :: .ref a :: st) 311 M ce sl := by
  obtain ⟨ha, e1, e2⟩ := I.arr hk hK hA
  obtain ⟨i1, i2, i3⟩ := I.putA hk hK hA hx
  exact PW.iast h ha e1 (vp_in_iff.mpr ⟨by omega, by omega⟩) (kk _ i1 i2 i3)
theorem PW.wI {a K n p q : Nat} {lo hi : Int} {i x : Int32} (h : p_tb j pc = some (.iastore, 1)) (hA : g_sh K = (1, 1, n)) (hk : g_kd a = K) (hV : Stab V) (I : Iv V M) (hK : K < 60) (hs : g_sA K = false) (hb : gC K p q lo hi) (hq : q < n) (h1 : (p : Int) ≤ i.toInt) (h2 : i.toInt ≤ (q : Int)) (h3 : lo ≤ x.toInt) (h4 : x.toInt ≤ hi) (kk : ∀ M1, Iv V M1 → o_a (M1 a) i.toInt.toNat = x → gVv M M1 a i.toInt.toNat → PW G al d j mc ms Kr (pc + 1) lv st 311 M1 ce sl) : PW G al d j mc ms Kr pc lv (.int x :: .int i :: .ref a :: st) 311 M ce sl := by
  have c := hb i.toInt.toNat (by omega) (by omega)
  exact PW.wB h hA hk I.1 hK (by omega) (by omega) ⟨by omega, by omega⟩ fun M1 i1 i2 i3 => kk M1 ⟨i1, hV.2.1 _ _ a K I.2 i3.1 hk (by rw [hA]; exact Nat.succ_ne_zero _) hs⟩ i2 i3
theorem g_rp_eq {g h : Nat → Int32} (e : ∀ i, g i = h i) : g = h := funext e
theorem PW.wS {p q : Nat} {lo hi : Int} {i x : Int32} (h : p_tb j pc = some (.iastore, 1)) (hV : Stab V) (I : Iv V M) (hb : gC 42 p q lo hi) (hno : ∀ c, p ≤ c → c ≤ q → g_no c) (hq : q < 397) (h1 : (p : Int) ≤ i.toInt) (h2 : i.toInt ≤ (q : Int)) (h3 : lo ≤ x.toInt) (h4 : x.toInt ≤ hi) (kk : ∀ M1, Iv V M1 → o_a (M1 296) i.toInt.toNat = x → gVv M M1 296 i.toInt.toNat → PW G al d j mc ms Kr (pc + 1) lv st 311 M1 ce sl) : PW G al d j mc ms Kr pc lv (.int x :: .int i :: .ref 296 :: st) 311 M ce sl := by
  have c := hb i.toInt.toNat (by omega) (by omega)
  exact PW.wB h (rfl : g_sh 42 = (1, 1, 397)) rfl I.1 (by decide) (by omega) (by omega) ⟨by omega, by omega⟩ fun M1 i1 i2 i3 => kk M1 ⟨i1, hV.2.2 M M1 _ I.2 i3 (hno _ (by omega) (by omega))⟩ i2 i3
theorem PW.wY {a K n : Nat} {i x : Int32} (h : p_tb j pc = some (.bastore, 1)) (hA : g_sh K = (1, 0, n)) (hk : g_kd a = K) (hV : Stab V) (I : Iv V M) (hK : K < 60) (hs : g_sA K = false) (hb : gC K 0 (n - 1) (-128) 127) (h1 : 0 ≤ i.toInt) (h2 : i.toInt < (n : Int)) (kk : ∀ M1, Iv V M1 → gVv M M1 a i.toInt.toNat → PW G al d j mc ms Kr (pc + 1) lv st 311 M1 ce sl) : PW G al d j mc ms Kr pc lv (.int x :: .int i :: .ref a :: st) 311 M ce sl := by
  obtain ⟨ha, e1, e2⟩ := I.1.arr hk hK hA
  have c := hb i.toInt.toNat (by omega) (by omega)
  have b1 := Int8.le_toInt x.toInt8
  have b2 := Int8.toInt_lt x.toInt8
  have b3 : (vp_nar .byte x).toInt = x.toInt8.toInt := by rw [vp_nar_byte]; exact Int8.toInt_toInt32 _
  obtain ⟨i1, i2, i3⟩ := I.1.putA (q := i.toInt.toNat) (x := vp_nar .byte x) hk hK hA ⟨by omega, by omega⟩
  exact PW.bast h ha e1 (vp_in_iff.mpr ⟨by omega, by omega⟩) (kk _ ⟨i1, hV.2.1 _ _ a K I.2 i3.1 hk (by rw [hA]; exact Nat.succ_ne_zero _) hs⟩ i3)
theorem PW.wZ {a K n : Nat} {i x : Int32} (h : p_tb j pc = some (.bastore, 1)) (hA : g_sh K = (1, 3, n)) (hk : g_kd a = K) (hV : Stab V) (I : Iv V M) (hK : K < 60) (hs : g_sA K = false) (hb : gC K 0 (n - 1) 0 1) (h1 : 0 ≤ i.toInt) (h2 : i.toInt < (n : Int)) (h3 : 0 ≤ x.toInt) (h4 : x.toInt ≤ 1) (kk : ∀ M1, Iv V M1 → o_a (M1 a) i.toInt.toNat = x → gVv M M1 a i.toInt.toNat → PW G al d j mc ms Kr (pc + 1) lv st 311 M1 ce sl) : PW G al d j mc ms Kr pc lv (.int x :: .int i :: .ref a :: st) 311 M ce sl := by
  obtain ⟨ha, e1, e2⟩ := I.1.arr hk hK hA
  have c := hb i.toInt.toNat (by omega) (by omega)
  have b3 : vp_nar .boolean x = x := by
    have : x.toInt = 0 ∨ x.toInt = 1 := by omega
    rcases this with r | r
    · rw [show x = 0 from Int32.toInt_inj.mp r]; decide +kernel
    · rw [show x = 1 from Int32.toInt_inj.mp r]; decide +kernel
  obtain ⟨i1, i2, i3⟩ := I.1.putA (q := i.toInt.toNat) (x := x) hk hK hA ⟨by omega, by omega⟩
  refine PW.zast h ha e1 (vp_in_iff.mpr ⟨by omega, by omega⟩) ?_
  rw [b3]
  exact kk _ ⟨i1, hV.2.1 _ _ a K I.2 i3.1 hk (by rw [hA]; exact Nat.succ_ne_zero _) hs⟩ i2 i3
theorem PW.wL {a K n : Nat} {i : Int32} {x : Int64} (h : p_tb j pc = some (.lastore, 1)) (hA : g_sh K = (2, 2, n)) (hk : g_kd a = K) (hV : Stab V) (I : Iv V M) (hK : K < 60) (hs : g_sA K = false) (h1 : 0 ≤ i.toInt) (h2 : i.toInt < (n : Int)) (kk : ∀ M1, Iv V M1 → (∀ c, c ≠ a → M1 c = M c) → PW G al d j mc ms Kr (pc + 1) lv st 311 M1 ce sl) : PW G al d j mc ms Kr pc lv (.long x :: .int i :: .ref a :: st) 311 M ce sl := by
  obtain ⟨ha, e1⟩ := I.1.larr hk hK hA
  refine PW.last h ha e1 (vp_in_iff.mpr ⟨by omega, by omega⟩) (kk _ ⟨I.1.setL hk hA _ (p_up_eq _ _ _) (fun c hc => va_up_ne _ _ hc), hV.2.1 _ _ a K I.2 (fun c hc => va_up_ne _ _ hc) hk (by rw [hA]; exact Nat.succ_ne_zero _) hs⟩ (fun c hc => va_up_ne _ _ hc))
theorem PW.rI {x : Int32} (h : p_tb j pc = some (.ireturn, 1)) (hr : p_mR j = some .int) (hc : ce ≤ mc) (hs : sl ≤ ms) (k : Kr.1 (some (.int x)) N M) : PW G al d j mc ms Kr pc lv [.int x] N M ce sl := PW.iret h hr hc hs k
theorem n_nb {x : Int32} (h0 : 0 ≤ x.toInt) (h1 : x.toInt ≤ 1) : narrow .boolean (.int x) = .int x := by
  have : x.toInt = 0 ∨ x.toInt = 1 := by omega
  rcases this with r | r
  · rw [show x = 0 from Int32.toInt_inj.mp r]; decide +kernel
  · rw [show x = 1 from Int32.toInt_inj.mp r]; decide +kernel
theorem PW.rZ {x : Int32} (h : p_tb j pc = some (.ireturn, 1)) (hr : p_mR j = some .boolean) (h0 : 0 ≤ x.toInt) (h1 : x.toInt ≤ 1) (hc : ce ≤ mc) (hs : sl ≤ ms) (k : Kr.1 (some (.int x)) N M) : PW G al d j mc ms Kr pc lv [.int x] N M ce sl := PW.zret h hr (n_nb h0 h1) hc hs k
theorem InvB.ob {M : pM} {a K ci n : Nat} (I : InvB M) (hk : g_kd a = K) (hK : K < 60) (hS : g_sh K = (0, ci, n)) : a < 311 ∧ ∃ fs, M a = .inr (ci, fs) := by
  have ha := g_kd_lt hk hK
  have q := (I a ha).1
  rw [hk, hS] at q
  obtain ⟨fs, e1, -⟩ := q rfl
  exact ⟨ha, fs, e1⟩
theorem PW.cV {idx k a K ci n : Nat} {as rest : List Value} (h : p_tb j pc = some (.invokevirtual idx, 3)) (hk : p_f2 p_mv (p_mK j) idx = some k) (hkd : g_kd a = K) (I : InvB M) (hK : K < 60) (hS : g_sh K = (0, ci, n)) (hci : ci < 12) (hcl : (p_cl ci).1 = (p_mY k).cls) (hn : as.length = p_mN k) (hsum : (rest.map fun v => v.category).sum ≤ 8) (hsz : (lg_sl (.ref a :: as)).length ≤ p_mL k) (hce : ce + p_mc k ≤ mc) (hsl : sl + p_msl k ≤ ms)
    (h2 : PW G al d k (p_mc k) (p_msl k) (fun v N' M' => PW G al (d + 1) j mc ms Kr (pc + 3) lv (v.toList ++ rest) N' M' (ce + p_mc k) (sl + p_msl k), p_nx) 0 (lv_args 0 (.ref a :: as)) [] 311 M 0 0) : PW G al (d + 1) j mc ms Kr pc lv (as.reverse ++ .ref a :: rest) 311 M ce sl := by
  obtain ⟨ha, fs, e⟩ := I.ob hkd hK hS
  exact PW.callV h hk ha e hci hcl hn hsum hsz hce hsl h2
theorem PW.minN {idx : Nat} {x y : Int32} (h : p_tb j pc = some (.invokestatic idx, 3)) (hf : p_f2 p_mj (p_mK j) idx = some 1) (hd : 1 ≤ d) (hsum : (st.map fun v => v.category).sum ≤ 8) (hc : ce ≤ mc) (hs : sl ≤ ms) (kk : ∀ z : Int32, z.toInt ≤ x.toInt → z.toInt ≤ y.toInt → (z.toInt = x.toInt ∨ z.toInt = y.toInt) → PW G al d j mc ms Kr (pc + 3) lv (.int z :: st) N M ce sl) : PW G al d j mc ms Kr pc lv (.int y :: .int x :: st) N M ce sl := by
  refine PW.mmin h hf hd hsum hc hs ?_
  by_cases q : y < x
  · rw [if_pos q]
    have := n_lt.mp q
    exact kk y (by omega) (by omega) (Or.inr rfl)
  · rw [if_neg q]
    have : ¬ y.toInt < x.toInt := fun r => q (n_lt.mpr r)
    exact kk x (by omega) (by omega) (Or.inl rfl)
theorem PW.maxN {idx : Nat} {x y : Int32} (h : p_tb j pc = some (.invokestatic idx, 3)) (hf : p_f2 p_mj (p_mK j) idx = some 2) (hd : 1 ≤ d) (hsum : (st.map fun v => v.category).sum ≤ 8) (hc : ce ≤ mc) (hs : sl ≤ ms) (kk : ∀ z : Int32, x.toInt ≤ z.toInt → y.toInt ≤ z.toInt → (z.toInt = x.toInt ∨ z.toInt = y.toInt) → PW G al d j mc ms Kr (pc + 3) lv (.int z :: st) N M ce sl) : PW G al d j mc ms Kr pc lv (.int y :: .int x :: st) N M ce sl := by
  refine PW.mmax h hf hd hsum hc hs ?_
  by_cases q : x < y
  · rw [if_pos q]
    have := n_lt.mp q
    exact kk y (by omega) (by omega) (Or.inr rfl)
  · rw [if_neg q]
    have : ¬ x.toInt < y.toInt := fun r => q (n_lt.mpr r)
    exact kk x (by omega) (by omega) (Or.inl rfl)
theorem PW.absH {idx : Nat} {x : Int32} (h : p_tb j pc = some (.invokestatic idx, 3)) (hf : p_f2 p_mj (p_mK j) idx = some 3) (hd : 1 ≤ d) (hsum : (st.map fun v => v.category).sum ≤ 8) (hc : ce ≤ mc) (hs : sl ≤ ms) (kk : ∀ z : Int32, PW G al d j mc ms Kr (pc + 3) lv (.int z :: st) N M ce sl) : PW G al d j mc ms Kr pc lv (.int x :: st) N M ce sl := PW.mabs h hf hd hsum hc hs (kk _)
theorem PW.sw1 {dflt lo hi : Int} {offs : Array Int} {len : Nat} {x : Int32} {off : Int} {tgt : Nat} (v : Int) (hx : x.toInt = v) (h : p_tb j pc = some (.tableswitch dflt lo hi offs, len)) (h1 : ¬ v < lo) (h2 : ¬ hi < v) (ho : offs[(v - lo).toNat]? = some off) (ht : (pc : Int) + off = (tgt : Int)) (k : PW G al d j mc ms Kr tgt lv st N M ce sl) : PW G al d j mc ms Kr pc lv (.int x :: st) N M ce sl := PW.tswI h (by rw [hx]; exact h1) (by rw [hx]; exact h2) (by rw [hx]; exact ho) ht k
end Rules
theorem n_lo (x : Int32) : -2147483648 ≤ x.toInt := Int32.le_toInt x
theorem n_hi (x : Int32) : x.toInt ≤ 2147483647 := by have := Int32.toInt_lt x; omega
theorem lk0 {lv : List (Nat × Value)} : ∀ q ∈ ([] : List (Nat × Value)), p_lk lv q.1 = some q.2 := fun _ h => by cases h
theorem lk1 {lv l : List (Nat × Value)} {a : Nat} {v : Value} (h : p_lk lv a = some v) (t : ∀ q ∈ l, p_lk lv q.1 = some q.2) : ∀ q ∈ (a, v) :: l, p_lk lv q.1 = some q.2 := fun q hq => by
  rcases List.mem_cons.mp hq with rfl | r
  · exact h
  · exact t q r
set_option maxRecDepth 100000 in
theorem g_ckA : ((List.range 311).all fun a => (List.range 45).all fun i => !((g_fs (g_kd a) i).1 == 2 && (g_sh (g_kd a)).1 == 0) || g_kd (a + (g_fs (g_kd a) i).2.1.toNat) == g_ckT (g_kd a) i) = true := by decide +kernel
theorem gF.ck {K ci i : Nat} {lo hi : Int} (hF : gF K ci i 2 lo hi) {a : Nat} (hk : g_kd a = K) (hK : K < 60) (hi45 : i < 45) : g_kd (a + lo.toNat) = g_ckT K i := by
  obtain ⟨n, h1, h2, h3⟩ := hF
  have q := List.all_eq_true.mp (List.all_eq_true.mp g_ckA a (List.mem_range.mpr (g_kd_lt hk hK))) i (List.mem_range.mpr hi45)
  simp only [hk, h3, h1, beq_self_eq_true, Bool.and_self, Bool.not_true, Bool.false_or, beq_iff_eq] at q
  exact q
set_option maxRecDepth 100000 in
theorem g_ekA : ((List.range 311).all fun a => !((g_sh (g_kd a)).1 == 3) || (List.range (g_sh (g_kd a)).2.2).all fun i => g_kd (a + 1 + (g_fs (g_kd a) 0).2.1.toNat * i) == g_ekT (g_kd a)) = true := by decide +kernel
theorem g_ek {K t n : Nat} (hA : g_sh K = (3, t, n)) {a i : Nat} (hk : g_kd a = K) (hK : K < 60) (hi : i < n) : g_kd (a + 1 + (g_fs K 0).2.1.toNat * i) = g_ekT K := by
  have q := List.all_eq_true.mp g_ekA a (List.mem_range.mpr (g_kd_lt hk hK))
  simp only [hk, hA, beq_self_eq_true, Bool.not_true, Bool.false_or, List.all_eq_true, List.mem_range, beq_iff_eq] at q
  exact q i hi
section Rules
variable {V : pM → Prop} {G : pG} {al : Bool} {d j mc ms : Nat} {Kr : pK} {pc : Nat} {lv : List (Nat × Value)} {st : List Value} {N : Nat} {M : pM} {ce sl : Nat}
theorem PW.lvS {lv' : List (Nat × Value)} (h : ∀ q ∈ lv', p_lk lv q.1 = some q.2) (k : PW G al d j mc ms Kr pc lv' st N M ce sl) : PW G al d j mc ms Kr pc lv st N M ce sl := by
  intro p l e R s m args below meth c H locs ls Q hC hret hR hS hl
  refine k p l e R s m args below meth c H locs ls Q hC hret hR hS ⟨hl.1, hl.2.1, fun q hq => ?_⟩
  obtain ⟨q0, hq0, rfl⟩ := List.mem_map.mp hq
  exact p_lk_at hl (h q0 hq0)
theorem PW.nmI {x : Int32} (k : ∀ z : Int32, z = x → PW G al d j mc ms Kr pc lv (.int z :: st) N M ce sl) : PW G al d j mc ms Kr pc lv (.int x :: st) N M ce sl := k x rfl
theorem PW.hvI {x : Int32} (k : ∀ z : Int32, PW G al d j mc ms Kr pc lv (.int z :: st) N M ce sl) : PW G al d j mc ms Kr pc lv (.int x :: st) N M ce sl := k x
theorem PW.gRk {idx ci i a K : Nat} {lo hi : Int} (h : p_tb j pc = some (.getfield idx, 3)) (hf : p_f2 p_ft (p_mK j) idx = some (ci, i) ∨ p_f2 p_fN (p_mK j) idx = some (ci, i)) (hF : gF K ci i 2 lo hi) (hk : g_kd a = K) (I : InvB M) (hK : K < 60 ∧ i < 45) (kk : ∀ b, g_kd b = g_ckT K i → b = a + lo.toNat → PW G al d j mc ms Kr (pc + 3) lv (.ref b :: st) 311 M ce sl) : PW G al d j mc ms Kr pc lv (.ref a :: st) 311 M ce sl :=
  PW.gR _ h hf hF hk I hK.1 rfl (kk _ (hF.ck hk hK.1 hK.2) rfl)
theorem PW.aRk {a K t n : Nat} {i : Int32} (h : p_tb j pc = some (.aaload, 1)) (hA : g_sh K = (3, t, n)) (ht4 : 4 ≤ t) (ht9 : t < 9) (hk : g_kd a = K) (I : InvB M) (hK : K < 60) (h1 : 0 ≤ i.toInt) (h2 : i.toInt < (n : Int)) (kk : ∀ b, g_kd b = g_ekT K → b = a + 1 + (g_fs K 0).2.1.toNat * i.toInt.toNat → PW G al d j mc ms Kr (pc + 1) lv (.ref b :: st) 311 M ce sl) : PW G al d j mc ms Kr pc lv (.int i :: .ref a :: st) 311 M ce sl :=
  PW.aR h hA ht4 ht9 hk I hK h1 h2 fun b e => kk b (by rw [e]; exact g_ek hA hk hK (by omega)) e
theorem n_ofNat {n : Nat} (h : n < 2000) : (Int32.ofNat n).toInt = n := by
  rw [Int32.toInt_ofNat']
  exact Int.bmod_eq_of_le (by unfold Int32.size; omega) (by unfold Int32.size; omega)
theorem PW.al1 {a K t n : Nat} (h : p_tb j pc = some (.arraylength, 1)) (hA : g_sh K = (1, t, n)) (hk : g_kd a = K) (I : InvB M) (hK : K < 60) (hn : t < 9 ∧ n < 2000) (kk : ∀ z : Int32, z.toInt = n → PW G al d j mc ms Kr (pc + 1) lv (.int z :: st) 311 M ce sl) : PW G al d j mc ms Kr pc lv (.ref a :: st) 311 M ce sl := by
  obtain ⟨ha, e1, -⟩ := I.arr hk hK hA
  exact PW.alen h ha e1 hn.1 (kk _ (n_ofNat hn.2))
theorem PW.al2 {a K n : Nat} (h : p_tb j pc = some (.arraylength, 1)) (hA : g_sh K = (2, 2, n)) (hk : g_kd a = K) (I : InvB M) (hK : K < 60) (hn : n < 2000) (kk : ∀ z : Int32, z.toInt = n → PW G al d j mc ms Kr (pc + 1) lv (.int z :: st) 311 M ce sl) : PW G al d j mc ms Kr pc lv (.ref a :: st) 311 M ce sl := by
  obtain ⟨ha, e1⟩ := I.larr hk hK hA
  exact PW.alen h ha e1 (by decide) (kk _ (n_ofNat hn))
/-- a row of ints copied whole -/
theorem PW.cp {idx a b K n0 : Nat} {sp dp n : Int32} (h : p_tb j pc = some (.invokestatic idx, 3)) (hf : p_f2 p_mj (p_mK j) idx = some 4) (hA : g_sh K = (1, 1, n0)) (hka : g_kd a = K) (hkb : g_kd b = K) (hV : Stab V) (I : Iv V M) (hK : K < 60) (hs : g_sA K = false) (h1 : sp.toInt = 0) (h2 : dp.toInt = 0) (h3 : 0 ≤ n.toInt) (h4 : n.toInt ≤ n0) (h5 : ∀ i, i < n0 → g_as K i = g_as K 0) (hd : 2 ≤ d) (hsum : (st.map fun v => v.category).sum ≤ 8)
    (kk : ∀ M1, Iv V M1 → (∀ c, c ≠ b → M1 c = M c) → PW G false d j mc ms Kr (pc + 3) lv st 311 M1 ce sl) : PW G false d j mc ms Kr pc lv (.int n :: .int dp :: .ref b :: .int sp :: .ref a :: st) 311 M ce sl := by
  obtain ⟨ha, e1, e2⟩ := I.1.arr hka hK hA
  obtain ⟨hb, e3, e4⟩ := I.1.arr hkb hK hA
  have c1 : sp.toNatClampNeg = 0 := by rw [n_nat]; omega
  have c2 : dp.toNatClampNeg = 0 := by rw [n_nat]; omega
  have c3 : n.toNatClampNeg ≤ n0 := by rw [n_nat]; omega
  refine PW.copyi h hf ha hb e1 e3 (fun q => by have := n_lt.mp q; rw [n_0] at this; omega) (fun q => by have := n_lt.mp q; rw [n_0] at this; omega) (fun q => by have := n_lt.mp q; rw [n_0] at this; omega) (by omega) (by omega) hd hsum ?_
  refine kk _ ⟨I.1.setA hkb hA _ (p_up_eq _ _ _) (fun i hi => ?_) (fun c hc => va_up_ne _ _ hc), hV.2.1 _ _ b K I.2 (fun c hc => va_up_ne _ _ hc) hkb (by rw [hA]; exact Nat.succ_ne_zero _) hs⟩ (fun c hc => va_up_ne _ _ hc)
  rw [c1, c2]
  by_cases q : i < n.toNatClampNeg
  · rw [pk_cpy_in (by omega) (by omega)]
    have := e2 i hi
    simpa using this
  · rw [pk_cpy_out (by omega)]
    exact e4 i hi
end Rules
theorem kd_0 : g_kd 0 = 0 := by decide +kernel
theorem kd_1 : g_kd 1 = 1 := by decide +kernel
theorem kd_2 : g_kd 2 = 2 := by decide +kernel
theorem kd_3 : g_kd 3 = 3 := by decide +kernel
theorem kd_4 : g_kd 4 = 4 := by decide +kernel
theorem kd_5 : g_kd 5 = 27 := by decide +kernel
theorem kd_6 : g_kd 6 = 28 := by decide +kernel
theorem kd_7 : g_kd 7 = 29 := by decide +kernel
theorem kd_8 : g_kd 8 = 30 := by decide +kernel
theorem kd_9 : g_kd 9 = 31 := by decide +kernel
theorem kd_10 : g_kd 10 = 32 := by decide +kernel
theorem kd_11 : g_kd 11 = 33 := by decide +kernel
theorem kd_12 : g_kd 12 = 34 := by decide +kernel
theorem kd_13 : g_kd 13 = 35 := by decide +kernel
theorem kd_14 : g_kd 14 = 36 := by decide +kernel
theorem kd_15 : g_kd 15 = 5 := by decide +kernel
theorem kd_16 : g_kd 16 = 6 := by decide +kernel
theorem kd_17 : g_kd 17 = 7 := by decide +kernel
theorem kd_18 : g_kd 18 = 7 := by decide +kernel
theorem kd_19 : g_kd 19 = 7 := by decide +kernel
theorem kd_20 : g_kd 20 = 7 := by decide +kernel
theorem kd_21 : g_kd 21 = 7 := by decide +kernel
theorem kd_22 : g_kd 22 = 7 := by decide +kernel
theorem kd_23 : g_kd 23 = 8 := by decide +kernel
theorem kd_24 : g_kd 24 = 9 := by decide +kernel
theorem kd_25 : g_kd 25 = 10 := by decide +kernel
theorem kd_26 : g_kd 26 = 11 := by decide +kernel
theorem kd_27 : g_kd 27 = 12 := by decide +kernel
theorem kd_28 : g_kd 28 = 9 := by decide +kernel
theorem kd_29 : g_kd 29 = 10 := by decide +kernel
theorem kd_30 : g_kd 30 = 11 := by decide +kernel
theorem kd_31 : g_kd 31 = 12 := by decide +kernel
theorem kd_32 : g_kd 32 = 13 := by decide +kernel
theorem kd_33 : g_kd 33 = 14 := by decide +kernel
theorem kd_34 : g_kd 34 = 15 := by decide +kernel
theorem kd_35 : g_kd 35 = 16 := by decide +kernel
theorem kd_36 : g_kd 36 = 17 := by decide +kernel
theorem kd_37 : g_kd 37 = 18 := by decide +kernel
theorem kd_38 : g_kd 38 = 19 := by decide +kernel
theorem kd_39 : g_kd 39 = 3 := by decide +kernel
theorem kd_40 : g_kd 40 = 4 := by decide +kernel
theorem kd_41 : g_kd 41 = 27 := by decide +kernel
theorem kd_42 : g_kd 42 = 28 := by decide +kernel
theorem kd_43 : g_kd 43 = 29 := by decide +kernel
theorem kd_44 : g_kd 44 = 30 := by decide +kernel
theorem kd_45 : g_kd 45 = 31 := by decide +kernel
theorem kd_46 : g_kd 46 = 32 := by decide +kernel
theorem kd_47 : g_kd 47 = 33 := by decide +kernel
theorem kd_48 : g_kd 48 = 34 := by decide +kernel
theorem kd_49 : g_kd 49 = 35 := by decide +kernel
theorem kd_50 : g_kd 50 = 36 := by decide +kernel
theorem kd_51 : g_kd 51 = 5 := by decide +kernel
theorem kd_52 : g_kd 52 = 6 := by decide +kernel
theorem kd_53 : g_kd 53 = 7 := by decide +kernel
theorem kd_54 : g_kd 54 = 7 := by decide +kernel
theorem kd_55 : g_kd 55 = 7 := by decide +kernel
theorem kd_56 : g_kd 56 = 7 := by decide +kernel
theorem kd_57 : g_kd 57 = 7 := by decide +kernel
theorem kd_58 : g_kd 58 = 7 := by decide +kernel
theorem kd_59 : g_kd 59 = 8 := by decide +kernel
theorem kd_60 : g_kd 60 = 9 := by decide +kernel
theorem kd_61 : g_kd 61 = 10 := by decide +kernel
theorem kd_62 : g_kd 62 = 11 := by decide +kernel
theorem kd_63 : g_kd 63 = 12 := by decide +kernel
theorem kd_64 : g_kd 64 = 9 := by decide +kernel
theorem kd_65 : g_kd 65 = 10 := by decide +kernel
theorem kd_66 : g_kd 66 = 11 := by decide +kernel
theorem kd_67 : g_kd 67 = 12 := by decide +kernel
theorem kd_68 : g_kd 68 = 13 := by decide +kernel
theorem kd_69 : g_kd 69 = 14 := by decide +kernel
theorem kd_70 : g_kd 70 = 15 := by decide +kernel
theorem kd_71 : g_kd 71 = 16 := by decide +kernel
theorem kd_72 : g_kd 72 = 17 := by decide +kernel
theorem kd_73 : g_kd 73 = 18 := by decide +kernel
theorem kd_74 : g_kd 74 = 3 := by decide +kernel
theorem kd_75 : g_kd 75 = 4 := by decide +kernel
theorem kd_76 : g_kd 76 = 27 := by decide +kernel
theorem kd_77 : g_kd 77 = 28 := by decide +kernel
theorem kd_78 : g_kd 78 = 29 := by decide +kernel
theorem kd_79 : g_kd 79 = 30 := by decide +kernel
theorem kd_80 : g_kd 80 = 31 := by decide +kernel
theorem kd_81 : g_kd 81 = 32 := by decide +kernel
theorem kd_82 : g_kd 82 = 33 := by decide +kernel
theorem kd_83 : g_kd 83 = 34 := by decide +kernel
theorem kd_84 : g_kd 84 = 35 := by decide +kernel
theorem kd_85 : g_kd 85 = 36 := by decide +kernel
theorem kd_86 : g_kd 86 = 5 := by decide +kernel
theorem kd_87 : g_kd 87 = 6 := by decide +kernel
theorem kd_88 : g_kd 88 = 7 := by decide +kernel
theorem kd_89 : g_kd 89 = 7 := by decide +kernel
theorem kd_90 : g_kd 90 = 7 := by decide +kernel
theorem kd_91 : g_kd 91 = 7 := by decide +kernel
theorem kd_92 : g_kd 92 = 7 := by decide +kernel
theorem kd_93 : g_kd 93 = 7 := by decide +kernel
theorem kd_94 : g_kd 94 = 8 := by decide +kernel
theorem kd_95 : g_kd 95 = 9 := by decide +kernel
theorem kd_96 : g_kd 96 = 10 := by decide +kernel
theorem kd_97 : g_kd 97 = 11 := by decide +kernel
theorem kd_98 : g_kd 98 = 12 := by decide +kernel
theorem kd_99 : g_kd 99 = 9 := by decide +kernel
theorem kd_100 : g_kd 100 = 10 := by decide +kernel
theorem kd_101 : g_kd 101 = 11 := by decide +kernel
theorem kd_102 : g_kd 102 = 12 := by decide +kernel
theorem kd_103 : g_kd 103 = 13 := by decide +kernel
theorem kd_104 : g_kd 104 = 14 := by decide +kernel
theorem kd_105 : g_kd 105 = 15 := by decide +kernel
theorem kd_106 : g_kd 106 = 16 := by decide +kernel
theorem kd_107 : g_kd 107 = 17 := by decide +kernel
theorem kd_108 : g_kd 108 = 18 := by decide +kernel
theorem kd_109 : g_kd 109 = 20 := by decide +kernel
theorem kd_110 : g_kd 110 = 21 := by decide +kernel
theorem kd_111 : g_kd 111 = 22 := by decide +kernel
theorem kd_112 : g_kd 112 = 5 := by decide +kernel
theorem kd_113 : g_kd 113 = 6 := by decide +kernel
theorem kd_114 : g_kd 114 = 7 := by decide +kernel
theorem kd_115 : g_kd 115 = 7 := by decide +kernel
theorem kd_116 : g_kd 116 = 7 := by decide +kernel
theorem kd_117 : g_kd 117 = 7 := by decide +kernel
theorem kd_118 : g_kd 118 = 7 := by decide +kernel
theorem kd_119 : g_kd 119 = 7 := by decide +kernel
theorem kd_120 : g_kd 120 = 8 := by decide +kernel
theorem kd_121 : g_kd 121 = 9 := by decide +kernel
theorem kd_122 : g_kd 122 = 10 := by decide +kernel
theorem kd_123 : g_kd 123 = 11 := by decide +kernel
theorem kd_124 : g_kd 124 = 12 := by decide +kernel
theorem kd_125 : g_kd 125 = 9 := by decide +kernel
theorem kd_126 : g_kd 126 = 10 := by decide +kernel
theorem kd_127 : g_kd 127 = 11 := by decide +kernel
theorem kd_128 : g_kd 128 = 12 := by decide +kernel
theorem kd_129 : g_kd 129 = 13 := by decide +kernel
theorem kd_130 : g_kd 130 = 5 := by decide +kernel
theorem kd_131 : g_kd 131 = 6 := by decide +kernel
theorem kd_132 : g_kd 132 = 7 := by decide +kernel
theorem kd_133 : g_kd 133 = 7 := by decide +kernel
theorem kd_134 : g_kd 134 = 7 := by decide +kernel
theorem kd_135 : g_kd 135 = 7 := by decide +kernel
theorem kd_136 : g_kd 136 = 7 := by decide +kernel
theorem kd_137 : g_kd 137 = 7 := by decide +kernel
theorem kd_138 : g_kd 138 = 8 := by decide +kernel
theorem kd_139 : g_kd 139 = 9 := by decide +kernel
theorem kd_140 : g_kd 140 = 10 := by decide +kernel
theorem kd_141 : g_kd 141 = 11 := by decide +kernel
theorem kd_142 : g_kd 142 = 12 := by decide +kernel
theorem kd_143 : g_kd 143 = 9 := by decide +kernel
theorem kd_144 : g_kd 144 = 10 := by decide +kernel
theorem kd_145 : g_kd 145 = 11 := by decide +kernel
theorem kd_146 : g_kd 146 = 12 := by decide +kernel
theorem kd_147 : g_kd 147 = 13 := by decide +kernel
theorem kd_148 : g_kd 148 = 5 := by decide +kernel
theorem kd_149 : g_kd 149 = 6 := by decide +kernel
theorem kd_150 : g_kd 150 = 7 := by decide +kernel
theorem kd_151 : g_kd 151 = 7 := by decide +kernel
theorem kd_152 : g_kd 152 = 7 := by decide +kernel
theorem kd_153 : g_kd 153 = 7 := by decide +kernel
theorem kd_154 : g_kd 154 = 7 := by decide +kernel
theorem kd_155 : g_kd 155 = 7 := by decide +kernel
theorem kd_156 : g_kd 156 = 8 := by decide +kernel
theorem kd_157 : g_kd 157 = 9 := by decide +kernel
theorem kd_158 : g_kd 158 = 10 := by decide +kernel
theorem kd_159 : g_kd 159 = 11 := by decide +kernel
theorem kd_160 : g_kd 160 = 12 := by decide +kernel
theorem kd_161 : g_kd 161 = 9 := by decide +kernel
theorem kd_162 : g_kd 162 = 10 := by decide +kernel
theorem kd_163 : g_kd 163 = 11 := by decide +kernel
theorem kd_164 : g_kd 164 = 12 := by decide +kernel
theorem kd_165 : g_kd 165 = 13 := by decide +kernel
theorem kd_166 : g_kd 166 = 5 := by decide +kernel
theorem kd_167 : g_kd 167 = 6 := by decide +kernel
theorem kd_168 : g_kd 168 = 7 := by decide +kernel
theorem kd_169 : g_kd 169 = 7 := by decide +kernel
theorem kd_170 : g_kd 170 = 7 := by decide +kernel
theorem kd_171 : g_kd 171 = 7 := by decide +kernel
theorem kd_172 : g_kd 172 = 7 := by decide +kernel
theorem kd_173 : g_kd 173 = 7 := by decide +kernel
theorem kd_174 : g_kd 174 = 8 := by decide +kernel
theorem kd_175 : g_kd 175 = 9 := by decide +kernel
theorem kd_176 : g_kd 176 = 10 := by decide +kernel
theorem kd_177 : g_kd 177 = 11 := by decide +kernel
theorem kd_178 : g_kd 178 = 12 := by decide +kernel
theorem kd_179 : g_kd 179 = 9 := by decide +kernel
theorem kd_180 : g_kd 180 = 10 := by decide +kernel
theorem kd_181 : g_kd 181 = 11 := by decide +kernel
theorem kd_182 : g_kd 182 = 12 := by decide +kernel
theorem kd_183 : g_kd 183 = 13 := by decide +kernel
theorem kd_184 : g_kd 184 = 5 := by decide +kernel
theorem kd_185 : g_kd 185 = 6 := by decide +kernel
theorem kd_186 : g_kd 186 = 7 := by decide +kernel
theorem kd_187 : g_kd 187 = 7 := by decide +kernel
theorem kd_188 : g_kd 188 = 7 := by decide +kernel
theorem kd_189 : g_kd 189 = 7 := by decide +kernel
theorem kd_190 : g_kd 190 = 7 := by decide +kernel
theorem kd_191 : g_kd 191 = 7 := by decide +kernel
theorem kd_192 : g_kd 192 = 8 := by decide +kernel
theorem kd_193 : g_kd 193 = 9 := by decide +kernel
theorem kd_194 : g_kd 194 = 10 := by decide +kernel
theorem kd_195 : g_kd 195 = 11 := by decide +kernel
theorem kd_196 : g_kd 196 = 12 := by decide +kernel
theorem kd_197 : g_kd 197 = 9 := by decide +kernel
theorem kd_198 : g_kd 198 = 10 := by decide +kernel
theorem kd_199 : g_kd 199 = 11 := by decide +kernel
theorem kd_200 : g_kd 200 = 12 := by decide +kernel
theorem kd_201 : g_kd 201 = 13 := by decide +kernel
theorem kd_202 : g_kd 202 = 5 := by decide +kernel
theorem kd_203 : g_kd 203 = 6 := by decide +kernel
theorem kd_204 : g_kd 204 = 7 := by decide +kernel
theorem kd_205 : g_kd 205 = 7 := by decide +kernel
theorem kd_206 : g_kd 206 = 7 := by decide +kernel
theorem kd_207 : g_kd 207 = 7 := by decide +kernel
theorem kd_208 : g_kd 208 = 7 := by decide +kernel
theorem kd_209 : g_kd 209 = 7 := by decide +kernel
theorem kd_210 : g_kd 210 = 8 := by decide +kernel
theorem kd_211 : g_kd 211 = 9 := by decide +kernel
theorem kd_212 : g_kd 212 = 10 := by decide +kernel
theorem kd_213 : g_kd 213 = 11 := by decide +kernel
theorem kd_214 : g_kd 214 = 12 := by decide +kernel
theorem kd_215 : g_kd 215 = 9 := by decide +kernel
theorem kd_216 : g_kd 216 = 10 := by decide +kernel
theorem kd_217 : g_kd 217 = 11 := by decide +kernel
theorem kd_218 : g_kd 218 = 12 := by decide +kernel
theorem kd_219 : g_kd 219 = 13 := by decide +kernel
theorem kd_220 : g_kd 220 = 5 := by decide +kernel
theorem kd_221 : g_kd 221 = 6 := by decide +kernel
theorem kd_222 : g_kd 222 = 7 := by decide +kernel
theorem kd_223 : g_kd 223 = 7 := by decide +kernel
theorem kd_224 : g_kd 224 = 7 := by decide +kernel
theorem kd_225 : g_kd 225 = 7 := by decide +kernel
theorem kd_226 : g_kd 226 = 7 := by decide +kernel
theorem kd_227 : g_kd 227 = 7 := by decide +kernel
theorem kd_228 : g_kd 228 = 8 := by decide +kernel
theorem kd_229 : g_kd 229 = 9 := by decide +kernel
theorem kd_230 : g_kd 230 = 10 := by decide +kernel
theorem kd_231 : g_kd 231 = 11 := by decide +kernel
theorem kd_232 : g_kd 232 = 12 := by decide +kernel
theorem kd_233 : g_kd 233 = 9 := by decide +kernel
theorem kd_234 : g_kd 234 = 10 := by decide +kernel
theorem kd_235 : g_kd 235 = 11 := by decide +kernel
theorem kd_236 : g_kd 236 = 12 := by decide +kernel
theorem kd_237 : g_kd 237 = 13 := by decide +kernel
theorem kd_238 : g_kd 238 = 5 := by decide +kernel
theorem kd_239 : g_kd 239 = 6 := by decide +kernel
theorem kd_240 : g_kd 240 = 7 := by decide +kernel
theorem kd_241 : g_kd 241 = 7 := by decide +kernel
theorem kd_242 : g_kd 242 = 7 := by decide +kernel
theorem kd_243 : g_kd 243 = 7 := by decide +kernel
theorem kd_244 : g_kd 244 = 7 := by decide +kernel
theorem kd_245 : g_kd 245 = 7 := by decide +kernel
theorem kd_246 : g_kd 246 = 8 := by decide +kernel
theorem kd_247 : g_kd 247 = 9 := by decide +kernel
theorem kd_248 : g_kd 248 = 10 := by decide +kernel
theorem kd_249 : g_kd 249 = 11 := by decide +kernel
theorem kd_250 : g_kd 250 = 12 := by decide +kernel
theorem kd_251 : g_kd 251 = 9 := by decide +kernel
theorem kd_252 : g_kd 252 = 10 := by decide +kernel
theorem kd_253 : g_kd 253 = 11 := by decide +kernel
theorem kd_254 : g_kd 254 = 12 := by decide +kernel
theorem kd_255 : g_kd 255 = 13 := by decide +kernel
theorem kd_256 : g_kd 256 = 4 := by decide +kernel
theorem kd_257 : g_kd 257 = 27 := by decide +kernel
theorem kd_258 : g_kd 258 = 28 := by decide +kernel
theorem kd_259 : g_kd 259 = 29 := by decide +kernel
theorem kd_260 : g_kd 260 = 30 := by decide +kernel
theorem kd_261 : g_kd 261 = 31 := by decide +kernel
theorem kd_262 : g_kd 262 = 32 := by decide +kernel
theorem kd_263 : g_kd 263 = 33 := by decide +kernel
theorem kd_264 : g_kd 264 = 34 := by decide +kernel
theorem kd_265 : g_kd 265 = 35 := by decide +kernel
theorem kd_266 : g_kd 266 = 36 := by decide +kernel
theorem kd_267 : g_kd 267 = 14 := by decide +kernel
theorem kd_268 : g_kd 268 = 15 := by decide +kernel
theorem kd_269 : g_kd 269 = 16 := by decide +kernel
theorem kd_270 : g_kd 270 = 17 := by decide +kernel
theorem kd_271 : g_kd 271 = 18 := by decide +kernel
theorem kd_272 : g_kd 272 = 23 := by decide +kernel
theorem kd_273 : g_kd 273 = 24 := by decide +kernel
theorem kd_274 : g_kd 274 = 25 := by decide +kernel
theorem kd_275 : g_kd 275 = 5 := by decide +kernel
theorem kd_276 : g_kd 276 = 6 := by decide +kernel
theorem kd_277 : g_kd 277 = 7 := by decide +kernel
theorem kd_278 : g_kd 278 = 7 := by decide +kernel
theorem kd_279 : g_kd 279 = 7 := by decide +kernel
theorem kd_280 : g_kd 280 = 7 := by decide +kernel
theorem kd_281 : g_kd 281 = 7 := by decide +kernel
theorem kd_282 : g_kd 282 = 7 := by decide +kernel
theorem kd_283 : g_kd 283 = 8 := by decide +kernel
theorem kd_284 : g_kd 284 = 9 := by decide +kernel
theorem kd_285 : g_kd 285 = 10 := by decide +kernel
theorem kd_286 : g_kd 286 = 11 := by decide +kernel
theorem kd_287 : g_kd 287 = 12 := by decide +kernel
theorem kd_288 : g_kd 288 = 9 := by decide +kernel
theorem kd_289 : g_kd 289 = 10 := by decide +kernel
theorem kd_290 : g_kd 290 = 11 := by decide +kernel
theorem kd_291 : g_kd 291 = 12 := by decide +kernel
theorem kd_292 : g_kd 292 = 13 := by decide +kernel
theorem kd_293 : g_kd 293 = 26 := by decide +kernel
theorem kd_294 : g_kd 294 = 40 := by decide +kernel
theorem kd_295 : g_kd 295 = 41 := by decide +kernel
theorem kd_296 : g_kd 296 = 42 := by decide +kernel
theorem kd_297 : g_kd 297 = 43 := by decide +kernel
theorem kd_298 : g_kd 298 = 44 := by decide +kernel
theorem kd_299 : g_kd 299 = 45 := by decide +kernel
theorem kd_300 : g_kd 300 = 46 := by decide +kernel
theorem kd_301 : g_kd 301 = 47 := by decide +kernel
theorem kd_302 : g_kd 302 = 48 := by decide +kernel
theorem kd_303 : g_kd 303 = 49 := by decide +kernel
theorem kd_304 : g_kd 304 = 50 := by decide +kernel
theorem kd_305 : g_kd 305 = 51 := by decide +kernel
theorem kd_306 : g_kd 306 = 52 := by decide +kernel
theorem kd_307 : g_kd 307 = 53 := by decide +kernel
theorem kd_308 : g_kd 308 = 54 := by decide +kernel
theorem kd_309 : g_kd 309 = 55 := by decide +kernel
theorem kd_310 : g_kd 310 = 56 := by decide +kernel
