/-! ===== kinds of the cells, and what holds of them between the calls ===== -/
def g_kl : List Nat := [0, 1, 2, 3, 4, 27, 28, 29, 30, 31, 32, 33, 34, 35, 36, 5, 6, 7, 7, 7, 7, 7, 7, 8, 9, 10, 11, 12, 9, 10, 11, 12, 13, 14, 15, 16, 17, 18, 19, 3, 4, 27, 28, 29, 30, 31, 32, 33, 34, 35, 36, 5, 6, 7, 7, 7, 7, 7, 7, 8, 9, 10, 11, 12, 9, 10, 11, 12, 13, 14, 15, 16, 17, 18, 3, 4, 27, 28, 29, 30, 31, 32, 33, 34, 35, 36, 5, 6, 7, 7, 7, 7, 7, 7, 8, 9, 10, 11, 12, 9, 10, 11, 12, 13, 14, 15, 16, 17, 18, 20, 21, 22, 5, 6, 7, 7, 7, 7, 7, 7, 8, 9, 10, 11, 12, 9, 10, 11, 12, 13, 5, 6, 7, 7, 7, 7, 7, 7, 8, 9, 10, 11, 12, 9, 10, 11, 12, 13, 5, 6, 7, 7, 7, 7, 7, 7, 8, 9, 10, 11, 12, 9, 10, 11, 12, 13, 5, 6, 7, 7, 7, 7, 7, 7, 8, 9, 10, 11, 12, 9, 10, 11, 12, 13, 5, 6, 7, 7, 7, 7, 7, 7, 8, 9, 10, 11, 12, 9, 10, 11, 12, 13, 5, 6, 7, 7, 7, 7, 7, 7, 8, 9, 10, 11, 12, 9, 10, 11, 12, 13, 5, 6, 7, 7, 7, 7, 7, 7, 8, 9, 10, 11, 12, 9, 10, 11, 12, 13, 5, 6, 7, 7, 7, 7, 7, 7, 8, 9, 10, 11, 12, 9, 10, 11, 12, 13, 4, 27, 28, 29, 30, 31, 32, 33, 34, 35, 36, 14, 15, 16, 17, 18, 23, 24, 25, 5, 6, 7, 7, 7, 7, 7, 7, 8, 9, 10, 11, 12, 9, 10, 11, 12, 13, 26, 40, 41, 42, 43, 44, 45, 46, 47, 48, 49, 50, 51, 52, 53, 54, 55, 56]
def g_kd (a : Nat) : Nat := g_kl.getD a 99
def g_sl : List (Nat × Nat × Nat) := [(0, 10, 11), (0, 7, 12), (1, 0, 940), (0, 9, 3), (0, 3, 18), (0, 5, 6), (3, 6, 6), (0, 8, 8), (3, 4, 2), (0, 0, 10), (1, 1, 6), (1, 1, 20), (1, 1, 20), (1, 1, 36), (0, 4, 6), (4, 8, 40), (1, 1, 40), (1, 1, 40), (1, 1, 40), (3, 7, 2), (1, 3, 2), (0, 1, 3), (3, 5, 8), (0, 6, 8), (4, 8, 40), (1, 1, 40), (0, 2, 2), (2, 2, 6), (1, 1, 6), (1, 1, 6), (1, 3, 6), (2, 2, 2), (1, 1, 2), (1, 1, 2), (1, 1, 2), (1, 1, 2), (1, 1, 2), (9, 0, 0), (9, 0, 0), (9, 0, 0), (0, 11, 42), (1, 0, 940), (1, 1, 397), (1, 1, 33), (1, 1, 135), (2, 2, 16), (2, 2, 28), (1, 1, 1464), (1, 1, 183), (1, 1, 6), (1, 1, 4), (1, 1, 45), (1, 3, 45), (1, 1, 794), (2, 2, 16), (1, 3, 2), (9, 0, 0)]
def g_sh (K : Nat) : Nat × Nat × Nat := g_sl.getD K (9, 0, 0)
def g_fl : List (List (Nat × Int × Int)) := [[(2, 1, 0), (2, 3, 0), (2, 38, 0), (2, 109, 0), (2, 110, 0), (2, 256, 0), (2, 267, 0), (2, 272, 0), (2, 275, 0), (2, 293, 0), (0, (-2147483648), 2147483647)], [(2, 1, 0), (0, 0, 940), (0, (-2147483648), 2147483647), (0, 0, 940), (0, (-2147483648), 2147483647), (0, (-2147483648), 2147483647), (3, 0, 0), (1, 0, 0), (0, (-2147483648), 2147483647), (0, (-2147483648), 2147483647), (0, (-2147483648), 2147483647), (0, (-2147483648), 2147483647)], [], [(2, 1, 0), (2, 12, 0), (2, 30, 0)], [(0, (-2147483648), 2147483647), (0, (-2147483648), 2147483647), (0, (-2147483648), 2147483647), (0, (-2147483648), 2147483647), (0, 0, 1), (0, 0, 1), (0, 0, 6), (0, 0, 2), (2, 1, 0), (2, 2, 0), (2, 3, 0), (2, 4, 0), (2, 5, 0), (2, 6, 0), (2, 7, 0), (2, 8, 0), (2, 9, 0), (2, 10, 0)], [(0, 0, 600), (0, (-2147483648), 2147483647), (0, (-2147483648), 2147483647), (2, 1, 0), (2, 8, 0), (2, 17, 0)], [(2, 1, 0)], [(0, (-2147483648), 2147483647), (0, 0, 1), (0, 0, 1), (0, 0, 1), (0, 0, 1), (0, (-2147483648), 2147483647), (0, (-2147483648), 2147483647), (0, (-2147483648), 2147483647)], [(2, 4, 0)], [(0, (-2147483648), 2147483647), (0, (-2147483648), 2147483647), (0, (-2147483648), 2147483647), (0, 0, 600), (0, (-2147483648), 2147483647), (0, (-2147483648), 2147483647), (0, 0, 5), (2, 1, 0), (2, 2, 0), (2, 3, 0)], [], [], [], [], [(0, (-2147483648), 2147483647), (0, 0, 40), (2, 1, 0), (2, 2, 0), (2, 3, 0), (2, 4, 0)], [], [], [], [], [(2, 35, 0)], [], [(2, 1, 0), (0, 0, 7), (0, 0, 8)], [(2, 18, 0)], [(0, 0, 40), (2, 1, 0), (2, 2, 0), (0, 0, 1), (0, (-2147483648), 2147483647), (0, (-2147483648), 2147483647), (0, (-2147483648), 2147483647), (0, (-2147483648), 2147483647)], [], [], [(1, 0, 0), (1, 0, 0)], [], [], [], [], [], [], [], [], [], [], [], [], [], [(0, (-2147483648), 2147483647), (2, 1, 0), (0, 0, 940), (0, 0, 940), (0, 0, 940), (0, (-2147483648), 2147483647), (2, 2, 0), (2, 3, 0), (2, 4, 0), (2, 5, 0), (2, 6, 0), (0, (-2147483648), 2147483647), (0, (-2147483648), 2147483647), (0, (-2147483648), 2147483647), (0, (-2147483648), 2147483647), (0, (-2147483648), 2147483647), (0, (-2147483648), 2147483647), (1, 0, 0), (0, (-2147483648), 2147483647), (0, (-2147483648), 2147483647), (0, (-2147483648), 2147483647), (2, 7, 0), (2, 8, 0), (0, 0, 8), (2, 9, 0), (0, (-2147483648), 2147483647), (0, (-2147483648), 2147483647), (0, (-2147483648), 2147483647), (0, (-2147483648), 2147483647), (0, 0, 40), (2, 10, 0), (0, 0, 1), (2, 11, 0), (0, 0, 40), (0, 0, 20), (0, 0, 40), (0, (-2147483648), 2147483647), (0, 0, 1), (2, 12, 0), (2, 13, 0), (2, 14, 0), (2, 15, 0)], [], [], [], [], [], [], [], [], [], [], [], [], [], [], [], []]
def g_fs (K i : Nat) : Nat × Int × Int := (g_fl.getD K []).getD i (9, 0, 0)
def g_s42 (i : Nat) : Int × Int := if 0 ≤ i ∧ i ≤ 0 then (0, 6) else if 1 ≤ i ∧ i ≤ 1 then (0, 2) else if 11 ≤ i ∧ i ≤ 16 then (0, 9) else if 23 ≤ i ∧ i ≤ 24 then (0, 5) else if 33 ≤ i ∧ i ≤ 33 then (0, 600) else if 34 ≤ i ∧ i ≤ 35 then (0, 6) else if 80 ≤ i ∧ i ≤ 81 then (0, 600) else if 82 ≤ i ∧ i ≤ 83 then (0, 6) else if 86 ≤ i ∧ i ≤ 87 then (0, 5) else if 88 ≤ i ∧ i ≤ 99 then (0, 602) else if 216 ≤ i ∧ i ≤ 216 then (0, 40) else ((-2147483648), 2147483647)
def g_as (K i : Nat) : Int × Int := if K = 42 then g_s42 i else if K = 43 then (if i < 33 then g_s42 i else ((-2147483648), 2147483647)) else if K = 48 then g_s42 (33 + i) else if K = 47 then g_s42 (33 + i % 183) else if K = 53 then g_s42 (i % 397) else if K = 32 then (-1, 5) else if K = 17 then (0, 999) else if (g_sh K).2.1 = 3 then (0, 1) else if (g_sh K).2.1 = 0 then (-128, 127) else ((-2147483648), 2147483647)
def g_ckL : List (List Nat) := [[1, 3, 19, 20, 21, 4, 14, 23, 5, 26, 99], [2, 99, 99, 99, 99, 99, 99, 99, 99, 99, 99, 99], [], [4, 5, 14], [99, 99, 99, 99, 99, 99, 99, 99, 27, 28, 29, 30, 31, 32, 33, 34, 35, 36], [99, 99, 99, 6, 8, 13], [], [99, 99, 99, 99, 99, 99, 99, 99], [], [99, 99, 99, 99, 99, 99, 99, 10, 11, 12], [], [], [], [], [99, 99, 15, 16, 17, 18], [], [], [], [], [], [], [22, 99, 99], [], [99, 24, 25, 99, 99, 99, 99, 99], [], [], [99, 99], [], [], [], [], [], [], [], [], [], [], [], [], [], [99, 41, 99, 99, 99, 99, 42, 43, 44, 45, 46, 99, 99, 99, 99, 99, 99, 99, 99, 99, 99, 47, 48, 99, 49, 99, 99, 99, 99, 99, 50, 99, 51, 99, 99, 99, 99, 99, 52, 53, 54, 55], [], [], [], [], [], [], [], [], [], [], [], [], [], [], [], []]
def g_ckT (K i : Nat) : Nat := (g_ckL.getD K []).getD i 99
def g_ekT (K : Nat) : Nat := if K = 6 then 7 else if K = 8 then 9 else if K = 19 then 3 else 5
def o_f (e : va_E) (i : Nat) : Value := match e with
  | .inr (_, fs) => fs.getD i .null
  | .inl _ => .null
def o_a (e : va_E) : Nat → Int32 := match e with
  | .inl (_, _, .inl f) => f
  | _ => fun _ => 0
def o_r (e : va_E) : Nat → Option Nat := match e with
  | .inl (_, _, .inr (.inr (.inr (.inr f)))) => f
  | _ => fun _ => none
def o_l (e : va_E) : Nat → Int64 := match e with
  | .inl (_, _, .inr (.inl f)) => f
  | _ => fun _ => 0
def o_i (e : va_E) (i : Nat) : Int := match o_f e i with
  | .int x => x.toInt
  | _ => 0
def g_okv (sp : Nat × Int × Int) (a : Nat) (v : Value) : Prop :=
  (sp.1 = 0 ∧ ∃ x : Int32, v = .int x ∧ sp.2.1 ≤ x.toInt ∧ x.toInt ≤ sp.2.2) ∨ (sp.1 = 1 ∧ ∃ x : Int64, v = .long x) ∨ (sp.1 = 2 ∧ v = .ref (a + sp.2.1.toNat)) ∨ (sp.1 = 3 ∧ ∃ r : Nat, v = .ref (65536 + r) ∧ r < 28)
def g_ok (a : Nat) (e : va_E) : Prop :=
  ((g_sh (g_kd a)).1 = 0 → ∃ fs, e = .inr ((g_sh (g_kd a)).2.1, fs) ∧ fs.length = (g_sh (g_kd a)).2.2 ∧ ∀ i, i < (g_sh (g_kd a)).2.2 → g_okv (g_fs (g_kd a) i) a (fs.getD i .null)) ∧
  ((g_sh (g_kd a)).1 = 1 → ∃ f, e = .inl ((g_sh (g_kd a)).2.1, (g_sh (g_kd a)).2.2, .inl f) ∧ ∀ i, i < (g_sh (g_kd a)).2.2 → (g_as (g_kd a) i).1 ≤ (f i).toInt ∧ (f i).toInt ≤ (g_as (g_kd a) i).2) ∧
  ((g_sh (g_kd a)).1 = 2 → ∃ f, e = .inl (2, (g_sh (g_kd a)).2.2, .inr (.inl f))) ∧
  ((g_sh (g_kd a)).1 = 3 → ∃ f, e = .inl ((g_sh (g_kd a)).2.1, (g_sh (g_kd a)).2.2, .inr (.inr (.inr (.inr f)))) ∧ ∀ i, i < (g_sh (g_kd a)).2.2 → f i = some (a + 1 + (g_fs (g_kd a) 0).2.1.toNat * i)) ∧
  ((g_sh (g_kd a)).1 = 4 → ∃ f, e = .inl ((g_sh (g_kd a)).2.1, (g_sh (g_kd a)).2.2, .inr (.inr (.inr (.inr f)))) ∧ ∀ i, i < (g_sh (g_kd a)).2.2 → f i = none ∨ ∃ r, r < 28 ∧ f i = some (65536 + r))
/-- every cell is as its kind says -/
def InvB (M : pM) : Prop := ∀ a, a < 311 → g_ok a (M a)
/-- a dog has turned at most once a second -/
def g_T (M : pM) : Prop := ∀ a, g_kd a = 5 → o_i (M (a + 9)) 3 ≤ o_i (M a) 0 ∧ o_i (M (a + 13)) 3 ≤ o_i (M a) 0
/-- codes in which what joins two stands behind both -/
def g_rs (w : Int) (n : Nat) : Option Nat := if w = 20 then (if 1 ≤ n then some n else none) else if w = 21 ∨ w = 22 then (if 2 ≤ n then some (n - 1) else none) else some (n + 1)
def g_rp (g : Nat → Int32) : Nat → Option Nat
  | 0 => some 0
  | i + 1 => (g_rp g i).bind (g_rs (g (3 * i)).toInt)
def g_RP (c : Int) (g : Nat → Int32) : Prop := g_rp g c.toNat ≠ none ∧ ∀ i : Nat, (i : Int) < c → (g (3 * i)).toInt = 3 → 0 ≤ (g (3 * i + 2)).toInt ∧ (g (3 * i + 2)).toInt ≤ 5
/-- a state of the reference: its dogs, its codes -/
def g_st (f : Nat → Int32) : Prop := (f 47).toInt ≤ (f 0).toInt ∧ (f 48).toInt ≤ (f 0).toInt
def g_sa (f : Nat → Int32) : Prop := g_st (fun i => f (33 + i)) ∧ g_RP (f 216).toInt (fun i => f (217 + i))
def g_TM (M : pM) : Prop := g_sa (o_a (M 296)) ∧ g_st (o_a (M 302)) ∧ (∀ u, u < 8 → g_st (fun i => o_a (M 301) (183 * u + i))) ∧ (∀ u, u < 2 → g_sa (fun i => o_a (M 307) (397 * u + i)))
def gTT (M : pM) : Prop := g_T M ∧ g_TM M
def Iv (V : pM → Prop) (M : pM) : Prop := InvB M ∧ V M
def Inv (M : pM) : Prop := Iv gTT M
def gF (K ci i tag : Nat) (lo hi : Int) : Prop := ∃ n, g_sh K = (0, ci, n) ∧ i < n ∧ g_fs K i = (tag, lo, hi)
def gP (ci i : Nat) (lo hi : Int) : Prop := ((p_cl ci).2.1 i).2.2.2 = false ∧ (p_tyf ci i = .int ∨ (p_tyf ci i = .boolean ∧ 0 ≤ lo ∧ hi ≤ 1))
def gLg (ci i : Nat) : Prop := ((p_cl ci).2.1 i).2.2.2 = false ∧ p_tyf ci i = .long
def gQ (ci i : Nat) (_ : Bool) : Prop := ((p_cl ci).2.1 i).2.2.2 = false ∧ ∃ s, p_tyf ci i = .object s
theorem g_kd_lt {a K : Nat} (h : g_kd a = K) (hK : K < 60) : a < 311 := by
  by_cases q : a < 311
  · exact q
  · exfalso
    have hl : g_kl.length = 311 := by decide +kernel
    have e : g_kd a = 99 := by
      unfold g_kd
      rw [List.getD_eq_getElem?_getD, List.getElem?_eq_none (by omega)]
      rfl
    omega
theorem gF.at {K ci i tag : Nat} {lo hi : Int} (hF : gF K ci i tag lo hi) {a : Nat} {M : pM} (hk : g_kd a = K) (hK : K < 60) (I : InvB M) : a < 311 ∧ ∃ fs, M a = .inr (ci, fs) ∧ i < fs.length ∧ fs[i]? = some (o_f (M a) i) ∧ g_okv (tag, lo, hi) a (o_f (M a) i) ∧ o_f (M a) i = fs.getD i .null := by
  obtain ⟨n, h1, h2, h3⟩ := hF
  have ha := g_kd_lt hk hK
  have q := (I a ha).1
  rw [hk, h1] at q
  obtain ⟨fs, e1, e2, e3⟩ := q rfl
  have e2 : fs.length = n := e2
  have q2 := e3 i h2
  rw [h3] at q2
  have e4 : o_f (M a) i = fs.getD i .null := by rw [e1]; rfl
  refine ⟨ha, fs, e1, by omega, ?_, by rw [e4]; exact q2, e4⟩
  rw [e4, List.getD_eq_getElem?_getD, List.getElem?_eq_getElem (by omega)]
  rfl
/-- M1 is M but for field i of cell a -/
def gU (M M1 : pM) (a i : Nat) : Prop := (∀ c, c ≠ a → M1 c = M c) ∧ ∀ k, k ≠ i → o_f (M1 a) k = o_f (M a) k
theorem gU.f {M M1 : pM} {a i c k : Nat} (U : gU M M1 a i) (h : c ≠ a ∨ k ≠ i) : o_f (M1 c) k = o_f (M c) k := by
  by_cases e : c = a
  · subst e
    exact U.2 k (h.resolve_left fun q => q rfl)
  · rw [U.1 c e]
theorem gF.set {K ci i tag : Nat} {lo hi : Int} (hF : gF K ci i tag lo hi) {a : Nat} {M : pM} (hk : g_kd a = K) (hK : K < 60) (I : InvB M) {fs : List Value} (hM : M a = .inr (ci, fs)) {v : Value} (hv : g_okv (tag, lo, hi) a v) : InvB (va_up M a (.inr (ci, fs.set i v))) ∧ o_f (va_up M a (.inr (ci, fs.set i v)) a) i = v ∧ gU M (va_up M a (.inr (ci, fs.set i v))) a i := by
  obtain ⟨n, h1, h2, h3⟩ := hF
  have ha := g_kd_lt hk hK
  have q := (I a ha).1
  rw [hk, h1] at q
  obtain ⟨fs', e1, e2, e3⟩ := q rfl
  have e2 : fs'.length = n := e2
  obtain rfl : fs = fs' := by rw [hM] at e1; cases e1; rfl
  have hi : i < fs.length := by omega
  refine ⟨fun c hc => ?_, ?_, fun c hc => va_up_ne _ _ hc, fun k hk2 => ?_⟩
  · by_cases e : c = a
    · subst e
      rw [p_up_eq]
      have r0 : (g_sh (g_kd c)).1 = 0 := by rw [hk, h1]
      refine ⟨fun _ => ⟨fs.set i v, by rw [hk, h1], by rw [hk, h1, List.length_set]; exact e2, fun k hkn => ?_⟩, fun r => ?_, fun r => ?_, fun r => ?_, fun r => ?_⟩
      · rw [hk, h1] at hkn
        rw [hk]
        by_cases ek : k = i
        · subst ek
          rw [h3, List.getD_eq_getElem?_getD, List.getElem?_set_self hi]
          exact hv
        · have := e3 k hkn
          rw [List.getD_eq_getElem?_getD, List.getElem?_set_ne (fun q => ek q.symm), ← List.getD_eq_getElem?_getD]
          exact this
      all_goals (rw [r0] at r; cases r)
    · rw [va_up_ne _ _ e]
      exact I c hc
  · rw [p_up_eq]
    show (fs.set i v).getD i .null = v
    rw [List.getD_eq_getElem?_getD, List.getElem?_set_self hi]
    rfl
  · rw [p_up_eq, hM]
    show (fs.set i v).getD k .null = fs.getD k .null
    rw [List.getD_eq_getElem?_getD, List.getElem?_set_ne (fun q => hk2 q.symm), ← List.getD_eq_getElem?_getD]
/-- fields that the dogs' turns rest on -/
def g_sp (K i : Nat) : Bool := (K == 5 && i == 0) || (K == 9 && i == 3) || (K == 4 && i == 7) || (K == 23 && i == 0) || (K == 40 && (i == 29 || i == 33 || i == 35 || i == 37))
/-- rows that relations speak of -/
def g_sA (K : Nat) : Bool := K == 24 || K == 25 || K == 32 || K == 42 || K == 44 || K == 47 || K == 48 || K == 51 || K == 53
set_option maxRecDepth 100000 in
theorem g_k59 : ((List.range 311).all fun a => !(g_kd a == 5) || (g_kd (a + 9) == 9 && g_kd (a + 13) == 9 && g_kd (a + 1) == 6 && g_kd (a + 8) == 8 && g_kd (a + 17) == 13 && (List.range 6).all (fun i => g_kd (a + 1 + 1 + 1 * i) == 7) && (List.range 2).all (fun i => g_kd (a + 8 + 1 + 4 * i) == 9))) = true := by decide +kernel
theorem g_k5 {a : Nat} (h : g_kd a = 5) : g_kd (a + 9) = 9 ∧ g_kd (a + 13) = 9 ∧ g_kd (a + 1) = 6 ∧ g_kd (a + 8) = 8 ∧ g_kd (a + 17) = 13 ∧ (∀ i, i < 6 → g_kd (a + 1 + 1 + 1 * i) = 7) ∧ (∀ i, i < 2 → g_kd (a + 8 + 1 + 4 * i) = 9) := by
  have q := List.all_eq_true.mp g_k59 a (List.mem_range.mpr (g_kd_lt h (by decide)))
  simp only [h, Bool.or_eq_true, Bool.and_eq_true, beq_iff_eq, List.all_eq_true, List.mem_range, Bool.not_eq_true', beq_self_eq_true, Bool.false_eq_true, false_or, reduceCtorEq] at q
  obtain ⟨⟨⟨⟨⟨⟨q1, q2⟩, q3⟩, q4⟩, q5⟩, q6⟩, q7⟩ := q
  exact ⟨q1, q2, q3, q4, q5, q6, q7⟩
theorem g_ne {a b x y : Nat} (h1 : g_kd a = x) (h2 : g_kd b = y) (h : x ≠ y) : a ≠ b := fun e => h (by rw [← h1, ← h2, e])
theorem o_i_of {e : va_E} {i : Nat} {x : Int32} (h : o_f e i = .int x) : o_i e i = x.toInt := by unfold o_i; rw [h]
theorem gU.i {M M1 : pM} {a i c k : Nat} (U : gU M M1 a i) (h : c ≠ a ∨ k ≠ i) : o_i (M1 c) k = o_i (M c) k := by unfold o_i; rw [U.f h]
theorem gU.T {M M1 : pM} {a i K : Nat} (U : gU M M1 a i) (hk : g_kd a = K) (hs : g_sp K i = false) (T : g_T M) : g_T M1 := by
  intro b hb
  obtain ⟨q1, q2, -⟩ := g_k5 hb
  have s1 : ∀ c k, g_kd c = 9 → k = 3 → c ≠ a ∨ k ≠ i := fun c k hc hkk => by
    by_cases e : c = a
    · refine Or.inr fun e2 => ?_
      subst e; subst e2; subst hkk
      rw [hc] at hk; subst hk; cases hs
    · exact Or.inl e
  have s2 : b ≠ a ∨ 0 ≠ i := by
    by_cases e : b = a
    · refine Or.inr fun e2 => ?_
      subst e; subst e2
      rw [hb] at hk; subst hk; cases hs
    · exact Or.inl e
  rw [U.i (s1 _ _ q1 rfl), U.i (s1 _ _ q2 rfl), U.i s2]
  exact T b hb
theorem gU.TM {M M1 : pM} {a i K : Nat} (U : gU M M1 a i) (hk : g_kd a = K) (hs : (g_sh K).1 = 0) (T : g_TM M) : g_TM M1 := by
  have s : ∀ c, (g_sh (g_kd c)).1 ≠ 0 → M1 c = M c := fun c h => U.1 c fun e => h (by rw [e, hk]; exact hs)
  unfold g_TM
  rw [s 296 (by decide), s 302 (by decide), s 301 (by decide), s 307 (by decide)]
  exact T
/-- M1 is M but for place q of the row a -/
def gVv (M M1 : pM) (a q : Nat) : Prop := (∀ c, c ≠ a → M1 c = M c) ∧ ∀ z, z ≠ q → o_a (M1 a) z = o_a (M a) z
/-- a place of s that its relations don't speak of -/
def g_no (q : Nat) : Prop := q ≠ 33 ∧ q ≠ 80 ∧ q ≠ 81 ∧ q < 216
/-- what no ordinary store can break -/
def Stab (V : pM → Prop) : Prop :=
  (∀ (M M1 : pM) (a i K : Nat), V M → gU M M1 a i → g_kd a = K → g_sp K i = false → (g_sh K).1 = 0 → V M1) ∧
  (∀ (M M1 : pM) (a K : Nat), V M → (∀ c, c ≠ a → M1 c = M c) → g_kd a = K → (g_sh K).1 ≠ 0 → g_sA K = false → V M1) ∧
  (∀ (M M1 : pM) (q : Nat), V M → gVv M M1 296 q → g_no q → V M1)
theorem gU.inv {V : pM → Prop} {M M1 : pM} {a i K : Nat} (U : gU M M1 a i) (I1 : InvB M1) (hk : g_kd a = K) (hs : g_sp K i = false) (hs2 : (g_sh K).1 = 0) (hV : Stab V) (I : Iv V M) : Iv V M1 := ⟨I1, hV.1 M M1 a i K I.2 U hk hs hs2⟩
/-- M1 is M but for the kinds of the list -/
def Fr (l : List Nat) (M M1 : pM) : Prop := ∀ c, g_kd c ∉ l → M1 c = M c
theorem Fr.refl {l : List Nat} {M : pM} : Fr l M M := fun _ _ => rfl
theorem Fr.trans {l l' : List Nat} {M M1 M2 : pM} (h : Fr l M M1) (h2 : Fr l' M1 M2) (hs : l'.all (fun x => l.contains x) = true) : Fr l M M2 := fun c hc => by
  rw [h2 c fun q => hc ?_, h c hc]
  have := List.all_eq_true.mp hs _ q
  simpa using this
theorem Fr.put {l : List Nat} {M M1 M2 : pM} {a i K : Nat} (h : Fr l M M1) (U : gU M1 M2 a i) (hk : g_kd a = K) (hl : K ∈ l) : Fr l M M2 := fun c hc => by
  rw [U.1 c fun e => hc (by rw [e, hk]; exact hl), h c hc]
theorem gF.int {K ci i : Nat} {lo hi : Int} (hF : gF K ci i 0 lo hi) {a : Nat} {M : pM} (hk : g_kd a = K) (I : InvB M) (hK : K < 60) : ∃ x : Int32, o_f (M a) i = .int x ∧ lo ≤ x.toInt ∧ x.toInt ≤ hi := by
  obtain ⟨ha, fs, e1, e2, e3, e4, -⟩ := hF.at hk hK I
  rcases e4 with ⟨-, x, e5, e6, e7⟩ | ⟨q, -⟩ | ⟨q, -⟩ | ⟨q, -⟩
  · exact ⟨x, e5, e6, e7⟩
  all_goals cases q
section Rules
variable {V : pM → Prop} {G : pG} {al : Bool} {d j mc ms : Nat} {Kr : pK} {pc : Nat} {lv : List (Nat × Value)} {st : List Value} {M : pM} {ce sl : Nat}
theorem PW.gV {idx ci i a : Nat} {fs : List Value} {v : Value} (h : p_tb j pc = some (.getfield idx, 3)) (hf : p_f2 p_ft (p_mK j) idx = some (ci, i) ∨ p_f2 p_fN (p_mK j) idx = some (ci, i)) (ha : a < 311) (hM : M a = .inr (ci, fs)) (hv : fs[i]? = some v) (kk : PW G al d j mc ms Kr (pc + 3) lv (v :: st) 311 M ce sl) : PW G al d j mc ms Kr pc lv (.ref a :: st) 311 M ce sl := by
  rcases hf with hf | hf
  · exact PW.getf h hf ha hM hv kk
  · exact PW.getN h hf ha hM hv kk
theorem PW.gI {idx ci i a K : Nat} {lo hi : Int} (h : p_tb j pc = some (.getfield idx, 3)) (hf : p_f2 p_ft (p_mK j) idx = some (ci, i) ∨ p_f2 p_fN (p_mK j) idx = some (ci, i)) (hF : gF K ci i 0 lo hi) (hk : g_kd a = K) (I : InvB M) (hK : K < 60) (kk : ∀ x : Int32, o_f (M a) i = .int x → lo ≤ x.toInt → x.toInt ≤ hi → PW G al d j mc ms Kr (pc + 3) lv (.int x :: st) 311 M ce sl) : PW G al d j mc ms Kr pc lv (.ref a :: st) 311 M ce sl := by
  obtain ⟨ha, fs, e1, e2, e3, e4, -⟩ := hF.at hk hK I
  rcases e4 with ⟨-, x, e5, e6, e7⟩ | ⟨q, -⟩ | ⟨q, -⟩ | ⟨q, -⟩
  · rw [e5] at e3
    exact PW.gV h hf ha e1 e3 (kk x e5 e6 e7)
  all_goals cases q
theorem PW.gL {idx ci i a K : Nat} {lo hi : Int} (h : p_tb j pc = some (.getfield idx, 3)) (hf : p_f2 p_ft (p_mK j) idx = some (ci, i) ∨ p_f2 p_fN (p_mK j) idx = some (ci, i)) (hF : gF K ci i 1 lo hi) (hk : g_kd a = K) (I : InvB M) (hK : K < 60) (kk : ∀ x : Int64, o_f (M a) i = .long x → PW G al d j mc ms Kr (pc + 3) lv (.long x :: st) 311 M ce sl) : PW G al d j mc ms Kr pc lv (.ref a :: st) 311 M ce sl := by
  obtain ⟨ha, fs, e1, e2, e3, e4, -⟩ := hF.at hk hK I
  rcases e4 with ⟨q, -⟩ | ⟨-, x, e5⟩ | ⟨q, -⟩ | ⟨q, -⟩
  · cases q
  · rw [e5] at e3
    exact PW.gV h hf ha e1 e3 (kk x e5)
  all_goals cases q
theorem PW.gR {idx ci i a K : Nat} {lo hi : Int} (b : Nat) (h : p_tb j pc = some (.getfield idx, 3)) (hf : p_f2 p_ft (p_mK j) idx = some (ci, i) ∨ p_f2 p_fN (p_mK j) idx = some (ci, i)) (hF : gF K ci i 2 lo hi) (hk : g_kd a = K) (I : InvB M) (hK : K < 60) (hb : a + lo.toNat = b) (kk : PW G al d j mc ms Kr (pc + 3) lv (.ref b :: st) 311 M ce sl) : PW G al d j mc ms Kr pc lv (.ref a :: st) 311 M ce sl := by
  obtain ⟨ha, fs, e1, e2, e3, e4, -⟩ := hF.at hk hK I
  rcases e4 with ⟨q, -⟩ | ⟨q, -⟩ | ⟨-, e5⟩ | ⟨q, -⟩
  · cases q
  · cases q
  · rw [e5, hb] at e3
    exact PW.gV h hf ha e1 e3 kk
  · cases q
theorem PW.gW {idx ci i a K : Nat} {lo hi : Int} (h : p_tb j pc = some (.getfield idx, 3)) (hf : p_f2 p_ft (p_mK j) idx = some (ci, i) ∨ p_f2 p_fN (p_mK j) idx = some (ci, i)) (hF : gF K ci i 3 lo hi) (hk : g_kd a = K) (I : InvB M) (hK : K < 60) (kk : ∀ r : Nat, r < 28 → o_f (M a) i = .ref (65536 + r) → PW G al d j mc ms Kr (pc + 3) lv (.ref (65536 + r) :: st) 311 M ce sl) : PW G al d j mc ms Kr pc lv (.ref a :: st) 311 M ce sl := by
  obtain ⟨ha, fs, e1, e2, e3, e4, -⟩ := hF.at hk hK I
  rcases e4 with ⟨q, -⟩ | ⟨q, -⟩ | ⟨q, -⟩ | ⟨-, r, e5, e6⟩
  · cases q
  · cases q
  · cases q
  · rw [e5] at e3
    exact PW.gV h hf ha e1 e3 (kk r e6 e5)
theorem PW.gE {idx ci i a K : Nat} {tag : Nat} {lo hi : Int} {v : Value} (h : p_tb j pc = some (.getfield idx, 3)) (hf : p_f2 p_ft (p_mK j) idx = some (ci, i) ∨ p_f2 p_fN (p_mK j) idx = some (ci, i)) (hF : gF K ci i tag lo hi) (hk : g_kd a = K) (I : InvB M) (hK : K < 60) (hv : o_f (M a) i = v) (kk : PW G al d j mc ms Kr (pc + 3) lv (v :: st) 311 M ce sl) : PW G al d j mc ms Kr pc lv (.ref a :: st) 311 M ce sl := by
  obtain ⟨ha, fs, e1, e2, e3, e4, -⟩ := hF.at hk hK I
  rw [hv] at e3
  exact PW.gV h hf ha e1 e3 kk
theorem PW.pV {idx ci i a K tag : Nat} {lo hi : Int} {v : Value} (h : p_tb j pc = some (.putfield idx, 3)) (hf : p_f2 p_ft (p_mK j) idx = some (ci, i) ∨ p_f2 p_fN (p_mK j) idx = some (ci, i)) (hF : gF K ci i tag lo hi) (hfin : ((p_cl ci).2.1 i).2.2.2 = false) (hok : p_fv (p_tyf ci i) v = true) (hk : g_kd a = K) (I : InvB M) (hK : K < 60) (hv : g_okv (tag, lo, hi) a v) (kk : ∀ M1, InvB M1 → o_f (M1 a) i = v → gU M M1 a i → PW G al d j mc ms Kr (pc + 3) lv st 311 M1 ce sl) : PW G al d j mc ms Kr pc lv (v :: .ref a :: st) 311 M ce sl := by
  obtain ⟨ha, fs, e1, e2, -, -, -⟩ := hF.at hk hK I
  obtain ⟨i1, i2, i3⟩ := hF.set hk hK I e1 hv
  rcases hf with hf | hf
  · exact PW.putf h hf ha e1 hfin hok e2 (kk _ i1 i2 i3)
  · exact PW.putN h hf ha e1 hfin hok e2 (kk _ i1 i2 i3)
theorem g_fvI {ci i : Nat} {lo hi : Int} (hP : gP ci i lo hi) {x : Int32} (h1 : lo ≤ x.toInt) (h2 : x.toInt ≤ hi) : p_fv (p_tyf ci i) (.int x) = true := by
  rcases hP.2 with q | ⟨q, q1, q2⟩
  · rw [q]; rfl
  · rw [q]
    show (x == 0 || x == 1) = true
    have : x.toInt = 0 ∨ x.toInt = 1 := by omega
    rcases this with r | r
    · rw [show x = 0 from Int32.toInt_inj.mp r]; rfl
    · rw [show x = 1 from Int32.toInt_inj.mp r]; rfl
/-- a field that the dogs' turns rest on: bounds alone are kept -/
theorem PW.pB {idx ci i a K : Nat} {lo hi : Int} {x : Int32} (h : p_tb j pc = some (.putfield idx, 3)) (hf : p_f2 p_ft (p_mK j) idx = some (ci, i) ∨ p_f2 p_fN (p_mK j) idx = some (ci, i)) (hF : gF K ci i 0 lo hi) (hP : gP ci i lo hi) (hk : g_kd a = K) (I : InvB M) (hK : K < 60) (h1 : lo ≤ x.toInt) (h2 : x.toInt ≤ hi) (kk : ∀ M1, InvB M1 → o_f (M1 a) i = .int x → gU M M1 a i → PW G al d j mc ms Kr (pc + 3) lv st 311 M1 ce sl) : PW G al d j mc ms Kr pc lv (.int x :: .ref a :: st) 311 M ce sl :=
  PW.pV h hf hF hP.1 (g_fvI hP h1 h2) hk I hK (Or.inl ⟨rfl, x, rfl, h1, h2⟩) kk
theorem gF.sh {K ci i tag : Nat} {lo hi : Int} (hF : gF K ci i tag lo hi) : (g_sh K).1 = 0 := by obtain ⟨n, h1, -⟩ := hF; rw [h1]
theorem PW.pI {idx ci i a K : Nat} {lo hi : Int} {x : Int32} (h : p_tb j pc = some (.putfield idx, 3)) (hf : p_f2 p_ft (p_mK j) idx = some (ci, i) ∨ p_f2 p_fN (p_mK j) idx = some (ci, i)) (hF : gF K ci i 0 lo hi) (hP : gP ci i lo hi) (hk : g_kd a = K) (hV : Stab V) (I : Iv V M) (hK : K < 60) (hs : g_sp K i = false) (h1 : lo ≤ x.toInt) (h2 : x.toInt ≤ hi) (kk : ∀ M1, Iv V M1 → o_f (M1 a) i = .int x → gU M M1 a i → PW G al d j mc ms Kr (pc + 3) lv st 311 M1 ce sl) : PW G al d j mc ms Kr pc lv (.int x :: .ref a :: st) 311 M ce sl :=
  PW.pB h hf hF hP hk I.1 hK h1 h2 fun M1 i1 i2 i3 => kk M1 (i3.inv i1 hk hs hF.sh hV I) i2 i3
theorem PW.pL {idx ci i a K : Nat} {lo hi : Int} {x : Int64} (h : p_tb j pc = some (.putfield idx, 3)) (hf : p_f2 p_ft (p_mK j) idx = some (ci, i) ∨ p_f2 p_fN (p_mK j) idx = some (ci, i)) (hF : gF K ci i 1 lo hi) (hP : gLg ci i) (hk : g_kd a = K) (hV : Stab V) (I : Iv V M) (hK : K < 60) (hs : g_sp K i = false) (kk : ∀ M1, Iv V M1 → o_f (M1 a) i = .long x → gU M M1 a i → PW G al d j mc ms Kr (pc + 3) lv st 311 M1 ce sl) : PW G al d j mc ms Kr pc lv (.long x :: .ref a :: st) 311 M ce sl :=
  PW.pV h hf hF hP.1 (by rw [hP.2]; rfl) hk I.1 hK (Or.inr (Or.inl ⟨rfl, x, rfl⟩)) fun M1 i1 i2 i3 => kk M1 (i3.inv i1 hk hs hF.sh hV I) i2 i3
theorem PW.pW {idx ci i a K r : Nat} {lo hi : Int} {b : Bool} (h : p_tb j pc = some (.putfield idx, 3)) (hf : p_f2 p_ft (p_mK j) idx = some (ci, i) ∨ p_f2 p_fN (p_mK j) idx = some (ci, i)) (hF : gF K ci i 3 lo hi) (hP : gQ ci i b) (hk : g_kd a = K) (hV : Stab V) (I : Iv V M) (hK : K < 60) (hs : g_sp K i = false) (hr : r < 28) (kk : ∀ M1, Iv V M1 → o_f (M1 a) i = .ref (65536 + r) → gU M M1 a i → PW G al d j mc ms Kr (pc + 3) lv st 311 M1 ce sl) : PW G al d j mc ms Kr pc lv (.ref (65536 + r) :: .ref a :: st) 311 M ce sl :=
  PW.pV h hf hF hP.1 (by obtain ⟨s, q⟩ := hP.2; rw [q]; rfl) hk I.1 hK (Or.inr (Or.inr (Or.inr ⟨rfl, r, rfl, hr⟩))) fun M1 i1 i2 i3 => kk M1 (i3.inv i1 hk hs hF.sh hV I) i2 i3
end Rules
theorem gF_0_0 : gF 0 10 0 2 1 0 := ⟨11, rfl, by decide, rfl⟩
theorem gF_0_1 : gF 0 10 1 2 3 0 := ⟨11, rfl, by decide, rfl⟩
theorem gF_0_2 : gF 0 10 2 2 38 0 := ⟨11, rfl, by decide, rfl⟩
theorem gF_0_3 : gF 0 10 3 2 109 0 := ⟨11, rfl, by decide, rfl⟩
theorem gF_0_4 : gF 0 10 4 2 110 0 := ⟨11, rfl, by decide, rfl⟩
theorem gF_0_5 : gF 0 10 5 2 256 0 := ⟨11, rfl, by decide, rfl⟩
theorem gF_0_6 : gF 0 10 6 2 267 0 := ⟨11, rfl, by decide, rfl⟩
theorem gF_0_7 : gF 0 10 7 2 272 0 := ⟨11, rfl, by decide, rfl⟩
theorem gF_0_8 : gF 0 10 8 2 275 0 := ⟨11, rfl, by decide, rfl⟩
theorem gF_0_9 : gF 0 10 9 2 293 0 := ⟨11, rfl, by decide, rfl⟩
theorem gF_0_10 : gF 0 10 10 0 (-2147483648) 2147483647 := ⟨11, rfl, by decide, rfl⟩
theorem gP_0_10 : gP 10 10 (-2147483648) 2147483647 := ⟨rfl, Or.inl rfl⟩
theorem gF_1_0 : gF 1 7 0 2 1 0 := ⟨12, rfl, by decide, rfl⟩
theorem gF_1_1 : gF 1 7 1 0 0 940 := ⟨12, rfl, by decide, rfl⟩
theorem gP_1_1 : gP 7 1 0 940 := ⟨rfl, Or.inl rfl⟩
theorem gF_1_2 : gF 1 7 2 0 (-2147483648) 2147483647 := ⟨12, rfl, by decide, rfl⟩
theorem gP_1_2 : gP 7 2 (-2147483648) 2147483647 := ⟨rfl, Or.inl rfl⟩
theorem gF_1_3 : gF 1 7 3 0 0 940 := ⟨12, rfl, by decide, rfl⟩
theorem gP_1_3 : gP 7 3 0 940 := ⟨rfl, Or.inl rfl⟩
theorem gF_1_4 : gF 1 7 4 0 (-2147483648) 2147483647 := ⟨12, rfl, by decide, rfl⟩
theorem gP_1_4 : gP 7 4 (-2147483648) 2147483647 := ⟨rfl, Or.inl rfl⟩
theorem gF_1_5 : gF 1 7 5 0 (-2147483648) 2147483647 := ⟨12, rfl, by decide, rfl⟩
theorem gP_1_5 : gP 7 5 (-2147483648) 2147483647 := ⟨rfl, Or.inl rfl⟩
theorem gF_1_6 : gF 1 7 6 3 0 0 := ⟨12, rfl, by decide, rfl⟩
theorem gP_1_6 : gQ 7 6 false := ⟨rfl, _, rfl⟩
theorem gF_1_7 : gF 1 7 7 1 0 0 := ⟨12, rfl, by decide, rfl⟩
theorem gP_1_7 : gLg 7 7 := ⟨rfl, rfl⟩
theorem gF_1_8 : gF 1 7 8 0 (-2147483648) 2147483647 := ⟨12, rfl, by decide, rfl⟩
theorem gP_1_8 : gP 7 8 (-2147483648) 2147483647 := ⟨rfl, Or.inl rfl⟩
theorem gF_1_9 : gF 1 7 9 0 (-2147483648) 2147483647 := ⟨12, rfl, by decide, rfl⟩
theorem gP_1_9 : gP 7 9 (-2147483648) 2147483647 := ⟨rfl, Or.inl rfl⟩
theorem gF_1_10 : gF 1 7 10 0 (-2147483648) 2147483647 := ⟨12, rfl, by decide, rfl⟩
theorem gP_1_10 : gP 7 10 (-2147483648) 2147483647 := ⟨rfl, Or.inl rfl⟩
theorem gF_1_11 : gF 1 7 11 0 (-2147483648) 2147483647 := ⟨12, rfl, by decide, rfl⟩
theorem gP_1_11 : gP 7 11 (-2147483648) 2147483647 := ⟨rfl, Or.inl rfl⟩
theorem gF_3_0 : gF 3 9 0 2 1 0 := ⟨3, rfl, by decide, rfl⟩
theorem gF_3_1 : gF 3 9 1 2 12 0 := ⟨3, rfl, by decide, rfl⟩
theorem gF_3_2 : gF 3 9 2 2 30 0 := ⟨3, rfl, by decide, rfl⟩
theorem gF_4_0 : gF 4 3 0 0 (-2147483648) 2147483647 := ⟨18, rfl, by decide, rfl⟩
theorem gP_4_0 : gP 3 0 (-2147483648) 2147483647 := ⟨rfl, Or.inl rfl⟩
theorem gF_4_1 : gF 4 3 1 0 (-2147483648) 2147483647 := ⟨18, rfl, by decide, rfl⟩
theorem gP_4_1 : gP 3 1 (-2147483648) 2147483647 := ⟨rfl, Or.inl rfl⟩
theorem gF_4_2 : gF 4 3 2 0 (-2147483648) 2147483647 := ⟨18, rfl, by decide, rfl⟩
theorem gP_4_2 : gP 3 2 (-2147483648) 2147483647 := ⟨rfl, Or.inl rfl⟩
theorem gF_4_3 : gF 4 3 3 0 (-2147483648) 2147483647 := ⟨18, rfl, by decide, rfl⟩
theorem gP_4_3 : gP 3 3 (-2147483648) 2147483647 := ⟨rfl, Or.inl rfl⟩
theorem gF_4_4 : gF 4 3 4 0 0 1 := ⟨18, rfl, by decide, rfl⟩
theorem gP_4_4 : gP 3 4 0 1 := ⟨rfl, Or.inr ⟨rfl, by decide, by decide⟩⟩
theorem gF_4_5 : gF 4 3 5 0 0 1 := ⟨18, rfl, by decide, rfl⟩
theorem gP_4_5 : gP 3 5 0 1 := ⟨rfl, Or.inr ⟨rfl, by decide, by decide⟩⟩
theorem gF_4_6 : gF 4 3 6 0 0 6 := ⟨18, rfl, by decide, rfl⟩
theorem gP_4_6 : gP 3 6 0 6 := ⟨rfl, Or.inl rfl⟩
theorem gF_4_7 : gF 4 3 7 0 0 2 := ⟨18, rfl, by decide, rfl⟩
theorem gP_4_7 : gP 3 7 0 2 := ⟨rfl, Or.inl rfl⟩
theorem gF_4_8 : gF 4 3 8 2 1 0 := ⟨18, rfl, by decide, rfl⟩
theorem gF_4_9 : gF 4 3 9 2 2 0 := ⟨18, rfl, by decide, rfl⟩
theorem gF_4_10 : gF 4 3 10 2 3 0 := ⟨18, rfl, by decide, rfl⟩
theorem gF_4_11 : gF 4 3 11 2 4 0 := ⟨18, rfl, by decide, rfl⟩
theorem gF_4_12 : gF 4 3 12 2 5 0 := ⟨18, rfl, by decide, rfl⟩
theorem gF_4_13 : gF 4 3 13 2 6 0 := ⟨18, rfl, by decide, rfl⟩
theorem gF_4_14 : gF 4 3 14 2 7 0 := ⟨18, rfl, by decide, rfl⟩
theorem gF_4_15 : gF 4 3 15 2 8 0 := ⟨18, rfl, by decide, rfl⟩
theorem gF_4_16 : gF 4 3 16 2 9 0 := ⟨18, rfl, by decide, rfl⟩
theorem gF_4_17 : gF 4 3 17 2 10 0 := ⟨18, rfl, by decide, rfl⟩
theorem gF_5_0 : gF 5 5 0 0 0 600 := ⟨6, rfl, by decide, rfl⟩
theorem gP_5_0 : gP 5 0 0 600 := ⟨rfl, Or.inl rfl⟩
theorem gF_5_1 : gF 5 5 1 0 (-2147483648) 2147483647 := ⟨6, rfl, by decide, rfl⟩
theorem gP_5_1 : gP 5 1 (-2147483648) 2147483647 := ⟨rfl, Or.inl rfl⟩
theorem gF_5_2 : gF 5 5 2 0 (-2147483648) 2147483647 := ⟨6, rfl, by decide, rfl⟩
theorem gP_5_2 : gP 5 2 (-2147483648) 2147483647 := ⟨rfl, Or.inl rfl⟩
theorem gF_5_3 : gF 5 5 3 2 1 0 := ⟨6, rfl, by decide, rfl⟩
theorem gF_5_4 : gF 5 5 4 2 8 0 := ⟨6, rfl, by decide, rfl⟩
theorem gF_5_5 : gF 5 5 5 2 17 0 := ⟨6, rfl, by decide, rfl⟩
theorem gF_7_0 : gF 7 8 0 0 (-2147483648) 2147483647 := ⟨8, rfl, by decide, rfl⟩
theorem gP_7_0 : gP 8 0 (-2147483648) 2147483647 := ⟨rfl, Or.inl rfl⟩
theorem gF_7_1 : gF 7 8 1 0 0 1 := ⟨8, rfl, by decide, rfl⟩
theorem gP_7_1 : gP 8 1 0 1 := ⟨rfl, Or.inr ⟨rfl, by decide, by decide⟩⟩
theorem gF_7_2 : gF 7 8 2 0 0 1 := ⟨8, rfl, by decide, rfl⟩
theorem gP_7_2 : gP 8 2 0 1 := ⟨rfl, Or.inr ⟨rfl, by decide, by decide⟩⟩
theorem gF_7_3 : gF 7 8 3 0 0 1 := ⟨8, rfl, by decide, rfl⟩
theorem gP_7_3 : gP 8 3 0 1 := ⟨rfl, Or.inr ⟨rfl, by decide, by decide⟩⟩
theorem gF_7_4 : gF 7 8 4 0 0 1 := ⟨8, rfl, by decide, rfl⟩
theorem gP_7_4 : gP 8 4 0 1 := ⟨rfl, Or.inr ⟨rfl, by decide, by decide⟩⟩
theorem gF_7_5 : gF 7 8 5 0 (-2147483648) 2147483647 := ⟨8, rfl, by decide, rfl⟩
theorem gP_7_5 : gP 8 5 (-2147483648) 2147483647 := ⟨rfl, Or.inl rfl⟩
theorem gF_7_6 : gF 7 8 6 0 (-2147483648) 2147483647 := ⟨8, rfl, by decide, rfl⟩
theorem gP_7_6 : gP 8 6 (-2147483648) 2147483647 := ⟨rfl, Or.inl rfl⟩
theorem gF_7_7 : gF 7 8 7 0 (-2147483648) 2147483647 := ⟨8, rfl, by decide, rfl⟩
theorem gP_7_7 : gP 8 7 (-2147483648) 2147483647 := ⟨rfl, Or.inl rfl⟩
theorem gF_9_0 : gF 9 0 0 0 (-2147483648) 2147483647 := ⟨10, rfl, by decide, rfl⟩
theorem gP_9_0 : gP 0 0 (-2147483648) 2147483647 := ⟨rfl, Or.inl rfl⟩
theorem gF_9_1 : gF 9 0 1 0 (-2147483648) 2147483647 := ⟨10, rfl, by decide, rfl⟩
theorem gP_9_1 : gP 0 1 (-2147483648) 2147483647 := ⟨rfl, Or.inl rfl⟩
theorem gF_9_2 : gF 9 0 2 0 (-2147483648) 2147483647 := ⟨10, rfl, by decide, rfl⟩
theorem gP_9_2 : gP 0 2 (-2147483648) 2147483647 := ⟨rfl, Or.inl rfl⟩
theorem gF_9_3 : gF 9 0 3 0 0 600 := ⟨10, rfl, by decide, rfl⟩
theorem gP_9_3 : gP 0 3 0 600 := ⟨rfl, Or.inl rfl⟩
theorem gF_9_4 : gF 9 0 4 0 (-2147483648) 2147483647 := ⟨10, rfl, by decide, rfl⟩
theorem gP_9_4 : gP 0 4 (-2147483648) 2147483647 := ⟨rfl, Or.inl rfl⟩
theorem gF_9_5 : gF 9 0 5 0 (-2147483648) 2147483647 := ⟨10, rfl, by decide, rfl⟩
theorem gP_9_5 : gP 0 5 (-2147483648) 2147483647 := ⟨rfl, Or.inl rfl⟩
theorem gF_9_6 : gF 9 0 6 0 0 5 := ⟨10, rfl, by decide, rfl⟩
theorem gP_9_6 : gP 0 6 0 5 := ⟨rfl, Or.inl rfl⟩
theorem gF_9_7 : gF 9 0 7 2 1 0 := ⟨10, rfl, by decide, rfl⟩
theorem gF_9_8 : gF 9 0 8 2 2 0 := ⟨10, rfl, by decide, rfl⟩
theorem gF_9_9 : gF 9 0 9 2 3 0 := ⟨10, rfl, by decide, rfl⟩
theorem gF_14_0 : gF 14 4 0 0 (-2147483648) 2147483647 := ⟨6, rfl, by decide, rfl⟩
theorem gP_14_0 : gP 4 0 (-2147483648) 2147483647 := ⟨rfl, Or.inl rfl⟩
theorem gF_14_1 : gF 14 4 1 0 0 40 := ⟨6, rfl, by decide, rfl⟩
theorem gP_14_1 : gP 4 1 0 40 := ⟨rfl, Or.inl rfl⟩
theorem gF_14_2 : gF 14 4 2 2 1 0 := ⟨6, rfl, by decide, rfl⟩
theorem gF_14_3 : gF 14 4 3 2 2 0 := ⟨6, rfl, by decide, rfl⟩
theorem gF_14_4 : gF 14 4 4 2 3 0 := ⟨6, rfl, by decide, rfl⟩
theorem gF_14_5 : gF 14 4 5 2 4 0 := ⟨6, rfl, by decide, rfl⟩
theorem gF_21_0 : gF 21 1 0 2 1 0 := ⟨3, rfl, by decide, rfl⟩
theorem gF_21_1 : gF 21 1 1 0 0 7 := ⟨3, rfl, by decide, rfl⟩
theorem gP_21_1 : gP 1 1 0 7 := ⟨rfl, Or.inl rfl⟩
theorem gF_21_2 : gF 21 1 2 0 0 8 := ⟨3, rfl, by decide, rfl⟩
theorem gP_21_2 : gP 1 2 0 8 := ⟨rfl, Or.inl rfl⟩
theorem gF_23_0 : gF 23 6 0 0 0 40 := ⟨8, rfl, by decide, rfl⟩
theorem gP_23_0 : gP 6 0 0 40 := ⟨rfl, Or.inl rfl⟩
theorem gF_23_1 : gF 23 6 1 2 1 0 := ⟨8, rfl, by decide, rfl⟩
theorem gF_23_2 : gF 23 6 2 2 2 0 := ⟨8, rfl, by decide, rfl⟩
theorem gF_23_3 : gF 23 6 3 0 0 1 := ⟨8, rfl, by decide, rfl⟩
theorem gP_23_3 : gP 6 3 0 1 := ⟨rfl, Or.inr ⟨rfl, by decide, by decide⟩⟩
theorem gF_23_4 : gF 23 6 4 0 (-2147483648) 2147483647 := ⟨8, rfl, by decide, rfl⟩
theorem gP_23_4 : gP 6 4 (-2147483648) 2147483647 := ⟨rfl, Or.inl rfl⟩
theorem gF_23_5 : gF 23 6 5 0 (-2147483648) 2147483647 := ⟨8, rfl, by decide, rfl⟩
theorem gP_23_5 : gP 6 5 (-2147483648) 2147483647 := ⟨rfl, Or.inl rfl⟩
theorem gF_23_6 : gF 23 6 6 0 (-2147483648) 2147483647 := ⟨8, rfl, by decide, rfl⟩
theorem gP_23_6 : gP 6 6 (-2147483648) 2147483647 := ⟨rfl, Or.inl rfl⟩
theorem gF_23_7 : gF 23 6 7 0 (-2147483648) 2147483647 := ⟨8, rfl, by decide, rfl⟩
theorem gP_23_7 : gP 6 7 (-2147483648) 2147483647 := ⟨rfl, Or.inl rfl⟩
theorem gF_26_0 : gF 26 2 0 1 0 0 := ⟨2, rfl, by decide, rfl⟩
theorem gP_26_0 : gLg 2 0 := ⟨rfl, rfl⟩
theorem gF_26_1 : gF 26 2 1 1 0 0 := ⟨2, rfl, by decide, rfl⟩
theorem gP_26_1 : gLg 2 1 := ⟨rfl, rfl⟩
theorem gF_40_0 : gF 40 11 0 0 (-2147483648) 2147483647 := ⟨42, rfl, by decide, rfl⟩
theorem gP_40_0 : gP 11 0 (-2147483648) 2147483647 := ⟨rfl, Or.inl rfl⟩
theorem gF_40_1 : gF 40 11 1 2 1 0 := ⟨42, rfl, by decide, rfl⟩
theorem gF_40_2 : gF 40 11 2 0 0 940 := ⟨42, rfl, by decide, rfl⟩
theorem gP_40_2 : gP 11 2 0 940 := ⟨rfl, Or.inl rfl⟩
theorem gF_40_3 : gF 40 11 3 0 0 940 := ⟨42, rfl, by decide, rfl⟩
theorem gP_40_3 : gP 11 3 0 940 := ⟨rfl, Or.inl rfl⟩
theorem gF_40_4 : gF 40 11 4 0 0 940 := ⟨42, rfl, by decide, rfl⟩
theorem gP_40_4 : gP 11 4 0 940 := ⟨rfl, Or.inl rfl⟩
theorem gF_40_5 : gF 40 11 5 0 (-2147483648) 2147483647 := ⟨42, rfl, by decide, rfl⟩
theorem gP_40_5 : gP 11 5 (-2147483648) 2147483647 := ⟨rfl, Or.inl rfl⟩
theorem gF_40_6 : gF 40 11 6 2 2 0 := ⟨42, rfl, by decide, rfl⟩
theorem gF_40_7 : gF 40 11 7 2 3 0 := ⟨42, rfl, by decide, rfl⟩
theorem gF_40_8 : gF 40 11 8 2 4 0 := ⟨42, rfl, by decide, rfl⟩
theorem gF_40_9 : gF 40 11 9 2 5 0 := ⟨42, rfl, by decide, rfl⟩
theorem gF_40_10 : gF 40 11 10 2 6 0 := ⟨42, rfl, by decide, rfl⟩
theorem gF_40_11 : gF 40 11 11 0 (-2147483648) 2147483647 := ⟨42, rfl, by decide, rfl⟩
theorem gP_40_11 : gP 11 11 (-2147483648) 2147483647 := ⟨rfl, Or.inl rfl⟩
theorem gF_40_12 : gF 40 11 12 0 (-2147483648) 2147483647 := ⟨42, rfl, by decide, rfl⟩
theorem gP_40_12 : gP 11 12 (-2147483648) 2147483647 := ⟨rfl, Or.inl rfl⟩
theorem gF_40_13 : gF 40 11 13 0 (-2147483648) 2147483647 := ⟨42, rfl, by decide, rfl⟩
theorem gP_40_13 : gP 11 13 (-2147483648) 2147483647 := ⟨rfl, Or.inl rfl⟩
theorem gF_40_14 : gF 40 11 14 0 (-2147483648) 2147483647 := ⟨42, rfl, by decide, rfl⟩
theorem gP_40_14 : gP 11 14 (-2147483648) 2147483647 := ⟨rfl, Or.inl rfl⟩
theorem gF_40_15 : gF 40 11 15 0 (-2147483648) 2147483647 := ⟨42, rfl, by decide, rfl⟩
theorem gP_40_15 : gP 11 15 (-2147483648) 2147483647 := ⟨rfl, Or.inl rfl⟩
theorem gF_40_16 : gF 40 11 16 0 (-2147483648) 2147483647 := ⟨42, rfl, by decide, rfl⟩
theorem gP_40_16 : gP 11 16 (-2147483648) 2147483647 := ⟨rfl, Or.inl rfl⟩
theorem gF_40_17 : gF 40 11 17 1 0 0 := ⟨42, rfl, by decide, rfl⟩
theorem gP_40_17 : gLg 11 17 := ⟨rfl, rfl⟩
theorem gF_40_18 : gF 40 11 18 0 (-2147483648) 2147483647 := ⟨42, rfl, by decide, rfl⟩
theorem gP_40_18 : gP 11 18 (-2147483648) 2147483647 := ⟨rfl, Or.inl rfl⟩
theorem gF_40_19 : gF 40 11 19 0 (-2147483648) 2147483647 := ⟨42, rfl, by decide, rfl⟩
theorem gP_40_19 : gP 11 19 (-2147483648) 2147483647 := ⟨rfl, Or.inl rfl⟩
theorem gF_40_20 : gF 40 11 20 0 (-2147483648) 2147483647 := ⟨42, rfl, by decide, rfl⟩
theorem gP_40_20 : gP 11 20 (-2147483648) 2147483647 := ⟨rfl, Or.inl rfl⟩
theorem gF_40_21 : gF 40 11 21 2 7 0 := ⟨42, rfl, by decide, rfl⟩
theorem gF_40_22 : gF 40 11 22 2 8 0 := ⟨42, rfl, by decide, rfl⟩
theorem gF_40_23 : gF 40 11 23 0 0 8 := ⟨42, rfl, by decide, rfl⟩
theorem gP_40_23 : gP 11 23 0 8 := ⟨rfl, Or.inl rfl⟩
theorem gF_40_24 : gF 40 11 24 2 9 0 := ⟨42, rfl, by decide, rfl⟩
theorem gF_40_25 : gF 40 11 25 0 (-2147483648) 2147483647 := ⟨42, rfl, by decide, rfl⟩
theorem gP_40_25 : gP 11 25 (-2147483648) 2147483647 := ⟨rfl, Or.inl rfl⟩
theorem gF_40_26 : gF 40 11 26 0 (-2147483648) 2147483647 := ⟨42, rfl, by decide, rfl⟩
theorem gP_40_26 : gP 11 26 (-2147483648) 2147483647 := ⟨rfl, Or.inl rfl⟩
theorem gF_40_27 : gF 40 11 27 0 (-2147483648) 2147483647 := ⟨42, rfl, by decide, rfl⟩
theorem gP_40_27 : gP 11 27 (-2147483648) 2147483647 := ⟨rfl, Or.inl rfl⟩
theorem gF_40_28 : gF 40 11 28 0 (-2147483648) 2147483647 := ⟨42, rfl, by decide, rfl⟩
theorem gP_40_28 : gP 11 28 (-2147483648) 2147483647 := ⟨rfl, Or.inl rfl⟩
theorem gF_40_29 : gF 40 11 29 0 0 40 := ⟨42, rfl, by decide, rfl⟩
theorem gP_40_29 : gP 11 29 0 40 := ⟨rfl, Or.inl rfl⟩
theorem gF_40_30 : gF 40 11 30 2 10 0 := ⟨42, rfl, by decide, rfl⟩
theorem gF_40_31 : gF 40 11 31 0 0 1 := ⟨42, rfl, by decide, rfl⟩
theorem gP_40_31 : gP 11 31 0 1 := ⟨rfl, Or.inr ⟨rfl, by decide, by decide⟩⟩
theorem gF_40_32 : gF 40 11 32 2 11 0 := ⟨42, rfl, by decide, rfl⟩
theorem gF_40_33 : gF 40 11 33 0 0 40 := ⟨42, rfl, by decide, rfl⟩
theorem gP_40_33 : gP 11 33 0 40 := ⟨rfl, Or.inl rfl⟩
theorem gF_40_34 : gF 40 11 34 0 0 20 := ⟨42, rfl, by decide, rfl⟩
theorem gP_40_34 : gP 11 34 0 20 := ⟨rfl, Or.inl rfl⟩
theorem gF_40_35 : gF 40 11 35 0 0 40 := ⟨42, rfl, by decide, rfl⟩
theorem gP_40_35 : gP 11 35 0 40 := ⟨rfl, Or.inl rfl⟩
theorem gF_40_36 : gF 40 11 36 0 (-2147483648) 2147483647 := ⟨42, rfl, by decide, rfl⟩
theorem gP_40_36 : gP 11 36 (-2147483648) 2147483647 := ⟨rfl, Or.inl rfl⟩
theorem gF_40_37 : gF 40 11 37 0 0 1 := ⟨42, rfl, by decide, rfl⟩
theorem gP_40_37 : gP 11 37 0 1 := ⟨rfl, Or.inr ⟨rfl, by decide, by decide⟩⟩
theorem gF_40_38 : gF 40 11 38 2 12 0 := ⟨42, rfl, by decide, rfl⟩
theorem gF_40_39 : gF 40 11 39 2 13 0 := ⟨42, rfl, by decide, rfl⟩
theorem gF_40_40 : gF 40 11 40 2 14 0 := ⟨42, rfl, by decide, rfl⟩
theorem gF_40_41 : gF 40 11 41 2 15 0 := ⟨42, rfl, by decide, rfl⟩
theorem gA_2 : g_sh 2 = (1, 0, 940) := rfl
theorem gA_10 : g_sh 10 = (1, 1, 6) := rfl
theorem gA_11 : g_sh 11 = (1, 1, 20) := rfl
theorem gA_12 : g_sh 12 = (1, 1, 20) := rfl
theorem gA_13 : g_sh 13 = (1, 1, 36) := rfl
theorem gA_16 : g_sh 16 = (1, 1, 40) := rfl
theorem gA_17 : g_sh 17 = (1, 1, 40) := rfl
theorem gA_18 : g_sh 18 = (1, 1, 40) := rfl
theorem gA_20 : g_sh 20 = (1, 3, 2) := rfl
theorem gA_25 : g_sh 25 = (1, 1, 40) := rfl
theorem gA_28 : g_sh 28 = (1, 1, 6) := rfl
theorem gA_29 : g_sh 29 = (1, 1, 6) := rfl
theorem gA_30 : g_sh 30 = (1, 3, 6) := rfl
theorem gA_32 : g_sh 32 = (1, 1, 2) := rfl
theorem gA_33 : g_sh 33 = (1, 1, 2) := rfl
theorem gA_34 : g_sh 34 = (1, 1, 2) := rfl
theorem gA_35 : g_sh 35 = (1, 1, 2) := rfl
theorem gA_36 : g_sh 36 = (1, 1, 2) := rfl
theorem gA_41 : g_sh 41 = (1, 0, 940) := rfl
theorem gA_42 : g_sh 42 = (1, 1, 397) := rfl
theorem gA_43 : g_sh 43 = (1, 1, 33) := rfl
theorem gA_44 : g_sh 44 = (1, 1, 135) := rfl
theorem gA_47 : g_sh 47 = (1, 1, 1464) := rfl
theorem gA_48 : g_sh 48 = (1, 1, 183) := rfl
theorem gA_49 : g_sh 49 = (1, 1, 6) := rfl
theorem gA_50 : g_sh 50 = (1, 1, 4) := rfl
theorem gA_51 : g_sh 51 = (1, 1, 45) := rfl
theorem gA_52 : g_sh 52 = (1, 3, 45) := rfl
theorem gA_53 : g_sh 53 = (1, 1, 794) := rfl
theorem gA_55 : g_sh 55 = (1, 3, 2) := rfl
