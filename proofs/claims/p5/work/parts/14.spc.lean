/-! ===== fields and rows that relations speak of ===== -/
def gvi : Value → Int
  | .int x => x.toInt
  | _ => 0
theorem o_i_gvi (e : va_E) (i : Nat) : o_i e i = gvi (o_f e i) := by
  unfold o_i gvi
  cases o_f e i <;> rfl
def gUp (f : Nat → Value) (a : Nat) (v : Value) : Nat → Value := fun c => if c = a then v else f c
theorem gUp_eq {f : Nat → Value} {a : Nat} {v : Value} : gUp f a v a = v := if_pos rfl
theorem gUp_ne {f : Nat → Value} {a c : Nat} {v : Value} (h : c ≠ a) : gUp f a v c = f c := if_neg h
/-- the scenes' seconds are fs, the dogs' turns are fd -/
def gSp (fs fd : Nat → Value) (M : pM) : Prop := (∀ a, g_kd a = 5 → o_f (M a) 0 = fs a) ∧ (∀ a, g_kd a = 9 → o_f (M a) 3 = fd a) ∧ g_TM M
def gFs (M : pM) : Nat → Value := fun a => o_f (M a) 0
def gFd (M : pM) : Nat → Value := fun a => o_f (M a) 3
theorem gSpS (fs fd : Nat → Value) : Stab (gSp fs fd) := by
  refine ⟨fun M M1 a i K h U hk hs hs2 => ⟨fun b hb => ?_, fun b hb => ?_, U.TM hk hs2 h.2.2⟩, fun M M1 a K h U hk hs hs2 => ⟨fun b hb => ?_, fun b hb => ?_, gVTM U hk hs2 h.2.2⟩, fun M M1 q h U hn => ⟨fun b hb => ?_, fun b hb => ?_, U.TM hn h.2.2⟩⟩
  · rw [U.f (by
      by_cases e : b = a
      · refine Or.inr fun e2 => ?_
        subst e; subst e2; rw [hb] at hk; subst hk; cases hs
      · exact Or.inl e)]
    exact h.1 b hb
  · rw [U.f (by
      by_cases e : b = a
      · refine Or.inr fun e2 => ?_
        subst e; subst e2; rw [hb] at hk; subst hk; cases hs
      · exact Or.inl e)]
    exact h.2.1 b hb
  · rw [U b fun e => hs (by rw [← hk, ← e, hb]; rfl)]; exact h.1 b hb
  · rw [U b fun e => hs (by rw [← hk, ← e, hb]; rfl)]; exact h.2.1 b hb
  · rw [U.1 b (g_ne hb (rfl : g_kd 296 = 42) (by decide))]; exact h.1 b hb
  · rw [U.1 b (g_ne hb (rfl : g_kd 296 = 42) (by decide))]; exact h.2.1 b hb
theorem gSp.of {M : pM} (I : Iv gTT M) : Iv (gSp (gFs M) (gFd M)) M := ⟨I.1, fun _ _ => rfl, fun _ _ => rfl, I.2.2⟩
theorem gSp.dog {fs fd : Nat → Value} {M M1 : pM} {a : Nat} {v : Value} (h : gSp fs fd M) (U : gU M M1 a 3) (hk : g_kd a = 9) (hv : o_f (M1 a) 3 = v) : gSp fs (gUp fd a v) M1 := by
  refine ⟨fun b hb => ?_, fun b hb => ?_, U.TM hk rfl h.2.2⟩
  · rw [U.f (Or.inl (g_ne hb hk (by decide)))]; exact h.1 b hb
  · by_cases e : b = a
    · subst e; rw [gUp_eq]; exact hv
    · rw [gUp_ne e, U.f (Or.inl e)]; exact h.2.1 b hb
theorem gSp.scene {fs fd : Nat → Value} {M M1 : pM} {a : Nat} {v : Value} (h : gSp fs fd M) (U : gU M M1 a 0) (hk : g_kd a = 5) (hv : o_f (M1 a) 0 = v) : gSp (gUp fs a v) fd M1 := by
  refine ⟨fun b hb => ?_, fun b hb => ?_, U.TM hk rfl h.2.2⟩
  · by_cases e : b = a
    · subst e; rw [gUp_eq]; exact hv
    · rw [gUp_ne e, U.f (Or.inl e)]; exact h.1 b hb
  · rw [U.f (Or.inl (g_ne hb hk (by decide)))]; exact h.2.1 b hb
/-- dogs of different scenes are different -/
theorem g_dd {a k : Nat} (ha : g_kd a = 5) (hk : g_kd k = 5) (h : a ≠ k) : a + 9 ≠ k + 9 ∧ a + 9 ≠ k + 13 ∧ a + 13 ≠ k + 9 ∧ a + 13 ≠ k + 13 := by
  refine ⟨by omega, fun e => ?_, fun e => ?_, by omega⟩
  · have q := (g_k5 hk).2.2.2.2.2.1 2 (by decide)
    rw [show k + 1 + 1 + 1 * 2 = a by omega, ha] at q
    cases q
  · have q := (g_k5 ha).2.2.2.2.2.1 2 (by decide)
    rw [show a + 1 + 1 + 1 * 2 = k by omega, hk] at q
    cases q
/-- what a second does to the turns -/
theorem gSp.T {fs fd : Nat → Value} {M0 M : pM} {k : Nat} (T : g_T M0) (h : gSp fs fd M) (hk : g_kd k = 5) (hs : ∀ a, a ≠ k → fs a = gFs M0 a) (hd : ∀ a, a ≠ k + 9 → a ≠ k + 13 → fd a = gFd M0 a) (h1 : gvi (fd (k + 9)) ≤ gvi (fs k)) (h2 : gvi (fd (k + 13)) ≤ gvi (fs k)) : gTT M := by
  refine ⟨fun a ha => ?_, h.2.2⟩
  obtain ⟨q1, q2, -⟩ := g_k5 ha
  rw [o_i_gvi, o_i_gvi, o_i_gvi, h.2.1 _ q1, h.2.1 _ q2, h.1 a ha]
  by_cases e : a = k
  · subst e; exact ⟨h1, h2⟩
  · obtain ⟨d1, d2, d3, d4⟩ := g_dd ha hk e
    rw [hs a e, hd _ d1 d2, hd _ d3 d4]
    have := T a ha
    rw [o_i_gvi, o_i_gvi, o_i_gvi] at this
    exact this
theorem gU.TT {M M1 : pM} {a i K : Nat} (U : gU M M1 a i) (hk : g_kd a = K) (hs : ((K == 5 && i == 0) || (K == 9 && i == 3)) = false) (hs2 : (g_sh K).1 = 0) (T : gTT M) : gTT M1 := by
  refine ⟨fun b hb => ?_, U.TM hk hs2 T.2⟩
  obtain ⟨q1, q2, -⟩ := g_k5 hb
  have s1 : ∀ c k, g_kd c = 9 → k = 3 → c ≠ a ∨ k ≠ i := fun c k hc hkk => by
    by_cases e : c = a
    · refine Or.inr fun e2 => ?_
      subst e; subst e2; subst hkk
      rw [hc] at hk; subst hk; cases hs
    · exact Or.inl e
  have s2 : b ≠ a ∨ 0 ≠ i := by
    by_cases e : b = a
    · refine Or.inr fun e2 => ?_
      subst e; subst e2
      rw [hb] at hk; subst hk; cases hs
    · exact Or.inl e
  rw [U.i (s1 _ _ q1 rfl), U.i (s1 _ _ q2 rfl), U.i s2]
  exact T.1 b hb
theorem gAT {M M1 : pM} {a K : Nat} (U : ∀ c, c ≠ a → M1 c = M c) (hk : g_kd a = K) (hs : (g_sh K).1 ≠ 0) (hs2 : (K == 42 || K == 47 || K == 48 || K == 53) = false) (T : gTT M) : gTT M1 := by
  refine ⟨gVT U hk hs T.1, ?_⟩
  have s : ∀ c K2, g_kd c = K2 → (K2 == 42 || K2 == 47 || K2 == 48 || K2 == 53) = true → M1 c = M c := fun c K2 h1 h2 => U c fun e => by
    subst e; rw [h1] at hk; subst hk; rw [h2] at hs2; cases hs2
  unfold g_TM
  rw [s 296 42 rfl rfl, s 302 48 rfl rfl, s 301 47 rfl rfl, s 307 53 rfl rfl]
  exact T.2
/-- every dog that a plan tells sits by a walker -/
def gS1 (k : Nat) (M : pM) : Prop := ∀ i : Nat, (i : Int) < o_i (M k) 7 → 0 ≤ (o_a (M (k + 6)) i).toInt
def gTS (M : pM) : Prop := gTT M ∧ gS1 256 M
theorem StabS : Stab gTS := by
  have e0 : g_kd 256 = 4 := kd_256
  have e1 : g_kd 262 = 32 := kd_262
  refine ⟨fun M M1 a i K h U hk hs hs2 => ⟨Stab0.1 M M1 a i K h.1 U hk hs hs2, ?_⟩, fun M M1 a K h U hk hs hs2 => ⟨Stab0.2.1 M M1 a K h.1 U hk hs hs2, ?_⟩, fun M M1 q h U hn => ⟨Stab0.2.2 M M1 q h.1 U hn, ?_⟩⟩
  · unfold gS1
    rw [U.i (by
      by_cases e : 256 = a
      · refine Or.inr fun e2 => ?_
        subst e; subst e2; rw [e0] at hk; subst hk; cases hs
      · exact Or.inl e), U.1 262 fun e => by subst e; rw [e1] at hk; subst hk; cases hs2]
    exact h.2
  · unfold gS1
    rw [U 256 fun e => hs (by rw [← hk, ← e, e0]; rfl), U 262 fun e => by subst e; rw [e1] at hk; subst hk; cases hs2]
    exact h.2
  · unfold gS1
    rw [U.1 256 (by decide), U.1 262 (by decide)]
    exact h.2
section Rules
variable {G : pG} {al : Bool} {d j mc ms : Nat} {Kr : pK} {pc : Nat} {lv : List (Nat × Value)} {st : List Value} {M : pM} {ce sl : Nat}
theorem PW.pT {idx ci i a K : Nat} {lo hi : Int} {x : Int32} (h : p_tb j pc = some (.putfield idx, 3)) (hf : p_f2 p_ft (p_mK j) idx = some (ci, i) ∨ p_f2 p_fN (p_mK j) idx = some (ci, i)) (hF : gF K ci i 0 lo hi) (hP : gP ci i lo hi) (hk : g_kd a = K) (I : Iv gTT M) (hK : K < 60) (hs : ((K == 5 && i == 0) || (K == 9 && i == 3)) = false) (h1 : lo ≤ x.toInt) (h2 : x.toInt ≤ hi) (kk : ∀ M1, Iv gTT M1 → o_f (M1 a) i = .int x → gU M M1 a i → PW G al d j mc ms Kr (pc + 3) lv st 311 M1 ce sl) : PW G al d j mc ms Kr pc lv (.int x :: .ref a :: st) 311 M ce sl :=
  PW.pB h hf hF hP hk I.1 hK h1 h2 fun M1 i1 i2 i3 => kk M1 ⟨i1, i3.TT hk hs hF.sh I.2⟩ i2 i3
theorem PW.wT {a K n p q : Nat} {lo hi : Int} {i x : Int32} (h : p_tb j pc = some (.iastore, 1)) (hA : g_sh K = (1, 1, n)) (hk : g_kd a = K) (I : Iv gTT M) (hK : K < 60) (hs : (K == 42 || K == 47 || K == 48 || K == 53) = false) (hb : gC K p q lo hi) (hq : q < n) (h1 : (p : Int) ≤ i.toInt) (h2 : i.toInt ≤ (q : Int)) (h3 : lo ≤ x.toInt) (h4 : x.toInt ≤ hi) (kk : ∀ M1, Iv gTT M1 → o_a (M1 a) i.toInt.toNat = x → gVv M M1 a i.toInt.toNat → PW G al d j mc ms Kr (pc + 1) lv st 311 M1 ce sl) : PW G al d j mc ms Kr pc lv (.int x :: .int i :: .ref a :: st) 311 M ce sl := by
  have c := hb i.toInt.toNat (by omega) (by omega)
  exact PW.wB h hA hk I.1 hK (by omega) (by omega) ⟨by omega, by omega⟩ fun M1 i1 i2 i3 => kk M1 ⟨i1, gAT i3.1 hk (by rw [hA]; exact Nat.succ_ne_zero _) hs I.2⟩ i2 i3
theorem PW.pD {fs fd : Nat → Value} {idx ci i a K : Nat} {lo hi : Int} {x : Int32} (h : p_tb j pc = some (.putfield idx, 3)) (hf : p_f2 p_ft (p_mK j) idx = some (ci, i) ∨ p_f2 p_fN (p_mK j) idx = some (ci, i)) (hF : gF K ci i 0 lo hi) (hP : gP ci i lo hi) (hk : g_kd a = K) (I : Iv (gSp fs fd) M) (hK : K < 60) (hs : K = 9 ∧ i = 3) (h1 : lo ≤ x.toInt) (h2 : x.toInt ≤ hi) (kk : ∀ M1, Iv (gSp fs (gUp fd a (.int x))) M1 → o_f (M1 a) i = .int x → gU M M1 a i → PW G al d j mc ms Kr (pc + 3) lv st 311 M1 ce sl) : PW G al d j mc ms Kr pc lv (.int x :: .ref a :: st) 311 M ce sl :=
  PW.pB h hf hF hP hk I.1 hK h1 h2 fun M1 i1 i2 i3 => kk M1 ⟨i1, by obtain ⟨rfl, rfl⟩ := hs; exact I.2.dog i3 hk i2⟩ i2 i3
theorem PW.pC {fs fd : Nat → Value} {idx ci i a K : Nat} {lo hi : Int} {x : Int32} (h : p_tb j pc = some (.putfield idx, 3)) (hf : p_f2 p_ft (p_mK j) idx = some (ci, i) ∨ p_f2 p_fN (p_mK j) idx = some (ci, i)) (hF : gF K ci i 0 lo hi) (hP : gP ci i lo hi) (hk : g_kd a = K) (I : Iv (gSp fs fd) M) (hK : K < 60) (hs : K = 5 ∧ i = 0) (h1 : lo ≤ x.toInt) (h2 : x.toInt ≤ hi) (kk : ∀ M1, Iv (gSp (gUp fs a (.int x)) fd) M1 → o_f (M1 a) i = .int x → gU M M1 a i → PW G al d j mc ms Kr (pc + 3) lv st 311 M1 ce sl) : PW G al d j mc ms Kr pc lv (.int x :: .ref a :: st) 311 M ce sl :=
  PW.pB h hf hF hP hk I.1 hK h1 h2 fun M1 i1 i2 i3 => kk M1 ⟨i1, by obtain ⟨rfl, rfl⟩ := hs; exact I.2.scene i3 hk i2⟩ i2 i3
end Rules
