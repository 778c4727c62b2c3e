/-! ===== the fresh memory ===== -/
def g_okvB (sp : Nat × Int × Int) (a : Nat) (v : Value) : Bool := match v with
  | .int x => decide (sp.1 = 0) && decide (sp.2.1 ≤ x.toInt) && decide (x.toInt ≤ sp.2.2)
  | .long _ => decide (sp.1 = 1)
  | .ref r => (decide (sp.1 = 2) && decide (r = a + sp.2.1.toNat)) || (decide (sp.1 = 3) && decide (65536 ≤ r) && decide (r < 65564))
  | _ => false
theorem g_okvB.ok {sp : Nat × Int × Int} {a : Nat} {v : Value} (h : g_okvB sp a v = true) : g_okv sp a v := by
  unfold g_okvB at h
  split at h
  · simp only [Bool.and_eq_true, decide_eq_true_eq] at h
    exact Or.inl ⟨h.1.1, _, rfl, h.1.2, h.2⟩
  · simp only [decide_eq_true_eq] at h
    exact Or.inr (Or.inl ⟨h, _, rfl⟩)
  · simp only [Bool.or_eq_true, Bool.and_eq_true, decide_eq_true_eq] at h
    rcases h with h | h
    · exact Or.inr (Or.inr (Or.inl ⟨h.1, by rw [h.2]⟩))
    · obtain ⟨⟨h1, h2⟩, h3⟩ := h
      exact Or.inr (Or.inr (Or.inr ⟨h1, _, congrArg Value.ref (Nat.add_sub_cancel' h2).symm, Nat.sub_lt_left_of_lt_add h2 h3⟩))
  · cases h
def g_okB (a : Nat) (e : va_E) : Bool := match e with
  | .inr (ci, fs) => decide (g_sh (g_kd a) = (0, ci, fs.length)) && (List.range fs.length).all (fun i => g_okvB (g_fs (g_kd a) i) a (fs.getD i .null))
  | .inl (t, n, .inl f) => decide (g_sh (g_kd a) = (1, t, n)) && (List.range n).all (fun i => decide ((g_as (g_kd a) i).1 ≤ (f i).toInt) && decide ((f i).toInt ≤ (g_as (g_kd a) i).2))
  | .inl (t, n, .inr (.inl _)) => (decide (g_sh (g_kd a) = (2, t, n)) && decide (t = 2)) || decide ((g_sh (g_kd a)).1 = 9)
  | .inl (t, n, .inr (.inr (.inr (.inr f)))) => (decide (g_sh (g_kd a) = (3, t, n)) && (List.range n).all (fun i => decide (f i = some (a + 1 + (g_fs (g_kd a) 0).2.1.toNat * i)))) || (decide (g_sh (g_kd a) = (4, t, n)) && (List.range n).all (fun i => decide (f i = none)))
  | _ => false
theorem g_okB.ok {a : Nat} {e : va_E} (h : g_okB a e = true) : g_ok a e := by
  unfold g_okB at h
  split at h
  · next ci fs =>
    simp only [Bool.and_eq_true, decide_eq_true_eq, List.all_eq_true, List.mem_range] at h
    obtain ⟨h1, h2⟩ := h
    unfold g_ok
    rw [h1]
    exact ⟨fun _ => ⟨fs, rfl, rfl, fun i hi => g_okvB.ok (h2 i hi)⟩, fun q => absurd (show (0 : Nat) = 1 from q) (by decide), fun q => absurd (show (0 : Nat) = 2 from q) (by decide), fun q => absurd (show (0 : Nat) = 3 from q) (by decide), fun q => absurd (show (0 : Nat) = 4 from q) (by decide)⟩
  · next t n f =>
    simp only [Bool.and_eq_true, decide_eq_true_eq, List.all_eq_true, List.mem_range] at h
    obtain ⟨h1, h2⟩ := h
    unfold g_ok
    rw [h1]
    exact ⟨fun q => absurd (show (1 : Nat) = 0 from q) (by decide), fun _ => ⟨f, rfl, fun i hi => h2 i hi⟩, fun q => absurd (show (1 : Nat) = 2 from q) (by decide), fun q => absurd (show (1 : Nat) = 3 from q) (by decide), fun q => absurd (show (1 : Nat) = 4 from q) (by decide)⟩
  · next t n f =>
    simp only [Bool.or_eq_true, Bool.and_eq_true, decide_eq_true_eq] at h
    rcases h with ⟨h1, rfl⟩ | h
    · unfold g_ok
      rw [h1]
      exact ⟨fun q => absurd (show (2 : Nat) = 0 from q) (by decide), fun q => absurd (show (2 : Nat) = 1 from q) (by decide), fun _ => ⟨f, rfl⟩, fun q => absurd (show (2 : Nat) = 3 from q) (by decide), fun q => absurd (show (2 : Nat) = 4 from q) (by decide)⟩
    · unfold g_ok
      rw [h]
      exact ⟨fun q => absurd (show (9 : Nat) = 0 from q) (by decide), fun q => absurd (show (9 : Nat) = 1 from q) (by decide), fun q => absurd (show (9 : Nat) = 2 from q) (by decide), fun q => absurd (show (9 : Nat) = 3 from q) (by decide), fun q => absurd (show (9 : Nat) = 4 from q) (by decide)⟩
  · next t n f =>
    simp only [Bool.or_eq_true, Bool.and_eq_true, decide_eq_true_eq, List.all_eq_true, List.mem_range] at h
    rcases h with ⟨h1, h2⟩ | ⟨h1, h2⟩
    · unfold g_ok
      rw [h1]
      exact ⟨fun q => absurd (show (3 : Nat) = 0 from q) (by decide), fun q => absurd (show (3 : Nat) = 1 from q) (by decide), fun q => absurd (show (3 : Nat) = 2 from q) (by decide), fun _ => ⟨f, rfl, fun i hi => h2 i hi⟩, fun q => absurd (show (3 : Nat) = 4 from q) (by decide)⟩
    · unfold g_ok
      rw [h1]
      exact ⟨fun q => absurd (show (4 : Nat) = 0 from q) (by decide), fun q => absurd (show (4 : Nat) = 1 from q) (by decide), fun q => absurd (show (4 : Nat) = 2 from q) (by decide), fun q => absurd (show (4 : Nat) = 3 from q) (by decide), fun _ => ⟨f, rfl, fun i hi => Or.inl (h2 i hi)⟩⟩
  · cases h
set_option maxRecDepth 1000000 in
theorem f_okB : ((List.range 311).all fun a => g_okB a (f_M a)) = true := by decide +kernel
theorem f_InvB : InvB f_M := fun a ha => g_okB.ok (List.all_eq_true.mp f_okB a (List.mem_range.mpr ha))
def f_TB (a : Nat) : Bool := !(decide (g_kd a = 5)) || (decide (o_i (f_M (a + 9)) 3 ≤ o_i (f_M a) 0) && decide (o_i (f_M (a + 13)) 3 ≤ o_i (f_M a) 0))
set_option maxRecDepth 1000000 in
theorem f_okT : ((List.range 311).all f_TB) = true := by decide +kernel
theorem f_T : g_T f_M := fun a ha => by
  have h := List.all_eq_true.mp f_okT a (List.mem_range.mpr (g_kd_lt ha (by decide)))
  unfold f_TB at h
  rw [ha] at h
  simpa using h
theorem g_sa0 {f : Nat → Int32} (h1 : (f 80).toInt = 0) (h2 : (f 33).toInt = 0) (h3 : (f 81).toInt = 0) (h4 : (f 216).toInt = 0) : g_sa f := by
  refine ⟨⟨?_, ?_⟩, ?_, ?_⟩
  · show (f 80).toInt ≤ (f 33).toInt; omega
  · show (f 81).toInt ≤ (f 33).toInt; omega
  · rw [h4]; exact fun e => nomatch e
  · rw [h4]; exact fun i hi => absurd hi (by omega)
set_option maxRecDepth 1000000 in
theorem f_z1 : ([33, 80, 81, 216].all fun i => decide ((o_a (f_M 296) i).toInt = 0)) = true := by decide +kernel
set_option maxRecDepth 1000000 in
theorem f_z2 : ((List.range 8).all fun u => decide ((o_a (f_M 301) (183 * u + 0)).toInt = 0) && decide ((o_a (f_M 301) (183 * u + 47)).toInt = 0) && decide ((o_a (f_M 301) (183 * u + 48)).toInt = 0)) = true := by decide +kernel
set_option maxRecDepth 1000000 in
theorem f_z3 : ((List.range 2).all fun u => [33, 80, 81, 216].all fun i => decide ((o_a (f_M 307) (397 * u + i)).toInt = 0)) = true := by decide +kernel
set_option maxRecDepth 1000000 in
theorem f_z4 : ([0, 47, 48].all fun i => decide ((o_a (f_M 302) i).toInt = 0)) = true := by decide +kernel
set_option maxRecDepth 1000000 in
theorem f_re : ((List.range 28).all fun r => decide ((o_l (f_M 300) r).toInt = k_wi (p_wc r).toInt)) = true := by decide +kernel
theorem f_LI : LI f_M := by
  refine ⟨⟨f_InvB, f_T, ?_, ?_, fun u hu => ?_, fun u hu => ?_⟩, ⟨_, rfl⟩, rfl, fun z hz => by exfalso; have w : o_i (f_M 1) 1 = 0 := rfl; omega, fun r hr => of_decide_eq_true (List.all_eq_true.mp f_re r (List.mem_range.mpr hr)), fun z hz => by rcases (show z = 0 ∨ z = 1 by omega) with rfl | rfl <;> rfl, ⟨⟨rfl, rfl, rfl, rfl, Or.inl ⟨rfl, rfl⟩⟩, fun h => absurd rfl h, fun h => absurd rfl h⟩, ⟨fun j hj => by exfalso; have w : o_i (f_M 4) 6 = 0 := rfl; omega, fun h => absurd rfl h, fun h => absurd rfl h⟩, rfl⟩
  · have h := f_z1
    simp only [List.all_cons, List.all_nil, Bool.and_eq_true, decide_eq_true_eq] at h
    exact g_sa0 h.2.1 h.1 h.2.2.1 h.2.2.2.1
  · have h := f_z4
    simp only [List.all_cons, List.all_nil, Bool.and_eq_true, decide_eq_true_eq] at h
    exact ⟨by rw [h.1, h.2.1]; decide, by rw [h.1, h.2.2.1]; decide⟩
  · have h := List.all_eq_true.mp f_z2 u (List.mem_range.mpr hu)
    simp only [Bool.and_eq_true, decide_eq_true_eq] at h
    refine ⟨?_, ?_⟩
    · show (o_a (f_M 301) (183 * u + 47)).toInt ≤ (o_a (f_M 301) (183 * u + 0)).toInt; omega
    · show (o_a (f_M 301) (183 * u + 48)).toInt ≤ (o_a (f_M 301) (183 * u + 0)).toInt; omega
  · have h := List.all_eq_true.mp f_z3 u (List.mem_range.mpr hu)
    simp only [List.all_cons, List.all_nil, Bool.and_eq_true, decide_eq_true_eq] at h
    exact g_sa0 h.2.1 h.1 h.2.2.1 h.2.2.2.1
