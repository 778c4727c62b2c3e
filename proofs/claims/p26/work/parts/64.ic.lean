/-! ===== the reference's round, told by its steps ===== -/
theorem gmin_am {D : Nat → Int} {W wi x : Int} (h : gmin D W wi x) (h2 : 2 ≤ W) : x = d_am D wi W.toNat := by
  have q := d_am_2 (k := D) (l := wi) (n := W.toNat) (by omega)
  refine h.uniq ⟨q.1, by omega, q.2.2.1, fun w hw he => ?_⟩
  by_cases z : (w : Int) < d_am D wi W.toNat
  · exact Or.inl (q.2.2.2.2 w z he)
  · have b := q.2.2.2.1 w (by omega) he
    by_cases y : D (d_am D wi W.toNat).toNat < D w
    · exact Or.inl y
    · exact Or.inr ⟨by omega, by omega⟩
/-- from walker to walker -/
def d_fd (f : Nat → Int32) : Nat → Nat → Int := fun a b => (goff (f (36 + a)) (f (36 + b))).toInt
theorem goff_s (a b : Int32) : goff a b = goff b a := by
  unfold goff
  by_cases h : a.toInt < b.toInt
  · rw [if_pos h, if_neg (by omega)]
  · rw [if_neg h]
    by_cases k : b.toInt < a.toInt
    · rw [if_pos k]
    · rw [if_neg k, show a = b from Int32.toInt_inj.mp (by omega)]
theorem d_fd_s (f : Nat → Int32) (a b : Nat) : d_fd f a b = d_fd f b a := by unfold d_fd; rw [goff_s]
theorem gst_nx {f s : Nat → Int32} {law wi x : Int} {s1 : Nat → Int} (h : gst f s law wi x) (h2 : 2 ≤ (f 0).toInt) (h6 : (f 0).toInt ≤ 6) (w0 : 0 ≤ wi) (w1 : wi < (f 0).toInt) (hs : ∀ v, v < 6 → (s v).toInt = s1 v) : x = d_nx law (f 0).toInt.toNat (d_fd f) wi s1 := by
  by_cases a : law = 1
  · rw [d_nx_1 a]
    exact gmin_am (h.2.2.1 a) h2
  · by_cases b : law = 2
    · rw [d_nx_2 b, gmin_am (h.2.2.2.1 b) h2]
      exact d_am_c _ (fun v hv => hs v (by omega))
    · rw [d_nx_0 a b, h.2.2.2.2 a b]
      unfold d_ot
      split
      · exact Int.emod_eq_of_lt (by omega) (by omega)
      · rw [show wi + 1 = (f 0).toInt from by omega]; exact Int.emod_self
/-- of its first i steps -/
def gX1 (f s : Nat → Int32) (law wi i : Int) : Prop := (i = 0 ∧ ∀ v : Nat, v < 6 → (s v).toInt < 10000) ∨ (1 ≤ i ∧ ∃ (l0 : Int) (s0 : Nat → Int), 0 ≤ l0 ∧ l0 < (f 0).toInt ∧ (∀ v : Nat, v < 6 → s0 v < 10001) ∧ wi = (d_ck law (f 0).toInt.toNat (d_fd f) 10001 l0 s0 (i - 1).toNat).1 ∧ ∀ v : Nat, v < 6 → (s v).toInt = (d_ck law (f 0).toInt.toNat (d_fd f) 10001 l0 s0 (i - 1).toNat).2 v)
theorem gX1.zero {f s : Nat → Int32} {law wi i : Int} (hi : i = 0) (hs : ∀ w : Nat, w < 6 → (s w).toInt ≤ 602) : gX1 f s law wi i := Or.inl ⟨hi, fun v hv => by have := hs v hv; omega⟩
theorem gX1.step {f s s' : Nat → Int32} {law wi i x i' tm : Int} {t : Int32} (h : gX1 f s law wi i) (n2 : 2 ≤ (f 0).toInt) (n6 : (f 0).toInt ≤ 6) (hx : gst f s law wi x) (h1 : s' x.toNat = t) (ht : t.toInt = tm) (h2 : ∀ z, z ≠ x.toNat → s' z = s z) (htm : tm = 10000 + i) (hi' : i' = i + 1) : gX1 f s' law x i' := by
  subst hi'
  have x0 := hx.1
  have x1 := hx.2.1
  rcases h with ⟨h0, hs⟩ | ⟨h0, l0, s0, a1, a2, a3, a4, a5⟩
  · have e : (i + 1 - 1).toNat = 0 := by omega
    refine Or.inr ⟨by omega, x, fun v => (s' v).toInt, x0, x1, fun v hv => ?_, ?_, fun v hv => ?_⟩
    · show (s' v).toInt < 10001
      by_cases q : v = x.toNat
      · rw [q, h1]; omega
      · rw [h2 v q]; have := hs v hv; omega
    · rw [e]; rfl
    · rw [e]; rfl
  · have e : (i + 1 - 1).toNat = (i - 1).toNat + 1 := by omega
    have b := d_ck_b (law := law) (n := (f 0).toInt.toNat) (dl := d_fd f) (T := 10001) (s := s0) (by omega) a1 (by omega) (i - 1).toNat
    rw [← a4] at b
    have ex := gst_nx hx n2 n6 b.1 (by omega) a5
    have e1 : (d_ck law (f 0).toInt.toNat (d_fd f) 10001 l0 s0 ((i - 1).toNat + 1)).1 = x := by rw [d_ck_s1, ← a4]; exact ex.symm
    refine Or.inr ⟨by omega, l0, s0, a1, a2, a3, ?_, fun v hv => ?_⟩
    · rw [e]; exact e1.symm
    · rw [e, d_ck_s2, e1]
      by_cases q : v = x.toNat
      · rw [q, h1, d_lu_e (by omega)]; omega
      · rw [h2 v q, d_lu_n (by omega)]; exact a5 v hv
/-- the round itself -/
def gX2 (f s : Nat → Int32) (law wi st rm : Int) : Prop := 0 ≤ rm ∧ rm ≤ ((d_rn law (f 0).toInt.toNat : Nat) : Int) ∧ ∃ (l0 : Int) (s0 : Nat → Int), 0 ≤ l0 ∧ l0 < (f 0).toInt ∧ (∀ v : Nat, v < 6 → s0 v < 10001) ∧ st = (d_ck law (f 0).toInt.toNat (d_fd f) 10001 l0 s0 13).1 ∧ wi = (d_ck law (f 0).toInt.toNat (d_fd f) 10001 l0 s0 (13 + rm.toNat)).1 ∧ ∀ v : Nat, v < 6 → (s v).toInt = (d_ck law (f 0).toInt.toNat (d_fd f) 10001 l0 s0 (13 + rm.toNat)).2 v
theorem gX2.start {f s : Nat → Int32} {law st i : Int} (h : gX1 f s law st i) (hi : i = 14) : ∀ rm : Int, rm = 0 → gX2 f s law st st rm := by
  intro rm hr
  rcases h with ⟨h0, _⟩ | ⟨_, l0, s0, a1, a2, a3, a4, a5⟩
  · omega
  · have e : (i - 1).toNat = 13 := by omega
    have e0 : 13 + rm.toNat = 13 := by omega
    rw [e] at a4 a5
    refine ⟨by omega, by omega, l0, s0, a1, a2, a3, a4, ?_, fun v hv => ?_⟩
    · rw [e0]; exact a4
    · rw [e0]; exact a5 v hv
theorem gX2.step {f s s' : Nat → Int32} {law wi st rm x rm' tm : Int} {t : Int32} (h : gX2 f s law wi st rm) (n2 : 2 ≤ (f 0).toInt) (n6 : (f 0).toInt ≤ 6) (hne : rm = 0 ∨ wi ≠ st) (hx : gst f s law wi x) (h1 : s' x.toNat = t) (ht : t.toInt = tm) (h2 : ∀ z, z ≠ x.toNat → s' z = s z) (htm : tm = 10014 + rm) (hrm : rm' = rm + 1) : rm' ≤ 6 ∧ gX2 f s' law x st rm' := by
  subst hrm
  have x0 := hx.1
  have x1 := hx.2.1
  obtain ⟨r0, r1, l0, s0, a1, a2, a3, a4, a5, a6⟩ := h
  have rb := d_rn_b (law := law) (n := (f 0).toInt.toNat) (by omega)
  have go := d_mgo (law := law) (n := (f 0).toInt.toNat) (dl := d_fd f) (T := 10001) (l := l0) (s := s0) (d_fd_s f) (by omega) (by omega) a1 (by omega) (fun v hv => a3 v (by omega)) (m := rm.toNat) (by omega) (by
    rcases hne with z | z
    · exact Or.inl (by omega)
    · refine Or.inr ?_
      rw [← a4, ← a5]; exact z)
  have e : 13 + (rm + 1).toNat = (13 + rm.toNat) + 1 := by omega
  have b := d_ck_b (law := law) (n := (f 0).toInt.toNat) (dl := d_fd f) (T := 10001) (s := s0) (by omega) a1 (by omega) (13 + rm.toNat)
  rw [← a5] at b
  have ex := gst_nx hx n2 n6 b.1 (by omega) a6
  have e1 : (d_ck law (f 0).toInt.toNat (d_fd f) 10001 l0 s0 (13 + rm.toNat + 1)).1 = x := by rw [d_ck_s1, ← a5]; exact ex.symm
  refine ⟨by omega, by omega, by omega, l0, s0, a1, a2, a3, a4, ?_, fun v hv => ?_⟩
  · rw [e]; exact e1.symm
  · rw [e, d_ck_s2, e1]
    by_cases q : v = x.toNat
    · rw [q, h1, d_lu_e (by omega)]; omega
    · rw [h2 v q, d_lu_n (by omega)]; exact a6 v hv
theorem gX2.fin {f s : Nat → Int32} {law wi st rm : Int} (h : gX2 f s law wi st rm) (n2 : 2 ≤ (f 0).toInt) (n6 : (f 0).toInt ≤ 6) (h0 : rm ≠ 0) (e : wi = st) : rm = ((d_rn law (f 0).toInt.toNat : Nat) : Int) := by
  obtain ⟨r0, r1, l0, s0, a1, a2, a3, a4, a5, a6⟩ := h
  have q := d_mret (law := law) (n := (f 0).toInt.toNat) (dl := d_fd f) (T := 10001) (l := l0) (s := s0) (d_fd_s f) (by omega) (by omega) a1 (by omega) (fun v hv => a3 v (by omega)) (m := rm.toNat) (by omega) (by omega) (by rw [← a4, ← a5]; exact e)
  omega
