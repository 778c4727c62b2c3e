/-! ===== a round, in the abstract ===== -/
/-- distinct values in a short range -/
theorem d_pig : ∀ (k n : Nat) (a : Int) (f : Nat → Int), (∀ i, i < n → a ≤ f i ∧ f i < a + k) → (∀ i j, i < n → j < n → f i = f j → i = j) → n ≤ k := by
  intro k
  induction k with
  | zero =>
    intro n a f h _
    cases n with
    | zero => exact Nat.le_refl _
    | succ n => exfalso; have w := h 0 (by omega); omega
  | succ k ih =>
    intro n a f h hi
    cases n with
    | zero => exact Nat.zero_le _
    | succ n =>
      by_cases q : ∃ i, i < n + 1 ∧ f i = a + k
      · obtain ⟨i, h1, h2⟩ := q
        have w := ih n a (fun j => if j = i then f n else f j) (fun j hj => by
          show a ≤ (if j = i then f n else f j) ∧ (if j = i then f n else f j) < a + k
          by_cases e : j = i
          · rw [if_pos e]
            have b := h n (by omega)
            have c : f n ≠ a + k := fun z => by
              have := hi n i (by omega) h1 (z.trans h2.symm)
              omega
            omega
          · rw [if_neg e]
            have b := h j (by omega)
            have c : f j ≠ a + k := fun z => e (hi j i (by omega) h1 (z.trans h2.symm))
            omega) (fun u v hu hv e => by
          have e : (if u = i then f n else f u) = (if v = i then f n else f v) := e
          by_cases a1 : u = i
          · by_cases a2 : v = i
            · omega
            · rw [if_pos a1, if_neg a2] at e
              have := hi n v (by omega) (by omega) e
              omega
          · by_cases a2 : v = i
            · rw [if_neg a1, if_pos a2] at e
              have := hi u n (by omega) (by omega) e
              omega
            · rw [if_neg a1, if_neg a2] at e
              exact hi u v (by omega) (by omega) e)
        omega
      · have w := ih (n + 1) a f (fun j hj => by
          have b := h j hj
          have c : f j ≠ a + k := fun z => q ⟨j, hj, z⟩
          omega) hi
        omega
/-- the first of the least, but l -/
def d_am (k : Nat → Int) (l : Int) : Nat → Int
  | 0 => -1
  | w + 1 => if (w : Int) ≠ l ∧ (d_am k l w = -1 ∨ k w < k (d_am k l w).toNat) then (w : Int) else d_am k l w
theorem d_am_b (k : Nat → Int) (l : Int) : ∀ n : Nat, -1 ≤ d_am k l n ∧ d_am k l n < n
  | 0 => ⟨Int.le_refl _, by show (-1 : Int) < 0; omega⟩
  | n + 1 => by
    have ih := d_am_b k l n
    show -1 ≤ (if (n : Int) ≠ l ∧ (d_am k l n = -1 ∨ k n < k (d_am k l n).toNat) then (n : Int) else d_am k l n) ∧ (if (n : Int) ≠ l ∧ (d_am k l n = -1 ∨ k n < k (d_am k l n).toNat) then (n : Int) else d_am k l n) < ((n + 1 : Nat) : Int)
    split
    · omega
    · omega
theorem d_am_p (k : Nat → Int) (l : Int) : ∀ n : Nat, (d_am k l n = -1 → ∀ v : Nat, v < n → (v : Int) = l) ∧ (d_am k l n ≠ -1 → d_am k l n ≠ l ∧ (∀ v : Nat, v < n → (v : Int) ≠ l → k (d_am k l n).toNat ≤ k v) ∧ ∀ v : Nat, (v : Int) < d_am k l n → (v : Int) ≠ l → k (d_am k l n).toNat < k v) := by
  intro n
  induction n with
  | zero => exact ⟨fun _ v hv => absurd hv (Nat.not_lt_zero v), fun h => absurd rfl h⟩
  | succ n ih =>
    have b := d_am_b k l n
    by_cases q : (n : Int) ≠ l ∧ (d_am k l n = -1 ∨ k n < k (d_am k l n).toNat)
    · have e : d_am k l (n + 1) = (n : Int) := by
        show (if (n : Int) ≠ l ∧ (d_am k l n = -1 ∨ k n < k (d_am k l n).toNat) then (n : Int) else d_am k l n) = _
        rw [if_pos q]
      rw [e]
      refine ⟨fun h => by omega, fun _ => ⟨q.1, fun v hv hl => ?_, fun v hv hl => ?_⟩⟩
      · rw [Int.toNat_natCast]
        by_cases z : v = n
        · rw [z]; exact Int.le_refl _
        · rcases q.2 with w | w
          · exact absurd (ih.1 w v (by omega)) hl
          · have u := (ih.2 (by intro z2; rw [z2] at w; have u := ih.1 z2 v (by omega); exact hl u)).2.1 v (by omega) hl
            omega
      · rw [Int.toNat_natCast]
        rcases q.2 with w | w
        · exact absurd (ih.1 w v (by omega)) hl
        · have u := (ih.2 (by intro z2; have u := ih.1 z2 v (by omega); exact hl u)).2.1 v (by omega) hl
          omega
    · have e : d_am k l (n + 1) = d_am k l n := by
        show (if (n : Int) ≠ l ∧ (d_am k l n = -1 ∨ k n < k (d_am k l n).toNat) then (n : Int) else d_am k l n) = _
        rw [if_neg q]
      rw [e]
      refine ⟨fun h v hv => ?_, fun h => ⟨(ih.2 h).1, fun v hv hl => ?_, (ih.2 h).2.2⟩⟩
      · by_cases z : v = n
        · by_cases w : (n : Int) = l
          · rw [z]; exact w
          · exact absurd ⟨w, Or.inl h⟩ q
        · exact ih.1 h v (by omega)
      · by_cases z : v = n
        · subst z
          by_cases w : k (d_am k l v).toNat ≤ k v
          · exact w
          · exact absurd ⟨hl, Or.inr (by omega)⟩ q
        · exact (ih.2 h).2.1 v (by omega) hl
/-- with two or more there is one -/
theorem d_am_2 {k : Nat → Int} {l : Int} {n : Nat} (hn : 2 ≤ n) : 0 ≤ d_am k l n ∧ d_am k l n < n ∧ d_am k l n ≠ l ∧ (∀ v : Nat, v < n → (v : Int) ≠ l → k (d_am k l n).toNat ≤ k v) ∧ ∀ v : Nat, (v : Int) < d_am k l n → (v : Int) ≠ l → k (d_am k l n).toNat < k v := by
  have b := d_am_b k l n
  have p := d_am_p k l n
  have h : d_am k l n ≠ -1 := fun h => by
    have a := p.1 h 0 (by omega)
    have c := p.1 h 1 (by omega)
    omega
  have q := p.2 h
  exact ⟨by omega, b.2, q.1, q.2.1, q.2.2⟩
theorem d_am_c {k k1 : Nat → Int} {l : Int} : ∀ n : Nat, (∀ v, v < n → k1 v = k v) → d_am k1 l n = d_am k l n
  | 0, _ => rfl
  | n + 1, h => by
    have ih := d_am_c (k := k) (k1 := k1) (l := l) n (fun v hv => h v (by omega))
    have b := d_am_b k l n
    show (if (n : Int) ≠ l ∧ (d_am k1 l n = -1 ∨ k1 n < k1 (d_am k1 l n).toNat) then (n : Int) else d_am k1 l n) = (if (n : Int) ≠ l ∧ (d_am k l n = -1 ∨ k n < k (d_am k l n).toNat) then (n : Int) else d_am k l n)
    rw [ih, h n (by omega)]
    by_cases z : d_am k l n = -1
    · rw [z]
      by_cases q : (n : Int) ≠ l
      · rw [if_pos ⟨q, Or.inl rfl⟩, if_pos ⟨q, Or.inl rfl⟩]
      · rw [if_neg (fun u => q u.1), if_neg (fun u => q u.1)]
    · rw [h (d_am k l n).toNat (by omega)]
/-! ===== near ===== -/
/-- whom it goes to from w -/
def d_nf (dl : Nat → Nat → Int) (n : Nat) (w : Int) : Int := d_am (fun v => dl v w.toNat) w n
theorem d_nf_b {dl : Nat → Nat → Int} {n : Nat} (hn : 2 ≤ n) (w : Int) : 0 ≤ d_nf dl n w ∧ d_nf dl n w < n ∧ d_nf dl n w ≠ w := by
  have q := d_am_2 (k := fun v => dl v w.toNat) (l := w) hn
  exact ⟨q.1, q.2.1, q.2.2.1⟩
/-- how far he is -/
def d_nd (dl : Nat → Nat → Int) (n : Nat) (w : Int) : Int := dl (d_nf dl n w).toNat w.toNat
/-- back and forth: nearer, or the same way with a lesser number -/
theorem d_nf_2 {dl : Nat → Nat → Int} {n : Nat} (hs : ∀ a b, dl a b = dl b a) (hn : 2 ≤ n) {w : Int} (h0 : 0 ≤ w) (h1 : w < n) : d_nd dl n (d_nf dl n w) ≤ d_nd dl n w ∧ (d_nd dl n (d_nf dl n w) = d_nd dl n w → d_nf dl n (d_nf dl n w) ≤ w) := by
  have b := d_nf_b (dl := dl) hn w
  have q := d_am_2 (k := fun v => dl v (d_nf dl n w).toNat) (l := d_nf dl n w) hn
  have e : d_nd dl n w = dl w.toNat (d_nf dl n w).toNat := hs _ _
  have hw : ((w.toNat : Nat) : Int) = w := by omega
  have a1 : d_nd dl n (d_nf dl n w) ≤ dl w.toNat (d_nf dl n w).toNat := q.2.2.2.1 w.toNat (by omega) (by rw [hw]; exact fun z => b.2.2 z.symm)
  refine ⟨by rw [e]; exact a1, fun h => ?_⟩
  by_cases z : d_nf dl n (d_nf dl n w) ≤ w
  · exact z
  · exfalso
    have u : d_nd dl n (d_nf dl n w) < dl w.toNat (d_nf dl n w).toNat := q.2.2.2.2 w.toNat (by rw [hw]; exact Int.not_le.mp z) (by rw [hw]; exact fun z => b.2.2 z.symm)
    rw [h, e] at u
    omega
/-- twice -/
def d_ng (dl : Nat → Nat → Int) (n : Nat) (w : Int) : Int := d_nf dl n (d_nf dl n w)
def d_nl (dl : Nat → Nat → Int) (n : Nat) (a b : Int) : Prop := d_nd dl n a < d_nd dl n b ∨ (d_nd dl n a = d_nd dl n b ∧ a < b)
theorem d_nl.tr {dl : Nat → Nat → Int} {n : Nat} {a b c : Int} (h : d_nl dl n a b) (k : d_nl dl n b c) : d_nl dl n a c := by
  unfold d_nl at h k ⊢
  omega
theorem d_nl.ne {dl : Nat → Nat → Int} {n : Nat} {a b : Int} (h : d_nl dl n a b) : a ≠ b := fun e => by
  subst e
  unfold d_nl at h
  omega
theorem d_ng_l {dl : Nat → Nat → Int} {n : Nat} (hs : ∀ a b, dl a b = dl b a) (hn : 2 ≤ n) {w : Int} (h0 : 0 ≤ w) (h1 : w < n) : d_ng dl n w = w ∨ d_nl dl n (d_ng dl n w) w := by
  have b := d_nf_b (dl := dl) hn w
  have p := d_nf_2 (dl := dl) hs hn h0 h1
  have p2 := d_nf_2 (dl := dl) hs hn b.1 b.2.1
  by_cases z : d_ng dl n w = w
  · exact Or.inl z
  · refine Or.inr ?_
    unfold d_nl
    unfold d_ng at z ⊢
    by_cases q : d_nd dl n (d_nf dl n w) = d_nd dl n w
    · have u := p.2 q
      omega
    · omega
/-- k times twice -/
def d_gk (dl : Nat → Nat → Int) (n : Nat) (w : Int) : Nat → Int
  | 0 => w
  | k + 1 => d_ng dl n (d_gk dl n w k)
theorem d_ng_b {dl : Nat → Nat → Int} {n : Nat} (hn : 2 ≤ n) (w : Int) : 0 ≤ d_ng dl n w ∧ d_ng dl n w < n := by
  have b := d_nf_b (dl := dl) hn (d_nf dl n w)
  exact ⟨b.1, b.2.1⟩
theorem d_gk_b {dl : Nat → Nat → Int} {n : Nat} (hn : 2 ≤ n) {w : Int} (h0 : 0 ≤ w) (h1 : w < n) : ∀ k, 0 ≤ d_gk dl n w k ∧ d_gk dl n w k < n
  | 0 => ⟨h0, h1⟩
  | k + 1 => d_ng_b hn _
theorem d_gk_f {dl : Nat → Nat → Int} {n : Nat} {w : Int} {k : Nat} (h : d_ng dl n (d_gk dl n w k) = d_gk dl n w k) : ∀ d, d_gk dl n w (k + d) = d_gk dl n w k
  | 0 => rfl
  | d + 1 => by
    show d_ng dl n (d_gk dl n w (k + d)) = _
    rw [d_gk_f h d, h]
/-- it stands after five -/
theorem d_gk_5 {dl : Nat → Nat → Int} {n : Nat} (hs : ∀ a b, dl a b = dl b a) (hn : 2 ≤ n) (h6 : n ≤ 6) {w : Int} (h0 : 0 ≤ w) (h1 : w < n) : d_ng dl n (d_gk dl n w 5) = d_gk dl n w 5 := by
  by_cases q : d_ng dl n (d_gk dl n w 5) = d_gk dl n w 5
  · exact q
  · exfalso
    have nf : ∀ k, k ≤ 5 → d_ng dl n (d_gk dl n w k) ≠ d_gk dl n w k := fun k hk e => by
      have a := d_gk_f e (5 - k)
      rw [show k + (5 - k) = 5 from by omega] at a
      exact q (by rw [a]; exact e)
    have dec : ∀ k, k ≤ 5 → d_nl dl n (d_gk dl n w (k + 1)) (d_gk dl n w k) := fun k hk => by
      have b := d_gk_b (dl := dl) hn h0 h1 k
      rcases d_ng_l (dl := dl) hs hn b.1 b.2 with e | e
      · exact absurd e (nf k hk)
      · exact e
    have dec2 : ∀ d i, i + d + 1 ≤ 6 → d_nl dl n (d_gk dl n w (i + d + 1)) (d_gk dl n w i) := by
      intro d
      induction d with
      | zero => intro i hi; exact dec i (by omega)
      | succ d ih => intro i hi; exact (dec (i + d + 1) (by omega)).tr (ih i (by omega))
    have p := d_pig 6 7 0 (fun i => d_gk dl n w i) (fun i _ => by
      have b := d_gk_b (dl := dl) hn h0 h1 i
      exact ⟨b.1, by show d_gk dl n w i < 0 + ((6 : Nat) : Int); omega⟩) (fun i j hi hj e => by
      have e : d_gk dl n w i = d_gk dl n w j := e
      rcases Nat.lt_trichotomy i j with z | z | z
      · have u := dec2 (j - i - 1) i (by omega)
        rw [show i + (j - i - 1) + 1 = j from by omega] at u
        exact absurd e.symm u.ne
      · exact z
      · have u := dec2 (i - j - 1) j (by omega)
        rw [show j + (i - j - 1) + 1 = i from by omega] at u
        exact absurd e u.ne)
    omega
/-- k times -/
def d_nk (dl : Nat → Nat → Int) (n : Nat) (w : Int) : Nat → Int
  | 0 => w
  | k + 1 => d_nf dl n (d_nk dl n w k)
theorem d_nk_g {dl : Nat → Nat → Int} {n : Nat} {w : Int} : ∀ k, d_nk dl n (d_nf dl n w) (2 * k) = d_gk dl n (d_nf dl n w) k
  | 0 => rfl
  | k + 1 => by
    show d_nf dl n (d_nf dl n (d_nk dl n (d_nf dl n w) (2 * k))) = d_ng dl n (d_gk dl n (d_nf dl n w) k)
    rw [d_nk_g k]; rfl
theorem d_nk_1 {dl : Nat → Nat → Int} {n : Nat} {w : Int} : ∀ k, d_nk dl n w (k + 1) = d_nk dl n (d_nf dl n w) k
  | 0 => rfl
  | k + 1 => by
    show d_nf dl n (d_nk dl n w (k + 1)) = d_nf dl n (d_nk dl n (d_nf dl n w) k)
    rw [d_nk_1 k]
/-- from the eleventh on: two, by turns -/
theorem d_nk_2 {dl : Nat → Nat → Int} {n : Nat} (hs : ∀ a b, dl a b = dl b a) (hn : 2 ≤ n) (h6 : n ≤ 6) (w : Int) : ∀ d, d_nk dl n w (11 + d + 2) = d_nk dl n w (11 + d) := by
  have b := d_nf_b (dl := dl) hn w
  have f := d_gk_5 (dl := dl) hs hn h6 b.1 b.2.1
  have e0 : d_nk dl n w 11 = d_gk dl n (d_nf dl n w) 5 := (d_nk_1 10).trans (d_nk_g 5)
  intro d
  induction d with
  | zero =>
    show d_nf dl n (d_nf dl n (d_nk dl n w 11)) = d_nk dl n w 11
    rw [e0]; exact f
  | succ d ih =>
    show d_nf dl n (d_nk dl n w (11 + d + 2)) = d_nf dl n (d_nk dl n w (11 + d))
    rw [ih]
/-! ===== last ===== -/
def d_lu (s : Nat → Int) (w x : Int) : Nat → Int := fun v => if (v : Int) = w then x else s v
theorem d_lu_e {s : Nat → Int} {w x : Int} {v : Nat} (h : (v : Int) = w) : d_lu s w x v = x := by unfold d_lu; rw [if_pos h]
theorem d_lu_n {s : Nat → Int} {w x : Int} {v : Nat} (h : (v : Int) ≠ w) : d_lu s w x v = s v := by unfold d_lu; rw [if_neg h]
/-- t times; the last one's number and when each was seen -/
def d_lk (n : Nat) (T l : Int) (s : Nat → Int) : Nat → Int × (Nat → Int)
  | 0 => (l, s)
  | t + 1 => (d_am (d_lk n T l s t).2 (d_lk n T l s t).1 n, d_lu (d_lk n T l s t).2 (d_am (d_lk n T l s t).2 (d_lk n T l s t).1 n) (T + t))
abbrev d_lw (n : Nat) (T l : Int) (s : Nat → Int) (t : Nat) : Int := (d_lk n T l s t).1
abbrev d_ls (n : Nat) (T l : Int) (s : Nat → Int) (t : Nat) : Nat → Int := (d_lk n T l s t).2
theorem d_lw_s (n : Nat) (T l : Int) (s : Nat → Int) (t : Nat) : d_lw n T l s (t + 1) = d_am (d_ls n T l s t) (d_lw n T l s t) n := rfl
theorem d_ls_s (n : Nat) (T l : Int) (s : Nat → Int) (t : Nat) : d_ls n T l s (t + 1) = d_lu (d_ls n T l s t) (d_lw n T l s (t + 1)) (T + t) := rfl
/-- until all were seen -/
def d_p1 (n : Nat) (T l : Int) (s : Nat → Int) (t : Nat) : Prop :=
  (∀ v : Nat, v < n → d_ls n T l s t v < T ∨ (T ≤ d_ls n T l s t v ∧ d_ls n T l s t v < T + t)) ∧
  (∀ u v : Nat, u < n → v < n → T ≤ d_ls n T l s t u → d_ls n T l s t u = d_ls n T l s t v → u = v) ∧
  ∀ j : Nat, j < t → 0 ≤ d_lw n T l s (j + 1) ∧ d_lw n T l s (j + 1) < n ∧ d_ls n T l s t (d_lw n T l s (j + 1)).toNat = T + j
theorem d_p1_0 {n : Nat} {T l : Int} {s : Nat → Int} (h : ∀ v : Nat, v < n → s v < T) : d_p1 n T l s 0 :=
  ⟨fun v hv => Or.inl (h v hv), fun u v hu _ h1 _ => by have w := h u hu; have h1 : T ≤ s u := h1; omega, fun j hj => absurd hj (Nat.not_lt_zero j)⟩
theorem d_p1_s {n : Nat} {T l : Int} {s : Nat → Int} (hn : 2 ≤ n) {t : Nat} (ht : t < n) (h : d_p1 n T l s t) : d_p1 n T l s (t + 1) := by
  obtain ⟨h1, h2, h3⟩ := h
  have am := d_am_2 (k := d_ls n T l s t) (l := d_lw n T l s t) hn
  -- one that was not seen, and is not the last
  have ex : ∃ u : Nat, u < n ∧ d_ls n T l s t u < T ∧ (u : Int) ≠ d_lw n T l s t := by
    by_cases q : ∃ u : Nat, u < n ∧ d_ls n T l s t u < T ∧ (u : Int) ≠ d_lw n T l s t
    · exact q
    · exfalso
      cases t with
      | zero =>
        have a0 := h1 0 (by omega)
        have a1 := h1 1 (by omega)
        have c0 : d_ls n T l s 0 0 < T := by omega
        have c1 : d_ls n T l s 0 1 < T := by omega
        by_cases z : ((0 : Nat) : Int) = d_lw n T l s 0
        · exact q ⟨1, by omega, c1, fun e => by omega⟩
        · exact q ⟨0, by omega, c0, z⟩
      | succ t =>
        have w := h3 t (by omega)
        have al : ∀ v : Nat, v < n → T ≤ d_ls n T l s (t + 1) v := fun v hv => by
          by_cases z : T ≤ d_ls n T l s (t + 1) v
          · exact z
          · exfalso
            refine q ⟨v, hv, Int.not_le.mp z, fun e => ?_⟩
            have e2 : v = (d_lw n T l s (t + 1)).toNat := by omega
            rw [e2] at z
            omega
        have p := d_pig (t + 1) n T (d_ls n T l s (t + 1)) (fun v hv => by
          have a := h1 v hv
          have b := al v hv
          omega) (fun u v hu hv e => h2 u v hu hv (al u hu) e)
        omega
  obtain ⟨u, u1, u2, u3⟩ := ex
  have pu := am.2.2.2.1 u u1 u3
  have e1 : d_lw n T l s (t + 1) = d_am (d_ls n T l s t) (d_lw n T l s t) n := rfl
  have es := d_ls_s n T l s t
  rw [← e1] at am pu
  have un : d_ls n T l s t (d_lw n T l s (t + 1)).toNat < T := by omega
  have hp : (((d_lw n T l s (t + 1)).toNat : Nat) : Int) = d_lw n T l s (t + 1) := by omega
  refine ⟨fun v hv => ?_, fun a b ha hb hT e => ?_, fun j hj => ?_⟩
  · rw [es]
    by_cases z : (v : Int) = d_lw n T l s (t + 1)
    · rw [d_lu_e z]; exact Or.inr ⟨by omega, by omega⟩
    · rw [d_lu_n z]
      have a := h1 v hv
      omega
  · rw [es] at hT e
    by_cases z1 : (a : Int) = d_lw n T l s (t + 1)
    · by_cases z2 : (b : Int) = d_lw n T l s (t + 1)
      · omega
      · rw [d_lu_e z1, d_lu_n z2] at e
        have c := h1 b hb
        omega
    · by_cases z2 : (b : Int) = d_lw n T l s (t + 1)
      · rw [d_lu_n z1, d_lu_e z2] at e
        have c := h1 a ha
        omega
      · rw [d_lu_n z1, d_lu_n z2] at e
        rw [d_lu_n z1] at hT
        exact h2 a b ha hb hT e
  · rw [es]
    by_cases z : j = t
    · subst z
      exact ⟨am.1, am.2.1, d_lu_e hp⟩
    · have w := h3 j (by omega)
      refine ⟨w.1, w.2.1, ?_⟩
      have ne : (((d_lw n T l s (j + 1)).toNat : Nat) : Int) ≠ d_lw n T l s (t + 1) := fun e => by
        have e2 : (d_lw n T l s (j + 1)).toNat = (d_lw n T l s (t + 1)).toNat := by omega
        rw [e2] at w
        omega
      rw [d_lu_n ne]; exact w.2.2
theorem d_p1_a {n : Nat} {T l : Int} {s : Nat → Int} (hn : 2 ≤ n) (h : ∀ v : Nat, v < n → s v < T) : ∀ t, t ≤ n → d_p1 n T l s t
  | 0, _ => d_p1_0 h
  | t + 1, ht => d_p1_s hn (by omega) (d_p1_a hn h t (by omega))
/-- once all were seen -/
def d_p2 (n : Nat) (T l : Int) (s : Nat → Int) (t : Nat) : Prop :=
  (∀ v : Nat, v < n → T + t - n ≤ d_ls n T l s t v ∧ d_ls n T l s t v < T + t) ∧
  (∀ u v : Nat, u < n → v < n → d_ls n T l s t u = d_ls n T l s t v → u = v) ∧
  0 ≤ d_lw n T l s t ∧ d_lw n T l s t < n ∧ d_ls n T l s t (d_lw n T l s t).toNat = T + t - 1
theorem d_p2_0 {n : Nat} {T l : Int} {s : Nat → Int} (hn : 2 ≤ n) (h : ∀ v : Nat, v < n → s v < T) : d_p2 n T l s n := by
  obtain ⟨h1, h2, h3⟩ := d_p1_a (l := l) hn h n (Nat.le_refl n)
  have al : ∀ v : Nat, v < n → T ≤ d_ls n T l s n v := fun v hv => by
    by_cases z : T ≤ d_ls n T l s n v
    · exact z
    · exfalso
      have p := d_pig n (n + 1) 0 (fun j => if j = n then (v : Int) else d_lw n T l s (j + 1)) (fun j hj => by
        show 0 ≤ (if j = n then (v : Int) else d_lw n T l s (j + 1)) ∧ (if j = n then (v : Int) else d_lw n T l s (j + 1)) < 0 + n
        by_cases e : j = n
        · rw [if_pos e]; omega
        · rw [if_neg e]
          have w := h3 j (by omega)
          omega) (fun i j hi hj e => by
        have e : (if i = n then (v : Int) else d_lw n T l s (i + 1)) = (if j = n then (v : Int) else d_lw n T l s (j + 1)) := e
        by_cases a1 : i = n
        · by_cases a2 : j = n
          · omega
          · rw [if_pos a1, if_neg a2] at e
            have w := h3 j (by omega)
            rw [← e, Int.toNat_natCast] at w
            omega
        · by_cases a2 : j = n
          · rw [if_neg a1, if_pos a2] at e
            have w := h3 i (by omega)
            rw [e, Int.toNat_natCast] at w
            omega
          · rw [if_neg a1, if_neg a2] at e
            have w := h3 i (by omega)
            have w2 := h3 j (by omega)
            rw [e] at w
            omega)
      omega
  have w := h3 (n - 1) (by omega)
  rw [show n - 1 + 1 = n from by omega] at w
  refine ⟨fun v hv => ?_, fun u v hu hv e => h2 u v hu hv (al u hu) e, w.1, w.2.1, by omega⟩
  have a := h1 v hv
  have b := al v hv
  omega
theorem d_p2_s {n : Nat} {T l : Int} {s : Nat → Int} (hn : 2 ≤ n) {t : Nat} (h : d_p2 n T l s t) : d_p2 n T l s (t + 1) := by
  obtain ⟨h1, h2, h3, h4, h5⟩ := h
  have am := d_am_2 (k := d_ls n T l s t) (l := d_lw n T l s t) hn
  have e1 : d_lw n T l s (t + 1) = d_am (d_ls n T l s t) (d_lw n T l s t) n := rfl
  have es := d_ls_s n T l s t
  rw [← e1] at am
  have hp : (((d_lw n T l s (t + 1)).toNat : Nat) : Int) = d_lw n T l s (t + 1) := by omega
  have up := h1 (d_lw n T l s (t + 1)).toNat (by omega)
  -- he is the one seen the longest ago
  have mn : ∀ v : Nat, v < n → (v : Int) ≠ d_lw n T l s (t + 1) → d_ls n T l s t (d_lw n T l s (t + 1)).toNat < d_ls n T l s t v := fun v hv ne => by
    have b := h1 v hv
    by_cases z : (v : Int) = d_lw n T l s t
    · have e2 : v = (d_lw n T l s t).toNat := by omega
      have c : d_ls n T l s t v = T + t - 1 := by rw [e2]; exact h5
      by_cases y : d_ls n T l s t (d_lw n T l s (t + 1)).toNat = d_ls n T l s t v
      · exact absurd (h2 _ v (by omega) hv y) (by omega)
      · omega
    · have c := am.2.2.2.1 v hv z
      by_cases y : d_ls n T l s t (d_lw n T l s (t + 1)).toNat = d_ls n T l s t v
      · exact absurd (h2 _ v (by omega) hv y) (by omega)
      · omega
  refine ⟨fun v hv => ?_, fun a b ha hb e => ?_, am.1, am.2.1, ?_⟩
  · rw [es]
    by_cases z : (v : Int) = d_lw n T l s (t + 1)
    · rw [d_lu_e z]; omega
    · rw [d_lu_n z]
      have b := h1 v hv
      have c := mn v hv z
      omega
  · rw [es] at e
    by_cases z1 : (a : Int) = d_lw n T l s (t + 1)
    · by_cases z2 : (b : Int) = d_lw n T l s (t + 1)
      · omega
      · rw [d_lu_e z1, d_lu_n z2] at e
        have c := h1 b hb
        omega
    · by_cases z2 : (b : Int) = d_lw n T l s (t + 1)
      · rw [d_lu_n z1, d_lu_e z2] at e
        have c := h1 a ha
        omega
      · rw [d_lu_n z1, d_lu_n z2] at e
        exact h2 a b ha hb e
  · rw [es, d_lu_e hp]; omega
theorem d_p2_a {n : Nat} {T l : Int} {s : Nat → Int} (hn : 2 ≤ n) (h : ∀ v : Nat, v < n → s v < T) : ∀ d, d_p2 n T l s (n + d)
  | 0 => d_p2_0 hn h
  | d + 1 => d_p2_s hn (d_p2_a hn h d)
theorem d_p2_t {n : Nat} {T l : Int} {s : Nat → Int} (hn : 2 ≤ n) (h : ∀ v : Nat, v < n → s v < T) {t : Nat} (ht : n ≤ t) : d_p2 n T l s t := by
  have w := d_p2_a (l := l) hn h (t - n)
  rw [show n + (t - n) = t from by omega] at w
  exact w
/-- from t on he comes again after n, not before -/
theorem d_lr {n : Nat} {T l : Int} {s : Nat → Int} (hn : 2 ≤ n) (h : ∀ v : Nat, v < n → s v < T) {t : Nat} (ht : n ≤ t) : ∀ k, 1 ≤ k → k ≤ n → (∀ j, 1 ≤ j → j < k → d_lw n T l s (t + j) ≠ d_lw n T l s t) ∧ d_ls n T l s (t + k - 1) (d_lw n T l s t).toNat = T + t - 1 := by
  intro k
  induction k with
  | zero => intro h1; omega
  | succ k ih =>
    intro _ hk
    have p := d_p2_t (l := l) hn h ht
    obtain ⟨p1, p2, p3, p4, p5⟩ := p
    cases k with
    | zero => exact ⟨fun j h1 h2 => by omega, by show d_ls n T l s (t + 1 - 1) _ = _; rw [show t + 1 - 1 = t from by omega]; exact p5⟩
    | succ k =>
      obtain ⟨i1, i2⟩ := ih (by omega) (by omega)
      have q := d_p2_t (l := l) hn h (t := t + k) (by omega)
      obtain ⟨q1, q2, q3, q4, q5⟩ := q
      rw [show t + (k + 1) - 1 = t + k from by omega] at i2
      -- he is not the next one
      have ne : d_lw n T l s (t + k + 1) ≠ d_lw n T l s t := fun e => by
        have am := d_am_2 (k := d_ls n T l s (t + k)) (l := d_lw n T l s (t + k)) hn
        rw [← d_lw_s] at am
        have lo : ∀ v : Nat, v < n → T + t - 1 ≤ d_ls n T l s (t + k) v := fun v hv => by
          by_cases z : (v : Int) = d_lw n T l s (t + k)
          · have e2 : v = (d_lw n T l s (t + k)).toNat := by omega
            rw [e2, q5]; omega
          · have c := am.2.2.2.1 v hv z
            rw [e, i2] at c
            exact c
        have g := d_pig (k + 1) n (T + t - 1) (d_ls n T l s (t + k)) (fun v hv => by
          have a := lo v hv
          have b := q1 v hv
          omega) q2
        omega
      refine ⟨fun j h1 h2 => ?_, ?_⟩
      · by_cases z : j = k + 1
        · subst z; exact ne
        · exact i1 j h1 (by omega)
      · rw [show t + (k + 1 + 1) - 1 = t + k + 1 from by omega, d_ls_s, d_lu_n (by omega)]
        exact i2
theorem d_lr_n {n : Nat} {T l : Int} {s : Nat → Int} (hn : 2 ≤ n) (h : ∀ v : Nat, v < n → s v < T) {t : Nat} (ht : n ≤ t) : d_lw n T l s (t + n) = d_lw n T l s t := by
  have p := d_p2_t (l := l) hn h ht
  obtain ⟨p1, p2, p3, p4, p5⟩ := p
  have r := (d_lr (l := l) hn h ht n (by omega) (Nat.le_refl n)).2
  have q := d_p2_t (l := l) hn h (t := t + n - 1) (by omega)
  obtain ⟨q1, q2, q3, q4, q5⟩ := q
  have am := d_am_2 (k := d_ls n T l s (t + n - 1)) (l := d_lw n T l s (t + n - 1)) hn
  rw [← d_lw_s, show t + n - 1 + 1 = t + n from by omega] at am
  have ht2 : (((d_lw n T l s t).toNat : Nat) : Int) = d_lw n T l s t := by omega
  have c := am.2.2.2.1 (d_lw n T l s t).toNat (by omega) (fun e => by
    have e2 : (d_lw n T l s t).toNat = (d_lw n T l s (t + n - 1)).toNat := by omega
    rw [e2, q5] at r
    omega)
  have b := q1 (d_lw n T l s (t + n)).toNat (by omega)
  have e := q2 (d_lw n T l s (t + n)).toNat (d_lw n T l s t).toNat (by omega) (by omega) (by omega)
  omega
/-! ===== Int32: apart ===== -/
theorem d_bm (x : Int) (h1 : -4294967296 < x) (h2 : x < 4294967296) : (x < -2147483648 ∧ x.bmod 4294967296 = x + 4294967296) ∨ (2147483647 < x ∧ x.bmod 4294967296 = x - 4294967296) ∨ (-2147483648 ≤ x ∧ x ≤ 2147483647 ∧ x.bmod 4294967296 = x) := by
  rw [Int.bmod_def]
  by_cases q : x % ((4294967296 : Nat) : Int) < (((4294967296 : Nat) : Int) + 1) / 2
  · rw [if_pos q]; omega
  · rw [if_neg q]; omega
