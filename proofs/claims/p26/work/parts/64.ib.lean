/-! ===== a round's steps by any law ===== -/
/-- the next number -/
def d_ot (n w : Int) : Int := if w + 1 < n then w + 1 else 0
def d_nx (law : Int) (n : Nat) (dl : Nat → Nat → Int) (w : Int) (s : Nat → Int) : Int := if law = 1 then d_nf dl n w else if law = 2 then d_am s w n else d_ot n w
theorem d_nx_1 {law : Int} {n : Nat} {dl : Nat → Nat → Int} {w : Int} {s : Nat → Int} (h : law = 1) : d_nx law n dl w s = d_nf dl n w := by unfold d_nx; rw [if_pos h]
theorem d_nx_2 {law : Int} {n : Nat} {dl : Nat → Nat → Int} {w : Int} {s : Nat → Int} (h : law = 2) : d_nx law n dl w s = d_am s w n := by unfold d_nx; rw [if_neg (by omega), if_pos h]
theorem d_nx_0 {law : Int} {n : Nat} {dl : Nat → Nat → Int} {w : Int} {s : Nat → Int} (h1 : law ≠ 1) (h2 : law ≠ 2) : d_nx law n dl w s = d_ot n w := by unfold d_nx; rw [if_neg h1, if_neg h2]
theorem d_nx_c {law : Int} {n : Nat} {dl : Nat → Nat → Int} {w : Int} {s s1 : Nat → Int} (h : ∀ v, v < n → s1 v = s v) : d_nx law n dl w s1 = d_nx law n dl w s := by
  unfold d_nx
  rw [d_am_c n h]
theorem d_nx_b {law : Int} {n : Nat} {dl : Nat → Nat → Int} {w : Int} {s : Nat → Int} (hn : 2 ≤ n) (h0 : 0 ≤ w) (h1 : w < n) : 0 ≤ d_nx law n dl w s ∧ d_nx law n dl w s < n := by
  by_cases a : law = 1
  · rw [d_nx_1 a]; have q := d_nf_b (dl := dl) hn w; exact ⟨q.1, q.2.1⟩
  · by_cases b : law = 2
    · rw [d_nx_2 b]; have q := d_am_2 (k := s) (l := w) hn; exact ⟨q.1, q.2.1⟩
    · rw [d_nx_0 a b]; unfold d_ot; split <;> omega
/-- whom it comes to at the t-th step, and when each was seen -/
def d_ck (law : Int) (n : Nat) (dl : Nat → Nat → Int) (T l : Int) (s : Nat → Int) : Nat → Int × (Nat → Int)
  | 0 => (l, s)
  | t + 1 => (d_nx law n dl (d_ck law n dl T l s t).1 (d_ck law n dl T l s t).2, d_lu (d_ck law n dl T l s t).2 (d_nx law n dl (d_ck law n dl T l s t).1 (d_ck law n dl T l s t).2) (T + t))
theorem d_ck_s1 (law : Int) (n : Nat) (dl : Nat → Nat → Int) (T l : Int) (s : Nat → Int) (t : Nat) : (d_ck law n dl T l s (t + 1)).1 = d_nx law n dl (d_ck law n dl T l s t).1 (d_ck law n dl T l s t).2 := rfl
theorem d_ck_s2 (law : Int) (n : Nat) (dl : Nat → Nat → Int) (T l : Int) (s : Nat → Int) (t : Nat) : (d_ck law n dl T l s (t + 1)).2 = d_lu (d_ck law n dl T l s t).2 (d_ck law n dl T l s (t + 1)).1 (T + t) := rfl
theorem d_ck_b {law : Int} {n : Nat} {dl : Nat → Nat → Int} {T l : Int} {s : Nat → Int} (hn : 2 ≤ n) (h0 : 0 ≤ l) (h1 : l < n) : ∀ t, 0 ≤ (d_ck law n dl T l s t).1 ∧ (d_ck law n dl T l s t).1 < n
  | 0 => ⟨h0, h1⟩
  | t + 1 => by
    have q := d_ck_b (law := law) (dl := dl) (T := T) (s := s) hn h0 h1 t
    rw [d_ck_s1]
    exact d_nx_b hn q.1 q.2
theorem d_ck_1 {law : Int} {n : Nat} {dl : Nat → Nat → Int} {T l : Int} {s : Nat → Int} (h : law = 1) : ∀ t, (d_ck law n dl T l s t).1 = d_nk dl n l t
  | 0 => rfl
  | t + 1 => by
    rw [d_ck_s1, d_nx_1 h, d_ck_1 h t]; rfl
theorem d_ck_2 {law : Int} {n : Nat} {dl : Nat → Nat → Int} {T l : Int} {s : Nat → Int} (h : law = 2) : ∀ t, d_ck law n dl T l s t = d_lk n T l s t
  | 0 => rfl
  | t + 1 => by
    have e := d_ck_2 (dl := dl) (T := T) (l := l) (s := s) (n := n) h t
    show (d_nx law n dl (d_ck law n dl T l s t).1 (d_ck law n dl T l s t).2, d_lu (d_ck law n dl T l s t).2 (d_nx law n dl (d_ck law n dl T l s t).1 (d_ck law n dl T l s t).2) (T + t)) = _
    rw [d_nx_2 h, e]; rfl
theorem d_ck_0 {law : Int} {n : Nat} {dl : Nat → Nat → Int} {T l : Int} {s : Nat → Int} (h1 : law ≠ 1) (h2 : law ≠ 2) (hn : 2 ≤ n) (h6 : n ≤ 6) (l0 : 0 ≤ l) (l1 : l < n) : ∀ t : Nat, (d_ck law n dl T l s t).1 = (l + t) % (n : Int)
  | 0 => by
    show l = (l + ((0 : Nat) : Int)) % (n : Int)
    rcases (show n = 2 ∨ n = 3 ∨ n = 4 ∨ n = 5 ∨ n = 6 by omega) with rfl | rfl | rfl | rfl | rfl <;> omega
  | t + 1 => by
    have e := d_ck_0 (dl := dl) (T := T) (s := s) h1 h2 hn h6 l0 l1 t
    rw [d_ck_s1, d_nx_0 h1 h2, e]
    unfold d_ot
    rcases (show n = 2 ∨ n = 3 ∨ n = 4 ∨ n = 5 ∨ n = 6 by omega) with rfl | rfl | rfl | rfl | rfl <;> split <;> omega
/-- how many in the end -/
def d_rn (law : Int) (n : Nat) : Nat := if law = 1 then 2 else n
theorem d_rn_b {law : Int} {n : Nat} (hn : 2 ≤ n) : 2 ≤ d_rn law n ∧ d_rn law n ≤ n := by
  unfold d_rn; split <;> omega
/-- from the twelfth on the same again after that many, not ahead -/
theorem d_cper {law : Int} {n : Nat} {dl : Nat → Nat → Int} {T l : Int} {s : Nat → Int} (hs : ∀ a b, dl a b = dl b a) (hn : 2 ≤ n) (h6 : n ≤ 6) (l0 : 0 ≤ l) (l1 : l < n) (h : ∀ v : Nat, v < n → s v < T) {t : Nat} (ht : 12 ≤ t) : (d_ck law n dl T l s (t + d_rn law n)).1 = (d_ck law n dl T l s t).1 ∧ ∀ i, 1 ≤ i → i < d_rn law n → (d_ck law n dl T l s (t + i)).1 ≠ (d_ck law n dl T l s t).1 := by
  by_cases a : law = 1
  · have e : d_rn law n = 2 := by unfold d_rn; rw [if_pos a]
    rw [e]
    refine ⟨?_, fun i i1 i2 => ?_⟩
    · rw [d_ck_1 a, d_ck_1 a]
      have q := d_nk_2 (dl := dl) hs hn h6 l (t - 11)
      rw [show 11 + (t - 11) = t from by omega] at q
      exact q
    · rw [show i = 1 from by omega, d_ck_s1, d_nx_1 a]
      exact (d_nf_b (dl := dl) hn _).2.2
  · have e : d_rn law n = n := by unfold d_rn; rw [if_neg a]
    rw [e]
    by_cases b : law = 2
    · refine ⟨?_, fun i i1 i2 => ?_⟩
      · rw [d_ck_2 b, d_ck_2 b]
        exact d_lr_n (l := l) hn h (by omega)
      · rw [d_ck_2 b, d_ck_2 b]
        exact (d_lr (l := l) hn h (t := t) (by omega) n (by omega) (Nat.le_refl n)).1 i i1 i2
    · refine ⟨?_, fun i i1 i2 => ?_⟩
      · rw [d_ck_0 a b hn h6 l0 l1, d_ck_0 a b hn h6 l0 l1]
        rcases (show n = 2 ∨ n = 3 ∨ n = 4 ∨ n = 5 ∨ n = 6 by omega) with rfl | rfl | rfl | rfl | rfl <;> omega
      · rw [d_ck_0 a b hn h6 l0 l1, d_ck_0 a b hn h6 l0 l1]
        rcases (show n = 2 ∨ n = 3 ∨ n = 4 ∨ n = 5 ∨ n = 6 by omega) with rfl | rfl | rfl | rfl | rfl <;> omega
/-! ===== how many bits ===== -/
def d_bs (h : Nat → Int) : Nat → Nat
  | 0 => 0
  | k + 1 => d_bs h k ||| (1 <<< (h k).toNat)
def d_pc (b : Nat) : Nat := b % 2 + b / 2 % 2 + b / 4 % 2 + b / 8 % 2 + b / 16 % 2 + b / 32 % 2
def d_b6 (a b c d e f : Nat) : Nat := 0 ||| (1 <<< a) ||| (1 <<< b) ||| (1 <<< c) ||| (1 <<< d) ||| (1 <<< e) ||| (1 <<< f)
/-- any r of six, one behind the other, no two alike -/
def d_chk (r : Nat) (f : List Nat → Nat) : Nat → List Nat → Bool
  | 0, l => f l == r
  | k + 1, l => [0, 1, 2, 3, 4, 5].all fun v => l.contains v || d_chk r f k (v :: l)
theorem d_chk_s {r : Nat} {f : List Nat → Nat} {k : Nat} {l : List Nat} {v : Nat} (h : d_chk r f (k + 1) l = true) (hv : v < 6) (hl : ∀ x, x ∈ l → v ≠ x) : d_chk r f k (v :: l) = true := by
  have h : ([0, 1, 2, 3, 4, 5].all fun v => l.contains v || d_chk r f k (v :: l)) = true := h
  have q := List.all_eq_true.mp h v (by rcases (show v = 0 ∨ v = 1 ∨ v = 2 ∨ v = 3 ∨ v = 4 ∨ v = 5 by omega) with rfl | rfl | rfl | rfl | rfl | rfl <;> decide)
  simp only [Bool.or_eq_true] at q
  rcases q with q | q
  · exact absurd rfl (hl v (List.contains_iff_mem.mp q))
  · exact q
def d_f2 : List Nat → Nat
  | [b, a] => d_pc (d_b6 a b a b a b)
  | _ => 0
set_option maxRecDepth 100000 in
theorem d_k2 : d_chk 2 d_f2 2 [] = true := by decide +kernel
def d_f3 : List Nat → Nat
  | [c, b, a] => d_pc (d_b6 a b c a b c)
  | _ => 0
set_option maxRecDepth 100000 in
theorem d_k3 : d_chk 3 d_f3 3 [] = true := by decide +kernel
def d_f4 : List Nat → Nat
  | [d, c, b, a] => d_pc (d_b6 a b c d a b)
  | _ => 0
set_option maxRecDepth 100000 in
theorem d_k4 : d_chk 4 d_f4 4 [] = true := by decide +kernel
def d_f5 : List Nat → Nat
  | [e, d, c, b, a] => d_pc (d_b6 a b c d e a)
  | _ => 0
set_option maxRecDepth 100000 in
theorem d_k5 : d_chk 5 d_f5 5 [] = true := by decide +kernel
def d_f6 : List Nat → Nat
  | [f, e, d, c, b, a] => d_pc (d_b6 a b c d e f)
  | _ => 0
set_option maxRecDepth 100000 in
theorem d_k6 : d_chk 6 d_f6 6 [] = true := by decide +kernel
theorem d_pop {h : Nat → Int} {r : Nat} (h2 : 2 ≤ r) (h6 : r ≤ 6) (hb : ∀ k, k < 6 → 0 ≤ h k ∧ h k < 6) (hp : ∀ k, k + r < 6 → h (k + r) = h k) (hn : ∀ k i, 1 ≤ i → i < r → h (k + i) ≠ h k) : d_pc (d_bs h 6) = r := by
  have b0 := hb 0 (by omega)
  have b1 := hb 1 (by omega)
  have b2 := hb 2 (by omega)
  have b3 := hb 3 (by omega)
  have b4 := hb 4 (by omega)
  have b5 := hb 5 (by omega)
  have e6 : d_bs h 6 = d_b6 (h 0).toNat (h 1).toNat (h 2).toNat (h 3).toNat (h 4).toNat (h 5).toNat := rfl
  rw [e6]
  rcases (show r = 2 ∨ r = 3 ∨ r = 4 ∨ r = 5 ∨ r = 6 by omega) with rfl | rfl | rfl | rfl | rfl
  · have p2 : h 2 = h 0 := hp 0 (by omega)
    have p3 : h 3 = h 1 := hp 1 (by omega)
    have p4 : h 4 = h 2 := hp 2 (by omega)
    have p5 : h 5 = h 3 := hp 3 (by omega)
    have n10 : h 1 ≠ h 0 := hn 0 1 (by omega) (by omega)
    rw [p5]
    rw [p4]
    rw [p3]
    rw [p2]
    have c0 := d_chk_s (v := (h 0).toNat) d_k2 (by omega) (fun x hx => absurd hx List.not_mem_nil)
    have c1 := d_chk_s (v := (h 1).toNat) c0 (by omega) (fun x hx => by simp only [List.mem_cons, List.not_mem_nil, or_false] at hx; omega)
    have c : (d_pc (d_b6 (h 0).toNat (h 1).toNat (h 0).toNat (h 1).toNat (h 0).toNat (h 1).toNat) == 2) = true := c1
    exact beq_iff_eq.mp c
  · have p3 : h 3 = h 0 := hp 0 (by omega)
    have p4 : h 4 = h 1 := hp 1 (by omega)
    have p5 : h 5 = h 2 := hp 2 (by omega)
    have n10 : h 1 ≠ h 0 := hn 0 1 (by omega) (by omega)
    have n20 : h 2 ≠ h 0 := hn 0 2 (by omega) (by omega)
    have n21 : h 2 ≠ h 1 := hn 1 1 (by omega) (by omega)
    rw [p5]
    rw [p4]
    rw [p3]
    have c0 := d_chk_s (v := (h 0).toNat) d_k3 (by omega) (fun x hx => absurd hx List.not_mem_nil)
    have c1 := d_chk_s (v := (h 1).toNat) c0 (by omega) (fun x hx => by simp only [List.mem_cons, List.not_mem_nil, or_false] at hx; omega)
    have c2 := d_chk_s (v := (h 2).toNat) c1 (by omega) (fun x hx => by simp only [List.mem_cons, List.not_mem_nil, or_false] at hx; omega)
    have c : (d_pc (d_b6 (h 0).toNat (h 1).toNat (h 2).toNat (h 0).toNat (h 1).toNat (h 2).toNat) == 3) = true := c2
    exact beq_iff_eq.mp c
  · have p4 : h 4 = h 0 := hp 0 (by omega)
    have p5 : h 5 = h 1 := hp 1 (by omega)
    have n10 : h 1 ≠ h 0 := hn 0 1 (by omega) (by omega)
    have n20 : h 2 ≠ h 0 := hn 0 2 (by omega) (by omega)
    have n21 : h 2 ≠ h 1 := hn 1 1 (by omega) (by omega)
    have n30 : h 3 ≠ h 0 := hn 0 3 (by omega) (by omega)
    have n31 : h 3 ≠ h 1 := hn 1 2 (by omega) (by omega)
    have n32 : h 3 ≠ h 2 := hn 2 1 (by omega) (by omega)
    rw [p5]
    rw [p4]
    have c0 := d_chk_s (v := (h 0).toNat) d_k4 (by omega) (fun x hx => absurd hx List.not_mem_nil)
    have c1 := d_chk_s (v := (h 1).toNat) c0 (by omega) (fun x hx => by simp only [List.mem_cons, List.not_mem_nil, or_false] at hx; omega)
    have c2 := d_chk_s (v := (h 2).toNat) c1 (by omega) (fun x hx => by simp only [List.mem_cons, List.not_mem_nil, or_false] at hx; omega)
    have c3 := d_chk_s (v := (h 3).toNat) c2 (by omega) (fun x hx => by simp only [List.mem_cons, List.not_mem_nil, or_false] at hx; omega)
    have c : (d_pc (d_b6 (h 0).toNat (h 1).toNat (h 2).toNat (h 3).toNat (h 0).toNat (h 1).toNat) == 4) = true := c3
    exact beq_iff_eq.mp c
  · have p5 : h 5 = h 0 := hp 0 (by omega)
    have n10 : h 1 ≠ h 0 := hn 0 1 (by omega) (by omega)
    have n20 : h 2 ≠ h 0 := hn 0 2 (by omega) (by omega)
    have n21 : h 2 ≠ h 1 := hn 1 1 (by omega) (by omega)
    have n30 : h 3 ≠ h 0 := hn 0 3 (by omega) (by omega)
    have n31 : h 3 ≠ h 1 := hn 1 2 (by omega) (by omega)
    have n32 : h 3 ≠ h 2 := hn 2 1 (by omega) (by omega)
    have n40 : h 4 ≠ h 0 := hn 0 4 (by omega) (by omega)
    have n41 : h 4 ≠ h 1 := hn 1 3 (by omega) (by omega)
    have n42 : h 4 ≠ h 2 := hn 2 2 (by omega) (by omega)
    have n43 : h 4 ≠ h 3 := hn 3 1 (by omega) (by omega)
    rw [p5]
    have c0 := d_chk_s (v := (h 0).toNat) d_k5 (by omega) (fun x hx => absurd hx List.not_mem_nil)
    have c1 := d_chk_s (v := (h 1).toNat) c0 (by omega) (fun x hx => by simp only [List.mem_cons, List.not_mem_nil, or_false] at hx; omega)
    have c2 := d_chk_s (v := (h 2).toNat) c1 (by omega) (fun x hx => by simp only [List.mem_cons, List.not_mem_nil, or_false] at hx; omega)
    have c3 := d_chk_s (v := (h 3).toNat) c2 (by omega) (fun x hx => by simp only [List.mem_cons, List.not_mem_nil, or_false] at hx; omega)
    have c4 := d_chk_s (v := (h 4).toNat) c3 (by omega) (fun x hx => by simp only [List.mem_cons, List.not_mem_nil, or_false] at hx; omega)
    have c : (d_pc (d_b6 (h 0).toNat (h 1).toNat (h 2).toNat (h 3).toNat (h 4).toNat (h 0).toNat) == 5) = true := c4
    exact beq_iff_eq.mp c
  · have n10 : h 1 ≠ h 0 := hn 0 1 (by omega) (by omega)
    have n20 : h 2 ≠ h 0 := hn 0 2 (by omega) (by omega)
    have n21 : h 2 ≠ h 1 := hn 1 1 (by omega) (by omega)
    have n30 : h 3 ≠ h 0 := hn 0 3 (by omega) (by omega)
    have n31 : h 3 ≠ h 1 := hn 1 2 (by omega) (by omega)
    have n32 : h 3 ≠ h 2 := hn 2 1 (by omega) (by omega)
    have n40 : h 4 ≠ h 0 := hn 0 4 (by omega) (by omega)
    have n41 : h 4 ≠ h 1 := hn 1 3 (by omega) (by omega)
    have n42 : h 4 ≠ h 2 := hn 2 2 (by omega) (by omega)
    have n43 : h 4 ≠ h 3 := hn 3 1 (by omega) (by omega)
    have n50 : h 5 ≠ h 0 := hn 0 5 (by omega) (by omega)
    have n51 : h 5 ≠ h 1 := hn 1 4 (by omega) (by omega)
    have n52 : h 5 ≠ h 2 := hn 2 3 (by omega) (by omega)
    have n53 : h 5 ≠ h 3 := hn 3 2 (by omega) (by omega)
    have n54 : h 5 ≠ h 4 := hn 4 1 (by omega) (by omega)
    have c0 := d_chk_s (v := (h 0).toNat) d_k6 (by omega) (fun x hx => absurd hx List.not_mem_nil)
    have c1 := d_chk_s (v := (h 1).toNat) c0 (by omega) (fun x hx => by simp only [List.mem_cons, List.not_mem_nil, or_false] at hx; omega)
    have c2 := d_chk_s (v := (h 2).toNat) c1 (by omega) (fun x hx => by simp only [List.mem_cons, List.not_mem_nil, or_false] at hx; omega)
    have c3 := d_chk_s (v := (h 3).toNat) c2 (by omega) (fun x hx => by simp only [List.mem_cons, List.not_mem_nil, or_false] at hx; omega)
    have c4 := d_chk_s (v := (h 4).toNat) c3 (by omega) (fun x hx => by simp only [List.mem_cons, List.not_mem_nil, or_false] at hx; omega)
    have c5 := d_chk_s (v := (h 5).toNat) c4 (by omega) (fun x hx => by simp only [List.mem_cons, List.not_mem_nil, or_false] at hx; omega)
    have c : (d_pc (d_b6 (h 0).toNat (h 1).toNat (h 2).toNat (h 3).toNat (h 4).toNat (h 5).toNat) == 6) = true := c5
    exact beq_iff_eq.mp c
/-- the class: whom it sees from the twelfth step on -/
theorem d_cpop {law : Int} {n : Nat} {dl : Nat → Nat → Int} {T l : Int} {s : Nat → Int} (hs : ∀ a b, dl a b = dl b a) (hn : 2 ≤ n) (h6 : n ≤ 6) (l0 : 0 ≤ l) (l1 : l < n) (h : ∀ v : Nat, v < n → s v < T) : d_pc (d_bs (fun k => (d_ck law n dl T l s (12 + k)).1) 6) = d_rn law n := by
  have r := d_rn_b (law := law) hn
  refine d_pop r.1 (by omega) (fun k _ => ?_) (fun k _ => ?_) (fun k i i1 i2 => ?_)
  · have q := d_ck_b (law := law) (dl := dl) (T := T) (s := s) hn l0 l1 (12 + k)
    exact ⟨q.1, by show (d_ck law n dl T l s (12 + k)).1 < 6; omega⟩
  · have q := (d_cper (law := law) (l := l) hs hn h6 l0 l1 h (t := 12 + k) (by omega)).1
    rw [show 12 + k + d_rn law n = 12 + (k + d_rn law n) from by omega] at q
    exact q
  · have q := (d_cper (law := law) (l := l) hs hn h6 l0 l1 h (t := 12 + k) (by omega)).2 i i1 i2
    rw [show 12 + k + i = 12 + (k + i) from by omega] at q
    exact q
/-- the reference: the first return to the thirteenth -/
theorem d_mret {law : Int} {n : Nat} {dl : Nat → Nat → Int} {T l : Int} {s : Nat → Int} (hs : ∀ a b, dl a b = dl b a) (hn : 2 ≤ n) (h6 : n ≤ 6) (l0 : 0 ≤ l) (l1 : l < n) (h : ∀ v : Nat, v < n → s v < T) {m : Nat} (h1 : 1 ≤ m) (hm : m ≤ d_rn law n) (e : (d_ck law n dl T l s (13 + m)).1 = (d_ck law n dl T l s 13).1) : m = d_rn law n := by
  by_cases z : m = d_rn law n
  · exact z
  · exact absurd e ((d_cper (law := law) (l := l) hs hn h6 l0 l1 h (t := 13) (by omega)).2 m h1 (by omega))
theorem d_mgo {law : Int} {n : Nat} {dl : Nat → Nat → Int} {T l : Int} {s : Nat → Int} (hs : ∀ a b, dl a b = dl b a) (hn : 2 ≤ n) (h6 : n ≤ 6) (l0 : 0 ≤ l) (l1 : l < n) (h : ∀ v : Nat, v < n → s v < T) {m : Nat} (hm : m ≤ d_rn law n) (e : m = 0 ∨ (d_ck law n dl T l s (13 + m)).1 ≠ (d_ck law n dl T l s 13).1) : m < d_rn law n := by
  by_cases z : m = d_rn law n
  · exfalso
    have r := d_rn_b (law := law) hn
    rcases e with e | e
    · omega
    · exact e (by rw [z]; exact (d_cper (law := law) (l := l) hs hn h6 l0 l1 h (t := 13) (by omega)).1)
  · omega
