/-! ===== the reference reads a run ===== -/
theorem n_l_nat {x : Int64} (h0 : 0 ≤ x.toInt) : (x.toBitVec.toNat : Int) = x.toInt ∧ x.toBitVec.toNat < 9223372036854775808 := by
  have e : x.toInt = x.toBitVec.toInt := rfl
  have q := BitVec.toInt_eq_toNat_cond x.toBitVec
  have b := x.toBitVec.isLt
  split at q
  · omega
  · omega
theorem n_nat_l {x : Int64} (h : x.toBitVec.toNat < 9223372036854775808) : x.toInt = x.toBitVec.toNat := by
  have e : x.toInt = x.toBitVec.toInt := rfl
  have q := BitVec.toInt_eq_toNat_cond x.toBitVec
  rw [if_pos (by omega)] at q
  rw [e, q]
theorem n_w8 {a l1 lz : Int64} {s c : Int32} (hs : s.toInt = 8) (h1 : l1 = a <<< (s.toInt64 &&& 63)) (hz : lz = l1 ||| c.toInt64) (a0 : 0 ≤ a.toInt) (a1 : a.toInt < 281474976710656) (c0 : 0 ≤ c.toInt) (c1 : c.toInt ≤ 255) : lz.toInt = a.toInt * 256 + c.toInt := by
  obtain rfl : s = 8 := n_eq.mpr (by rw [hs]; decide)
  have hc : ((((8 : Int32).toInt64 &&& 63).toBitVec.smod 64)).toNat = 8 := by decide
  have e1 : l1.toBitVec = a.toBitVec <<< (8 : Nat) := by
    rw [h1]
    show a.toBitVec <<< ((((8 : Int32).toInt64 &&& 63).toBitVec.smod 64)).toNat = _
    rw [hc]
  have ea := n_l_nat a0
  have ec := n_l_nat (x := c.toInt64) (by rw [Int32.toInt_toInt64]; exact c0)
  rw [Int32.toInt_toInt64] at ec
  have e2 : lz.toBitVec.toNat = a.toBitVec.toNat * 256 + c.toInt64.toBitVec.toNat := by
    have e3 : lz.toBitVec = l1.toBitVec ||| c.toInt64.toBitVec := by rw [hz]; rfl
    rw [e3, e1, BitVec.toNat_or, BitVec.toNat_shiftLeft, Nat.mod_eq_of_lt (by rw [Nat.shiftLeft_eq]; omega), ← Nat.shiftLeft_add_eq_or_of_lt (by omega), Nat.shiftLeft_eq]
  rw [n_nat_l (by omega)]
  omega
def k_8b (k : Nat) (v : Int) : Prop := 0 ≤ v ∧ (k ≤ 0 → v ≤ 0) ∧ (k ≤ 1 → v ≤ 255) ∧ (k ≤ 2 → v ≤ 65535) ∧ (k ≤ 3 → v ≤ 16777215) ∧ (k ≤ 4 → v ≤ 4294967295) ∧ (k ≤ 5 → v ≤ 1099511627775) ∧ (k ≤ 6 → v ≤ 281474976710655)
theorem k_8b.on {k : Nat} {v c : Int} (h : k_8b k v) (h1 : 0 ≤ c) (h2 : c ≤ 255) : k_8b (k + 1) (v * 256 + c) := by
  obtain ⟨a, a0, a1, a2, a3, a4, a5, a6⟩ := h
  exact ⟨by omega, fun q => by omega, fun q => by have := a0 (by omega); omega, fun q => by have := a1 (by omega); omega, fun q => by have := a2 (by omega); omega, fun q => by have := a3 (by omega); omega, fun q => by have := a4 (by omega); omega, fun q => by have := a5 (by omega); omega⟩
def k_mb (k : Nat) (v : Int) : Prop := (k ≤ 0 → v = 0) ∧ (k ≤ 1 → -48 ≤ v ∧ v ≤ 207) ∧ (k ≤ 2 → -528 ≤ v ∧ v ≤ 2277) ∧ (k ≤ 3 → -5328 ≤ v ∧ v ≤ 22977)
theorem k_mb.on {k : Nat} {v c : Int} (h : k_mb k v) (h1 : -48 ≤ c) (h2 : c ≤ 207) : k_mb (k + 1) (10 * v + c) := by
  obtain ⟨a0, a1, a2, a3⟩ := h
  exact ⟨fun q => by omega, fun q => by have := a0 (by omega); omega, fun q => by have := a1 (by omega); omega, fun q => by have := a2 (by omega); omega⟩
def k_rr (x : k_X) (q : Nat) (M0 M : pM) (s a : Int) : Prop :=
  ∃ k : Nat, o_i (M 294) 4 = (q : Int) + k ∧ q + k ≤ x.2.1 ∧ k_rn x (q + k) = k_rn x q ∧ o_i (M 294) 13 = k ∧ (a = 0 ∨ a = 1) ∧
    (a = 1 → (s = 1 → k_lt x q k = k) ∧ (s = 0 → k_lt x q k = 0)) ∧ (a = 0 → k_lt x q k ≠ k ∧ k_lt x q k ≠ 0) ∧
    (s = 1 → k = 0 ∨ 1 ≤ k_lt x q k) ∧ (s = 0 → k = 0 ∨ k_lt x q k + 1 ≤ k) ∧
    (k ≤ 7 → o_J (M 294) 17 = k_w8 x q k ∧ k_8b k (k_w8 x q k)) ∧ (k ≤ 3 → o_i (M 294) 14 = k_nu x q k ∧ k_mb k (k_nu x q k)) ∧
    k_rx x M ∧ o_i (M 294) 12 = q ∧ gKl [4, 11, 12, 13, 14, 17] M0 M
theorem k_rr.tx {x : k_X} {q : Nat} {M0 M : pM} {s a : Int} (h : k_rr x q M0 M s a) : k_rx x M ∧ gKl [4, 11, 12, 13, 14, 17] M0 M ∧ (a = 0 ∨ a = 1) ∧ 0 ≤ o_i (M 294) 13 ∧ o_i (M 294) 13 ≤ o_i (M 294) 4 := by
  obtain ⟨k, h1, h2, h3, h4, h5, h6, h7, h8, h9, h10, h11, h12, h13, h14⟩ := h
  exact ⟨h12, h14, h5, by omega, by omega⟩
theorem k_rr.init {x : k_X} {q : Nat} {M0 M : pM} {s a : Int} (e4 : o_i (M 294) 4 = q) (hq : q ≤ x.2.1) (ha : a = 1) (e13 : o_i (M 294) 13 = 0) (e17 : o_J (M 294) 17 = 0) (e14 : o_i (M 294) 14 = 0) (tx : k_rx x M) (e12 : o_i (M 294) 12 = q) (Q : gKl [4, 11, 12, 13, 14, 17] M0 M) : k_rr x q M0 M s a := by
  have z1 : k_8b 0 0 := ⟨by omega, fun _ => by omega, fun _ => by omega, fun _ => by omega, fun _ => by omega, fun _ => by omega, fun _ => by omega, fun _ => by omega⟩
  have z2 : k_mb 0 0 := ⟨fun _ => rfl, fun _ => by omega, fun _ => by omega, fun _ => by omega⟩
  exact ⟨0, by omega, hq, rfl, e13, Or.inr ha, fun _ => ⟨fun _ => rfl, fun _ => rfl⟩, fun h => by omega, fun _ => Or.inl rfl, fun _ => Or.inl rfl, fun _ => ⟨e17, z1⟩, fun _ => ⟨e14, z2⟩, tx, e12, Q⟩
theorem k_rra {k : Nat} {L L' s a a' l : Int} (hs : s = 0 ∨ s = 1) (b0 : 0 ≤ L) (b1 : L ≤ k) (h6 : a = 1 → (s = 1 → L = k) ∧ (s = 0 → L = 0)) (h7 : a = 0 → L ≠ k ∧ L ≠ 0) (h8 : s = 1 → k = 0 ∨ 1 ≤ L) (h9 : s = 0 → k = 0 ∨ L + 1 ≤ k) (l1 : (l = 1 ∧ L' = L + 1) ∨ (l = 0 ∧ L' = L)) (l2 : k = 0 → l = s) (l3 : (a = 1 ∧ l = s ∧ a' = 1) ∨ (a = 1 ∧ l ≠ s ∧ a' = 0) ∨ (a = 0 ∧ a' = 0)) :
    (a' = 0 ∨ a' = 1) ∧ (a' = 1 → (s = 1 → L' = ((k + 1 : Nat) : Int)) ∧ (s = 0 → L' = 0)) ∧ (a' = 0 → L' ≠ ((k + 1 : Nat) : Int) ∧ L' ≠ 0) ∧ (s = 1 → k + 1 = 0 ∨ 1 ≤ L') ∧ (s = 0 → k + 1 = 0 ∨ L' + 1 ≤ ((k + 1 : Nat) : Int)) := by
  rcases hs with rfl | rfl
  · have h9 := h9 rfl
    clear h8
    rcases l3 with ⟨rfl, rfl, rfl⟩ | ⟨rfl, q, rfl⟩ | ⟨rfl, rfl⟩
    · have h6 := (h6 rfl).2 rfl
      clear h7
      exact ⟨Or.inr rfl, fun _ => ⟨fun z => by omega, fun _ => by omega⟩, fun z => by omega, fun z => by omega, fun _ => Or.inr (by omega)⟩
    · have h6 := (h6 rfl).2 rfl
      clear h7
      exact ⟨Or.inl rfl, fun z => by omega, fun _ => by omega, fun z => by omega, fun _ => Or.inr (by omega)⟩
    · have h7 := h7 rfl
      clear h6
      exact ⟨Or.inl rfl, fun z => by omega, fun _ => by omega, fun z => by omega, fun _ => Or.inr (by omega)⟩
  · have h8 := h8 rfl
    clear h9
    rcases l3 with ⟨rfl, rfl, rfl⟩ | ⟨rfl, q, rfl⟩ | ⟨rfl, rfl⟩
    · have h6 := (h6 rfl).1 rfl
      clear h7
      exact ⟨Or.inr rfl, fun _ => ⟨fun _ => by omega, fun z => by omega⟩, fun z => by omega, fun _ => Or.inr (by omega), fun z => by omega⟩
    · have h6 := (h6 rfl).1 rfl
      clear h7
      exact ⟨Or.inl rfl, fun z => by omega, fun _ => by omega, fun _ => Or.inr (by omega), fun z => by omega⟩
    · have h7 := h7 rfl
      clear h6
      exact ⟨Or.inl rfl, fun z => by omega, fun _ => by omega, fun _ => Or.inr (by omega), fun z => by omega⟩
theorem k_rrl {x : k_X} {q k : Nat} {s a a' c : Int} (hs : s = 0 ∨ s = 1) (hq : s = 1 ↔ (97 ≤ x.1 q ∧ x.1 q ≤ 122)) (hx : c = x.1 (q + k)) (ha : (a = 1 ∧ ((97 ≤ c ∧ c ≤ 122 ∧ s = 1) ∨ ((c < 97 ∨ 122 < c) ∧ s = 0)) ∧ a' = 1) ∨ (a = 1 ∧ ((97 ≤ c ∧ c ≤ 122 ∧ s = 0) ∨ ((c < 97 ∨ 122 < c) ∧ s = 1)) ∧ a' = 0) ∨ (a = 0 ∧ a' = 0)) :
    ∃ l : Int, ((l = 1 ∧ k_lt x q (k + 1) = k_lt x q k + 1) ∨ (l = 0 ∧ k_lt x q (k + 1) = k_lt x q k)) ∧ (k = 0 → l = s) ∧ ((a = 1 ∧ l = s ∧ a' = 1) ∨ (a = 1 ∧ l ≠ s ∧ a' = 0) ∨ (a = 0 ∧ a' = 0)) := by
  have hk0 : k = 0 → x.1 (q + k) = x.1 q := fun h => by rw [h]; rfl
  by_cases w : 97 ≤ x.1 (q + k) ∧ x.1 (q + k) ≤ 122
  · refine ⟨1, Or.inl ⟨rfl, k_lt_l w.1 w.2⟩, fun z => ?_, ?_⟩
    · clear ha
      have e := hk0 z
      exact (hq.mpr ⟨by omega, by omega⟩).symm
    · clear hq hk0
      rcases ha with ⟨a1, a2, a3⟩ | ⟨a1, a2, a3⟩ | ⟨a1, a3⟩
      · exact Or.inl ⟨a1, by omega, a3⟩
      · exact Or.inr (Or.inl ⟨a1, by omega, a3⟩)
      · exact Or.inr (Or.inr ⟨a1, a3⟩)
  · refine ⟨0, Or.inr ⟨rfl, k_lt_d w⟩, fun z => ?_, ?_⟩
    · clear ha
      have e := hk0 z
      rcases hs with z2 | z2
      · exact z2.symm
      · exact absurd (by have := hq.mp z2; omega) w
    · clear hq hk0
      rcases ha with ⟨a1, a2, a3⟩ | ⟨a1, a2, a3⟩ | ⟨a1, a3⟩
      · exact Or.inl ⟨a1, by omega, a3⟩
      · exact Or.inr (Or.inl ⟨a1, by omega, a3⟩)
      · exact Or.inr (Or.inr ⟨a1, a3⟩)
theorem k_rr.on {x : k_X} {q : Nat} {M0 M M1 : pM} {s a a' c : Int} (h : k_rr x q M0 M s a) (hs : s = 0 ∨ s = 1) (hq : s = 1 ↔ (97 ≤ x.1 q ∧ x.1 q ≤ 122)) (hl : (97 ≤ c ∧ c ≤ 122) ∨ (48 ≤ c ∧ c ≤ 57)) (hn : o_i (M 294) 4 < x.2.1) (hx : c = x.1 (o_i (M 294) 4).toNat) (e4 : o_i (M1 294) 4 = o_i (M 294) 4 + 1) (e13 : o_i (M1 294) 13 = o_i (M 294) 13 + 1)
    (ew : o_i (M 294) 13 < 7 → 0 ≤ o_J (M 294) 17 → o_J (M 294) 17 < 281474976710656 → o_J (M1 294) 17 = o_J (M 294) 17 * 256 + c) (en : o_i (M 294) 13 < 3 → -100000 ≤ o_i (M 294) 14 → o_i (M 294) 14 ≤ 100000 → o_i (M1 294) 14 = 10 * o_i (M 294) 14 + c - 48)
    (tx : k_rx x M1) (e12 : o_i (M1 294) 12 = o_i (M 294) 12) (Q : gKl [4, 11, 12, 13, 14, 17] M M1)
    (ha : (a = 1 ∧ ((97 ≤ c ∧ c ≤ 122 ∧ s = 1) ∨ ((c < 97 ∨ 122 < c) ∧ s = 0)) ∧ a' = 1) ∨ (a = 1 ∧ ((97 ≤ c ∧ c ≤ 122 ∧ s = 0) ∨ ((c < 97 ∨ 122 < c) ∧ s = 1)) ∧ a' = 0) ∨ (a = 0 ∧ a' = 0)) : k_rr x q M0 M1 s a' := by
  obtain ⟨k, h1, h2, h3, h4, h5, h6, h7, h8, h9, h10, h11, h12, h13, h14⟩ := h
  have ex : (o_i (M 294) 4).toNat = q + k := by rw [h1]; exact Int.toNat_natCast (q + k)
  rw [ex] at hx
  obtain ⟨l, l1, l2, l3⟩ := k_rrl (k := k) hs hq hx ha
  have eb := k_lt_b x q k
  have fn := k_rra hs eb.1 eb.2 h6 h7 h8 h9 l1 l2 l3
  have hl2 := hl
  rw [hx] at hl2
  clear ha l1 l2 l3 h6 h7 h8 h9 h5 hq hs
  have hnk : q + k < x.2.1 := by clear hl hl2; omega
  refine ⟨k + 1, by clear hl hl2; omega, by omega, ?_, by clear hl hl2; omega, fn.1, fn.2.1, fn.2.2.1, fn.2.2.2.1, fn.2.2.2.2, fun w => ?_, fun w => ?_, tx, e12.trans h13, h14.tr Q rfl⟩
  · rw [← h3, k_rn_on (p := q + k) hnk hl2]; rfl
  · obtain ⟨b1, b2⟩ := h10 (by omega)
    have b3 := ew (by clear hl hl2; omega) (by have := b2.1; clear hl hl2; omega) (by have := b2.2.2.2.2.2.2.2 (by omega); clear hl hl2; omega)
    refine ⟨?_, ?_⟩
    · show _ = k_w8 x q k * 256 + x.1 (q + k)
      rw [b3, b1, hx]
    · show k_8b (k + 1) (k_w8 x q k * 256 + x.1 (q + k))
      exact b2.on (by omega) (by omega)
  · obtain ⟨b1, b2⟩ := h11 (by omega)
    have b4 := b2.2.2.2 (by omega)
    have b3 := en (by clear hl hl2; omega) (by clear hl hl2; omega) (by clear hl hl2; omega)
    refine ⟨?_, ?_⟩
    · show _ = 10 * k_nu x q k + (x.1 (q + k) - 48)
      rw [b3, b1, hx]; clear hl hl2; omega
    · show k_mb (k + 1) (10 * k_nu x q k + (x.1 (q + k) - 48))
      exact b2.on (by omega) (by omega)
theorem k_rr.e {x : k_X} {q : Nat} {M0 M M1 : pM} {s a : Int} (h : k_rr x q M0 M s a) (hs : s = 0 ∨ s = 1) (hq : q < x.2.1) (hl : (97 ≤ x.1 q ∧ x.1 q ≤ 122) ∨ (48 ≤ x.1 q ∧ x.1 q ≤ 57)) (hx : ¬ (o_i (M 294) 4 < x.2.1 ∧ ((97 ≤ x.1 (o_i (M 294) 4).toNat ∧ x.1 (o_i (M 294) 4).toNat ≤ 122) ∨ (48 ≤ x.1 (o_i (M 294) 4).toNat ∧ x.1 (o_i (M 294) 4).toNat ≤ 57))))
    (e4 : o_i (M1 294) 4 = o_i (M 294) 4) (e12 : o_i (M1 294) 12 = o_i (M 294) 12) (e14 : o_i (M1 294) 14 = o_i (M 294) 14) (e17 : o_J (M1 294) 17 = o_J (M 294) 17)
    (hk : (s = 1 ∧ a = 1 ∧ o_i (M 294) 13 ≤ 7 ∧ o_i (M1 294) 11 = 1) ∨ (s = 0 ∧ a = 1 ∧ o_i (M 294) 13 ≤ 3 ∧ o_i (M1 294) 11 = 2) ∨ ((a = 0 ∨ (s = 1 ∧ 7 < o_i (M 294) 13) ∨ (s = 0 ∧ 3 < o_i (M 294) 13)) ∧ o_i (M1 294) 11 = 4)) : k_rt M1 (k_ru x q) := by
  obtain ⟨k, h1, h2, h3, h4, h5, h6, h7, h8, h9, h10, h11, h12, h13, h14⟩ := h
  have ex : (o_i (M 294) 4).toNat = q + k := by omega
  rw [ex] at hx
  have er : k_rn x q = q + k := by rw [← h3]; exact k_rn_at (by omega)
  have ek : k_rn x q - q = k := by omega
  have k1 : 1 ≤ k := by
    have := k_rn_le x (q + 1)
    rw [← k_rn_on hq hl] at this
    omega
  unfold k_ru
  rw [ek]
  rcases hk with ⟨a1, a2, a3, a4⟩ | ⟨a1, a2, a3, a4⟩ | ⟨a1, a4⟩
  · have b := (h6 a2).1 a1
    have b2 := k_w8_wi (x := x) (q := q) (k := k) (by omega) b
    rw [if_pos ⟨b, by omega⟩]
    exact ⟨by show o_i (M1 294) 12 = q; omega, Or.inr (Or.inr (Or.inl ⟨rfl, by show o_i (M1 294) 4 = (k_rn x q : Int); omega, a4, by rw [e17, (h10 (by omega)).1]; exact b2.1, b2.2.1, b2.2.2⟩))⟩
  · have b := (h6 a2).2 a1
    rw [if_neg (by omega), if_pos ⟨b, by omega⟩]
    exact ⟨by show o_i (M1 294) 12 = q; omega, Or.inr (Or.inr (Or.inr (Or.inl ⟨rfl, by show o_i (M1 294) 4 = (k_rn x q : Int); omega, a4, by rw [e14]; exact (h11 (by omega)).1⟩)))⟩
  · have c1 : ¬ (k_lt x q k = (k : Int) ∧ k ≤ 7) ∧ ¬ (k_lt x q k = 0 ∧ k ≤ 3) := by
      rcases h5 with z | z
      · have := h7 z; omega
      · have b := h6 z
        rcases hs with w | w
        · have := b.2 w; have := h9 w; omega
        · have := b.1 w; have := h8 w; omega
    rw [if_neg c1.1, if_neg c1.2]
    exact ⟨by show o_i (M1 294) 12 = q; omega, Or.inr (Or.inl ⟨rfl, a4⟩)⟩
theorem k_skF_le2 (x : k_X) : ∀ k p, p ≤ x.2.1 → k_skF x k p ≤ x.2.1 := by
  intro k
  induction k with
  | zero => intro p h; exact h
  | succ k ih =>
    intro p h
    show (if p < x.2.1 ∧ (x.1 p = 32 ∨ x.1 p = 10) then k_skF x k (p + 1) else p) ≤ x.2.1
    split
    · exact ih (p + 1) (by omega)
    · exact h
theorem k_rt_e {x : k_X} {M : pM} {p : Nat} (h : x.2.1 ≤ x.2.2 ∧ x.2.1 ≤ k_sk x p ∧ o_i (M 294) 12 = x.2.1) (hk : o_i (M 294) 11 = 0) : k_rt M (k_tk x p) := by
  unfold k_tk
  rw [if_pos ⟨h.1, h.2.1⟩]
  exact ⟨h.2.2, Or.inl ⟨rfl, hk⟩⟩
theorem k_rt_l {x : k_X} {M : pM} {p : Nat} (h : x.2.2 < x.2.1 ∧ x.2.2 ≤ k_sk x p ∧ o_i (M 294) 12 = x.2.2) (hk : o_i (M 294) 11 = 4) : k_rt M (k_tk x p) := by
  unfold k_tk
  rw [if_neg (by omega), if_pos ⟨h.1, h.2.1⟩]
  exact ⟨h.2.2, Or.inr (Or.inl ⟨rfl, hk⟩)⟩
/-! ===== what the reference sees  ===== -/
theorem k_rW {x : k_X} {M : pM} {i : Nat} (T : k_ra x M i) : (o_i (M 294) 11 = 1 ∧ kK x i = 2 ∧ o_J (M 294) 17 = k_wi (kV x i) ∧ 0 ≤ kV x i ∧ kV x i < 34359738368) ∨ (o_i (M 294) 11 ≠ 1 ∧ kK x i ≠ 2) := by
  unfold kK kV
  rcases T.2.2 with ⟨q, q2⟩ | ⟨q, q2⟩ | ⟨q, -, q2, q3, q4, q5⟩ | ⟨q, -, q2, q3⟩ | ⟨q, -, q2, q3⟩
  · exact Or.inr ⟨by omega, by omega⟩
  · exact Or.inr ⟨by omega, by omega⟩
  · exact Or.inl ⟨q2, q, q3, q4, q5⟩
  · exact Or.inr ⟨by omega, by omega⟩
  · exact Or.inr ⟨by omega, by omega⟩
theorem k_rS {x : k_X} {M : pM} {i : Nat} (T : k_ra x M i) : (o_i (M 294) 11 = 3 ∧ kK x i = 5 ∧ kV x i = o_i (M 294) 14) ∨ (o_i (M 294) 11 ≠ 3 ∧ kK x i ≠ 5) := by
  unfold kK kV
  rcases T.2.2 with ⟨q, q2⟩ | ⟨q, q2⟩ | ⟨q, -, q2, q3, q4, q5⟩ | ⟨q, -, q2, q3⟩ | ⟨q, -, q2, q3⟩
  · exact Or.inr ⟨by omega, by omega⟩
  · exact Or.inr ⟨by omega, by omega⟩
  · exact Or.inr ⟨by omega, by omega⟩
  · exact Or.inr ⟨by omega, by omega⟩
  · exact Or.inl ⟨q2, q, q3.symm⟩
theorem k_rN {x : k_X} {M : pM} {i : Nat} (T : k_ra x M i) : (o_i (M 294) 11 = 2 ∧ kK x i = 4 ∧ kV x i = o_i (M 294) 14) ∨ (o_i (M 294) 11 ≠ 2 ∧ kK x i ≠ 4) := by
  unfold kK kV
  rcases T.2.2 with ⟨q, q2⟩ | ⟨q, q2⟩ | ⟨q, -, q2, q3, q4, q5⟩ | ⟨q, -, q2, q3⟩ | ⟨q, -, q2, q3⟩
  · exact Or.inr ⟨by omega, by omega⟩
  · exact Or.inr ⟨by omega, by omega⟩
  · exact Or.inr ⟨by omega, by omega⟩
  · exact Or.inl ⟨q2, q, q3.symm⟩
  · exact Or.inr ⟨by omega, by omega⟩
theorem k_rE {x : k_X} {M : pM} {i : Nat} (T : k_ra x M i) : (o_i (M 294) 11 = 0 ∧ kK x i = 0) ∨ (o_i (M 294) 11 ≠ 0 ∧ kK x i ≠ 0) := by
  unfold kK
  rcases T.2.2 with ⟨q, q2⟩ | ⟨q, q2⟩ | ⟨q, -, q2, q3, q4, q5⟩ | ⟨q, -, q2, q3⟩ | ⟨q, -, q2, q3⟩
  · exact Or.inl ⟨q2, q⟩
  · exact Or.inr ⟨by omega, by omega⟩
  · exact Or.inr ⟨by omega, by omega⟩
  · exact Or.inr ⟨by omega, by omega⟩
  · exact Or.inr ⟨by omega, by omega⟩
theorem k_wi_wc {v w : Int} {r : Nat} (hr : r < 28) (hv : 0 ≤ v ∧ v < 34359738368) (hw : w = k_wi v) : w = k_wi (p_wc r).toInt ↔ v = (p_wc r).toInt :=
  ⟨fun e => k_wi_inj hv (p_wc_b hr) (hw.symm.trans e), fun e => by rw [hw, e]⟩
theorem n_bit {o k : Int32} (h0 : 0 ≤ o.toInt) (h1 : o.toInt ≤ 7) (k0 : 0 ≤ k.toInt) (k1 : k.toInt ≤ 2) : (k.toInt = 0 ∧ ((o >>> (k &&& 31)) &&& 1).toInt = o.toInt % 2 ∧ (o ||| (1 <<< (k &&& 31))).toInt = o.toInt + 1 - o.toInt % 2) ∨ (k.toInt = 1 ∧ ((o >>> (k &&& 31)) &&& 1).toInt = o.toInt / 2 % 2 ∧ (o ||| (1 <<< (k &&& 31))).toInt = o.toInt + 2 - 2 * (o.toInt / 2 % 2)) ∨ (k.toInt = 2 ∧ ((o >>> (k &&& 31)) &&& 1).toInt = o.toInt / 4 % 2 ∧ (o ||| (1 <<< (k &&& 31))).toInt = o.toInt + 4 - 4 * (o.toInt / 4 % 2)) := by
  have e1 : k = 0 ∨ k = 1 ∨ k = 2 := by
    have : k.toInt = 0 ∨ k.toInt = 1 ∨ k.toInt = 2 := by omega
    rcases this with w | w | w
    · exact Or.inl (n_eq.mpr w)
    · exact Or.inr (Or.inl (n_eq.mpr w))
    · exact Or.inr (Or.inr (n_eq.mpr w))
  have e2 : o = 0 ∨ o = 1 ∨ o = 2 ∨ o = 3 ∨ o = 4 ∨ o = 5 ∨ o = 6 ∨ o = 7 := by
    have : o.toInt = 0 ∨ o.toInt = 1 ∨ o.toInt = 2 ∨ o.toInt = 3 ∨ o.toInt = 4 ∨ o.toInt = 5 ∨ o.toInt = 6 ∨ o.toInt = 7 := by omega
    rcases this with w | w | w | w | w | w | w | w
    · exact Or.inl (n_eq.mpr w)
    · exact Or.inr (Or.inl (n_eq.mpr w))
    · exact Or.inr (Or.inr (Or.inl (n_eq.mpr w)))
    · exact Or.inr (Or.inr (Or.inr (Or.inl (n_eq.mpr w))))
    · exact Or.inr (Or.inr (Or.inr (Or.inr (Or.inl (n_eq.mpr w)))))
    · exact Or.inr (Or.inr (Or.inr (Or.inr (Or.inr (Or.inl (n_eq.mpr w))))))
    · exact Or.inr (Or.inr (Or.inr (Or.inr (Or.inr (Or.inr (Or.inl (n_eq.mpr w)))))))
    · exact Or.inr (Or.inr (Or.inr (Or.inr (Or.inr (Or.inr (Or.inr (n_eq.mpr w)))))))
  rcases e1 with rfl | rfl | rfl <;> rcases e2 with rfl | rfl | rfl | rfl | rfl | rfl | rfl | rfl <;> decide
