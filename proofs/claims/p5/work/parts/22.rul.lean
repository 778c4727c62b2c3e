/-! ===== rules with exact results ===== -/
theorem Fr.nil {M M1 : pM} (h : Fr [] M M1) : M1 = M := funext fun c => h c List.not_mem_nil
theorem n_bd4 {z : Int} (h1 : -9223372036854775808 ≤ z) (h2 : z ≤ 9223372036854775807) : z.bmod (2 ^ 64) = z := by
  exact Int.bmod_eq_of_le (by omega) (by omega)
theorem n_cmpE {x y : Int64} (h : (lg_cmp x y).toInt = 0) : x = y := by
  unfold lg_cmp at h
  by_cases h1 : x > y
  · rw [if_pos h1] at h; exact absurd h (by decide)
  · rw [if_neg h1] at h
    by_cases h2 : x = y
    · exact h2
    · rw [if_neg h2] at h; exact absurd h (by decide)
section Rules
variable {V : pM → Prop} {G : pG} {al : Bool} {d j mc ms : Nat} {Kr : pK} {pc : Nat} {lv : List (Nat × Value)} {st : List Value} {N : Nat} {M : pM} {ce sl : Nat}
theorem PW.addX {x y : Int32} (h : p_tb j pc = some (.iadd, 1)) (k : ∀ z : Int32, (-2147483648 ≤ x.toInt + y.toInt → x.toInt + y.toInt ≤ 2147483647 → z.toInt = x.toInt + y.toInt) → PW G al d j mc ms Kr (pc + 1) lv (.int z :: st) N M ce sl) : PW G al d j mc ms Kr pc lv (.int y :: .int x :: st) N M ce sl := PW.iadd h (k _ fun h1 h2 => by rw [Int32.toInt_add]; exact n_bd h1 h2)
theorem PW.subX {x y : Int32} (h : p_tb j pc = some (.isub, 1)) (k : ∀ z : Int32, (-2147483648 ≤ x.toInt - y.toInt → x.toInt - y.toInt ≤ 2147483647 → z.toInt = x.toInt - y.toInt) → PW G al d j mc ms Kr (pc + 1) lv (.int z :: st) N M ce sl) : PW G al d j mc ms Kr pc lv (.int y :: .int x :: st) N M ce sl := PW.isub h (k _ fun h1 h2 => by rw [Int32.toInt_sub]; exact n_bd h1 h2)
theorem PW.mulX {x y : Int32} (h : p_tb j pc = some (.imul, 1)) (c : Int) (w : Int32) (hc : c = 10) (hc2 : 0 ≤ c) (hy : (x.toInt = c ∧ w = y) ∨ (y.toInt = c ∧ w = x)) (k : ∀ z : Int32, (-1000000 ≤ w.toInt → w.toInt ≤ 1000000 → z.toInt = c * w.toInt) → PW G al d j mc ms Kr (pc + 1) lv (.int z :: st) N M ce sl) : PW G al d j mc ms Kr pc lv (.int y :: .int x :: st) N M ce sl := by
  refine PW.imul h (k _ fun h1 h2 => ?_)
  subst hc
  rw [Int32.toInt_mul]
  rcases hy with ⟨q, rfl⟩ | ⟨q, rfl⟩
  · rw [q]; exact n_bd (by omega) (by omega)
  · rw [q, Int.mul_comm]; exact n_bd (by omega) (by omega)
theorem PW.andX {x y : Int32} {v : Int} {w : Int32} (h : p_tb j pc = some (.iand, 1)) (hw : w.toInt = v) (hv : 0 ≤ y.toInt) (hy : y.toInt = v) (k : ∀ z : Int32, z = x &&& w → 0 ≤ z.toInt → z.toInt ≤ v → PW G al d j mc ms Kr (pc + 1) lv (.int z :: st) N M ce sl) : PW G al d j mc ms Kr pc lv (.int y :: .int x :: st) N M ce sl := by
  obtain rfl : y = w := n_eq.mpr (by omega)
  have b := n_and (x := x) hv
  exact PW.iand h (k _ rfl b.1 (by omega))
theorem PW.nmLk {x : Int64} (k : ∀ z : Int64, z = x → PW G al d j mc ms Kr pc lv (.long z :: st) N M ce sl) : PW G al d j mc ms Kr pc lv (.long x :: st) N M ce sl := k x rfl
theorem PW.lcmpK {x y : Int64} (h : p_tb j pc = some (.lcmp, 1)) (k : ∀ z : Int32, (z.toInt ≠ 0 → x.toInt ≠ y.toInt) → (z.toInt = 0 → x.toInt = y.toInt) → PW G al d j mc ms Kr (pc + 1) lv (.int z :: st) N M ce sl) : PW G al d j mc ms Kr pc lv (.long y :: .long x :: st) N M ce sl := PW.lcmp h (k _ (fun q e => n_cmp0 q (Int64.toInt_inj.mp e)) (fun q => by rw [n_cmpE q]))
theorem PW.wYX {a K n : Nat} {i x : Int32} (h : p_tb j pc = some (.bastore, 1)) (hA : g_sh K = (1, 0, n)) (hk : g_kd a = K) (hV : Stab V) (I : Iv V M) (hK : K < 60) (hs : g_sA K = false) (hb : gC K 0 (n - 1) (-128) 127) (h1 : 0 ≤ i.toInt) (h2 : i.toInt < (n : Int)) (kk : ∀ M1, Iv V M1 → o_a (M1 a) i.toInt.toNat = vp_nar .byte x → gVv M M1 a i.toInt.toNat → PW G al d j mc ms Kr (pc + 1) lv st 311 M1 ce sl) : PW G al d j mc ms Kr pc lv (.int x :: .int i :: .ref a :: st) 311 M ce sl := by
  obtain ⟨ha, e1, e2⟩ := I.1.arr hk hK hA
  have c := hb i.toInt.toNat (by omega) (by omega)
  have b1 := Int8.le_toInt x.toInt8
  have b2 := Int8.toInt_lt x.toInt8
  have b3 : (vp_nar .byte x).toInt = x.toInt8.toInt := by rw [vp_nar_byte]; exact Int8.toInt_toInt32 _
  obtain ⟨i1, i2, i3⟩ := I.1.putA (q := i.toInt.toNat) (x := vp_nar .byte x) hk hK hA ⟨by omega, by omega⟩
  exact PW.bast h ha e1 (vp_in_iff.mpr ⟨by omega, by omega⟩) (kk _ ⟨i1, hV.2.1 _ _ a K I.2 i3.1 hk (by rw [hA]; exact Nat.succ_ne_zero _) hs⟩ i2 i3)
/-- M1 is M but for place q of the row of longs a -/
def gVl (M M1 : pM) (a q : Nat) : Prop := (∀ c, c ≠ a → M1 c = M c) ∧ ∀ z, z ≠ q → o_l (M1 a) z = o_l (M a) z
theorem PW.wLX {a K n : Nat} {i : Int32} {x : Int64} (h : p_tb j pc = some (.lastore, 1)) (hA : g_sh K = (2, 2, n)) (hk : g_kd a = K) (hV : Stab V) (I : Iv V M) (hK : K < 60) (hs : g_sA K = false) (h1 : 0 ≤ i.toInt) (h2 : i.toInt < (n : Int)) (kk : ∀ M1, Iv V M1 → o_l (M1 a) i.toInt.toNat = x → gVl M M1 a i.toInt.toNat → PW G al d j mc ms Kr (pc + 1) lv st 311 M1 ce sl) : PW G al d j mc ms Kr pc lv (.long x :: .int i :: .ref a :: st) 311 M ce sl := by
  obtain ⟨ha, e1⟩ := I.1.larr hk hK hA
  refine PW.last h ha e1 (vp_in_iff.mpr ⟨by omega, by omega⟩) (kk _ ⟨I.1.setL hk hA _ (p_up_eq _ _ _) (fun c hc => va_up_ne _ _ hc), hV.2.1 _ _ a K I.2 (fun c hc => va_up_ne _ _ hc) hk (by rw [hA]; exact Nat.succ_ne_zero _) hs⟩ ?_ ⟨fun c hc => va_up_ne _ _ hc, fun z hz => ?_⟩)
  · rw [p_up_eq]
    show vp_updL (o_l (M a)) i.toInt.toNat x i.toInt.toNat = x
    unfold vp_updL; exact if_pos rfl
  · rw [p_up_eq]
    show vp_updL (o_l (M a)) i.toInt.toNat x z = o_l (M a) z
    unfold vp_updL; exact if_neg hz
end Rules
/-! ===== long arithmetic, where it doesn't overflow  ===== -/
theorem n_lm32 {a b c z : Int64} {w : Int32} (hb : b.toInt = 32) (hc : c = a * b) (hz : z = c + w.toInt64) (h0 : 0 ≤ a.toInt) (h1 : a.toInt < 34359738368) (h2 : 0 ≤ w.toInt) (h3 : w.toInt ≤ 1000) : z.toInt = a.toInt * 32 + w.toInt := by
  have e1 : (a.toInt * 32).bmod (2 ^ 64) = a.toInt * 32 := n_bd4 (by omega) (by omega)
  rw [hz, hc, Int64.toInt_add, Int64.toInt_mul, hb, Int32.toInt_toInt64, e1]
  exact n_bd4 (by omega) (by omega)
