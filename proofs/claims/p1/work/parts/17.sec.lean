/-! ===== seconds(n) on the fresh objects ===== -/
theorem q_56_0 : p_tb 56 0 = some (.aload_n 0, 1) := by decide +kernel
theorem q_56_1 : p_tb 56 1 = some (.getfield 36, 3) := by decide +kernel
theorem q_56_4 : p_tb 56 4 = some (.sipush 600, 3) := by decide +kernel
theorem q_56_7 : p_tb 56 7 = some (.if_icmp .lt 5, 3) := by decide +kernel
theorem q_56_12 : p_tb 56 12 = some (.iconst 0, 1) := by decide +kernel
theorem q_56_13 : p_tb 56 13 = some (.istore_n 2, 1) := by decide +kernel
theorem q_56_14 : p_tb 56 14 = some (.iload_n 2, 1) := by decide +kernel
theorem q_56_15 : p_tb 56 15 = some (.aload_n 1, 1) := by decide +kernel
theorem q_56_16 : p_tb 56 16 = some (.getfield 117, 3) := by decide +kernel
theorem q_56_19 : p_tb 56 19 = some (.if_icmp .ge 28, 3) := by decide +kernel
theorem q_56_47 : p_tb 56 47 = some (.iconst 0, 1) := by decide +kernel
theorem q_56_48 : p_tb 56 48 = some (.istore_n 2, 1) := by decide +kernel
theorem q_56_49 : p_tb 56 49 = some (.iload_n 2, 1) := by decide +kernel
theorem q_56_50 : p_tb 56 50 = some (.aload_n 1, 1) := by decide +kernel
theorem q_56_51 : p_tb 56 51 = some (.getfield 52, 3) := by decide +kernel
theorem q_56_54 : p_tb 56 54 = some (.if_icmp .ge 15, 3) := by decide +kernel
theorem q_56_69 : p_tb 56 69 = some (.iconst 0, 1) := by decide +kernel
theorem q_56_70 : p_tb 56 70 = some (.istore_n 2, 1) := by decide +kernel
theorem q_56_71 : p_tb 56 71 = some (.iload_n 2, 1) := by decide +kernel
theorem q_56_72 : p_tb 56 72 = some (.aload_n 1, 1) := by decide +kernel
theorem q_56_73 : p_tb 56 73 = some (.getfield 117, 3) := by decide +kernel
theorem q_56_76 : p_tb 56 76 = some (.if_icmp .ge 52, 3) := by decide +kernel
theorem q_56_128 : p_tb 56 128 = some (.aload_n 0, 1) := by decide +kernel
theorem q_56_129 : p_tb 56 129 = some (.dup, 1) := by decide +kernel
theorem q_56_130 : p_tb 56 130 = some (.getfield 36, 3) := by decide +kernel
theorem q_56_133 : p_tb 56 133 = some (.iconst 1, 1) := by decide +kernel
theorem q_56_134 : p_tb 56 134 = some (.iadd, 1) := by decide +kernel
theorem q_56_135 : p_tb 56 135 = some (.putfield 36, 3) := by decide +kernel
theorem q_56_138 : p_tb 56 138 = some (.iconst 1, 1) := by decide +kernel
theorem q_56_139 : p_tb 56 139 = some (.ireturn, 1) := by decide +kernel
theorem q_57_0 : p_tb 57 0 = some (.iconst 0, 1) := by decide +kernel
theorem q_57_1 : p_tb 57 1 = some (.istore_n 3, 1) := by decide +kernel
theorem q_57_2 : p_tb 57 2 = some (.iload_n 3, 1) := by decide +kernel
theorem q_57_3 : p_tb 57 3 = some (.iload_n 2, 1) := by decide +kernel
theorem q_57_4 : p_tb 57 4 = some (.if_icmp .ge 15, 3) := by decide +kernel
theorem q_57_7 : p_tb 57 7 = some (.aload_n 0, 1) := by decide +kernel
theorem q_57_8 : p_tb 57 8 = some (.aload_n 1, 1) := by decide +kernel
theorem q_57_9 : p_tb 57 9 = some (.invokevirtual 139, 3) := by decide +kernel
theorem q_57_12 : p_tb 57 12 = some (.pop, 1) := by decide +kernel
theorem q_57_13 : p_tb 57 13 = some (.iinc 3 1, 3) := by decide +kernel
theorem q_57_16 : p_tb 57 16 = some (.goto (-14), 3) := by decide +kernel
theorem q_57_19 : p_tb 57 19 = some (.return_, 1) := by decide +kernel
theorem q_122_0 : p_tb 122 0 = some (.iload_n 1, 1) := by decide +kernel
theorem q_122_1 : p_tb 122 1 = some (.iconst 1, 1) := by decide +kernel
theorem q_122_2 : p_tb 122 2 = some (.if_icmp .lt 9, 3) := by decide +kernel
theorem q_122_5 : p_tb 122 5 = some (.iload_n 1, 1) := by decide +kernel
theorem q_122_6 : p_tb 122 6 = some (.bipush 60, 2) := by decide +kernel
theorem q_122_8 : p_tb 122 8 = some (.if_icmp .le 5, 3) := by decide +kernel
theorem q_122_11 : p_tb 122 11 = some (.iconst (-1), 1) := by decide +kernel
theorem q_122_12 : p_tb 122 12 = some (.ireturn, 1) := by decide +kernel
theorem q_122_13 : p_tb 122 13 = some (.iload_n 1, 1) := by decide +kernel
theorem q_122_14 : p_tb 122 14 = some (.sipush 600, 3) := by decide +kernel
theorem q_122_17 : p_tb 122 17 = some (.aload_n 0, 1) := by decide +kernel
theorem q_122_18 : p_tb 122 18 = some (.getfield 19, 3) := by decide +kernel
theorem q_122_21 : p_tb 122 21 = some (.getfield 101, 3) := by decide +kernel
theorem q_122_24 : p_tb 122 24 = some (.getfield 230, 3) := by decide +kernel
theorem q_122_27 : p_tb 122 27 = some (.isub, 1) := by decide +kernel
theorem q_122_28 : p_tb 122 28 = some (.invokestatic 295, 3) := by decide +kernel
theorem q_122_31 : p_tb 122 31 = some (.istore_n 2, 1) := by decide +kernel
theorem q_122_32 : p_tb 122 32 = some (.iload_n 2, 1) := by decide +kernel
theorem q_122_33 : p_tb 122 33 = some (.ifCond .le 35, 3) := by decide +kernel
theorem q_122_36 : p_tb 122 36 = some (.aload_n 0, 1) := by decide +kernel
theorem q_122_37 : p_tb 122 37 = some (.getfield 34, 3) := by decide +kernel
theorem q_122_40 : p_tb 122 40 = some (.aload_n 0, 1) := by decide +kernel
theorem q_122_41 : p_tb 122 41 = some (.getfield 19, 3) := by decide +kernel
theorem q_122_44 : p_tb 122 44 = some (.getfield 101, 3) := by decide +kernel
theorem q_122_47 : p_tb 122 47 = some (.invokevirtual 147, 3) := by decide +kernel
theorem q_122_50 : p_tb 122 50 = some (.aload_n 0, 1) := by decide +kernel
theorem q_122_51 : p_tb 122 51 = some (.getfield 19, 3) := by decide +kernel
theorem q_122_54 : p_tb 122 54 = some (.getfield 101, 3) := by decide +kernel
theorem q_122_57 : p_tb 122 57 = some (.aload_n 0, 1) := by decide +kernel
theorem q_122_58 : p_tb 122 58 = some (.getfield 19, 3) := by decide +kernel
theorem q_122_61 : p_tb 122 61 = some (.getfield 94, 3) := by decide +kernel
theorem q_122_64 : p_tb 122 64 = some (.iload_n 2, 1) := by decide +kernel
theorem q_122_65 : p_tb 122 65 = some (.invokevirtual 300, 3) := by decide +kernel
theorem q_122_68 : p_tb 122 68 = some (.iload_n 2, 1) := by decide +kernel
theorem q_122_69 : p_tb 122 69 = some (.ireturn, 1) := by decide +kernel
theorem q_211_0 : p_tb 211 0 = some (.aload_n 0, 1) := by decide +kernel
theorem q_211_1 : p_tb 211 1 = some (.getfield 33, 3) := by decide +kernel
theorem q_211_4 : p_tb 211 4 = some (.bipush 73, 2) := by decide +kernel
theorem q_211_6 : p_tb 211 6 = some (.iconst 0, 1) := by decide +kernel
theorem q_211_7 : p_tb 211 7 = some (.iastore, 1) := by decide +kernel
theorem q_211_8 : p_tb 211 8 = some (.iconst 0, 1) := by decide +kernel
theorem q_211_9 : p_tb 211 9 = some (.istore_n 1, 1) := by decide +kernel
theorem q_211_10 : p_tb 211 10 = some (.iload_n 1, 1) := by decide +kernel
theorem q_211_11 : p_tb 211 11 = some (.aload_n 0, 1) := by decide +kernel
theorem q_211_12 : p_tb 211 12 = some (.getfield 33, 3) := by decide +kernel
theorem q_211_15 : p_tb 211 15 = some (.iconst 0, 1) := by decide +kernel
theorem q_211_16 : p_tb 211 16 = some (.iaload, 1) := by decide +kernel
theorem q_211_17 : p_tb 211 17 = some (.if_icmp .ge 41, 3) := by decide +kernel
theorem q_211_58 : p_tb 211 58 = some (.iconst 0, 1) := by decide +kernel
theorem q_211_59 : p_tb 211 59 = some (.istore_n 1, 1) := by decide +kernel
theorem q_211_60 : p_tb 211 60 = some (.iload_n 1, 1) := by decide +kernel
theorem q_211_61 : p_tb 211 61 = some (.aload_n 0, 1) := by decide +kernel
theorem q_211_62 : p_tb 211 62 = some (.getfield 33, 3) := by decide +kernel
theorem q_211_65 : p_tb 211 65 = some (.iconst 1, 1) := by decide +kernel
theorem q_211_66 : p_tb 211 66 = some (.iaload, 1) := by decide +kernel
theorem q_211_67 : p_tb 211 67 = some (.if_icmp .ge 14, 3) := by decide +kernel
theorem q_211_81 : p_tb 211 81 = some (.iconst 0, 1) := by decide +kernel
theorem q_211_82 : p_tb 211 82 = some (.istore_n 1, 1) := by decide +kernel
theorem q_211_83 : p_tb 211 83 = some (.iload_n 1, 1) := by decide +kernel
theorem q_211_84 : p_tb 211 84 = some (.aload_n 0, 1) := by decide +kernel
theorem q_211_85 : p_tb 211 85 = some (.getfield 33, 3) := by decide +kernel
theorem q_211_88 : p_tb 211 88 = some (.iconst 0, 1) := by decide +kernel
theorem q_211_89 : p_tb 211 89 = some (.iaload, 1) := by decide +kernel
theorem q_211_90 : p_tb 211 90 = some (.if_icmp .ge 116, 3) := by decide +kernel
theorem q_211_206 : p_tb 211 206 = some (.aload_n 0, 1) := by decide +kernel
theorem q_211_207 : p_tb 211 207 = some (.getfield 33, 3) := by decide +kernel
theorem q_211_210 : p_tb 211 210 = some (.bipush 33, 2) := by decide +kernel
theorem q_211_212 : p_tb 211 212 = some (.dup2, 1) := by decide +kernel
theorem q_211_213 : p_tb 211 213 = some (.iaload, 1) := by decide +kernel
theorem q_211_214 : p_tb 211 214 = some (.iconst 1, 1) := by decide +kernel
theorem q_211_215 : p_tb 211 215 = some (.iadd, 1) := by decide +kernel
theorem q_211_216 : p_tb 211 216 = some (.iastore, 1) := by decide +kernel
theorem q_211_217 : p_tb 211 217 = some (.return_, 1) := by decide +kernel
theorem q_212_0 : p_tb 212 0 = some (.iconst 0, 1) := by decide +kernel
theorem q_212_1 : p_tb 212 1 = some (.istore_n 2, 1) := by decide +kernel
theorem q_212_2 : p_tb 212 2 = some (.iload_n 2, 1) := by decide +kernel
theorem q_212_3 : p_tb 212 3 = some (.iload_n 1, 1) := by decide +kernel
theorem q_212_4 : p_tb 212 4 = some (.if_icmp .ge 26, 3) := by decide +kernel
theorem q_212_7 : p_tb 212 7 = some (.aload_n 0, 1) := by decide +kernel
theorem q_212_8 : p_tb 212 8 = some (.getfield 33, 3) := by decide +kernel
theorem q_212_11 : p_tb 212 11 = some (.bipush 33, 2) := by decide +kernel
theorem q_212_13 : p_tb 212 13 = some (.iaload, 1) := by decide +kernel
theorem q_212_14 : p_tb 212 14 = some (.sipush 600, 3) := by decide +kernel
theorem q_212_17 : p_tb 212 17 = some (.if_icmp .ge 13, 3) := by decide +kernel
theorem q_212_20 : p_tb 212 20 = some (.aload_n 0, 1) := by decide +kernel
theorem q_212_21 : p_tb 212 21 = some (.invokevirtual 287, 3) := by decide +kernel
theorem q_212_24 : p_tb 212 24 = some (.iinc 2 1, 3) := by decide +kernel
theorem q_212_27 : p_tb 212 27 = some (.goto (-25), 3) := by decide +kernel
theorem q_212_30 : p_tb 212 30 = some (.iload_n 2, 1) := by decide +kernel
theorem q_212_31 : p_tb 212 31 = some (.ireturn, 1) := by decide +kernel
theorem q_220_0 : p_tb 220 0 = some (.aload_n 0, 1) := by decide +kernel
theorem q_220_1 : p_tb 220 1 = some (.iconst 0, 1) := by decide +kernel
theorem q_220_2 : p_tb 220 2 = some (.putfield 1, 3) := by decide +kernel
theorem q_220_5 : p_tb 220 5 = some (.iload_n 1, 1) := by decide +kernel
theorem q_220_6 : p_tb 220 6 = some (.iconst 1, 1) := by decide +kernel
theorem q_220_7 : p_tb 220 7 = some (.bipush 60, 2) := by decide +kernel
theorem q_220_9 : p_tb 220 9 = some (.invokestatic 176, 3) := by decide +kernel
theorem q_220_12 : p_tb 220 12 = some (.ifCond .ne 5, 3) := by decide +kernel
theorem q_220_15 : p_tb 220 15 = some (.iconst (-1), 1) := by decide +kernel
theorem q_220_16 : p_tb 220 16 = some (.ireturn, 1) := by decide +kernel
theorem q_220_17 : p_tb 220 17 = some (.aload_n 0, 1) := by decide +kernel
theorem q_220_18 : p_tb 220 18 = some (.getfield 33, 3) := by decide +kernel
theorem q_220_21 : p_tb 220 21 = some (.bipush 33, 2) := by decide +kernel
theorem q_220_23 : p_tb 220 23 = some (.iaload, 1) := by decide +kernel
theorem q_220_24 : p_tb 220 24 = some (.sipush 600, 3) := by decide +kernel
theorem q_220_27 : p_tb 220 27 = some (.if_icmp .ne 5, 3) := by decide +kernel
theorem q_220_32 : p_tb 220 32 = some (.aload_n 0, 1) := by decide +kernel
theorem q_220_33 : p_tb 220 33 = some (.invokevirtual 290, 3) := by decide +kernel
theorem q_220_36 : p_tb 220 36 = some (.aload_n 0, 1) := by decide +kernel
theorem q_220_37 : p_tb 220 37 = some (.iload_n 1, 1) := by decide +kernel
theorem q_220_38 : p_tb 220 38 = some (.invokevirtual 299, 3) := by decide +kernel
theorem q_220_41 : p_tb 220 41 = some (.ireturn, 1) := by decide +kernel
theorem q_285_638 : p_tb 285 638 = some (.aload_n 1, 1) := by decide +kernel
theorem q_285_639 : p_tb 285 639 = some (.aload_n 0, 1) := by decide +kernel
theorem q_285_640 : p_tb 285 640 = some (.iload 4, 2) := by decide +kernel
theorem q_285_642 : p_tb 285 642 = some (.iconst 1, 1) := by decide +kernel
theorem q_285_643 : p_tb 285 643 = some (.iadd, 1) := by decide +kernel
theorem q_285_644 : p_tb 285 644 = some (.iaload, 1) := by decide +kernel
theorem q_285_645 : p_tb 285 645 = some (.invokevirtual 90, 3) := by decide +kernel
theorem q_285_648 : p_tb 285 648 = some (.aload_n 2, 1) := by decide +kernel
theorem q_285_649 : p_tb 285 649 = some (.aload_n 0, 1) := by decide +kernel
theorem q_285_650 : p_tb 285 650 = some (.iload 4, 2) := by decide +kernel
theorem q_285_652 : p_tb 285 652 = some (.iconst 1, 1) := by decide +kernel
theorem q_285_653 : p_tb 285 653 = some (.iadd, 1) := by decide +kernel
theorem q_285_654 : p_tb 285 654 = some (.iaload, 1) := by decide +kernel
theorem q_285_655 : p_tb 285 655 = some (.invokevirtual 93, 3) := by decide +kernel
theorem q_285_658 : p_tb 285 658 = some (.if_icmp .eq 1027, 3) := by decide +kernel
theorem s_upup {f : pM} {a : Nat} {x y : va_E} : va_up (va_up f a x) a y = va_up f a y := by
  funext k
  by_cases h : k = a
  · subst h; simp [va_up]
  · simp [va_up, h]
theorem s_inc {i : Int32} (h : -1000 ≤ i.toInt) (h2 : i.toInt ≤ 1000) : (i + Int32.ofInt 1).toInt = i.toInt + 1 := by
  rw [Int32.toInt_add, show (Int32.ofInt 1).toInt = 1 from by decide]
  exact Int.bmod_eq_of_le (by omega) (by omega)
theorem s_min {x y : Int32} (h : x.toInt ≤ y.toInt) : (if y < x then y else x) = x := if_neg fun q => by have q2 := Int32.lt_iff_toInt_lt.mp q; omega
theorem d_all {r : Option Value} {M : pM} {x : Option (Option Value × Nat × pO)} (h : d_chk r 0 311 M x = true) : ∀ k, k < 311 → p_kn (M k) = false ∨ d_mem x k = M k ∨ p_eqE (d_mem x k) (M k) = true := by
  intro k hk
  cases x with
  | none => cases h
  | some q =>
    obtain ⟨v, N2, M2⟩ := q
    simp only [d_chk, Bool.and_eq_true, List.all_eq_true, List.mem_range, Bool.or_eq_true, decide_eq_true_eq] at h
    exact Or.inr (Or.inr ((h.2 k hk).resolve_left (by omega)))
theorem d_all2 {r : Option Value} {M : pM} {x : Option (Option Value × Nat × pO)} (h : d_chk r 294 311 M x = true) (h0 : ∀ k, k < 294 → p_kn (M k) = false) : ∀ k, k < 311 → p_kn (M k) = false ∨ d_mem x k = M k ∨ p_eqE (d_mem x k) (M k) = true := by
  intro k hk
  by_cases h1 : k < 294
  · exact Or.inl (h0 k h1)
  · cases x with
    | none => cases h
    | some q =>
      obtain ⟨v, N2, M2⟩ := q
      simp only [d_chk, Bool.and_eq_true, List.all_eq_true, List.mem_range, Bool.or_eq_true, decide_eq_true_eq] at h
      exact Or.inr (Or.inr ((h.2 k hk).resolve_left h1))
def m_k : pM := va_up f_M 110 (.inr (1, [.ref 111, .int 0, .int 1]))
def m_s (i : Int32) : pM := va_up m_k 15 (.inr (5, [.int i, .int (-1), .int (-1), .ref 16, .ref 23, .ref 32]))
def m_j : pM := va_up f_lo 294 (.inr (11, [.int 0, .ref 295, .int 0, .int 0, .int 0, .int 0, .ref 296, .ref 297, .ref 298, .ref 299, .ref 300, .int 0, .int 0, .int 0, .int 0, .int 0, .int 0, .long 0, .int 0, .int 0, .int 0, .ref 301, .ref 302, .int 1, .ref 303, .int 0, .int 0, .int 0, .int 0, .int 0, .ref 304, .int 0, .ref 305, .int 0, .int 0, .int 0, .int 0, .int 0, .ref 306, .ref 307, .ref 308, .ref 309]))
def m_f : Nat → Int32 := fun q => if q = 2 then 400 else if q = 3 then 1 else 0
def m_t (i : Int32) : pM := va_up m_j 296 (.inl (1, 397, .inl (upd m_f 33 i)))
def x_keep : Option (Option Value × Nat × pO) := p_ey 6000 false 20 13 (p_mc 13) (p_msl 13) 0 (lv_args 0 [.ref 110, .ref 15]) [] 311 ([], f_M) 0 0
set_option maxRecDepth 1000000 in
theorem x_keep_ok : d_chk none 0 311 m_k x_keep = true := by decide +kernel
def y_keep : Option (Option Value × Nat × pO) := p_ey 6000 false 20 221 (p_mc 221) (p_msl 221) 0 (lv_args 0 [.ref 294]) [] 311 ([], f_lo) 0 0
set_option maxRecDepth 1000000 in
theorem y_keep_ok : d_chk none 294 311 m_j y_keep = true := by decide +kernel
theorem m_k_s : ∀ k, k < 311 → p_kn (m_s 0 k) = false ∨ m_k k = m_s 0 k ∨ p_eqE (m_k k) (m_s 0 k) = true := fun k _ => by
  by_cases h : k = 15
  · subst h; exact Or.inr (Or.inr (by decide +kernel))
  · exact Or.inr (Or.inl (va_up_ne _ _ h).symm)
theorem m_s_up (i y : Int32) : va_up (m_s i) 15 (.inr (5, [.int y, .int (-1), .int (-1), .ref 16, .ref 23, .ref 32])) = m_s y := s_upup
theorem m_s_lo (i : Int32) : ∀ k, k < 311 → p_kn (f_lo k) = false ∨ m_s i k = f_lo k ∨ p_eqE (m_s i k) (f_lo k) = true := fun k _ => by
  unfold f_lo
  by_cases h : k < 294
  · rw [if_pos h]; exact Or.inl rfl
  · rw [if_neg h]
    refine Or.inr (Or.inl ?_)
    unfold m_s m_k
    rw [va_up_ne _ _ (by omega : k ≠ 15), va_up_ne _ _ (by omega : k ≠ 110)]
theorem m_lo0 : ∀ k, k < 294 → p_kn (m_j k) = false := fun k h => by
  unfold m_j
  rw [va_up_ne _ _ (by omega : k ≠ 294)]
  unfold f_lo
  rw [if_pos h]; rfl
theorem m_lo1 : ∀ k, k < 311 → p_kn (f_lo k) = false ∨ va_up f_lo 294 (.inr (11, [.int 0, .ref 295, .int 0, .int 0, .int 0, .int 0, .ref 296, .ref 297, .ref 298, .ref 299, .ref 300, .int 0, .int 0, .int 0, .int 0, .int 0, .int 0, .long 0, .int 0, .int 0, .int 0, .ref 301, .ref 302, .int 0, .ref 303, .int 0, .int 0, .int 0, .int 0, .int 0, .ref 304, .int 0, .ref 305, .int 0, .int 0, .int 0, .int 0, .int 0, .ref 306, .ref 307, .ref 308, .ref 309])) k = f_lo k ∨ p_eqE (va_up f_lo 294 (.inr (11, [.int 0, .ref 295, .int 0, .int 0, .int 0, .int 0, .ref 296, .ref 297, .ref 298, .ref 299, .ref 300, .int 0, .int 0, .int 0, .int 0, .int 0, .int 0, .long 0, .int 0, .int 0, .int 0, .ref 301, .ref 302, .int 0, .ref 303, .int 0, .int 0, .int 0, .int 0, .int 0, .ref 304, .int 0, .ref 305, .int 0, .int 0, .int 0, .int 0, .int 0, .ref 306, .ref 307, .ref 308, .ref 309])) k) (f_lo k) = true := fun k _ => by
  by_cases h : k = 294
  · subst h; exact Or.inr (Or.inr (by decide +kernel))
  · exact Or.inr (Or.inl (va_up_ne _ _ h))
theorem m_j_t : ∀ k, k < 311 → p_kn (m_t 0 k) = false ∨ m_j k = m_t 0 k ∨ p_eqE (m_j k) (m_t 0 k) = true := fun k _ => by
  by_cases h : k = 296
  · subst h; exact Or.inr (Or.inr (by decide +kernel))
  · exact Or.inr (Or.inl (va_up_ne _ _ h).symm)
theorem m_t_up (i y : Int32) : va_up (va_up (m_t i) 296 (.inl (1, 397, .inl (upd (upd m_f 33 i) 73 0)))) 296 (.inl (1, 397, .inl (upd (upd (upd m_f 33 i) 73 0) 33 y))) = m_t y := by
  have e : upd (upd (upd m_f 33 i) 73 0) 33 y = upd m_f 33 y := by
    funext q
    by_cases h1 : q = 33
    · simp [upd, h1]
    · by_cases h2 : q = 73
      · subst h2; simp [upd, m_f]
      · simp [upd, h1, h2]
  rw [e, s_upup]
  exact s_upup
set_option maxRecDepth 100000 in
set_option maxHeartbeats 40000000 in
theorem sec_pm (G : pG) (Kr : pK) (a1 : Int32) (h2 : a1.toInt ≤ 60) (hK : ∀ i, Kr.1 none 311 (m_s i)) : ∀ (k : Nat) (i : Int32), 0 ≤ i.toInt → i.toInt + k = a1.toInt → PW G false 20 57 (p_mc 57) (p_msl 57) Kr 2 ((3, .int i) :: lv_args 0 [.ref 15, .ref 4, .int a1]) [] 311 (m_s i) 0 0
  | 0, i, h0, hk => by
    refine PW.iload_n q_57_2 rfl ?_
    refine PW.iload_n q_57_3 rfl ?_
    refine PW.icmp_ge q_57_4 rfl (fun _ => ?_) (fun q => absurd (Int32.le_iff_toInt_le.mpr (by omega)) q)
    exact PW.vret q_57_19 rfl (by decide) (by decide) (hK i)
  | k + 1, i, h0, hk => by
    refine PW.iload_n q_57_2 rfl ?_
    refine PW.iload_n q_57_3 rfl ?_
    refine PW.icmp_ge q_57_4 rfl (fun q => absurd (Int32.le_iff_toInt_le.mp q) (by omega)) (fun _ => ?_)
    refine PW.aload_n q_57_7 rfl ?_
    refine PW.aload_n q_57_8 rfl ?_
    refine PW.callV (as := [_]) (rest := []) q_57_9 rfl (by first | decide | exact of_decide_eq_true rfl) rfl (by first | decide | exact of_decide_eq_true rfl) rfl rfl (Nat.le_of_ble_eq_true rfl) (Nat.le_of_ble_eq_true rfl) (by first | decide | exact of_decide_eq_true rfl) (by first | decide | exact of_decide_eq_true rfl) ?_
    refine PW.aload_n q_56_0 rfl ?_
    refine PW.getf q_56_1 rfl (by first | decide | exact of_decide_eq_true rfl) rfl rfl ?_
    refine PW.sipush q_56_4 ?_
    refine PW.icmp_lt q_56_7 rfl (fun h0 => ?_) (fun h0 => ?_)
    · skip
      have h0 : i.toInt < 600 := s_ltI h0
      refine PW.iconst q_56_12 ?_
      refine PW.istore_n q_56_13 (by first | decide | exact of_decide_eq_true rfl) ?_
      refine PW.iload_n q_56_14 rfl ?_
      refine PW.aload_n q_56_15 rfl ?_
      refine PW.getN q_56_16 rfl (by first | decide | exact of_decide_eq_true rfl) rfl rfl ?_
      refine PW.icmp_ge q_56_19 rfl (fun _ => ?_) (fun q => absurd (by first | decide | exact of_decide_eq_true rfl) q)
      refine PW.iconst q_56_47 ?_
      refine PW.istore_n q_56_48 (by first | decide | exact of_decide_eq_true rfl) ?_
      refine PW.iload_n q_56_49 rfl ?_
      refine PW.aload_n q_56_50 rfl ?_
      refine PW.getN q_56_51 rfl (by first | decide | exact of_decide_eq_true rfl) rfl rfl ?_
      refine PW.icmp_ge q_56_54 rfl (fun _ => ?_) (fun q => absurd (by first | decide | exact of_decide_eq_true rfl) q)
      refine PW.iconst q_56_69 ?_
      refine PW.istore_n q_56_70 (by first | decide | exact of_decide_eq_true rfl) ?_
      refine PW.iload_n q_56_71 rfl ?_
      refine PW.aload_n q_56_72 rfl ?_
      refine PW.getN q_56_73 rfl (by first | decide | exact of_decide_eq_true rfl) rfl rfl ?_
      refine PW.icmp_ge q_56_76 rfl (fun _ => ?_) (fun q => absurd (by first | decide | exact of_decide_eq_true rfl) q)
      refine PW.aload_n q_56_128 rfl ?_
      refine PW.dup q_56_129 rfl ?_
      refine PW.getf q_56_130 rfl (by first | decide | exact of_decide_eq_true rfl) rfl rfl ?_
      refine PW.iconst q_56_133 ?_
      refine PW.iadd q_56_134 ?_
      refine PW.putf q_56_135 rfl (by first | decide | exact of_decide_eq_true rfl) rfl rfl rfl (by first | decide | exact of_decide_eq_true rfl) ?_
      refine PW.iconst q_56_138 ?_
      refine PW.zret q_56_139 rfl (by first | decide | exact of_decide_eq_true rfl) (by first | decide | exact of_decide_eq_true rfl) (by first | decide | exact of_decide_eq_true rfl) ?_
      refine PW.pop q_57_12 rfl ?_
      refine PW.iinc q_57_13 rfl (by first | decide | exact of_decide_eq_true rfl) ?_
      refine PW.goto q_57_16 rfl ?_
      refine PW.mem2 (M2 := m_s (i + Int32.ofInt 1)) (fun k _ => Or.inr (Or.inl (congrFun (m_s_up i _) k))) ?_
      exact sec_pm G Kr a1 h2 hK k (i + Int32.ofInt 1) (by rw [s_inc (by omega) (by omega)]; omega) (by rw [s_inc (by omega) (by omega)]; omega)
    · skip
      have h0 : i.toInt ≥ 600 := s_nltI h0
      exact absurd trivial (by omega)
set_option maxRecDepth 100000 in
set_option maxHeartbeats 40000000 in
theorem sec_go (G : pG) (Kr : pK) (a1 : Int32) (h2 : a1.toInt ≤ 60) (hK : ∀ i, Kr.1 (some (.int a1)) 311 (m_t i)) : ∀ (k : Nat) (i : Int32), 0 ≤ i.toInt → i.toInt + k = a1.toInt → PW G false 20 212 (p_mc 212) (p_msl 212) Kr 2 ((2, .int i) :: lv_args 0 [.ref 294, .int a1]) [] 311 (m_t i) 0 0
  | 0, i, h0, hk => by
    refine PW.iload_n q_212_2 rfl ?_
    refine PW.iload_n q_212_3 rfl ?_
    refine PW.icmp_ge q_212_4 rfl (fun _ => ?_) (fun q => absurd (Int32.le_iff_toInt_le.mpr (by omega)) q)
    refine PW.iload_n q_212_30 rfl ?_
    refine PW.topi (y := a1) (Int32.toInt_inj.mp (by omega)) ?_
    exact PW.iret q_212_31 rfl (by decide) (by decide) (hK i)
  | k + 1, i, h0, hk => by
    refine PW.iload_n q_212_2 rfl ?_
    refine PW.iload_n q_212_3 rfl ?_
    refine PW.icmp_ge q_212_4 rfl (fun q => absurd (Int32.le_iff_toInt_le.mp q) (by omega)) (fun _ => ?_)
    refine PW.aload_n q_212_7 rfl ?_
    refine PW.getf q_212_8 rfl (by first | decide | exact of_decide_eq_true rfl) rfl rfl ?_
    refine PW.bipush q_212_11 ?_
    refine PW.iald q_212_13 (by first | decide | exact of_decide_eq_true rfl) rfl (by unfold vp_in; first | decide | exact of_decide_eq_true rfl) ?_
    refine PW.sipush q_212_14 ?_
    refine PW.icmp_ge q_212_17 rfl (fun h0 => ?_) (fun h0 => ?_)
    · skip
      have h0 : i.toInt ≥ 600 := s_geI h0
      exact absurd trivial (by omega)
    · skip
      have h0 : i.toInt < 600 := s_ngeI h0
      refine PW.aload_n q_212_20 rfl ?_
      refine PW.callV (as := []) (rest := []) q_212_21 rfl (by first | decide | exact of_decide_eq_true rfl) rfl (by first | decide | exact of_decide_eq_true rfl) rfl rfl (Nat.le_of_ble_eq_true rfl) (Nat.le_of_ble_eq_true rfl) (by first | decide | exact of_decide_eq_true rfl) (by first | decide | exact of_decide_eq_true rfl) ?_
      refine PW.aload_n q_211_0 rfl ?_
      refine PW.getf q_211_1 rfl (by first | decide | exact of_decide_eq_true rfl) rfl rfl ?_
      refine PW.bipush q_211_4 ?_
      refine PW.iconst q_211_6 ?_
      refine PW.iast q_211_7 (by first | decide | exact of_decide_eq_true rfl) rfl (by unfold vp_in; first | decide | exact of_decide_eq_true rfl) ?_
      refine PW.iconst q_211_8 ?_
      refine PW.istore_n q_211_9 (by first | decide | exact of_decide_eq_true rfl) ?_
      refine PW.iload_n q_211_10 rfl ?_
      refine PW.aload_n q_211_11 rfl ?_
      refine PW.getf q_211_12 rfl (by first | decide | exact of_decide_eq_true rfl) rfl rfl ?_
      refine PW.iconst q_211_15 ?_
      refine PW.iald q_211_16 (by first | decide | exact of_decide_eq_true rfl) rfl (by unfold vp_in; first | decide | exact of_decide_eq_true rfl) ?_
      refine PW.icmp_ge q_211_17 rfl (fun _ => ?_) (fun q => absurd (by first | decide | exact of_decide_eq_true rfl) q)
      refine PW.iconst q_211_58 ?_
      refine PW.istore_n q_211_59 (by first | decide | exact of_decide_eq_true rfl) ?_
      refine PW.iload_n q_211_60 rfl ?_
      refine PW.aload_n q_211_61 rfl ?_
      refine PW.getf q_211_62 rfl (by first | decide | exact of_decide_eq_true rfl) rfl rfl ?_
      refine PW.iconst q_211_65 ?_
      refine PW.iald q_211_66 (by first | decide | exact of_decide_eq_true rfl) rfl (by unfold vp_in; first | decide | exact of_decide_eq_true rfl) ?_
      refine PW.icmp_ge q_211_67 rfl (fun _ => ?_) (fun q => absurd (by first | decide | exact of_decide_eq_true rfl) q)
      refine PW.iconst q_211_81 ?_
      refine PW.istore_n q_211_82 (by first | decide | exact of_decide_eq_true rfl) ?_
      refine PW.iload_n q_211_83 rfl ?_
      refine PW.aload_n q_211_84 rfl ?_
      refine PW.getf q_211_85 rfl (by first | decide | exact of_decide_eq_true rfl) rfl rfl ?_
      refine PW.iconst q_211_88 ?_
      refine PW.iald q_211_89 (by first | decide | exact of_decide_eq_true rfl) rfl (by unfold vp_in; first | decide | exact of_decide_eq_true rfl) ?_
      refine PW.icmp_ge q_211_90 rfl (fun _ => ?_) (fun q => absurd (by first | decide | exact of_decide_eq_true rfl) q)
      refine PW.aload_n q_211_206 rfl ?_
      refine PW.getf q_211_207 rfl (by first | decide | exact of_decide_eq_true rfl) rfl rfl ?_
      refine PW.bipush q_211_210 ?_
      refine PW.dup2 q_211_212 rfl rfl ?_
      refine PW.iald q_211_213 (by first | decide | exact of_decide_eq_true rfl) rfl (by unfold vp_in; first | decide | exact of_decide_eq_true rfl) ?_
      refine PW.iconst q_211_214 ?_
      refine PW.iadd q_211_215 ?_
      refine PW.iast q_211_216 (by first | decide | exact of_decide_eq_true rfl) rfl (by unfold vp_in; first | decide | exact of_decide_eq_true rfl) ?_
      refine PW.vret q_211_217 rfl (by first | decide | exact of_decide_eq_true rfl) (by first | decide | exact of_decide_eq_true rfl) ?_
      refine PW.iinc q_212_24 rfl (by first | decide | exact of_decide_eq_true rfl) ?_
      refine PW.goto q_212_27 rfl ?_
      refine PW.mem2 (M2 := m_t (i + Int32.ofInt 1)) (fun k _ => Or.inr (Or.inl (congrFun (m_t_up i _) k))) ?_
      exact sec_go G Kr a1 h2 hK k (i + Int32.ofInt 1) (by rw [s_inc (by omega) (by omega)]; omega) (by rw [s_inc (by omega) (by omega)]; omega)
set_option maxRecDepth 100000 in
set_option maxHeartbeats 40000000 in
theorem law_seconds (G : pG) (hL : G.2.2.2.2.1 = 6) (a1 a2 a3 a4 a5 : Int32) (e1 : G.2.2.2.2.2 1 = a1) (e2 : G.2.2.2.2.2 2 = a2) (e3 : G.2.2.2.2.2 3 = a3) (e4 : G.2.2.2.2.2 4 = a4) (e5 : G.2.2.2.2.2 5 = a5) : PW G false 22 285 400 9000 law_K 638 law_lv [] 311 f_M 311 8628 := by
  by_cases c : 1 ≤ a1.toInt ∧ a1.toInt ≤ 60
  · obtain ⟨c1, c2⟩ := c
    refine PW.aload_n q_285_638 rfl ?_
    refine PW.aload_n q_285_639 rfl ?_
    refine PW.iload q_285_640 rfl ?_
    refine PW.iconst q_285_642 ?_
    refine PW.iadd q_285_643 ?_
    refine PW.sldE q_285_644 (by rw [hL]; unfold vp_in; decide) e1 ?_
    refine PW.callV (as := [_]) (rest := []) q_285_645 rfl (by decide) rfl (by decide) rfl rfl (Nat.le_of_ble_eq_true rfl) (Nat.le_of_ble_eq_true rfl) (by decide) (by decide) ?_
    refine PW.iload_n q_122_0 rfl ?_
    refine PW.iconst q_122_1 ?_
    refine PW.icmp_lt q_122_2 rfl (fun h0 => ?_) (fun h0 => ?_)
    · skip
      have h0 : a1.toInt < 1 := s_ltI h0
      exact absurd trivial (by omega)
    · skip
      have h0 : a1.toInt ≥ 1 := s_nltI h0
      refine PW.iload_n q_122_5 rfl ?_
      refine PW.bipush q_122_6 ?_
      refine PW.icmp_le q_122_8 rfl (fun h1 => ?_) (fun h1 => ?_)
      · skip
        have h1 : a1.toInt ≤ 60 := s_leI h1
        refine PW.iload_n q_122_13 rfl ?_
        refine PW.sipush q_122_14 ?_
        refine PW.aload_n q_122_17 rfl ?_
        refine PW.getf q_122_18 rfl (by decide) rfl rfl ?_
        refine PW.getN q_122_21 rfl (by decide) rfl rfl ?_
        refine PW.getN q_122_24 rfl (by decide) rfl rfl ?_
        refine PW.isub q_122_27 ?_
        refine PW.mmin q_122_28 rfl (by decide) (Nat.le_of_ble_eq_true rfl) (by decide) (by decide) ?_
        refine PW.topi (y := a1) (s_min (show a1.toInt ≤ 600 by omega)) ?_
        refine PW.istore_n q_122_31 (by decide) ?_
        refine PW.iload_n q_122_32 rfl ?_
        refine PW.if_le q_122_33 rfl (fun h2 => ?_) (fun h2 => ?_)
        · skip
          have h2 : a1.toInt ≤ 0 := s_leI h2
          exact absurd trivial (by omega)
        · skip
          have h2 : a1.toInt > 0 := s_nleI h2
          refine PW.aload_n q_122_36 rfl ?_
          refine PW.getf q_122_37 rfl (by decide) rfl rfl ?_
          refine PW.aload_n q_122_40 rfl ?_
          refine PW.getf q_122_41 rfl (by decide) rfl rfl ?_
          refine PW.getN q_122_44 rfl (by decide) rfl rfl ?_
          refine PW.callV (as := [_]) (rest := []) q_122_47 rfl (by decide) rfl (by decide) rfl rfl (Nat.le_of_ble_eq_true rfl) (Nat.le_of_ble_eq_true rfl) (by decide) (by decide) ?_
          refine PW.exD x_keep_ok ?_
          refine PW.mem2 (M2 := m_k) (d_all x_keep_ok) ?_
          refine PW.aload_n q_122_50 rfl ?_
          refine PW.getf q_122_51 rfl (by decide) rfl rfl ?_
          refine PW.getN q_122_54 rfl (by decide) rfl rfl ?_
          refine PW.aload_n q_122_57 rfl ?_
          refine PW.getf q_122_58 rfl (by decide) rfl rfl ?_
          refine PW.getN q_122_61 rfl (by decide) rfl rfl ?_
          refine PW.iload_n q_122_64 rfl ?_
          refine PW.callV (as := [_, _]) (rest := []) q_122_65 rfl (by decide) rfl (by decide) rfl rfl (Nat.le_of_ble_eq_true rfl) (Nat.le_of_ble_eq_true rfl) (by decide) (by decide) ?_
          refine PW.mem2 (M2 := m_s 0) m_k_s ?_
          refine PW.iconst q_57_0 ?_
          refine PW.istore_n q_57_1 (by decide) ?_
          refine sec_pm G _ a1 c2 (fun i => ?_) a1.toInt.toNat 0 (by decide) (by rw [show (0 : Int32).toInt = 0 from by decide]; omega)
          refine PW.mem2 (M2 := f_lo) (m_s_lo i) ?_
          refine PW.iload_n q_122_68 rfl ?_
          refine PW.iret q_122_69 rfl (by decide) (by decide) ?_
          refine PW.aload_n q_285_648 rfl ?_
          refine PW.aload_n q_285_649 rfl ?_
          refine PW.iload q_285_650 rfl ?_
          refine PW.iconst q_285_652 ?_
          refine PW.iadd q_285_653 ?_
          refine PW.sldE q_285_654 (by rw [hL]; unfold vp_in; decide) e1 ?_
          refine PW.callV (as := [_]) (rest := [_]) q_285_655 rfl (by decide) rfl (by decide) rfl rfl (Nat.le_of_ble_eq_true rfl) (Nat.le_of_ble_eq_true rfl) (by decide) (by decide) ?_
          refine PW.aload_n q_220_0 rfl ?_
          refine PW.iconst q_220_1 ?_
          refine PW.putf q_220_2 rfl (by decide) rfl rfl rfl (by decide) ?_
          refine PW.iload_n q_220_5 rfl ?_
          refine PW.iconst q_220_6 ?_
          refine PW.bipush q_220_7 ?_
          refine PW.callS (as := [_, _, _]) (rest := []) q_220_9 rfl (by decide) rfl (Nat.le_of_ble_eq_true rfl) (Nat.le_of_ble_eq_true rfl) (by decide) (by decide) ?_
          refine PW.iload_n q_167_0 rfl ?_
          refine PW.iload_n q_167_1 rfl ?_
          refine PW.icmp_lt q_167_2 rfl (fun h3 => ?_) (fun h3 => ?_)
          · skip
            have h3 : a1.toInt < 1 := s_ltI h3
            exact absurd trivial (by omega)
          · skip
            have h3 : a1.toInt ≥ 1 := s_nltI h3
            refine PW.iload_n q_167_5 rfl ?_
            refine PW.iload_n q_167_6 rfl ?_
            refine PW.icmp_gt q_167_7 rfl (fun h4 => ?_) (fun h4 => ?_)
            · skip
              have h4 : a1.toInt > 60 := s_gtI h4
              exact absurd trivial (by omega)
            · skip
              have h4 : a1.toInt ≤ 60 := s_ngtI h4
              refine PW.iconst q_167_10 ?_
              refine PW.goto q_167_11 rfl ?_
              refine PW.zret q_167_15 rfl (by decide) (by decide) (by decide) ?_
              refine PW.if_ne q_220_12 rfl (fun _ => ?_) (fun q => absurd q (by decide))
              refine PW.aload_n q_220_17 rfl ?_
              refine PW.getf q_220_18 rfl (by decide) rfl rfl ?_
              refine PW.bipush q_220_21 ?_
              refine PW.iald q_220_23 (by decide) rfl (by unfold vp_in; decide) ?_
              refine PW.sipush q_220_24 ?_
              refine PW.icmp_ne q_220_27 rfl (fun _ => ?_) (fun q => absurd q (by decide))
              refine PW.aload_n q_220_32 rfl ?_
              refine PW.callV (as := []) (rest := []) q_220_33 rfl (by decide) rfl (by decide) rfl rfl (Nat.le_of_ble_eq_true rfl) (Nat.le_of_ble_eq_true rfl) (by decide) (by decide) ?_
              refine PW.mem2 (M2 := f_lo) m_lo1 ?_
              refine PW.exD y_keep_ok ?_
              refine PW.mem2 (M2 := m_j) (d_all2 y_keep_ok m_lo0) ?_
              refine PW.aload_n q_220_36 rfl ?_
              refine PW.iload_n q_220_37 rfl ?_
              refine PW.callV (as := [_]) (rest := []) q_220_38 rfl (by decide) rfl (by decide) rfl rfl (Nat.le_of_ble_eq_true rfl) (Nat.le_of_ble_eq_true rfl) (by decide) (by decide) ?_
              refine PW.mem2 (M2 := m_t 0) m_j_t ?_
              refine PW.iconst q_212_0 ?_
              refine PW.istore_n q_212_1 (by decide) ?_
              refine sec_go G _ a1 c2 (fun i => ?_) a1.toInt.toNat 0 (by decide) (by rw [show (0 : Int32).toInt = 0 from by decide]; omega)
              refine PW.iret q_220_41 rfl (by decide) (by decide) ?_
              refine PW.icmp_eq q_285_658 rfl (fun _ => ?_) (fun q => absurd rfl q)
              exact law_tail G hL _
      · skip
        have h1 : a1.toInt > 60 := s_nleI h1
        exact absurd trivial (by omega)
  · have c1 : a1.toInt ≤ 0 ∨ 61 ≤ a1.toInt := by omega
    refine PW.aload_n q_285_638 rfl ?_
    refine PW.aload_n q_285_639 rfl ?_
    refine PW.iload q_285_640 rfl ?_
    refine PW.iconst q_285_642 ?_
    refine PW.iadd q_285_643 ?_
    refine PW.sldE q_285_644 (by rw [hL]; unfold vp_in; decide) e1 ?_
    refine PW.callV (as := [_]) (rest := []) q_285_645 rfl (by decide) rfl (by decide) rfl rfl (Nat.le_of_ble_eq_true rfl) (Nat.le_of_ble_eq_true rfl) (by decide) (by decide) ?_
    refine PW.iload_n q_122_0 rfl ?_
    refine PW.iconst q_122_1 ?_
    refine PW.icmp_lt q_122_2 rfl (fun h0 => ?_) (fun h0 => ?_)
    · skip
      have h0 : a1.toInt < 1 := s_ltI h0
      refine PW.iconst q_122_11 ?_
      refine PW.iret q_122_12 rfl (by decide) (by decide) ?_
      refine PW.aload_n q_285_648 rfl ?_
      refine PW.aload_n q_285_649 rfl ?_
      refine PW.iload q_285_650 rfl ?_
      refine PW.iconst q_285_652 ?_
      refine PW.iadd q_285_653 ?_
      refine PW.sldE q_285_654 (by rw [hL]; unfold vp_in; decide) e1 ?_
      refine PW.callV (as := [_]) (rest := [_]) q_285_655 rfl (by decide) rfl (by decide) rfl rfl (Nat.le_of_ble_eq_true rfl) (Nat.le_of_ble_eq_true rfl) (by decide) (by decide) ?_
      refine PW.aload_n q_220_0 rfl ?_
      refine PW.iconst q_220_1 ?_
      refine PW.putf q_220_2 rfl (by decide) rfl rfl rfl (by decide) ?_
      refine PW.iload_n q_220_5 rfl ?_
      refine PW.iconst q_220_6 ?_
      refine PW.bipush q_220_7 ?_
      refine PW.callS (as := [_, _, _]) (rest := []) q_220_9 rfl (by decide) rfl (Nat.le_of_ble_eq_true rfl) (Nat.le_of_ble_eq_true rfl) (by decide) (by decide) ?_
      refine PW.iload_n q_167_0 rfl ?_
      refine PW.iload_n q_167_1 rfl ?_
      refine PW.icmp_lt q_167_2 rfl (fun h1 => ?_) (fun h1 => ?_)
      · skip
        have h1 : a1.toInt < 1 := s_ltI h1
        refine PW.iconst q_167_14 ?_
        refine PW.zret q_167_15 rfl (by decide) (by decide) (by decide) ?_
        refine PW.if_ne q_220_12 rfl (fun q => absurd (by decide) q) (fun _ => ?_)
        refine PW.iconst q_220_15 ?_
        refine PW.iret q_220_16 rfl (by decide) (by decide) ?_
        refine PW.icmp_eq q_285_658 rfl (fun _ => ?_) (fun q => absurd (by decide) q)
        exact law_tail G hL _
      · skip
        have h1 : a1.toInt ≥ 1 := s_nltI h1
        exact absurd trivial (by omega)
    · skip
      have h0 : a1.toInt ≥ 1 := s_nltI h0
      refine PW.iload_n q_122_5 rfl ?_
      refine PW.bipush q_122_6 ?_
      refine PW.icmp_le q_122_8 rfl (fun h2 => ?_) (fun h2 => ?_)
      · skip
        have h2 : a1.toInt ≤ 60 := s_leI h2
        exact absurd trivial (by omega)
      · skip
        have h2 : a1.toInt > 60 := s_nleI h2
        refine PW.iconst q_122_11 ?_
        refine PW.iret q_122_12 rfl (by decide) (by decide) ?_
        refine PW.aload_n q_285_648 rfl ?_
        refine PW.aload_n q_285_649 rfl ?_
        refine PW.iload q_285_650 rfl ?_
        refine PW.iconst q_285_652 ?_
        refine PW.iadd q_285_653 ?_
        refine PW.sldE q_285_654 (by rw [hL]; unfold vp_in; decide) e1 ?_
        refine PW.callV (as := [_]) (rest := [_]) q_285_655 rfl (by decide) rfl (by decide) rfl rfl (Nat.le_of_ble_eq_true rfl) (Nat.le_of_ble_eq_true rfl) (by decide) (by decide) ?_
        refine PW.aload_n q_220_0 rfl ?_
        refine PW.iconst q_220_1 ?_
        refine PW.putf q_220_2 rfl (by decide) rfl rfl rfl (by decide) ?_
        refine PW.iload_n q_220_5 rfl ?_
        refine PW.iconst q_220_6 ?_
        refine PW.bipush q_220_7 ?_
        refine PW.callS (as := [_, _, _]) (rest := []) q_220_9 rfl (by decide) rfl (Nat.le_of_ble_eq_true rfl) (Nat.le_of_ble_eq_true rfl) (by decide) (by decide) ?_
        refine PW.iload_n q_167_0 rfl ?_
        refine PW.iload_n q_167_1 rfl ?_
        refine PW.icmp_lt q_167_2 rfl (fun h3 => ?_) (fun h3 => ?_)
        · skip
          have h3 : a1.toInt < 1 := s_ltI h3
          exact absurd trivial (by omega)
        · skip
          have h3 : a1.toInt ≥ 1 := s_nltI h3
          refine PW.iload_n q_167_5 rfl ?_
          refine PW.iload_n q_167_6 rfl ?_
          refine PW.icmp_gt q_167_7 rfl (fun h4 => ?_) (fun h4 => ?_)
          · skip
            have h4 : a1.toInt > 60 := s_gtI h4
            refine PW.iconst q_167_14 ?_
            refine PW.zret q_167_15 rfl (by decide) (by decide) (by decide) ?_
            refine PW.if_ne q_220_12 rfl (fun q => absurd (by decide) q) (fun _ => ?_)
            refine PW.iconst q_220_15 ?_
            refine PW.iret q_220_16 rfl (by decide) (by decide) ?_
            refine PW.icmp_eq q_285_658 rfl (fun _ => ?_) (fun q => absurd (by decide) q)
            exact law_tail G hL _
          · skip
            have h4 : a1.toInt ≤ 60 := s_ngtI h4
            exact absurd trivial (by omega)
