theorem q_237_0 : p_tb 237 0 = some (.iload_n 1, 1) := by decide +kernel
theorem q_237_1 : p_tb 237 1 = some (.lookupswitch 58 #[(1, 27), (2, 42)], 27) := by decide +kernel
theorem q_237_28 : p_tb 237 28 = some (.aload_n 0, 1) := by decide +kernel
theorem q_237_29 : p_tb 237 29 = some (.aload_n 0, 1) := by decide +kernel
theorem q_237_30 : p_tb 237 30 = some (.getfield 33, 3) := by decide +kernel
theorem q_237_33 : p_tb 237 33 = some (.bipush 36, 2) := by decide +kernel
theorem q_237_35 : p_tb 237 35 = some (.iload_n 2, 1) := by decide +kernel
theorem q_237_36 : p_tb 237 36 = some (.iadd, 1) := by decide +kernel
theorem q_237_37 : p_tb 237 37 = some (.iaload, 1) := by decide +kernel
theorem q_237_38 : p_tb 237 38 = some (.iload_n 2, 1) := by decide +kernel
theorem q_237_39 : p_tb 237 39 = some (.invokevirtual 257, 3) := by decide +kernel
theorem q_237_42 : p_tb 237 42 = some (.ireturn, 1) := by decide +kernel
theorem q_237_43 : p_tb 237 43 = some (.aload_n 0, 1) := by decide +kernel
theorem q_237_44 : p_tb 237 44 = some (.getfield 56, 3) := by decide +kernel
theorem q_237_47 : p_tb 237 47 = some (.iconst 0, 1) := by decide +kernel
theorem q_237_48 : p_tb 237 48 = some (.aload_n 0, 1) := by decide +kernel
theorem q_237_49 : p_tb 237 49 = some (.getfield 33, 3) := by decide +kernel
theorem q_237_52 : p_tb 237 52 = some (.iconst 0, 1) := by decide +kernel
theorem q_237_53 : p_tb 237 53 = some (.iaload, 1) := by decide +kernel
theorem q_237_54 : p_tb 237 54 = some (.iload_n 2, 1) := by decide +kernel
theorem q_237_55 : p_tb 237 55 = some (.invokestatic 260, 3) := by decide +kernel
theorem q_237_58 : p_tb 237 58 = some (.ireturn, 1) := by decide +kernel
theorem q_237_59 : p_tb 237 59 = some (.aload_n 0, 1) := by decide +kernel
theorem q_237_60 : p_tb 237 60 = some (.iload_n 2, 1) := by decide +kernel
theorem q_237_61 : p_tb 237 61 = some (.invokevirtual 264, 3) := by decide +kernel
theorem q_237_64 : p_tb 237 64 = some (.ireturn, 1) := by decide +kernel
theorem t_ft_237_33 : p_f2 p_ft (p_mK 237) 33 = some (11, 6) := by decide +kernel
theorem t_ft_237_56 : p_f2 p_ft (p_mK 237) 56 = some (11, 24) := by decide +kernel
theorem t_ms_237_260 : p_f2 p_ms (p_mK 237) 260 = some 205 := by decide +kernel
theorem t_mv_237_257 : p_f2 p_mv (p_mK 237) 257 = some 204 := by decide +kernel
theorem t_mv_237_264 : p_f2 p_mv (p_mK 237) 264 = some 203 := by decide +kernel
theorem q_238_0 : p_tb 238 0 = some (.iconst 0, 1) := by decide +kernel
theorem q_238_1 : p_tb 238 1 = some (.istore_n 2, 1) := by decide +kernel
theorem q_238_2 : p_tb 238 2 = some (.iload_n 2, 1) := by decide +kernel
theorem q_238_3 : p_tb 238 3 = some (.bipush 6, 2) := by decide +kernel
theorem q_238_5 : p_tb 238 5 = some (.if_icmp .ge 29, 3) := by decide +kernel
theorem q_238_8 : p_tb 238 8 = some (.aload_n 0, 1) := by decide +kernel
theorem q_238_9 : p_tb 238 9 = some (.getfield 56, 3) := by decide +kernel
theorem q_238_12 : p_tb 238 12 = some (.iload_n 2, 1) := by decide +kernel
theorem q_238_13 : p_tb 238 13 = some (.aload_n 0, 1) := by decide +kernel
theorem q_238_14 : p_tb 238 14 = some (.getfield 33, 3) := by decide +kernel
theorem q_238_17 : p_tb 238 17 = some (.bipush 88, 2) := by decide +kernel
theorem q_238_19 : p_tb 238 19 = some (.bipush 6, 2) := by decide +kernel
theorem q_238_21 : p_tb 238 21 = some (.iload_n 1, 1) := by decide +kernel
theorem q_238_22 : p_tb 238 22 = some (.imul, 1) := by decide +kernel
theorem q_238_23 : p_tb 238 23 = some (.iadd, 1) := by decide +kernel
theorem q_238_24 : p_tb 238 24 = some (.iload_n 2, 1) := by decide +kernel
theorem q_238_25 : p_tb 238 25 = some (.iadd, 1) := by decide +kernel
theorem q_238_26 : p_tb 238 26 = some (.iaload, 1) := by decide +kernel
theorem q_238_27 : p_tb 238 27 = some (.iastore, 1) := by decide +kernel
theorem q_238_28 : p_tb 238 28 = some (.iinc 2 1, 3) := by decide +kernel
theorem q_238_31 : p_tb 238 31 = some (.goto (-29), 3) := by decide +kernel
theorem q_238_34 : p_tb 238 34 = some (.aload_n 0, 1) := by decide +kernel
theorem q_238_35 : p_tb 238 35 = some (.getfield 33, 3) := by decide +kernel
theorem q_238_38 : p_tb 238 38 = some (.bipush 86, 2) := by decide +kernel
theorem q_238_40 : p_tb 238 40 = some (.iload_n 1, 1) := by decide +kernel
theorem q_238_41 : p_tb 238 41 = some (.iadd, 1) := by decide +kernel
theorem q_238_42 : p_tb 238 42 = some (.iaload, 1) := by decide +kernel
theorem q_238_43 : p_tb 238 43 = some (.istore_n 2, 1) := by decide +kernel
theorem q_238_44 : p_tb 238 44 = some (.sipush 10000, 3) := by decide +kernel
theorem q_238_47 : p_tb 238 47 = some (.istore_n 3, 1) := by decide +kernel
theorem q_238_48 : p_tb 238 48 = some (.iconst 0, 1) := by decide +kernel
theorem q_238_49 : p_tb 238 49 = some (.istore 4, 2) := by decide +kernel
theorem q_238_51 : p_tb 238 51 = some (.iload 4, 2) := by decide +kernel
theorem q_238_53 : p_tb 238 53 = some (.bipush 14, 2) := by decide +kernel
theorem q_238_55 : p_tb 238 55 = some (.if_icmp .ge 34, 3) := by decide +kernel
theorem q_238_58 : p_tb 238 58 = some (.aload_n 0, 1) := by decide +kernel
theorem q_238_59 : p_tb 238 59 = some (.aload_n 0, 1) := by decide +kernel
theorem q_238_60 : p_tb 238 60 = some (.getfield 33, 3) := by decide +kernel
theorem q_238_63 : p_tb 238 63 = some (.bipush 29, 2) := by decide +kernel
theorem q_238_65 : p_tb 238 65 = some (.iload_n 1, 1) := by decide +kernel
theorem q_238_66 : p_tb 238 66 = some (.iadd, 1) := by decide +kernel
theorem q_238_67 : p_tb 238 67 = some (.iaload, 1) := by decide +kernel
theorem q_238_68 : p_tb 238 68 = some (.iload_n 2, 1) := by decide +kernel
theorem q_238_69 : p_tb 238 69 = some (.invokevirtual 328, 3) := by decide +kernel
theorem q_238_72 : p_tb 238 72 = some (.istore_n 2, 1) := by decide +kernel
theorem q_238_73 : p_tb 238 73 = some (.aload_n 0, 1) := by decide +kernel
theorem q_238_74 : p_tb 238 74 = some (.getfield 56, 3) := by decide +kernel
theorem q_238_77 : p_tb 238 77 = some (.iload_n 2, 1) := by decide +kernel
theorem q_238_78 : p_tb 238 78 = some (.iload_n 3, 1) := by decide +kernel
theorem q_238_79 : p_tb 238 79 = some (.iastore, 1) := by decide +kernel
theorem q_238_80 : p_tb 238 80 = some (.iinc 3 1, 3) := by decide +kernel
theorem q_238_83 : p_tb 238 83 = some (.iinc 4 1, 3) := by decide +kernel
theorem q_238_86 : p_tb 238 86 = some (.goto (-35), 3) := by decide +kernel
theorem q_238_89 : p_tb 238 89 = some (.iload_n 2, 1) := by decide +kernel
theorem q_238_90 : p_tb 238 90 = some (.istore 4, 2) := by decide +kernel
theorem q_238_92 : p_tb 238 92 = some (.aload_n 0, 1) := by decide +kernel
theorem q_238_93 : p_tb 238 93 = some (.iconst 0, 1) := by decide +kernel
theorem q_238_94 : p_tb 238 94 = some (.putfield 331, 3) := by decide +kernel
theorem q_238_97 : p_tb 238 97 = some (.aload_n 0, 1) := by decide +kernel
theorem q_238_98 : p_tb 238 98 = some (.iconst 0, 1) := by decide +kernel
theorem q_238_99 : p_tb 238 99 = some (.putfield 334, 3) := by decide +kernel
theorem q_238_102 : p_tb 238 102 = some (.aload_n 0, 1) := by decide +kernel
theorem q_238_103 : p_tb 238 103 = some (.getfield 331, 3) := by decide +kernel
theorem q_238_106 : p_tb 238 106 = some (.ifCond .eq 9, 3) := by decide +kernel
theorem q_238_109 : p_tb 238 109 = some (.iload_n 2, 1) := by decide +kernel
theorem q_238_110 : p_tb 238 110 = some (.iload 4, 2) := by decide +kernel
theorem q_238_112 : p_tb 238 112 = some (.if_icmp .eq 53, 3) := by decide +kernel
theorem q_238_115 : p_tb 238 115 = some (.aload_n 0, 1) := by decide +kernel
theorem q_238_116 : p_tb 238 116 = some (.aload_n 0, 1) := by decide +kernel
theorem q_238_117 : p_tb 238 117 = some (.getfield 33, 3) := by decide +kernel
theorem q_238_120 : p_tb 238 120 = some (.bipush 29, 2) := by decide +kernel
theorem q_238_122 : p_tb 238 122 = some (.iload_n 1, 1) := by decide +kernel
theorem q_238_123 : p_tb 238 123 = some (.iadd, 1) := by decide +kernel
theorem q_238_124 : p_tb 238 124 = some (.iaload, 1) := by decide +kernel
theorem q_238_125 : p_tb 238 125 = some (.iload_n 2, 1) := by decide +kernel
theorem q_238_126 : p_tb 238 126 = some (.invokevirtual 328, 3) := by decide +kernel
theorem q_238_129 : p_tb 238 129 = some (.istore_n 2, 1) := by decide +kernel
theorem q_238_130 : p_tb 238 130 = some (.aload_n 0, 1) := by decide +kernel
theorem q_238_131 : p_tb 238 131 = some (.getfield 56, 3) := by decide +kernel
theorem q_238_134 : p_tb 238 134 = some (.iload_n 2, 1) := by decide +kernel
theorem q_238_135 : p_tb 238 135 = some (.iload_n 3, 1) := by decide +kernel
theorem q_238_136 : p_tb 238 136 = some (.iastore, 1) := by decide +kernel
theorem q_238_137 : p_tb 238 137 = some (.iinc 3 1, 3) := by decide +kernel
theorem q_238_140 : p_tb 238 140 = some (.aload_n 0, 1) := by decide +kernel
theorem q_238_141 : p_tb 238 141 = some (.dup, 1) := by decide +kernel
theorem q_238_142 : p_tb 238 142 = some (.getfield 331, 3) := by decide +kernel
theorem q_238_145 : p_tb 238 145 = some (.iconst 1, 1) := by decide +kernel
theorem q_238_146 : p_tb 238 146 = some (.iadd, 1) := by decide +kernel
theorem q_238_147 : p_tb 238 147 = some (.putfield 331, 3) := by decide +kernel
theorem q_238_150 : p_tb 238 150 = some (.aload_n 0, 1) := by decide +kernel
theorem q_238_151 : p_tb 238 151 = some (.dup, 1) := by decide +kernel
theorem q_238_152 : p_tb 238 152 = some (.getfield 334, 3) := by decide +kernel
theorem q_238_155 : p_tb 238 155 = some (.iconst 1, 1) := by decide +kernel
theorem q_238_156 : p_tb 238 156 = some (.iload_n 2, 1) := by decide +kernel
theorem q_238_157 : p_tb 238 157 = some (.ishl, 1) := by decide +kernel
theorem q_238_158 : p_tb 238 158 = some (.ior, 1) := by decide +kernel
theorem q_238_159 : p_tb 238 159 = some (.putfield 334, 3) := by decide +kernel
theorem q_238_162 : p_tb 238 162 = some (.goto (-60), 3) := by decide +kernel
theorem q_238_165 : p_tb 238 165 = some (.return_, 1) := by decide +kernel
theorem t_ft_238_33 : p_f2 p_ft (p_mK 238) 33 = some (11, 6) := by decide +kernel
theorem t_ft_238_331 : p_f2 p_ft (p_mK 238) 331 = some (11, 25) := by decide +kernel
theorem t_ft_238_334 : p_f2 p_ft (p_mK 238) 334 = some (11, 26) := by decide +kernel
theorem t_ft_238_56 : p_f2 p_ft (p_mK 238) 56 = some (11, 24) := by decide +kernel
theorem t_mv_238_328 : p_f2 p_mv (p_mK 238) 328 = some 237 := by decide +kernel
theorem gC_49_0_5 : gC 49 0 5 (-2147483648) 2147483647 := gC.of (by decide +kernel)
theorem q_239_0 : p_tb 239 0 = some (.aload_n 0, 1) := by decide +kernel
theorem q_239_1 : p_tb 239 1 = some (.iconst 0, 1) := by decide +kernel
theorem q_239_2 : p_tb 239 2 = some (.putfield 1, 3) := by decide +kernel
theorem q_239_5 : p_tb 239 5 = some (.aload_n 0, 1) := by decide +kernel
theorem q_239_6 : p_tb 239 6 = some (.iload_n 1, 1) := by decide +kernel
theorem q_239_7 : p_tb 239 7 = some (.invokevirtual 251, 3) := by decide +kernel
theorem q_239_10 : p_tb 239 10 = some (.ifCond .eq 13, 3) := by decide +kernel
theorem q_239_13 : p_tb 239 13 = some (.aload_n 0, 1) := by decide +kernel
theorem q_239_14 : p_tb 239 14 = some (.getfield 33, 3) := by decide +kernel
theorem q_239_17 : p_tb 239 17 = some (.iconst 0, 1) := by decide +kernel
theorem q_239_18 : p_tb 239 18 = some (.iaload, 1) := by decide +kernel
theorem q_239_19 : p_tb 239 19 = some (.iconst 2, 1) := by decide +kernel
theorem q_239_20 : p_tb 239 20 = some (.if_icmp .ge 5, 3) := by decide +kernel
theorem q_239_23 : p_tb 239 23 = some (.iconst (-1), 1) := by decide +kernel
theorem q_239_24 : p_tb 239 24 = some (.ireturn, 1) := by decide +kernel
theorem q_239_25 : p_tb 239 25 = some (.aload_n 0, 1) := by decide +kernel
theorem q_239_26 : p_tb 239 26 = some (.iload_n 1, 1) := by decide +kernel
theorem q_239_27 : p_tb 239 27 = some (.invokevirtual 337, 3) := by decide +kernel
theorem q_239_30 : p_tb 239 30 = some (.aload_n 0, 1) := by decide +kernel
theorem q_239_31 : p_tb 239 31 = some (.getfield 331, 3) := by decide +kernel
theorem q_239_34 : p_tb 239 34 = some (.ireturn, 1) := by decide +kernel
theorem t_ft_239_1 : p_f2 p_ft (p_mK 239) 1 = some (11, 0) := by decide +kernel
theorem t_ft_239_33 : p_f2 p_ft (p_mK 239) 33 = some (11, 6) := by decide +kernel
theorem t_ft_239_331 : p_f2 p_ft (p_mK 239) 331 = some (11, 25) := by decide +kernel
theorem t_mv_239_251 : p_f2 p_mv (p_mK 239) 251 = some 196 := by decide +kernel
theorem t_mv_239_337 : p_f2 p_mv (p_mK 239) 337 = some 238 := by decide +kernel
theorem q_240_0 : p_tb 240 0 = some (.aload_n 0, 1) := by decide +kernel
theorem q_240_1 : p_tb 240 1 = some (.iconst 0, 1) := by decide +kernel
theorem q_240_2 : p_tb 240 2 = some (.putfield 1, 3) := by decide +kernel
theorem q_240_5 : p_tb 240 5 = some (.aload_n 0, 1) := by decide +kernel
theorem q_240_6 : p_tb 240 6 = some (.iload_n 1, 1) := by decide +kernel
theorem q_240_7 : p_tb 240 7 = some (.invokevirtual 251, 3) := by decide +kernel
theorem q_240_10 : p_tb 240 10 = some (.ifCond .eq 13, 3) := by decide +kernel
theorem q_240_13 : p_tb 240 13 = some (.aload_n 0, 1) := by decide +kernel
theorem q_240_14 : p_tb 240 14 = some (.getfield 33, 3) := by decide +kernel
theorem q_240_17 : p_tb 240 17 = some (.iconst 0, 1) := by decide +kernel
theorem q_240_18 : p_tb 240 18 = some (.iaload, 1) := by decide +kernel
theorem q_240_19 : p_tb 240 19 = some (.iconst 2, 1) := by decide +kernel
theorem q_240_20 : p_tb 240 20 = some (.if_icmp .ge 5, 3) := by decide +kernel
theorem q_240_23 : p_tb 240 23 = some (.iconst (-1), 1) := by decide +kernel
theorem q_240_24 : p_tb 240 24 = some (.ireturn, 1) := by decide +kernel
theorem q_240_25 : p_tb 240 25 = some (.aload_n 0, 1) := by decide +kernel
theorem q_240_26 : p_tb 240 26 = some (.iload_n 1, 1) := by decide +kernel
theorem q_240_27 : p_tb 240 27 = some (.invokevirtual 337, 3) := by decide +kernel
theorem q_240_30 : p_tb 240 30 = some (.aload_n 0, 1) := by decide +kernel
theorem q_240_31 : p_tb 240 31 = some (.getfield 334, 3) := by decide +kernel
theorem q_240_34 : p_tb 240 34 = some (.ireturn, 1) := by decide +kernel
theorem t_ft_240_1 : p_f2 p_ft (p_mK 240) 1 = some (11, 0) := by decide +kernel
theorem t_ft_240_33 : p_f2 p_ft (p_mK 240) 33 = some (11, 6) := by decide +kernel
theorem t_ft_240_334 : p_f2 p_ft (p_mK 240) 334 = some (11, 26) := by decide +kernel
theorem t_mv_240_251 : p_f2 p_mv (p_mK 240) 251 = some 196 := by decide +kernel
theorem t_mv_240_337 : p_f2 p_mv (p_mK 240) 337 = some 238 := by decide +kernel
/-- the distance, as the machine reckons it -/
def goff (a b : Int32) : Int32 := if a.toInt < b.toInt then b - a else a - b
/-- the first of the least but wi, of those below W -/
def gmin (D : Nat → Int) (W wi x : Int) : Prop := 0 ≤ x ∧ x < W ∧ x ≠ wi ∧ ∀ w : Nat, (w : Int) < W → (w : Int) ≠ wi → D x.toNat < D w ∨ (D x.toNat = D w ∧ x ≤ w)
def gmB (D : Nat → Int) (wi b n : Int) : Prop := (b = -1 ∧ ∀ w : Nat, (w : Int) < n → (w : Int) = wi) ∨ gmin D n wi b
theorem gmB.zero {D : Nat → Int} {wi b n : Int} (h : b = -1) (hn : n ≤ 0) : gmB D wi b n := Or.inl ⟨h, fun w hw => absurd hw (by omega)⟩
theorem gmB.skip {D : Nat → Int} {wi b n n' : Int} (h : gmB D wi b n) (hn : n = wi) (hn' : n' = n + 1) : gmB D wi b n' := by
  subst hn'
  rcases h with ⟨h1, h2⟩ | ⟨h1, h2, h3, h4⟩
  · exact Or.inl ⟨h1, fun w hw => by
      by_cases e : (w : Int) = n
      · omega
      · exact h2 w (by omega)⟩
  · exact Or.inr ⟨h1, by omega, h3, fun w hw he => h4 w (by omega) he⟩
theorem gmB.first {D : Nat → Int} {wi b n n' b' : Int} (h : gmB D wi b n) (hb : b < 0) (h0 : 0 ≤ n) (hn : n ≠ wi) (hb' : b' = n) (hn' : n' = n + 1) : gmB D wi b' n' := by
  subst hn'; subst hb'
  rcases h with ⟨h1, h2⟩ | ⟨h1, h2, h3, h4⟩
  · exact Or.inr ⟨h0, by omega, hn, fun w hw he => by
      by_cases e : (w : Int) = b'
      · rw [← e, Int.toNat_natCast]; exact Or.inr ⟨rfl, Int.le_refl _⟩
      · exact absurd (h2 w (by omega)) he⟩
  · omega
theorem gmB.less {D : Nat → Int} {wi b n n' b' : Int} (h : gmB D wi b n) (hb : 0 ≤ b) (h0 : 0 ≤ n) (hn : n ≠ wi) (hl : D n.toNat < D b.toNat) (hb' : b' = n) (hn' : n' = n + 1) : gmB D wi b' n' := by
  subst hn'; subst hb'
  rcases h with ⟨h1, h2⟩ | ⟨h1, h2, h3, h4⟩
  · omega
  · exact Or.inr ⟨h0, by omega, hn, fun w hw he => by
      by_cases e : (w : Int) = b'
      · rw [← e, Int.toNat_natCast]; exact Or.inr ⟨rfl, Int.le_refl _⟩
      · rcases h4 w (by omega) he with q | q
        · exact Or.inl (by omega)
        · exact Or.inl (by omega)⟩
theorem gmB.more {D : Nat → Int} {wi b n n' : Int} (h : gmB D wi b n) (hb : 0 ≤ b) (h0 : 0 ≤ n) (hl : D b.toNat ≤ D n.toNat) (hn' : n' = n + 1) : gmB D wi b n' := by
  subst hn'
  rcases h with ⟨h1, h2⟩ | ⟨h1, h2, h3, h4⟩
  · omega
  · exact Or.inr ⟨h1, by omega, h3, fun w hw he => by
      by_cases e : (w : Int) = n
      · have e2 : w = n.toNat := by omega
        subst e2
        by_cases e3 : D b.toNat < D n.toNat
        · exact Or.inl e3
        · exact Or.inr ⟨by omega, by omega⟩
      · exact h4 w (by omega) he⟩
theorem gmB.fin {D : Nat → Int} {wi b n W : Int} (h : gmB D wi b n) (hn : n = W) (h2 : 2 ≤ W) : gmin D W wi b := by
  subst hn
  rcases h with ⟨h1, h3⟩ | h
  · have a := h3 0 (by omega)
    have b := h3 1 (by omega)
    omega
  · exact h
theorem gmin.uniq {D : Nat → Int} {W wi x y : Int} (h : gmin D W wi x) (k : gmin D W wi y) : x = y := by
  obtain ⟨h1, h2, h3, h4⟩ := h
  obtain ⟨k1, k2, k3, k4⟩ := k
  have a := h4 y.toNat (by omega) (by omega)
  have b := k4 x.toNat (by omega) (by omega)
  omega
def gDn (f : Nat → Int32) (pl : Int32) : Nat → Int := fun w => (goff (f (36 + w)) pl).toInt
/-- a step of the reference's round -/
def gst (f s : Nat → Int32) (law wi x : Int) : Prop := 0 ≤ x ∧ x < (f 0).toInt ∧ (law = 1 → gmin (gDn f (f (36 + wi.toNat))) (f 0).toInt wi x) ∧ (law = 2 → gmin (fun w => (s w).toInt) (f 0).toInt wi x) ∧ (law ≠ 1 → law ≠ 2 → x = (wi + 1) % (f 0).toInt)
theorem gst.det {f s s' : Nat → Int32} {law wi x y : Int} (h : gst f s law wi x) (k : gst f s' law wi y) (hl : law ≠ 2) : x = y := by
  by_cases e : law = 1
  · exact (h.2.2.1 e).uniq (k.2.2.1 e)
  · rw [h.2.2.2.2 e hl, k.2.2.2.2 e hl]
/-- the first steps of a round -/
def gA1 (f s : Nat → Int32) (law wi i tm : Int) : Prop := tm = 10000 + i ∧ (∀ w : Nat, w < 6 → (s w).toInt < tm) ∧
  (1 ≤ i → 0 ≤ wi ∧ wi < (f 0).toInt ∧ (s wi.toNat).toInt = tm - 1 ∧ ∀ w : Nat, (w : Int) < (f 0).toInt → (w : Int) ≠ wi → (s w).toInt < tm - 1) ∧
  ∃ h : Nat → Int, h i.toNat = wi ∧ ∀ k : Nat, (k : Int) < i → ∃ s', gst f s' law (h k) (h (k + 1))
theorem gA1.zero {f s : Nat → Int32} {law wi i tm : Int} (hi : i = 0) (ht : tm = 10000) (hs : ∀ w : Nat, w < 6 → (s w).toInt ≤ 602) : gA1 f s law wi i tm := by
  subst hi; subst ht
  exact ⟨rfl, fun w hw => by have := hs w hw; omega, fun h => absurd h (by decide), fun _ => wi, rfl, fun k hk => absurd hk (by omega)⟩
theorem gA1.step {f s s' : Nat → Int32} {law wi i tm x i' tm' : Int} {t : Int32} (h : gA1 f s law wi i tm) (hi : 0 ≤ i) (hW : (f 0).toInt ≤ 6) (hx : gst f s law wi x) (h1 : s' x.toNat = t) (ht : t.toInt = tm) (h2 : ∀ z, z ≠ x.toNat → s' z = s z) (hi' : i' = i + 1) (htm : tm' = tm + 1) : gA1 f s' law x i' tm' := by
  subst hi'; subst htm
  obtain ⟨e, a, b, g, g0, g1⟩ := h
  have x0 := hx.1
  have x1 := hx.2.1
  refine ⟨by omega, fun w hw => ?_, fun _ => ⟨x0, x1, by rw [h1]; omega, fun w hw he => ?_⟩, fun k => if k ≤ i.toNat then g k else x, ?_, fun k hk => ?_⟩
  · by_cases q : w = x.toNat
    · rw [q, h1]; omega
    · rw [h2 w q]; have := a w hw; omega
  · rw [h2 w (by omega)]; have := a w (by omega); omega
  · exact if_neg (by omega)
  · by_cases q : (k : Int) = i
    · have q2 : k = i.toNat := by omega
      refine ⟨s, ?_⟩
      show gst f s law (if k ≤ i.toNat then g k else x) (if k + 1 ≤ i.toNat then g (k + 1) else x)
      rw [if_pos (by omega), if_neg (by omega), q2, g0]; exact hx
    · show ∃ s', gst f s' law (if k ≤ i.toNat then g k else x) (if k + 1 ≤ i.toNat then g (k + 1) else x)
      rw [if_pos (by omega), if_pos (by omega)]; exact g1 k (by omega)
/-- how many were seen ahead of σ -/
def gcn (s : Nat → Int32) (σ : Int) : Nat → Nat
  | 0 => 0
  | k + 1 => gcn s σ k + (if (s k).toInt < σ then 1 else 0)
theorem gcn.le (s : Nat → Int32) (σ : Int) : ∀ k, gcn s σ k ≤ k
  | 0 => Nat.le_refl 0
  | k + 1 => by
    have := gcn.le s σ k
    show gcn s σ k + _ ≤ k + 1
    split <;> omega
theorem gcn.pos {s : Nat → Int32} {σ : Int} {w : Nat} (h : (s w).toInt < σ) : ∀ k, w < k → 1 ≤ gcn s σ k
  | 0, hk => absurd hk (by omega)
  | k + 1, hk => by
    show 1 ≤ gcn s σ k + (if (s k).toInt < σ then 1 else 0)
    by_cases e : w = k
    · rw [if_pos (by rw [← e]; exact h)]; omega
    · have := gcn.pos h k (by omega); omega
theorem gcn.ex {s : Nat → Int32} {σ : Int} : ∀ k, 1 ≤ gcn s σ k → ∃ w, w < k ∧ (s w).toInt < σ
  | 0, h => absurd h (by show ¬ 1 ≤ 0; omega)
  | k + 1, h => by
    by_cases e : (s k).toInt < σ
    · exact ⟨k, by omega, e⟩
    · have h' : 1 ≤ gcn s σ k + (if (s k).toInt < σ then 1 else 0) := h
      rw [if_neg e] at h'
      obtain ⟨w, h1, h2⟩ := gcn.ex k h'
      exact ⟨w, by omega, h2⟩
theorem gcn.same {s s' : Nat → Int32} {σ : Int} : ∀ k, (∀ w, w < k → s' w = s w) → gcn s' σ k = gcn s σ k
  | 0, _ => rfl
  | k + 1, h => by
    show gcn s' σ k + (if (s' k).toInt < σ then 1 else 0) = gcn s σ k + (if (s k).toInt < σ then 1 else 0)
    rw [gcn.same k (fun w hw => h w (by omega)), h k (by omega)]
theorem gcn.drop {s s' : Nat → Int32} {σ : Int} {x : Nat} (h1 : (s x).toInt < σ) (h2 : σ ≤ (s' x).toInt) (h3 : ∀ w, w ≠ x → s' w = s w) : ∀ k, x < k → gcn s' σ k + 1 = gcn s σ k
  | 0, hk => absurd hk (by omega)
  | k + 1, hk => by
    show gcn s' σ k + (if (s' k).toInt < σ then 1 else 0) + 1 = gcn s σ k + (if (s k).toInt < σ then 1 else 0)
    by_cases e : x = k
    · subst e
      rw [gcn.same x (fun w hw => h3 w (by omega)), if_neg (by omega), if_pos h1]
    · rw [h3 k (fun q => e q.symm)]
      have := gcn.drop h1 h2 h3 k (by omega)
      omega
theorem g_php : ∀ (n : Nat) (g : Nat → Nat), (∀ k, k ≤ n → g k < n) → ∃ a b, a < b ∧ b ≤ n ∧ g a = g b
  | 0, g, h => absurd (h 0 (Nat.le_refl 0)) (by omega)
  | n + 1, g, h => by
    by_cases e : ∃ k, k ≤ n ∧ g k = g (n + 1)
    · obtain ⟨k, hk, hg⟩ := e
      exact ⟨k, n + 1, by omega, Nat.le_refl _, hg⟩
    · have ne : ∀ k, k ≤ n → g k ≠ g (n + 1) := fun k hk hg => e ⟨k, hk, hg⟩
      have hl := h (n + 1) (Nat.le_refl _)
      obtain ⟨a, b, hab, hb, hg⟩ := g_php n (fun k => if g k = n then g (n + 1) else g k) (fun k hk => by
        show (if g k = n then g (n + 1) else g k) < n
        have q1 := h k (by omega)
        have q2 := ne k hk
        split <;> omega)
      have hg' : (if g a = n then g (n + 1) else g a) = (if g b = n then g (n + 1) else g b) := hg
      have na := ne a (by omega)
      have nb := ne b hb
      refine ⟨a, b, hab, by omega, ?_⟩
      split at hg' <;> split at hg' <;> omega
/-- the round itself, of at most n steps more -/
def gB2 (f s : Nat → Int32) (law wi st rm tm : Int) (n : Nat) : Prop := (wi = st ∧ 1 ≤ rm) ∨
  (law ≠ 2 ∧ ∃ (h : Nat → Int) (P : Nat), 1 ≤ P ∧ P ≤ 14 ∧ (∀ k, k < 14 → ∃ s', gst f s' law (h k) (h (k + 1))) ∧ h 14 = st ∧ rm.toNat + n = P ∧ wi = h (14 - P + rm.toNat)) ∨
  (law = 2 ∧ 0 ≤ st ∧ st < (f 0).toInt ∧ 0 ≤ wi ∧ wi < (f 0).toInt ∧ (s wi.toNat).toInt = tm - 1 ∧ (∀ w : Nat, (w : Int) < (f 0).toInt → (s w).toInt < tm) ∧ (∀ w : Nat, (w : Int) < (f 0).toInt → (w : Int) ≠ st → (s w).toInt ≠ (s st.toNat).toInt) ∧ (wi = st → 1 ≤ gcn s (s st.toNat).toInt (f 0).toInt.toNat) ∧ gcn s (s st.toNat).toInt (f 0).toInt.toNat + 1 ≤ n)
theorem gB2.start {f s : Nat → Int32} {law st tm : Int} (h : gA1 f s law st 14 tm) (h2 : 2 ≤ (f 0).toInt) (h6 : (f 0).toInt ≤ 6) : ∃ n, n ≤ 7 ∧ ∀ rm : Int, rm = 0 → gB2 f s law st st rm tm n := by
  obtain ⟨e, a, b, g, g0, g1⟩ := h
  obtain ⟨b1, b2, b3, b4⟩ := b (by decide)
  by_cases hl : law = 2
  · have hle := gcn.le s (s st.toNat).toInt (f 0).toInt.toNat
    have ⟨w, hw1, hw2⟩ : ∃ w : Nat, (w : Int) < (f 0).toInt ∧ (w : Int) ≠ st := by
      by_cases q : st = 0
      · exact ⟨1, by omega, by omega⟩
      · exact ⟨0, by omega, by omega⟩
    have hw3 := b4 w hw1 hw2
    refine ⟨gcn s (s st.toNat).toInt (f 0).toInt.toNat + 1, by omega, fun rm hrm => Or.inr (Or.inr ⟨hl, b1, b2, b1, b2, b3, fun w hw => ?_, fun w hw he => ?_, fun _ => gcn.pos (w := w) (by omega) _ (by omega), Nat.le_refl _⟩)⟩
    · exact a w (by omega)
    · have := b4 w hw he; omega
  · have g1' : ∀ k : Nat, k < 14 → ∃ s', gst f s' law (g k) (g (k + 1)) := fun k hk => g1 k (by omega)
    have rg : ∀ k : Nat, k < 14 → 0 ≤ g (k + 1) ∧ g (k + 1) < 6 := fun k hk => by
      obtain ⟨s', q⟩ := g1' k hk
      exact ⟨q.1, by have := q.2.1; omega⟩
    obtain ⟨u, v, huv, hv, hg⟩ := g_php 6 (fun k => (g (k + 1)).toNat) (fun k hk => by
      have := rg k (by omega)
      show (g (k + 1)).toNat < 6
      omega)
    have hg' : g (u + 1) = g (v + 1) := by
      have q1 := rg u (by omega)
      have q2 := rg v (by omega)
      have q3 : (g (u + 1)).toNat = (g (v + 1)).toNat := hg
      omega
    have fw : ∀ k : Nat, v + 1 + k ≤ 14 → g (u + 1 + k) = g (v + 1 + k) := by
      intro k
      induction k with
      | zero => intro _; exact hg'
      | succ k ih =>
        intro hk
        obtain ⟨s1, q1⟩ := g1' (u + 1 + k) (by omega)
        obtain ⟨s2, q2⟩ := g1' (v + 1 + k) (by omega)
        rw [ih (by omega)] at q1
        exact q1.det q2 hl
    have hP := fw (14 - (v + 1)) (by omega)
    rw [show v + 1 + (14 - (v + 1)) = 14 from by omega] at hP
    have g14 : g 14 = st := g0
    refine ⟨v - u, by omega, fun rm hrm => Or.inr (Or.inl ⟨hl, g, v - u, by omega, by omega, g1', g14, by subst hrm; show 0 + (v - u) = v - u; omega, ?_⟩)⟩
    subst hrm
    rw [← g14, ← hP]
    congr 1
    show u + 1 + (14 - (v + 1)) = 14 - (v - u) + 0
    omega
theorem gB2.step {f s s' : Nat → Int32} {law wi st rm tm x rm' tm' : Int} {n : Nat} {t : Int32} (h : gB2 f s law wi st rm tm n) (hr : 0 ≤ rm) (hne : rm = 0 ∨ wi ≠ st) (h6 : (f 0).toInt ≤ 6) (hx : gst f s law wi x) (h1 : s' x.toNat = t) (ht : t.toInt = tm) (h2 : ∀ z, z ≠ x.toNat → s' z = s z) (hrm : rm' = rm + 1) (htm : tm' = tm + 1) : 1 ≤ n ∧ gB2 f s' law x st rm' tm' (n - 1) := by
  subst hrm; subst htm
  rcases h with ⟨a, b⟩ | ⟨hl, g, P, p1, p2, g1, g14, hP, hw⟩ | ⟨hl, s0, s1, w0, w1, w2, w3, w4, w5, w6⟩
  · omega
  · have hn : 1 ≤ n := by
      by_cases q : n = 0
      · exfalso
        rw [show 14 - P + rm.toNat = 14 from by omega, g14] at hw
        omega
      · omega
    refine ⟨hn, Or.inr (Or.inl ⟨hl, g, P, p1, p2, g1, g14, by omega, ?_⟩)⟩
    obtain ⟨s1, q⟩ := g1 (14 - P + rm.toNat) (by omega)
    rw [← hw] at q
    rw [hx.det q hl]
    congr 1
    omega
  · refine ⟨by omega, ?_⟩
    have x0 := hx.1
    have x1 := hx.2.1
    obtain ⟨-, -, x2, x3⟩ := hx.2.2.2.1 hl
    by_cases hc : 1 ≤ gcn s (s st.toNat).toInt (f 0).toInt.toNat
    · obtain ⟨w, hwl, hws⟩ := gcn.ex _ hc
      have hwi : (w : Int) ≠ wi := fun e => by
        have e2 : wi.toNat = w := by omega
        have q := w3 st.toNat (by omega)
        rw [e2] at w2
        omega
      have hxs : (s x.toNat).toInt < (s st.toNat).toInt := by
        rcases x3 w (by omega) hwi with q | q
        · have q' : (s x.toNat).toInt < (s w).toInt := q
          omega
        · have q' : (s x.toNat).toInt = (s w).toInt := q.1
          omega
      have xst : x ≠ st := fun e => by rw [e] at hxs; omega
      have est : s' st.toNat = s st.toNat := h2 _ (by omega)
      have hst := w3 st.toNat (by omega)
      have hd := gcn.drop (s := s) (s' := s') (σ := (s st.toNat).toInt) (x := x.toNat) hxs (by rw [h1]; omega) h2 (f 0).toInt.toNat (by omega)
      refine Or.inr (Or.inr ⟨hl, s0, s1, x0, x1, by rw [h1]; omega, fun w hw => ?_, fun w hw he => ?_, fun e => absurd e xst, ?_⟩)
      · by_cases q : w = x.toNat
        · rw [q, h1]; omega
        · rw [h2 w q]; have := w3 w hw; omega
      · rw [est]
        by_cases q : w = x.toNat
        · rw [q, h1]; omega
        · rw [h2 w q]; exact w4 w hw he
      · rw [est]; omega
    · have hwst : wi ≠ st := fun e => hc (w5 e)
      have hge : ∀ w : Nat, (w : Int) < (f 0).toInt → (s st.toNat).toInt ≤ (s w).toInt := fun w hw => by
        by_cases q : (s w).toInt < (s st.toNat).toInt
        · exact absurd (gcn.pos q _ (by omega)) hc
        · omega
      have hx1 := hge x.toNat (by omega)
      have hx2 : (s x.toNat).toInt ≤ (s st.toNat).toInt := by
        rcases x3 st.toNat (by omega) (by omega) with q | q
        · have q' : (s x.toNat).toInt < (s st.toNat).toInt := q
          omega
        · have q' : (s x.toNat).toInt = (s st.toNat).toInt := q.1
          omega
      have hxst : x = st := by
        by_cases q : x = st
        · exact q
        · exact absurd (show (s x.toNat).toInt = (s st.toNat).toInt by omega) (w4 x.toNat (by omega) (by omega))
      exact Or.inl ⟨hxst, by omega⟩
/-- what the rounds begin with -/
def gsb (M : pM) (i : Int) : Prop := ∀ z : Nat, (z : Int) < i → (o_a (M 303) z).toInt ≤ 602
theorem gsb.zero {M : pM} {i : Int} (h : i ≤ 0) : gsb M i := fun z hz => absurd hz (by omega)
theorem gsb.step {M M1 : pM} {q : Nat} {i i' : Int} {x : Int32} (h : gsb M i) (U : gVv M M1 303 q) (hv : o_a (M1 303) q = x) (hx : x.toInt ≤ 602) (hq : q = i.toNat) (hi : 0 ≤ i) (hi' : i' = i + 1) : gsb M1 i' := fun z hz => by
  by_cases e : z = q
  · rw [e, hv]; exact hx
  · rw [U.2 z e]; exact h z (by omega)
theorem g_wk6 {M : pM} (I : InvB M) : 0 ≤ (o_a (M 296) 0).toInt ∧ (o_a (M 296) 0).toInt ≤ 6 := (InvB.arr I kd_296 (by decide) gA_42).2.2 0 (by decide)
theorem c_X12_nearestTo_v (V : pM → Prop) (hV : Stab V) (G : pG) (Kr : pK) (M : pM) (I : Iv V M) (a1 : Int32) (a2 : Int32) (hp_0 : 2 ≤ (o_a (M 296) 0).toInt) (hK : ∀ (x : Int32) (M1 : pM), Iv V M1 → Fr [] M M1 → 0 ≤ x.toInt → x.toInt ≤ 5 → (gmin (gDn (o_a (M 296)) a1) (o_a (M 296) 0).toInt a2.toInt x.toInt) → ((gLq M1 M) ∧ gHq M1 M) → Kr.1 (some (.int x)) 311 M1) : PW G false 1 204 (p_mc 204) (p_msl 204) Kr 0 (lv_args 0 [.ref 294, .int a1, .int a2]) [] 311 M 0 0 := by
  have F : Fr [] M M := Fr.refl
  refine PW.cI q_204_0 (by decide) fun c1 hc1 => ?_
  refine PW.istore_n q_204_1 (by decide) ?_
  refine PW.cI q_204_2 (by decide) fun c2 hc2 => ?_
  refine PW.istore q_204_3 (by decide) ?_
  have L204_5_3 : ∀ (n : Nat) (ML204_5_3 : pM) (v4 v5 : Int32), Iv (V) ML204_5_3 → Fr [] M ML204_5_3 → -1 ≤ v4.toInt → v4.toInt ≤ 5 → 0 ≤ v5.toInt → v5.toInt ≤ 6 → gmB (gDn (o_a (M 296)) a1) a2.toInt v4.toInt v5.toInt → v5.toInt ≤ (o_a (M 296) 0).toInt → (gLq ML204_5_3 M ∧ gHq ML204_5_3 M) → (6 - v5.toInt).toNat = n → PW G false 1 204 (p_mc 204) (p_msl 204) Kr 5 [(0, .ref 294), (1, .int a1), (2, .int a2), (3, .int v4), (4, .int v5)] [] 311 ML204_5_3 0 0 := by
    intro n
    induction n using Nat.strongRecOn with
    | ind n ih_L204_5_3 =>
    intro ML204_5_3 v4 v5 IML204_5_3 FML204_5_3 hbL204_5_30 hbL204_5_31 hbL204_5_32 hbL204_5_33 hbL204_5_34 hbL204_5_35 hbL204_5_36 hmL204_5_3
    refine PW.iload q_204_5 rfl ?_
    refine PW.aload_n q_204_7 rfl ?_
    refine PW.gR 296 q_204_8 (Or.inl t_ft_204_33) gF_40_6 kd_294 IML204_5_3.1 (by decide) rfl ?_
    refine PW.cI q_204_11 (by decide) fun c6 hc6 => ?_
    refine PW.aI q_204_12 gA_42 kd_296 IML204_5_3.1 (by decide) gB_42_0_0 (by decide) (by omega) (by omega) fun x7 fx7 hx7 kx7 => ?_
    have tw8 : (o_a (M 296) 0).toInt = x7.toInt := by rw [← Fr.at FML204_5_3 kd_296 rfl, show (0 : Nat) = c6.toInt.toNat from by omega, fx7]
    refine PW.jc_ge q_204_13 rfl (fun h9 => ?_) (fun h9 => ?_)
    · skip
      refine PW.iload_n q_204_65 rfl ?_
      refine PW.rI q_204_66 rfl (by decide) (by decide) ?_
      have q := gmB.fin hbL204_5_34 (by omega) hp_0
      have q6 := g_wk6 I.1
      exact hK v4 ML204_5_3 IML204_5_3 FML204_5_3 (by have := q.1; omega) (by have := q.2.1; omega) q ⟨hbL204_5_36.1, hbL204_5_36.2⟩
    · skip
      refine PW.iload q_204_16 rfl ?_
      refine PW.iload_n q_204_18 rfl ?_
      refine PW.jc_eq q_204_19 rfl (fun h10 => ?_) (fun h10 => ?_)
      · skip
        refine PW.incN q_204_59 rfl (by decide) (by decide) (by omega) (by omega) fun x11 hx11 => ?_
        refine PW.goto q_204_62 rfl ?_
        refine PW.lvS (lk1 rfl (lk1 rfl (lk1 rfl (lk1 rfl (lk1 rfl lk0))))) (ih_L204_5_3 _ ?_ ML204_5_3 v4 x11 IML204_5_3 FML204_5_3 (by omega) (by omega) (by omega) (by omega) (gmB.skip hbL204_5_34 (by omega) (by omega)) (by omega) ⟨hbL204_5_36.1, hbL204_5_36.2⟩ rfl)
        omega
      · skip
        refine PW.iload_n q_204_22 rfl ?_
        refine PW.jz_lt q_204_23 rfl (fun h12 => ?_) (fun h12 => ?_)
        · skip
          refine PW.iload q_204_56 rfl ?_
          refine PW.istore_n q_204_58 (by decide) ?_
          refine PW.incN q_204_59 rfl (by decide) (by decide) (by omega) (by omega) fun x13 hx13 => ?_
          refine PW.goto q_204_62 rfl ?_
          refine PW.lvS (lk1 rfl (lk1 rfl (lk1 rfl (lk1 rfl (lk1 rfl lk0))))) (ih_L204_5_3 _ ?_ ML204_5_3 v5 x13 IML204_5_3 FML204_5_3 (by omega) (by omega) (by omega) (by omega) (gmB.first hbL204_5_34 (by omega) (by omega) (by omega) (by omega) (by omega)) (by omega) ⟨hbL204_5_36.1, hbL204_5_36.2⟩ rfl)
          omega
        · skip
          refine PW.aload_n q_204_26 rfl ?_
          refine PW.gR 296 q_204_27 (Or.inl t_ft_204_33) gF_40_6 kd_294 IML204_5_3.1 (by decide) rfl ?_
          refine PW.cB q_204_30 (by decide) fun c14 hc14 => ?_
          refine PW.iload q_204_32 rfl ?_
          refine PW.addN q_204_34 (by omega) (by omega) fun x15 hx15 => ?_
          refine PW.aH q_204_35 gA_42 kd_296 IML204_5_3.1 (by decide) (by omega) (by omega) fun x16 fx16 => ?_
          refine PW.iload_n q_204_36 rfl ?_
          refine PW.callS (as := [_, _]) (rest := []) q_204_37 t_ms_204_244 (by decide) rfl (Nat.le_of_ble_eq_true rfl) (Nat.le_of_ble_eq_true rfl) (by decide) (by decide) ?_
          refine PW.iload_n q_170_0 rfl ?_
          refine PW.iload_n q_170_1 rfl ?_
          refine PW.jc_ge q_170_2 rfl (fun h17 => ?_) (fun h17 => ?_)
          · skip
            refine PW.iload_n q_170_11 rfl ?_
            refine PW.iload_n q_170_12 rfl ?_
            refine PW.subE q_170_13 fun x18 ex18 => ?_
            refine PW.rI q_170_14 rfl (by decide) (by decide) ?_
            refine PW.aload_n q_204_40 rfl ?_
            refine PW.gR 296 q_204_41 (Or.inl t_ft_204_33) gF_40_6 kd_294 IML204_5_3.1 (by decide) rfl ?_
            refine PW.cB q_204_44 (by decide) fun c19 hc19 => ?_
            refine PW.iload_n q_204_46 rfl ?_
            refine PW.addN q_204_47 (by omega) (by omega) fun x20 hx20 => ?_
            refine PW.aH q_204_48 gA_42 kd_296 IML204_5_3.1 (by decide) (by omega) (by omega) fun x21 fx21 => ?_
            refine PW.iload_n q_204_49 rfl ?_
            refine PW.callS (as := [_, _]) (rest := [_]) q_204_50 t_ms_204_244 (by decide) rfl (Nat.le_of_ble_eq_true rfl) (Nat.le_of_ble_eq_true rfl) (by decide) (by decide) ?_
            refine PW.iload_n q_170_0 rfl ?_
            refine PW.iload_n q_170_1 rfl ?_
            refine PW.jc_ge q_170_2 rfl (fun h22 => ?_) (fun h22 => ?_)
            · skip
              refine PW.iload_n q_170_11 rfl ?_
              refine PW.iload_n q_170_12 rfl ?_
              refine PW.subE q_170_13 fun x23 ex23 => ?_
              refine PW.rI q_170_14 rfl (by decide) (by decide) ?_
              have dd1 : gDn (o_a (M 296)) a1 v5.toInt.toNat = x18.toInt := by show (goff (o_a (M 296) (36 + v5.toInt.toNat)) a1).toInt = _; rw [← Fr.at FML204_5_3 kd_296 rfl, show 36 + v5.toInt.toNat = x15.toInt.toNat from by omega, fx16]; congr 1; unfold goff; first | (rw [if_pos (by omega)]; exact ex18.symm) | (rw [if_neg (by omega)]; exact ex18.symm)
              have dd2 : gDn (o_a (M 296)) a1 v4.toInt.toNat = x23.toInt := by show (goff (o_a (M 296) (36 + v4.toInt.toNat)) a1).toInt = _; rw [← Fr.at FML204_5_3 kd_296 rfl, show 36 + v4.toInt.toNat = x20.toInt.toNat from by omega, fx21]; congr 1; unfold goff; first | (rw [if_pos (by omega)]; exact ex23.symm) | (rw [if_neg (by omega)]; exact ex23.symm)
              refine PW.jc_ge q_204_53 rfl (fun h24 => ?_) (fun h24 => ?_)
              · skip
                refine PW.incN q_204_59 rfl (by decide) (by decide) (by omega) (by omega) fun x25 hx25 => ?_
                refine PW.goto q_204_62 rfl ?_
                refine PW.lvS (lk1 rfl (lk1 rfl (lk1 rfl (lk1 rfl (lk1 rfl lk0))))) (ih_L204_5_3 _ ?_ ML204_5_3 v4 x25 IML204_5_3 FML204_5_3 (by omega) (by omega) (by omega) (by omega) (gmB.more hbL204_5_34 (by omega) (by omega) (by rw [dd1, dd2]; omega) (by omega)) (by omega) ⟨hbL204_5_36.1, hbL204_5_36.2⟩ rfl)
                omega
              · skip
                refine PW.iload q_204_56 rfl ?_
                refine PW.istore_n q_204_58 (by decide) ?_
                refine PW.incN q_204_59 rfl (by decide) (by decide) (by omega) (by omega) fun x26 hx26 => ?_
                refine PW.goto q_204_62 rfl ?_
                refine PW.lvS (lk1 rfl (lk1 rfl (lk1 rfl (lk1 rfl (lk1 rfl lk0))))) (ih_L204_5_3 _ ?_ ML204_5_3 v5 x26 IML204_5_3 FML204_5_3 (by omega) (by omega) (by omega) (by omega) (gmB.less hbL204_5_34 (by omega) (by omega) (by omega) (by rw [dd1, dd2]; omega) (by omega) (by omega)) (by omega) ⟨hbL204_5_36.1, hbL204_5_36.2⟩ rfl)
                omega
            · skip
              refine PW.iload_n q_170_5 rfl ?_
              refine PW.iload_n q_170_6 rfl ?_
              refine PW.subE q_170_7 fun x27 ex27 => ?_
              refine PW.goto q_170_8 rfl ?_
              refine PW.rI q_170_14 rfl (by decide) (by decide) ?_
              have dd1 : gDn (o_a (M 296)) a1 v5.toInt.toNat = x18.toInt := by show (goff (o_a (M 296) (36 + v5.toInt.toNat)) a1).toInt = _; rw [← Fr.at FML204_5_3 kd_296 rfl, show 36 + v5.toInt.toNat = x15.toInt.toNat from by omega, fx16]; congr 1; unfold goff; first | (rw [if_pos (by omega)]; exact ex18.symm) | (rw [if_neg (by omega)]; exact ex18.symm)
              have dd2 : gDn (o_a (M 296)) a1 v4.toInt.toNat = x27.toInt := by show (goff (o_a (M 296) (36 + v4.toInt.toNat)) a1).toInt = _; rw [← Fr.at FML204_5_3 kd_296 rfl, show 36 + v4.toInt.toNat = x20.toInt.toNat from by omega, fx21]; congr 1; unfold goff; first | (rw [if_pos (by omega)]; exact ex27.symm) | (rw [if_neg (by omega)]; exact ex27.symm)
              refine PW.jc_ge q_204_53 rfl (fun h28 => ?_) (fun h28 => ?_)
              · skip
                refine PW.incN q_204_59 rfl (by decide) (by decide) (by omega) (by omega) fun x29 hx29 => ?_
                refine PW.goto q_204_62 rfl ?_
                refine PW.lvS (lk1 rfl (lk1 rfl (lk1 rfl (lk1 rfl (lk1 rfl lk0))))) (ih_L204_5_3 _ ?_ ML204_5_3 v4 x29 IML204_5_3 FML204_5_3 (by omega) (by omega) (by omega) (by omega) (gmB.more hbL204_5_34 (by omega) (by omega) (by rw [dd1, dd2]; omega) (by omega)) (by omega) ⟨hbL204_5_36.1, hbL204_5_36.2⟩ rfl)
                omega
              · skip
                refine PW.iload q_204_56 rfl ?_
                refine PW.istore_n q_204_58 (by decide) ?_
                refine PW.incN q_204_59 rfl (by decide) (by decide) (by omega) (by omega) fun x30 hx30 => ?_
                refine PW.goto q_204_62 rfl ?_
                refine PW.lvS (lk1 rfl (lk1 rfl (lk1 rfl (lk1 rfl (lk1 rfl lk0))))) (ih_L204_5_3 _ ?_ ML204_5_3 v5 x30 IML204_5_3 FML204_5_3 (by omega) (by omega) (by omega) (by omega) (gmB.less hbL204_5_34 (by omega) (by omega) (by omega) (by rw [dd1, dd2]; omega) (by omega) (by omega)) (by omega) ⟨hbL204_5_36.1, hbL204_5_36.2⟩ rfl)
                omega
          · skip
            refine PW.iload_n q_170_5 rfl ?_
            refine PW.iload_n q_170_6 rfl ?_
            refine PW.subE q_170_7 fun x31 ex31 => ?_
            refine PW.goto q_170_8 rfl ?_
            refine PW.rI q_170_14 rfl (by decide) (by decide) ?_
            refine PW.aload_n q_204_40 rfl ?_
            refine PW.gR 296 q_204_41 (Or.inl t_ft_204_33) gF_40_6 kd_294 IML204_5_3.1 (by decide) rfl ?_
            refine PW.cB q_204_44 (by decide) fun c32 hc32 => ?_
            refine PW.iload_n q_204_46 rfl ?_
            refine PW.addN q_204_47 (by omega) (by omega) fun x33 hx33 => ?_
            refine PW.aH q_204_48 gA_42 kd_296 IML204_5_3.1 (by decide) (by omega) (by omega) fun x34 fx34 => ?_
            refine PW.iload_n q_204_49 rfl ?_
            refine PW.callS (as := [_, _]) (rest := [_]) q_204_50 t_ms_204_244 (by decide) rfl (Nat.le_of_ble_eq_true rfl) (Nat.le_of_ble_eq_true rfl) (by decide) (by decide) ?_
            refine PW.iload_n q_170_0 rfl ?_
            refine PW.iload_n q_170_1 rfl ?_
            refine PW.jc_ge q_170_2 rfl (fun h35 => ?_) (fun h35 => ?_)
            · skip
              refine PW.iload_n q_170_11 rfl ?_
              refine PW.iload_n q_170_12 rfl ?_
              refine PW.subE q_170_13 fun x36 ex36 => ?_
              refine PW.rI q_170_14 rfl (by decide) (by decide) ?_
              have dd1 : gDn (o_a (M 296)) a1 v5.toInt.toNat = x31.toInt := by show (goff (o_a (M 296) (36 + v5.toInt.toNat)) a1).toInt = _; rw [← Fr.at FML204_5_3 kd_296 rfl, show 36 + v5.toInt.toNat = x15.toInt.toNat from by omega, fx16]; congr 1; unfold goff; first | (rw [if_pos (by omega)]; exact ex31.symm) | (rw [if_neg (by omega)]; exact ex31.symm)
              have dd2 : gDn (o_a (M 296)) a1 v4.toInt.toNat = x36.toInt := by show (goff (o_a (M 296) (36 + v4.toInt.toNat)) a1).toInt = _; rw [← Fr.at FML204_5_3 kd_296 rfl, show 36 + v4.toInt.toNat = x33.toInt.toNat from by omega, fx34]; congr 1; unfold goff; first | (rw [if_pos (by omega)]; exact ex36.symm) | (rw [if_neg (by omega)]; exact ex36.symm)
              refine PW.jc_ge q_204_53 rfl (fun h37 => ?_) (fun h37 => ?_)
              · skip
                refine PW.incN q_204_59 rfl (by decide) (by decide) (by omega) (by omega) fun x38 hx38 => ?_
                refine PW.goto q_204_62 rfl ?_
                refine PW.lvS (lk1 rfl (lk1 rfl (lk1 rfl (lk1 rfl (lk1 rfl lk0))))) (ih_L204_5_3 _ ?_ ML204_5_3 v4 x38 IML204_5_3 FML204_5_3 (by omega) (by omega) (by omega) (by omega) (gmB.more hbL204_5_34 (by omega) (by omega) (by rw [dd1, dd2]; omega) (by omega)) (by omega) ⟨hbL204_5_36.1, hbL204_5_36.2⟩ rfl)
                omega
              · skip
                refine PW.iload q_204_56 rfl ?_
                refine PW.istore_n q_204_58 (by decide) ?_
                refine PW.incN q_204_59 rfl (by decide) (by decide) (by omega) (by omega) fun x39 hx39 => ?_
                refine PW.goto q_204_62 rfl ?_
                refine PW.lvS (lk1 rfl (lk1 rfl (lk1 rfl (lk1 rfl (lk1 rfl lk0))))) (ih_L204_5_3 _ ?_ ML204_5_3 v5 x39 IML204_5_3 FML204_5_3 (by omega) (by omega) (by omega) (by omega) (gmB.less hbL204_5_34 (by omega) (by omega) (by omega) (by rw [dd1, dd2]; omega) (by omega) (by omega)) (by omega) ⟨hbL204_5_36.1, hbL204_5_36.2⟩ rfl)
                omega
            · skip
              refine PW.iload_n q_170_5 rfl ?_
              refine PW.iload_n q_170_6 rfl ?_
              refine PW.subE q_170_7 fun x40 ex40 => ?_
              refine PW.goto q_170_8 rfl ?_
              refine PW.rI q_170_14 rfl (by decide) (by decide) ?_
              have dd1 : gDn (o_a (M 296)) a1 v5.toInt.toNat = x31.toInt := by show (goff (o_a (M 296) (36 + v5.toInt.toNat)) a1).toInt = _; rw [← Fr.at FML204_5_3 kd_296 rfl, show 36 + v5.toInt.toNat = x15.toInt.toNat from by omega, fx16]; congr 1; unfold goff; first | (rw [if_pos (by omega)]; exact ex31.symm) | (rw [if_neg (by omega)]; exact ex31.symm)
              have dd2 : gDn (o_a (M 296)) a1 v4.toInt.toNat = x40.toInt := by show (goff (o_a (M 296) (36 + v4.toInt.toNat)) a1).toInt = _; rw [← Fr.at FML204_5_3 kd_296 rfl, show 36 + v4.toInt.toNat = x33.toInt.toNat from by omega, fx34]; congr 1; unfold goff; first | (rw [if_pos (by omega)]; exact ex40.symm) | (rw [if_neg (by omega)]; exact ex40.symm)
              refine PW.jc_ge q_204_53 rfl (fun h41 => ?_) (fun h41 => ?_)
              · skip
                refine PW.incN q_204_59 rfl (by decide) (by decide) (by omega) (by omega) fun x42 hx42 => ?_
                refine PW.goto q_204_62 rfl ?_
                refine PW.lvS (lk1 rfl (lk1 rfl (lk1 rfl (lk1 rfl (lk1 rfl lk0))))) (ih_L204_5_3 _ ?_ ML204_5_3 v4 x42 IML204_5_3 FML204_5_3 (by omega) (by omega) (by omega) (by omega) (gmB.more hbL204_5_34 (by omega) (by omega) (by rw [dd1, dd2]; omega) (by omega)) (by omega) ⟨hbL204_5_36.1, hbL204_5_36.2⟩ rfl)
                omega
              · skip
                refine PW.iload q_204_56 rfl ?_
                refine PW.istore_n q_204_58 (by decide) ?_
                refine PW.incN q_204_59 rfl (by decide) (by decide) (by omega) (by omega) fun x43 hx43 => ?_
                refine PW.goto q_204_62 rfl ?_
                refine PW.lvS (lk1 rfl (lk1 rfl (lk1 rfl (lk1 rfl (lk1 rfl lk0))))) (ih_L204_5_3 _ ?_ ML204_5_3 v5 x43 IML204_5_3 FML204_5_3 (by omega) (by omega) (by omega) (by omega) (gmB.less hbL204_5_34 (by omega) (by omega) (by omega) (by rw [dd1, dd2]; omega) (by omega) (by omega)) (by omega) ⟨hbL204_5_36.1, hbL204_5_36.2⟩ rfl)
                omega
  exact PW.lvS (lk1 rfl (lk1 rfl (lk1 rfl (lk1 rfl (lk1 rfl lk0))))) (L204_5_3 _ M c1 c2 I F (by omega) (by omega) (by omega) (by omega) (gmB.zero (by omega) (by omega)) (by omega) ⟨rfl, gHq.refl⟩ rfl)
theorem c_X12_longestAgo_v (V : pM → Prop) (hV : Stab V) (G : pG) (Kr : pK) (M : pM) (I : Iv V M) (a1 : Int32) (a2 : Int32) (a3 : Int32) (hl_a1 : 0 ≤ a1.toInt) (hh_a1 : a1.toInt ≤ 0) (hl_a2 : 2 ≤ a2.toInt) (hh_a2 : a2.toInt ≤ 6) (hK : ∀ (x : Int32) (M1 : pM), Iv V M1 → Fr [] M M1 → 0 ≤ x.toInt → x.toInt ≤ 5 → (gmin (fun w => (o_a (M 303) w).toInt) a2.toInt a3.toInt x.toInt) → Kr.1 (some (.int x)) 311 M1) : PW G false 0 205 (p_mc 205) (p_msl 205) Kr 0 (lv_args 0 [.ref 303, .int a1, .int a2, .int a3]) [] 311 M 0 0 := by
  have F : Fr [] M M := Fr.refl
  refine PW.cI q_205_0 (by decide) fun c1 hc1 => ?_
  refine PW.istore q_205_1 (by decide) ?_
  refine PW.cI q_205_3 (by decide) fun c2 hc2 => ?_
  refine PW.istore q_205_4 (by decide) ?_
  have L205_6_3 : ∀ (n : Nat) (ML205_6_3 : pM) (v4 v5 : Int32), Iv (V) ML205_6_3 → Fr [] M ML205_6_3 → -1 ≤ v4.toInt → v4.toInt ≤ 5 → 0 ≤ v5.toInt → v5.toInt ≤ 6 → gmB (fun w => (o_a (M 303) w).toInt) a3.toInt v4.toInt v5.toInt → v5.toInt ≤ a2.toInt → (6 - v5.toInt).toNat = n → PW G false 0 205 (p_mc 205) (p_msl 205) Kr 6 [(0, .ref 303), (1, .int a1), (2, .int a2), (3, .int a3), (4, .int v4), (5, .int v5)] [] 311 ML205_6_3 0 0 := by
    intro n
    induction n using Nat.strongRecOn with
    | ind n ih_L205_6_3 =>
    intro ML205_6_3 v4 v5 IML205_6_3 FML205_6_3 hbL205_6_30 hbL205_6_31 hbL205_6_32 hbL205_6_33 hbL205_6_34 hbL205_6_35 hmL205_6_3
    refine PW.iload q_205_6 rfl ?_
    refine PW.iload_n q_205_8 rfl ?_
    refine PW.jc_ge q_205_9 rfl (fun h6 => ?_) (fun h6 => ?_)
    · skip
      refine PW.iload q_205_48 rfl ?_
      refine PW.rI q_205_50 rfl (by decide) (by decide) ?_
      have q := gmB.fin hbL205_6_34 (W := a2.toInt) (by omega) (by omega)
      exact hK v4 ML205_6_3 IML205_6_3 FML205_6_3 (by have := q.1; omega) (by have := q.2.1; omega) q
    · skip
      refine PW.iload q_205_12 rfl ?_
      refine PW.iload_n q_205_14 rfl ?_
      refine PW.jc_eq q_205_15 rfl (fun h7 => ?_) (fun h7 => ?_)
      · skip
        refine PW.incN q_205_42 rfl (by decide) (by decide) (by omega) (by omega) fun x8 hx8 => ?_
        refine PW.goto q_205_45 rfl ?_
        refine PW.lvS (lk1 rfl (lk1 rfl (lk1 rfl (lk1 rfl (lk1 rfl (lk1 rfl lk0)))))) (ih_L205_6_3 _ ?_ ML205_6_3 v4 x8 IML205_6_3 FML205_6_3 (by omega) (by omega) (by omega) (by omega) (gmB.skip hbL205_6_34 (by omega) (by omega)) (by omega) rfl)
        omega
      · skip
        refine PW.iload q_205_18 rfl ?_
        refine PW.jz_lt q_205_20 rfl (fun h9 => ?_) (fun h9 => ?_)
        · skip
          refine PW.iload q_205_38 rfl ?_
          refine PW.istore q_205_40 (by decide) ?_
          refine PW.incN q_205_42 rfl (by decide) (by decide) (by omega) (by omega) fun x10 hx10 => ?_
          refine PW.goto q_205_45 rfl ?_
          refine PW.lvS (lk1 rfl (lk1 rfl (lk1 rfl (lk1 rfl (lk1 rfl (lk1 rfl lk0)))))) (ih_L205_6_3 _ ?_ ML205_6_3 v5 x10 IML205_6_3 FML205_6_3 (by omega) (by omega) (by omega) (by omega) (gmB.first hbL205_6_34 (by omega) (by omega) (by omega) (by omega) (by omega)) (by omega) rfl)
          omega
        · skip
          refine PW.aload_n q_205_23 rfl ?_
          refine PW.iload_n q_205_24 rfl ?_
          refine PW.iload q_205_25 rfl ?_
          refine PW.addN q_205_27 (by omega) (by omega) fun x11 hx11 => ?_
          refine PW.aH q_205_28 gA_49 kd_303 IML205_6_3.1 (by decide) (by omega) (by omega) fun x12 fx12 => ?_
          refine PW.aload_n q_205_29 rfl ?_
          refine PW.iload_n q_205_30 rfl ?_
          refine PW.iload q_205_31 rfl ?_
          refine PW.addN q_205_33 (by omega) (by omega) fun x13 hx13 => ?_
          refine PW.aH q_205_34 gA_49 kd_303 IML205_6_3.1 (by decide) (by omega) (by omega) fun x14 fx14 => ?_
          have dd1 : (o_a (M 303) v5.toInt.toNat).toInt = x12.toInt := by rw [← Fr.at FML205_6_3 kd_303 rfl, show v5.toInt.toNat = x11.toInt.toNat from by omega, fx12]
          have dd2 : (o_a (M 303) v4.toInt.toNat).toInt = x14.toInt := by rw [← Fr.at FML205_6_3 kd_303 rfl, show v4.toInt.toNat = x13.toInt.toNat from by omega, fx14]
          refine PW.jc_ge q_205_35 rfl (fun h15 => ?_) (fun h15 => ?_)
          · skip
            refine PW.incN q_205_42 rfl (by decide) (by decide) (by omega) (by omega) fun x16 hx16 => ?_
            refine PW.goto q_205_45 rfl ?_
            refine PW.lvS (lk1 rfl (lk1 rfl (lk1 rfl (lk1 rfl (lk1 rfl (lk1 rfl lk0)))))) (ih_L205_6_3 _ ?_ ML205_6_3 v4 x16 IML205_6_3 FML205_6_3 (by omega) (by omega) (by omega) (by omega) (gmB.more hbL205_6_34 (by omega) (by omega) (by show (o_a (M 303) _).toInt ≤ (o_a (M 303) _).toInt; rw [dd2, dd1]; omega) (by omega)) (by omega) rfl)
            omega
          · skip
            refine PW.iload q_205_38 rfl ?_
            refine PW.istore q_205_40 (by decide) ?_
            refine PW.incN q_205_42 rfl (by decide) (by decide) (by omega) (by omega) fun x17 hx17 => ?_
            refine PW.goto q_205_45 rfl ?_
            refine PW.lvS (lk1 rfl (lk1 rfl (lk1 rfl (lk1 rfl (lk1 rfl (lk1 rfl lk0)))))) (ih_L205_6_3 _ ?_ ML205_6_3 v5 x17 IML205_6_3 FML205_6_3 (by omega) (by omega) (by omega) (by omega) (gmB.less hbL205_6_34 (by omega) (by omega) (by omega) (by show (o_a (M 303) _).toInt < (o_a (M 303) _).toInt; rw [dd1, dd2]; omega) (by omega) (by omega)) (by omega) rfl)
            omega
  exact PW.lvS (lk1 rfl (lk1 rfl (lk1 rfl (lk1 rfl (lk1 rfl (lk1 rfl lk0)))))) (L205_6_3 _ M c1 c2 I F (by omega) (by omega) (by omega) (by omega) (gmB.zero (by omega) (by omega)) (by omega) rfl)
theorem c_X12_othersOf_v (V : pM → Prop) (hV : Stab V) (G : pG) (Kr : pK) (M : pM) (I : Iv V M) (a1 : Int32) (hl_a1 : 0 ≤ a1.toInt) (hh_a1 : a1.toInt ≤ 5) (hp_0 : 1 ≤ (o_a (M 296) 0).toInt) (hK : ∀ (x : Int32) (M1 : pM), Iv V M1 → Fr [] M M1 → 0 ≤ x.toInt → x.toInt ≤ 5 → (x.toInt = (a1.toInt + 1) % (o_a (M 296) 0).toInt) → ((gLq M1 M) ∧ gHq M1 M) → Kr.1 (some (.int x)) 311 M1) : PW G false 0 203 (p_mc 203) (p_msl 203) Kr 0 (lv_args 0 [.ref 294, .int a1]) [] 311 M 0 0 := by
  have F : Fr [] M M := Fr.refl
  refine PW.iload_n q_203_0 rfl ?_
  refine PW.cI q_203_1 (by decide) fun c1 hc1 => ?_
  refine PW.addN q_203_2 (by omega) (by omega) fun x2 hx2 => ?_
  refine PW.aload_n q_203_3 rfl ?_
  refine PW.gR 296 q_203_4 (Or.inl t_ft_203_33) gF_40_6 kd_294 I.1 (by decide) rfl ?_
  refine PW.cI q_203_7 (by decide) fun c3 hc3 => ?_
  refine PW.aI q_203_8 gA_42 kd_296 I.1 (by decide) gB_42_0_0 (by decide) (by omega) (by omega) fun x4 fx4 hx4 kx4 => ?_
  have ty5 : (o_a (M 296) 0).toInt = x4.toInt := by have e : c3.toInt.toNat = 0 := (by omega); rw [e] at fx4; rw [fx4]
  refine PW.remP q_203_9 (by omega) (by omega) fun x6 hx6 kx6 ex6 => ?_
  refine PW.rI q_203_10 rfl (by decide) (by decide) ?_
  exact hK x6 M I F (by omega) (by omega) (by have t1 : x2.toInt = a1.toInt + 1 := (by omega); have t2 : (o_a (M 296) 0).toInt = x4.toInt := (by omega); rw [t2, ← t1]; exact ex6) ⟨rfl, gHq.refl⟩
theorem c_X12_stepOf (V : pM → Prop) (hV : Stab V) (G : pG) (Kr : pK) (M : pM) (I : Iv V M) (a1 : Int32) (a2 : Int32) (hl_a2 : 0 ≤ a2.toInt) (hh_a2 : a2.toInt ≤ 5) (hp_0 : 1 ≤ (o_a (M 296) 0).toInt) (hK : ∀ (x : Int32) (M1 : pM), Iv V M1 → Fr [] M M1 → -1 ≤ x.toInt → x.toInt ≤ 5 → ((gLq M1 M) ∧ gHq M1 M) → Kr.1 (some (.int x)) 311 M1) : PW G false 2 237 (p_mc 237) (p_msl 237) Kr 0 (lv_args 0 [.ref 294, .int a1, .int a2]) [] 311 M 0 0 := by
  have F : Fr [] M M := Fr.refl
  refine PW.iload_n q_237_0 rfl ?_
  have h1 : a1.toInt = 1 ∨ a1.toInt = 2 ∨ (a1.toInt ≠ 1 ∧ a1.toInt ≠ 2) := by omega
  rcases h1 with h1 | h1 | h1
  · skip
    refine PW.lsw (off := 27) (tgt := 28) q_237_1 rfl (by rw [h1]; rfl) rfl ?_
    refine PW.aload_n q_237_28 rfl ?_
    refine PW.aload_n q_237_29 rfl ?_
    refine PW.gR 296 q_237_30 (Or.inl t_ft_237_33) gF_40_6 kd_294 I.1 (by decide) rfl ?_
    refine PW.cB q_237_33 (by decide) fun c2 hc2 => ?_
    refine PW.iload_n q_237_35 rfl ?_
    refine PW.addN q_237_36 (by omega) (by omega) fun x3 hx3 => ?_
    refine PW.aH q_237_37 gA_42 kd_296 I.1 (by decide) (by omega) (by omega) fun x4 fx4 => ?_
    refine PW.iload_n q_237_38 rfl ?_
    refine PW.cV (as := [_, _]) (rest := []) q_237_39 t_mv_237_257 kd_294 I.1 (by decide) rfl (by decide) rfl rfl (Nat.le_of_ble_eq_true rfl) (Nat.le_of_ble_eq_true rfl) (by decide) (by decide) ?_
    refine PW.up (by decide) (c_X12_nearestTo (V) (hV) G _ M I x4 a2 fun x6 M5 IM5 GM5 hx6 kx6 TM5 => ?_)
    have FM5 := Fr.trans F GM5 (rfl)
    have ty7 : (o_a (M5 296) 0).toInt = (o_a (M 296) 0).toInt := by rw [Fr.at GM5 kd_296 (by decide)]
    refine PW.rI q_237_42 rfl (by decide) (by decide) ?_
    exact hK x6 M5 IM5 FM5 (by omega) (by omega) ⟨(congrArg (fun e => o_i e 2) (Fr.at GM5 kd_294 rfl)), (gHq.refl.cg (Fr.at GM5 kd_296 rfl) (Fr.at GM5 kd_294 rfl))⟩
  · skip
    refine PW.lsw (off := 42) (tgt := 43) q_237_1 rfl (by rw [h1]; rfl) rfl ?_
    refine PW.aload_n q_237_43 rfl ?_
    refine PW.gR 303 q_237_44 (Or.inl t_ft_237_56) gF_40_24 kd_294 I.1 (by decide) rfl ?_
    refine PW.cI q_237_47 (by decide) fun c8 hc8 => ?_
    refine PW.aload_n q_237_48 rfl ?_
    refine PW.gR 296 q_237_49 (Or.inl t_ft_237_33) gF_40_6 kd_294 I.1 (by decide) rfl ?_
    refine PW.cI q_237_52 (by decide) fun c9 hc9 => ?_
    refine PW.aI q_237_53 gA_42 kd_296 I.1 (by decide) gB_42_0_0 (by decide) (by omega) (by omega) fun x10 fx10 hx10 kx10 => ?_
    have ty11 : (o_a (M 296) 0).toInt = x10.toInt := by have e : c9.toInt.toNat = 0 := (by omega); rw [e] at fx10; rw [fx10]
    refine PW.iload_n q_237_54 rfl ?_
    refine PW.callS (as := [_, _, _, _]) (rest := []) q_237_55 t_ms_237_260 (by decide) rfl (Nat.le_of_ble_eq_true rfl) (Nat.le_of_ble_eq_true rfl) (by decide) (by decide) ?_
    refine PW.up (by decide) (c_X12_longestAgo_s (V) (hV) G _ M I c8 x10 a2 (by omega) (by omega) (by omega) (by omega) fun x13 M12 IM12 GM12 hx13 kx13 => ?_)
    have FM12 := Fr.trans F GM12 (rfl)
    have ty14 : (o_a (M12 296) 0).toInt = (o_a (M 296) 0).toInt := by rw [Fr.at GM12 kd_296 (by decide)]
    refine PW.rI q_237_58 rfl (by decide) (by decide) ?_
    exact hK x13 M12 IM12 FM12 (by omega) (by omega) ⟨(congrArg (fun e => o_i e 2) (Fr.at GM12 kd_294 rfl)), (gHq.refl.cg (Fr.at GM12 kd_296 rfl) (Fr.at GM12 kd_294 rfl))⟩
  · skip
    refine PW.lsw (off := 58) (tgt := 59) q_237_1 rfl (by show (if (1 : Int) = a1.toInt then _ else if (2 : Int) = a1.toInt then _ else _) = _; rw [if_neg (by omega), if_neg (by omega)]; rfl) rfl ?_
    refine PW.aload_n q_237_59 rfl ?_
    refine PW.iload_n q_237_60 rfl ?_
    refine PW.cV (as := [_]) (rest := []) q_237_61 t_mv_237_264 kd_294 I.1 (by decide) rfl (by decide) rfl rfl (Nat.le_of_ble_eq_true rfl) (Nat.le_of_ble_eq_true rfl) (by decide) (by decide) ?_
    refine PW.up (by decide) (c_X12_othersOf (V) (hV) G _ M I a2 (by omega) (by omega) (by omega) fun x16 M15 IM15 GM15 hx16 kx16 TM15 => ?_)
    have FM15 := Fr.trans F GM15 (rfl)
    have ty17 : (o_a (M15 296) 0).toInt = (o_a (M 296) 0).toInt := by rw [Fr.at GM15 kd_296 (by decide)]
    refine PW.rI q_237_64 rfl (by decide) (by decide) ?_
    exact hK x16 M15 IM15 FM15 (by omega) (by omega) ⟨(congrArg (fun e => o_i e 2) (Fr.at GM15 kd_294 rfl)), (gHq.refl.cg (Fr.at GM15 kd_296 rfl) (Fr.at GM15 kd_294 rfl))⟩
theorem c_X12_stepOf_v (V : pM → Prop) (hV : Stab V) (G : pG) (Kr : pK) (M : pM) (I : Iv V M) (a1 : Int32) (a2 : Int32) (hl_a2 : 0 ≤ a2.toInt) (hh_a2 : a2.toInt ≤ 5) (hp_0 : 2 ≤ (o_a (M 296) 0).toInt) (hK : ∀ (x : Int32) (M1 : pM), Iv V M1 → Fr [] M M1 → 0 ≤ x.toInt → x.toInt ≤ 5 → (gst (o_a (M 296)) (o_a (M 303)) a1.toInt a2.toInt x.toInt) → ((gLq M1 M) ∧ gHq M1 M) → Kr.1 (some (.int x)) 311 M1) : PW G false 2 237 (p_mc 237) (p_msl 237) Kr 0 (lv_args 0 [.ref 294, .int a1, .int a2]) [] 311 M 0 0 := by
  have F : Fr [] M M := Fr.refl
  refine PW.iload_n q_237_0 rfl ?_
  have h1 : a1.toInt = 1 ∨ a1.toInt = 2 ∨ (a1.toInt ≠ 1 ∧ a1.toInt ≠ 2) := by omega
  rcases h1 with h1 | h1 | h1
  · skip
    refine PW.lsw (off := 27) (tgt := 28) q_237_1 rfl (by rw [h1]; rfl) rfl ?_
    refine PW.aload_n q_237_28 rfl ?_
    refine PW.aload_n q_237_29 rfl ?_
    refine PW.gR 296 q_237_30 (Or.inl t_ft_237_33) gF_40_6 kd_294 I.1 (by decide) rfl ?_
    refine PW.cB q_237_33 (by decide) fun c2 hc2 => ?_
    refine PW.iload_n q_237_35 rfl ?_
    refine PW.addN q_237_36 (by omega) (by omega) fun x3 hx3 => ?_
    refine PW.aH q_237_37 gA_42 kd_296 I.1 (by decide) (by omega) (by omega) fun x4 fx4 => ?_
    refine PW.iload_n q_237_38 rfl ?_
    refine PW.cV (as := [_, _]) (rest := []) q_237_39 t_mv_237_257 kd_294 I.1 (by decide) rfl (by decide) rfl rfl (Nat.le_of_ble_eq_true rfl) (Nat.le_of_ble_eq_true rfl) (by decide) (by decide) ?_
    refine PW.up (by decide) (c_X12_nearestTo_v (V) (hV) G _ M I x4 a2 (by omega) fun x6 M5 IM5 GM5 hx6 kx6 PM5 TM5 => ?_)
    have FM5 := Fr.trans F GM5 (rfl)
    have ty7 : (o_a (M5 296) 0).toInt = (o_a (M 296) 0).toInt := by rw [Fr.at GM5 kd_296 (by decide)]
    refine PW.rI q_237_42 rfl (by decide) (by decide) ?_
    exact hK x6 M5 IM5 FM5 (by omega) (by omega) ⟨PM5.1, PM5.2.1, fun _ => by rw [show o_a (M 296) (36 + a2.toInt.toNat) = x4 from by rw [show 36 + a2.toInt.toNat = x3.toInt.toNat from by omega]; exact fx4]; exact PM5, fun e => absurd e (by omega), fun e => absurd (show a1.toInt = 1 by omega) e⟩ ⟨(congrArg (fun e => o_i e 2) (Fr.at GM5 kd_294 rfl)), (gHq.refl.cg (Fr.at GM5 kd_296 rfl) (Fr.at GM5 kd_294 rfl))⟩
  · skip
    refine PW.lsw (off := 42) (tgt := 43) q_237_1 rfl (by rw [h1]; rfl) rfl ?_
    refine PW.aload_n q_237_43 rfl ?_
    refine PW.gR 303 q_237_44 (Or.inl t_ft_237_56) gF_40_24 kd_294 I.1 (by decide) rfl ?_
    refine PW.cI q_237_47 (by decide) fun c8 hc8 => ?_
    refine PW.aload_n q_237_48 rfl ?_
    refine PW.gR 296 q_237_49 (Or.inl t_ft_237_33) gF_40_6 kd_294 I.1 (by decide) rfl ?_
    refine PW.cI q_237_52 (by decide) fun c9 hc9 => ?_
    refine PW.aI q_237_53 gA_42 kd_296 I.1 (by decide) gB_42_0_0 (by decide) (by omega) (by omega) fun x10 fx10 hx10 kx10 => ?_
    have ty11 : (o_a (M 296) 0).toInt = x10.toInt := by have e : c9.toInt.toNat = 0 := (by omega); rw [e] at fx10; rw [fx10]
    refine PW.iload_n q_237_54 rfl ?_
    refine PW.callS (as := [_, _, _, _]) (rest := []) q_237_55 t_ms_237_260 (by decide) rfl (Nat.le_of_ble_eq_true rfl) (Nat.le_of_ble_eq_true rfl) (by decide) (by decide) ?_
    refine PW.up (by decide) (c_X12_longestAgo_v (V) (hV) G _ M I c8 x10 a2 (by omega) (by omega) (by omega) (by omega) fun x13 M12 IM12 GM12 hx13 kx13 PM12 => ?_)
    have FM12 := Fr.trans F GM12 (rfl)
    have ty14 : (o_a (M12 296) 0).toInt = (o_a (M 296) 0).toInt := by rw [Fr.at GM12 kd_296 (by decide)]
    refine PW.rI q_237_58 rfl (by decide) (by decide) ?_
    have tww : (o_a (M 296) 0).toInt = x10.toInt := by rw [show (0 : Nat) = c9.toInt.toNat from by omega, fx10]
    exact hK x13 M12 IM12 FM12 (by omega) (by omega) ⟨PM12.1, by rw [tww]; exact PM12.2.1, fun e => absurd e (by omega), fun _ => by rw [tww]; exact PM12, fun _ e => absurd (show a1.toInt = 2 by omega) e⟩ ⟨(congrArg (fun e => o_i e 2) (Fr.at GM12 kd_294 rfl)), (gHq.refl.cg (Fr.at GM12 kd_296 rfl) (Fr.at GM12 kd_294 rfl))⟩
  · skip
    refine PW.lsw (off := 58) (tgt := 59) q_237_1 rfl (by show (if (1 : Int) = a1.toInt then _ else if (2 : Int) = a1.toInt then _ else _) = _; rw [if_neg (by omega), if_neg (by omega)]; rfl) rfl ?_
    refine PW.aload_n q_237_59 rfl ?_
    refine PW.iload_n q_237_60 rfl ?_
    refine PW.cV (as := [_]) (rest := []) q_237_61 t_mv_237_264 kd_294 I.1 (by decide) rfl (by decide) rfl rfl (Nat.le_of_ble_eq_true rfl) (Nat.le_of_ble_eq_true rfl) (by decide) (by decide) ?_
    refine PW.up (by decide) (c_X12_othersOf_v (V) (hV) G _ M I a2 (by omega) (by omega) (by omega) fun x16 M15 IM15 GM15 hx16 kx16 PM15 TM15 => ?_)
    have FM15 := Fr.trans F GM15 (rfl)
    have ty17 : (o_a (M15 296) 0).toInt = (o_a (M 296) 0).toInt := by rw [Fr.at GM15 kd_296 (by decide)]
    refine PW.rI q_237_64 rfl (by decide) (by decide) ?_
    exact hK x16 M15 IM15 FM15 (by omega) (by omega) ⟨by rw [PM15]; exact Int.emod_nonneg _ (by omega), by rw [PM15]; exact Int.emod_lt_of_pos _ (by omega), fun e => absurd e (by omega), fun e => absurd e (by omega), fun _ _ => PM15⟩ ⟨(congrArg (fun e => o_i e 2) (Fr.at GM15 kd_294 rfl)), (gHq.refl.cg (Fr.at GM15 kd_296 rfl) (Fr.at GM15 kd_294 rfl))⟩
theorem c_X12_rounds (G : pG) (Kr : pK) (M : pM) (I : Iv gTT M) (a1 : Int32) (hl_a1 : 0 ≤ a1.toInt) (hh_a1 : a1.toInt ≤ 1) (hp_0 : 2 ≤ (o_a (M 296) 0).toInt) (hK : ∀ (M1 : pM), Iv gTT M1 → Fr [40, 49] M M1 → ((gLq M1 M) ∧ gHq M1 M) → Kr.1 none 311 M1) : PW G false 3 238 (p_mc 238) (p_msl 238) Kr 0 (lv_args 0 [.ref 294, .int a1]) [] 311 M 0 0 := by
  have F : Fr [40, 49] M M := Fr.refl
  refine PW.cI q_238_0 (by decide) fun c1 hc1 => ?_
  refine PW.istore_n q_238_1 (by decide) ?_
  have L238_2_2 : ∀ (n : Nat) (ML238_2_2 : pM) (v3 : Int32), Iv (gTT) ML238_2_2 → Fr [40, 49] M ML238_2_2 → 0 ≤ v3.toInt → v3.toInt ≤ 6 → gsb ML238_2_2 v3.toInt → (gLq ML238_2_2 M ∧ gHq ML238_2_2 M) → (6 - v3.toInt).toNat = n → PW G false 3 238 (p_mc 238) (p_msl 238) Kr 2 [(0, .ref 294), (1, .int a1), (2, .int v3)] [] 311 ML238_2_2 0 0 := by
    intro n
    induction n using Nat.strongRecOn with
    | ind n ih_L238_2_2 =>
    intro ML238_2_2 v3 IML238_2_2 FML238_2_2 hbL238_2_20 hbL238_2_21 hbL238_2_22 hbL238_2_23 hmL238_2_2
    refine PW.iload_n q_238_2 rfl ?_
    refine PW.cB q_238_3 (by decide) fun c4 hc4 => ?_
    refine PW.jc_ge q_238_5 rfl (fun h5 => ?_) (fun h5 => ?_)
    · skip
      refine PW.aload_n q_238_34 rfl ?_
      refine PW.gR 296 q_238_35 (Or.inl t_ft_238_33) gF_40_6 kd_294 IML238_2_2.1 (by decide) rfl ?_
      refine PW.cB q_238_38 (by decide) fun c6 hc6 => ?_
      refine PW.iload_n q_238_40 rfl ?_
      refine PW.addN q_238_41 (by omega) (by omega) fun x7 hx7 => ?_
      refine PW.aI q_238_42 gA_42 kd_296 IML238_2_2.1 (by decide) gB_42_86_87 (by decide) (by omega) (by omega) fun x8 fx8 hx8 kx8 => ?_
      refine PW.istore_n q_238_43 (by decide) ?_
      refine PW.cS q_238_44 (by decide) fun c9 hc9 => ?_
      refine PW.istore_n q_238_47 (by decide) ?_
      refine PW.cI q_238_48 (by decide) fun c10 hc10 => ?_
      refine PW.istore q_238_49 (by decide) ?_
      have L238_51_11 : ∀ (n : Nat) (ML238_51_11 : pM) (v12 v13 v14 : Int32), Iv (gTT) ML238_51_11 → Fr [40, 49] M ML238_51_11 → 0 ≤ v12.toInt → v12.toInt ≤ 5 → 10000 ≤ v13.toInt → v13.toInt ≤ 10014 → 0 ≤ v14.toInt → v14.toInt ≤ 14 → gA1 (o_a (M 296)) (o_a (ML238_51_11 303)) (o_a (M 296) (29 + a1.toInt).toNat).toInt v12.toInt v14.toInt v13.toInt → (gLq ML238_51_11 M ∧ gHq ML238_51_11 M) → (14 - v14.toInt).toNat = n → PW G false 3 238 (p_mc 238) (p_msl 238) Kr 51 [(0, .ref 294), (1, .int a1), (2, .int v12), (3, .int v13), (4, .int v14)] [] 311 ML238_51_11 0 0 := by
        intro n
        induction n using Nat.strongRecOn with
        | ind n ih_L238_51_11 =>
        intro ML238_51_11 v12 v13 v14 IML238_51_11 FML238_51_11 hbL238_51_110 hbL238_51_111 hbL238_51_112 hbL238_51_113 hbL238_51_114 hbL238_51_115 hbL238_51_116 hbL238_51_117 hmL238_51_11
        refine PW.iload q_238_51 rfl ?_
        have tt15 : v13.toInt = 10000 + v14.toInt := hbL238_51_116.1
        refine PW.cB q_238_53 (by decide) fun c16 hc16 => ?_
        refine PW.jc_ge q_238_55 rfl (fun h17 => ?_) (fun h17 => ?_)
        · skip
          have hA := hbL238_51_116
          rw [show v14.toInt = 14 from by omega] at hA
          have ht14 := hA.1
          obtain ⟨n0, hn0, hB0⟩ := gB2.start hA hp_0 (g_wk6 I.1).2
          refine PW.iload_n q_238_89 rfl ?_
          refine PW.istore q_238_90 (by decide) ?_
          refine PW.aload_n q_238_92 rfl ?_
          refine PW.cI q_238_93 (by decide) fun c18 hc18 => ?_
          refine PW.pI q_238_94 (Or.inl t_ft_238_331) gF_40_25 gP_40_25 kd_294 Stab0 IML238_51_11 (by decide) rfl (n_lo _) (n_hi _) fun M19 IM19 fM19 UM19 => ?_
          have FM19 := Fr.pu FML238_51_11 UM19.1 kd_294 (rfl : List.contains [40, 49] 40 = true)
          have tr20 := o_i_of fM19
          refine PW.aload_n q_238_97 rfl ?_
          refine PW.cI q_238_98 (by decide) fun c21 hc21 => ?_
          refine PW.pI q_238_99 (Or.inl t_ft_238_334) gF_40_26 gP_40_26 kd_294 Stab0 IM19 (by decide) rfl (n_lo _) (n_hi _) fun M22 IM22 fM22 UM22 => ?_
          have FM22 := Fr.pu FM19 UM22.1 kd_294 (rfl : List.contains [40, 49] 40 = true)
          have tr23 := UM22.i (c := 294) (k := 25) (Or.inr (by decide))
          have L238_102_24 : ∀ (n : Nat) (ML238_102_24 : pM) (v25 v26 : Int32), Iv (gTT) ML238_102_24 → Fr [40, 49] M ML238_102_24 → 0 ≤ v25.toInt → v25.toInt ≤ 5 → 10014 ≤ v26.toInt → v26.toInt ≤ 10021 → gB2 (o_a (M 296)) (o_a (ML238_102_24 303)) (o_a (M 296) (29 + a1.toInt).toNat).toInt v25.toInt v12.toInt (o_i (ML238_102_24 294) 25) v26.toInt n → v26.toInt = 10014 + o_i (ML238_102_24 294) 25 → 0 ≤ o_i (ML238_102_24 294) 25 → o_i (ML238_102_24 294) 25 + n ≤ 7 → (gLq ML238_102_24 M ∧ gHq ML238_102_24 M) → PW G false 3 238 (p_mc 238) (p_msl 238) Kr 102 [(0, .ref 294), (1, .int a1), (2, .int v25), (3, .int v26), (4, .int v12)] [] 311 ML238_102_24 0 0 := by
            intro n
            induction n using Nat.strongRecOn with
            | ind n ih_L238_102_24 =>
            intro ML238_102_24 v25 v26 IML238_102_24 FML238_102_24 hbL238_102_240 hbL238_102_241 hbL238_102_242 hbL238_102_243 hbL238_102_244 hbL238_102_245 hbL238_102_246 hbL238_102_247 hbL238_102_248 
            refine PW.aload_n q_238_102 rfl ?_
            refine PW.gI q_238_103 (Or.inl t_ft_238_331) gF_40_25 kd_294 IML238_102_24.1 (by decide) fun x27 fx27 hx27 kx27 => ?_
            have trx27 := o_i_of fx27
            clear hx27 kx27
            refine PW.jz_eq q_238_106 rfl (fun h28 => ?_) (fun h28 => ?_)
            · skip
              refine PW.aload_n q_238_115 rfl ?_
              refine PW.aload_n q_238_116 rfl ?_
              refine PW.gR 296 q_238_117 (Or.inl t_ft_238_33) gF_40_6 kd_294 IML238_102_24.1 (by decide) rfl ?_
              refine PW.cB q_238_120 (by decide) fun c29 hc29 => ?_
              refine PW.iload_n q_238_122 rfl ?_
              refine PW.addN q_238_123 (by omega) (by omega) fun x30 hx30 => ?_
              refine PW.aH q_238_124 gA_42 kd_296 IML238_102_24.1 (by decide) (by omega) (by omega) fun x31 fx31 => ?_
              have tl32 : (o_a (M 296) (29 + a1.toInt).toNat).toInt = x31.toInt := by rw [← Fr.at FML238_102_24 kd_296 rfl, show (29 + a1.toInt).toNat = x30.toInt.toNat from by omega, fx31]
              refine PW.iload_n q_238_125 rfl ?_
              refine PW.cV (as := [_, _]) (rest := []) q_238_126 t_mv_238_328 kd_294 IML238_102_24.1 (by decide) rfl (by decide) rfl rfl (Nat.le_of_ble_eq_true rfl) (Nat.le_of_ble_eq_true rfl) (by decide) (by decide) ?_
              refine PW.up (by decide) (c_X12_stepOf_v (gTT) (Stab0) G _ ML238_102_24 IML238_102_24 x31 v25 (by omega) (by omega) (by rw [Fr.at FML238_102_24 kd_296 rfl]; exact hp_0) fun x34 M33 IM33 GM33 hx34 kx34 PM33 TM33 => ?_)
              have FM33 := Fr.trans FML238_102_24 GM33 (rfl)
              have tr35 : o_i (M33 294) 25 = o_i (ML238_102_24 294) 25 := by rw [Fr.at GM33 kd_294 (by decide)]
              have hg36 : gst (o_a (M 296)) (o_a (ML238_102_24 303)) (o_a (M 296) (29 + a1.toInt).toNat).toInt v25.toInt x34.toInt := by have w := PM33; rw [Fr.at FML238_102_24 kd_296 rfl, ← tl32] at w; exact w
              refine PW.istore_n q_238_129 (by decide) ?_
              refine PW.aload_n q_238_130 rfl ?_
              refine PW.gR 303 q_238_131 (Or.inl t_ft_238_56) gF_40_24 kd_294 IM33.1 (by decide) rfl ?_
              refine PW.iload_n q_238_134 rfl ?_
              refine PW.iload_n q_238_135 rfl ?_
              refine PW.wI q_238_136 gA_49 kd_303 Stab0 IM33 (by decide) rfl gC_49_0_5 (by decide) (by omega) (by omega) (n_lo _) (n_hi _) fun M37 IM37 fM37 UM37 => ?_
              have FM37 := Fr.pu FM33 UM37.1 kd_303 (rfl : List.contains [40, 49] 49 = true)
              have tr38 : o_i (M37 294) 25 = o_i (M33 294) 25 := by rw [UM37.1 294 (g_ne kd_294 kd_303 (by decide))]
              refine PW.incN q_238_137 rfl (by decide) (by decide) (by omega) (by omega) fun x39 hx39 => ?_
              refine PW.aload_n q_238_140 rfl ?_
              refine PW.dup q_238_141 rfl ?_
              refine PW.gE q_238_142 (Or.inl t_ft_238_331) gF_40_25 kd_294 IM37.1 (by decide) ((congrArg (fun e => o_f e 25) (UM37.1 _ (g_ne kd_294 kd_303 (by decide)))).trans ((congrArg (fun e => o_f e 25) (Fr.at GM33 kd_294 (by decide))).trans fx27)) ?_
              have tr40 := o_i_of ((congrArg (fun e => o_f e 25) (UM37.1 _ (g_ne kd_294 kd_303 (by decide)))).trans ((congrArg (fun e => o_f e 25) (Fr.at GM33 kd_294 (by decide))).trans fx27))
              refine PW.cI q_238_145 (by decide) fun c41 hc41 => ?_
              refine PW.addN q_238_146 (by have := n_lo x27; have := n_hi x27; omega) (by have := n_lo x27; have := n_hi x27; omega) fun x42 hx42 => ?_
              refine PW.pI q_238_147 (Or.inl t_ft_238_331) gF_40_25 gP_40_25 kd_294 Stab0 IM37 (by decide) rfl (n_lo _) (n_hi _) fun M43 IM43 fM43 UM43 => ?_
              have FM43 := Fr.pu FM37 UM43.1 kd_294 (rfl : List.contains [40, 49] 40 = true)
              have tr44 := o_i_of fM43
              refine PW.aload_n q_238_150 rfl ?_
              refine PW.dup q_238_151 rfl ?_
              refine PW.gI q_238_152 (Or.inl t_ft_238_334) gF_40_26 kd_294 IM43.1 (by decide) fun x45 fx45 hx45 kx45 => ?_
              clear hx45 kx45
              refine PW.cI q_238_155 (by decide) fun c46 hc46 => ?_
              refine PW.iload_n q_238_156 rfl ?_
              refine PW.shlH q_238_157 fun x47 => ?_
              refine PW.orH q_238_158 fun x48 => ?_
              refine PW.pI q_238_159 (Or.inl t_ft_238_334) gF_40_26 gP_40_26 kd_294 Stab0 IM43 (by decide) rfl (n_lo _) (n_hi _) fun M49 IM49 fM49 UM49 => ?_
              have FM49 := Fr.pu FM43 UM49.1 kd_294 (rfl : List.contains [40, 49] 40 = true)
              have tr50 := UM49.i (c := 294) (k := 25) (Or.inr (by decide))
              refine PW.goto q_238_162 rfl ?_
              obtain ⟨hn1, hB1⟩ := gB2.step (rm' := o_i (M49 294) 25) (tm' := x39.toInt) hbL238_102_244 (by omega) (by omega) (g_wk6 I.1).2 hg36 fM37 (by omega) (fun z hz => by rw [UM37.2 z hz, Fr.at GM33 kd_303 rfl]) (by omega) (by omega)
              refine PW.lvS (lk1 rfl (lk1 rfl (lk1 rfl (lk1 rfl (lk1 rfl lk0))))) (ih_L238_102_24 (n - 1) ?_ M49 x34 x39 IM49 FM49 (by omega) (by omega) (by omega) (by omega) (by rw [show o_a (M49 303) = o_a (M37 303) from by rw [((UM49.1 _ (g_ne kd_303 kd_294 (by decide))).trans (UM43.1 _ (g_ne kd_303 kd_294 (by decide))))]]; exact hB1) (by omega) (by omega) (by omega) ⟨((UM49.i (c := 294) (k := 2) (Or.inr (by decide))).trans ((UM43.i (c := 294) (k := 2) (Or.inr (by decide))).trans ((congrArg (fun e => o_i e 2) (UM37.1 294 (by decide))).trans ((congrArg (fun e => o_i e 2) (Fr.at GM33 kd_294 rfl)).trans hbL238_102_248.1)))), ((((hbL238_102_248.2.cg (Fr.at GM33 kd_296 rfl) (Fr.at GM33 kd_294 rfl)).cg (UM37.1 296 (by decide)) (UM37.1 294 (by decide))).pu UM43 (by decide)).pu UM49 (by decide))⟩)
              omega
            · skip
              refine PW.iload_n q_238_109 rfl ?_
              refine PW.iload q_238_110 rfl ?_
              refine PW.jc_eq q_238_112 rfl (fun h51 => ?_) (fun h51 => ?_)
              · skip
                refine PW.vret q_238_165 rfl (by decide) (by decide) ?_
                exact hK ML238_102_24 IML238_102_24 FML238_102_24 ⟨hbL238_102_248.1, hbL238_102_248.2⟩
              · skip
                refine PW.aload_n q_238_115 rfl ?_
                refine PW.aload_n q_238_116 rfl ?_
                refine PW.gR 296 q_238_117 (Or.inl t_ft_238_33) gF_40_6 kd_294 IML238_102_24.1 (by decide) rfl ?_
                refine PW.cB q_238_120 (by decide) fun c52 hc52 => ?_
                refine PW.iload_n q_238_122 rfl ?_
                refine PW.addN q_238_123 (by omega) (by omega) fun x53 hx53 => ?_
                refine PW.aH q_238_124 gA_42 kd_296 IML238_102_24.1 (by decide) (by omega) (by omega) fun x54 fx54 => ?_
                have tl55 : (o_a (M 296) (29 + a1.toInt).toNat).toInt = x54.toInt := by rw [← Fr.at FML238_102_24 kd_296 rfl, show (29 + a1.toInt).toNat = x53.toInt.toNat from by omega, fx54]
                refine PW.iload_n q_238_125 rfl ?_
                refine PW.cV (as := [_, _]) (rest := []) q_238_126 t_mv_238_328 kd_294 IML238_102_24.1 (by decide) rfl (by decide) rfl rfl (Nat.le_of_ble_eq_true rfl) (Nat.le_of_ble_eq_true rfl) (by decide) (by decide) ?_
                refine PW.up (by decide) (c_X12_stepOf_v (gTT) (Stab0) G _ ML238_102_24 IML238_102_24 x54 v25 (by omega) (by omega) (by rw [Fr.at FML238_102_24 kd_296 rfl]; exact hp_0) fun x57 M56 IM56 GM56 hx57 kx57 PM56 TM56 => ?_)
                have FM56 := Fr.trans FML238_102_24 GM56 (rfl)
                have tr58 : o_i (M56 294) 25 = o_i (ML238_102_24 294) 25 := by rw [Fr.at GM56 kd_294 (by decide)]
                have hg59 : gst (o_a (M 296)) (o_a (ML238_102_24 303)) (o_a (M 296) (29 + a1.toInt).toNat).toInt v25.toInt x57.toInt := by have w := PM56; rw [Fr.at FML238_102_24 kd_296 rfl, ← tl55] at w; exact w
                refine PW.istore_n q_238_129 (by decide) ?_
                refine PW.aload_n q_238_130 rfl ?_
                refine PW.gR 303 q_238_131 (Or.inl t_ft_238_56) gF_40_24 kd_294 IM56.1 (by decide) rfl ?_
                refine PW.iload_n q_238_134 rfl ?_
                refine PW.iload_n q_238_135 rfl ?_
                refine PW.wI q_238_136 gA_49 kd_303 Stab0 IM56 (by decide) rfl gC_49_0_5 (by decide) (by omega) (by omega) (n_lo _) (n_hi _) fun M60 IM60 fM60 UM60 => ?_
                have FM60 := Fr.pu FM56 UM60.1 kd_303 (rfl : List.contains [40, 49] 49 = true)
                have tr61 : o_i (M60 294) 25 = o_i (M56 294) 25 := by rw [UM60.1 294 (g_ne kd_294 kd_303 (by decide))]
                refine PW.incN q_238_137 rfl (by decide) (by decide) (by omega) (by omega) fun x62 hx62 => ?_
                refine PW.aload_n q_238_140 rfl ?_
                refine PW.dup q_238_141 rfl ?_
                refine PW.gE q_238_142 (Or.inl t_ft_238_331) gF_40_25 kd_294 IM60.1 (by decide) ((congrArg (fun e => o_f e 25) (UM60.1 _ (g_ne kd_294 kd_303 (by decide)))).trans ((congrArg (fun e => o_f e 25) (Fr.at GM56 kd_294 (by decide))).trans fx27)) ?_
                have tr63 := o_i_of ((congrArg (fun e => o_f e 25) (UM60.1 _ (g_ne kd_294 kd_303 (by decide)))).trans ((congrArg (fun e => o_f e 25) (Fr.at GM56 kd_294 (by decide))).trans fx27))
                refine PW.cI q_238_145 (by decide) fun c64 hc64 => ?_
                refine PW.addN q_238_146 (by have := n_lo x27; have := n_hi x27; omega) (by have := n_lo x27; have := n_hi x27; omega) fun x65 hx65 => ?_
                refine PW.pI q_238_147 (Or.inl t_ft_238_331) gF_40_25 gP_40_25 kd_294 Stab0 IM60 (by decide) rfl (n_lo _) (n_hi _) fun M66 IM66 fM66 UM66 => ?_
                have FM66 := Fr.pu FM60 UM66.1 kd_294 (rfl : List.contains [40, 49] 40 = true)
                have tr67 := o_i_of fM66
                refine PW.aload_n q_238_150 rfl ?_
                refine PW.dup q_238_151 rfl ?_
                refine PW.gI q_238_152 (Or.inl t_ft_238_334) gF_40_26 kd_294 IM66.1 (by decide) fun x68 fx68 hx68 kx68 => ?_
                clear hx68 kx68
                refine PW.cI q_238_155 (by decide) fun c69 hc69 => ?_
                refine PW.iload_n q_238_156 rfl ?_
                refine PW.shlH q_238_157 fun x70 => ?_
                refine PW.orH q_238_158 fun x71 => ?_
                refine PW.pI q_238_159 (Or.inl t_ft_238_334) gF_40_26 gP_40_26 kd_294 Stab0 IM66 (by decide) rfl (n_lo _) (n_hi _) fun M72 IM72 fM72 UM72 => ?_
                have FM72 := Fr.pu FM66 UM72.1 kd_294 (rfl : List.contains [40, 49] 40 = true)
                have tr73 := UM72.i (c := 294) (k := 25) (Or.inr (by decide))
                refine PW.goto q_238_162 rfl ?_
                obtain ⟨hn1, hB1⟩ := gB2.step (rm' := o_i (M72 294) 25) (tm' := x62.toInt) hbL238_102_244 (by omega) (by omega) (g_wk6 I.1).2 hg59 fM60 (by omega) (fun z hz => by rw [UM60.2 z hz, Fr.at GM56 kd_303 rfl]) (by omega) (by omega)
                refine PW.lvS (lk1 rfl (lk1 rfl (lk1 rfl (lk1 rfl (lk1 rfl lk0))))) (ih_L238_102_24 (n - 1) ?_ M72 x57 x62 IM72 FM72 (by omega) (by omega) (by omega) (by omega) (by rw [show o_a (M72 303) = o_a (M60 303) from by rw [((UM72.1 _ (g_ne kd_303 kd_294 (by decide))).trans (UM66.1 _ (g_ne kd_303 kd_294 (by decide))))]]; exact hB1) (by omega) (by omega) (by omega) ⟨((UM72.i (c := 294) (k := 2) (Or.inr (by decide))).trans ((UM66.i (c := 294) (k := 2) (Or.inr (by decide))).trans ((congrArg (fun e => o_i e 2) (UM60.1 294 (by decide))).trans ((congrArg (fun e => o_i e 2) (Fr.at GM56 kd_294 rfl)).trans hbL238_102_248.1)))), ((((hbL238_102_248.2.cg (Fr.at GM56 kd_296 rfl) (Fr.at GM56 kd_294 rfl)).cg (UM60.1 296 (by decide)) (UM60.1 294 (by decide))).pu UM66 (by decide)).pu UM72 (by decide))⟩)
                omega
          exact PW.lvS (lk1 rfl (lk1 rfl (lk1 rfl (lk1 rfl (lk1 rfl lk0))))) (L238_102_24 n0 M22 v12 v13 IM22 FM22 (by omega) (by omega) (by omega) (by omega) (by rw [show o_a (M22 303) = o_a (ML238_51_11 303) from by rw [((UM22.1 _ (g_ne kd_303 kd_294 (by decide))).trans (UM19.1 _ (g_ne kd_303 kd_294 (by decide))))]]; exact hB0 _ (by omega)) (by omega) (by omega) (by omega) ⟨((UM22.i (c := 294) (k := 2) (Or.inr (by decide))).trans ((UM19.i (c := 294) (k := 2) (Or.inr (by decide))).trans hbL238_51_117.1)), ((hbL238_51_117.2.pu UM19 (by decide)).pu UM22 (by decide))⟩)
        · skip
          refine PW.aload_n q_238_58 rfl ?_
          refine PW.aload_n q_238_59 rfl ?_
          refine PW.gR 296 q_238_60 (Or.inl t_ft_238_33) gF_40_6 kd_294 IML238_51_11.1 (by decide) rfl ?_
          refine PW.cB q_238_63 (by decide) fun c74 hc74 => ?_
          refine PW.iload_n q_238_65 rfl ?_
          refine PW.addN q_238_66 (by omega) (by omega) fun x75 hx75 => ?_
          refine PW.aH q_238_67 gA_42 kd_296 IML238_51_11.1 (by decide) (by omega) (by omega) fun x76 fx76 => ?_
          have tl77 : (o_a (M 296) (29 + a1.toInt).toNat).toInt = x76.toInt := by rw [← Fr.at FML238_51_11 kd_296 rfl, show (29 + a1.toInt).toNat = x75.toInt.toNat from by omega, fx76]
          refine PW.iload_n q_238_68 rfl ?_
          refine PW.cV (as := [_, _]) (rest := []) q_238_69 t_mv_238_328 kd_294 IML238_51_11.1 (by decide) rfl (by decide) rfl rfl (Nat.le_of_ble_eq_true rfl) (Nat.le_of_ble_eq_true rfl) (by decide) (by decide) ?_
          refine PW.up (by decide) (c_X12_stepOf_v (gTT) (Stab0) G _ ML238_51_11 IML238_51_11 x76 v12 (by omega) (by omega) (by rw [Fr.at FML238_51_11 kd_296 rfl]; exact hp_0) fun x79 M78 IM78 GM78 hx79 kx79 PM78 TM78 => ?_)
          have FM78 := Fr.trans FML238_51_11 GM78 (rfl)
          have tr80 : o_i (M78 294) 25 = o_i (ML238_51_11 294) 25 := by rw [Fr.at GM78 kd_294 (by decide)]
          have hg81 : gst (o_a (M 296)) (o_a (ML238_51_11 303)) (o_a (M 296) (29 + a1.toInt).toNat).toInt v12.toInt x79.toInt := by have w := PM78; rw [Fr.at FML238_51_11 kd_296 rfl, ← tl77] at w; exact w
          refine PW.istore_n q_238_72 (by decide) ?_
          refine PW.aload_n q_238_73 rfl ?_
          refine PW.gR 303 q_238_74 (Or.inl t_ft_238_56) gF_40_24 kd_294 IM78.1 (by decide) rfl ?_
          refine PW.iload_n q_238_77 rfl ?_
          refine PW.iload_n q_238_78 rfl ?_
          refine PW.wI q_238_79 gA_49 kd_303 Stab0 IM78 (by decide) rfl gC_49_0_5 (by decide) (by omega) (by omega) (n_lo _) (n_hi _) fun M82 IM82 fM82 UM82 => ?_
          have FM82 := Fr.pu FM78 UM82.1 kd_303 (rfl : List.contains [40, 49] 49 = true)
          have tr83 : o_i (M82 294) 25 = o_i (M78 294) 25 := by rw [UM82.1 294 (g_ne kd_294 kd_303 (by decide))]
          refine PW.incN q_238_80 rfl (by decide) (by decide) (by omega) (by omega) fun x84 hx84 => ?_
          refine PW.incN q_238_83 rfl (by decide) (by decide) (by omega) (by omega) fun x85 hx85 => ?_
          refine PW.goto q_238_86 rfl ?_
          refine PW.lvS (lk1 rfl (lk1 rfl (lk1 rfl (lk1 rfl (lk1 rfl lk0))))) (ih_L238_51_11 _ ?_ M82 x79 x84 x85 IM82 FM82 (by omega) (by omega) (by omega) (by omega) (by omega) (by omega) (gA1.step hbL238_51_116 (by omega) (g_wk6 I.1).2 hg81 fM82 (by omega) (fun z hz => by rw [UM82.2 z hz, Fr.at GM78 kd_303 rfl]) (by omega) (by omega)) ⟨((congrArg (fun e => o_i e 2) (UM82.1 294 (by decide))).trans ((congrArg (fun e => o_i e 2) (Fr.at GM78 kd_294 rfl)).trans hbL238_51_117.1)), ((hbL238_51_117.2.cg (Fr.at GM78 kd_296 rfl) (Fr.at GM78 kd_294 rfl)).cg (UM82.1 296 (by decide)) (UM82.1 294 (by decide)))⟩ rfl)
          omega
      exact PW.lvS (lk1 rfl (lk1 rfl (lk1 rfl (lk1 rfl (lk1 rfl lk0))))) (L238_51_11 _ ML238_2_2 x8 c9 c10 IML238_2_2 FML238_2_2 (by omega) (by omega) (by omega) (by omega) (by omega) (by omega) (gA1.zero (by omega) (by omega) (fun w hw => hbL238_2_22 w (by omega))) ⟨hbL238_2_23.1, hbL238_2_23.2⟩ rfl)
    · skip
      refine PW.aload_n q_238_8 rfl ?_
      refine PW.gR 303 q_238_9 (Or.inl t_ft_238_56) gF_40_24 kd_294 IML238_2_2.1 (by decide) rfl ?_
      refine PW.iload_n q_238_12 rfl ?_
      refine PW.aload_n q_238_13 rfl ?_
      refine PW.gR 296 q_238_14 (Or.inl t_ft_238_33) gF_40_6 kd_294 IML238_2_2.1 (by decide) rfl ?_
      refine PW.cB q_238_17 (by decide) fun c86 hc86 => ?_
      refine PW.cB q_238_19 (by decide) fun c87 hc87 => ?_
      refine PW.iload_n q_238_21 rfl ?_
      refine PW.mulN q_238_22 (6) (by omega) a1 (fun h => n_eq.mpr (by omega)) (fun h => n_eq.mpr (by omega)) (by omega) (by omega) fun x88 hx88 => ?_
      refine PW.addN q_238_23 (by omega) (by omega) fun x89 hx89 => ?_
      refine PW.iload_n q_238_24 rfl ?_
      refine PW.addN q_238_25 (by omega) (by omega) fun x90 hx90 => ?_
      refine PW.aI q_238_26 gA_42 kd_296 IML238_2_2.1 (by decide) gB_42_88_99 (by decide) (by omega) (by omega) fun x91 fx91 hx91 kx91 => ?_
      refine PW.wI q_238_27 gA_49 kd_303 Stab0 IML238_2_2 (by decide) rfl gC_49_0_5 (by decide) (by omega) (by omega) (n_lo _) (n_hi _) fun M92 IM92 fM92 UM92 => ?_
      have FM92 := Fr.pu FML238_2_2 UM92.1 kd_303 (rfl : List.contains [40, 49] 49 = true)
      have tr93 : o_i (M92 294) 25 = o_i (ML238_2_2 294) 25 := by rw [UM92.1 294 (g_ne kd_294 kd_303 (by decide))]
      refine PW.incN q_238_28 rfl (by decide) (by decide) (by omega) (by omega) fun x94 hx94 => ?_
      refine PW.goto q_238_31 rfl ?_
      refine PW.lvS (lk1 rfl (lk1 rfl (lk1 rfl lk0))) (ih_L238_2_2 _ ?_ M92 x94 IM92 FM92 (by omega) (by omega) (gsb.step hbL238_2_22 UM92 fM92 (by omega) (by omega) (by omega) (by omega)) ⟨((congrArg (fun e => o_i e 2) (UM92.1 294 (by decide))).trans hbL238_2_23.1), (hbL238_2_23.2.cg (UM92.1 296 (by decide)) (UM92.1 294 (by decide)))⟩ rfl)
      omega
  exact PW.lvS (lk1 rfl (lk1 rfl (lk1 rfl lk0))) (L238_2_2 _ M c1 I F (by omega) (by omega) (gsb.zero (by omega)) ⟨rfl, gHq.refl⟩ rfl)
theorem c_X12_round (G : pG) (Kr : pK) (M : pM) (I : Iv gTT M) (a1 : Int32) (hK : ∀ (x : Int32) (M1 : pM), Iv gTT M1 → Fr [40, 49] M M1 → ((gLq M1 M) ∧ gHq M1 M) → Kr.1 (some (.int x)) 311 M1) : PW G false 4 239 (p_mc 239) (p_msl 239) Kr 0 (lv_args 0 [.ref 294, .int a1]) [] 311 M 0 0 := by
  have F : Fr [40, 49] M M := Fr.refl
  refine PW.aload_n q_239_0 rfl ?_
  refine PW.cI q_239_1 (by decide) fun c1 hc1 => ?_
  refine PW.pI q_239_2 (Or.inl t_ft_239_1) gF_40_0 gP_40_0 kd_294 Stab0 I (by decide) rfl (n_lo _) (n_hi _) fun M2 IM2 fM2 UM2 => ?_
  have FM2 := Fr.pu F UM2.1 kd_294 (rfl : List.contains [40, 49] 40 = true)
  have ty3 : (o_a (M2 296) 0).toInt = (o_a (M 296) 0).toInt := by rw [UM2.1 296 (g_ne kd_296 kd_294 (by decide))]
  refine PW.aload_n q_239_5 rfl ?_
  refine PW.iload_n q_239_6 rfl ?_
  refine PW.cV (as := [_]) (rest := []) q_239_7 t_mv_239_251 kd_294 IM2.1 (by decide) rfl (by decide) rfl rfl (Nat.le_of_ble_eq_true rfl) (Nat.le_of_ble_eq_true rfl) (by decide) (by decide) ?_
  refine PW.iload_n q_196_0 rfl ?_
  refine PW.cI q_196_1 (by decide) fun c4 hc4 => ?_
  refine PW.aload_n q_196_2 rfl ?_
  refine PW.gR 296 q_196_3 (Or.inl t_ft_196_33) gF_40_6 kd_294 IM2.1 (by decide) rfl ?_
  refine PW.cI q_196_6 (by decide) fun c5 hc5 => ?_
  refine PW.aI q_196_7 gA_42 kd_296 IM2.1 (by decide) gB_42_1_1 (by decide) (by omega) (by omega) fun x6 fx6 hx6 kx6 => ?_
  refine PW.cI q_196_8 (by decide) fun c7 hc7 => ?_
  refine PW.subN q_196_9 (by omega) (by omega) fun x8 hx8 => ?_
  refine PW.callS (as := [_, _, _]) (rest := []) q_196_10 t_ms_196_176 (by decide) rfl (Nat.le_of_ble_eq_true rfl) (Nat.le_of_ble_eq_true rfl) (by decide) (by decide) ?_
  refine PW.iload_n q_166_0 rfl ?_
  refine PW.iload_n q_166_1 rfl ?_
  refine PW.jc_lt q_166_2 rfl (fun h9 => ?_) (fun h9 => ?_)
  · skip
    refine PW.cI q_166_14 (by decide) fun c10 hc10 => ?_
    refine PW.rZ q_166_15 rfl (by omega) (by omega) (by decide) (by decide) ?_
    refine PW.rZ q_196_13 rfl (by omega) (by omega) (by decide) (by decide) ?_
    refine PW.jz_eq q_239_10 rfl (fun h11 => ?_) (fun h11 => False.elim (by omega))
    refine PW.cI q_239_23 (by decide) fun c12 hc12 => ?_
    refine PW.rI q_239_24 rfl (by decide) (by decide) ?_
    exact hK c12 M2 IM2 FM2 ⟨(UM2.i (c := 294) (k := 2) (Or.inr (by decide))), (gHq.refl.pu UM2 (by decide))⟩
  · skip
    refine PW.iload_n q_166_5 rfl ?_
    refine PW.iload_n q_166_6 rfl ?_
    refine PW.jc_gt q_166_7 rfl (fun h13 => ?_) (fun h13 => ?_)
    · skip
      refine PW.cI q_166_14 (by decide) fun c14 hc14 => ?_
      refine PW.rZ q_166_15 rfl (by omega) (by omega) (by decide) (by decide) ?_
      refine PW.rZ q_196_13 rfl (by omega) (by omega) (by decide) (by decide) ?_
      refine PW.jz_eq q_239_10 rfl (fun h15 => ?_) (fun h15 => False.elim (by omega))
      refine PW.cI q_239_23 (by decide) fun c16 hc16 => ?_
      refine PW.rI q_239_24 rfl (by decide) (by decide) ?_
      exact hK c16 M2 IM2 FM2 ⟨(UM2.i (c := 294) (k := 2) (Or.inr (by decide))), (gHq.refl.pu UM2 (by decide))⟩
    · skip
      refine PW.cI q_166_10 (by decide) fun c17 hc17 => ?_
      refine PW.goto q_166_11 rfl ?_
      refine PW.rZ q_166_15 rfl (by omega) (by omega) (by decide) (by decide) ?_
      refine PW.rZ q_196_13 rfl (by omega) (by omega) (by decide) (by decide) ?_
      refine PW.jz_eq q_239_10 rfl (fun h18 => False.elim (by omega)) (fun h18 => ?_)
      refine PW.aload_n q_239_13 rfl ?_
      refine PW.gR 296 q_239_14 (Or.inl t_ft_239_33) gF_40_6 kd_294 IM2.1 (by decide) rfl ?_
      refine PW.cI q_239_17 (by decide) fun c19 hc19 => ?_
      refine PW.aI q_239_18 gA_42 kd_296 IM2.1 (by decide) gB_42_0_0 (by decide) (by omega) (by omega) fun x20 fx20 hx20 kx20 => ?_
      have ty21 : (o_a (M2 296) 0).toInt = x20.toInt := by have e : c19.toInt.toNat = 0 := (by omega); rw [e] at fx20; rw [fx20]
      refine PW.cI q_239_19 (by decide) fun c22 hc22 => ?_
      refine PW.jc_ge q_239_20 rfl (fun h23 => ?_) (fun h23 => ?_)
      · skip
        refine PW.aload_n q_239_25 rfl ?_
        refine PW.iload_n q_239_26 rfl ?_
        refine PW.cV (as := [_]) (rest := []) q_239_27 t_mv_239_337 kd_294 IM2.1 (by decide) rfl (by decide) rfl rfl (Nat.le_of_ble_eq_true rfl) (Nat.le_of_ble_eq_true rfl) (by decide) (by decide) ?_
        refine PW.up (by decide) (c_X12_rounds G _ M2 IM2 a1 (by omega) (by omega) (by omega) fun M24 IM24 GM24 TM24 => ?_)
        have FM24 := Fr.trans FM2 GM24 (rfl)
        have ty25 : (o_a (M24 296) 0).toInt = (o_a (M2 296) 0).toInt := by rw [Fr.at GM24 kd_296 (by decide)]
        refine PW.aload_n q_239_30 rfl ?_
        refine PW.gI q_239_31 (Or.inl t_ft_239_331) gF_40_25 kd_294 IM24.1 (by decide) fun x26 fx26 hx26 kx26 => ?_
        clear hx26 kx26
        refine PW.rI q_239_34 rfl (by decide) (by decide) ?_
        exact hK x26 M24 IM24 FM24 ⟨(TM24.1.trans (UM2.i (c := 294) (k := 2) (Or.inr (by decide)))), ((gHq.refl.pu UM2 (by decide)).tr TM24.2)⟩
      · skip
        refine PW.cI q_239_23 (by decide) fun c27 hc27 => ?_
        refine PW.rI q_239_24 rfl (by decide) (by decide) ?_
        exact hK c27 M2 IM2 FM2 ⟨(UM2.i (c := 294) (k := 2) (Or.inr (by decide))), (gHq.refl.pu UM2 (by decide))⟩
theorem c_X12_circle (G : pG) (Kr : pK) (M : pM) (I : Iv gTT M) (a1 : Int32) (hK : ∀ (x : Int32) (M1 : pM), Iv gTT M1 → Fr [40, 49] M M1 → ((gLq M1 M) ∧ gHq M1 M) → Kr.1 (some (.int x)) 311 M1) : PW G false 4 240 (p_mc 240) (p_msl 240) Kr 0 (lv_args 0 [.ref 294, .int a1]) [] 311 M 0 0 := by
  have F : Fr [40, 49] M M := Fr.refl
  refine PW.aload_n q_240_0 rfl ?_
  refine PW.cI q_240_1 (by decide) fun c1 hc1 => ?_
  refine PW.pI q_240_2 (Or.inl t_ft_240_1) gF_40_0 gP_40_0 kd_294 Stab0 I (by decide) rfl (n_lo _) (n_hi _) fun M2 IM2 fM2 UM2 => ?_
  have FM2 := Fr.pu F UM2.1 kd_294 (rfl : List.contains [40, 49] 40 = true)
  have ty3 : (o_a (M2 296) 0).toInt = (o_a (M 296) 0).toInt := by rw [UM2.1 296 (g_ne kd_296 kd_294 (by decide))]
  refine PW.aload_n q_240_5 rfl ?_
  refine PW.iload_n q_240_6 rfl ?_
  refine PW.cV (as := [_]) (rest := []) q_240_7 t_mv_240_251 kd_294 IM2.1 (by decide) rfl (by decide) rfl rfl (Nat.le_of_ble_eq_true rfl) (Nat.le_of_ble_eq_true rfl) (by decide) (by decide) ?_
  refine PW.iload_n q_196_0 rfl ?_
  refine PW.cI q_196_1 (by decide) fun c4 hc4 => ?_
  refine PW.aload_n q_196_2 rfl ?_
  refine PW.gR 296 q_196_3 (Or.inl t_ft_196_33) gF_40_6 kd_294 IM2.1 (by decide) rfl ?_
  refine PW.cI q_196_6 (by decide) fun c5 hc5 => ?_
  refine PW.aI q_196_7 gA_42 kd_296 IM2.1 (by decide) gB_42_1_1 (by decide) (by omega) (by omega) fun x6 fx6 hx6 kx6 => ?_
  refine PW.cI q_196_8 (by decide) fun c7 hc7 => ?_
  refine PW.subN q_196_9 (by omega) (by omega) fun x8 hx8 => ?_
  refine PW.callS (as := [_, _, _]) (rest := []) q_196_10 t_ms_196_176 (by decide) rfl (Nat.le_of_ble_eq_true rfl) (Nat.le_of_ble_eq_true rfl) (by decide) (by decide) ?_
  refine PW.iload_n q_166_0 rfl ?_
  refine PW.iload_n q_166_1 rfl ?_
  refine PW.jc_lt q_166_2 rfl (fun h9 => ?_) (fun h9 => ?_)
  · skip
    refine PW.cI q_166_14 (by decide) fun c10 hc10 => ?_
    refine PW.rZ q_166_15 rfl (by omega) (by omega) (by decide) (by decide) ?_
    refine PW.rZ q_196_13 rfl (by omega) (by omega) (by decide) (by decide) ?_
    refine PW.jz_eq q_240_10 rfl (fun h11 => ?_) (fun h11 => False.elim (by omega))
    refine PW.cI q_240_23 (by decide) fun c12 hc12 => ?_
    refine PW.rI q_240_24 rfl (by decide) (by decide) ?_
    exact hK c12 M2 IM2 FM2 ⟨(UM2.i (c := 294) (k := 2) (Or.inr (by decide))), (gHq.refl.pu UM2 (by decide))⟩
  · skip
    refine PW.iload_n q_166_5 rfl ?_
    refine PW.iload_n q_166_6 rfl ?_
    refine PW.jc_gt q_166_7 rfl (fun h13 => ?_) (fun h13 => ?_)
    · skip
      refine PW.cI q_166_14 (by decide) fun c14 hc14 => ?_
      refine PW.rZ q_166_15 rfl (by omega) (by omega) (by decide) (by decide) ?_
      refine PW.rZ q_196_13 rfl (by omega) (by omega) (by decide) (by decide) ?_
      refine PW.jz_eq q_240_10 rfl (fun h15 => ?_) (fun h15 => False.elim (by omega))
      refine PW.cI q_240_23 (by decide) fun c16 hc16 => ?_
      refine PW.rI q_240_24 rfl (by decide) (by decide) ?_
      exact hK c16 M2 IM2 FM2 ⟨(UM2.i (c := 294) (k := 2) (Or.inr (by decide))), (gHq.refl.pu UM2 (by decide))⟩
    · skip
      refine PW.cI q_166_10 (by decide) fun c17 hc17 => ?_
      refine PW.goto q_166_11 rfl ?_
      refine PW.rZ q_166_15 rfl (by omega) (by omega) (by decide) (by decide) ?_
      refine PW.rZ q_196_13 rfl (by omega) (by omega) (by decide) (by decide) ?_
      refine PW.jz_eq q_240_10 rfl (fun h18 => False.elim (by omega)) (fun h18 => ?_)
      refine PW.aload_n q_240_13 rfl ?_
      refine PW.gR 296 q_240_14 (Or.inl t_ft_240_33) gF_40_6 kd_294 IM2.1 (by decide) rfl ?_
      refine PW.cI q_240_17 (by decide) fun c19 hc19 => ?_
      refine PW.aI q_240_18 gA_42 kd_296 IM2.1 (by decide) gB_42_0_0 (by decide) (by omega) (by omega) fun x20 fx20 hx20 kx20 => ?_
      have ty21 : (o_a (M2 296) 0).toInt = x20.toInt := by have e : c19.toInt.toNat = 0 := (by omega); rw [e] at fx20; rw [fx20]
      refine PW.cI q_240_19 (by decide) fun c22 hc22 => ?_
      refine PW.jc_ge q_240_20 rfl (fun h23 => ?_) (fun h23 => ?_)
      · skip
        refine PW.aload_n q_240_25 rfl ?_
        refine PW.iload_n q_240_26 rfl ?_
        refine PW.cV (as := [_]) (rest := []) q_240_27 t_mv_240_337 kd_294 IM2.1 (by decide) rfl (by decide) rfl rfl (Nat.le_of_ble_eq_true rfl) (Nat.le_of_ble_eq_true rfl) (by decide) (by decide) ?_
        refine PW.up (by decide) (c_X12_rounds G _ M2 IM2 a1 (by omega) (by omega) (by omega) fun M24 IM24 GM24 TM24 => ?_)
        have FM24 := Fr.trans FM2 GM24 (rfl)
        have ty25 : (o_a (M24 296) 0).toInt = (o_a (M2 296) 0).toInt := by rw [Fr.at GM24 kd_296 (by decide)]
        refine PW.aload_n q_240_30 rfl ?_
        refine PW.gI q_240_31 (Or.inl t_ft_240_334) gF_40_26 kd_294 IM24.1 (by decide) fun x26 fx26 hx26 kx26 => ?_
        clear hx26 kx26
        refine PW.rI q_240_34 rfl (by decide) (by decide) ?_
        exact hK x26 M24 IM24 FM24 ⟨(TM24.1.trans (UM2.i (c := 294) (k := 2) (Or.inr (by decide)))), ((gHq.refl.pu UM2 (by decide)).tr TM24.2)⟩
      · skip
        refine PW.cI q_240_23 (by decide) fun c27 hc27 => ?_
        refine PW.rI q_240_24 rfl (by decide) (by decide) ?_
        exact hK c27 M2 IM2 FM2 ⟨(UM2.i (c := 294) (k := 2) (Or.inr (by decide))), (gHq.refl.pu UM2 (by decide))⟩
