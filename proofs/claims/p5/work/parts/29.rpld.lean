theorem q_189_0 : p_tb 189 0 = some (.aload_n 0, 1) := by decide +kernel
theorem q_189_1 : p_tb 189 1 = some (.ldc2_w 78, 3) := by decide +kernel
theorem q_189_4 : p_tb 189 4 = some (.invokevirtual 201, 3) := by decide +kernel
theorem q_189_7 : p_tb 189 7 = some (.ifCond .eq 29, 3) := by decide +kernel
theorem q_189_10 : p_tb 189 10 = some (.aload_n 0, 1) := by decide +kernel
theorem q_189_11 : p_tb 189 11 = some (.iconst 0, 1) := by decide +kernel
theorem q_189_12 : p_tb 189 12 = some (.invokevirtual 205, 3) := by decide +kernel
theorem q_189_15 : p_tb 189 15 = some (.ifCond .eq 19, 3) := by decide +kernel
theorem q_189_18 : p_tb 189 18 = some (.aload_n 0, 1) := by decide +kernel
theorem q_189_19 : p_tb 189 19 = some (.iconst 2, 1) := by decide +kernel
theorem q_189_20 : p_tb 189 20 = some (.iconst 1, 1) := by decide +kernel
theorem q_189_21 : p_tb 189 21 = some (.sipush 900, 3) := by decide +kernel
theorem q_189_24 : p_tb 189 24 = some (.invokevirtual 208, 3) := by decide +kernel
theorem q_189_27 : p_tb 189 27 = some (.ifCond .eq 7, 3) := by decide +kernel
theorem q_189_30 : p_tb 189 30 = some (.iconst 1, 1) := by decide +kernel
theorem q_189_31 : p_tb 189 31 = some (.goto 4, 3) := by decide +kernel
theorem q_189_34 : p_tb 189 34 = some (.iconst 0, 1) := by decide +kernel
theorem q_189_35 : p_tb 189 35 = some (.ireturn, 1) := by decide +kernel
theorem q_189_36 : p_tb 189 36 = some (.aload_n 0, 1) := by decide +kernel
theorem q_189_37 : p_tb 189 37 = some (.ldc2_w 80, 3) := by decide +kernel
theorem q_189_40 : p_tb 189 40 = some (.invokevirtual 201, 3) := by decide +kernel
theorem q_189_43 : p_tb 189 43 = some (.ifCond .eq 28, 3) := by decide +kernel
theorem q_189_46 : p_tb 189 46 = some (.aload_n 0, 1) := by decide +kernel
theorem q_189_47 : p_tb 189 47 = some (.iconst 1, 1) := by decide +kernel
theorem q_189_48 : p_tb 189 48 = some (.invokevirtual 205, 3) := by decide +kernel
theorem q_189_51 : p_tb 189 51 = some (.ifCond .eq 18, 3) := by decide +kernel
theorem q_189_54 : p_tb 189 54 = some (.aload_n 0, 1) := by decide +kernel
theorem q_189_55 : p_tb 189 55 = some (.iconst 3, 1) := by decide +kernel
theorem q_189_56 : p_tb 189 56 = some (.iconst 0, 1) := by decide +kernel
theorem q_189_57 : p_tb 189 57 = some (.bipush 9, 2) := by decide +kernel
theorem q_189_59 : p_tb 189 59 = some (.invokevirtual 208, 3) := by decide +kernel
theorem q_189_62 : p_tb 189 62 = some (.ifCond .eq 7, 3) := by decide +kernel
theorem q_189_65 : p_tb 189 65 = some (.iconst 1, 1) := by decide +kernel
theorem q_189_66 : p_tb 189 66 = some (.goto 4, 3) := by decide +kernel
theorem q_189_69 : p_tb 189 69 = some (.iconst 0, 1) := by decide +kernel
theorem q_189_70 : p_tb 189 70 = some (.ireturn, 1) := by decide +kernel
theorem q_189_71 : p_tb 189 71 = some (.aload_n 0, 1) := by decide +kernel
theorem q_189_72 : p_tb 189 72 = some (.ldc2_w 82, 3) := by decide +kernel
theorem q_189_75 : p_tb 189 75 = some (.invokevirtual 201, 3) := by decide +kernel
theorem q_189_78 : p_tb 189 78 = some (.ifCond .eq 28, 3) := by decide +kernel
theorem q_189_81 : p_tb 189 81 = some (.aload_n 0, 1) := by decide +kernel
theorem q_189_82 : p_tb 189 82 = some (.iconst 2, 1) := by decide +kernel
theorem q_189_83 : p_tb 189 83 = some (.invokevirtual 205, 3) := by decide +kernel
theorem q_189_86 : p_tb 189 86 = some (.ifCond .eq 18, 3) := by decide +kernel
theorem q_189_89 : p_tb 189 89 = some (.aload_n 0, 1) := by decide +kernel
theorem q_189_90 : p_tb 189 90 = some (.iconst 4, 1) := by decide +kernel
theorem q_189_91 : p_tb 189 91 = some (.iconst 1, 1) := by decide +kernel
theorem q_189_92 : p_tb 189 92 = some (.bipush 99, 2) := by decide +kernel
theorem q_189_94 : p_tb 189 94 = some (.invokevirtual 208, 3) := by decide +kernel
theorem q_189_97 : p_tb 189 97 = some (.ifCond .eq 7, 3) := by decide +kernel
theorem q_189_100 : p_tb 189 100 = some (.iconst 1, 1) := by decide +kernel
theorem q_189_101 : p_tb 189 101 = some (.goto 4, 3) := by decide +kernel
theorem q_189_104 : p_tb 189 104 = some (.iconst 0, 1) := by decide +kernel
theorem q_189_105 : p_tb 189 105 = some (.ireturn, 1) := by decide +kernel
theorem q_189_106 : p_tb 189 106 = some (.aload_n 0, 1) := by decide +kernel
theorem q_189_107 : p_tb 189 107 = some (.ldc2_w 84, 3) := by decide +kernel
theorem q_189_110 : p_tb 189 110 = some (.invokevirtual 201, 3) := by decide +kernel
theorem q_189_113 : p_tb 189 113 = some (.ifCond .eq 8, 3) := by decide +kernel
theorem q_189_116 : p_tb 189 116 = some (.aload_n 0, 1) := by decide +kernel
theorem q_189_117 : p_tb 189 117 = some (.invokevirtual 211, 3) := by decide +kernel
theorem q_189_120 : p_tb 189 120 = some (.ireturn, 1) := by decide +kernel
theorem q_189_121 : p_tb 189 121 = some (.aload_n 0, 1) := by decide +kernel
theorem q_189_122 : p_tb 189 122 = some (.ldc2_w 88, 3) := by decide +kernel
theorem q_189_125 : p_tb 189 125 = some (.invokevirtual 201, 3) := by decide +kernel
theorem q_189_128 : p_tb 189 128 = some (.ifCond .eq 8, 3) := by decide +kernel
theorem q_189_131 : p_tb 189 131 = some (.aload_n 0, 1) := by decide +kernel
theorem q_189_132 : p_tb 189 132 = some (.invokevirtual 214, 3) := by decide +kernel
theorem q_189_135 : p_tb 189 135 = some (.ireturn, 1) := by decide +kernel
theorem q_189_136 : p_tb 189 136 = some (.aload_n 0, 1) := by decide +kernel
theorem q_189_137 : p_tb 189 137 = some (.ldc2_w 98, 3) := by decide +kernel
theorem q_189_140 : p_tb 189 140 = some (.invokevirtual 201, 3) := by decide +kernel
theorem q_189_143 : p_tb 189 143 = some (.ifCond .ne 9, 3) := by decide +kernel
theorem q_189_146 : p_tb 189 146 = some (.aload_n 0, 1) := by decide +kernel
theorem q_189_147 : p_tb 189 147 = some (.iconst 1, 1) := by decide +kernel
theorem q_189_148 : p_tb 189 148 = some (.invokevirtual 170, 3) := by decide +kernel
theorem q_189_151 : p_tb 189 151 = some (.ireturn, 1) := by decide +kernel
theorem q_189_152 : p_tb 189 152 = some (.aload_n 0, 1) := by decide +kernel
theorem q_189_153 : p_tb 189 153 = some (.invokevirtual 173, 3) := by decide +kernel
theorem q_189_156 : p_tb 189 156 = some (.aload_n 0, 1) := by decide +kernel
theorem q_189_157 : p_tb 189 157 = some (.bipush 14, 2) := by decide +kernel
theorem q_189_159 : p_tb 189 159 = some (.aload_n 0, 1) := by decide +kernel
theorem q_189_160 : p_tb 189 160 = some (.getfield 37, 3) := by decide +kernel
theorem q_189_163 : p_tb 189 163 = some (.iconst 1, 1) := by decide +kernel
theorem q_189_164 : p_tb 189 164 = some (.iaload, 1) := by decide +kernel
theorem q_189_165 : p_tb 189 165 = some (.invokevirtual 217, 3) := by decide +kernel
theorem q_189_168 : p_tb 189 168 = some (.ifCond .ne 5, 3) := by decide +kernel
theorem q_189_171 : p_tb 189 171 = some (.iconst 0, 1) := by decide +kernel
theorem q_189_172 : p_tb 189 172 = some (.ireturn, 1) := by decide +kernel
theorem q_189_173 : p_tb 189 173 = some (.aload_n 0, 1) := by decide +kernel
theorem q_189_174 : p_tb 189 174 = some (.getfield 180, 3) := by decide +kernel
theorem q_189_177 : p_tb 189 177 = some (.istore_n 1, 1) := by decide +kernel
theorem q_189_178 : p_tb 189 178 = some (.aload_n 0, 1) := by decide +kernel
theorem q_189_179 : p_tb 189 179 = some (.getfield 37, 3) := by decide +kernel
theorem q_189_182 : p_tb 189 182 = some (.bipush 31, 2) := by decide +kernel
theorem q_189_184 : p_tb 189 184 = some (.iload_n 1, 1) := by decide +kernel
theorem q_189_185 : p_tb 189 185 = some (.iadd, 1) := by decide +kernel
theorem q_189_186 : p_tb 189 186 = some (.iaload, 1) := by decide +kernel
theorem q_189_187 : p_tb 189 187 = some (.ifCond .le 9, 3) := by decide +kernel
theorem q_189_190 : p_tb 189 190 = some (.aload_n 0, 1) := by decide +kernel
theorem q_189_191 : p_tb 189 191 = some (.iconst 3, 1) := by decide +kernel
theorem q_189_192 : p_tb 189 192 = some (.invokevirtual 170, 3) := by decide +kernel
theorem q_189_195 : p_tb 189 195 = some (.ireturn, 1) := by decide +kernel
theorem q_189_196 : p_tb 189 196 = some (.aload_n 0, 1) := by decide +kernel
theorem q_189_197 : p_tb 189 197 = some (.invokevirtual 173, 3) := by decide +kernel
theorem q_189_200 : p_tb 189 200 = some (.aload_n 0, 1) := by decide +kernel
theorem q_189_201 : p_tb 189 201 = some (.bipush 31, 2) := by decide +kernel
theorem q_189_203 : p_tb 189 203 = some (.iload_n 1, 1) := by decide +kernel
theorem q_189_204 : p_tb 189 204 = some (.iadd, 1) := by decide +kernel
theorem q_189_205 : p_tb 189 205 = some (.iconst 1, 1) := by decide +kernel
theorem q_189_206 : p_tb 189 206 = some (.bipush 20, 2) := by decide +kernel
theorem q_189_208 : p_tb 189 208 = some (.invokevirtual 208, 3) := by decide +kernel
theorem q_189_211 : p_tb 189 211 = some (.ireturn, 1) := by decide +kernel
theorem t_ft_189_180 : p_f2 p_ft (p_mK 189) 180 = some (11, 18) := by decide +kernel
theorem t_ft_189_37 : p_f2 p_ft (p_mK 189) 37 = some (11, 7) := by decide +kernel
theorem t_lt_189_78 : p_f2 p_lt (p_mK 189) 78 = some (1818848869) := by decide +kernel
theorem t_lt_189_80 : p_f2 p_lt (p_mK 189) 80 = some (1651467385) := by decide +kernel
theorem t_lt_189_82 : p_f2 p_lt (p_mK 189) 82 = some (461262647411) := by decide +kernel
theorem t_lt_189_84 : p_f2 p_lt (p_mK 189) 84 = some (131260314510706) := by decide +kernel
theorem t_lt_189_88 : p_f2 p_lt (p_mK 189) 88 = some (6582119) := by decide +kernel
theorem t_lt_189_98 : p_f2 p_lt (p_mK 189) 98 = some (499985311091) := by decide +kernel
theorem t_mv_189_170 : p_f2 p_mv (p_mK 189) 170 = some 178 := by decide +kernel
theorem t_mv_189_173 : p_f2 p_mv (p_mK 189) 173 = some 177 := by decide +kernel
theorem t_mv_189_201 : p_f2 p_mv (p_mK 189) 201 = some 179 := by decide +kernel
theorem t_mv_189_205 : p_f2 p_mv (p_mK 189) 205 = some 188 := by decide +kernel
theorem t_mv_189_208 : p_f2 p_mv (p_mK 189) 208 = some 184 := by decide +kernel
theorem t_mv_189_211 : p_f2 p_mv (p_mK 189) 211 = some 190 := by decide +kernel
theorem t_mv_189_214 : p_f2 p_mv (p_mK 189) 214 = some 192 := by decide +kernel
theorem t_mv_189_217 : p_f2 p_mv (p_mK 189) 217 = some 187 := by decide +kernel
set_option maxHeartbeats 10000000 in
theorem c_X12_line_vk (V : pM → Prop) (hV : Stab V) (G : pG) (Kr : pK) (M : pM) (I : Iv V M) (y : k_X) (i : Nat) (A : k_A) (hp_0 : k_ra y M i) (hp_1 : k_rp M A) (hK : ∀ (x : Int32) (M1 : pM), Iv V M1 → Fr [40, 43, 45] M M1 → 0 ≤ x.toInt → x.toInt ≤ 1 → (gKl [4, 11, 12, 13, 14, 15, 16, 17, 18, 20] M M1 ∧ (k_rq y (k_line y A i) x M1)) → (gNl M M1) → Kr.1 (some (.int x)) 311 M1) : PW G false 5 189 (p_mc 189) (p_msl 189) Kr 0 (lv_args 0 [.ref 294]) [] 311 M 0 0 := by
  have F : Fr [40, 43, 45] M M := Fr.refl
  obtain ⟨kc0, kc1, kc2, kc3, kc4, kc5, kc6, kc7, kc8, kc9, kc10, kc11, kc12, kc13, kc14, kc15, kc16, kc17, kc18, kc19⟩ := id hp_1
  refine PW.aload_n q_189_0 rfl ?_
  refine PW.ldc2 q_189_1 t_lt_189_78 ?_
  refine PW.nmLk fun l1 el1 => ?_
  refine PW.cV (as := [_]) (rest := []) q_189_4 t_mv_189_201 kd_294 I.1 (by decide) rfl (by decide) rfl rfl (Nat.le_of_ble_eq_true rfl) (Nat.le_of_ble_eq_true rfl) (by decide) (by decide) ?_
  refine PW.up (by decide) (c_X12_isWord_vk (V) (hV) G _ M I l1 _ i 0 hp_0 (by rw [el1]; decide +kernel) (by decide) fun x3  hx3 kx3 PM2 => ?_)
  rcases PM2 with ⟨PaM2, PbM2, PcM2⟩ | ⟨PaM2, PnM2⟩
  · skip
    refine PW.jz_eq q_189_7 rfl (fun h4 => False.elim (by omega)) (fun h4 => ?_)
    refine PW.aload_n q_189_10 rfl ?_
    refine PW.cI q_189_11 (by decide) fun c5 hc5 => ?_
    refine PW.cV (as := [_]) (rest := []) q_189_12 t_mv_189_205 kd_294 I.1 (by decide) rfl (by decide) rfl rfl (Nat.le_of_ble_eq_true rfl) (Nat.le_of_ble_eq_true rfl) (by decide) (by decide) ?_
    refine PW.up (by decide) (c_X12_isOnce_vk0 (V) (hV) G _ M I c5 (by omega) (by omega) _ i hp_0 (by omega) (by omega) (by omega) fun x7 M6 IM6 GM6 hx7 kx7 PM6 => ?_)
    have FM6 := Fr.trans F GM6 (rfl)
    rcases PM6 with ⟨QM6, ⟨PaM6, PbM6, PfM6, PgM6⟩ | ⟨PaM6, PbM6, PoM6, PtM6⟩⟩
    · skip
      refine PW.jz_eq q_189_15 rfl (fun h8 => ?_) (fun h8 => False.elim (by omega))
      refine PW.cI q_189_34 (by decide) fun c9 hc9 => ?_
      refine PW.rZ q_189_35 rfl (by omega) (by omega) (by decide) (by decide) ?_
      have e : k_line y A i = (3, kP y i, A, i) := by unfold k_line; rw [if_pos ⟨PbM2, PcM2⟩]; unfold k_len; rw [if_pos (by omega)]
      exact hK c9 M6 IM6 FM6 (by omega) (by omega) ⟨(gKl.refl.tr QM6 rfl), (by rw [e]; exact Or.inr ⟨by omega, (by omega : (3 : Int) ≠ 0), (by omega : o_i (M6 294) 15 = 3), (by omega : o_i (M6 294) 16 = kP y i)⟩)⟩ (gNl.refl.cg (Fr.at GM6 kd_299 rfl))
    · skip
      refine PW.jz_eq q_189_15 rfl (fun h10 => False.elim (by omega)) (fun h10 => ?_)
      refine PW.aload_n q_189_18 rfl ?_
      refine PW.cI q_189_19 (by decide) fun c11 hc11 => ?_
      refine PW.cI q_189_20 (by decide) fun c12 hc12 => ?_
      refine PW.cS q_189_21 (by decide) fun c13 hc13 => ?_
      refine PW.cV (as := [_, _, _]) (rest := []) q_189_24 t_mv_189_208 kd_294 IM6.1 (by decide) rfl (by decide) rfl rfl (Nat.le_of_ble_eq_true rfl) (Nat.le_of_ble_eq_true rfl) (by decide) (by decide) ?_
      refine PW.up (by decide) (c_X12_puts_vk (V) (hV) G _ M6 IM6 c11 c12 c13 (by omega) (by omega) _ (i + 1) 1 900 PtM6 (by omega) (by omega) fun x15 M14 IM14 GM14 hx15 kx15 PM14 => ?_)
      have FM14 := Fr.trans FM6 GM14 (rfl)
      rcases PM14 with ⟨QM14, ⟨PaM14, PzM14, PvM14, PlM14, PmM14, PtM14, PhM14⟩ | ⟨PaM14, PzM14, PfM14, PgM14⟩⟩
      · skip
        refine PW.jz_eq q_189_27 rfl (fun h16 => False.elim (by omega)) (fun h16 => ?_)
        refine PW.cI q_189_30 (by decide) fun c17 hc17 => ?_
        refine PW.goto q_189_31 rfl ?_
        refine PW.rZ q_189_35 rfl (by omega) (by omega) (by decide) (by decide) ?_
        have e : k_line y A i = (0, 0, (va_up (va_up A.1 6 1) 2 (kV y (i + 1)), A.2), i + 2) := by unfold k_line; rw [if_pos ⟨PbM2, PcM2⟩]; unfold k_len; rw [if_neg (by omega), if_neg (by omega)]
        have hz : ∀ z : Nat, ((z ≤ 4 ∧ z ≠ 2) ∨ (29 ≤ z ∧ z ≤ 32)) → o_a (M14 297) z = o_a (M 297) z := fun z hz => ((PhM14 z (by omega)).trans (congrArg (fun e => o_a e z) (Fr.at GM6 kd_297 (by decide))))
        have hnm : ∀ z : Nat, ((8 ≤ z ∧ (z : Int) < 8 + A.1 0) ∨ (14 ≤ z ∧ (z : Int) < 14 + A.1 1)) → o_l (M14 299) z = o_l (M 299) z := fun z hz => ((congrArg (fun e => o_l e z) (Fr.at GM14 kd_299 (by decide))).trans (congrArg (fun e => o_l e z) (Fr.at GM6 kd_299 (by decide))))
        have w20 : o_i (M14 294) 20 = o_i (M6 294) 20 := (QM14.i 20 rfl)
        exact hK c17 M14 IM14 FM14 (by omega) (by omega) ⟨((gKl.refl.tr QM6 rfl).tr QM14 rfl), (by rw [e]; exact Or.inl ⟨by omega, rfl, PtM14, ⟨(by rw [hz 0 (by omega)]; exact kc0), (by rw [hz 1 (by omega)]; exact kc1), (by have f := PvM14; rw [show c11.toInt.toNat = 2 from by omega] at f; show _ = kV y (i + 1); omega), (by rw [hz 3 (by omega)]; exact kc3), (by rw [hz 4 (by omega)]; exact kc4), (((QM14.i 19 rfl).trans (QM6.i 19 rfl)).trans kc5), (by omega), (by omega), (by show (o_i (M14 294) 20 % 2 = 1 ↔ (1 = 1 ∨ 0 < A.1 0)); omega), (by show (o_i (M14 294) 20 / 2 % 2 = 1 ↔ A.1 7 = 1); omega), (by show (o_i (M14 294) 20 / 4 % 2 = 1 ↔ A.1 4 ≠ -1); omega), (fun j hj => by have hj : (j : Int) < A.1 0 := hj; rw [(hnm (8 + j) (by omega))]; exact kc11 j hj), (fun j hj => by have hj : (j : Int) < A.1 1 := hj; rw [(hnm (14 + j) (by omega))]; exact kc12 j hj), (fun j hj => by have hj : (j : Int) < A.1 1 := hj; rw [hz (31 + j) (by omega)]; exact kc13 j hj), (fun j hj => by have hj : (j : Int) < A.1 1 := hj; rw [hz (29 + j) (by omega)]; exact kc14 j hj), (fun j hj h2 => by have hj : A.1 1 ≤ (j : Int) := hj; rw [hz (31 + j) (by omega)]; exact kc15 j (by omega) h2), (by show 0 ≤ A.1 0; omega), (by show A.1 0 ≤ 6; omega), (by show 0 ≤ A.1 1; omega), (by show A.1 1 ≤ 2; omega)⟩⟩)⟩ ((gNl.refl.cg (Fr.at GM6 kd_299 rfl)).cg (Fr.at GM14 kd_299 rfl))
      · skip
        refine PW.jz_eq q_189_27 rfl (fun h18 => ?_) (fun h18 => False.elim (by omega))
        refine PW.cI q_189_34 (by decide) fun c19 hc19 => ?_
        refine PW.rZ q_189_35 rfl (by omega) (by omega) (by decide) (by decide) ?_
        have e : k_line y A i = (k_nr y (i + 1) 1 900, kP y (i + 1), A, i) := by unfold k_line; rw [if_pos ⟨PbM2, PcM2⟩]; unfold k_len; rw [if_neg (by omega), if_pos (by omega)]
        exact hK c19 M14 IM14 FM14 (by omega) (by omega) ⟨((gKl.refl.tr QM6 rfl).tr QM14 rfl), (by rw [e]; exact Or.inr ⟨by omega, (by omega : (k_nr y (i + 1) 1 900 : Int) ≠ 0), (by omega : o_i (M14 294) 15 = k_nr y (i + 1) 1 900), (by omega : o_i (M14 294) 16 = kP y (i + 1))⟩)⟩ ((gNl.refl.cg (Fr.at GM6 kd_299 rfl)).cg (Fr.at GM14 kd_299 rfl))
  · skip
    refine PW.jz_eq q_189_7 rfl (fun h20 => ?_) (fun h20 => False.elim (by omega))
    refine PW.aload_n q_189_36 rfl ?_
    refine PW.ldc2 q_189_37 t_lt_189_80 ?_
    refine PW.nmLk fun l21 el21 => ?_
    refine PW.cV (as := [_]) (rest := []) q_189_40 t_mv_189_201 kd_294 I.1 (by decide) rfl (by decide) rfl rfl (Nat.le_of_ble_eq_true rfl) (Nat.le_of_ble_eq_true rfl) (by decide) (by decide) ?_
    refine PW.up (by decide) (c_X12_isWord_vk (V) (hV) G _ M I l21 _ i 1 hp_0 (by rw [el21]; decide +kernel) (by decide) fun x23  hx23 kx23 PM22 => ?_)
    rcases PM22 with ⟨PaM22, PbM22, PcM22⟩ | ⟨PaM22, PnM22⟩
    · skip
      refine PW.jz_eq q_189_43 rfl (fun h24 => False.elim (by omega)) (fun h24 => ?_)
      refine PW.aload_n q_189_46 rfl ?_
      refine PW.cI q_189_47 (by decide) fun c25 hc25 => ?_
      refine PW.cV (as := [_]) (rest := []) q_189_48 t_mv_189_205 kd_294 I.1 (by decide) rfl (by decide) rfl rfl (Nat.le_of_ble_eq_true rfl) (Nat.le_of_ble_eq_true rfl) (by decide) (by decide) ?_
      refine PW.up (by decide) (c_X12_isOnce_vk1 (V) (hV) G _ M I c25 (by omega) (by omega) _ i hp_0 (by omega) (by omega) (by omega) fun x27 M26 IM26 GM26 hx27 kx27 PM26 => ?_)
      have FM26 := Fr.trans F GM26 (rfl)
      rcases PM26 with ⟨QM26, ⟨PaM26, PbM26, PfM26, PgM26⟩ | ⟨PaM26, PbM26, PoM26, PtM26⟩⟩
      · skip
        refine PW.jz_eq q_189_51 rfl (fun h28 => ?_) (fun h28 => False.elim (by omega))
        refine PW.cI q_189_69 (by decide) fun c29 hc29 => ?_
        refine PW.rZ q_189_70 rfl (by omega) (by omega) (by decide) (by decide) ?_
        have e : k_line y A i = (3, kP y i, A, i) := by unfold k_line; rw [if_neg PnM2, if_pos ⟨PbM22, PcM22⟩]; unfold k_body; rw [if_pos (by omega)]
        exact hK c29 M26 IM26 FM26 (by omega) (by omega) ⟨(gKl.refl.tr QM26 rfl), (by rw [e]; exact Or.inr ⟨by omega, (by omega : (3 : Int) ≠ 0), (by omega : o_i (M26 294) 15 = 3), (by omega : o_i (M26 294) 16 = kP y i)⟩)⟩ (gNl.refl.cg (Fr.at GM26 kd_299 rfl))
      · skip
        refine PW.jz_eq q_189_51 rfl (fun h30 => False.elim (by omega)) (fun h30 => ?_)
        refine PW.aload_n q_189_54 rfl ?_
        refine PW.cI q_189_55 (by decide) fun c31 hc31 => ?_
        refine PW.cI q_189_56 (by decide) fun c32 hc32 => ?_
        refine PW.cB q_189_57 (by decide) fun c33 hc33 => ?_
        refine PW.cV (as := [_, _, _]) (rest := []) q_189_59 t_mv_189_208 kd_294 IM26.1 (by decide) rfl (by decide) rfl rfl (Nat.le_of_ble_eq_true rfl) (Nat.le_of_ble_eq_true rfl) (by decide) (by decide) ?_
        refine PW.up (by decide) (c_X12_puts_vk (V) (hV) G _ M26 IM26 c31 c32 c33 (by omega) (by omega) _ (i + 1) 0 9 PtM26 (by omega) (by omega) fun x35 M34 IM34 GM34 hx35 kx35 PM34 => ?_)
        have FM34 := Fr.trans FM26 GM34 (rfl)
        rcases PM34 with ⟨QM34, ⟨PaM34, PzM34, PvM34, PlM34, PmM34, PtM34, PhM34⟩ | ⟨PaM34, PzM34, PfM34, PgM34⟩⟩
        · skip
          refine PW.jz_eq q_189_62 rfl (fun h36 => False.elim (by omega)) (fun h36 => ?_)
          refine PW.cI q_189_65 (by decide) fun c37 hc37 => ?_
          refine PW.goto q_189_66 rfl ?_
          refine PW.rZ q_189_70 rfl (by omega) (by omega) (by decide) (by decide) ?_
          have e : k_line y A i = (0, 0, (va_up (va_up A.1 7 1) 3 (kV y (i + 1)), A.2), i + 2) := by unfold k_line; rw [if_neg PnM2, if_pos ⟨PbM22, PcM22⟩]; unfold k_body; rw [if_neg (by omega), if_neg (by omega)]
          have hz : ∀ z : Nat, ((z ≤ 4 ∧ z ≠ 3) ∨ (29 ≤ z ∧ z ≤ 32)) → o_a (M34 297) z = o_a (M 297) z := fun z hz => ((PhM34 z (by omega)).trans (congrArg (fun e => o_a e z) (Fr.at GM26 kd_297 (by decide))))
          have hnm : ∀ z : Nat, ((8 ≤ z ∧ (z : Int) < 8 + A.1 0) ∨ (14 ≤ z ∧ (z : Int) < 14 + A.1 1)) → o_l (M34 299) z = o_l (M 299) z := fun z hz => ((congrArg (fun e => o_l e z) (Fr.at GM34 kd_299 (by decide))).trans (congrArg (fun e => o_l e z) (Fr.at GM26 kd_299 (by decide))))
          have w20 : o_i (M34 294) 20 = o_i (M26 294) 20 := (QM34.i 20 rfl)
          exact hK c37 M34 IM34 FM34 (by omega) (by omega) ⟨((gKl.refl.tr QM26 rfl).tr QM34 rfl), (by rw [e]; exact Or.inl ⟨by omega, rfl, PtM34, ⟨(by rw [hz 0 (by omega)]; exact kc0), (by rw [hz 1 (by omega)]; exact kc1), (by rw [hz 2 (by omega)]; exact kc2), (by have f := PvM34; rw [show c31.toInt.toNat = 3 from by omega] at f; show _ = kV y (i + 1); omega), (by rw [hz 4 (by omega)]; exact kc4), (((QM34.i 19 rfl).trans (QM26.i 19 rfl)).trans kc5), (by omega), (by omega), (by show (o_i (M34 294) 20 % 2 = 1 ↔ (A.1 6 = 1 ∨ 0 < A.1 0)); omega), (by show (o_i (M34 294) 20 / 2 % 2 = 1 ↔ 1 = 1); omega), (by show (o_i (M34 294) 20 / 4 % 2 = 1 ↔ A.1 4 ≠ -1); omega), (fun j hj => by have hj : (j : Int) < A.1 0 := hj; rw [(hnm (8 + j) (by omega))]; exact kc11 j hj), (fun j hj => by have hj : (j : Int) < A.1 1 := hj; rw [(hnm (14 + j) (by omega))]; exact kc12 j hj), (fun j hj => by have hj : (j : Int) < A.1 1 := hj; rw [hz (31 + j) (by omega)]; exact kc13 j hj), (fun j hj => by have hj : (j : Int) < A.1 1 := hj; rw [hz (29 + j) (by omega)]; exact kc14 j hj), (fun j hj h2 => by have hj : A.1 1 ≤ (j : Int) := hj; rw [hz (31 + j) (by omega)]; exact kc15 j (by omega) h2), (by show 0 ≤ A.1 0; omega), (by show A.1 0 ≤ 6; omega), (by show 0 ≤ A.1 1; omega), (by show A.1 1 ≤ 2; omega)⟩⟩)⟩ ((gNl.refl.cg (Fr.at GM26 kd_299 rfl)).cg (Fr.at GM34 kd_299 rfl))
        · skip
          refine PW.jz_eq q_189_62 rfl (fun h38 => ?_) (fun h38 => False.elim (by omega))
          refine PW.cI q_189_69 (by decide) fun c39 hc39 => ?_
          refine PW.rZ q_189_70 rfl (by omega) (by omega) (by decide) (by decide) ?_
          have e : k_line y A i = (k_nr y (i + 1) 0 9, kP y (i + 1), A, i) := by unfold k_line; rw [if_neg PnM2, if_pos ⟨PbM22, PcM22⟩]; unfold k_body; rw [if_neg (by omega), if_pos (by omega)]
          exact hK c39 M34 IM34 FM34 (by omega) (by omega) ⟨((gKl.refl.tr QM26 rfl).tr QM34 rfl), (by rw [e]; exact Or.inr ⟨by omega, (by omega : (k_nr y (i + 1) 0 9 : Int) ≠ 0), (by omega : o_i (M34 294) 15 = k_nr y (i + 1) 0 9), (by omega : o_i (M34 294) 16 = kP y (i + 1))⟩)⟩ ((gNl.refl.cg (Fr.at GM26 kd_299 rfl)).cg (Fr.at GM34 kd_299 rfl))
    · skip
      refine PW.jz_eq q_189_43 rfl (fun h40 => ?_) (fun h40 => False.elim (by omega))
      refine PW.aload_n q_189_71 rfl ?_
      refine PW.ldc2 q_189_72 t_lt_189_82 ?_
      refine PW.nmLk fun l41 el41 => ?_
      refine PW.cV (as := [_]) (rest := []) q_189_75 t_mv_189_201 kd_294 I.1 (by decide) rfl (by decide) rfl rfl (Nat.le_of_ble_eq_true rfl) (Nat.le_of_ble_eq_true rfl) (by decide) (by decide) ?_
      refine PW.up (by decide) (c_X12_isWord_vk (V) (hV) G _ M I l41 _ i 2 hp_0 (by rw [el41]; decide +kernel) (by decide) fun x43  hx43 kx43 PM42 => ?_)
      rcases PM42 with ⟨PaM42, PbM42, PcM42⟩ | ⟨PaM42, PnM42⟩
      · skip
        refine PW.jz_eq q_189_78 rfl (fun h44 => False.elim (by omega)) (fun h44 => ?_)
        refine PW.aload_n q_189_81 rfl ?_
        refine PW.cI q_189_82 (by decide) fun c45 hc45 => ?_
        refine PW.cV (as := [_]) (rest := []) q_189_83 t_mv_189_205 kd_294 I.1 (by decide) rfl (by decide) rfl rfl (Nat.le_of_ble_eq_true rfl) (Nat.le_of_ble_eq_true rfl) (by decide) (by decide) ?_
        refine PW.up (by decide) (c_X12_isOnce_vk2 (V) (hV) G _ M I c45 (by omega) (by omega) _ i hp_0 (by omega) (by omega) (by omega) fun x47 M46 IM46 GM46 hx47 kx47 PM46 => ?_)
        have FM46 := Fr.trans F GM46 (rfl)
        rcases PM46 with ⟨QM46, ⟨PaM46, PbM46, PfM46, PgM46⟩ | ⟨PaM46, PbM46, PoM46, PtM46⟩⟩
        · skip
          refine PW.jz_eq q_189_86 rfl (fun h48 => ?_) (fun h48 => False.elim (by omega))
          refine PW.cI q_189_104 (by decide) fun c49 hc49 => ?_
          refine PW.rZ q_189_105 rfl (by omega) (by omega) (by decide) (by decide) ?_
          have e : k_line y A i = (3, kP y i, A, i) := by unfold k_line; rw [if_neg PnM2, if_neg PnM22, if_pos ⟨PbM42, PcM42⟩]; unfold k_keeps; rw [if_pos (by omega)]
          exact hK c49 M46 IM46 FM46 (by omega) (by omega) ⟨(gKl.refl.tr QM46 rfl), (by rw [e]; exact Or.inr ⟨by omega, (by omega : (3 : Int) ≠ 0), (by omega : o_i (M46 294) 15 = 3), (by omega : o_i (M46 294) 16 = kP y i)⟩)⟩ (gNl.refl.cg (Fr.at GM46 kd_299 rfl))
        · skip
          refine PW.jz_eq q_189_86 rfl (fun h50 => False.elim (by omega)) (fun h50 => ?_)
          refine PW.aload_n q_189_89 rfl ?_
          refine PW.cI q_189_90 (by decide) fun c51 hc51 => ?_
          refine PW.cI q_189_91 (by decide) fun c52 hc52 => ?_
          refine PW.cB q_189_92 (by decide) fun c53 hc53 => ?_
          refine PW.cV (as := [_, _, _]) (rest := []) q_189_94 t_mv_189_208 kd_294 IM46.1 (by decide) rfl (by decide) rfl rfl (Nat.le_of_ble_eq_true rfl) (Nat.le_of_ble_eq_true rfl) (by decide) (by decide) ?_
          refine PW.up (by decide) (c_X12_puts_vk (V) (hV) G _ M46 IM46 c51 c52 c53 (by omega) (by omega) _ (i + 1) 1 99 PtM46 (by omega) (by omega) fun x55 M54 IM54 GM54 hx55 kx55 PM54 => ?_)
          have FM54 := Fr.trans FM46 GM54 (rfl)
          rcases PM54 with ⟨QM54, ⟨PaM54, PzM54, PvM54, PlM54, PmM54, PtM54, PhM54⟩ | ⟨PaM54, PzM54, PfM54, PgM54⟩⟩
          · skip
            refine PW.jz_eq q_189_97 rfl (fun h56 => False.elim (by omega)) (fun h56 => ?_)
            refine PW.cI q_189_100 (by decide) fun c57 hc57 => ?_
            refine PW.goto q_189_101 rfl ?_
            refine PW.rZ q_189_105 rfl (by omega) (by omega) (by decide) (by decide) ?_
            have e : k_line y A i = (0, 0, (va_up A.1 4 (kV y (i + 1)), A.2), i + 2) := by unfold k_line; rw [if_neg PnM2, if_neg PnM22, if_pos ⟨PbM42, PcM42⟩]; unfold k_keeps; rw [if_neg (by omega), if_neg (by omega)]
            have hz : ∀ z : Nat, ((z ≤ 4 ∧ z ≠ 4) ∨ (29 ≤ z ∧ z ≤ 32)) → o_a (M54 297) z = o_a (M 297) z := fun z hz => ((PhM54 z (by omega)).trans (congrArg (fun e => o_a e z) (Fr.at GM46 kd_297 (by decide))))
            have hnm : ∀ z : Nat, ((8 ≤ z ∧ (z : Int) < 8 + A.1 0) ∨ (14 ≤ z ∧ (z : Int) < 14 + A.1 1)) → o_l (M54 299) z = o_l (M 299) z := fun z hz => ((congrArg (fun e => o_l e z) (Fr.at GM54 kd_299 (by decide))).trans (congrArg (fun e => o_l e z) (Fr.at GM46 kd_299 (by decide))))
            have w20 : o_i (M54 294) 20 = o_i (M46 294) 20 := (QM54.i 20 rfl)
            exact hK c57 M54 IM54 FM54 (by omega) (by omega) ⟨((gKl.refl.tr QM46 rfl).tr QM54 rfl), (by rw [e]; exact Or.inl ⟨by omega, rfl, PtM54, ⟨(by rw [hz 0 (by omega)]; exact kc0), (by rw [hz 1 (by omega)]; exact kc1), (by rw [hz 2 (by omega)]; exact kc2), (by rw [hz 3 (by omega)]; exact kc3), (Or.inr ⟨by show 1 ≤ kV y (i + 1); omega, (by have f := PvM54; rw [show c51.toInt.toNat = 4 from by omega] at f; show _ = kV y (i + 1); omega)⟩), (((QM54.i 19 rfl).trans (QM46.i 19 rfl)).trans kc5), (by omega), (by omega), (by show (o_i (M54 294) 20 % 2 = 1 ↔ (A.1 6 = 1 ∨ 0 < A.1 0)); omega), (by show (o_i (M54 294) 20 / 2 % 2 = 1 ↔ A.1 7 = 1); omega), (by show (o_i (M54 294) 20 / 4 % 2 = 1 ↔ kV y (i + 1) ≠ -1); omega), (fun j hj => by have hj : (j : Int) < A.1 0 := hj; rw [(hnm (8 + j) (by omega))]; exact kc11 j hj), (fun j hj => by have hj : (j : Int) < A.1 1 := hj; rw [(hnm (14 + j) (by omega))]; exact kc12 j hj), (fun j hj => by have hj : (j : Int) < A.1 1 := hj; rw [hz (31 + j) (by omega)]; exact kc13 j hj), (fun j hj => by have hj : (j : Int) < A.1 1 := hj; rw [hz (29 + j) (by omega)]; exact kc14 j hj), (fun j hj h2 => by have hj : A.1 1 ≤ (j : Int) := hj; rw [hz (31 + j) (by omega)]; exact kc15 j (by omega) h2), (by show 0 ≤ A.1 0; omega), (by show A.1 0 ≤ 6; omega), (by show 0 ≤ A.1 1; omega), (by show A.1 1 ≤ 2; omega)⟩⟩)⟩ ((gNl.refl.cg (Fr.at GM46 kd_299 rfl)).cg (Fr.at GM54 kd_299 rfl))
          · skip
            refine PW.jz_eq q_189_97 rfl (fun h58 => ?_) (fun h58 => False.elim (by omega))
            refine PW.cI q_189_104 (by decide) fun c59 hc59 => ?_
            refine PW.rZ q_189_105 rfl (by omega) (by omega) (by decide) (by decide) ?_
            have e : k_line y A i = (k_nr y (i + 1) 1 99, kP y (i + 1), A, i) := by unfold k_line; rw [if_neg PnM2, if_neg PnM22, if_pos ⟨PbM42, PcM42⟩]; unfold k_keeps; rw [if_neg (by omega), if_pos (by omega)]
            exact hK c59 M54 IM54 FM54 (by omega) (by omega) ⟨((gKl.refl.tr QM46 rfl).tr QM54 rfl), (by rw [e]; exact Or.inr ⟨by omega, (by omega : (k_nr y (i + 1) 1 99 : Int) ≠ 0), (by omega : o_i (M54 294) 15 = k_nr y (i + 1) 1 99), (by omega : o_i (M54 294) 16 = kP y (i + 1))⟩)⟩ ((gNl.refl.cg (Fr.at GM46 kd_299 rfl)).cg (Fr.at GM54 kd_299 rfl))
      · skip
        refine PW.jz_eq q_189_78 rfl (fun h60 => ?_) (fun h60 => False.elim (by omega))
        refine PW.aload_n q_189_106 rfl ?_
        refine PW.ldc2 q_189_107 t_lt_189_84 ?_
        refine PW.nmLk fun l61 el61 => ?_
        refine PW.cV (as := [_]) (rest := []) q_189_110 t_mv_189_201 kd_294 I.1 (by decide) rfl (by decide) rfl rfl (Nat.le_of_ble_eq_true rfl) (Nat.le_of_ble_eq_true rfl) (by decide) (by decide) ?_
        refine PW.up (by decide) (c_X12_isWord_vk (V) (hV) G _ M I l61 _ i 3 hp_0 (by rw [el61]; decide +kernel) (by decide) fun x63  hx63 kx63 PM62 => ?_)
        rcases PM62 with ⟨PaM62, PbM62, PcM62⟩ | ⟨PaM62, PnM62⟩
        · skip
          refine PW.jz_eq q_189_113 rfl (fun h64 => False.elim (by omega)) (fun h64 => ?_)
          refine PW.aload_n q_189_116 rfl ?_
          refine PW.cV (as := []) (rest := []) q_189_117 t_mv_189_211 kd_294 I.1 (by decide) rfl (by decide) rfl rfl (Nat.le_of_ble_eq_true rfl) (Nat.le_of_ble_eq_true rfl) (by decide) (by decide) ?_
          refine PW.up (by decide) (c_X12_readWalker_vk (V) (hV) G _ M I _ i _ hp_0 hp_1 (by omega) fun x66 M65 IM65 GM65 hx66 kx66 PM65 TM65 => ?_)
          have FM65 := Fr.trans F GM65 (rfl)
          rcases PM65 with ⟨QM65, PrM65⟩
          refine PW.rZ q_189_120 rfl (by omega) (by omega) (by decide) (by decide) ?_
          have e : k_line y A i = k_walker y A i := by unfold k_line; rw [if_neg PnM2, if_neg PnM22, if_neg PnM42, if_pos ⟨PbM62, PcM62⟩]
          exact hK x66 M65 IM65 FM65 (by omega) (by omega) ⟨(gKl.refl.tr QM65 rfl), (by rw [e]; exact PrM65)⟩ (gNl.refl.tr TM65)
        · skip
          refine PW.jz_eq q_189_113 rfl (fun h67 => ?_) (fun h67 => False.elim (by omega))
          refine PW.aload_n q_189_121 rfl ?_
          refine PW.ldc2 q_189_122 t_lt_189_88 ?_
          refine PW.nmLk fun l68 el68 => ?_
          refine PW.cV (as := [_]) (rest := []) q_189_125 t_mv_189_201 kd_294 I.1 (by decide) rfl (by decide) rfl rfl (Nat.le_of_ble_eq_true rfl) (Nat.le_of_ble_eq_true rfl) (by decide) (by decide) ?_
          refine PW.up (by decide) (c_X12_isWord_vk (V) (hV) G _ M I l68 _ i 5 hp_0 (by rw [el68]; decide +kernel) (by decide) fun x70  hx70 kx70 PM69 => ?_)
          rcases PM69 with ⟨PaM69, PbM69, PcM69⟩ | ⟨PaM69, PnM69⟩
          · skip
            refine PW.jz_eq q_189_128 rfl (fun h71 => False.elim (by omega)) (fun h71 => ?_)
            refine PW.aload_n q_189_131 rfl ?_
            refine PW.cV (as := []) (rest := []) q_189_132 t_mv_189_214 kd_294 I.1 (by decide) rfl (by decide) rfl rfl (Nat.le_of_ble_eq_true rfl) (Nat.le_of_ble_eq_true rfl) (by decide) (by decide) ?_
            refine PW.up (by decide) (c_X12_readDog_vk (V) (hV) G _ M I _ i _ hp_0 hp_1 (by omega) fun x73 M72 IM72 GM72 hx73 kx73 PM72 TM72 => ?_)
            have FM72 := Fr.trans F GM72 (rfl)
            rcases PM72 with ⟨QM72, PrM72⟩
            refine PW.rZ q_189_135 rfl (by omega) (by omega) (by decide) (by decide) ?_
            have e : k_line y A i = k_dog y A i := by unfold k_line; rw [if_neg PnM2, if_neg PnM22, if_neg PnM42, if_neg PnM62, if_pos ⟨PbM69, PcM69⟩]
            exact hK x73 M72 IM72 FM72 (by omega) (by omega) ⟨(gKl.refl.tr QM72 rfl), (by rw [e]; exact PrM72)⟩ (gNl.refl.tr TM72)
          · skip
            refine PW.jz_eq q_189_128 rfl (fun h74 => ?_) (fun h74 => False.elim (by omega))
            refine PW.aload_n q_189_136 rfl ?_
            refine PW.ldc2 q_189_137 t_lt_189_98 ?_
            refine PW.nmLk fun l75 el75 => ?_
            refine PW.cV (as := [_]) (rest := []) q_189_140 t_mv_189_201 kd_294 I.1 (by decide) rfl (by decide) rfl rfl (Nat.le_of_ble_eq_true rfl) (Nat.le_of_ble_eq_true rfl) (by decide) (by decide) ?_
            refine PW.up (by decide) (c_X12_isWord_vk (V) (hV) G _ M I l75 _ i 10 hp_0 (by rw [el75]; decide +kernel) (by decide) fun x77  hx77 kx77 PM76 => ?_)
            rcases PM76 with ⟨PaM76, PbM76, PcM76⟩ | ⟨PaM76, PnM76⟩
            · skip
              refine PW.jz_ne q_189_143 rfl (fun h78 => ?_) (fun h78 => False.elim (by omega))
              refine PW.aload_n q_189_152 rfl ?_
              refine PW.cV (as := []) (rest := []) q_189_153 t_mv_189_173 kd_294 I.1 (by decide) rfl (by decide) rfl rfl (Nat.le_of_ble_eq_true rfl) (Nat.le_of_ble_eq_true rfl) (by decide) (by decide) ?_
              refine PW.up (by decide) (c_X12_go_vk (V) (hV) G _ M I _ (i + 1) (k_ra.nx hp_0 (by omega)) fun M79 IM79 GM79 PM79 => ?_)
              have FM79 := Fr.trans F GM79 (rfl)
              rcases PM79 with ⟨QM79, PtM79⟩
              refine PW.aload_n q_189_156 rfl ?_
              refine PW.cB q_189_157 (by decide) fun c80 hc80 => ?_
              refine PW.aload_n q_189_159 rfl ?_
              refine PW.gR 297 q_189_160 (Or.inl t_ft_189_37) gF_40_7 kd_294 IM79.1 (by decide) rfl ?_
              refine PW.cI q_189_163 (by decide) fun c81 hc81 => ?_
              refine PW.aI q_189_164 gA_43 kd_297 IM79.1 (by decide) gB_43_1_1 (by decide) (by omega) (by omega) fun x82 fx82 hx82 kx82 => ?_
              have eax82 : x82.toInt = A.1 1 := by rw [← fx82, show c81.toInt.toNat = 1 from by omega, (congrArg (fun e => o_a e 1) (Fr.at GM79 kd_297 (by decide)))]; exact kc1
              refine PW.cV (as := [_, _]) (rest := []) q_189_165 t_mv_189_217 kd_294 IM79.1 (by decide) rfl (by decide) rfl rfl (Nat.le_of_ble_eq_true rfl) (Nat.le_of_ble_eq_true rfl) (by decide) (by decide) ?_
              refine PW.up (by decide) (c_X12_looksAt_vkd (V) (hV) G _ M79 IM79 c80 x82 (by omega) (by omega) (by omega) (by omega) _ (i + 1) _ PtM79 (hp_1.rs.cg (fun z hz => (congrArg (fun e => o_a e z) (Fr.at GM79 kd_297 (by decide)))) (fun z hz => (congrArg (fun e => o_l e z) (Fr.at GM79 kd_299 (by decide))))) (by omega) fun x84 M83 IM83 GM83 hx84 kx84 PM83 => ?_)
              have FM83 := Fr.trans FM79 GM83 (rfl)
              rcases PM83 with ⟨QM83, ⟨PaM83, PbM83, PfM83, PgM83⟩ | ⟨PaM83, PbM83, PcM83, PfM83, PgM83⟩ | ⟨PaM83, PbM83, PkM83, PvM83, PnM83, PtM83⟩⟩
              · skip
                refine PW.jz_ne q_189_168 rfl (fun h85 => False.elim (by omega)) (fun h85 => ?_)
                refine PW.cI q_189_171 (by decide) fun c86 hc86 => ?_
                refine PW.rZ q_189_172 rfl (by omega) (by omega) (by decide) (by decide) ?_
                have e : k_line y A i = (1, kP y (i + 1), A, i) := by unfold k_line; rw [if_neg PnM2, if_neg PnM22, if_neg PnM42, if_neg PnM62, if_neg PnM69, if_pos ⟨PbM76, PcM76⟩]; unfold k_tires; rw [if_pos (by omega)]
                exact hK c86 M83 IM83 FM83 (by omega) (by omega) ⟨((gKl.refl.tr QM79 rfl).tr QM83 rfl), (by rw [e]; exact Or.inr ⟨by omega, (by omega : (1 : Int) ≠ 0), (by omega : o_i (M83 294) 15 = 1), (by omega : o_i (M83 294) 16 = kP y (i + 1))⟩)⟩ ((gNl.refl.cg (Fr.at GM79 kd_299 rfl)).cg (Fr.at GM83 kd_299 rfl))
              · skip
                refine PW.jz_ne q_189_168 rfl (fun h87 => False.elim (by omega)) (fun h87 => ?_)
                refine PW.cI q_189_171 (by decide) fun c88 hc88 => ?_
                refine PW.rZ q_189_172 rfl (by omega) (by omega) (by decide) (by decide) ?_
                have e : k_line y A i = (3, kP y (i + 1), A, i) := by unfold k_line; rw [if_neg PnM2, if_neg PnM22, if_neg PnM42, if_neg PnM62, if_neg PnM69, if_pos ⟨PbM76, PcM76⟩]; unfold k_tires; rw [if_neg (by omega), if_pos (by omega)]
                exact hK c88 M83 IM83 FM83 (by omega) (by omega) ⟨((gKl.refl.tr QM79 rfl).tr QM83 rfl), (by rw [e]; exact Or.inr ⟨by omega, (by omega : (3 : Int) ≠ 0), (by omega : o_i (M83 294) 15 = 3), (by omega : o_i (M83 294) 16 = kP y (i + 1))⟩)⟩ ((gNl.refl.cg (Fr.at GM79 kd_299 rfl)).cg (Fr.at GM83 kd_299 rfl))
              · skip
                refine PW.jz_ne q_189_168 rfl (fun h89 => ?_) (fun h89 => False.elim (by omega))
                refine PW.aload_n q_189_173 rfl ?_
                refine PW.gI q_189_174 (Or.inl t_ft_189_180) gF_40_18 kd_294 IM83.1 (by decide) fun x90 fx90 hx90 kx90 => ?_
                have ix90 := o_i_of fx90
                clear hx90 kx90
                have kbx90 := k_fd_b A.2.2.1 (kV y (i + 1)) (A.1 1).toNat
                have gtx90 : x90.toInt = k_fd A.2.2.1 (kV y (i + 1)) (A.1 1).toNat := by omega
                refine PW.istore_n q_189_177 (by decide) ?_
                refine PW.aload_n q_189_178 rfl ?_
                refine PW.gR 297 q_189_179 (Or.inl t_ft_189_37) gF_40_7 kd_294 IM83.1 (by decide) rfl ?_
                refine PW.cB q_189_182 (by decide) fun c91 hc91 => ?_
                refine PW.iload_n q_189_184 rfl ?_
                refine PW.addN q_189_185 (by have := n_lo x90; have := n_hi x90; omega) (by have := n_lo x90; have := n_hi x90; omega) fun x92 hx92 => ?_
                refine PW.aH q_189_186 gA_43 kd_297 IM83.1 (by decide) (by omega) (by omega) fun x93 fx93 => ?_
                have et : x93.toInt = A.2.2.2.1 (k_fd A.2.2.1 (kV y (i + 1)) (A.1 1).toNat).toNat ∧ 0 ≤ A.2.2.2.1 (k_fd A.2.2.1 (kV y (i + 1)) (A.1 1).toNat).toNat := by have w3 := kc13 (k_fd A.2.2.1 (kV y (i + 1)) (A.1 1).toNat).toNat (by omega); rw [← fx93, show x92.toInt.toNat = 31 + (k_fd A.2.2.1 (kV y (i + 1)) (A.1 1).toNat).toNat from by omega, ((congrArg (fun e => o_a e (31 + (k_fd A.2.2.1 (kV y (i + 1)) (A.1 1).toNat).toNat)) (Fr.at GM83 kd_297 (by decide))).trans (congrArg (fun e => o_a e (31 + (k_fd A.2.2.1 (kV y (i + 1)) (A.1 1).toNat).toNat)) (Fr.at GM79 kd_297 (by decide))))]; exact w3
                refine PW.jz_le q_189_187 rfl (fun h94 => ?_) (fun h94 => ?_)
                · skip
                  refine PW.aload_n q_189_196 rfl ?_
                  refine PW.cV (as := []) (rest := []) q_189_197 t_mv_189_173 kd_294 IM83.1 (by decide) rfl (by decide) rfl rfl (Nat.le_of_ble_eq_true rfl) (Nat.le_of_ble_eq_true rfl) (by decide) (by decide) ?_
                  refine PW.up (by decide) (c_X12_go_vk (V) (hV) G _ M83 IM83 _ (i + 2) (k_ra.nx PtM83 (by omega)) fun M95 IM95 GM95 PM95 => ?_)
                  have FM95 := Fr.trans FM83 GM95 (rfl)
                  rcases PM95 with ⟨QM95, PtM95⟩
                  refine PW.aload_n q_189_200 rfl ?_
                  refine PW.cB q_189_201 (by decide) fun c96 hc96 => ?_
                  refine PW.iload_n q_189_203 rfl ?_
                  refine PW.addN q_189_204 (by have := n_lo x90; have := n_hi x90; omega) (by have := n_lo x90; have := n_hi x90; omega) fun x97 hx97 => ?_
                  refine PW.cI q_189_205 (by decide) fun c98 hc98 => ?_
                  refine PW.cB q_189_206 (by decide) fun c99 hc99 => ?_
                  refine PW.cV (as := [_, _, _]) (rest := []) q_189_208 t_mv_189_208 kd_294 IM95.1 (by decide) rfl (by decide) rfl rfl (Nat.le_of_ble_eq_true rfl) (Nat.le_of_ble_eq_true rfl) (by decide) (by decide) ?_
                  refine PW.up (by decide) (c_X12_puts_vkd (V) (hV) G _ M95 IM95 x97 c98 c99 (by omega) (by omega) _ (i + 2) 1 20 PtM95 (by omega) (by omega) fun x101 M100 IM100 GM100 hx101 kx101 PM100 => ?_)
                  have FM100 := Fr.trans FM95 GM100 (rfl)
                  rcases PM100 with ⟨QM100, ⟨PaM100, PzM100, PvM100, PlM100, PmM100, PtM100, PhM100⟩ | ⟨PaM100, PzM100, PfM100, PgM100⟩⟩
                  · skip
                    refine PW.rZ q_189_211 rfl (by omega) (by omega) (by decide) (by decide) ?_
                    have e : k_line y A i = (0, 0, (A.1, A.2.1, A.2.2.1, va_up A.2.2.2.1 (k_fd A.2.2.1 (kV y (i + 1)) (A.1 1).toNat).toNat (kV y (i + 2)), A.2.2.2.2), i + 3) := by unfold k_line; rw [if_neg PnM2, if_neg PnM22, if_neg PnM42, if_neg PnM62, if_neg PnM69, if_pos ⟨PbM76, PcM76⟩]; unfold k_tires; rw [if_neg (by omega), if_neg (by omega), if_neg (by omega), if_neg (by omega)]
                    have hz : ∀ z : Nat, ((z ≤ 4) ∨ (29 ≤ z ∧ z ≤ 32 ∧ z ≠ 31 + (k_fd A.2.2.1 (kV y (i + 1)) (A.1 1).toNat).toNat)) → o_a (M100 297) z = o_a (M 297) z := fun z hz => ((PhM100 z (by omega)).trans ((congrArg (fun e => o_a e z) (Fr.at GM95 kd_297 (by decide))).trans ((congrArg (fun e => o_a e z) (Fr.at GM83 kd_297 (by decide))).trans (congrArg (fun e => o_a e z) (Fr.at GM79 kd_297 (by decide))))))
                    have hnm : ∀ z : Nat, ((8 ≤ z ∧ (z : Int) < 8 + A.1 0) ∨ (14 ≤ z ∧ (z : Int) < 14 + A.1 1)) → o_l (M100 299) z = o_l (M 299) z := fun z hz => ((congrArg (fun e => o_l e z) (Fr.at GM100 kd_299 (by decide))).trans ((congrArg (fun e => o_l e z) (Fr.at GM95 kd_299 (by decide))).trans ((congrArg (fun e => o_l e z) (Fr.at GM83 kd_299 (by decide))).trans (congrArg (fun e => o_l e z) (Fr.at GM79 kd_299 (by decide))))))
                    have w20 : o_i (M100 294) 20 = o_i (M 294) 20 := ((QM100.i 20 rfl).trans ((QM95.i 20 rfl).trans ((QM83.i 20 rfl).trans (QM79.i 20 rfl))))
                    exact hK x101 M100 IM100 FM100 (by omega) (by omega) ⟨((((gKl.refl.tr QM79 rfl).tr QM83 rfl).tr QM95 rfl).tr QM100 rfl), (by rw [e]; exact Or.inl ⟨by omega, rfl, PtM100, ⟨(by rw [hz 0 (by omega)]; exact kc0), (by rw [hz 1 (by omega)]; exact kc1), (by rw [hz 2 (by omega)]; exact kc2), (by rw [hz 3 (by omega)]; exact kc3), (by rw [hz 4 (by omega)]; exact kc4), (((QM100.i 19 rfl).trans ((QM95.i 19 rfl).trans ((QM83.i 19 rfl).trans (QM79.i 19 rfl)))).trans kc5), (by omega), (by omega), (by show (o_i (M100 294) 20 % 2 = 1 ↔ (A.1 6 = 1 ∨ 0 < A.1 0)); omega), (by show (o_i (M100 294) 20 / 2 % 2 = 1 ↔ A.1 7 = 1); omega), (by show (o_i (M100 294) 20 / 4 % 2 = 1 ↔ A.1 4 ≠ -1); omega), (fun j hj => by have hj : (j : Int) < A.1 0 := hj; rw [(hnm (8 + j) (by omega))]; exact kc11 j hj), (fun j hj => by have hj : (j : Int) < A.1 1 := hj; rw [(hnm (14 + j) (by omega))]; exact kc12 j hj), (k_upq (e0 := M 297) kc13 (by have f := PvM100; rw [show x97.toInt.toNat = 31 + (k_fd A.2.2.1 (kV y (i + 1)) (A.1 1).toNat).toNat from by omega] at f; exact f) (by omega) (fun j hj h2 => by have h2 : (j : Int) < A.1 1 := h2; exact hz (31 + j) (by omega))), (fun j hj => by have hj : (j : Int) < A.1 1 := hj; rw [hz (29 + j) (by omega)]; exact kc14 j hj), (fun j hj h2 => by have hj : A.1 1 ≤ (j : Int) := hj; rw [hz (31 + j) (by omega)]; exact kc15 j (by omega) h2), (by show 0 ≤ A.1 0; omega), (by show A.1 0 ≤ 6; omega), (by show 0 ≤ A.1 1; omega), (by show A.1 1 ≤ 2; omega)⟩⟩)⟩ ((((gNl.refl.cg (Fr.at GM79 kd_299 rfl)).cg (Fr.at GM83 kd_299 rfl)).cg (Fr.at GM95 kd_299 rfl)).cg (Fr.at GM100 kd_299 rfl))
                  · skip
                    refine PW.rZ q_189_211 rfl (by omega) (by omega) (by decide) (by decide) ?_
                    have e : k_line y A i = (k_nr y (i + 2) 1 20, kP y (i + 2), A, i) := by unfold k_line; rw [if_neg PnM2, if_neg PnM22, if_neg PnM42, if_neg PnM62, if_neg PnM69, if_pos ⟨PbM76, PcM76⟩]; unfold k_tires; rw [if_neg (by omega), if_neg (by omega), if_neg (by omega), if_pos (by omega)]
                    exact hK x101 M100 IM100 FM100 (by omega) (by omega) ⟨((((gKl.refl.tr QM79 rfl).tr QM83 rfl).tr QM95 rfl).tr QM100 rfl), (by rw [e]; exact Or.inr ⟨by omega, (by omega : (k_nr y (i + 2) 1 20 : Int) ≠ 0), (by omega : o_i (M100 294) 15 = k_nr y (i + 2) 1 20), (by omega : o_i (M100 294) 16 = kP y (i + 2))⟩)⟩ ((((gNl.refl.cg (Fr.at GM79 kd_299 rfl)).cg (Fr.at GM83 kd_299 rfl)).cg (Fr.at GM95 kd_299 rfl)).cg (Fr.at GM100 kd_299 rfl))
                · skip
                  refine PW.aload_n q_189_190 rfl ?_
                  refine PW.cI q_189_191 (by decide) fun c102 hc102 => ?_
                  refine PW.cV (as := [_]) (rest := []) q_189_192 t_mv_189_170 kd_294 IM83.1 (by decide) rfl (by decide) rfl rfl (Nat.le_of_ble_eq_true rfl) (Nat.le_of_ble_eq_true rfl) (by decide) (by decide) ?_
                  refine PW.up (by decide) (c_X12_bad_vk (V) (hV) G _ M83 IM83 c102 _ (i + 1) PtM83 fun x104 M103 IM103 GM103 hx104 kx104 PM103 => ?_)
                  have FM103 := Fr.trans FM83 GM103 (rfl)
                  rcases PM103 with ⟨QM103, ⟨PfM103, PgM103⟩⟩
                  refine PW.rZ q_189_195 rfl (by omega) (by omega) (by decide) (by decide) ?_
                  have e : k_line y A i = (3, kP y (i + 1), A, i) := by unfold k_line; rw [if_neg PnM2, if_neg PnM22, if_neg PnM42, if_neg PnM62, if_neg PnM69, if_pos ⟨PbM76, PcM76⟩]; unfold k_tires; rw [if_neg (by omega), if_neg (by omega), if_pos (by omega)]
                  exact hK x104 M103 IM103 FM103 (by omega) (by omega) ⟨(((gKl.refl.tr QM79 rfl).tr QM83 rfl).tr QM103 rfl), (by rw [e]; exact Or.inr ⟨by omega, (by omega : (3 : Int) ≠ 0), (by omega : o_i (M103 294) 15 = 3), (by omega : o_i (M103 294) 16 = kP y (i + 1))⟩)⟩ (((gNl.refl.cg (Fr.at GM79 kd_299 rfl)).cg (Fr.at GM83 kd_299 rfl)).cg (Fr.at GM103 kd_299 rfl))
            · skip
              refine PW.jz_ne q_189_143 rfl (fun h105 => False.elim (by omega)) (fun h105 => ?_)
              refine PW.aload_n q_189_146 rfl ?_
              refine PW.cI q_189_147 (by decide) fun c106 hc106 => ?_
              refine PW.cV (as := [_]) (rest := []) q_189_148 t_mv_189_170 kd_294 I.1 (by decide) rfl (by decide) rfl rfl (Nat.le_of_ble_eq_true rfl) (Nat.le_of_ble_eq_true rfl) (by decide) (by decide) ?_
              refine PW.up (by decide) (c_X12_bad_vk (V) (hV) G _ M I c106 _ i hp_0 fun x108 M107 IM107 GM107 hx108 kx108 PM107 => ?_)
              have FM107 := Fr.trans F GM107 (rfl)
              rcases PM107 with ⟨QM107, ⟨PfM107, PgM107⟩⟩
              refine PW.rZ q_189_151 rfl (by omega) (by omega) (by decide) (by decide) ?_
              have e : k_line y A i = (1, kP y i, A, i) := by unfold k_line; rw [if_neg PnM2, if_neg PnM22, if_neg PnM42, if_neg PnM62, if_neg PnM69, if_neg PnM76]
              exact hK x108 M107 IM107 FM107 (by omega) (by omega) ⟨(gKl.refl.tr QM107 rfl), (by rw [e]; exact Or.inr ⟨by omega, (by omega : (1 : Int) ≠ 0), (by omega : o_i (M107 294) 15 = 1), (by omega : o_i (M107 294) 16 = kP y i)⟩)⟩ (gNl.refl.cg (Fr.at GM107 kd_299 rfl))
