/-! ===== the machine as a program ===== -/
abbrev pA : Type := (Nat × List (Nat × Value) × List Value × Nat × pM × Nat × Nat) ⊕ (Nat × List Value × List Value) ⊕ Option Value
def p_ocl (ci : Nat) : Nat := if ci < 9 then ci else ci + 1
def p_ocT (t : Nat) : Nat := if t = 4 then 0 else if t = 5 then 5 else if t = 6 then 8 else if t = 7 then 10 else 9
theorem p_ocl_own {ci : Nat} (h : ci < 12) : p_own (p_ocl ci) = (p_cl ci).1 := by
  match ci, h with
  | 0, _ => rfl
  | 1, _ => rfl
  | 2, _ => rfl
  | 3, _ => rfl
  | 4, _ => rfl
  | 5, _ => rfl
  | 6, _ => rfl
  | 7, _ => rfl
  | 8, _ => rfl
  | 9, _ => rfl
  | 10, _ => rfl
  | 11, _ => rfl
  | n + 12, h => exact absurd h (by omega)
theorem p_ocT_own {t : Nat} (h4 : 4 ≤ t) (h9 : t < 9) : p_own (p_ocT t) = p_tn t := by
  match t, h4, h9 with
  | 4, _, _ => rfl
  | 5, _, _ => rfl
  | 6, _, _ => rfl
  | 7, _, _ => rfl
  | 8, _, _ => rfl
  | n + 9, _, h => exact absurd h (by omega)
def p_x_iconst (n : Int) (al : Bool) (d j mc ms len pc : Nat) (lv : List (Nat × Value)) (st : List Value) (N : Nat) (M : pM) (ce sl : Nat) : Option pA := if len = 1 then some (.inl (pc + 1, lv, .int (Int32.ofInt n) :: st, N, M, ce, sl)) else none
def p_x_bipush (n : Int) (al : Bool) (d j mc ms len pc : Nat) (lv : List (Nat × Value)) (st : List Value) (N : Nat) (M : pM) (ce sl : Nat) : Option pA := if len = 2 then some (.inl (pc + 2, lv, .int (Int8.ofInt n).toInt32 :: st, N, M, ce, sl)) else none
def p_x_sipush (n : Int) (al : Bool) (d j mc ms len pc : Nat) (lv : List (Nat × Value)) (st : List Value) (N : Nat) (M : pM) (ce sl : Nat) : Option pA := if len = 3 then some (.inl (pc + 3, lv, .int (Int16.ofInt n).toInt32 :: st, N, M, ce, sl)) else none
def p_x_lconst (n : Fin 2) (al : Bool) (d j mc ms len pc : Nat) (lv : List (Nat × Value)) (st : List Value) (N : Nat) (M : pM) (ce sl : Nat) : Option pA := if len = 1 then some (.inl (pc + 1, lv, .long (Int64.ofNat (n : Nat)) :: st, N, M, ce, sl)) else none
def p_x_iload_n (n : Fin 4) (al : Bool) (d j mc ms len pc : Nat) (lv : List (Nat × Value)) (st : List Value) (N : Nat) (M : pM) (ce sl : Nat) : Option pA := if len = 1 then (match p_lk lv n with | some (.int x) => some (.inl (pc + 1, lv, .int x :: st, N, M, ce, sl)) | _ => none) else none
def p_x_iload (n : Nat) (al : Bool) (d j mc ms len pc : Nat) (lv : List (Nat × Value)) (st : List Value) (N : Nat) (M : pM) (ce sl : Nat) : Option pA := if len = 2 then (match p_lk lv n with | some (.int x) => some (.inl (pc + 2, lv, .int x :: st, N, M, ce, sl)) | _ => none) else none
def p_x_istore_n (n : Fin 4) (al : Bool) (d j mc ms len pc : Nat) (lv : List (Nat × Value)) (st : List Value) (N : Nat) (M : pM) (ce sl : Nat) : Option pA := match st with | .int x :: r => (if len = 1 then (if (n : Nat) < p_mL j then some (.inl (pc + 1, p_s1 lv n (.int x), r, N, M, ce, sl)) else none) else none) | _ => none
def p_x_istore (n : Nat) (al : Bool) (d j mc ms len pc : Nat) (lv : List (Nat × Value)) (st : List Value) (N : Nat) (M : pM) (ce sl : Nat) : Option pA := match st with | .int x :: r => (if len = 2 then (if n < p_mL j then some (.inl (pc + 2, p_s1 lv n (.int x), r, N, M, ce, sl)) else none) else none) | _ => none
def p_x_lload_n (n : Fin 4) (al : Bool) (d j mc ms len pc : Nat) (lv : List (Nat × Value)) (st : List Value) (N : Nat) (M : pM) (ce sl : Nat) : Option pA := if len = 1 then (match p_lk lv n with | some (.long x) => some (.inl (pc + 1, lv, .long x :: st, N, M, ce, sl)) | _ => none) else none
def p_x_lload (n : Nat) (al : Bool) (d j mc ms len pc : Nat) (lv : List (Nat × Value)) (st : List Value) (N : Nat) (M : pM) (ce sl : Nat) : Option pA := if len = 2 then (match p_lk lv n with | some (.long x) => some (.inl (pc + 2, lv, .long x :: st, N, M, ce, sl)) | _ => none) else none
def p_x_lstore_n (n : Fin 4) (al : Bool) (d j mc ms len pc : Nat) (lv : List (Nat × Value)) (st : List Value) (N : Nat) (M : pM) (ce sl : Nat) : Option pA := match st with | .long x :: r => (if len = 1 then (if (n : Nat) + 1 < p_mL j then some (.inl (pc + 1, p_s2 lv n (.long x), r, N, M, ce, sl)) else none) else none) | _ => none
def p_x_lstore (n : Nat) (al : Bool) (d j mc ms len pc : Nat) (lv : List (Nat × Value)) (st : List Value) (N : Nat) (M : pM) (ce sl : Nat) : Option pA := match st with | .long x :: r => (if len = 2 then (if n + 1 < p_mL j then some (.inl (pc + 2, p_s2 lv n (.long x), r, N, M, ce, sl)) else none) else none) | _ => none
def p_x_aload_n (n : Fin 4) (al : Bool) (d j mc ms len pc : Nat) (lv : List (Nat × Value)) (st : List Value) (N : Nat) (M : pM) (ce sl : Nat) : Option pA := if len = 1 then (match p_lk lv n with | some (.ref x) => some (.inl (pc + 1, lv, .ref x :: st, N, M, ce, sl)) | _ => none) else none
def p_x_aload (n : Nat) (al : Bool) (d j mc ms len pc : Nat) (lv : List (Nat × Value)) (st : List Value) (N : Nat) (M : pM) (ce sl : Nat) : Option pA := if len = 2 then (match p_lk lv n with | some (.ref x) => some (.inl (pc + 2, lv, .ref x :: st, N, M, ce, sl)) | _ => none) else none
def p_x_astore_n (n : Fin 4) (al : Bool) (d j mc ms len pc : Nat) (lv : List (Nat × Value)) (st : List Value) (N : Nat) (M : pM) (ce sl : Nat) : Option pA := match st with | .ref x :: r => (if len = 1 then (if (n : Nat) < p_mL j then some (.inl (pc + 1, p_s1 lv n (.ref x), r, N, M, ce, sl)) else none) else none) | _ => none
def p_x_astore (n : Nat) (al : Bool) (d j mc ms len pc : Nat) (lv : List (Nat × Value)) (st : List Value) (N : Nat) (M : pM) (ce sl : Nat) : Option pA := match st with | .ref x :: r => (if len = 2 then (if n < p_mL j then some (.inl (pc + 2, p_s1 lv n (.ref x), r, N, M, ce, sl)) else none) else none) | _ => none
def p_x_iinc (i : Nat) (n : Int) (al : Bool) (d j mc ms len pc : Nat) (lv : List (Nat × Value)) (st : List Value) (N : Nat) (M : pM) (ce sl : Nat) : Option pA := if len = 3 then (match p_lk lv i with | some (.int x) => (if i < p_mL j then some (.inl (pc + 3, p_s1 lv i (.int (x + Int32.ofInt n)), st, N, M, ce, sl)) else none) | _ => none) else none
def p_x_goto (off : Int) (al : Bool) (d j mc ms len pc : Nat) (lv : List (Nat × Value)) (st : List Value) (N : Nat) (M : pM) (ce sl : Nat) : Option pA := if len = 3 then (if (pc : Int) + off = ((((pc : Int) + off).toNat : Nat) : Int) then some (.inl (((pc : Int) + off).toNat, lv, st, N, M, ce, sl)) else none) else none
def p_x_dup  (al : Bool) (d j mc ms len pc : Nat) (lv : List (Nat × Value)) (st : List Value) (N : Nat) (M : pM) (ce sl : Nat) : Option pA := match st with | v :: r => (if len = 1 then (if v.category = 1 then some (.inl (pc + 1, lv, v :: v :: r, N, M, ce, sl)) else none) else none) | _ => none
def p_x_pop  (al : Bool) (d j mc ms len pc : Nat) (lv : List (Nat × Value)) (st : List Value) (N : Nat) (M : pM) (ce sl : Nat) : Option pA := match st with | v :: r => (if len = 1 then (if v.category = 1 then some (.inl (pc + 1, lv, r, N, M, ce, sl)) else none) else none) | _ => none
def p_x_dup2  (al : Bool) (d j mc ms len pc : Nat) (lv : List (Nat × Value)) (st : List Value) (N : Nat) (M : pM) (ce sl : Nat) : Option pA := match st with | v :: w :: r => (if len = 1 then (if v.category = 1 then (if w.category = 1 then some (.inl (pc + 1, lv, v :: w :: v :: w :: r, N, M, ce, sl)) else none) else none) else none) | _ => none
def p_x_iadd  (al : Bool) (d j mc ms len pc : Nat) (lv : List (Nat × Value)) (st : List Value) (N : Nat) (M : pM) (ce sl : Nat) : Option pA := match st with | .int y :: .int x :: r => (if len = 1 then some (.inl (pc + 1, lv, .int (x + y) :: r, N, M, ce, sl)) else none) | _ => none
def p_x_isub  (al : Bool) (d j mc ms len pc : Nat) (lv : List (Nat × Value)) (st : List Value) (N : Nat) (M : pM) (ce sl : Nat) : Option pA := match st with | .int y :: .int x :: r => (if len = 1 then some (.inl (pc + 1, lv, .int (x - y) :: r, N, M, ce, sl)) else none) | _ => none
def p_x_imul  (al : Bool) (d j mc ms len pc : Nat) (lv : List (Nat × Value)) (st : List Value) (N : Nat) (M : pM) (ce sl : Nat) : Option pA := match st with | .int y :: .int x :: r => (if len = 1 then some (.inl (pc + 1, lv, .int (x * y) :: r, N, M, ce, sl)) else none) | _ => none
def p_x_iand  (al : Bool) (d j mc ms len pc : Nat) (lv : List (Nat × Value)) (st : List Value) (N : Nat) (M : pM) (ce sl : Nat) : Option pA := match st with | .int y :: .int x :: r => (if len = 1 then some (.inl (pc + 1, lv, .int (x &&& y) :: r, N, M, ce, sl)) else none) | _ => none
def p_x_ior  (al : Bool) (d j mc ms len pc : Nat) (lv : List (Nat × Value)) (st : List Value) (N : Nat) (M : pM) (ce sl : Nat) : Option pA := match st with | .int y :: .int x :: r => (if len = 1 then some (.inl (pc + 1, lv, .int (x ||| y) :: r, N, M, ce, sl)) else none) | _ => none
def p_x_ixor  (al : Bool) (d j mc ms len pc : Nat) (lv : List (Nat × Value)) (st : List Value) (N : Nat) (M : pM) (ce sl : Nat) : Option pA := match st with | .int y :: .int x :: r => (if len = 1 then some (.inl (pc + 1, lv, .int (x ^^^ y) :: r, N, M, ce, sl)) else none) | _ => none
def p_x_ishl  (al : Bool) (d j mc ms len pc : Nat) (lv : List (Nat × Value)) (st : List Value) (N : Nat) (M : pM) (ce sl : Nat) : Option pA := match st with | .int y :: .int x :: r => (if len = 1 then some (.inl (pc + 1, lv, .int (x <<< (y &&& 31)) :: r, N, M, ce, sl)) else none) | _ => none
def p_x_ishr  (al : Bool) (d j mc ms len pc : Nat) (lv : List (Nat × Value)) (st : List Value) (N : Nat) (M : pM) (ce sl : Nat) : Option pA := match st with | .int y :: .int x :: r => (if len = 1 then some (.inl (pc + 1, lv, .int (x >>> (y &&& 31)) :: r, N, M, ce, sl)) else none) | _ => none
def p_x_iushr  (al : Bool) (d j mc ms len pc : Nat) (lv : List (Nat × Value)) (st : List Value) (N : Nat) (M : pM) (ce sl : Nat) : Option pA := match st with | .int y :: .int x :: r => (if len = 1 then some (.inl (pc + 1, lv, .int ((x.toUInt32 >>> (y.toUInt32 &&& Int32.toUInt32 31)).toInt32) :: r, N, M, ce, sl)) else none) | _ => none
def p_x_idiv  (al : Bool) (d j mc ms len pc : Nat) (lv : List (Nat × Value)) (st : List Value) (N : Nat) (M : pM) (ce sl : Nat) : Option pA := match st with | .int y :: .int x :: r => (if len = 1 then (if ¬ y = 0 then some (.inl (pc + 1, lv, .int (x / y) :: r, N, M, ce, sl)) else none) else none) | _ => none
def p_x_irem  (al : Bool) (d j mc ms len pc : Nat) (lv : List (Nat × Value)) (st : List Value) (N : Nat) (M : pM) (ce sl : Nat) : Option pA := match st with | .int y :: .int x :: r => (if len = 1 then (if ¬ y = 0 then some (.inl (pc + 1, lv, .int (x - x / y * y) :: r, N, M, ce, sl)) else none) else none) | _ => none
def p_x_ineg  (al : Bool) (d j mc ms len pc : Nat) (lv : List (Nat × Value)) (st : List Value) (N : Nat) (M : pM) (ce sl : Nat) : Option pA := match st with | .int x :: r => (if len = 1 then some (.inl (pc + 1, lv, .int (-x) :: r, N, M, ce, sl)) else none) | _ => none
def p_x_ladd  (al : Bool) (d j mc ms len pc : Nat) (lv : List (Nat × Value)) (st : List Value) (N : Nat) (M : pM) (ce sl : Nat) : Option pA := match st with | .long y :: .long x :: r => (if len = 1 then some (.inl (pc + 1, lv, .long (x + y) :: r, N, M, ce, sl)) else none) | _ => none
def p_x_lmul  (al : Bool) (d j mc ms len pc : Nat) (lv : List (Nat × Value)) (st : List Value) (N : Nat) (M : pM) (ce sl : Nat) : Option pA := match st with | .long y :: .long x :: r => (if len = 1 then some (.inl (pc + 1, lv, .long (x * y) :: r, N, M, ce, sl)) else none) | _ => none
def p_x_lor  (al : Bool) (d j mc ms len pc : Nat) (lv : List (Nat × Value)) (st : List Value) (N : Nat) (M : pM) (ce sl : Nat) : Option pA := match st with | .long y :: .long x :: r => (if len = 1 then some (.inl (pc + 1, lv, .long (x ||| y) :: r, N, M, ce, sl)) else none) | _ => none
def p_x_ldiv  (al : Bool) (d j mc ms len pc : Nat) (lv : List (Nat × Value)) (st : List Value) (N : Nat) (M : pM) (ce sl : Nat) : Option pA := match st with | .long y :: .long x :: r => (if len = 1 then (if ¬ y = 0 then some (.inl (pc + 1, lv, .long (x / y) :: r, N, M, ce, sl)) else none) else none) | _ => none
def p_x_lrem  (al : Bool) (d j mc ms len pc : Nat) (lv : List (Nat × Value)) (st : List Value) (N : Nat) (M : pM) (ce sl : Nat) : Option pA := match st with | .long y :: .long x :: r => (if len = 1 then (if ¬ y = 0 then some (.inl (pc + 1, lv, .long (x - x / y * y) :: r, N, M, ce, sl)) else none) else none) | _ => none
def p_x_lshl  (al : Bool) (d j mc ms len pc : Nat) (lv : List (Nat × Value)) (st : List Value) (N : Nat) (M : pM) (ce sl : Nat) : Option pA := match st with | .int y :: .long x :: r => (if len = 1 then some (.inl (pc + 1, lv, .long (x <<< (y.toInt64 &&& 63)) :: r, N, M, ce, sl)) else none) | _ => none
def p_x_lcmp  (al : Bool) (d j mc ms len pc : Nat) (lv : List (Nat × Value)) (st : List Value) (N : Nat) (M : pM) (ce sl : Nat) : Option pA := match st with | .long y :: .long x :: r => (if len = 1 then some (.inl (pc + 1, lv, .int (lg_cmp x y) :: r, N, M, ce, sl)) else none) | _ => none
def p_x_i2l  (al : Bool) (d j mc ms len pc : Nat) (lv : List (Nat × Value)) (st : List Value) (N : Nat) (M : pM) (ce sl : Nat) : Option pA := match st with | .int x :: r => (if len = 1 then some (.inl (pc + 1, lv, .long x.toInt64 :: r, N, M, ce, sl)) else none) | _ => none
def p_x_l2i  (al : Bool) (d j mc ms len pc : Nat) (lv : List (Nat × Value)) (st : List Value) (N : Nat) (M : pM) (ce sl : Nat) : Option pA := match st with | .long x :: r => (if len = 1 then some (.inl (pc + 1, lv, .int x.toInt32 :: r, N, M, ce, sl)) else none) | _ => none
def p_x_i2b  (al : Bool) (d j mc ms len pc : Nat) (lv : List (Nat × Value)) (st : List Value) (N : Nat) (M : pM) (ce sl : Nat) : Option pA := match st with | .int x :: r => (if len = 1 then some (.inl (pc + 1, lv, .int x.toInt8.toInt32 :: r, N, M, ce, sl)) else none) | _ => none
def p_x_ifCond (cnd : ClassFile.Cond) (off : Int) (al : Bool) (d j mc ms len pc : Nat) (lv : List (Nat × Value)) (st : List Value) (N : Nat) (M : pM) (ce sl : Nat) : Option pA := match st with | .int x :: r => (match cnd with | .eq => (if len = 3 then (if (pc : Int) + off = ((((pc : Int) + off).toNat : Nat) : Int) then (if x = 0 then some (.inl (((pc : Int) + off).toNat, lv, r, N, M, ce, sl)) else some (.inl (pc + 3, lv, r, N, M, ce, sl))) else none) else none) | .ne => (if len = 3 then (if (pc : Int) + off = ((((pc : Int) + off).toNat : Nat) : Int) then (if ¬ x = 0 then some (.inl (((pc : Int) + off).toNat, lv, r, N, M, ce, sl)) else some (.inl (pc + 3, lv, r, N, M, ce, sl))) else none) else none) | .lt => (if len = 3 then (if (pc : Int) + off = ((((pc : Int) + off).toNat : Nat) : Int) then (if x < 0 then some (.inl (((pc : Int) + off).toNat, lv, r, N, M, ce, sl)) else some (.inl (pc + 3, lv, r, N, M, ce, sl))) else none) else none) | .ge => (if len = 3 then (if (pc : Int) + off = ((((pc : Int) + off).toNat : Nat) : Int) then (if 0 ≤ x then some (.inl (((pc : Int) + off).toNat, lv, r, N, M, ce, sl)) else some (.inl (pc + 3, lv, r, N, M, ce, sl))) else none) else none) | .gt => (if len = 3 then (if (pc : Int) + off = ((((pc : Int) + off).toNat : Nat) : Int) then (if 0 < x then some (.inl (((pc : Int) + off).toNat, lv, r, N, M, ce, sl)) else some (.inl (pc + 3, lv, r, N, M, ce, sl))) else none) else none) | .le => (if len = 3 then (if (pc : Int) + off = ((((pc : Int) + off).toNat : Nat) : Int) then (if x ≤ 0 then some (.inl (((pc : Int) + off).toNat, lv, r, N, M, ce, sl)) else some (.inl (pc + 3, lv, r, N, M, ce, sl))) else none) else none)) | _ => none
def p_x_if_icmp (cnd : ClassFile.Cond) (off : Int) (al : Bool) (d j mc ms len pc : Nat) (lv : List (Nat × Value)) (st : List Value) (N : Nat) (M : pM) (ce sl : Nat) : Option pA := match st with | .int y :: .int x :: r => (match cnd with | .eq => (if len = 3 then (if (pc : Int) + off = ((((pc : Int) + off).toNat : Nat) : Int) then (if x = y then some (.inl (((pc : Int) + off).toNat, lv, r, N, M, ce, sl)) else some (.inl (pc + 3, lv, r, N, M, ce, sl))) else none) else none) | .ne => (if len = 3 then (if (pc : Int) + off = ((((pc : Int) + off).toNat : Nat) : Int) then (if ¬ x = y then some (.inl (((pc : Int) + off).toNat, lv, r, N, M, ce, sl)) else some (.inl (pc + 3, lv, r, N, M, ce, sl))) else none) else none) | .lt => (if len = 3 then (if (pc : Int) + off = ((((pc : Int) + off).toNat : Nat) : Int) then (if x < y then some (.inl (((pc : Int) + off).toNat, lv, r, N, M, ce, sl)) else some (.inl (pc + 3, lv, r, N, M, ce, sl))) else none) else none) | .ge => (if len = 3 then (if (pc : Int) + off = ((((pc : Int) + off).toNat : Nat) : Int) then (if y ≤ x then some (.inl (((pc : Int) + off).toNat, lv, r, N, M, ce, sl)) else some (.inl (pc + 3, lv, r, N, M, ce, sl))) else none) else none) | .gt => (if len = 3 then (if (pc : Int) + off = ((((pc : Int) + off).toNat : Nat) : Int) then (if y < x then some (.inl (((pc : Int) + off).toNat, lv, r, N, M, ce, sl)) else some (.inl (pc + 3, lv, r, N, M, ce, sl))) else none) else none) | .le => (if len = 3 then (if (pc : Int) + off = ((((pc : Int) + off).toNat : Nat) : Int) then (if x ≤ y then some (.inl (((pc : Int) + off).toNat, lv, r, N, M, ce, sl)) else some (.inl (pc + 3, lv, r, N, M, ce, sl))) else none) else none)) | _ => none
def p_x_getfield (idx : Nat) (al : Bool) (d j mc ms len pc : Nat) (lv : List (Nat × Value)) (st : List Value) (N : Nat) (M : pM) (ce sl : Nat) : Option pA := match st with | .ref a :: r => (match p_f2 p_ft (p_mK j) idx with | some (ci, k) => (match M a with | .inr (ci2, fs) => (if len = 3 then (if ci2 = ci then (if a < N then (match fs[k]? with | some v => some (.inl (pc + 3, lv, v :: r, N, M, ce, sl)) | none => none) else none) else none) else none) | _ => none) | none => (match p_f2 p_fN (p_mK j) idx with | some (ci, k) => (match M a with | .inr (ci2, fs) => (if len = 3 then (if ci2 = ci then (if a < N then (match fs[k]? with | some v => some (.inl (pc + 3, lv, v :: r, N, M, ce, sl)) | none => none) else none) else none) else none) | _ => none) | none => none)) | _ => none
def p_x_putfield (idx : Nat) (al : Bool) (d j mc ms len pc : Nat) (lv : List (Nat × Value)) (st : List Value) (N : Nat) (M : pM) (ce sl : Nat) : Option pA := match st with | v :: .ref a :: r => (match p_f2 p_ft (p_mK j) idx with | some (ci, k) => (match M a with | .inr (ci2, fs) => (if len = 3 then (if ci2 = ci then (if a < N then (if k < fs.length then (if p_fv (p_tyf ci k) v = true then (if ((p_cl ci).2.1 k).2.2.2 = false then some (.inl (pc + 3, lv, r, N, va_up M a (.inr (ci, fs.set k v)), ce, sl)) else (if p_mI j = true then (if p_ocl ci = p_mK j then some (.inl (pc + 3, lv, r, N, va_up M a (.inr (ci, fs.set k v)), ce, sl)) else none) else none)) else none) else none) else none) else none) else none) | _ => none) | none => (match p_f2 p_fN (p_mK j) idx with | some (ci, k) => (match M a with | .inr (ci2, fs) => (if len = 3 then (if ci2 = ci then (if a < N then (if k < fs.length then (if p_fv (p_tyf ci k) v = true then (if ((p_cl ci).2.1 k).2.2.2 = false then some (.inl (pc + 3, lv, r, N, va_up M a (.inr (ci, fs.set k v)), ce, sl)) else none) else none) else none) else none) else none) else none) | _ => none) | none => none)) | _ => none
def p_x_new (idx : Nat) (al : Bool) (d j mc ms len pc : Nat) (lv : List (Nat × Value)) (st : List Value) (N : Nat) (M : pM) (ce sl : Nat) : Option pA := match p_f2 p_ct (p_mK j) idx with | some ci => (if len = 3 then (if al = true then (if ce + 1 ≤ mc then (if sl + (p_cl ci).2.2 ≤ ms then (if N < 65536 then some (.inl (pc + 3, lv, .ref N :: st, N + 1, va_up M N (.inr (ci, p_df ci)), ce + 1, sl + (p_cl ci).2.2)) else none) else none) else none) else none) else none) | none => none
def p_x_newarray (aty : ArrayType) (al : Bool) (d j mc ms len pc : Nat) (lv : List (Nat × Value)) (st : List Value) (N : Nat) (M : pM) (ce sl : Nat) : Option pA := match st with | .int n :: r => (match p_aty aty with | some t => (if len = 2 then (if al = true then (if ¬ n < 0 then (if n.toNatClampNeg ≤ 100000 then (if ce + 1 ≤ mc then (if sl + n.toNatClampNeg ≤ ms then (if N < 65536 then some (.inl (pc + 2, lv, .ref N :: r, N + 1, va_up M N (.inl (t, n.toNatClampNeg, p_z t)), ce + 1, sl + n.toNatClampNeg)) else none) else none) else none) else none) else none) else none) else none) | none => none) | _ => none
def p_x_anewarray (idx : Nat) (al : Bool) (d j mc ms len pc : Nat) (lv : List (Nat × Value)) (st : List Value) (N : Nat) (M : pM) (ce sl : Nat) : Option pA := match st with | .int n :: r => (match p_f2 p_at (p_mK j) idx with | some t => (if len = 3 then (if al = true then (if ¬ n < 0 then (if n.toNatClampNeg ≤ 100000 then (if ce + 1 ≤ mc then (if sl + n.toNatClampNeg ≤ ms then (if N < 65536 then some (.inl (pc + 3, lv, .ref N :: r, N + 1, va_up M N (.inl (t, n.toNatClampNeg, .inr (.inr (.inr (.inr (fun _ => none)))))), ce + 1, sl + n.toNatClampNeg)) else none) else none) else none) else none) else none) else none) else none) | none => none) | _ => none
def p_x_iaload  (al : Bool) (d j mc ms len pc : Nat) (lv : List (Nat × Value)) (st : List Value) (N : Nat) (M : pM) (ce sl : Nat) : Option pA := match st with | .int i :: .ref a :: r => (match M a with | .inl (1, n, .inl f) => (if len = 1 then (if a < N then (if ¬ (i < 0 ∨ n ≤ i.toNatClampNeg) then some (.inl (pc + 1, lv, .int (f i.toNatClampNeg) :: r, N, M, ce, sl)) else none) else none) else none) | _ => none) | _ => none
def p_x_baload  (al : Bool) (d j mc ms len pc : Nat) (lv : List (Nat × Value)) (st : List Value) (N : Nat) (M : pM) (ce sl : Nat) : Option pA := match st with | .int i :: .ref a :: r => (match M a with | .inl (0, n, .inl f) => (if len = 1 then (if a < N then (if ¬ (i < 0 ∨ n ≤ i.toNatClampNeg) then some (.inl (pc + 1, lv, .int (f i.toNatClampNeg) :: r, N, M, ce, sl)) else none) else none) else none) | .inl (3, n, .inl f) => (if len = 1 then (if a < N then (if ¬ (i < 0 ∨ n ≤ i.toNatClampNeg) then some (.inl (pc + 1, lv, .int (f i.toNatClampNeg) :: r, N, M, ce, sl)) else none) else none) else none) | _ => none) | _ => none
def p_x_laload  (al : Bool) (d j mc ms len pc : Nat) (lv : List (Nat × Value)) (st : List Value) (N : Nat) (M : pM) (ce sl : Nat) : Option pA := match st with | .int i :: .ref a :: r => (match M a with | .inl (2, n, .inr (.inl f)) => (if len = 1 then (if a < N then (if ¬ (i < 0 ∨ n ≤ i.toNatClampNeg) then some (.inl (pc + 1, lv, .long (f i.toNatClampNeg) :: r, N, M, ce, sl)) else none) else none) else none) | _ => none) | _ => none
def p_x_aaload  (al : Bool) (d j mc ms len pc : Nat) (lv : List (Nat × Value)) (st : List Value) (N : Nat) (M : pM) (ce sl : Nat) : Option pA := match st with | .int i :: .ref a :: r => (match M a with | .inl (t, n, .inr (.inr (.inr (.inr f)))) => (if 4 ≤ t then (if t < 9 then (if len = 1 then (if a < N then (if ¬ (i < 0 ∨ n ≤ i.toNatClampNeg) then some (.inl (pc + 1, lv, va_rf (f i.toNatClampNeg) :: r, N, M, ce, sl)) else none) else none) else none) else none) else none) | _ => none) | _ => none
def p_x_arraylength  (al : Bool) (d j mc ms len pc : Nat) (lv : List (Nat × Value)) (st : List Value) (N : Nat) (M : pM) (ce sl : Nat) : Option pA := match st with | .ref a :: r => (match M a with | .inl (t, n, x) => (if len = 1 then (if a < N then (if t < 9 then some (.inl (pc + 1, lv, .int (Int32.ofNat n) :: r, N, M, ce, sl)) else none) else none) else none) | _ => none) | _ => none
def p_x_iastore  (al : Bool) (d j mc ms len pc : Nat) (lv : List (Nat × Value)) (st : List Value) (N : Nat) (M : pM) (ce sl : Nat) : Option pA := match st with | .int x :: .int i :: .ref a :: r => (match M a with | .inl (1, n, .inl f) => (if len = 1 then (if a < N then (if ¬ (i < 0 ∨ n ≤ i.toNatClampNeg) then some (.inl (pc + 1, lv, r, N, va_up M a (.inl (1, n, .inl (upd f i.toNatClampNeg x))), ce, sl)) else none) else none) else none) | _ => none) | _ => none
def p_x_bastore  (al : Bool) (d j mc ms len pc : Nat) (lv : List (Nat × Value)) (st : List Value) (N : Nat) (M : pM) (ce sl : Nat) : Option pA := match st with | .int x :: .int i :: .ref a :: r => (match M a with | .inl (0, n, .inl f) => (if len = 1 then (if a < N then (if ¬ (i < 0 ∨ n ≤ i.toNatClampNeg) then some (.inl (pc + 1, lv, r, N, va_up M a (.inl (0, n, .inl (upd f i.toNatClampNeg (vp_nar .byte x)))), ce, sl)) else none) else none) else none) | .inl (3, n, .inl f) => (if len = 1 then (if a < N then (if ¬ (i < 0 ∨ n ≤ i.toNatClampNeg) then some (.inl (pc + 1, lv, r, N, va_up M a (.inl (3, n, .inl (upd f i.toNatClampNeg (vp_nar .boolean x)))), ce, sl)) else none) else none) else none) | _ => none) | _ => none
def p_x_lastore  (al : Bool) (d j mc ms len pc : Nat) (lv : List (Nat × Value)) (st : List Value) (N : Nat) (M : pM) (ce sl : Nat) : Option pA := match st with | .long x :: .int i :: .ref a :: r => (match M a with | .inl (2, n, .inr (.inl f)) => (if len = 1 then (if a < N then (if ¬ (i < 0 ∨ n ≤ i.toNatClampNeg) then some (.inl (pc + 1, lv, r, N, va_up M a (.inl (2, n, .inr (.inl (vp_updL f i.toNatClampNeg x)))), ce, sl)) else none) else none) else none) | _ => none) | _ => none
def p_x_aastore  (al : Bool) (d j mc ms len pc : Nat) (lv : List (Nat × Value)) (st : List Value) (N : Nat) (M : pM) (ce sl : Nat) : Option pA := match st with | .null :: .int i :: .ref a :: r => (match M a with | .inl (t, n, .inr (.inr (.inr (.inr f)))) => (if 4 ≤ t then (if t < 9 then (if len = 1 then (if a < N then (if ¬ (i < 0 ∨ n ≤ i.toNatClampNeg) then some (.inl (pc + 1, lv, r, N, va_up M a (.inl (t, n, .inr (.inr (.inr (.inr (va_up f i.toNatClampNeg none)))))), ce, sl)) else none) else none) else none) else none) else none) | _ => none) | .ref v :: .int i :: .ref a :: r => (match M a with | .inl (t, n, .inr (.inr (.inr (.inr f)))) => (match M v with | .inr (ci, fs) => (if 4 ≤ t then (if t < 9 then (if v < N then (if ci < 12 then (if p_ocl ci = p_ocT t then (if len = 1 then (if a < N then (if ¬ (i < 0 ∨ n ≤ i.toNatClampNeg) then some (.inl (pc + 1, lv, r, N, va_up M a (.inl (t, n, .inr (.inr (.inr (.inr (va_up f i.toNatClampNeg (some v))))))), ce, sl)) else none) else none) else none) else none) else none) else none) else none) else none) | _ => none) | _ => none) | _ => none
def p_x_ldc2_w (idx : Nat) (al : Bool) (d j mc ms len pc : Nat) (lv : List (Nat × Value)) (st : List Value) (N : Nat) (M : pM) (ce sl : Nat) : Option pA := match p_f2 p_lt (p_mK j) idx with | some x => (if len = 3 then some (.inl (pc + 3, lv, .long x :: st, N, M, ce, sl)) else none) | none => none
def p_x_ldc_w (idx : Nat) (al : Bool) (d j mc ms len pc : Nat) (lv : List (Nat × Value)) (st : List Value) (N : Nat) (M : pM) (ce sl : Nat) : Option pA := match p_f2 p_it (p_mK j) idx with | some x => (if len = 3 then some (.inl (pc + 3, lv, .int x :: st, N, M, ce, sl)) else none) | none => none
def p_x_ldc (idx : Nat) (al : Bool) (d j mc ms len pc : Nat) (lv : List (Nat × Value)) (st : List Value) (N : Nat) (M : pM) (ce sl : Nat) : Option pA := match p_f2 p_it (p_mK j) idx with | some x => (if len = 2 then some (.inl (pc + 2, lv, .int x :: st, N, M, ce, sl)) else none) | none => none
def p_x_getstatic (idx : Nat) (al : Bool) (d j mc ms len pc : Nat) (lv : List (Nat × Value)) (st : List Value) (N : Nat) (M : pM) (ce sl : Nat) : Option pA := match p_f2 p_st (p_mK j) idx with | some i => (if len = 3 then some (.inl (pc + 3, lv, .ref (65536 + i) :: st, N, M, ce, sl)) else none) | none => none
def p_x_ireturn  (al : Bool) (d j mc ms len pc : Nat) (lv : List (Nat × Value)) (st : List Value) (N : Nat) (M : pM) (ce sl : Nat) : Option pA := match st with | [.int x] => (if len = 1 then (if ce ≤ mc then (if sl ≤ ms then (match p_mR j with | some .int => some (.inr (.inr (some (.int x)))) | some .boolean => (if p_fv .boolean (.int x) = true then some (.inr (.inr (some (.int x)))) else none) | _ => none) else none) else none) else none) | _ => none
def p_x_return  (al : Bool) (d j mc ms len pc : Nat) (lv : List (Nat × Value)) (st : List Value) (N : Nat) (M : pM) (ce sl : Nat) : Option pA := match st with | [] => (if len = 1 then (if ce ≤ mc then (if sl ≤ ms then (match p_mR j with | none => some (.inr (.inr none)) | _ => none) else none) else none) else none) | _ => none
def p_x_lreturn  (al : Bool) (d j mc ms len pc : Nat) (lv : List (Nat × Value)) (st : List Value) (N : Nat) (M : pM) (ce sl : Nat) : Option pA := match st with | [.long x] => (if len = 1 then (if ce ≤ mc then (if sl ≤ ms then (match p_mR j with | some .long => some (.inr (.inr (some (.long x)))) | _ => none) else none) else none) else none) | _ => none
def p_x_areturn  (al : Bool) (d j mc ms len pc : Nat) (lv : List (Nat × Value)) (st : List Value) (N : Nat) (M : pM) (ce sl : Nat) : Option pA := match st with | [.ref a] => (if len = 1 then (if ce ≤ mc then (if sl ≤ ms then (match p_mR j with | some (.object _) => some (.inr (.inr (some (.ref a)))) | _ => none) else none) else none) else none) | _ => none
def p_x_invokevirtual (idx : Nat) (al : Bool) (d j mc ms len pc : Nat) (lv : List (Nat × Value)) (st : List Value) (N : Nat) (M : pM) (ce sl : Nat) : Option pA := match p_f2 p_mv (p_mK j) idx with | some k => (match st.drop (p_mN k) with | .ref a :: rest => (match M a with | .inr (ci, _) => (if len = 3 then (if a < N then (if ci < 12 then (if p_ocl ci = p_mK k then (if (st.take (p_mN k)).length = p_mN k then (if (rest.map fun v => v.category).sum ≤ 8 then (if (lg_sl (.ref a :: (st.take (p_mN k)).reverse)).length ≤ p_mL k then (if ce + p_mc k ≤ mc then (if sl + p_msl k ≤ ms then some (.inr (.inl (k, .ref a :: (st.take (p_mN k)).reverse, rest))) else none) else none) else none) else none) else none) else none) else none) else none) else none) | _ => none) | _ => none) | none => none
def p_x_invokespecial (idx : Nat) (al : Bool) (d j mc ms len pc : Nat) (lv : List (Nat × Value)) (st : List Value) (N : Nat) (M : pM) (ce sl : Nat) : Option pA := if p_f2 p_mo (p_mK j) idx = some 0 then (match st with | .ref a :: r => (if len = 3 then (if 1 ≤ d then (if (r.map fun v => v.category).sum ≤ 8 then some (.inl (pc + 3, lv, r, N, M, ce, sl)) else none) else none) else none) | _ => none) else (match p_f2 p_mi (p_mK j) idx with | some k => (match st.drop (p_mN k) with | .ref a :: rest => (if len = 3 then (if (p_mR k).isNone = true then (if (st.take (p_mN k)).length = p_mN k then (if (rest.map fun v => v.category).sum ≤ 8 then (if (lg_sl (.ref a :: (st.take (p_mN k)).reverse)).length ≤ p_mL k then (if ce + p_mc k ≤ mc then (if sl + p_msl k ≤ ms then some (.inr (.inl (k, .ref a :: (st.take (p_mN k)).reverse, rest))) else none) else none) else none) else none) else none) else none) else none) | _ => none) | none => (match p_f2 p_mn (p_mK j) idx with | some k => (match st.drop (p_mN k) with | .ref a :: rest => (if len = 3 then (if (p_mR k).isNone = true then (if (st.take (p_mN k)).length = p_mN k then (if (rest.map fun v => v.category).sum ≤ 8 then (if (lg_sl (.ref a :: (st.take (p_mN k)).reverse)).length ≤ p_mL k then (if ce + p_mc k ≤ mc then (if sl + p_msl k ≤ ms then some (.inr (.inl (k, .ref a :: (st.take (p_mN k)).reverse, rest))) else none) else none) else none) else none) else none) else none) else none) | _ => none) | none => none))
def p_x_invokestatic (idx : Nat) (al : Bool) (d j mc ms len pc : Nat) (lv : List (Nat × Value)) (st : List Value) (N : Nat) (M : pM) (ce sl : Nat) : Option pA := if p_f2 p_mj (p_mK j) idx = some 1 then (match st with | .int y :: .int x :: r => (if len = 3 then (if 1 ≤ d then (if (r.map fun v => v.category).sum ≤ 8 then (if ce ≤ mc then (if sl ≤ ms then some (.inl (pc + 3, lv, .int (if y < x then y else x) :: r, N, M, ce, sl)) else none) else none) else none) else none) else none) | _ => none) else if p_f2 p_mj (p_mK j) idx = some 2 then (match st with | .int y :: .int x :: r => (if len = 3 then (if 1 ≤ d then (if (r.map fun v => v.category).sum ≤ 8 then (if ce ≤ mc then (if sl ≤ ms then some (.inl (pc + 3, lv, .int (if x < y then y else x) :: r, N, M, ce, sl)) else none) else none) else none) else none) else none) | _ => none) else if p_f2 p_mj (p_mK j) idx = some 3 then (match st with | .int x :: r => (if len = 3 then (if 1 ≤ d then (if (r.map fun v => v.category).sum ≤ 8 then (if ce ≤ mc then (if sl ≤ ms then some (.inl (pc + 3, lv, .int (if 0 ≤ x then x else 0 - x) :: r, N, M, ce, sl)) else none) else none) else none) else none) else none) | _ => none) else if p_f2 p_mj (p_mK j) idx = some 4 then (match st with | .int n :: .int dp :: .ref b :: .int sp :: .ref a :: r => (match M a with | .inl (1, n0, .inl f) => (match M b with | .inl (1, n1, .inl g) => (if len = 3 then (if 2 ≤ d then (if al = false then (if (r.map fun v => v.category).sum ≤ 8 then (if a < N then (if b < N then (if ¬ sp < 0 then (if ¬ dp < 0 then (if ¬ n < 0 then (if sp.toNatClampNeg + n.toNatClampNeg ≤ n0 then (if dp.toNatClampNeg + n.toNatClampNeg ≤ n1 then some (.inl (pc + 3, lv, r, N, va_up M b (.inl (1, n1, .inl (va_cpy f g sp.toNatClampNeg dp.toNatClampNeg n.toNatClampNeg))), ce, sl)) else none) else none) else none) else none) else none) else none) else none) else none) else none) else none) else none) | _ => none) | _ => none) | _ => none) else (match p_f2 p_ms (p_mK j) idx with | some k => (if len = 3 then (if ¬ p_mK j = 13 then (if (st.take (p_mN k)).length = p_mN k then (if ((st.drop (p_mN k)).map fun v => v.category).sum ≤ 8 then (if (lg_sl ((st.take (p_mN k)).reverse)).length ≤ p_mL k then (if ce + p_mc k ≤ mc then (if sl + p_msl k ≤ ms then some (.inr (.inl (k, (st.take (p_mN k)).reverse, st.drop (p_mN k)))) else none) else none) else none) else none) else none) else none) else none) | none => none)
def p_stp (i : Instr) (al : Bool) (d j mc ms len pc : Nat) (lv : List (Nat × Value)) (st : List Value) (N : Nat) (M : pM) (ce sl : Nat) : Option pA := match i with
  | .iconst n => p_x_iconst n al d j mc ms len pc lv st N M ce sl
  | .bipush n => p_x_bipush n al d j mc ms len pc lv st N M ce sl
  | .sipush n => p_x_sipush n al d j mc ms len pc lv st N M ce sl
  | .lconst n => p_x_lconst n al d j mc ms len pc lv st N M ce sl
  | .iload_n n => p_x_iload_n n al d j mc ms len pc lv st N M ce sl
  | .iload n => p_x_iload n al d j mc ms len pc lv st N M ce sl
  | .istore_n n => p_x_istore_n n al d j mc ms len pc lv st N M ce sl
  | .istore n => p_x_istore n al d j mc ms len pc lv st N M ce sl
  | .lload_n n => p_x_lload_n n al d j mc ms len pc lv st N M ce sl
  | .lload n => p_x_lload n al d j mc ms len pc lv st N M ce sl
  | .lstore_n n => p_x_lstore_n n al d j mc ms len pc lv st N M ce sl
  | .lstore n => p_x_lstore n al d j mc ms len pc lv st N M ce sl
  | .aload_n n => p_x_aload_n n al d j mc ms len pc lv st N M ce sl
  | .aload n => p_x_aload n al d j mc ms len pc lv st N M ce sl
  | .astore_n n => p_x_astore_n n al d j mc ms len pc lv st N M ce sl
  | .astore n => p_x_astore n al d j mc ms len pc lv st N M ce sl
  | .iinc i n => p_x_iinc i n al d j mc ms len pc lv st N M ce sl
  | .goto off => p_x_goto off al d j mc ms len pc lv st N M ce sl
  | .dup => p_x_dup  al d j mc ms len pc lv st N M ce sl
  | .pop => p_x_pop  al d j mc ms len pc lv st N M ce sl
  | .dup2 => p_x_dup2  al d j mc ms len pc lv st N M ce sl
  | .iadd => p_x_iadd  al d j mc ms len pc lv st N M ce sl
  | .isub => p_x_isub  al d j mc ms len pc lv st N M ce sl
  | .imul => p_x_imul  al d j mc ms len pc lv st N M ce sl
  | .iand => p_x_iand  al d j mc ms len pc lv st N M ce sl
  | .ior => p_x_ior  al d j mc ms len pc lv st N M ce sl
  | .ixor => p_x_ixor  al d j mc ms len pc lv st N M ce sl
  | .ishl => p_x_ishl  al d j mc ms len pc lv st N M ce sl
  | .ishr => p_x_ishr  al d j mc ms len pc lv st N M ce sl
  | .iushr => p_x_iushr  al d j mc ms len pc lv st N M ce sl
  | .idiv => p_x_idiv  al d j mc ms len pc lv st N M ce sl
  | .irem => p_x_irem  al d j mc ms len pc lv st N M ce sl
  | .ineg => p_x_ineg  al d j mc ms len pc lv st N M ce sl
  | .ladd => p_x_ladd  al d j mc ms len pc lv st N M ce sl
  | .lmul => p_x_lmul  al d j mc ms len pc lv st N M ce sl
  | .lor => p_x_lor  al d j mc ms len pc lv st N M ce sl
  | .ldiv => p_x_ldiv  al d j mc ms len pc lv st N M ce sl
  | .lrem => p_x_lrem  al d j mc ms len pc lv st N M ce sl
  | .lshl => p_x_lshl  al d j mc ms len pc lv st N M ce sl
  | .lcmp => p_x_lcmp  al d j mc ms len pc lv st N M ce sl
  | .i2l => p_x_i2l  al d j mc ms len pc lv st N M ce sl
  | .l2i => p_x_l2i  al d j mc ms len pc lv st N M ce sl
  | .i2b => p_x_i2b  al d j mc ms len pc lv st N M ce sl
  | .ifCond cnd off => p_x_ifCond cnd off al d j mc ms len pc lv st N M ce sl
  | .if_icmp cnd off => p_x_if_icmp cnd off al d j mc ms len pc lv st N M ce sl
  | .getfield idx => p_x_getfield idx al d j mc ms len pc lv st N M ce sl
  | .putfield idx => p_x_putfield idx al d j mc ms len pc lv st N M ce sl
  | .new idx => p_x_new idx al d j mc ms len pc lv st N M ce sl
  | .newarray aty => p_x_newarray aty al d j mc ms len pc lv st N M ce sl
  | .anewarray idx => p_x_anewarray idx al d j mc ms len pc lv st N M ce sl
  | .iaload => p_x_iaload  al d j mc ms len pc lv st N M ce sl
  | .baload => p_x_baload  al d j mc ms len pc lv st N M ce sl
  | .laload => p_x_laload  al d j mc ms len pc lv st N M ce sl
  | .aaload => p_x_aaload  al d j mc ms len pc lv st N M ce sl
  | .arraylength => p_x_arraylength  al d j mc ms len pc lv st N M ce sl
  | .iastore => p_x_iastore  al d j mc ms len pc lv st N M ce sl
  | .bastore => p_x_bastore  al d j mc ms len pc lv st N M ce sl
  | .lastore => p_x_lastore  al d j mc ms len pc lv st N M ce sl
  | .aastore => p_x_aastore  al d j mc ms len pc lv st N M ce sl
  | .ldc2_w idx => p_x_ldc2_w idx al d j mc ms len pc lv st N M ce sl
  | .ldc_w idx => p_x_ldc_w idx al d j mc ms len pc lv st N M ce sl
  | .ldc idx => p_x_ldc idx al d j mc ms len pc lv st N M ce sl
  | .getstatic idx => p_x_getstatic idx al d j mc ms len pc lv st N M ce sl
  | .ireturn => p_x_ireturn  al d j mc ms len pc lv st N M ce sl
  | .return_ => p_x_return  al d j mc ms len pc lv st N M ce sl
  | .lreturn => p_x_lreturn  al d j mc ms len pc lv st N M ce sl
  | .areturn => p_x_areturn  al d j mc ms len pc lv st N M ce sl
  | .invokevirtual idx => p_x_invokevirtual idx al d j mc ms len pc lv st N M ce sl
  | .invokespecial idx => p_x_invokespecial idx al d j mc ms len pc lv st N M ce sl
  | .invokestatic idx => p_x_invokestatic idx al d j mc ms len pc lv st N M ce sl
  | _ => none
def p_act (G : pG) (al : Bool) (d j mc ms : Nat) (Kr : pK) (pc : Nat) (lv : List (Nat × Value)) (N : Nat) (M : pM) (ce sl : Nat) : pA → Prop
  | .inl (pc', lv', st', N', M', ce', sl') => PW G al d j mc ms Kr pc' lv' st' N' M' ce' sl'
  | .inr (.inl (k, as, rest)) => ∃ d', d = d' + 1 ∧ PW G al d' k (p_mc k) (p_msl k) (fun v N' M' => PW G al (d' + 1) j mc ms Kr (pc + 3) lv (v.toList ++ rest) N' M' (ce + p_mc k) (sl + p_msl k), p_nx) 0 (lv_args 0 as) [] N M 0 0
  | .inr (.inr v) => Kr.1 v N M
section Sound
variable {G : pG} {al : Bool} {d j mc ms : Nat} {Kr : pK} {pc : Nat} {lv : List (Nat × Value)} {st : List Value} {N : Nat} {M : pM} {ce sl len : Nat} {A : pA}
set_option maxHeartbeats 4000000 in
theorem p_x_iconst_ok {n : Int} (h : p_tb j pc = some (.iconst n, len)) (hs : p_x_iconst n al d j mc ms len pc lv st N M ce sl = some A) (k : p_act G al d j mc ms Kr pc lv N M ce sl A) : PW G al d j mc ms Kr pc lv st N M ce sl := by
  unfold p_x_iconst at hs
  (repeat' split at hs) <;> first | (cases hs; done) | skip
  all_goals (cases hs; subst_vars; exact PW.iconst h k)
set_option maxHeartbeats 4000000 in
theorem p_x_bipush_ok {n : Int} (h : p_tb j pc = some (.bipush n, len)) (hs : p_x_bipush n al d j mc ms len pc lv st N M ce sl = some A) (k : p_act G al d j mc ms Kr pc lv N M ce sl A) : PW G al d j mc ms Kr pc lv st N M ce sl := by
  unfold p_x_bipush at hs
  (repeat' split at hs) <;> first | (cases hs; done) | skip
  all_goals (cases hs; subst_vars; exact PW.bipush h k)
set_option maxHeartbeats 4000000 in
theorem p_x_sipush_ok {n : Int} (h : p_tb j pc = some (.sipush n, len)) (hs : p_x_sipush n al d j mc ms len pc lv st N M ce sl = some A) (k : p_act G al d j mc ms Kr pc lv N M ce sl A) : PW G al d j mc ms Kr pc lv st N M ce sl := by
  unfold p_x_sipush at hs
  (repeat' split at hs) <;> first | (cases hs; done) | skip
  all_goals (cases hs; subst_vars; exact PW.sipush h k)
set_option maxHeartbeats 4000000 in
theorem p_x_lconst_ok {n : Fin 2} (h : p_tb j pc = some (.lconst n, len)) (hs : p_x_lconst n al d j mc ms len pc lv st N M ce sl = some A) (k : p_act G al d j mc ms Kr pc lv N M ce sl A) : PW G al d j mc ms Kr pc lv st N M ce sl := by
  unfold p_x_lconst at hs
  (repeat' split at hs) <;> first | (cases hs; done) | skip
  all_goals (cases hs; subst_vars; exact PW.lconst h k)
set_option maxHeartbeats 4000000 in
theorem p_x_iload_n_ok {n : Fin 4} (h : p_tb j pc = some (.iload_n n, len)) (hs : p_x_iload_n n al d j mc ms len pc lv st N M ce sl = some A) (k : p_act G al d j mc ms Kr pc lv N M ce sl A) : PW G al d j mc ms Kr pc lv st N M ce sl := by
  unfold p_x_iload_n at hs
  (repeat' split at hs) <;> first | (cases hs; done) | skip
  all_goals (cases hs; subst_vars; exact PW.iload_n h (by assumption) k)
set_option maxHeartbeats 4000000 in
theorem p_x_iload_ok {n : Nat} (h : p_tb j pc = some (.iload n, len)) (hs : p_x_iload n al d j mc ms len pc lv st N M ce sl = some A) (k : p_act G al d j mc ms Kr pc lv N M ce sl A) : PW G al d j mc ms Kr pc lv st N M ce sl := by
  unfold p_x_iload at hs
  (repeat' split at hs) <;> first | (cases hs; done) | skip
  all_goals (cases hs; subst_vars; exact PW.iload h (by assumption) k)
set_option maxHeartbeats 4000000 in
theorem p_x_istore_n_ok {n : Fin 4} (h : p_tb j pc = some (.istore_n n, len)) (hs : p_x_istore_n n al d j mc ms len pc lv st N M ce sl = some A) (k : p_act G al d j mc ms Kr pc lv N M ce sl A) : PW G al d j mc ms Kr pc lv st N M ce sl := by
  unfold p_x_istore_n at hs
  (repeat' split at hs) <;> first | (cases hs; done) | skip
  all_goals (cases hs; subst_vars; exact PW.istore_n h (by assumption) k)
set_option maxHeartbeats 4000000 in
theorem p_x_istore_ok {n : Nat} (h : p_tb j pc = some (.istore n, len)) (hs : p_x_istore n al d j mc ms len pc lv st N M ce sl = some A) (k : p_act G al d j mc ms Kr pc lv N M ce sl A) : PW G al d j mc ms Kr pc lv st N M ce sl := by
  unfold p_x_istore at hs
  (repeat' split at hs) <;> first | (cases hs; done) | skip
  all_goals (cases hs; subst_vars; exact PW.istore h (by assumption) k)
set_option maxHeartbeats 4000000 in
theorem p_x_lload_n_ok {n : Fin 4} (h : p_tb j pc = some (.lload_n n, len)) (hs : p_x_lload_n n al d j mc ms len pc lv st N M ce sl = some A) (k : p_act G al d j mc ms Kr pc lv N M ce sl A) : PW G al d j mc ms Kr pc lv st N M ce sl := by
  unfold p_x_lload_n at hs
  (repeat' split at hs) <;> first | (cases hs; done) | skip
  all_goals (cases hs; subst_vars; exact PW.lload_n h (by assumption) k)
set_option maxHeartbeats 4000000 in
theorem p_x_lload_ok {n : Nat} (h : p_tb j pc = some (.lload n, len)) (hs : p_x_lload n al d j mc ms len pc lv st N M ce sl = some A) (k : p_act G al d j mc ms Kr pc lv N M ce sl A) : PW G al d j mc ms Kr pc lv st N M ce sl := by
  unfold p_x_lload at hs
  (repeat' split at hs) <;> first | (cases hs; done) | skip
  all_goals (cases hs; subst_vars; exact PW.lload h (by assumption) k)
set_option maxHeartbeats 4000000 in
theorem p_x_lstore_n_ok {n : Fin 4} (h : p_tb j pc = some (.lstore_n n, len)) (hs : p_x_lstore_n n al d j mc ms len pc lv st N M ce sl = some A) (k : p_act G al d j mc ms Kr pc lv N M ce sl A) : PW G al d j mc ms Kr pc lv st N M ce sl := by
  unfold p_x_lstore_n at hs
  (repeat' split at hs) <;> first | (cases hs; done) | skip
  all_goals (cases hs; subst_vars; exact PW.lstore_n h (by assumption) k)
set_option maxHeartbeats 4000000 in
theorem p_x_lstore_ok {n : Nat} (h : p_tb j pc = some (.lstore n, len)) (hs : p_x_lstore n al d j mc ms len pc lv st N M ce sl = some A) (k : p_act G al d j mc ms Kr pc lv N M ce sl A) : PW G al d j mc ms Kr pc lv st N M ce sl := by
  unfold p_x_lstore at hs
  (repeat' split at hs) <;> first | (cases hs; done) | skip
  all_goals (cases hs; subst_vars; exact PW.lstore h (by assumption) k)
set_option maxHeartbeats 4000000 in
theorem p_x_aload_n_ok {n : Fin 4} (h : p_tb j pc = some (.aload_n n, len)) (hs : p_x_aload_n n al d j mc ms len pc lv st N M ce sl = some A) (k : p_act G al d j mc ms Kr pc lv N M ce sl A) : PW G al d j mc ms Kr pc lv st N M ce sl := by
  unfold p_x_aload_n at hs
  (repeat' split at hs) <;> first | (cases hs; done) | skip
  all_goals (cases hs; subst_vars; exact PW.aload_n h (by assumption) k)
set_option maxHeartbeats 4000000 in
theorem p_x_aload_ok {n : Nat} (h : p_tb j pc = some (.aload n, len)) (hs : p_x_aload n al d j mc ms len pc lv st N M ce sl = some A) (k : p_act G al d j mc ms Kr pc lv N M ce sl A) : PW G al d j mc ms Kr pc lv st N M ce sl := by
  unfold p_x_aload at hs
  (repeat' split at hs) <;> first | (cases hs; done) | skip
  all_goals (cases hs; subst_vars; exact PW.aload h (by assumption) k)
set_option maxHeartbeats 4000000 in
theorem p_x_astore_n_ok {n : Fin 4} (h : p_tb j pc = some (.astore_n n, len)) (hs : p_x_astore_n n al d j mc ms len pc lv st N M ce sl = some A) (k : p_act G al d j mc ms Kr pc lv N M ce sl A) : PW G al d j mc ms Kr pc lv st N M ce sl := by
  unfold p_x_astore_n at hs
  (repeat' split at hs) <;> first | (cases hs; done) | skip
  all_goals (cases hs; subst_vars; exact PW.astore_n h (by assumption) k)
set_option maxHeartbeats 4000000 in
theorem p_x_astore_ok {n : Nat} (h : p_tb j pc = some (.astore n, len)) (hs : p_x_astore n al d j mc ms len pc lv st N M ce sl = some A) (k : p_act G al d j mc ms Kr pc lv N M ce sl A) : PW G al d j mc ms Kr pc lv st N M ce sl := by
  unfold p_x_astore at hs
  (repeat' split at hs) <;> first | (cases hs; done) | skip
  all_goals (cases hs; subst_vars; exact PW.astore h (by assumption) k)
set_option maxHeartbeats 4000000 in
theorem p_x_iinc_ok {i : Nat} {n : Int} (h : p_tb j pc = some (.iinc i n, len)) (hs : p_x_iinc i n al d j mc ms len pc lv st N M ce sl = some A) (k : p_act G al d j mc ms Kr pc lv N M ce sl A) : PW G al d j mc ms Kr pc lv st N M ce sl := by
  unfold p_x_iinc at hs
  (repeat' split at hs) <;> first | (cases hs; done) | skip
  all_goals (cases hs; subst_vars; exact PW.iinc h (by assumption) (by assumption) k)
set_option maxHeartbeats 4000000 in
theorem p_x_goto_ok {off : Int} (h : p_tb j pc = some (.goto off, len)) (hs : p_x_goto off al d j mc ms len pc lv st N M ce sl = some A) (k : p_act G al d j mc ms Kr pc lv N M ce sl A) : PW G al d j mc ms Kr pc lv st N M ce sl := by
  unfold p_x_goto at hs
  (repeat' split at hs) <;> first | (cases hs; done) | skip
  all_goals (cases hs; subst_vars; exact PW.goto h (by assumption) k)
set_option maxHeartbeats 4000000 in
theorem p_x_dup_ok  (h : p_tb j pc = some (.dup, len)) (hs : p_x_dup  al d j mc ms len pc lv st N M ce sl = some A) (k : p_act G al d j mc ms Kr pc lv N M ce sl A) : PW G al d j mc ms Kr pc lv st N M ce sl := by
  unfold p_x_dup at hs
  (repeat' split at hs) <;> first | (cases hs; done) | skip
  all_goals (cases hs; subst_vars; exact PW.dup h (by assumption) k)
set_option maxHeartbeats 4000000 in
theorem p_x_pop_ok  (h : p_tb j pc = some (.pop, len)) (hs : p_x_pop  al d j mc ms len pc lv st N M ce sl = some A) (k : p_act G al d j mc ms Kr pc lv N M ce sl A) : PW G al d j mc ms Kr pc lv st N M ce sl := by
  unfold p_x_pop at hs
  (repeat' split at hs) <;> first | (cases hs; done) | skip
  all_goals (cases hs; subst_vars; exact PW.pop h (by assumption) k)
set_option maxHeartbeats 4000000 in
theorem p_x_dup2_ok  (h : p_tb j pc = some (.dup2, len)) (hs : p_x_dup2  al d j mc ms len pc lv st N M ce sl = some A) (k : p_act G al d j mc ms Kr pc lv N M ce sl A) : PW G al d j mc ms Kr pc lv st N M ce sl := by
  unfold p_x_dup2 at hs
  (repeat' split at hs) <;> first | (cases hs; done) | skip
  all_goals (cases hs; subst_vars; exact PW.dup2 h (by assumption) (by assumption) k)
set_option maxHeartbeats 4000000 in
theorem p_x_iadd_ok  (h : p_tb j pc = some (.iadd, len)) (hs : p_x_iadd  al d j mc ms len pc lv st N M ce sl = some A) (k : p_act G al d j mc ms Kr pc lv N M ce sl A) : PW G al d j mc ms Kr pc lv st N M ce sl := by
  unfold p_x_iadd at hs
  (repeat' split at hs) <;> first | (cases hs; done) | skip
  all_goals (cases hs; subst_vars; exact PW.iadd h k)
set_option maxHeartbeats 4000000 in
theorem p_x_isub_ok  (h : p_tb j pc = some (.isub, len)) (hs : p_x_isub  al d j mc ms len pc lv st N M ce sl = some A) (k : p_act G al d j mc ms Kr pc lv N M ce sl A) : PW G al d j mc ms Kr pc lv st N M ce sl := by
  unfold p_x_isub at hs
  (repeat' split at hs) <;> first | (cases hs; done) | skip
  all_goals (cases hs; subst_vars; exact PW.isub h k)
set_option maxHeartbeats 4000000 in
theorem p_x_imul_ok  (h : p_tb j pc = some (.imul, len)) (hs : p_x_imul  al d j mc ms len pc lv st N M ce sl = some A) (k : p_act G al d j mc ms Kr pc lv N M ce sl A) : PW G al d j mc ms Kr pc lv st N M ce sl := by
  unfold p_x_imul at hs
  (repeat' split at hs) <;> first | (cases hs; done) | skip
  all_goals (cases hs; subst_vars; exact PW.imul h k)
set_option maxHeartbeats 4000000 in
theorem p_x_iand_ok  (h : p_tb j pc = some (.iand, len)) (hs : p_x_iand  al d j mc ms len pc lv st N M ce sl = some A) (k : p_act G al d j mc ms Kr pc lv N M ce sl A) : PW G al d j mc ms Kr pc lv st N M ce sl := by
  unfold p_x_iand at hs
  (repeat' split at hs) <;> first | (cases hs; done) | skip
  all_goals (cases hs; subst_vars; exact PW.iand h k)
set_option maxHeartbeats 4000000 in
theorem p_x_ior_ok  (h : p_tb j pc = some (.ior, len)) (hs : p_x_ior  al d j mc ms len pc lv st N M ce sl = some A) (k : p_act G al d j mc ms Kr pc lv N M ce sl A) : PW G al d j mc ms Kr pc lv st N M ce sl := by
  unfold p_x_ior at hs
  (repeat' split at hs) <;> first | (cases hs; done) | skip
  all_goals (cases hs; subst_vars; exact PW.ior h k)
set_option maxHeartbeats 4000000 in
theorem p_x_ixor_ok  (h : p_tb j pc = some (.ixor, len)) (hs : p_x_ixor  al d j mc ms len pc lv st N M ce sl = some A) (k : p_act G al d j mc ms Kr pc lv N M ce sl A) : PW G al d j mc ms Kr pc lv st N M ce sl := by
  unfold p_x_ixor at hs
  (repeat' split at hs) <;> first | (cases hs; done) | skip
  all_goals (cases hs; subst_vars; exact PW.ixor h k)
set_option maxHeartbeats 4000000 in
theorem p_x_ishl_ok  (h : p_tb j pc = some (.ishl, len)) (hs : p_x_ishl  al d j mc ms len pc lv st N M ce sl = some A) (k : p_act G al d j mc ms Kr pc lv N M ce sl A) : PW G al d j mc ms Kr pc lv st N M ce sl := by
  unfold p_x_ishl at hs
  (repeat' split at hs) <;> first | (cases hs; done) | skip
  all_goals (cases hs; subst_vars; exact PW.ishl h k)
set_option maxHeartbeats 4000000 in
theorem p_x_ishr_ok  (h : p_tb j pc = some (.ishr, len)) (hs : p_x_ishr  al d j mc ms len pc lv st N M ce sl = some A) (k : p_act G al d j mc ms Kr pc lv N M ce sl A) : PW G al d j mc ms Kr pc lv st N M ce sl := by
  unfold p_x_ishr at hs
  (repeat' split at hs) <;> first | (cases hs; done) | skip
  all_goals (cases hs; subst_vars; exact PW.ishr h k)
set_option maxHeartbeats 4000000 in
theorem p_x_iushr_ok  (h : p_tb j pc = some (.iushr, len)) (hs : p_x_iushr  al d j mc ms len pc lv st N M ce sl = some A) (k : p_act G al d j mc ms Kr pc lv N M ce sl A) : PW G al d j mc ms Kr pc lv st N M ce sl := by
  unfold p_x_iushr at hs
  (repeat' split at hs) <;> first | (cases hs; done) | skip
  all_goals (cases hs; subst_vars; exact PW.iushr h k)
set_option maxHeartbeats 4000000 in
theorem p_x_idiv_ok  (h : p_tb j pc = some (.idiv, len)) (hs : p_x_idiv  al d j mc ms len pc lv st N M ce sl = some A) (k : p_act G al d j mc ms Kr pc lv N M ce sl A) : PW G al d j mc ms Kr pc lv st N M ce sl := by
  unfold p_x_idiv at hs
  (repeat' split at hs) <;> first | (cases hs; done) | skip
  all_goals (cases hs; subst_vars; exact PW.idiv h (by assumption) k)
set_option maxHeartbeats 4000000 in
theorem p_x_irem_ok  (h : p_tb j pc = some (.irem, len)) (hs : p_x_irem  al d j mc ms len pc lv st N M ce sl = some A) (k : p_act G al d j mc ms Kr pc lv N M ce sl A) : PW G al d j mc ms Kr pc lv st N M ce sl := by
  unfold p_x_irem at hs
  (repeat' split at hs) <;> first | (cases hs; done) | skip
  all_goals (cases hs; subst_vars; exact PW.irem h (by assumption) k)
set_option maxHeartbeats 4000000 in
theorem p_x_ineg_ok  (h : p_tb j pc = some (.ineg, len)) (hs : p_x_ineg  al d j mc ms len pc lv st N M ce sl = some A) (k : p_act G al d j mc ms Kr pc lv N M ce sl A) : PW G al d j mc ms Kr pc lv st N M ce sl := by
  unfold p_x_ineg at hs
  (repeat' split at hs) <;> first | (cases hs; done) | skip
  all_goals (cases hs; subst_vars; exact PW.ineg h k)
set_option maxHeartbeats 4000000 in
theorem p_x_ladd_ok  (h : p_tb j pc = some (.ladd, len)) (hs : p_x_ladd  al d j mc ms len pc lv st N M ce sl = some A) (k : p_act G al d j mc ms Kr pc lv N M ce sl A) : PW G al d j mc ms Kr pc lv st N M ce sl := by
  unfold p_x_ladd at hs
  (repeat' split at hs) <;> first | (cases hs; done) | skip
  all_goals (cases hs; subst_vars; exact PW.ladd h k)
set_option maxHeartbeats 4000000 in
theorem p_x_lmul_ok  (h : p_tb j pc = some (.lmul, len)) (hs : p_x_lmul  al d j mc ms len pc lv st N M ce sl = some A) (k : p_act G al d j mc ms Kr pc lv N M ce sl A) : PW G al d j mc ms Kr pc lv st N M ce sl := by
  unfold p_x_lmul at hs
  (repeat' split at hs) <;> first | (cases hs; done) | skip
  all_goals (cases hs; subst_vars; exact PW.lmul h k)
set_option maxHeartbeats 4000000 in
theorem p_x_lor_ok  (h : p_tb j pc = some (.lor, len)) (hs : p_x_lor  al d j mc ms len pc lv st N M ce sl = some A) (k : p_act G al d j mc ms Kr pc lv N M ce sl A) : PW G al d j mc ms Kr pc lv st N M ce sl := by
  unfold p_x_lor at hs
  (repeat' split at hs) <;> first | (cases hs; done) | skip
  all_goals (cases hs; subst_vars; exact PW.lor h k)
set_option maxHeartbeats 4000000 in
theorem p_x_ldiv_ok  (h : p_tb j pc = some (.ldiv, len)) (hs : p_x_ldiv  al d j mc ms len pc lv st N M ce sl = some A) (k : p_act G al d j mc ms Kr pc lv N M ce sl A) : PW G al d j mc ms Kr pc lv st N M ce sl := by
  unfold p_x_ldiv at hs
  (repeat' split at hs) <;> first | (cases hs; done) | skip
  all_goals (cases hs; subst_vars; exact PW.ldiv h (by assumption) k)
set_option maxHeartbeats 4000000 in
theorem p_x_lrem_ok  (h : p_tb j pc = some (.lrem, len)) (hs : p_x_lrem  al d j mc ms len pc lv st N M ce sl = some A) (k : p_act G al d j mc ms Kr pc lv N M ce sl A) : PW G al d j mc ms Kr pc lv st N M ce sl := by
  unfold p_x_lrem at hs
  (repeat' split at hs) <;> first | (cases hs; done) | skip
  all_goals (cases hs; subst_vars; exact PW.lrem h (by assumption) k)
set_option maxHeartbeats 4000000 in
theorem p_x_lshl_ok  (h : p_tb j pc = some (.lshl, len)) (hs : p_x_lshl  al d j mc ms len pc lv st N M ce sl = some A) (k : p_act G al d j mc ms Kr pc lv N M ce sl A) : PW G al d j mc ms Kr pc lv st N M ce sl := by
  unfold p_x_lshl at hs
  (repeat' split at hs) <;> first | (cases hs; done) | skip
  all_goals (cases hs; subst_vars; exact PW.lshl h k)
set_option maxHeartbeats 4000000 in
theorem p_x_lcmp_ok  (h : p_tb j pc = some (.lcmp, len)) (hs : p_x_lcmp  al d j mc ms len pc lv st N M ce sl = some A) (k : p_act G al d j mc ms Kr pc lv N M ce sl A) : PW G al d j mc ms Kr pc lv st N M ce sl := by
  unfold p_x_lcmp at hs
  (repeat' split at hs) <;> first | (cases hs; done) | skip
  all_goals (cases hs; subst_vars; exact PW.lcmp h k)
set_option maxHeartbeats 4000000 in
theorem p_x_i2l_ok  (h : p_tb j pc = some (.i2l, len)) (hs : p_x_i2l  al d j mc ms len pc lv st N M ce sl = some A) (k : p_act G al d j mc ms Kr pc lv N M ce sl A) : PW G al d j mc ms Kr pc lv st N M ce sl := by
  unfold p_x_i2l at hs
  (repeat' split at hs) <;> first | (cases hs; done) | skip
  all_goals (cases hs; subst_vars; exact PW.i2l h k)
set_option maxHeartbeats 4000000 in
theorem p_x_l2i_ok  (h : p_tb j pc = some (.l2i, len)) (hs : p_x_l2i  al d j mc ms len pc lv st N M ce sl = some A) (k : p_act G al d j mc ms Kr pc lv N M ce sl A) : PW G al d j mc ms Kr pc lv st N M ce sl := by
  unfold p_x_l2i at hs
  (repeat' split at hs) <;> first | (cases hs; done) | skip
  all_goals (cases hs; subst_vars; exact PW.l2i h k)
set_option maxHeartbeats 4000000 in
theorem p_x_i2b_ok  (h : p_tb j pc = some (.i2b, len)) (hs : p_x_i2b  al d j mc ms len pc lv st N M ce sl = some A) (k : p_act G al d j mc ms Kr pc lv N M ce sl A) : PW G al d j mc ms Kr pc lv st N M ce sl := by
  unfold p_x_i2b at hs
  (repeat' split at hs) <;> first | (cases hs; done) | skip
  all_goals (cases hs; subst_vars; exact PW.i2b h k)
set_option maxHeartbeats 4000000 in
theorem p_x_ifCond_ok {cnd : ClassFile.Cond} {off : Int} (h : p_tb j pc = some (.ifCond cnd off, len)) (hs : p_x_ifCond cnd off al d j mc ms len pc lv st N M ce sl = some A) (k : p_act G al d j mc ms Kr pc lv N M ce sl A) : PW G al d j mc ms Kr pc lv st N M ce sl := by
  unfold p_x_ifCond at hs
  (repeat' split at hs) <;> first | (cases hs; done) | skip
  all_goals (cases hs; rw [(by assumption : len = 3)] at h; first | exact PW.if_eq h (by assumption) (fun _ => k) (fun q => absurd (by assumption) q) | exact PW.if_eq h (by assumption) (fun q => absurd q (by assumption)) (fun _ => k) | exact PW.if_ne h (by assumption) (fun _ => k) (fun q => absurd (by assumption) q) | exact PW.if_ne h (by assumption) (fun q => absurd q (by assumption)) (fun _ => k) | exact PW.if_lt h (by assumption) (fun _ => k) (fun q => absurd (by assumption) q) | exact PW.if_lt h (by assumption) (fun q => absurd q (by assumption)) (fun _ => k) | exact PW.if_ge h (by assumption) (fun _ => k) (fun q => absurd (by assumption) q) | exact PW.if_ge h (by assumption) (fun q => absurd q (by assumption)) (fun _ => k) | exact PW.if_gt h (by assumption) (fun _ => k) (fun q => absurd (by assumption) q) | exact PW.if_gt h (by assumption) (fun q => absurd q (by assumption)) (fun _ => k) | exact PW.if_le h (by assumption) (fun _ => k) (fun q => absurd (by assumption) q) | exact PW.if_le h (by assumption) (fun q => absurd q (by assumption)) (fun _ => k) | exact PW.if_ne h (by assumption) (fun _ => k) (fun q => absurd q (by assumption)))
set_option maxHeartbeats 4000000 in
theorem p_x_if_icmp_ok {cnd : ClassFile.Cond} {off : Int} (h : p_tb j pc = some (.if_icmp cnd off, len)) (hs : p_x_if_icmp cnd off al d j mc ms len pc lv st N M ce sl = some A) (k : p_act G al d j mc ms Kr pc lv N M ce sl A) : PW G al d j mc ms Kr pc lv st N M ce sl := by
  unfold p_x_if_icmp at hs
  (repeat' split at hs) <;> first | (cases hs; done) | skip
  all_goals (cases hs; rw [(by assumption : len = 3)] at h; first | exact PW.icmp_eq h (by assumption) (fun _ => k) (fun q => absurd (by assumption) q) | exact PW.icmp_eq h (by assumption) (fun q => absurd q (by assumption)) (fun _ => k) | exact PW.icmp_ne h (by assumption) (fun _ => k) (fun q => absurd (by assumption) q) | exact PW.icmp_ne h (by assumption) (fun q => absurd q (by assumption)) (fun _ => k) | exact PW.icmp_lt h (by assumption) (fun _ => k) (fun q => absurd (by assumption) q) | exact PW.icmp_lt h (by assumption) (fun q => absurd q (by assumption)) (fun _ => k) | exact PW.icmp_ge h (by assumption) (fun _ => k) (fun q => absurd (by assumption) q) | exact PW.icmp_ge h (by assumption) (fun q => absurd q (by assumption)) (fun _ => k) | exact PW.icmp_gt h (by assumption) (fun _ => k) (fun q => absurd (by assumption) q) | exact PW.icmp_gt h (by assumption) (fun q => absurd q (by assumption)) (fun _ => k) | exact PW.icmp_le h (by assumption) (fun _ => k) (fun q => absurd (by assumption) q) | exact PW.icmp_le h (by assumption) (fun q => absurd q (by assumption)) (fun _ => k) | exact PW.icmp_ne h (by assumption) (fun _ => k) (fun q => absurd q (by assumption)))
set_option maxHeartbeats 4000000 in
theorem p_x_getfield_ok {idx : Nat} (h : p_tb j pc = some (.getfield idx, len)) (hs : p_x_getfield idx al d j mc ms len pc lv st N M ce sl = some A) (k : p_act G al d j mc ms Kr pc lv N M ce sl A) : PW G al d j mc ms Kr pc lv st N M ce sl := by
  unfold p_x_getfield at hs
  (repeat' split at hs) <;> first | (cases hs; done) | skip
  all_goals (cases hs; subst_vars; first | exact PW.getf h (by assumption) (by assumption) (by assumption) (by assumption) k | exact PW.getN h (by assumption) (by assumption) (by assumption) (by assumption) k)
set_option maxHeartbeats 4000000 in
theorem p_x_putfield_ok {idx : Nat} (h : p_tb j pc = some (.putfield idx, len)) (hs : p_x_putfield idx al d j mc ms len pc lv st N M ce sl = some A) (k : p_act G al d j mc ms Kr pc lv N M ce sl A) : PW G al d j mc ms Kr pc lv st N M ce sl := by
  unfold p_x_putfield at hs
  (repeat' split at hs) <;> first | (cases hs; done) | skip
  all_goals (cases hs; subst_vars; first | exact PW.putf h (by assumption) (by assumption) (by assumption) (by assumption) (by assumption) (by assumption) k | exact PW.putN h (by assumption) (by assumption) (by assumption) (by assumption) (by assumption) (by assumption) k | exact PW.putF h (by assumption) (by assumption) (by assumption) (by rcases Bool.eq_false_or_eq_true ((p_cl _).2.1 _).2.2.2 with q | q; exact q; exact absurd q (by assumption)) (by assumption) (by rw [← p_ocl_own (p_flink (by assumption)).1, (by assumption : p_ocl _ = p_mK j)]; rfl) (by assumption) (by assumption) k)
set_option maxHeartbeats 4000000 in
theorem p_x_new_ok {idx : Nat} (h : p_tb j pc = some (.new idx, len)) (hs : p_x_new idx al d j mc ms len pc lv st N M ce sl = some A) (k : p_act G al d j mc ms Kr pc lv N M ce sl A) : PW G al d j mc ms Kr pc lv st N M ce sl := by
  unfold p_x_new at hs
  (repeat' split at hs) <;> first | (cases hs; done) | skip
  all_goals (cases hs; subst_vars; exact PW.new h (by assumption) (by assumption) (by assumption) (by assumption) k)
set_option maxHeartbeats 4000000 in
theorem p_x_newarray_ok {aty : ArrayType} (h : p_tb j pc = some (.newarray aty, len)) (hs : p_x_newarray aty al d j mc ms len pc lv st N M ce sl = some A) (k : p_act G al d j mc ms Kr pc lv N M ce sl A) : PW G al d j mc ms Kr pc lv st N M ce sl := by
  unfold p_x_newarray at hs
  (repeat' split at hs) <;> first | (cases hs; done) | skip
  all_goals (cases hs; subst_vars; exact PW.newa h (by assumption) (by assumption) (by assumption) (by assumption) (by assumption) (by assumption) k)
set_option maxHeartbeats 4000000 in
theorem p_x_anewarray_ok {idx : Nat} (h : p_tb j pc = some (.anewarray idx, len)) (hs : p_x_anewarray idx al d j mc ms len pc lv st N M ce sl = some A) (k : p_act G al d j mc ms Kr pc lv N M ce sl A) : PW G al d j mc ms Kr pc lv st N M ce sl := by
  unfold p_x_anewarray at hs
  (repeat' split at hs) <;> first | (cases hs; done) | skip
  all_goals (cases hs; subst_vars; exact PW.anew h (by assumption) (by assumption) (by assumption) (by assumption) (by assumption) (by assumption) k)
set_option maxHeartbeats 4000000 in
theorem p_x_iaload_ok  (h : p_tb j pc = some (.iaload, len)) (hs : p_x_iaload  al d j mc ms len pc lv st N M ce sl = some A) (k : p_act G al d j mc ms Kr pc lv N M ce sl A) : PW G al d j mc ms Kr pc lv st N M ce sl := by
  unfold p_x_iaload at hs
  (repeat' split at hs) <;> first | (cases hs; done) | skip
  all_goals (cases hs; subst_vars; exact PW.iald h (by assumption) (by assumption) (by assumption) k)
set_option maxHeartbeats 4000000 in
theorem p_x_baload_ok  (h : p_tb j pc = some (.baload, len)) (hs : p_x_baload  al d j mc ms len pc lv st N M ce sl = some A) (k : p_act G al d j mc ms Kr pc lv N M ce sl A) : PW G al d j mc ms Kr pc lv st N M ce sl := by
  unfold p_x_baload at hs
  (repeat' split at hs) <;> first | (cases hs; done) | skip
  all_goals (cases hs; subst_vars; first | exact PW.bald h (by assumption) (by assumption) (by assumption) k | exact PW.zald h (by assumption) (by assumption) (by assumption) k)
set_option maxHeartbeats 4000000 in
theorem p_x_laload_ok  (h : p_tb j pc = some (.laload, len)) (hs : p_x_laload  al d j mc ms len pc lv st N M ce sl = some A) (k : p_act G al d j mc ms Kr pc lv N M ce sl A) : PW G al d j mc ms Kr pc lv st N M ce sl := by
  unfold p_x_laload at hs
  (repeat' split at hs) <;> first | (cases hs; done) | skip
  all_goals (cases hs; subst_vars; exact PW.lald h (by assumption) (by assumption) (by assumption) k)
set_option maxHeartbeats 4000000 in
theorem p_x_aaload_ok  (h : p_tb j pc = some (.aaload, len)) (hs : p_x_aaload  al d j mc ms len pc lv st N M ce sl = some A) (k : p_act G al d j mc ms Kr pc lv N M ce sl A) : PW G al d j mc ms Kr pc lv st N M ce sl := by
  unfold p_x_aaload at hs
  (repeat' split at hs) <;> first | (cases hs; done) | skip
  all_goals (cases hs; subst_vars; exact PW.aald h (by assumption) (by assumption) (by assumption) (by assumption) (by assumption) k)
set_option maxHeartbeats 4000000 in
theorem p_x_arraylength_ok  (h : p_tb j pc = some (.arraylength, len)) (hs : p_x_arraylength  al d j mc ms len pc lv st N M ce sl = some A) (k : p_act G al d j mc ms Kr pc lv N M ce sl A) : PW G al d j mc ms Kr pc lv st N M ce sl := by
  unfold p_x_arraylength at hs
  (repeat' split at hs) <;> first | (cases hs; done) | skip
  all_goals (cases hs; subst_vars; exact PW.alen h (by assumption) (by assumption) (by assumption) k)
set_option maxHeartbeats 4000000 in
theorem p_x_iastore_ok  (h : p_tb j pc = some (.iastore, len)) (hs : p_x_iastore  al d j mc ms len pc lv st N M ce sl = some A) (k : p_act G al d j mc ms Kr pc lv N M ce sl A) : PW G al d j mc ms Kr pc lv st N M ce sl := by
  unfold p_x_iastore at hs
  (repeat' split at hs) <;> first | (cases hs; done) | skip
  all_goals (cases hs; subst_vars; exact PW.iast h (by assumption) (by assumption) (by assumption) k)
set_option maxHeartbeats 4000000 in
theorem p_x_bastore_ok  (h : p_tb j pc = some (.bastore, len)) (hs : p_x_bastore  al d j mc ms len pc lv st N M ce sl = some A) (k : p_act G al d j mc ms Kr pc lv N M ce sl A) : PW G al d j mc ms Kr pc lv st N M ce sl := by
  unfold p_x_bastore at hs
  (repeat' split at hs) <;> first | (cases hs; done) | skip
  all_goals (cases hs; subst_vars; first | exact PW.bast h (by assumption) (by assumption) (by assumption) k | exact PW.zast h (by assumption) (by assumption) (by assumption) k)
set_option maxHeartbeats 4000000 in
theorem p_x_lastore_ok  (h : p_tb j pc = some (.lastore, len)) (hs : p_x_lastore  al d j mc ms len pc lv st N M ce sl = some A) (k : p_act G al d j mc ms Kr pc lv N M ce sl A) : PW G al d j mc ms Kr pc lv st N M ce sl := by
  unfold p_x_lastore at hs
  (repeat' split at hs) <;> first | (cases hs; done) | skip
  all_goals (cases hs; subst_vars; exact PW.last h (by assumption) (by assumption) (by assumption) k)
set_option maxHeartbeats 4000000 in
theorem p_x_aastore_ok  (h : p_tb j pc = some (.aastore, len)) (hs : p_x_aastore  al d j mc ms len pc lv st N M ce sl = some A) (k : p_act G al d j mc ms Kr pc lv N M ce sl A) : PW G al d j mc ms Kr pc lv st N M ce sl := by
  unfold p_x_aastore at hs
  (repeat' split at hs) <;> first | (cases hs; done) | skip
  all_goals (cases hs; subst_vars; first | exact PW.aasN h (by assumption) (by assumption) (by assumption) (by assumption) (by assumption) k | exact PW.aast h (by assumption) (by assumption) (by assumption) (by assumption) (by assumption) (by assumption) (by assumption) (by rw [← p_ocl_own (by assumption), (by assumption : p_ocl _ = p_ocT _), p_ocT_own (by assumption) (by assumption)]) (by assumption) k)
set_option maxHeartbeats 4000000 in
theorem p_x_ldc2_w_ok {idx : Nat} (h : p_tb j pc = some (.ldc2_w idx, len)) (hs : p_x_ldc2_w idx al d j mc ms len pc lv st N M ce sl = some A) (k : p_act G al d j mc ms Kr pc lv N M ce sl A) : PW G al d j mc ms Kr pc lv st N M ce sl := by
  unfold p_x_ldc2_w at hs
  (repeat' split at hs) <;> first | (cases hs; done) | skip
  all_goals (cases hs; subst_vars; exact PW.ldc2 h (by assumption) k)
set_option maxHeartbeats 4000000 in
theorem p_x_ldc_w_ok {idx : Nat} (h : p_tb j pc = some (.ldc_w idx, len)) (hs : p_x_ldc_w idx al d j mc ms len pc lv st N M ce sl = some A) (k : p_act G al d j mc ms Kr pc lv N M ce sl A) : PW G al d j mc ms Kr pc lv st N M ce sl := by
  unfold p_x_ldc_w at hs
  (repeat' split at hs) <;> first | (cases hs; done) | skip
  all_goals (cases hs; subst_vars; exact PW.ldcw h (by assumption) k)
set_option maxHeartbeats 4000000 in
theorem p_x_ldc_ok {idx : Nat} (h : p_tb j pc = some (.ldc idx, len)) (hs : p_x_ldc idx al d j mc ms len pc lv st N M ce sl = some A) (k : p_act G al d j mc ms Kr pc lv N M ce sl A) : PW G al d j mc ms Kr pc lv st N M ce sl := by
  unfold p_x_ldc at hs
  (repeat' split at hs) <;> first | (cases hs; done) | skip
  all_goals (cases hs; subst_vars; exact PW.ldc h (by assumption) k)
set_option maxHeartbeats 4000000 in
theorem p_x_getstatic_ok {idx : Nat} (h : p_tb j pc = some (.getstatic idx, len)) (hs : p_x_getstatic idx al d j mc ms len pc lv st N M ce sl = some A) (k : p_act G al d j mc ms Kr pc lv N M ce sl A) : PW G al d j mc ms Kr pc lv st N M ce sl := by
  unfold p_x_getstatic at hs
  (repeat' split at hs) <;> first | (cases hs; done) | skip
  all_goals (cases hs; subst_vars; exact PW.gets h (by assumption) k)
set_option maxHeartbeats 4000000 in
theorem p_x_ireturn_ok  (h : p_tb j pc = some (.ireturn, len)) (hs : p_x_ireturn  al d j mc ms len pc lv st N M ce sl = some A) (k : p_act G al d j mc ms Kr pc lv N M ce sl A) : PW G al d j mc ms Kr pc lv st N M ce sl := by
  unfold p_x_ireturn at hs
  (repeat' split at hs) <;> first | (cases hs; done) | skip
  all_goals (cases hs; subst_vars; first | exact PW.iret h (by assumption) (by assumption) (by assumption) k | exact PW.zret h (by assumption) (p_fv_ok (G := G) (by assumption)).1 (by assumption) (by assumption) k)
set_option maxHeartbeats 4000000 in
theorem p_x_return_ok  (h : p_tb j pc = some (.return_, len)) (hs : p_x_return  al d j mc ms len pc lv st N M ce sl = some A) (k : p_act G al d j mc ms Kr pc lv N M ce sl A) : PW G al d j mc ms Kr pc lv st N M ce sl := by
  unfold p_x_return at hs
  (repeat' split at hs) <;> first | (cases hs; done) | skip
  all_goals (cases hs; subst_vars; exact PW.vret h (by assumption) (by assumption) (by assumption) k)
set_option maxHeartbeats 4000000 in
theorem p_x_lreturn_ok  (h : p_tb j pc = some (.lreturn, len)) (hs : p_x_lreturn  al d j mc ms len pc lv st N M ce sl = some A) (k : p_act G al d j mc ms Kr pc lv N M ce sl A) : PW G al d j mc ms Kr pc lv st N M ce sl := by
  unfold p_x_lreturn at hs
  (repeat' split at hs) <;> first | (cases hs; done) | skip
  all_goals (cases hs; subst_vars; exact PW.lret h (by assumption) (by assumption) (by assumption) k)
set_option maxHeartbeats 4000000 in
theorem p_x_areturn_ok  (h : p_tb j pc = some (.areturn, len)) (hs : p_x_areturn  al d j mc ms len pc lv st N M ce sl = some A) (k : p_act G al d j mc ms Kr pc lv N M ce sl A) : PW G al d j mc ms Kr pc lv st N M ce sl := by
  unfold p_x_areturn at hs
  (repeat' split at hs) <;> first | (cases hs; done) | skip
  all_goals (cases hs; subst_vars; exact PW.aret h (by assumption) (by assumption) (by assumption) k)
set_option maxHeartbeats 4000000 in
theorem p_x_invokevirtual_ok {idx : Nat} (h : p_tb j pc = some (.invokevirtual idx, len)) (hs : p_x_invokevirtual idx al d j mc ms len pc lv st N M ce sl = some A) (k : p_act G al d j mc ms Kr pc lv N M ce sl A) : PW G al d j mc ms Kr pc lv st N M ce sl := by
  unfold p_x_invokevirtual at hs
  cases hk : p_f2 p_mv (p_mK j) idx with
  | none => rw [hk] at hs; cases hs
  | some k0 =>
    rw [hk] at hs
    dsimp only at hs
    cases hdr : st.drop (p_mN k0) with
    | nil => rw [hdr] at hs; cases hs
    | cons v0 rest =>
      rw [hdr] at hs
      cases v0 <;> first | (cases hs; done) | skip
      rename_i a
      dsimp only at hs
      cases hM : M a with
      | inl x => rw [hM] at hs; cases hs
      | inr x =>
        obtain ⟨ci, fs⟩ := x
        rw [hM] at hs
        dsimp only at hs
        by_cases c0 : len = 3
        rotate_left
        · rw [if_neg c0] at hs; cases hs
        rw [if_pos c0] at hs
        by_cases c1 : a < N
        rotate_left
        · rw [if_neg c1] at hs; cases hs
        rw [if_pos c1] at hs
        by_cases c2 : ci < 12
        rotate_left
        · rw [if_neg c2] at hs; cases hs
        rw [if_pos c2] at hs
        by_cases c3 : p_ocl ci = p_mK k0
        rotate_left
        · rw [if_neg c3] at hs; cases hs
        rw [if_pos c3] at hs
        by_cases c4 : (st.take (p_mN k0)).length = p_mN k0
        rotate_left
        · rw [if_neg c4] at hs; cases hs
        rw [if_pos c4] at hs
        by_cases c5 : (rest.map fun v => v.category).sum ≤ 8
        rotate_left
        · rw [if_neg c5] at hs; cases hs
        rw [if_pos c5] at hs
        by_cases c6 : (lg_sl (.ref a :: (st.take (p_mN k0)).reverse)).length ≤ p_mL k0
        rotate_left
        · rw [if_neg c6] at hs; cases hs
        rw [if_pos c6] at hs
        by_cases c7 : ce + p_mc k0 ≤ mc
        rotate_left
        · rw [if_neg c7] at hs; cases hs
        rw [if_pos c7] at hs
        by_cases c8 : sl + p_msl k0 ≤ ms
        rotate_left
        · rw [if_neg c8] at hs; cases hs
        rw [if_pos c8] at hs
        cases hs
        obtain ⟨d', rfl, kc⟩ := k
        subst c0
        have e : st = (st.take (p_mN k0)).reverse.reverse ++ .ref a :: rest := by rw [List.reverse_reverse, ← hdr, List.take_append_drop]
        rw [e]
        exact PW.callV h hk c1 hM c2 (by rw [← p_ocl_own c2, c3]; exact (p_okK_spec (p_vlink hk).1).2.2.2.2.2.1) (by rw [List.length_reverse]; exact c4) c5 c6 c7 c8 kc
set_option maxHeartbeats 4000000 in
theorem p_x_invokespecial_ok {idx : Nat} (h : p_tb j pc = some (.invokespecial idx, len)) (hs : p_x_invokespecial idx al d j mc ms len pc lv st N M ce sl = some A) (k : p_act G al d j mc ms Kr pc lv N M ce sl A) : PW G al d j mc ms Kr pc lv st N M ce sl := by
  unfold p_x_invokespecial at hs
  by_cases ho : p_f2 p_mo (p_mK j) idx = some 0
  · rw [if_pos ho] at hs
    cases st with
    | nil => cases hs
    | cons v0 r =>
      cases v0 <;> first | (cases hs; done) | skip
      dsimp only at hs
      by_cases c0 : len = 3
      rotate_left
      · rw [if_neg c0] at hs; cases hs
      rw [if_pos c0] at hs
      by_cases c1 : 1 ≤ d
      rotate_left
      · rw [if_neg c1] at hs; cases hs
      rw [if_pos c1] at hs
      by_cases c2 : (r.map fun v => v.category).sum ≤ 8
      rotate_left
      · rw [if_neg c2] at hs; cases hs
      rw [if_pos c2] at hs
      cases hs
      subst c0
      exact PW.objInit h ho c1 c2 k
  · rw [if_neg ho] at hs
    cases hk : p_f2 p_mi (p_mK j) idx with
    | some k0 =>
      rw [hk] at hs
      dsimp only at hs
      cases hdr : st.drop (p_mN k0) with
      | nil => rw [hdr] at hs; cases hs
      | cons v0 rest =>
        rw [hdr] at hs
        cases v0 <;> first | (cases hs; done) | skip
        rename_i a
        dsimp only at hs
        by_cases c0 : len = 3
        rotate_left
        · rw [if_neg c0] at hs; cases hs
        rw [if_pos c0] at hs
        by_cases c1 : (p_mR k0).isNone = true
        rotate_left
        · rw [if_neg c1] at hs; cases hs
        rw [if_pos c1] at hs
        by_cases c2 : (st.take (p_mN k0)).length = p_mN k0
        rotate_left
        · rw [if_neg c2] at hs; cases hs
        rw [if_pos c2] at hs
        by_cases c3 : (rest.map fun v => v.category).sum ≤ 8
        rotate_left
        · rw [if_neg c3] at hs; cases hs
        rw [if_pos c3] at hs
        by_cases c4 : (lg_sl (.ref a :: (st.take (p_mN k0)).reverse)).length ≤ p_mL k0
        rotate_left
        · rw [if_neg c4] at hs; cases hs
        rw [if_pos c4] at hs
        by_cases c5 : ce + p_mc k0 ≤ mc
        rotate_left
        · rw [if_neg c5] at hs; cases hs
        rw [if_pos c5] at hs
        by_cases c6 : sl + p_msl k0 ≤ ms
        rotate_left
        · rw [if_neg c6] at hs; cases hs
        rw [if_pos c6] at hs
        cases hs
        obtain ⟨d', rfl, kc⟩ := k
        subst c0
        have e : st = (st.take (p_mN k0)).reverse.reverse ++ .ref a :: rest := by rw [List.reverse_reverse, ← hdr, List.take_append_drop]
        rw [e]
        exact PW.callI h hk (Option.isNone_iff_eq_none.mp c1) (by rw [List.length_reverse]; exact c2) c3 c4 c5 c6 kc
    | none =>
      rw [hk] at hs
      dsimp only at hs
      cases hk : p_f2 p_mn (p_mK j) idx with
      | none => rw [hk] at hs; cases hs
      | some k0 =>
        rw [hk] at hs
        dsimp only at hs
        cases hdr : st.drop (p_mN k0) with
        | nil => rw [hdr] at hs; cases hs
        | cons v0 rest =>
          rw [hdr] at hs
          cases v0 <;> first | (cases hs; done) | skip
          rename_i a
          dsimp only at hs
          by_cases c0 : len = 3
          rotate_left
          · rw [if_neg c0] at hs; cases hs
          rw [if_pos c0] at hs
          by_cases c1 : (p_mR k0).isNone = true
          rotate_left
          · rw [if_neg c1] at hs; cases hs
          rw [if_pos c1] at hs
          by_cases c2 : (st.take (p_mN k0)).length = p_mN k0
          rotate_left
          · rw [if_neg c2] at hs; cases hs
          rw [if_pos c2] at hs
          by_cases c3 : (rest.map fun v => v.category).sum ≤ 8
          rotate_left
          · rw [if_neg c3] at hs; cases hs
          rw [if_pos c3] at hs
          by_cases c4 : (lg_sl (.ref a :: (st.take (p_mN k0)).reverse)).length ≤ p_mL k0
          rotate_left
          · rw [if_neg c4] at hs; cases hs
          rw [if_pos c4] at hs
          by_cases c5 : ce + p_mc k0 ≤ mc
          rotate_left
          · rw [if_neg c5] at hs; cases hs
          rw [if_pos c5] at hs
          by_cases c6 : sl + p_msl k0 ≤ ms
          rotate_left
          · rw [if_neg c6] at hs; cases hs
          rw [if_pos c6] at hs
          cases hs
          obtain ⟨d', rfl, kc⟩ := k
          subst c0
          have e : st = (st.take (p_mN k0)).reverse.reverse ++ .ref a :: rest := by rw [List.reverse_reverse, ← hdr, List.take_append_drop]
          rw [e]
          exact PW.callN h hk (Option.isNone_iff_eq_none.mp c1) (by rw [List.length_reverse]; exact c2) c3 c4 c5 c6 kc
set_option maxHeartbeats 4000000 in
theorem p_x_invokestatic_ok {idx : Nat} (h : p_tb j pc = some (.invokestatic idx, len)) (hs : p_x_invokestatic idx al d j mc ms len pc lv st N M ce sl = some A) (k : p_act G al d j mc ms Kr pc lv N M ce sl A) : PW G al d j mc ms Kr pc lv st N M ce sl := by
  unfold p_x_invokestatic at hs
  by_cases j1 : p_f2 p_mj (p_mK j) idx = some 1
  · rw [if_pos j1] at hs
    rcases st with _ | ⟨v0, r⟩
    · cases hs
    cases v0 <;> first | (cases hs; done) | skip
    rcases r with _ | ⟨v1, r⟩
    · cases hs
    cases v1 <;> first | (cases hs; done) | skip
    dsimp only at hs
    by_cases c0 : len = 3
    rotate_left
    · rw [if_neg c0] at hs; cases hs
    rw [if_pos c0] at hs
    by_cases c1 : 1 ≤ d
    rotate_left
    · rw [if_neg c1] at hs; cases hs
    rw [if_pos c1] at hs
    by_cases c2 : (r.map fun v => v.category).sum ≤ 8
    rotate_left
    · rw [if_neg c2] at hs; cases hs
    rw [if_pos c2] at hs
    by_cases c3 : ce ≤ mc
    rotate_left
    · rw [if_neg c3] at hs; cases hs
    rw [if_pos c3] at hs
    by_cases c4 : sl ≤ ms
    rotate_left
    · rw [if_neg c4] at hs; cases hs
    rw [if_pos c4] at hs
    cases hs
    subst c0
    exact PW.mmin h j1 c1 c2 c3 c4 k
  rw [if_neg j1] at hs
  by_cases j2 : p_f2 p_mj (p_mK j) idx = some 2
  · rw [if_pos j2] at hs
    rcases st with _ | ⟨v0, r⟩
    · cases hs
    cases v0 <;> first | (cases hs; done) | skip
    rcases r with _ | ⟨v1, r⟩
    · cases hs
    cases v1 <;> first | (cases hs; done) | skip
    dsimp only at hs
    by_cases c0 : len = 3
    rotate_left
    · rw [if_neg c0] at hs; cases hs
    rw [if_pos c0] at hs
    by_cases c1 : 1 ≤ d
    rotate_left
    · rw [if_neg c1] at hs; cases hs
    rw [if_pos c1] at hs
    by_cases c2 : (r.map fun v => v.category).sum ≤ 8
    rotate_left
    · rw [if_neg c2] at hs; cases hs
    rw [if_pos c2] at hs
    by_cases c3 : ce ≤ mc
    rotate_left
    · rw [if_neg c3] at hs; cases hs
    rw [if_pos c3] at hs
    by_cases c4 : sl ≤ ms
    rotate_left
    · rw [if_neg c4] at hs; cases hs
    rw [if_pos c4] at hs
    cases hs
    subst c0
    exact PW.mmax h j2 c1 c2 c3 c4 k
  rw [if_neg j2] at hs
  by_cases j3 : p_f2 p_mj (p_mK j) idx = some 3
  · rw [if_pos j3] at hs
    rcases st with _ | ⟨v0, r⟩
    · cases hs
    cases v0 <;> first | (cases hs; done) | skip
    dsimp only at hs
    by_cases c0 : len = 3
    rotate_left
    · rw [if_neg c0] at hs; cases hs
    rw [if_pos c0] at hs
    by_cases c1 : 1 ≤ d
    rotate_left
    · rw [if_neg c1] at hs; cases hs
    rw [if_pos c1] at hs
    by_cases c2 : (r.map fun v => v.category).sum ≤ 8
    rotate_left
    · rw [if_neg c2] at hs; cases hs
    rw [if_pos c2] at hs
    by_cases c3 : ce ≤ mc
    rotate_left
    · rw [if_neg c3] at hs; cases hs
    rw [if_pos c3] at hs
    by_cases c4 : sl ≤ ms
    rotate_left
    · rw [if_neg c4] at hs; cases hs
    rw [if_pos c4] at hs
    cases hs
    subst c0
    exact PW.mabs h j3 c1 c2 c3 c4 k
  rw [if_neg j3] at hs
  by_cases j4 : p_f2 p_mj (p_mK j) idx = some 4
  · rw [if_pos j4] at hs
    rcases st with _ | ⟨v0, r⟩
    · cases hs
    cases v0 <;> first | (cases hs; done) | skip
    rename_i n
    rcases r with _ | ⟨v1, r⟩
    · cases hs
    cases v1 <;> first | (cases hs; done) | skip
    rename_i dp
    rcases r with _ | ⟨v2, r⟩
    · cases hs
    cases v2 <;> first | (cases hs; done) | skip
    rename_i b
    rcases r with _ | ⟨v3, r⟩
    · cases hs
    cases v3 <;> first | (cases hs; done) | skip
    rename_i sp
    rcases r with _ | ⟨v4, r⟩
    · cases hs
    cases v4 <;> first | (cases hs; done) | skip
    rename_i a
    dsimp only at hs
    split at hs
    rotate_left
    · cases hs
    rename_i n0 f hMa
    split at hs
    rotate_left
    · cases hs
    rename_i n1 g hMb
    by_cases c0 : len = 3
    rotate_left
    · rw [if_neg c0] at hs; cases hs
    rw [if_pos c0] at hs
    by_cases c1 : 2 ≤ d
    rotate_left
    · rw [if_neg c1] at hs; cases hs
    rw [if_pos c1] at hs
    by_cases c2 : al = false
    rotate_left
    · rw [if_neg c2] at hs; cases hs
    rw [if_pos c2] at hs
    by_cases c3 : (r.map fun v => v.category).sum ≤ 8
    rotate_left
    · rw [if_neg c3] at hs; cases hs
    rw [if_pos c3] at hs
    by_cases c4 : a < N
    rotate_left
    · rw [if_neg c4] at hs; cases hs
    rw [if_pos c4] at hs
    by_cases c5 : b < N
    rotate_left
    · rw [if_neg c5] at hs; cases hs
    rw [if_pos c5] at hs
    by_cases c6 : ¬ sp < 0
    rotate_left
    · rw [if_neg c6] at hs; cases hs
    rw [if_pos c6] at hs
    by_cases c7 : ¬ dp < 0
    rotate_left
    · rw [if_neg c7] at hs; cases hs
    rw [if_pos c7] at hs
    by_cases c8 : ¬ n < 0
    rotate_left
    · rw [if_neg c8] at hs; cases hs
    rw [if_pos c8] at hs
    by_cases c9 : sp.toNatClampNeg + n.toNatClampNeg ≤ n0
    rotate_left
    · rw [if_neg c9] at hs; cases hs
    rw [if_pos c9] at hs
    by_cases c10 : dp.toNatClampNeg + n.toNatClampNeg ≤ n1
    rotate_left
    · rw [if_neg c10] at hs; cases hs
    rw [if_pos c10] at hs
    cases hs
    subst c0
    subst c2
    exact PW.copyi h j4 c4 c5 hMa hMb c6 c7 c8 c9 c10 c1 c3 k
  rw [if_neg j4] at hs
  cases hk : p_f2 p_ms (p_mK j) idx with
  | none => rw [hk] at hs; cases hs
  | some k0 =>
    rw [hk] at hs
    dsimp only at hs
    by_cases c0 : len = 3
    rotate_left
    · rw [if_neg c0] at hs; cases hs
    rw [if_pos c0] at hs
    by_cases c1 : ¬ p_mK j = 13
    rotate_left
    · rw [if_neg c1] at hs; cases hs
    rw [if_pos c1] at hs
    by_cases c2 : (st.take (p_mN k0)).length = p_mN k0
    rotate_left
    · rw [if_neg c2] at hs; cases hs
    rw [if_pos c2] at hs
    by_cases c3 : ((st.drop (p_mN k0)).map fun v => v.category).sum ≤ 8
    rotate_left
    · rw [if_neg c3] at hs; cases hs
    rw [if_pos c3] at hs
    by_cases c4 : (lg_sl ((st.take (p_mN k0)).reverse)).length ≤ p_mL k0
    rotate_left
    · rw [if_neg c4] at hs; cases hs
    rw [if_pos c4] at hs
    by_cases c5 : ce + p_mc k0 ≤ mc
    rotate_left
    · rw [if_neg c5] at hs; cases hs
    rw [if_pos c5] at hs
    by_cases c6 : sl + p_msl k0 ≤ ms
    rotate_left
    · rw [if_neg c6] at hs; cases hs
    rw [if_pos c6] at hs
    cases hs
    obtain ⟨d', rfl, kc⟩ := k
    subst c0
    have e : st = (st.take (p_mN k0)).reverse.reverse ++ st.drop (p_mN k0) := by rw [List.reverse_reverse, List.take_append_drop]
    rw [e]
    exact PW.callS h hk c1 (by rw [List.length_reverse]; exact c2) c3 c4 c5 c6 kc
set_option maxHeartbeats 4000000 in
theorem p_stp_ok {i : Instr} (h : p_tb j pc = some (i, len)) (hs : p_stp i al d j mc ms len pc lv st N M ce sl = some A) (k : p_act G al d j mc ms Kr pc lv N M ce sl A) : PW G al d j mc ms Kr pc lv st N M ce sl := by
  cases i <;> first | (cases hs; done) | skip
  case iconst => exact p_x_iconst_ok h hs k
  case bipush => exact p_x_bipush_ok h hs k
  case sipush => exact p_x_sipush_ok h hs k
  case lconst => exact p_x_lconst_ok h hs k
  case iload_n => exact p_x_iload_n_ok h hs k
  case iload => exact p_x_iload_ok h hs k
  case istore_n => exact p_x_istore_n_ok h hs k
  case istore => exact p_x_istore_ok h hs k
  case lload_n => exact p_x_lload_n_ok h hs k
  case lload => exact p_x_lload_ok h hs k
  case lstore_n => exact p_x_lstore_n_ok h hs k
  case lstore => exact p_x_lstore_ok h hs k
  case aload_n => exact p_x_aload_n_ok h hs k
  case aload => exact p_x_aload_ok h hs k
  case astore_n => exact p_x_astore_n_ok h hs k
  case astore => exact p_x_astore_ok h hs k
  case iinc => exact p_x_iinc_ok h hs k
  case goto => exact p_x_goto_ok h hs k
  case dup => exact p_x_dup_ok h hs k
  case pop => exact p_x_pop_ok h hs k
  case dup2 => exact p_x_dup2_ok h hs k
  case iadd => exact p_x_iadd_ok h hs k
  case isub => exact p_x_isub_ok h hs k
  case imul => exact p_x_imul_ok h hs k
  case iand => exact p_x_iand_ok h hs k
  case ior => exact p_x_ior_ok h hs k
  case ixor => exact p_x_ixor_ok h hs k
  case ishl => exact p_x_ishl_ok h hs k
  case ishr => exact p_x_ishr_ok h hs k
  case iushr => exact p_x_iushr_ok h hs k
  case idiv => exact p_x_idiv_ok h hs k
  case irem => exact p_x_irem_ok h hs k
  case ineg => exact p_x_ineg_ok h hs k
  case ladd => exact p_x_ladd_ok h hs k
  case lmul => exact p_x_lmul_ok h hs k
  case lor => exact p_x_lor_ok h hs k
  case ldiv => exact p_x_ldiv_ok h hs k
  case lrem => exact p_x_lrem_ok h hs k
  case lshl => exact p_x_lshl_ok h hs k
  case lcmp => exact p_x_lcmp_ok h hs k
  case i2l => exact p_x_i2l_ok h hs k
  case l2i => exact p_x_l2i_ok h hs k
  case i2b => exact p_x_i2b_ok h hs k
  case ifCond => exact p_x_ifCond_ok h hs k
  case if_icmp => exact p_x_if_icmp_ok h hs k
  case getfield => exact p_x_getfield_ok h hs k
  case putfield => exact p_x_putfield_ok h hs k
  case new => exact p_x_new_ok h hs k
  case newarray => exact p_x_newarray_ok h hs k
  case anewarray => exact p_x_anewarray_ok h hs k
  case iaload => exact p_x_iaload_ok h hs k
  case baload => exact p_x_baload_ok h hs k
  case laload => exact p_x_laload_ok h hs k
  case aaload => exact p_x_aaload_ok h hs k
  case arraylength => exact p_x_arraylength_ok h hs k
  case iastore => exact p_x_iastore_ok h hs k
  case bastore => exact p_x_bastore_ok h hs k
  case lastore => exact p_x_lastore_ok h hs k
  case aastore => exact p_x_aastore_ok h hs k
  case ldc2_w => exact p_x_ldc2_w_ok h hs k
  case ldc_w => exact p_x_ldc_w_ok h hs k
  case ldc => exact p_x_ldc_ok h hs k
  case getstatic => exact p_x_getstatic_ok h hs k
  case ireturn => exact p_x_ireturn_ok h hs k
  case return_ => exact p_x_return_ok h hs k
  case lreturn => exact p_x_lreturn_ok h hs k
  case areturn => exact p_x_areturn_ok h hs k
  case invokevirtual => exact p_x_invokevirtual_ok h hs k
  case invokespecial => exact p_x_invokespecial_ok h hs k
  case invokestatic => exact p_x_invokestatic_ok h hs k
end Sound
def p_ex : Nat → Bool → Nat → Nat → Nat → Nat → Nat → List (Nat × Value) → List Value → Nat → pM → Nat → Nat → Option (Option Value × Nat × pM)
  | 0, _, _, _, _, _, _, _, _, _, _, _, _ => none
  | n + 1, al, d, j, mc, ms, pc, lv, st, N, M, ce, sl =>
    match p_tb j pc with
    | none => none
    | some (i, len) =>
      match p_stp i al d j mc ms len pc lv st N M ce sl with
      | none => none
      | some (.inl (pc', lv', st', N', M', ce', sl')) => p_ex n al d j mc ms pc' lv' st' N' M' ce' sl'
      | some (.inr (.inl (k, as, rest))) =>
        match d with
        | 0 => none
        | d' + 1 =>
          match p_ex n al d' k (p_mc k) (p_msl k) 0 (lv_args 0 as) [] N M 0 0 with
          | none => none
          | some (v, N', M') => p_ex n al (d' + 1) j mc ms (pc + 3) lv (v.toList ++ rest) N' M' (ce + p_mc k) (sl + p_msl k)
      | some (.inr (.inr v)) => some (v, N, M)
theorem p_ex_ok {G : pG} : ∀ (n : Nat) {al : Bool} {d j mc ms pc : Nat} {lv : List (Nat × Value)} {st : List Value} {N : Nat} {M : pM} {ce sl : Nat} {v : Option Value} {N' : Nat} {M' : pM} {Kr : pK}, p_ex n al d j mc ms pc lv st N M ce sl = some (v, N', M') → Kr.1 v N' M' → PW G al d j mc ms Kr pc lv st N M ce sl
  | 0, _, _, _, _, _, _, _, _, _, _, _, _, _, _, _, _, h, _ => by simp [p_ex] at h
  | n + 1, al, d, j, mc, ms, pc, lv, st, N, M, ce, sl, v, N', M', Kr, h, k => by
    unfold p_ex at h
    split at h
    · cases h
    · rename_i i len htb
      split at h
      · cases h
      · rename_i pc' lv' st' N1 M1 ce' sl' hs
        exact p_stp_ok htb hs (p_ex_ok n h k)
      · rename_i kk as rest hs
        cases d with
        | zero => cases h
        | succ d' =>
          dsimp only at h
          split at h
          · cases h
          · rename_i v1 N1 M1 h1
            exact p_stp_ok htb hs ⟨d', rfl, p_ex_ok n h1 (p_ex_ok n h k)⟩
      · rename_i v1 hs
        cases h
        exact p_stp_ok htb hs k
