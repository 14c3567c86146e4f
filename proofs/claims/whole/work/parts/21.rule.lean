/-! a rule an instruction -/
section RUL
variable {d o nL pc : Nat} {ini : Bool} {b : ByteArray} {ret : Option FieldType} {ls : List (Nat × Value)} {st : List Value} {M : mH} {R : Option Value × mH → Prop}
theorem r_null (hd : decode b pc = .ok (.aconst_null, 1)) (kk : mm_Ru d (o, nL, ini, b, ret) (pc + 1) ls (.null :: st) M R) : mm_Ru d (o, nL, ini, b, ret) pc ls st M R := r_st (C := (o, nL, ini, b, ret)) hd rfl rfl rfl (rfl) kk
theorem r_iconst {n : Int} {v : Int32} (hv : Int32.ofInt n = v) (hd : decode b pc = .ok (.iconst n, 1)) (kk : mm_Ru d (o, nL, ini, b, ret) (pc + 1) ls (.int v :: st) M R) : mm_Ru d (o, nL, ini, b, ret) pc ls st M R := by
  subst hv
  exact r_st (C := (o, nL, ini, b, ret)) hd rfl rfl rfl rfl kk
theorem r_bipush {n : Int} {v : Int32} (hv : (Int8.ofInt n).toInt32 = v) (hd : decode b pc = .ok (.bipush n, 2)) (kk : mm_Ru d (o, nL, ini, b, ret) (pc + 2) ls (.int v :: st) M R) : mm_Ru d (o, nL, ini, b, ret) pc ls st M R := by
  subst hv
  exact r_st (C := (o, nL, ini, b, ret)) hd rfl rfl rfl rfl kk
theorem r_sipush {n : Int} {v : Int32} (hv : (Int16.ofInt n).toInt32 = v) (hd : decode b pc = .ok (.sipush n, 3)) (kk : mm_Ru d (o, nL, ini, b, ret) (pc + 3) ls (.int v :: st) M R) : mm_Ru d (o, nL, ini, b, ret) pc ls st M R := by
  subst hv
  exact r_st (C := (o, nL, ini, b, ret)) hd rfl rfl rfl rfl kk
theorem r_lconst {n : Fin 2} {v : Int64} (hv : Int64.ofNat (n : Nat) = v) (hd : decode b pc = .ok (.lconst n, 1)) (kk : mm_Ru d (o, nL, ini, b, ret) (pc + 1) ls (.long v :: st) M R) : mm_Ru d (o, nL, ini, b, ret) pc ls st M R := by
  subst hv
  exact r_st (C := (o, nL, ini, b, ret)) hd rfl rfl rfl rfl kk
theorem r_ldc {x : Nat} {v : Int32} (hx : mm_nr o x = some v) (hd : decode b pc = .ok (.ldc x, 2)) (kk : mm_Ru d (o, nL, ini, b, ret) (pc + 2) ls (.int v :: st) M R) : mm_Ru d (o, nL, ini, b, ret) pc ls st M R := r_st (C := (o, nL, ini, b, ret)) hd rfl rfl rfl (by simp only [mm_st, hx]) kk
theorem r_ldc_w {x : Nat} {v : Int32} (hx : mm_nr o x = some v) (hd : decode b pc = .ok (.ldc_w x, 3)) (kk : mm_Ru d (o, nL, ini, b, ret) (pc + 3) ls (.int v :: st) M R) : mm_Ru d (o, nL, ini, b, ret) pc ls st M R := r_st (C := (o, nL, ini, b, ret)) hd rfl rfl rfl (by simp only [mm_st, hx]) kk
theorem r_iload_n {n : Fin 4} {v : Int32} (hl : mm_lk ls n = some (.int v)) (hd : decode b pc = .ok (.iload_n n, 1)) (kk : mm_Ru d (o, nL, ini, b, ret) (pc + 1) ls (.int v :: st) M R) : mm_Ru d (o, nL, ini, b, ret) pc ls st M R := r_st (C := (o, nL, ini, b, ret)) hd rfl rfl rfl (by simp only [mm_st, hl]) kk
theorem r_iload {n : Nat} {v : Int32} (hl : mm_lk ls n = some (.int v)) (hd : decode b pc = .ok (.iload n, 2)) (kk : mm_Ru d (o, nL, ini, b, ret) (pc + 2) ls (.int v :: st) M R) : mm_Ru d (o, nL, ini, b, ret) pc ls st M R := r_st (C := (o, nL, ini, b, ret)) hd rfl rfl rfl (by simp only [mm_st, hl]) kk
theorem r_istore_n {n : Fin 4} {v : Int32} {ls' : List (Nat × Value)} (hn : (n : Nat) < nL) (hl : mm_s1 ls n (.int v) = ls') (hd : decode b pc = .ok (.istore_n n, 1)) (kk : mm_Ru d (o, nL, ini, b, ret) (pc + 1) ls' st M R) : mm_Ru d (o, nL, ini, b, ret) pc ls (.int v :: st) M R := r_st (C := (o, nL, ini, b, ret)) hd rfl rfl rfl (by simp only [mm_st, if_pos hn, hl]) kk
theorem r_istore {n : Nat} {v : Int32} {ls' : List (Nat × Value)} (hn : n < nL) (hl : mm_s1 ls n (.int v) = ls') (hd : decode b pc = .ok (.istore n, 2)) (kk : mm_Ru d (o, nL, ini, b, ret) (pc + 2) ls' st M R) : mm_Ru d (o, nL, ini, b, ret) pc ls (.int v :: st) M R := r_st (C := (o, nL, ini, b, ret)) hd rfl rfl rfl (by simp only [mm_st, if_pos hn, hl]) kk
theorem r_lload_n {n : Fin 4} {v : Int64} (hl : mm_lk ls n = some (.long v)) (hd : decode b pc = .ok (.lload_n n, 1)) (kk : mm_Ru d (o, nL, ini, b, ret) (pc + 1) ls (.long v :: st) M R) : mm_Ru d (o, nL, ini, b, ret) pc ls st M R := r_st (C := (o, nL, ini, b, ret)) hd rfl rfl rfl (by simp only [mm_st, hl]) kk
theorem r_lload {n : Nat} {v : Int64} (hl : mm_lk ls n = some (.long v)) (hd : decode b pc = .ok (.lload n, 2)) (kk : mm_Ru d (o, nL, ini, b, ret) (pc + 2) ls (.long v :: st) M R) : mm_Ru d (o, nL, ini, b, ret) pc ls st M R := r_st (C := (o, nL, ini, b, ret)) hd rfl rfl rfl (by simp only [mm_st, hl]) kk
theorem r_lstore_n {n : Fin 4} {v : Int64} {ls' : List (Nat × Value)} (hn : (n : Nat) + 1 < nL) (hl : mm_s2 ls n (.long v) = ls') (hd : decode b pc = .ok (.lstore_n n, 1)) (kk : mm_Ru d (o, nL, ini, b, ret) (pc + 1) ls' st M R) : mm_Ru d (o, nL, ini, b, ret) pc ls (.long v :: st) M R := r_st (C := (o, nL, ini, b, ret)) hd rfl rfl rfl (by simp only [mm_st, if_pos hn, hl]) kk
theorem r_lstore {n : Nat} {v : Int64} {ls' : List (Nat × Value)} (hn : n + 1 < nL) (hl : mm_s2 ls n (.long v) = ls') (hd : decode b pc = .ok (.lstore n, 2)) (kk : mm_Ru d (o, nL, ini, b, ret) (pc + 2) ls' st M R) : mm_Ru d (o, nL, ini, b, ret) pc ls (.long v :: st) M R := r_st (C := (o, nL, ini, b, ret)) hd rfl rfl rfl (by simp only [mm_st, if_pos hn, hl]) kk
theorem r_aload_n {n : Fin 4} {v : Nat} (hl : mm_lk ls n = some (.ref v)) (hd : decode b pc = .ok (.aload_n n, 1)) (kk : mm_Ru d (o, nL, ini, b, ret) (pc + 1) ls (.ref v :: st) M R) : mm_Ru d (o, nL, ini, b, ret) pc ls st M R := r_st (C := (o, nL, ini, b, ret)) hd rfl rfl rfl (by simp only [mm_st, hl]) kk
theorem r_aload {n : Nat} {v : Nat} (hl : mm_lk ls n = some (.ref v)) (hd : decode b pc = .ok (.aload n, 2)) (kk : mm_Ru d (o, nL, ini, b, ret) (pc + 2) ls (.ref v :: st) M R) : mm_Ru d (o, nL, ini, b, ret) pc ls st M R := r_st (C := (o, nL, ini, b, ret)) hd rfl rfl rfl (by simp only [mm_st, hl]) kk
theorem r_astore_n {n : Fin 4} {v : Nat} {ls' : List (Nat × Value)} (hn : (n : Nat) < nL) (hl : mm_s1 ls n (.ref v) = ls') (hd : decode b pc = .ok (.astore_n n, 1)) (kk : mm_Ru d (o, nL, ini, b, ret) (pc + 1) ls' st M R) : mm_Ru d (o, nL, ini, b, ret) pc ls (.ref v :: st) M R := r_st (C := (o, nL, ini, b, ret)) hd rfl rfl rfl (by simp only [mm_st, if_pos hn, hl]) kk
theorem r_astore {n : Nat} {v : Nat} {ls' : List (Nat × Value)} (hn : n < nL) (hl : mm_s1 ls n (.ref v) = ls') (hd : decode b pc = .ok (.astore n, 2)) (kk : mm_Ru d (o, nL, ini, b, ret) (pc + 2) ls' st M R) : mm_Ru d (o, nL, ini, b, ret) pc ls (.ref v :: st) M R := r_st (C := (o, nL, ini, b, ret)) hd rfl rfl rfl (by simp only [mm_st, if_pos hn, hl]) kk
theorem r_aload_nZ {n : Fin 4} (hl : mm_lk ls n = some .null) (hd : decode b pc = .ok (.aload_n n, 1)) (kk : mm_Ru d (o, nL, ini, b, ret) (pc + 1) ls (.null :: st) M R) : mm_Ru d (o, nL, ini, b, ret) pc ls st M R := r_st (C := (o, nL, ini, b, ret)) hd rfl rfl rfl (by simp only [mm_st, hl]) kk
theorem r_aloadZ {n : Nat} (hl : mm_lk ls n = some .null) (hd : decode b pc = .ok (.aload n, 2)) (kk : mm_Ru d (o, nL, ini, b, ret) (pc + 2) ls (.null :: st) M R) : mm_Ru d (o, nL, ini, b, ret) pc ls st M R := r_st (C := (o, nL, ini, b, ret)) hd rfl rfl rfl (by simp only [mm_st, hl]) kk
theorem r_astore_nZ {n : Fin 4} {ls' : List (Nat × Value)} (hn : (n : Nat) < nL) (hl : mm_s1 ls n .null = ls') (hd : decode b pc = .ok (.astore_n n, 1)) (kk : mm_Ru d (o, nL, ini, b, ret) (pc + 1) ls' st M R) : mm_Ru d (o, nL, ini, b, ret) pc ls (.null :: st) M R := r_st (C := (o, nL, ini, b, ret)) hd rfl rfl rfl (by simp only [mm_st, if_pos hn, hl]) kk
theorem r_astoreZ {n : Nat} {ls' : List (Nat × Value)} (hn : n < nL) (hl : mm_s1 ls n .null = ls') (hd : decode b pc = .ok (.astore n, 2)) (kk : mm_Ru d (o, nL, ini, b, ret) (pc + 2) ls' st M R) : mm_Ru d (o, nL, ini, b, ret) pc ls (.null :: st) M R := r_st (C := (o, nL, ini, b, ret)) hd rfl rfl rfl (by simp only [mm_st, if_pos hn, hl]) kk
theorem r_iinc {n : Nat} {k : Int} {x v : Int32} {ls' : List (Nat × Value)} (hx : mm_lk ls n = some (.int x)) (hv : x + Int32.ofInt k = v) (hn : n < nL) (hl : mm_s1 ls n (.int v) = ls') (hd : decode b pc = .ok (.iinc n k, 3)) (kk : mm_Ru d (o, nL, ini, b, ret) (pc + 3) ls' st M R) : mm_Ru d (o, nL, ini, b, ret) pc ls st M R := by
  subst hv
  exact r_st (C := (o, nL, ini, b, ret)) hd rfl rfl rfl (by simp only [mm_st, hx, if_pos hn, hl]) kk
theorem r_iadd {x y v : Int32} (hv : x + y = v) (hd : decode b pc = .ok (.iadd, 1)) (kk : mm_Ru d (o, nL, ini, b, ret) (pc + 1) ls (.int v :: st) M R) : mm_Ru d (o, nL, ini, b, ret) pc ls (.int y :: .int x :: st) M R := by
  subst hv
  exact r_st (C := (o, nL, ini, b, ret)) hd rfl rfl rfl rfl kk
theorem r_isub {x y v : Int32} (hv : x - y = v) (hd : decode b pc = .ok (.isub, 1)) (kk : mm_Ru d (o, nL, ini, b, ret) (pc + 1) ls (.int v :: st) M R) : mm_Ru d (o, nL, ini, b, ret) pc ls (.int y :: .int x :: st) M R := by
  subst hv
  exact r_st (C := (o, nL, ini, b, ret)) hd rfl rfl rfl rfl kk
theorem r_imul {x y v : Int32} (hv : x * y = v) (hd : decode b pc = .ok (.imul, 1)) (kk : mm_Ru d (o, nL, ini, b, ret) (pc + 1) ls (.int v :: st) M R) : mm_Ru d (o, nL, ini, b, ret) pc ls (.int y :: .int x :: st) M R := by
  subst hv
  exact r_st (C := (o, nL, ini, b, ret)) hd rfl rfl rfl rfl kk
theorem r_iand {x y v : Int32} (hv : x &&& y = v) (hd : decode b pc = .ok (.iand, 1)) (kk : mm_Ru d (o, nL, ini, b, ret) (pc + 1) ls (.int v :: st) M R) : mm_Ru d (o, nL, ini, b, ret) pc ls (.int y :: .int x :: st) M R := by
  subst hv
  exact r_st (C := (o, nL, ini, b, ret)) hd rfl rfl rfl rfl kk
theorem r_ior {x y v : Int32} (hv : x ||| y = v) (hd : decode b pc = .ok (.ior, 1)) (kk : mm_Ru d (o, nL, ini, b, ret) (pc + 1) ls (.int v :: st) M R) : mm_Ru d (o, nL, ini, b, ret) pc ls (.int y :: .int x :: st) M R := by
  subst hv
  exact r_st (C := (o, nL, ini, b, ret)) hd rfl rfl rfl rfl kk
theorem r_ixor {x y v : Int32} (hv : x ^^^ y = v) (hd : decode b pc = .ok (.ixor, 1)) (kk : mm_Ru d (o, nL, ini, b, ret) (pc + 1) ls (.int v :: st) M R) : mm_Ru d (o, nL, ini, b, ret) pc ls (.int y :: .int x :: st) M R := by
  subst hv
  exact r_st (C := (o, nL, ini, b, ret)) hd rfl rfl rfl rfl kk
theorem r_ishl {x y v : Int32} (hv : x <<< (y &&& 31) = v) (hd : decode b pc = .ok (.ishl, 1)) (kk : mm_Ru d (o, nL, ini, b, ret) (pc + 1) ls (.int v :: st) M R) : mm_Ru d (o, nL, ini, b, ret) pc ls (.int y :: .int x :: st) M R := by
  subst hv
  exact r_st (C := (o, nL, ini, b, ret)) hd rfl rfl rfl rfl kk
theorem r_ishr {x y v : Int32} (hv : x >>> (y &&& 31) = v) (hd : decode b pc = .ok (.ishr, 1)) (kk : mm_Ru d (o, nL, ini, b, ret) (pc + 1) ls (.int v :: st) M R) : mm_Ru d (o, nL, ini, b, ret) pc ls (.int y :: .int x :: st) M R := by
  subst hv
  exact r_st (C := (o, nL, ini, b, ret)) hd rfl rfl rfl rfl kk
theorem r_iushr {x y v : Int32} (hv : (x.toUInt32 >>> (y.toUInt32 &&& Int32.toUInt32 31)).toInt32 = v) (hd : decode b pc = .ok (.iushr, 1)) (kk : mm_Ru d (o, nL, ini, b, ret) (pc + 1) ls (.int v :: st) M R) : mm_Ru d (o, nL, ini, b, ret) pc ls (.int y :: .int x :: st) M R := by
  subst hv
  exact r_st (C := (o, nL, ini, b, ret)) hd rfl rfl rfl rfl kk
theorem r_ladd {x y v : Int64} (hv : x + y = v) (hd : decode b pc = .ok (.ladd, 1)) (kk : mm_Ru d (o, nL, ini, b, ret) (pc + 1) ls (.long v :: st) M R) : mm_Ru d (o, nL, ini, b, ret) pc ls (.long y :: .long x :: st) M R := by
  subst hv
  exact r_st (C := (o, nL, ini, b, ret)) hd rfl rfl rfl rfl kk
theorem r_lsub {x y v : Int64} (hv : x - y = v) (hd : decode b pc = .ok (.lsub, 1)) (kk : mm_Ru d (o, nL, ini, b, ret) (pc + 1) ls (.long v :: st) M R) : mm_Ru d (o, nL, ini, b, ret) pc ls (.long y :: .long x :: st) M R := by
  subst hv
  exact r_st (C := (o, nL, ini, b, ret)) hd rfl rfl rfl rfl kk
theorem r_lmul {x y v : Int64} (hv : x * y = v) (hd : decode b pc = .ok (.lmul, 1)) (kk : mm_Ru d (o, nL, ini, b, ret) (pc + 1) ls (.long v :: st) M R) : mm_Ru d (o, nL, ini, b, ret) pc ls (.long y :: .long x :: st) M R := by
  subst hv
  exact r_st (C := (o, nL, ini, b, ret)) hd rfl rfl rfl rfl kk
theorem r_idiv {x y v : Int32} (hy : ¬ y = 0) (hv : x / y = v) (hd : decode b pc = .ok (.idiv, 1)) (kk : mm_Ru d (o, nL, ini, b, ret) (pc + 1) ls (.int v :: st) M R) : mm_Ru d (o, nL, ini, b, ret) pc ls (.int y :: .int x :: st) M R := by
  subst hv
  exact r_st (C := (o, nL, ini, b, ret)) hd rfl rfl rfl (by simp only [mm_st, if_neg hy]) kk
theorem r_irem {x y v : Int32} (hy : ¬ y = 0) (hv : x - x / y * y = v) (hd : decode b pc = .ok (.irem, 1)) (kk : mm_Ru d (o, nL, ini, b, ret) (pc + 1) ls (.int v :: st) M R) : mm_Ru d (o, nL, ini, b, ret) pc ls (.int y :: .int x :: st) M R := by
  subst hv
  exact r_st (C := (o, nL, ini, b, ret)) hd rfl rfl rfl (by simp only [mm_st, if_neg hy]) kk
theorem r_ineg {x : Int32} {v : Int32} (hv : -x = v) (hd : decode b pc = .ok (.ineg, 1)) (kk : mm_Ru d (o, nL, ini, b, ret) (pc + 1) ls (.int v :: st) M R) : mm_Ru d (o, nL, ini, b, ret) pc ls (.int x :: st) M R := by
  subst hv
  exact r_st (C := (o, nL, ini, b, ret)) hd rfl rfl rfl rfl kk
theorem r_i2l {x : Int32} {v : Int64} (hv : x.toInt64 = v) (hd : decode b pc = .ok (.i2l, 1)) (kk : mm_Ru d (o, nL, ini, b, ret) (pc + 1) ls (.long v :: st) M R) : mm_Ru d (o, nL, ini, b, ret) pc ls (.int x :: st) M R := by
  subst hv
  exact r_st (C := (o, nL, ini, b, ret)) hd rfl rfl rfl rfl kk
theorem r_i2b {x : Int32} {v : Int32} (hv : x.toInt8.toInt32 = v) (hd : decode b pc = .ok (.i2b, 1)) (kk : mm_Ru d (o, nL, ini, b, ret) (pc + 1) ls (.int v :: st) M R) : mm_Ru d (o, nL, ini, b, ret) pc ls (.int x :: st) M R := by
  subst hv
  exact r_st (C := (o, nL, ini, b, ret)) hd rfl rfl rfl rfl kk
theorem r_i2c {x : Int32} {v : Int32} (hv : (x.toUInt32 % 65536).toInt32 = v) (hd : decode b pc = .ok (.i2c, 1)) (kk : mm_Ru d (o, nL, ini, b, ret) (pc + 1) ls (.int v :: st) M R) : mm_Ru d (o, nL, ini, b, ret) pc ls (.int x :: st) M R := by
  subst hv
  exact r_st (C := (o, nL, ini, b, ret)) hd rfl rfl rfl rfl kk
theorem r_lcmp {x y : Int64} {v : Int32} (hv : lg_cmp x y = v) (hd : decode b pc = .ok (.lcmp, 1)) (kk : mm_Ru d (o, nL, ini, b, ret) (pc + 1) ls (.int v :: st) M R) : mm_Ru d (o, nL, ini, b, ret) pc ls (.long y :: .long x :: st) M R := by
  subst hv
  exact r_st (C := (o, nL, ini, b, ret)) hd rfl rfl rfl rfl kk
theorem r_dup {v : Value} (hc : v.category = 1) (hd : decode b pc = .ok (.dup, 1)) (kk : mm_Ru d (o, nL, ini, b, ret) (pc + 1) ls (v :: v :: st) M R) : mm_Ru d (o, nL, ini, b, ret) pc ls (v :: st) M R := r_st (C := (o, nL, ini, b, ret)) hd rfl rfl rfl (by simp only [mm_st, if_pos hc]) kk
theorem r_dup2 {v w : Value} (hc : v.category = 1 ∧ w.category = 1) (hd : decode b pc = .ok (.dup2, 1)) (kk : mm_Ru d (o, nL, ini, b, ret) (pc + 1) ls (v :: w :: v :: w :: st) M R) : mm_Ru d (o, nL, ini, b, ret) pc ls (v :: w :: st) M R := r_st (C := (o, nL, ini, b, ret)) hd rfl rfl rfl (by simp only [mm_st, if_pos hc]) kk
theorem r_dup_x1 {v w : Value} (hc : v.category = 1 ∧ w.category = 1) (hd : decode b pc = .ok (.dup_x1, 1)) (kk : mm_Ru d (o, nL, ini, b, ret) (pc + 1) ls (v :: w :: v :: st) M R) : mm_Ru d (o, nL, ini, b, ret) pc ls (v :: w :: st) M R := r_st (C := (o, nL, ini, b, ret)) hd rfl rfl rfl (by simp only [mm_st, if_pos hc]) kk
theorem r_pop {v : Value} (hc : v.category = 1) (hd : decode b pc = .ok (.pop, 1)) (kk : mm_Ru d (o, nL, ini, b, ret) (pc + 1) ls st M R) : mm_Ru d (o, nL, ini, b, ret) pc ls (v :: st) M R := r_st (C := (o, nL, ini, b, ret)) hd rfl rfl rfl (by simp only [mm_st, if_pos hc]) kk
theorem r_goto {off : Int} {t : Nat} (ht : (pc : Int) + off = (t : Int)) (hd : decode b pc = .ok (.goto off, 3)) (kk : mm_Ru d (o, nL, ini, b, ret) t ls st M R) : mm_Ru d (o, nL, ini, b, ret) pc ls st M R := r_st (C := (o, nL, ini, b, ret)) hd rfl rfl rfl (by simp only [mm_st, mm_go]; rw [ht, if_pos (Int.natCast_nonneg t), Int.toNat_natCast]) kk
theorem r_ifeq {x : Int32} {off : Int} {t : Nat} (ht : (pc : Int) + off = (t : Int)) (hd : decode b pc = .ok (.ifCond .eq off, 3)) (kt : x = 0 → mm_Ru d (o, nL, ini, b, ret) t ls st M R) (kf : ¬ (x = 0) → mm_Ru d (o, nL, ini, b, ret) (pc + 3) ls st M R) : mm_Ru d (o, nL, ini, b, ret) pc ls (.int x :: st) M R := by
  by_cases h : x = 0
  · exact r_st (C := (o, nL, ini, b, ret)) hd rfl rfl rfl (by simp only [mm_st]; rw [ht, if_pos (Int.natCast_nonneg t), if_pos (show mm_cz .eq x = true from decide_eq_true h), Int.toNat_natCast]) (kt h)
  · exact r_st (C := (o, nL, ini, b, ret)) hd rfl rfl rfl (by simp only [mm_st]; rw [ht, if_pos (Int.natCast_nonneg t), if_neg (show ¬ mm_cz .eq x = true from fun q => h (of_decide_eq_true q))]) (kf h)
theorem r_iceq {x y : Int32} {off : Int} {t : Nat} (ht : (pc : Int) + off = (t : Int)) (hd : decode b pc = .ok (.if_icmp .eq off, 3)) (kt : x = y → mm_Ru d (o, nL, ini, b, ret) t ls st M R) (kf : ¬ (x = y) → mm_Ru d (o, nL, ini, b, ret) (pc + 3) ls st M R) : mm_Ru d (o, nL, ini, b, ret) pc ls (.int y :: .int x :: st) M R := by
  by_cases h : x = y
  · exact r_st (C := (o, nL, ini, b, ret)) hd rfl rfl rfl (by simp only [mm_st]; rw [ht, if_pos (Int.natCast_nonneg t), if_pos (show mm_c2 .eq x y = true from decide_eq_true h), Int.toNat_natCast]) (kt h)
  · exact r_st (C := (o, nL, ini, b, ret)) hd rfl rfl rfl (by simp only [mm_st]; rw [ht, if_pos (Int.natCast_nonneg t), if_neg (show ¬ mm_c2 .eq x y = true from fun q => h (of_decide_eq_true q))]) (kf h)
theorem r_ifne {x : Int32} {off : Int} {t : Nat} (ht : (pc : Int) + off = (t : Int)) (hd : decode b pc = .ok (.ifCond .ne off, 3)) (kt : ¬ x = 0 → mm_Ru d (o, nL, ini, b, ret) t ls st M R) (kf : x = 0 → mm_Ru d (o, nL, ini, b, ret) (pc + 3) ls st M R) : mm_Ru d (o, nL, ini, b, ret) pc ls (.int x :: st) M R := by
  by_cases h : ¬ x = 0
  · exact r_st (C := (o, nL, ini, b, ret)) hd rfl rfl rfl (by simp only [mm_st]; rw [ht, if_pos (Int.natCast_nonneg t), if_pos (show mm_cz .ne x = true from decide_eq_true h), Int.toNat_natCast]) (kt h)
  · exact r_st (C := (o, nL, ini, b, ret)) hd rfl rfl rfl (by simp only [mm_st]; rw [ht, if_pos (Int.natCast_nonneg t), if_neg (show ¬ mm_cz .ne x = true from fun q => h (of_decide_eq_true q))]) (kf (Decidable.of_not_not h))
theorem r_icne {x y : Int32} {off : Int} {t : Nat} (ht : (pc : Int) + off = (t : Int)) (hd : decode b pc = .ok (.if_icmp .ne off, 3)) (kt : ¬ x = y → mm_Ru d (o, nL, ini, b, ret) t ls st M R) (kf : x = y → mm_Ru d (o, nL, ini, b, ret) (pc + 3) ls st M R) : mm_Ru d (o, nL, ini, b, ret) pc ls (.int y :: .int x :: st) M R := by
  by_cases h : ¬ x = y
  · exact r_st (C := (o, nL, ini, b, ret)) hd rfl rfl rfl (by simp only [mm_st]; rw [ht, if_pos (Int.natCast_nonneg t), if_pos (show mm_c2 .ne x y = true from decide_eq_true h), Int.toNat_natCast]) (kt h)
  · exact r_st (C := (o, nL, ini, b, ret)) hd rfl rfl rfl (by simp only [mm_st]; rw [ht, if_pos (Int.natCast_nonneg t), if_neg (show ¬ mm_c2 .ne x y = true from fun q => h (of_decide_eq_true q))]) (kf (Decidable.of_not_not h))
theorem r_iflt {x : Int32} {off : Int} {t : Nat} (ht : (pc : Int) + off = (t : Int)) (hd : decode b pc = .ok (.ifCond .lt off, 3)) (kt : x < 0 → mm_Ru d (o, nL, ini, b, ret) t ls st M R) (kf : ¬ (x < 0) → mm_Ru d (o, nL, ini, b, ret) (pc + 3) ls st M R) : mm_Ru d (o, nL, ini, b, ret) pc ls (.int x :: st) M R := by
  by_cases h : x < 0
  · exact r_st (C := (o, nL, ini, b, ret)) hd rfl rfl rfl (by simp only [mm_st]; rw [ht, if_pos (Int.natCast_nonneg t), if_pos (show mm_cz .lt x = true from decide_eq_true h), Int.toNat_natCast]) (kt h)
  · exact r_st (C := (o, nL, ini, b, ret)) hd rfl rfl rfl (by simp only [mm_st]; rw [ht, if_pos (Int.natCast_nonneg t), if_neg (show ¬ mm_cz .lt x = true from fun q => h (of_decide_eq_true q))]) (kf h)
theorem r_iclt {x y : Int32} {off : Int} {t : Nat} (ht : (pc : Int) + off = (t : Int)) (hd : decode b pc = .ok (.if_icmp .lt off, 3)) (kt : x < y → mm_Ru d (o, nL, ini, b, ret) t ls st M R) (kf : ¬ (x < y) → mm_Ru d (o, nL, ini, b, ret) (pc + 3) ls st M R) : mm_Ru d (o, nL, ini, b, ret) pc ls (.int y :: .int x :: st) M R := by
  by_cases h : x < y
  · exact r_st (C := (o, nL, ini, b, ret)) hd rfl rfl rfl (by simp only [mm_st]; rw [ht, if_pos (Int.natCast_nonneg t), if_pos (show mm_c2 .lt x y = true from decide_eq_true h), Int.toNat_natCast]) (kt h)
  · exact r_st (C := (o, nL, ini, b, ret)) hd rfl rfl rfl (by simp only [mm_st]; rw [ht, if_pos (Int.natCast_nonneg t), if_neg (show ¬ mm_c2 .lt x y = true from fun q => h (of_decide_eq_true q))]) (kf h)
theorem r_ifge {x : Int32} {off : Int} {t : Nat} (ht : (pc : Int) + off = (t : Int)) (hd : decode b pc = .ok (.ifCond .ge off, 3)) (kt : 0 ≤ x → mm_Ru d (o, nL, ini, b, ret) t ls st M R) (kf : ¬ (0 ≤ x) → mm_Ru d (o, nL, ini, b, ret) (pc + 3) ls st M R) : mm_Ru d (o, nL, ini, b, ret) pc ls (.int x :: st) M R := by
  by_cases h : 0 ≤ x
  · exact r_st (C := (o, nL, ini, b, ret)) hd rfl rfl rfl (by simp only [mm_st]; rw [ht, if_pos (Int.natCast_nonneg t), if_pos (show mm_cz .ge x = true from decide_eq_true h), Int.toNat_natCast]) (kt h)
  · exact r_st (C := (o, nL, ini, b, ret)) hd rfl rfl rfl (by simp only [mm_st]; rw [ht, if_pos (Int.natCast_nonneg t), if_neg (show ¬ mm_cz .ge x = true from fun q => h (of_decide_eq_true q))]) (kf h)
theorem r_icge {x y : Int32} {off : Int} {t : Nat} (ht : (pc : Int) + off = (t : Int)) (hd : decode b pc = .ok (.if_icmp .ge off, 3)) (kt : y ≤ x → mm_Ru d (o, nL, ini, b, ret) t ls st M R) (kf : ¬ (y ≤ x) → mm_Ru d (o, nL, ini, b, ret) (pc + 3) ls st M R) : mm_Ru d (o, nL, ini, b, ret) pc ls (.int y :: .int x :: st) M R := by
  by_cases h : y ≤ x
  · exact r_st (C := (o, nL, ini, b, ret)) hd rfl rfl rfl (by simp only [mm_st]; rw [ht, if_pos (Int.natCast_nonneg t), if_pos (show mm_c2 .ge x y = true from decide_eq_true h), Int.toNat_natCast]) (kt h)
  · exact r_st (C := (o, nL, ini, b, ret)) hd rfl rfl rfl (by simp only [mm_st]; rw [ht, if_pos (Int.natCast_nonneg t), if_neg (show ¬ mm_c2 .ge x y = true from fun q => h (of_decide_eq_true q))]) (kf h)
theorem r_ifgt {x : Int32} {off : Int} {t : Nat} (ht : (pc : Int) + off = (t : Int)) (hd : decode b pc = .ok (.ifCond .gt off, 3)) (kt : 0 < x → mm_Ru d (o, nL, ini, b, ret) t ls st M R) (kf : ¬ (0 < x) → mm_Ru d (o, nL, ini, b, ret) (pc + 3) ls st M R) : mm_Ru d (o, nL, ini, b, ret) pc ls (.int x :: st) M R := by
  by_cases h : 0 < x
  · exact r_st (C := (o, nL, ini, b, ret)) hd rfl rfl rfl (by simp only [mm_st]; rw [ht, if_pos (Int.natCast_nonneg t), if_pos (show mm_cz .gt x = true from decide_eq_true h), Int.toNat_natCast]) (kt h)
  · exact r_st (C := (o, nL, ini, b, ret)) hd rfl rfl rfl (by simp only [mm_st]; rw [ht, if_pos (Int.natCast_nonneg t), if_neg (show ¬ mm_cz .gt x = true from fun q => h (of_decide_eq_true q))]) (kf h)
theorem r_icgt {x y : Int32} {off : Int} {t : Nat} (ht : (pc : Int) + off = (t : Int)) (hd : decode b pc = .ok (.if_icmp .gt off, 3)) (kt : y < x → mm_Ru d (o, nL, ini, b, ret) t ls st M R) (kf : ¬ (y < x) → mm_Ru d (o, nL, ini, b, ret) (pc + 3) ls st M R) : mm_Ru d (o, nL, ini, b, ret) pc ls (.int y :: .int x :: st) M R := by
  by_cases h : y < x
  · exact r_st (C := (o, nL, ini, b, ret)) hd rfl rfl rfl (by simp only [mm_st]; rw [ht, if_pos (Int.natCast_nonneg t), if_pos (show mm_c2 .gt x y = true from decide_eq_true h), Int.toNat_natCast]) (kt h)
  · exact r_st (C := (o, nL, ini, b, ret)) hd rfl rfl rfl (by simp only [mm_st]; rw [ht, if_pos (Int.natCast_nonneg t), if_neg (show ¬ mm_c2 .gt x y = true from fun q => h (of_decide_eq_true q))]) (kf h)
theorem r_ifle {x : Int32} {off : Int} {t : Nat} (ht : (pc : Int) + off = (t : Int)) (hd : decode b pc = .ok (.ifCond .le off, 3)) (kt : x ≤ 0 → mm_Ru d (o, nL, ini, b, ret) t ls st M R) (kf : ¬ (x ≤ 0) → mm_Ru d (o, nL, ini, b, ret) (pc + 3) ls st M R) : mm_Ru d (o, nL, ini, b, ret) pc ls (.int x :: st) M R := by
  by_cases h : x ≤ 0
  · exact r_st (C := (o, nL, ini, b, ret)) hd rfl rfl rfl (by simp only [mm_st]; rw [ht, if_pos (Int.natCast_nonneg t), if_pos (show mm_cz .le x = true from decide_eq_true h), Int.toNat_natCast]) (kt h)
  · exact r_st (C := (o, nL, ini, b, ret)) hd rfl rfl rfl (by simp only [mm_st]; rw [ht, if_pos (Int.natCast_nonneg t), if_neg (show ¬ mm_cz .le x = true from fun q => h (of_decide_eq_true q))]) (kf h)
theorem r_icle {x y : Int32} {off : Int} {t : Nat} (ht : (pc : Int) + off = (t : Int)) (hd : decode b pc = .ok (.if_icmp .le off, 3)) (kt : x ≤ y → mm_Ru d (o, nL, ini, b, ret) t ls st M R) (kf : ¬ (x ≤ y) → mm_Ru d (o, nL, ini, b, ret) (pc + 3) ls st M R) : mm_Ru d (o, nL, ini, b, ret) pc ls (.int y :: .int x :: st) M R := by
  by_cases h : x ≤ y
  · exact r_st (C := (o, nL, ini, b, ret)) hd rfl rfl rfl (by simp only [mm_st]; rw [ht, if_pos (Int.natCast_nonneg t), if_pos (show mm_c2 .le x y = true from decide_eq_true h), Int.toNat_natCast]) (kt h)
  · exact r_st (C := (o, nL, ini, b, ret)) hd rfl rfl rfl (by simp only [mm_st]; rw [ht, if_pos (Int.natCast_nonneg t), if_neg (show ¬ mm_c2 .le x y = true from fun q => h (of_decide_eq_true q))]) (kf h)
theorem r_nceq {a c : Nat} {off : Int} {t : Nat} (ha : a < 2 ^ 31) (hc : c < 2 ^ 31) (ht : (pc : Int) + off = (t : Int)) (hd : decode b pc = .ok (.if_icmp .eq off, 3)) (kt : a = c → mm_Ru d (o, nL, ini, b, ret) t ls st M R) (kf : ¬ a = c → mm_Ru d (o, nL, ini, b, ret) (pc + 3) ls st M R) : mm_Ru d (o, nL, ini, b, ret) pc ls (.int (nI c) :: .int (nI a) :: st) M R := by
  have e := nI_eq ha hc
  exact r_iceq ht hd (fun h => kt (e.mp h)) (fun h => kf (by have h2 : ¬ (a = c) := fun z => h (e.mpr z); omega))
theorem r_ncne {a c : Nat} {off : Int} {t : Nat} (ha : a < 2 ^ 31) (hc : c < 2 ^ 31) (ht : (pc : Int) + off = (t : Int)) (hd : decode b pc = .ok (.if_icmp .ne off, 3)) (kt : ¬ a = c → mm_Ru d (o, nL, ini, b, ret) t ls st M R) (kf : a = c → mm_Ru d (o, nL, ini, b, ret) (pc + 3) ls st M R) : mm_Ru d (o, nL, ini, b, ret) pc ls (.int (nI c) :: .int (nI a) :: st) M R := by
  have e := not_congr (nI_eq ha hc)
  exact r_icne ht hd (fun h => kt (e.mp h)) (fun h => kf (by have h2 := (nI_eq ha hc).mp h; omega))
theorem r_nclt {a c : Nat} {off : Int} {t : Nat} (ha : a < 2 ^ 31) (hc : c < 2 ^ 31) (ht : (pc : Int) + off = (t : Int)) (hd : decode b pc = .ok (.if_icmp .lt off, 3)) (kt : a < c → mm_Ru d (o, nL, ini, b, ret) t ls st M R) (kf : c ≤ a → mm_Ru d (o, nL, ini, b, ret) (pc + 3) ls st M R) : mm_Ru d (o, nL, ini, b, ret) pc ls (.int (nI c) :: .int (nI a) :: st) M R := by
  have e := nI_ltI ha hc
  exact r_iclt ht hd (fun h => kt (e.mp h)) (fun h => kf (by have h2 : ¬ (a < c) := fun z => h (e.mpr z); omega))
theorem r_ncge {a c : Nat} {off : Int} {t : Nat} (ha : a < 2 ^ 31) (hc : c < 2 ^ 31) (ht : (pc : Int) + off = (t : Int)) (hd : decode b pc = .ok (.if_icmp .ge off, 3)) (kt : c ≤ a → mm_Ru d (o, nL, ini, b, ret) t ls st M R) (kf : a < c → mm_Ru d (o, nL, ini, b, ret) (pc + 3) ls st M R) : mm_Ru d (o, nL, ini, b, ret) pc ls (.int (nI c) :: .int (nI a) :: st) M R := by
  have e := nI_leI hc ha
  exact r_icge ht hd (fun h => kt (e.mp h)) (fun h => kf (by have h2 : ¬ (c ≤ a) := fun z => h (e.mpr z); omega))
theorem r_ncgt {a c : Nat} {off : Int} {t : Nat} (ha : a < 2 ^ 31) (hc : c < 2 ^ 31) (ht : (pc : Int) + off = (t : Int)) (hd : decode b pc = .ok (.if_icmp .gt off, 3)) (kt : c < a → mm_Ru d (o, nL, ini, b, ret) t ls st M R) (kf : a ≤ c → mm_Ru d (o, nL, ini, b, ret) (pc + 3) ls st M R) : mm_Ru d (o, nL, ini, b, ret) pc ls (.int (nI c) :: .int (nI a) :: st) M R := by
  have e := nI_ltI hc ha
  exact r_icgt ht hd (fun h => kt (e.mp h)) (fun h => kf (by have h2 : ¬ (c < a) := fun z => h (e.mpr z); omega))
theorem r_ncle {a c : Nat} {off : Int} {t : Nat} (ha : a < 2 ^ 31) (hc : c < 2 ^ 31) (ht : (pc : Int) + off = (t : Int)) (hd : decode b pc = .ok (.if_icmp .le off, 3)) (kt : a ≤ c → mm_Ru d (o, nL, ini, b, ret) t ls st M R) (kf : c < a → mm_Ru d (o, nL, ini, b, ret) (pc + 3) ls st M R) : mm_Ru d (o, nL, ini, b, ret) pc ls (.int (nI c) :: .int (nI a) :: st) M R := by
  have e := nI_leI ha hc
  exact r_icle ht hd (fun h => kt (e.mp h)) (fun h => kf (by have h2 : ¬ (a ≤ c) := fun z => h (e.mpr z); omega))
theorem r_ifnull {a : Nat} {off : Int} (hd : decode b pc = .ok (.ifnull off, 3)) (kk : mm_Ru d (o, nL, ini, b, ret) (pc + 3) ls st M R) : mm_Ru d (o, nL, ini, b, ret) pc ls (.ref a :: st) M R := r_st (C := (o, nL, ini, b, ret)) hd rfl rfl rfl rfl kk
theorem r_ifnullZ {off : Int} {t : Nat} (ht : (pc : Int) + off = (t : Int)) (hd : decode b pc = .ok (.ifnull off, 3)) (kk : mm_Ru d (o, nL, ini, b, ret) t ls st M R) : mm_Ru d (o, nL, ini, b, ret) pc ls (.null :: st) M R := r_st (C := (o, nL, ini, b, ret)) hd rfl rfl rfl (by simp only [mm_st, mm_go]; rw [ht, if_pos (Int.natCast_nonneg t), Int.toNat_natCast]) kk
theorem r_ifnonnull {a : Nat} {off : Int} {t : Nat} (ht : (pc : Int) + off = (t : Int)) (hd : decode b pc = .ok (.ifnonnull off, 3)) (kk : mm_Ru d (o, nL, ini, b, ret) t ls st M R) : mm_Ru d (o, nL, ini, b, ret) pc ls (.ref a :: st) M R := r_st (C := (o, nL, ini, b, ret)) hd rfl rfl rfl (by simp only [mm_st, mm_go]; rw [ht, if_pos (Int.natCast_nonneg t), Int.toNat_natCast]) kk
theorem r_ifnonnullZ {off : Int} (hd : decode b pc = .ok (.ifnonnull off, 3)) (kk : mm_Ru d (o, nL, ini, b, ret) (pc + 3) ls st M R) : mm_Ru d (o, nL, ini, b, ret) pc ls (.null :: st) M R := r_st (C := (o, nL, ini, b, ret)) hd rfl rfl rfl rfl kk
theorem r_swOut {dd lo hi : Int} {offs : Array Int} {len t : Nat} {x : Int32} (hx : x.toInt < lo ∨ hi < x.toInt) (ht : (pc : Int) + dd = (t : Int)) (hd : decode b pc = .ok (.tableswitch dd lo hi offs, len)) (kk : mm_Ru d (o, nL, ini, b, ret) t ls st M R) : mm_Ru d (o, nL, ini, b, ret) pc ls (.int x :: st) M R := r_st (C := (o, nL, ini, b, ret)) hd rfl rfl rfl (by simp only [mm_st, mm_go]; rw [if_pos hx, ht, if_pos (Int.natCast_nonneg t), Int.toNat_natCast]) kk
theorem r_swIn {dd lo hi off : Int} {offs : Array Int} {len t : Nat} {x : Int32} (h1 : ¬ x.toInt < lo) (h2 : ¬ hi < x.toInt) (ho : offs[(x.toInt - lo).toNat]? = some off) (ht : (pc : Int) + off = (t : Int)) (hd : decode b pc = .ok (.tableswitch dd lo hi offs, len)) (kk : mm_Ru d (o, nL, ini, b, ret) t ls st M R) : mm_Ru d (o, nL, ini, b, ret) pc ls (.int x :: st) M R := r_st (C := (o, nL, ini, b, ret)) hd rfl rfl rfl (by simp only [mm_st, mm_go]; rw [if_neg (fun q => q.elim h1 h2), ho]; dsimp only; rw [ht, if_pos (Int.natCast_nonneg t), Int.toNat_natCast]) kk
theorem r_getf {x a : Nat} {v : Value} (h : mm_gf o x M a = some v) (hd : decode b pc = .ok (.getfield x, 3)) (kk : mm_Ru d (o, nL, ini, b, ret) (pc + 3) ls (v :: st) M R) : mm_Ru d (o, nL, ini, b, ret) pc ls (.ref a :: st) M R := r_st (C := (o, nL, ini, b, ret)) hd rfl rfl rfl (by simp only [mm_st, h]) kk
theorem r_putf {x a : Nat} {v : Value} {M1 : mH} (h : mm_pf o x ini M a v = some M1) (hd : decode b pc = .ok (.putfield x, 3)) (kk : mm_Ru d (o, nL, ini, b, ret) (pc + 3) ls st M1 R) : mm_Ru d (o, nL, ini, b, ret) pc ls (v :: .ref a :: st) M R := r_st (C := (o, nL, ini, b, ret)) hd rfl rfl rfl (by simp only [mm_st, h]) kk
theorem r_iaload {a : Nat} {i v : Int32} (h : mm_ai (fun u => u == 0) M a i = some v) (hd : decode b pc = .ok (.iaload, 1)) (kk : mm_Ru d (o, nL, ini, b, ret) (pc + 1) ls (.int v :: st) M R) : mm_Ru d (o, nL, ini, b, ret) pc ls (.int i :: .ref a :: st) M R := r_st (C := (o, nL, ini, b, ret)) hd rfl rfl rfl (by simp only [mm_st, h]) kk
theorem r_baload {a : Nat} {i v : Int32} (h : mm_ai (fun u => u == 1 || u == 2) M a i = some v) (hd : decode b pc = .ok (.baload, 1)) (kk : mm_Ru d (o, nL, ini, b, ret) (pc + 1) ls (.int v :: st) M R) : mm_Ru d (o, nL, ini, b, ret) pc ls (.int i :: .ref a :: st) M R := r_st (C := (o, nL, ini, b, ret)) hd rfl rfl rfl (by simp only [mm_st, h]) kk
theorem r_iastore {a : Nat} {i v : Int32} {M1 : mH} (h : mm_pi (fun u => u == 0) M a i v = some M1) (hd : decode b pc = .ok (.iastore, 1)) (kk : mm_Ru d (o, nL, ini, b, ret) (pc + 1) ls st M1 R) : mm_Ru d (o, nL, ini, b, ret) pc ls (.int v :: .int i :: .ref a :: st) M R := r_st (C := (o, nL, ini, b, ret)) hd rfl rfl rfl (by simp only [mm_st, h]) kk
theorem r_bastore {a : Nat} {i v : Int32} {M1 : mH} (h : mm_pi (fun u => u == 1 || u == 2) M a i v = some M1) (hd : decode b pc = .ok (.bastore, 1)) (kk : mm_Ru d (o, nL, ini, b, ret) (pc + 1) ls st M1 R) : mm_Ru d (o, nL, ini, b, ret) pc ls (.int v :: .int i :: .ref a :: st) M R := r_st (C := (o, nL, ini, b, ret)) hd rfl rfl rfl (by simp only [mm_st, h]) kk
theorem r_aaload {a : Nat} {i : Int32} {v : Option Nat} (h : mm_aa M a i = some v) (hd : decode b pc = .ok (.aaload, 1)) (kk : mm_Ru d (o, nL, ini, b, ret) (pc + 1) ls (va_rf v :: st) M R) : mm_Ru d (o, nL, ini, b, ret) pc ls (.int i :: .ref a :: st) M R := r_st (C := (o, nL, ini, b, ret)) hd rfl rfl rfl (by simp only [mm_st, h]) kk
theorem r_alen {a : Nat} {v : Int32} (h : mm_lg M a = some v) (hd : decode b pc = .ok (.arraylength, 1)) (kk : mm_Ru d (o, nL, ini, b, ret) (pc + 1) ls (.int v :: st) M R) : mm_Ru d (o, nL, ini, b, ret) pc ls (.ref a :: st) M R := r_st (C := (o, nL, ini, b, ret)) hd rfl rfl rfl (by simp only [mm_st, h]) kk
theorem r_vret (hr : ret = none) (hd : decode b pc = .ok (.return_, 1)) (hR : R (none, M)) : mm_Ru d (o, nL, ini, b, ret) pc ls [] M R := by
  exact r_ret (C := (o, nL, ini, b, ret)) hd rfl rfl (by simp only [mm_rt, if_pos hr]) hR
theorem r_iret {v : Int32} (hr : ret = some .int) (hd : decode b pc = .ok (.ireturn, 1)) (hR : R (some (Value.int v), M)) : mm_Ru d (o, nL, ini, b, ret) pc ls [.int v] M R := by
  subst hr
  exact r_ret (C := (o, nL, ini, b, some .int)) hd rfl rfl (if_pos rfl) hR
theorem r_zret {v : Int32} (hr : ret = some .boolean) (hv : v &&& 1 = v) (hd : decode b pc = .ok (.ireturn, 1)) (hR : R (some (Value.int v), M)) : mm_Ru d (o, nL, ini, b, ret) pc ls [.int v] M R := by
  subst hr
  exact r_ret (C := (o, nL, ini, b, some .boolean)) hd rfl rfl (if_pos (congrArg Value.int hv)) hR
theorem r_lret {v : Int64} (hr : ret = some .long) (hd : decode b pc = .ok (.lreturn, 1)) (hR : R (some (Value.long v), M)) : mm_Ru d (o, nL, ini, b, ret) pc ls [.long v] M R := by
  exact r_ret (C := (o, nL, ini, b, ret)) hd rfl rfl (by simp only [mm_rt, if_pos hr]) hR
end RUL
