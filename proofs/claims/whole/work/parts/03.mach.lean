/-! THE SMALL MACHINE: what it holds, its steps, its runs -/
/-- its heap: how many cells, how many slots they have, the cells by their numbers -/
abbrev mH : Type := Nat × Nat × (Nat → va_E)
/-- numbers from a million on: cells that were there before the start -/
def mm_ro (B : Nat) (sa : Nat → Nat) (a : Nat) : Nat := if a < 1000000 then B + a else sa (a - 1000000)
def mm_rv (B : Nat) (sa : Nat → Nat) : Value → Value
  | .ref a => .ref (mm_ro B sa a)
  | v => v
def mm_E (dA : Nat → Nat) (B : Nat) (sa : Nat → Nat) : va_E → va_E
  | .inl (t, n, .inl f) => .inl (dA t, n, .inl f)
  | .inl (t, n, .inr (.inr (.inr (.inr f)))) => .inl (dA t, n, .inr (.inr (.inr (.inr (fun j => (f j).map (mm_ro B sa))))))
  | .inl x => .inl x
  | .inr (c, fs) => .inr (c, fs.map (mm_rv B sa))
def mm_rl (B : Nat) (sa : Nat → Nat) (l : List (Nat × Value)) : List (Nat × Value) := l.map (fun q => (q.1, mm_rv B sa q.2))
def mm_R (D : va_G) (dA : Nat → Nat) (B : Nat) (sa : Nat → Nat) (hs : Nat → va_E) (M : mH) (H : Heap) : Prop :=
  H.size = B + M.1 ∧ M.1 ≤ 1000000 ∧ (∀ i, i < M.1 → va_at D mm_cl (B + i, mm_E dA B sa (M.2.2 i)) H) ∧ ∀ j, j < 10 → M.2.2 (1000000 + j) = hs j
/-- is it one of the cells that were there before the start -/
def mm_sta (a : Nat) : Bool := decide (1000000 ≤ a ∧ a < 1000010)
/-- may a row of kind u at a be read -/
def mm_ok (M : mH) (a u : Nat) : Bool := decide (a < M.1) || (mm_sta a && (u == 0 || u == 1 || u == 3))
/-- what is taken, and what is put, in a row of locals -/
def mm_lk (ls : List (Nat × Value)) (i : Nat) : Option Value := (ls.find? (fun q => q.1 == i)).map (fun q => q.2)
def mm_s1 (ls : List (Nat × Value)) (i : Nat) (v : Value) : List (Nat × Value) := (i, v) :: ls.filter (fun q => !(q.1 == i) && !(q.1 + 1 == i && q.2.category == 2))
def mm_s2 (ls : List (Nat × Value)) (i : Nat) (v : Value) : List (Nat × Value) := (i, v) :: ls.filter (fun q => !(q.1 == i) && (!(q.1 == i + 1) && !(q.1 + 1 == i && q.2.category == 2)))
def mm_len (i : Instr) (n : Nat) : Nat := match i with
  | .aload _ | .astore _ | .iload _ | .istore _ | .lload _ | .lstore _ | .bipush _ | .ldc _ | .newarray _ => 2
  | .getfield _ | .putfield _ | .getstatic _ | .goto _ | .if_icmp _ _ | .ifCond _ _ | .ifnull _ | .ifnonnull _ | .iinc _ _ | .sipush _ | .ldc_w _ | .new _ | .checkcast _ | .invokevirtual _ | .invokespecial _ | .invokestatic _ | .anewarray _ | .if_acmp _ _ => 3
  | .multianewarray _ _ => 4
  | .invokeinterface _ _ => 5
  | .tableswitch _ _ _ _ => n
  | _ => 1
abbrev mC : Type := Nat × List (Nat × Value) × List Value × mH
/-- a jump -/
def mm_go (pc : Nat) (off : Int) (ls : List (Nat × Value)) (st : List Value) (M : mH) : Option mC :=
  if 0 ≤ (pc : Int) + off then some (((pc : Int) + off).toNat, ls, st, M) else none
def mm_cz (c : Jvm.ClassFile.Cond) (x : Int32) : Bool := match c with
  | .eq => decide (x = 0)
  | .ne => decide (¬ x = 0)
  | .lt => decide (x < 0)
  | .ge => decide (0 ≤ x)
  | .gt => decide (0 < x)
  | .le => decide (x ≤ 0)
def mm_c2 (c : Jvm.ClassFile.Cond) (x y : Int32) : Bool := match c with
  | .eq => decide (x = y)
  | .ne => decide (¬ x = y)
  | .lt => decide (x < y)
  | .ge => decide (y ≤ x)
  | .gt => decide (y < x)
  | .le => decide (x ≤ y)
def mm_i2 (f : Int32 → Int32 → Int32) (pc : Nat) (ls : List (Nat × Value)) (st : List Value) (M : mH) : Option mC := match st with
  | .int y :: .int x :: r => some (pc + 1, ls, .int (f x y) :: r, M)
  | _ => none
def mm_l2 (f : Int64 → Int64 → Int64) (pc : Nat) (ls : List (Nat × Value)) (st : List Value) (M : mH) : Option mC := match st with
  | .long y :: .long x :: r => some (pc + 1, ls, .long (f x y) :: r, M)
  | _ => none
def mm_ld (i pc' : Nat) (ls : List (Nat × Value)) (st : List Value) (M : mH) : Option mC := match mm_lk ls i with
  | some v => some (pc', ls, v :: st, M)
  | none => none
def mm_so (nL i pc' : Nat) (ls : List (Nat × Value)) (st : List Value) (M : mH) : Option mC := match st with
  | v :: r => if i < nL then some (pc', mm_s1 ls i v, r, M) else none
  | _ => none
def mm_sl (nL i pc' : Nat) (ls : List (Nat × Value)) (st : List Value) (M : mH) : Option mC := match st with
  | .long v :: r => if i + 1 < nL then some (pc', mm_s2 ls i (.long v), r, M) else none
  | _ => none
/-- a new cell of n slots -/
def mm_al (M : mH) (n : Nat) (e : va_E) : mH := (M.1 + 1, M.2.1 + n, va_up M.2.2 M.1 e)
def mm_wr (M : mH) (a : Nat) (e : va_E) : mH := (M.1, M.2.1, va_up M.2.2 a e)
def mm_isi (v : Value) : Bool := match v with
  | .int _ => true
  | _ => false
def mm_isa (v : Value) : Bool := match v with
  | .ref _ | .null => true
  | _ => false
def mm_isl (v : Value) : Bool := match v with
  | .long _ => true
  | _ => false
def mm_gf (o idx : Nat) (M : mH) (a : Nat) : Option Value := match mm_fr o idx with
  | some (ci, k) => if a < M.1 then (match M.2.2 a with
      | .inr (c, fs) => if c = ci then fs[k]? else none
      | _ => none) else none
  | none => none
def mm_fin (ci k : Nat) : Bool := match mm_cl[ci]? with
  | some (_, T, _) => (T k).2.2.2
  | none => true
def mm_pf (o idx : Nat) (ini : Bool) (M : mH) (a : Nat) (v : Value) : Option mH := match mm_fr o idx with
  | some (ci, k) => if a < M.1 ∧ (mm_fin ci k = false ∨ (ini = true ∧ o = ci)) ∧ narrow (mm_ty ci k) v = v ∧ fits (mm_ty ci k) v = true then (match M.2.2 a with
      | .inr (c, fs) => if c = ci ∧ k < fs.length then some (mm_wr M a (.inr (ci, fs.set k v))) else none
      | _ => none) else none
  | none => none
/-- an element of a row of ints (0), bytes (1), booleans (2) -/
def mm_ai (t : Nat → Bool) (M : mH) (a : Nat) (i : Int32) : Option Int32 := match M.2.2 a with
    | .inl (u, n, .inl f) => if mm_ok M a u = true ∧ t u = true ∧ ¬ (i < 0 ∨ n ≤ i.toNatClampNeg) then some (f i.toNatClampNeg) else none
    | _ => none
def mm_na (u : Nat) (x : Int32) : Int32 := if u = 1 then x.toInt8.toInt32 else if u = 2 then x &&& 1 else x
def mm_pi (t : Nat → Bool) (M : mH) (a : Nat) (i x : Int32) : Option mH := if a < M.1 then (match M.2.2 a with
    | .inl (u, n, .inl f) => if t u = true ∧ ¬ (i < 0 ∨ n ≤ i.toNatClampNeg) then some (mm_wr M a (.inl (u, n, .inl (upd f i.toNatClampNeg (mm_na u x))))) else none
    | _ => none) else none
def mm_aa (M : mH) (a : Nat) (i : Int32) : Option (Option Nat) := if a < M.1 then (match M.2.2 a with
    | .inl (u, n, .inr (.inr (.inr (.inr f)))) => if (u = 3 ∨ u = 4) ∧ ¬ (i < 0 ∨ n ≤ i.toNatClampNeg) then some (f i.toNatClampNeg) else none
    | _ => none) else none
def mm_lg (M : mH) (a : Nat) : Option Int32 := match M.2.2 a with
    | .inl (u, n, .inl _) => if mm_ok M a u = true ∧ u < 3 then some (Int32.ofNat n) else none
    | .inl (u, n, .inr (.inr (.inr (.inr _)))) => if mm_ok M a u = true ∧ (u = 3 ∨ u = 4) then some (Int32.ofNat n) else none
    | _ => none
def mm_tag (t : ArrayType) : Option Nat := match t with
  | .int => some 0
  | .byte => some 1
  | .boolean => some 2
  | _ => none
/-- a text's value and coder -/
def mm_gs (o x : Nat) (M : mH) (a : Nat) : Option Value := if o = 22 ∧ mm_sta a = true then (match M.2.2 a with
    | .inr (c, fs) => if c = 22 then (if x = 9 then fs[0]? else if x = 15 then fs[1]? else none) else none
    | _ => none) else none
def mm_gt (o x : Nat) : Option Value := if o = 6 ∧ x = 39 then some (.ref 1000000) else if o = 7 ∧ x = 70 then some (.ref 1000001) else if o = 22 ∧ x = 38 then some (.int 1) else none
def mm_lt (o x : Nat) : Option Nat := if o = 3 ∧ x = 107 then some 1000002 else if o = 3 ∧ x = 109 then some 1000003 else if o = 3 ∧ x = 82 then some 1000004 else if o = 15 ∧ x = 110 then some 1000008 else none
def mm_aq (x y : Value) : Option Bool := match x, y with
  | .null, .null => some true
  | .ref _, .null => some false
  | .null, .ref _ => some false
  | .ref a, .ref b => if a = b then some true else if (a < 1000000 ∧ (b < 1000000 ∨ (mm_sta b = true ∧ b ≠ 1000008))) ∨ (b < 1000000 ∧ mm_sta a = true ∧ a ≠ 1000008) then some false else none
  | _, _ => none
def mm_an (o x : Nat) : Bool := (o == 6 && x == 7) || (o == 15 && x == 2)
def mm_ka (o x : Nat) : Option Nat := if o = 15 ∧ x = 110 then some 3 else if o = 15 ∧ x = 317 then some 0 else none
def mm_ac (o x : Nat) : Bool := (o == 15 && x == 150) || (o == 7 && x == 107)
def mm_obj (M : mH) (v : Nat) : Bool := decide (v < M.1) && (match M.2.2 v with
  | .inr (c, _) => decide (c < 14)
  | _ => false)
def mm_pa (M : mH) (a : Nat) (i : Int32) (v : Nat) : Option mH := if a < M.1 ∧ mm_obj M v = true then (match M.2.2 a with
    | .inl (u, n, .inr (.inr (.inr (.inr f)))) => if u = 3 ∧ ¬ (i < 0 ∨ n ≤ i.toNatClampNeg) then some (mm_wr M a (.inl (u, n, .inr (.inr (.inr (.inr (va_up f i.toNatClampNeg (some v)))))))) else none
    | _ => none) else none
/-- arraycopy -/
def mm_cp (M : mH) (a b : Nat) (sp dp n : Int32) : Option mH := if a < M.1 ∧ b < M.1 ∧ ¬ sp < 0 ∧ ¬ dp < 0 ∧ ¬ n < 0 then (match M.2.2 a, M.2.2 b with
    | .inl (u, n0, .inl f), .inl (w, n1, .inl g) => if u = 0 ∧ w = 0 ∧ sp.toNatClampNeg + n.toNatClampNeg ≤ n0 ∧ dp.toNatClampNeg + n.toNatClampNeg ≤ n1 then some (mm_wr M b (.inl (w, n1, .inl (va_cpy f g sp.toNatClampNeg dp.toNatClampNeg n.toNatClampNeg)))) else none
    | .inl (u, n0, .inr (.inr (.inr (.inr f)))), .inl (w, n1, .inr (.inr (.inr (.inr g)))) => if u = 3 ∧ w = 3 ∧ sp.toNatClampNeg + n.toNatClampNeg ≤ n0 ∧ dp.toNatClampNeg + n.toNatClampNeg ≤ n1 ∧ (List.range n.toNatClampNeg).all (fun i => match f (sp.toNatClampNeg + i) with
        | some y => mm_obj M y
        | none => true) = true then some (mm_wr M b (.inl (w, n1, .inr (.inr (.inr (.inr (va_cpy f g sp.toNatClampNeg dp.toNatClampNeg n.toNatClampNeg))))))) else none
    | _, _ => none) else none
def mm_mn (o x : Nat) : Bool := (o == 1 && x == 11) || (o == 4 && x == 11) || (o == 7 && x == 31)
/-- a row of n rows of k ints -/
def mm_al2 (M : mH) (n k : Nat) : mH := (M.1 + 1 + n, M.2.1 + n + n * k, fun a => if a = M.1 then .inl (4, n, .inr (.inr (.inr (.inr (fun i => if i < n then some (M.1 + 1 + i) else none))))) else if M.1 < a ∧ a < M.1 + 1 + n then .inl (0, k, .inl (fun _ => 0)) else M.2.2 a)
def mm_dft (t : FieldType) : Value := defaultValue t
def mm_sum (st : List Value) : Nat := (st.map fun v => v.category).sum
/-- a step that is no call and no return: o the owner's number, nL how many locals, ini whether it is an init -/
def mm_st (o nL : Nat) (ini : Bool) (i : Instr) (pc : Nat) (ls : List (Nat × Value)) (st : List Value) (M : mH) : Option mC := match i with
  | .aconst_null => some (pc + 1, ls, .null :: st, M)
  | .iconst n => some (pc + 1, ls, .int (Int32.ofInt n) :: st, M)
  | .bipush n => some (pc + 2, ls, .int (Int8.ofInt n).toInt32 :: st, M)
  | .sipush n => some (pc + 3, ls, .int (Int16.ofInt n).toInt32 :: st, M)
  | .lconst n => some (pc + 1, ls, .long (Int64.ofNat (n : Nat)) :: st, M)
  | .ldc x => (match mm_nr o x with
    | some v => some (pc + 2, ls, .int v :: st, M)
    | none => (match mm_lt o x with
      | some a => some (pc + 2, ls, .ref a :: st, M)
      | none => none))
  | .ldc_w x => (match mm_nr o x with
    | some v => some (pc + 3, ls, .int v :: st, M)
    | none => none)
  | .iload n => (match mm_lk ls n with
    | some (.int v) => some (pc + 2, ls, .int v :: st, M)
    | _ => none)
  | .iload_n n => (match mm_lk ls n with
    | some (.int v) => some (pc + 1, ls, .int v :: st, M)
    | _ => none)
  | .lload n => (match mm_lk ls n with
    | some (.long v) => some (pc + 2, ls, .long v :: st, M)
    | _ => none)
  | .lload_n n => (match mm_lk ls n with
    | some (.long v) => some (pc + 1, ls, .long v :: st, M)
    | _ => none)
  | .aload n => (match mm_lk ls n with
    | some (.ref v) => some (pc + 2, ls, .ref v :: st, M)
    | some .null => some (pc + 2, ls, .null :: st, M)
    | _ => none)
  | .aload_n n => (match mm_lk ls n with
    | some (.ref v) => some (pc + 1, ls, .ref v :: st, M)
    | some .null => some (pc + 1, ls, .null :: st, M)
    | _ => none)
  | .istore n => (match st with
    | .int v :: r => if n < nL then some (pc + 2, mm_s1 ls n (.int v), r, M) else none
    | _ => none)
  | .istore_n n => (match st with
    | .int v :: r => if (n : Nat) < nL then some (pc + 1, mm_s1 ls n (.int v), r, M) else none
    | _ => none)
  | .lstore n => (match st with
    | .long v :: r => if n + 1 < nL then some (pc + 2, mm_s2 ls n (.long v), r, M) else none
    | _ => none)
  | .lstore_n n => (match st with
    | .long v :: r => if (n : Nat) + 1 < nL then some (pc + 1, mm_s2 ls n (.long v), r, M) else none
    | _ => none)
  | .astore n => (match st with
    | .ref v :: r => if n < nL then some (pc + 2, mm_s1 ls n (.ref v), r, M) else none
    | .null :: r => if n < nL then some (pc + 2, mm_s1 ls n .null, r, M) else none
    | _ => none)
  | .astore_n n => (match st with
    | .ref v :: r => if (n : Nat) < nL then some (pc + 1, mm_s1 ls n (.ref v), r, M) else none
    | .null :: r => if (n : Nat) < nL then some (pc + 1, mm_s1 ls n .null, r, M) else none
    | _ => none)
  | .iinc n k => (match mm_lk ls n with
    | some (.int v) => if n < nL then some (pc + 3, mm_s1 ls n (.int (v + Int32.ofInt k)), st, M) else none
    | _ => none)
  | .iadd => mm_i2 (fun x y => x + y) pc ls st M
  | .isub => mm_i2 (fun x y => x - y) pc ls st M
  | .imul => mm_i2 (fun x y => x * y) pc ls st M
  | .iand => mm_i2 (fun x y => x &&& y) pc ls st M
  | .ior => mm_i2 (fun x y => x ||| y) pc ls st M
  | .ixor => mm_i2 (fun x y => x ^^^ y) pc ls st M
  | .ishl => mm_i2 (fun x y => x <<< (y &&& 31)) pc ls st M
  | .ishr => mm_i2 (fun x y => x >>> (y &&& 31)) pc ls st M
  | .iushr => mm_i2 (fun x y => (x.toUInt32 >>> (y.toUInt32 &&& Int32.toUInt32 31)).toInt32) pc ls st M
  | .idiv => (match st with
    | .int y :: .int x :: r => if y = 0 then none else some (pc + 1, ls, .int (x / y) :: r, M)
    | _ => none)
  | .irem => (match st with
    | .int y :: .int x :: r => if y = 0 then none else some (pc + 1, ls, .int (x - x / y * y) :: r, M)
    | _ => none)
  | .ineg => (match st with
    | .int x :: r => some (pc + 1, ls, .int (-x) :: r, M)
    | _ => none)
  | .ladd => mm_l2 (fun x y => x + y) pc ls st M
  | .lsub => mm_l2 (fun x y => x - y) pc ls st M
  | .lmul => mm_l2 (fun x y => x * y) pc ls st M
  | .lcmp => (match st with
    | .long y :: .long x :: r => some (pc + 1, ls, .int (lg_cmp x y) :: r, M)
    | _ => none)
  | .i2l => (match st with
    | .int x :: r => some (pc + 1, ls, .long x.toInt64 :: r, M)
    | _ => none)
  | .i2b => (match st with
    | .int x :: r => some (pc + 1, ls, .int x.toInt8.toInt32 :: r, M)
    | _ => none)
  | .i2c => (match st with
    | .int x :: r => some (pc + 1, ls, .int (x.toUInt32 % 65536).toInt32 :: r, M)
    | _ => none)
  | .dup => (match st with
    | v :: r => if v.category = 1 then some (pc + 1, ls, v :: v :: r, M) else none
    | _ => none)
  | .dup2 => (match st with
    | v :: w :: r => if v.category = 1 ∧ w.category = 1 then some (pc + 1, ls, v :: w :: v :: w :: r, M) else none
    | _ => none)
  | .pop => (match st with
    | v :: r => if v.category = 1 then some (pc + 1, ls, r, M) else none
    | _ => none)
  | .goto off => mm_go pc off ls st M
  | .ifCond c off => (match st with
    | .int x :: r => if 0 ≤ (pc : Int) + off then (if mm_cz c x = true then some (((pc : Int) + off).toNat, ls, r, M) else some (pc + 3, ls, r, M)) else none
    | _ => none)
  | .if_icmp c off => (match st with
    | .int y :: .int x :: r => if 0 ≤ (pc : Int) + off then (if mm_c2 c x y = true then some (((pc : Int) + off).toNat, ls, r, M) else some (pc + 3, ls, r, M)) else none
    | _ => none)
  | .ifnull off => (match st with
    | .ref _ :: r => some (pc + 3, ls, r, M)
    | .null :: r => mm_go pc off ls r M
    | _ => none)
  | .ifnonnull off => (match st with
    | .ref _ :: r => mm_go pc off ls r M
    | .null :: r => some (pc + 3, ls, r, M)
    | _ => none)
  | .tableswitch d lo hi offs => (match st with
    | .int x :: r => if x.toInt < lo ∨ hi < x.toInt then mm_go pc d ls r M else (match offs[(x.toInt - lo).toNat]? with
      | some off => mm_go pc off ls r M
      | none => none)
    | _ => none)
  | .getfield x => (match st with
    | .ref a :: r => (match mm_gf o x M a with
      | some v => some (pc + 3, ls, v :: r, M)
      | none => (match mm_gs o x M a with
        | some v => some (pc + 3, ls, v :: r, M)
        | none => none))
    | _ => none)
  | .putfield x => (match st with
    | v :: .ref a :: r => (match mm_pf o x ini M a v with
      | some M1 => some (pc + 3, ls, r, M1)
      | none => none)
    | _ => none)
  | .iaload => (match st with
    | .int j :: .ref a :: r => (match mm_ai (fun u => u == 0) M a j with
      | some v => some (pc + 1, ls, .int v :: r, M)
      | none => none)
    | _ => none)
  | .baload => (match st with
    | .int j :: .ref a :: r => (match mm_ai (fun u => u == 1 || u == 2) M a j with
      | some v => some (pc + 1, ls, .int v :: r, M)
      | none => none)
    | _ => none)
  | .iastore => (match st with
    | .int x :: .int j :: .ref a :: r => (match mm_pi (fun u => u == 0) M a j x with
      | some M1 => some (pc + 1, ls, r, M1)
      | none => none)
    | _ => none)
  | .bastore => (match st with
    | .int x :: .int j :: .ref a :: r => (match mm_pi (fun u => u == 1 || u == 2) M a j x with
      | some M1 => some (pc + 1, ls, r, M1)
      | none => none)
    | _ => none)
  | .aaload => (match st with
    | .int j :: .ref a :: r => (match mm_aa M a j with
      | some v => some (pc + 1, ls, va_rf v :: r, M)
      | none => none)
    | _ => none)
  | .arraylength => (match st with
    | .ref a :: r => (match mm_lg M a with
      | some v => some (pc + 1, ls, .int v :: r, M)
      | none => none)
    | _ => none)
  | .newarray t => (match st with
    | .int n :: r => (match mm_tag t with
      | some u => if ¬ n < 0 ∧ n.toNatClampNeg ≤ 100000 ∧ M.1 < 1000000 then some (pc + 2, ls, .ref M.1 :: r, mm_al M n.toNatClampNeg (.inl (u, n.toNatClampNeg, .inl (fun _ => 0)))) else none
      | none => none)
    | _ => none)
  | .new x => (match mm_kr o x with
    | some ci => if M.1 < 1000000 then some (pc + 3, ls, .ref M.1 :: st, mm_al M (mm_df ci).length (.inr (ci, mm_df ci))) else none
    | none => none)
  | .checkcast x => (match st with
    | .null :: r => some (pc + 3, ls, .null :: r, M)
    | .ref a :: r => if a < M.1 then (match M.2.2 a with
      | .inr (c, _) => if mm_kr o x = some c then some (pc + 3, ls, .ref a :: r, M) else none
      | .inl (u, _, .inl _) => if mm_ka o x = some u then some (pc + 3, ls, .ref a :: r, M) else none
      | .inl (u, _, .inr (.inr (.inr (.inr _)))) => if mm_ka o x = some u then some (pc + 3, ls, .ref a :: r, M) else none
      | _ => none) else none
    | _ => none)
  | .multianewarray x dm => (match st with
    | .int k :: .int n :: r => if dm = 2 ∧ mm_mn o x = true ∧ ¬ n < 0 ∧ ¬ k < 0 ∧ n.toNatClampNeg ≤ 1000 ∧ k.toNatClampNeg ≤ 100000 ∧ M.1 + 1 + n.toNatClampNeg ≤ 1000000 then some (pc + 4, ls, .ref M.1 :: r, mm_al2 M n.toNatClampNeg k.toNatClampNeg) else none
    | _ => none)
  | .getstatic x => (match mm_gt o x with
    | some v => some (pc + 3, ls, v :: st, M)
    | none => none)
  | .dup_x1 => (match st with
    | v :: w :: r => if v.category = 1 ∧ w.category = 1 then some (pc + 1, ls, v :: w :: v :: r, M) else none
    | _ => none)
  | .if_acmp c off => (match st with
    | y :: x :: r => (match mm_aq x y with
      | some q => if 0 ≤ (pc : Int) + off then (if (match c with
          | .eq => q
          | .ne => !q) = true then some (((pc : Int) + off).toNat, ls, r, M) else some (pc + 3, ls, r, M)) else none
      | none => none)
    | _ => none)
  | .anewarray x => (match st with
    | .int n :: r => if mm_an o x = true ∧ ¬ n < 0 ∧ n.toNatClampNeg ≤ 100000 ∧ M.1 < 1000000 then some (pc + 3, ls, .ref M.1 :: r, mm_al M n.toNatClampNeg (.inl (3, n.toNatClampNeg, .inr (.inr (.inr (.inr (fun _ => none))))))) else none
    | _ => none)
  | .aastore => (match st with
    | .ref v :: .int j :: .ref a :: r => (match mm_pa M a j v with
      | some M1 => some (pc + 1, ls, r, M1)
      | none => none)
    | _ => none)
  | .invokestatic x => (match st with
    | .int n :: .int dp :: .ref b :: .int sp :: .ref a :: r => if mm_ac o x = true ∧ mm_sum r ≤ 8 then (match mm_cp M a b sp dp n with
      | some M1 => some (pc + 3, ls, r, M1)
      | none => none) else none
    | _ => none)
  | .invokevirtual x => (match st with
    | .ref a :: r => if o = 15 ∧ mm_sum r ≤ 8 ∧ a < M.1 then (match M.2.2 a with
      | .inl (u, n, .inl f) => if x = 316 ∧ u = 0 ∧ M.1 < 1000000 then some (pc + 3, ls, .ref M.1 :: r, mm_al M n (.inl (u, n, .inl f))) else none
      | .inl (u, _, .inr (.inr (.inr (.inr _)))) => if x = 86 ∧ u = 3 then some (pc + 3, ls, .ref 1000008 :: r, M) else none
      | _ => none) else none
    | _ => none)
  | _ => none
def mm_it (o x : Nat) : Option Nat := if o = 0 ∧ x = 113 then some 26 else if o = 0 ∧ x = 124 then some 28 else if o = 0 ∧ x = 227 then some 40 else if o = 9 ∧ x = 39 then some 26 else if o = 9 ∧ x = 61 then some 40 else none
/-- a call: the kind of its link (mm_ct), the method, how many parameters -/
def mm_iv (o : Nat) (i : Instr) : Option (Nat × Nat) := match i with
  | .invokestatic x => (match mm_cr o x with
    | some (k, j) => if k = 0 ∨ k = 3 then some (k, j) else none
    | none => none)
  | .invokevirtual x => (match mm_cr o x with
    | some (k, j) => if k = 1 ∨ k = 4 then some (k, j) else none
    | none => none)
  | .invokespecial x => (match mm_cr o x with
    | some (k, j) => if k = 2 ∨ k = 5 ∨ k = 7 then some (k, j) else none
    | none => none)
  | .invokeinterface x _ => (match mm_it o x with
    | some j => some (6, j)
    | none => none)
  | _ => none
def mm_rt (ret : Option FieldType) (i : Instr) (st : List Value) : Option (Option Value) := match i, st with
  | .return_, [] => if ret = none then some none else none
  | .ireturn, [.int v] => (match ret with
    | some ty => if narrow ty (.int v) = .int v then some (some (.int v)) else none
    | none => none)
  | .lreturn, [.long v] => if ret = some .long then some (some (.long v)) else none
  | .areturn, [.ref a] => (match ret with
    | some (.object _) => some (some (.ref a))
    | some (.array _) => some (some (.ref a))
    | _ => none)
  | .areturn, [.null] => (match ret with
    | some (.object _) => some (some .null)
    | some (.array _) => some (some .null)
    | _ => none)
  | _, _ => none
def mm_isret (i : Instr) : Bool := match i with
  | .return_ | .ireturn | .lreturn | .areturn => true
  | _ => false
def mm_me (k : Nat) : Nat × MethodName × ByteArray × Nat × Option FieldType × Nat × Nat := mm_ms.getD k (0, ⟨"", "", ""⟩, ⟨#[]⟩, 0, none, 0, 0)
abbrev mm_o (k : Nat) : Nat := (mm_me k).1
abbrev mm_y (k : Nat) : MethodName := (mm_me k).2.1
abbrev mm_b (k : Nat) : ByteArray := (mm_me k).2.2.1
abbrev mm_nL (k : Nat) : Nat := (mm_me k).2.2.2.1
abbrev mm_re (k : Nat) : Option FieldType := (mm_me k).2.2.2.2.1
abbrev mm_np (k : Nat) : Nat := (mm_me k).2.2.2.2.2.1
/-- the object of a virtual call is of the kind that owns the method -/
def mm_rc (k j : Nat) (M : mH) (as : List Value) : Bool := if k = 1 ∨ k = 4 ∨ k = 6 then (match as with
    | .ref a :: _ => (decide (a < M.1) || (mm_sta a && k == 1 && mm_o j == 22)) && (match M.2.2 a with
      | .inr (c, _) => c == mm_o j
      | _ => false)
    | _ => false) else if k = 2 ∨ k = 5 then (match as with
    | .ref _ :: _ => true
    | _ => false) else true
def mm_nas (k j : Nat) : Nat := mm_np j + (if k = 0 ∨ k = 3 then 0 else 1)
def mm_run (cal : Nat → List Value → mH → Option (Option Value × mH)) (o nL : Nat) (ini : Bool) (b : ByteArray) (ret : Option FieldType) : Nat → Nat → List (Nat × Value) → List Value → mH → Option (Option Value × mH)
  | 0, _, _, _, _ => none
  | n + 1, pc, ls, st, M => match decode b pc with
    | .ok (i, len) => if len = mm_len i len then (
        if mm_isret i = true then (match mm_rt ret i st with
          | some r => some (r, M)
          | none => none)
        else match mm_iv o i with
          | some (k, j) =>
            if k = 7 then (match st with
              | .ref _ :: r => if mm_sum r ≤ 8 then mm_run cal o nL ini b ret n (pc + 3) ls r M else none
              | _ => none)
            else
              if mm_nas k j ≤ st.length ∧ mm_sum (st.drop (mm_nas k j)) ≤ 8 ∧ mm_rc k j M (st.take (mm_nas k j)).reverse = true then (match cal j (st.take (mm_nas k j)).reverse M with
                | some (r, M1) => mm_run cal o nL ini b ret n (pc + (if k = 6 then 5 else 3)) ls (r.toList ++ st.drop (mm_nas k j)) M1
                | none => none) else none
          | none => match mm_st o nL ini i pc ls st M with
            | some (pc', ls', st', M') => mm_run cal o nL ini b ret n pc' ls' st' M'
            | none => none) else none
    | _ => none
def mm_ini (k : Nat) : Bool := (mm_y k).name == "<init>"
/-- method k at depth d, with N steps at most in each call -/
def mm_ev (N : Nat) : Nat → Nat → List Value → mH → Option (Option Value × mH)
  | 0, _, _, _ => none
  | d + 1, k, as, M => if k < mm_ms.length ∧ mm_sum as ≤ mm_nL k then mm_run (mm_ev N d) (mm_o k) (mm_nL k) (mm_ini k) (mm_b k) (mm_re k) N 0 (lv_args 0 as) [] M else none
