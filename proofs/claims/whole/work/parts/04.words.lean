/-! THE SMALL MACHINE: the words that its tables rest on -/
/-- the words that every method is given -/
def mm_tb : List Cond := lw_tbl.filter goodWord
def mm_ch (c : Nat) : List Cond := match c with
  | 0 => k2_sels lw_privs
  | 1 => tables_1_1
  | 2 => tables_1_2
  | 3 => tables_1_3
  | 4 => tables_1_4
  | 5 => tables_1_5
  | 6 => tables_1_6
  | 7 => tables_1_7
  | 8 => tables_1_8
  | _ => []
theorem mm_ch_mem (c : Nat) {w : Cond} (h : w ∈ mm_ch c) : w ∈ lw_tbl := by
  unfold lw_tbl tables_1
  simp only [List.mem_append]
  match c, h with
  | 0, h => exact Or.inl h
  | 1, h => exact Or.inr (Or.inl h)
  | 2, h => exact Or.inr (Or.inr (Or.inl h))
  | 3, h => exact Or.inr (Or.inr (Or.inr (Or.inl h)))
  | 4, h => exact Or.inr (Or.inr (Or.inr (Or.inr (Or.inl h))))
  | 5, h => exact Or.inr (Or.inr (Or.inr (Or.inr (Or.inr (Or.inl h)))))
  | 6, h => exact Or.inr (Or.inr (Or.inr (Or.inr (Or.inr (Or.inr (Or.inl h))))))
  | 7, h => exact Or.inr (Or.inr (Or.inr (Or.inr (Or.inr (Or.inr (Or.inr (Or.inl h)))))))
  | 8, h => exact Or.inr (Or.inr (Or.inr (Or.inr (Or.inr (Or.inr (Or.inr (Or.inr h)))))))
  | c + 9, h => exact absurd h List.not_mem_nil
def mm_is (i : Nat) (w : Cond) : Bool := decide ((mm_ch (i / 1000))[i % 1000]? = some w)
def mm_at (i : Nat) (w : Cond) : Bool := mm_is i w && goodWord w
theorem mm_is_mem {i : Nat} {w : Cond} (h : mm_is i w = true) : w ∈ lw_tbl := mm_ch_mem _ (List.mem_of_getElem? (of_decide_eq_true h))
theorem mm_at_mem {i : Nat} {w : Cond} (h : mm_at i w = true) : w ∈ mm_tb := by
  unfold mm_at at h
  rw [Bool.and_eq_true] at h
  exact List.mem_filter.mpr ⟨mm_is_mem h.1, h.2⟩
theorem mm_tb_good : ∀ w ∈ mm_tb, goodWord w = true := fun w h => (List.mem_filter.mp h).2
theorem mm_tb_tbl : ∀ w ∈ mm_tb, w ∈ lw_tbl := fun w h => (List.mem_filter.mp h).1
def mm_msok (q : Nat × MethodName × ByteArray × Nat × Option FieldType × Nat × Nat) : Bool :=
  decide (q.2.1.cls = mm_cn q.1) && plainFor q.2.1 && decide (q.2.1.cls ≠ "java/lang/invoke/MethodHandle") && decide (q.2.1.cls ≠ "java/lang/invoke/VarHandle") && decide ((parseMethodDescriptor q.2.1.desc).map (fun d => d.parameters.length) = some q.2.2.2.2.2.1) && decide (q.2.2.2.1 ≤ 40) && goodWord (.code q.2.1 q.2.2.1 q.2.2.2.1 q.2.2.2.2.1)
theorem mm_ms_ok : mm_ms.all mm_msok = true := by decide +kernel
/-- a call's words -/
def mm_ctok (e : Nat × Nat × Nat × Nat × Nat × Nat × Nat × Nat) : Bool :=
  let y := (mm_ms.getD e.2.2.2.1 (0, ⟨"", "", ""⟩, ⟨#[]⟩, 0, none, 0, 0)).2.1
  let o := mm_cn e.1
  let x := e.2.1
  let k := e.2.2.1
  let p := e.2.2.2.2
  if k = 7 then mm_at p.1 (.methodLink o x objectInit) else decide (e.2.2.2.1 < mm_ms.length) && mm_at p.2.2.1 (.initialized y.cls) && (
  if k = 0 then mm_at p.1 (.methodLink o x y) && mm_at p.2.1 (.static y)
  else if k = 1 then mm_at p.1 (.methodLink o x y) && mm_at p.2.1 (.instanceMethod y) && mm_at p.2.2.2 (.selects y.cls y y)
  else if k = 2 then mm_at p.1 (.methodLink o x y) && mm_at p.2.1 (.instanceMethod y) && decide (y.name = "<init>")
  else if k = 3 then mm_is p.1 (.methodLinkNest o x y "StudentSwaps") && mm_at p.2.1 (.static y)
  else if k = 5 then mm_is p.1 (.methodLinkNest o x y "StudentSwaps") && mm_at p.2.1 (.instanceMethod y) && decide (y.name = "<init>")
  else false)
theorem mm_ct_ok : mm_ct.all mm_ctok = true := by decide +kernel
/-- fields of each kind -/
def mm_fnok (T : u_T) (N : Nat) : Bool := (List.range N).all (fun a => (List.range N).all (fun b => a == b || !((T a).2.1 == (T b).2.1)))
def mm_clok (q : vw_C) (ty : Nat → FieldType) (df : List Value) (ps : List Nat) : Bool := (List.range q.2.2).all (fun k => mm_at (ps.getD k 0) (u_lay q.1 q.2.1 k)) && mm_fnok q.2.1 q.2.2 && (List.range q.2.2).all (fun k => decide (parseFieldDescriptor (q.2.1 k).2.2.1 = some (ty k))) && (List.range q.2.2).all (fun k => decide (defaultValue (ty k) = df.getD k .null)) && decide (df.length = q.2.2) && (List.range q.2.2).all (fun k => !(q.2.1 k).2.2.2 || decide ((q.2.1 k).1 = q.1))
def mm_ciok (i : Nat) : Bool := match mm_cl[i]? with
    | some q => mm_clok q (mm_ty i) (mm_df i) (mm_fp.getD i []) && decide (q.1 = mm_cn i)
    | none => false
theorem mm_cl_ok : (List.range 13).all mm_ciok = true := by decide +kernel
theorem mm_cl_ok13 : mm_ciok 13 = true := by decide +kernel
def mm_ftok (e : Nat × Nat × Nat × Nat × Nat × Nat) : Bool := match mm_cl[e.2.2.1]? with
  | some (_, T, N) => decide (e.2.2.2.1 < N) && (if e.2.2.2.2.2 = 0 then mm_at e.2.2.2.2.1 (.fieldLink (mm_cn e.1) e.2.1 (T e.2.2.2.1).1 (T e.2.2.2.1).2.1 (T e.2.2.2.1).2.2.1) else mm_at e.2.2.2.2.1 (.fieldLink (mm_cn e.1) e.2.1 (mm_cn e.1) (T e.2.2.2.1).2.1 (T e.2.2.2.1).2.2.1) && mm_at e.2.2.2.2.2 (.sameField (mm_cn e.1) (T e.2.2.2.1).1 (T e.2.2.2.1).2.1 (T e.2.2.2.1).2.2.1))
  | none => false
theorem mm_ft_ok : mm_ft.all mm_ftok = true := by decide +kernel
def mm_ktok (e : Nat × Nat × Nat × Nat × Nat × Nat) : Bool := match mm_cl[e.2.2.1]? with
  | some (C, _, N) => mm_at e.2.2.2.1 (.classLink (mm_cn e.1) e.2.1 C) && mm_at e.2.2.2.2.1 (.instantiable C N) && mm_at e.2.2.2.2.2 (.initialized C)
  | none => false
theorem mm_kt_ok : mm_kt.all mm_ktok = true := by decide +kernel
theorem mm_nt_ok : mm_nt.all (fun e => mm_at e.2.2.2 (.constant (mm_cn e.1) e.2.1 e.2.2.1)) = true := by decide +kernel
