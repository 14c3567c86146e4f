/-! THE LAW'S START: what the small machine is begun with -/
def mm_worth (j : Nat) : Int32 := match j with
  | 0 => 512
  | 1 => 64
  | 2 => 8
  | _ => 1
def mm_bL : List Nat := [4, 3, 4]
def mm_bB : List (List Int32) := [[103, 116, 99, 115], [60, 62, 61], [110, 98, 112, 121]]
/-- the cells that were there before the start: the empty row of lists, the row of worths, three texts and their bytes, a kind, the script -/
def mm_hs (L : Nat) (xs : Nat → Int32) (j : Nat) : va_E := match j with
  | 0 => .inl (3, 0, .inr (.inr (.inr (.inr (fun _ => none)))))
  | 1 => .inl (0, 4, .inl mm_worth)
  | 2 => .inr (22, [.ref 1000005, .int 0])
  | 3 => .inr (22, [.ref 1000006, .int 0])
  | 4 => .inr (22, [.ref 1000007, .int 0])
  | 5 => .inl (1, 4, .inl (fun j => (mm_bB.getD 0 []).getD j 0))
  | 6 => .inl (1, 3, .inl (fun j => (mm_bB.getD 1 []).getD j 0))
  | 7 => .inl (1, 4, .inl (fun j => (mm_bB.getD 2 []).getD j 0))
  | 8 => .inr (30, [])
  | _ => .inl (0, L, .inl xs)
def mm_M0 (L : Nat) (xs : Nat → Int32) : mH := (0, 0, fun a => mm_hs L xs (a - 1000000))
theorem mm_insts : (List.range 14).all (fun ci => (match mm_cl[ci]? with
    | some q => lw_tbl.any fun w => decide (w = .instantiable q.1 q.2.2)
    | none => false)) = true := by decide +kernel
def mm_tm (i : Nat) : Term := match i with
  | 0 => .string "StudentSwaps$TextReader" 107
  | 1 => .string "StudentSwaps$TextReader" 109
  | _ => .string "StudentSwaps$TextReader" 82
theorem mm_D {s : State} {args : Array Value} (hts : ∀ w ∈ lw_tbl, w.before args s = true) : ∃ D : va_G, ∀ (k : Nat) (q : vw_C), mm_cl[k]? = some q → u_Kn s q.1 q.2.1 q.2.2 (D.1 k) (D.2 k) := by
  have h1 : ∀ k : Nat, ∃ z : ClassId × (Nat → Nat), ∀ q : vw_C, mm_cl[k]? = some q → u_Kn s q.1 q.2.1 q.2.2 z.1 z.2 := fun k => by
    cases hk : mm_cl[k]? with
    | none => exact ⟨(0, fun _ => 0), fun q h => by cases h⟩
    | some q =>
      obtain ⟨C, T, N⟩ := q
      have hk14 : k < 14 := (List.getElem?_eq_some_iff.mp hk).1
      have h2 := List.all_eq_true.mp mm_insts k (List.mem_range.mpr hk14)
      rw [hk] at h2
      obtain ⟨w, hw, h3⟩ := List.any_eq_true.mp h2
      have h4 := of_decide_eq_true h3
      subst h4
      obtain ⟨c0, iS, hKn⟩ := u_known (C := C) (T := T) (N := N) (n := N) hts (fun w hw => mm_tb_tbl w ((mm_cf hk).1 w hw)) (hts _ hw)
      exact ⟨(c0, iS), fun q h => by cases h; exact hKn⟩
  exact ⟨(fun k => (Classical.choose (h1 k)).1, fun k => (Classical.choose (h1 k)).2), fun k q hq => Classical.choose_spec (h1 k) q hq⟩
theorem mm_at_of {i : Nat} {w : Cond} {s : State} {args : Array Value} (hts : ∀ w ∈ lw_tbl, w.before args s = true) (h : mm_is i w = true) : w.before args s = true := hts _ (mm_is_mem h)
theorem mm_arrC {s : State} {args : Array Value} {ty : FieldType} (h : (Cond.arrayClass ty).before args s = true) (hn : ∀ C, ty ≠ .object C) : ∃ c, ArrOfT s c ty ∧ va_RA s c ty := by
  obtain ⟨c, k, comp, h1, h2, h3⟩ := Cond.arrayClass_spec (args := args) (first := s) (o := none) (s := s) (idx := []) h
  refine ⟨c, fun n z => ⟨(fun k h => by cases h), k, h2, comp, h3⟩, ?_⟩
  cases ty with
  | object C => exact absurd rfl (hn C)
  | _ => exact h1
theorem mm_arrO {s : State} {args : Array Value} {C : String} (h : (Cond.arrayOver (.object C)).before args s = true) : ∃ c, ArrOfT s c (.object C) ∧ va_RA s c (.object C) := by
  obtain ⟨comp, c, k, h1, h2, h3, h4, h5⟩ := Cond.arrayOver_spec (args := args) (first := s) (o := none) (s := s) (idx := []) h
  exact ⟨c, fun n z => ⟨(fun k h => by cases h), k, h3, comp, h4⟩, k, comp, h3, h4, h1, h5⟩
theorem mm_arrA {s : State} {args : Array Value} {t : FieldType} (h : (Cond.arrayOver (.array t)).before args s = true) : ∃ c, ArrOfT s c (.array t) ∧ va_RA s c (.array t) := by
  obtain ⟨comp, c, k, h1, h2, h3, h4, h5⟩ := arrayOverA_spec (args := args) (first := s) (o := none) (s := s) (idx := []) h
  exact ⟨c, fun n z => ⟨(fun k h => by cases h), k, h3, comp, h4⟩, h5⟩
theorem mm_T_of_X {b L : Nat} {xs : Nat → Int32} {s : State} {A : Nat → Prop} (hL : L ≤ 4096) (hX : va_X b L xs s s.heap) (hA : ¬ A b) : va_T .int b L (fun j => .int (xs j)) A s s.heap := by
  obtain ⟨scr, h1, h2, h3, h4, h5⟩ := hX
  exact ⟨scr, h1, h2, h3, by omega, by rw [h4], h5, hA⟩
theorem mm_over0 {a : Array Value} {U : State} {t : FieldType} (h : (Cond.arrayOver (.array t)).before a U = true) : (Cond.arrayOver (.array t)).before #[] U = true := over_moved (Vm.Alike.refl U.vm) h
set_option maxHeartbeats 4000000 in
theorem mm_Zs {s : State} {b L : Nat} {xs : Nat → Int32} (hL : L ≤ 4096) (hts : ∀ w ∈ lw_tbl, w.before #[Value.ref b] s = true) (hX : va_X b L xs s s.heap) (hbl : b < s.heap.size) (hgv : (Jvm.Cond.and given_1 narrow_1).before #[Value.ref b] s = true) : ∃ sa : Nat → Nat, sa 9 = b ∧ mm_Z s.heap.size sa (mm_hs L xs) s s.heap := by
  have hf := flat_of_before _ hgv
  have hA : ∀ a : Nat, a < s.heap.size → ¬ (fun q => s.heap.size ≤ q) a := fun a h => Nat.not_le.mpr h
  obtain ⟨t0, e0, z0⟩ := va_Tof (args := #[Value.ref b]) (s := s) (tm := .static "java/util/ArrayList" "DEFAULTCAPACITY_EMPTY_ELEMENTDATA" "[Ljava/lang/Object;") (ty := .object "java/lang/Object") (N := 0) (f := fun _ => .null) (A := fun q => s.heap.size ≤ q) (by decide) (hf _ (by decide +kernel)) (va_eqt (hf (.eq (.length (.static "java/util/ArrayList" "DEFAULTCAPACITY_EMPTY_ELEMENTDATA" "[Ljava/lang/Object;")) (.int 0)) (by decide +kernel))) (fun j hj => absurd hj (Nat.not_lt_zero _)) hA
  obtain ⟨t1, e1, z1⟩ := va_Tof (args := #[Value.ref b]) (s := s) (tm := .static "StudentSwaps$Plan" "WORTH" "[I") (ty := .int) (N := 4) (f := fun j => .int (mm_worth j)) (A := fun q => s.heap.size ≤ q) (by decide) (hf _ (by decide +kernel)) (va_eqt (hf (.eq (.length (.static "StudentSwaps$Plan" "WORTH" "[I")) (.int 4)) (by decide +kernel))) (fun j hj => by
    match j, hj with
    | 0, _ => exact va_eqt (hf (.eq (.elem (.static "StudentSwaps$Plan" "WORTH" "[I") (.int 0)) (.int 512)) (by decide +kernel))
    | 1, _ => exact va_eqt (hf (.eq (.elem (.static "StudentSwaps$Plan" "WORTH" "[I") (.int 1)) (.int 64)) (by decide +kernel))
    | 2, _ => exact va_eqt (hf (.eq (.elem (.static "StudentSwaps$Plan" "WORTH" "[I") (.int 2)) (.int 8)) (by decide +kernel))
    | 3, _ => exact va_eqt (hf (.eq (.elem (.static "StudentSwaps$Plan" "WORTH" "[I") (.int 3)) (.int 1)) (by decide +kernel))
    | n + 4, h => omega) hA
  obtain ⟨adK, adV, zS, eS⟩ := vk_Sof (args := #[Value.ref b]) (s := s) (N := 3) (tm := mm_tm) (len := mm_bL) (byt := mm_bB) (A := fun q => s.heap.size ≤ q) (by decide +kernel)
    (fun i hi => by match i, hi with
      | 0, _ => exact hf _ (by decide +kernel)
      | 1, _ => exact hf _ (by decide +kernel)
      | 2, _ => exact hf _ (by decide +kernel)
      | n + 3, h => omega)
    (fun i hi => by match i, hi with
      | 0, _ => exact hf _ (by decide +kernel)
      | 1, _ => exact hf _ (by decide +kernel)
      | 2, _ => exact hf _ (by decide +kernel)
      | n + 3, h => omega)
    (fun i hi => by match i, hi with
      | 0, _ => exact hf _ (by decide +kernel)
      | 1, _ => exact hf _ (by decide +kernel)
      | 2, _ => exact hf _ (by decide +kernel)
      | n + 3, h => omega)
    (fun i hi => by match i, hi with
      | 0, _ => exact hf _ (by decide +kernel)
      | 1, _ => exact hf _ (by decide +kernel)
      | 2, _ => exact hf _ (by decide +kernel)
      | n + 3, h => omega)
    (fun i hi j hj => by match i, hi, j, hj with
      | 0, _, 0, _ => exact hf _ (by decide +kernel)
      | 0, _, 1, _ => exact hf _ (by decide +kernel)
      | 0, _, 2, _ => exact hf _ (by decide +kernel)
      | 0, _, 3, _ => exact hf _ (by decide +kernel)
      | 1, _, 0, _ => exact hf _ (by decide +kernel)
      | 1, _, 1, _ => exact hf _ (by decide +kernel)
      | 1, _, 2, _ => exact hf _ (by decide +kernel)
      | 2, _, 0, _ => exact hf _ (by decide +kernel)
      | 2, _, 1, _ => exact hf _ (by decide +kernel)
      | 2, _, 2, _ => exact hf _ (by decide +kernel)
      | 2, _, 3, _ => exact hf _ (by decide +kernel)
      | 0, _, n + 4, h => exact absurd h (by show ¬ n + 4 < 4; omega)
      | 1, _, n + 3, h => exact absurd h (by show ¬ n + 3 < 3; omega)
      | 2, _, n + 4, h => exact absurd h (by show ¬ n + 4 < 4; omega)
      | m + 3, h, _, _ => omega)
    (fun i j hi hj hij => by match i, hi, j, hj with
      | 0, _, 1, _ => exact Or.inl (hf _ (by decide +kernel))
      | 0, _, 2, _ => exact Or.inl (hf _ (by decide +kernel))
      | 1, _, 2, _ => exact Or.inl (hf _ (by decide +kernel))
      | 1, _, 0, _ => exact Or.inr (hf _ (by decide +kernel))
      | 2, _, 0, _ => exact Or.inr (hf _ (by decide +kernel))
      | 2, _, 1, _ => exact Or.inr (hf _ (by decide +kernel))
      | 0, _, 0, _ => exact absurd rfl hij
      | 1, _, 1, _ => exact absurd rfl hij
      | 2, _, 2, _ => exact absurd rfl hij
      | m + 3, h, _, _ => omega
      | _, _, m + 3, h => omega) hA
  obtain ⟨mi, hmi⟩ := va_Mi.of (args := #[Value.ref b]) (s := s) (C := "[Ljava/lang/Object;") (hf _ (by decide +kernel))
  have hb9 : ¬ (fun q => s.heap.size ≤ q) b := hA b hbl
  have hlt : ∀ {ty : FieldType} {t N : Nat} {f : Nat → Value}, va_T ty t N f (fun q => s.heap.size ≤ q) s s.heap → t < s.heap.size := fun h => by
    obtain ⟨cell, h1, -⟩ := h
    exact (Array.getElem?_eq_some_iff.mp h1).1
  have hltO : ∀ {t : Nat}, va_O "java/lang/String" t (fun q => s.heap.size ≤ q) s s.heap → t < s.heap.size := fun h => by
    obtain ⟨cell, h1, -⟩ := h
    exact (Array.getElem?_eq_some_iff.mp h1).1
  have r5 : mm_rv s.heap.size (fun j => match j with | 0 => t0 | 1 => t1 | 2 => adK 0 | 3 => adK 1 | 4 => adK 2 | 5 => adV 0 | 6 => adV 1 | 7 => adV 2 | 8 => mi | _ => b) (.ref 1000005) = .ref (adV 0) := rfl
  have r6 : mm_rv s.heap.size (fun j => match j with | 0 => t0 | 1 => t1 | 2 => adK 0 | 3 => adK 1 | 4 => adK 2 | 5 => adV 0 | 6 => adV 1 | 7 => adV 2 | 8 => mi | _ => b) (.ref 1000006) = .ref (adV 1) := rfl
  have r7 : mm_rv s.heap.size (fun j => match j with | 0 => t0 | 1 => t1 | 2 => adK 0 | 3 => adK 1 | 4 => adK 2 | 5 => adV 0 | 6 => adV 1 | 7 => adV 2 | 8 => mi | _ => b) (.ref 1000007) = .ref (adV 2) := rfl
  refine ⟨fun j => match j with | 0 => t0 | 1 => t1 | 2 => adK 0 | 3 => adK 1 | 4 => adK 2 | 5 => adV 0 | 6 => adV 1 | 7 => adV 2 | 8 => mi | _ => b, rfl, ?_, va_Zof (mm_at_of hts (i := 1166) (by decide +kernel)) (hts _ (mm_tb_tbl _ mm_wal)) e0 hA, va_Zof (mm_at_of hts (i := 4202) (by decide +kernel)) (mm_at_of hts (i := 1011) (by decide +kernel)) e1 hA, va_Zof (mm_at_of hts (i := 3097) (by decide +kernel)) (mm_at_of hts (i := 1020) (by decide +kernel)) (va_eqt (hf (.eq (.static "java/lang/String" "COMPACT_STRINGS" "Z") (.int 1)) (by decide +kernel))) hA, ⟨vk_R.of (mm_at_of hts (i := 3079) (by decide +kernel)) (eS 0 (by decide)), vk_R.of (mm_at_of hts (i := 3166) (by decide +kernel)) (eS 1 (by decide)), vk_R.of (mm_at_of hts (i := 3177) (by decide +kernel)) (eS 2 (by decide))⟩, hmi, va_Dc.of (mm_at_of hts (i := 8163) (by decide +kernel)), ⟨va_AO.of (mm_at_of hts (i := 2225) (by decide +kernel)), mm_over0 (mm_at_of hts (i := 1043) (by decide +kernel))⟩, ?_, ?_, ?_⟩
  · intro j hj
    match j, hj with
    | 0, _ => exact ⟨fun _ => hlt z0, z0⟩
    | 1, _ => exact ⟨fun _ => hlt z1, z1⟩
    | 2, _ =>
      have h9 := zS.1 0 (by decide)
      exact ⟨fun _ => hltO h9.1, h9.1, fun v hv => (by cases hv; exact h9.2.2.1), fun v hv => (by cases hv; exact h9.2.1)⟩
    | 3, _ =>
      have h9 := zS.1 1 (by decide)
      exact ⟨fun _ => hltO h9.1, h9.1, fun v hv => (by cases hv; exact h9.2.2.1), fun v hv => (by cases hv; exact h9.2.1)⟩
    | 4, _ =>
      have h9 := zS.1 2 (by decide)
      exact ⟨fun _ => hltO h9.1, h9.1, fun v hv => (by cases hv; exact h9.2.2.1), fun v hv => (by cases hv; exact h9.2.1)⟩
    | 5, _ =>
      have h9 := (zS.1 0 (by decide)).2.2.2
      exact ⟨fun _ => hlt h9, h9⟩
    | 6, _ =>
      have h9 := (zS.1 1 (by decide)).2.2.2
      exact ⟨fun _ => hlt h9, h9⟩
    | 7, _ =>
      have h9 := (zS.1 2 (by decide)).2.2.2
      exact ⟨fun _ => hlt h9, h9⟩
    | 8, _ => exact ⟨fun h => absurd rfl h, trivial⟩
    | 9, _ => exact ⟨fun _ => hbl, mm_T_of_X hL hX hb9⟩
    | n + 10, h => omega
  · exact va_Fw.of (mm_at_of hts (i := 2125) (by decide +kernel)) (mm_at_of hts (i := 2124) (by decide +kernel)) (mm_at_of hts (i := 2130) (by decide +kernel)) (mm_at_of hts (i := 2128) (by decide +kernel)) (mm_at_of hts (i := 2126) (by decide +kernel))
  · exact va_Fw.of (mm_at_of hts (i := 2172) (by decide +kernel)) (mm_at_of hts (i := 2171) (by decide +kernel)) (mm_at_of hts (i := 2176) (by decide +kernel)) (mm_at_of hts (i := 2174) (by decide +kernel)) (mm_at_of hts (i := 2126) (by decide +kernel))
  · exact va_Fw.of (mm_at_of hts (i := 3006) (by decide +kernel)) (mm_at_of hts (i := 3005) (by decide +kernel)) (mm_at_of hts (i := 3010) (by decide +kernel)) (mm_at_of hts (i := 3008) (by decide +kernel)) (mm_at_of hts (i := 2126) (by decide +kernel))
