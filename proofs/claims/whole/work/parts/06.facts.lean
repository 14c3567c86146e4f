/-! what the tables give, in the form in which the rows take it -/
theorem mm_ci {ci : Nat} {q : vw_C} (h : mm_cl[ci]? = some q) : mm_clok q (mm_ty ci) (mm_df ci) (mm_fp.getD ci []) = true ∧ q.1 = mm_cn ci := by
  have h14 : ci < 14 := (List.getElem?_eq_some_iff.mp h).1
  have hk : mm_ciok ci = true := by
    rcases Nat.lt_or_ge ci 13 with h1 | h1
    · exact List.all_eq_true.mp mm_cl_ok ci (List.mem_range.mpr h1)
    · rw [show ci = 13 by omega]
      exact mm_cl_ok13
  unfold mm_ciok at hk
  rw [h] at hk
  simp only [Bool.and_eq_true, decide_eq_true_eq] at hk
  exact hk
theorem mm_cf {ci : Nat} {C : String} {T : u_T} {N : Nat} (h : mm_cl[ci]? = some (C, T, N)) : (∀ w ∈ u_ws C T N, w ∈ mm_tb) ∧ (∀ a, a < N → ∀ b, b < N → a ≠ b → (T a).2.1 ≠ (T b).2.1) ∧ (∀ k, k < N → parseFieldDescriptor (T k).2.2.1 = some (mm_ty ci k)) ∧ (∀ k, k < N → defaultValue (mm_ty ci k) = (mm_df ci).getD k .null) ∧ (mm_df ci).length = N ∧ C = mm_cn ci ∧ ∀ k, k < N → (T k).2.2.2 = true → (T k).1 = C := by
  obtain ⟨h1, h2⟩ := mm_ci h
  unfold mm_clok at h1
  simp only [Bool.and_eq_true] at h1
  obtain ⟨⟨⟨⟨⟨a1, a2⟩, a3⟩, a4⟩, a5⟩, a6⟩ := h1
  refine ⟨fun w hw => ?_, fun a ha b hb hab => ?_, fun k hk => ?_, fun k hk => ?_, of_decide_eq_true a5, h2, fun k hk hf => ?_⟩
  · unfold u_ws at hw
    obtain ⟨k, hk, rfl⟩ := List.mem_map.mp hw
    exact mm_at_mem (List.all_eq_true.mp a1 k hk)
  · unfold mm_fnok at a2
    have := List.all_eq_true.mp (List.all_eq_true.mp a2 a (List.mem_range.mpr ha)) b (List.mem_range.mpr hb)
    simp only [Bool.or_eq_true, beq_iff_eq, Bool.not_eq_true', beq_eq_false_iff_ne, ne_eq] at this
    rcases this with h | h
    · exact absurd h hab
    · exact h
  · exact of_decide_eq_true (List.all_eq_true.mp a3 k (List.mem_range.mpr hk))
  · exact of_decide_eq_true (List.all_eq_true.mp a4 k (List.mem_range.mpr hk))
  · have := List.all_eq_true.mp a6 k (List.mem_range.mpr hk)
    simp only [Bool.or_eq_true, Bool.not_eq_true', decide_eq_true_eq] at this
    rcases this with h | h
    · have h' : (T k).2.2.2 = false := h
      rw [hf] at h'
      exact absurd h' (by decide)
    · exact h
theorem mm_frok {o x ci k : Nat} (h : mm_fr o x = some (ci, k)) : ∃ (C : String) (T : u_T) (N : Nat) (ref : String), mm_cl[ci]? = some (C, T, N) ∧ k < N ∧ Cond.fieldLink (mm_cn o) x ref (T k).2.1 (T k).2.2.1 ∈ mm_tb ∧ (ref = (T k).1 ∨ Cond.sameField ref (T k).1 (T k).2.1 (T k).2.2.1 ∈ mm_tb) := by
  unfold mm_fr at h
  obtain ⟨e, he, h2⟩ := Option.map_eq_some_iff.mp h
  have hm := List.mem_of_find?_eq_some he
  have hp := List.find?_some he
  simp only [Bool.and_eq_true, beq_iff_eq] at hp
  have hk := List.all_eq_true.mp mm_ft_ok e hm
  obtain ⟨e1, e2, e3, e4, e5, e6⟩ := e
  simp only [Prod.mk.injEq] at h2
  obtain ⟨rfl, rfl⟩ := h2
  obtain ⟨rfl, rfl⟩ := hp
  unfold mm_ftok at hk
  dsimp only at hk
  split at hk
  · rename_i C T N hc
    simp only [Bool.and_eq_true, decide_eq_true_eq] at hk
    obtain ⟨k1, k2⟩ := hk
    split at k2
    · exact ⟨C, T, N, _, hc, k1, mm_at_mem k2, Or.inl rfl⟩
    · rw [Bool.and_eq_true] at k2
      exact ⟨C, T, N, _, hc, k1, mm_at_mem k2.1, Or.inr (mm_at_mem k2.2)⟩
  · exact absurd hk (by decide)
theorem mm_sm {args : Array Value} {s : State} (hts : ∀ w ∈ mm_tb, w.before args s = true) {ref o n d : String} (h : ref = o ∨ Cond.sameField ref o n d ∈ mm_tb) (x : ClassId × Class × Nat × Field) (hx : s.fieldFound? o n d = some x) : s.fieldFound? ref n d = some x := by
  rcases h with h | h
  · rw [h]
    exact hx
  · exact u_same (hts _ h) x hx
theorem mm_krok {o x ci : Nat} (h : mm_kr o x = some ci) : ∃ (C : String) (T : u_T) (N : Nat), mm_cl[ci]? = some (C, T, N) ∧ Cond.classLink (mm_cn o) x C ∈ mm_tb ∧ Cond.instantiable C N ∈ mm_tb ∧ Cond.initialized C ∈ mm_tb := by
  unfold mm_kr at h
  obtain ⟨e, he, h2⟩ := Option.map_eq_some_iff.mp h
  have hm := List.mem_of_find?_eq_some he
  have hp := List.find?_some he
  simp only [Bool.and_eq_true, beq_iff_eq] at hp
  have hk := List.all_eq_true.mp mm_kt_ok e hm
  obtain ⟨e1, e2, e3, e4, e5, e6⟩ := e
  obtain rfl := h2
  obtain ⟨rfl, rfl⟩ := hp
  unfold mm_ktok at hk
  dsimp only at hk
  split at hk
  · rename_i C T N hc
    simp only [Bool.and_eq_true] at hk
    exact ⟨C, T, N, hc, mm_at_mem hk.1.1, mm_at_mem hk.1.2, mm_at_mem hk.2⟩
  · exact absurd hk (by decide)
theorem mm_nrok {o x : Nat} {v : Int32} (h : mm_nr o x = some v) : Cond.constant (mm_cn o) x v ∈ mm_tb := by
  unfold mm_nr at h
  obtain ⟨e, he, h2⟩ := Option.map_eq_some_iff.mp h
  have hm := List.mem_of_find?_eq_some he
  have hp := List.find?_some he
  simp only [Bool.and_eq_true, beq_iff_eq] at hp
  have hk := List.all_eq_true.mp mm_nt_ok e hm
  obtain ⟨e1, e2, e3, e4⟩ := e
  obtain rfl := h2
  obtain ⟨rfl, rfl⟩ := hp
  exact mm_at_mem hk
theorem mm_cat (B : Nat) (sa : Nat → Nat) (v : Value) : (mm_rv B sa v).category = v.category := by cases v <;> rfl
theorem mm_lkm {B : Nat} {sa : Nat → Nat} {ls : List (Nat × Value)} {i : Nat} {v : Value} (h : mm_lk ls i = some v) : (i, mm_rv B sa v) ∈ mm_rl B sa ls := by
  unfold mm_lk at h
  obtain ⟨e, he, h2⟩ := Option.map_eq_some_iff.mp h
  have hm := List.mem_of_find?_eq_some he
  have hp := List.find?_some he
  simp only [beq_iff_eq] at hp
  unfold mm_rl
  refine List.mem_map.mpr ⟨e, hm, ?_⟩
  rw [hp, h2]
theorem mm_lka {B : Nat} {sa : Nat → Nat} {ls : List (Nat × Value)} {i nL : Nat} {v : Value} {lsA : Array Slot} (hl : lv_has lsA nL (mm_rl B sa ls)) (h : mm_lk ls i = some v) : lsA[i]? = some (.val (mm_rv B sa v)) := hl.2.2 _ (mm_lkm h)
theorem mm_s1r (B : Nat) (sa : Nat → Nat) (ls : List (Nat × Value)) (i : Nat) (v : Value) : (i, mm_rv B sa v) :: (mm_rl B sa ls).filter (fun q => !(q.1 == i) && !(q.1 + 1 == i && q.2.category == 2)) = mm_rl B sa (mm_s1 ls i v) := by
  unfold mm_rl mm_s1
  rw [List.map_cons, List.filter_map]
  congr 2
  apply List.filter_congr
  intro q _
  simp only [Function.comp, mm_cat]
theorem mm_s2r (B : Nat) (sa : Nat → Nat) (ls : List (Nat × Value)) (i : Nat) (v : Value) : (i, mm_rv B sa v) :: (mm_rl B sa ls).filter (fun q => !(q.1 == i) && (!(q.1 == i + 1) && !(q.1 + 1 == i && q.2.category == 2))) = mm_rl B sa (mm_s2 ls i v) := by
  unfold mm_rl mm_s2
  rw [List.map_cons, List.filter_map]
  congr 2
  apply List.filter_congr
  intro q _
  simp only [Function.comp, mm_cat]
