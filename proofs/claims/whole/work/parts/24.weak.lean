/-! fewer locals, in any order -/
def mm_sub (l l2 : List (Nat × Value)) : Prop := ∀ i v, mm_lk l i = some v → mm_lk l2 i = some v
def mm_ndk (l : List (Nat × Value)) : Prop := (l.map (fun q => q.1)).Nodup
def mm_usl (i : Instr) : Bool := match i with
  | .iload _ | .iload_n _ | .lload _ | .lload_n _ | .aload _ | .aload_n _ | .istore _ | .istore_n _ | .lstore _ | .lstore_n _ | .astore _ | .astore_n _ | .iinc _ _ => true
  | _ => false
set_option maxHeartbeats 4000000 in
theorem mm_st_un {o nL pc : Nat} {ini : Bool} {i : Instr} (hu : mm_usl i = false) (ls l2 : List (Nat × Value)) (st : List Value) (M : mH) : mm_st o nL ini i pc l2 st M = (mm_st o nL ini i pc ls st M).map (fun c => (c.1, l2, c.2.2.1, c.2.2.2)) := by
  cases i
  all_goals first
    | (cases hu; done)
    | rfl
    | (simp only [mm_st, mm_i2, mm_l2, mm_go]
       repeat' split
       all_goals first | rfl | simp_all)
theorem mm_lk_cons (l : List (Nat × Value)) (i j : Nat) (v : Value) : mm_lk ((i, v) :: l) j = if i = j then some v else mm_lk l j := by
  unfold mm_lk
  rw [List.find?_cons]
  by_cases h : i = j
  · subst h
    simp
  · have hb : (i == j) = false := by simpa using h
    rw [if_neg h]
    dsimp only
    rw [hb]
theorem mm_lk_filter {l : List (Nat × Value)} {p : Nat × Value → Bool} {j : Nat} {w : Value} (hn : mm_ndk l) (h : mm_lk (l.filter p) j = some w) : mm_lk l j = some w ∧ p (j, w) = true := by
  unfold mm_lk at h
  obtain ⟨e, he, h2⟩ := Option.map_eq_some_iff.mp h
  have hm := List.mem_of_find?_eq_some he
  have hp := List.find?_some he
  simp only [beq_iff_eq] at hp
  obtain ⟨hm1, hm2⟩ := List.mem_filter.mp hm
  obtain ⟨ej, ew⟩ := e
  dsimp only at hp h2
  subst hp
  subst h2
  refine ⟨?_, hm2⟩
  clear h he hm hm2
  induction l with
  | nil => cases hm1
  | cons q l ih =>
    obtain ⟨qi, qv⟩ := q
    rw [mm_lk_cons]
    unfold mm_ndk at hn
    rw [List.map_cons, List.nodup_cons] at hn
    rcases List.mem_cons.mp hm1 with h | h
    · cases h
      rw [if_pos rfl]
    · rw [if_neg (fun e9 => hn.1 (List.mem_map.mpr ⟨(ej, ew), h, e9.symm⟩))]
      exact ih hn.2 h
theorem mm_lk_filter2 {l : List (Nat × Value)} {p : Nat × Value → Bool} {j : Nat} {w : Value} (h : mm_lk l j = some w) (hp : p (j, w) = true) : mm_lk (l.filter p) j = some w := by
  induction l with
  | nil => cases h
  | cons q l ih =>
    obtain ⟨qi, qv⟩ := q
    rw [mm_lk_cons] at h
    by_cases he : qi = j
    · rw [if_pos he] at h
      cases h
      subst he
      rw [List.filter_cons, if_pos hp, mm_lk_cons, if_pos rfl]
    · rw [if_neg he] at h
      rw [List.filter_cons]
      split
      · rw [mm_lk_cons, if_neg he]
        exact ih h
      · exact ih h
theorem mm_sub_st {l l2 : List (Nat × Value)} {p : Nat × Value → Bool} {i : Nat} {v : Value} (hn : mm_ndk l) (h : mm_sub l l2) : mm_sub ((i, v) :: l.filter p) ((i, v) :: l2.filter p) := by
  intro j w hj
  rw [mm_lk_cons] at hj ⊢
  by_cases he : i = j
  · rw [if_pos he] at hj ⊢
    exact hj
  · rw [if_neg he] at hj ⊢
    obtain ⟨h1, h2⟩ := mm_lk_filter hn hj
    exact mm_lk_filter2 (h j w h1) h2
theorem mm_ndk_st {l : List (Nat × Value)} {p : Nat × Value → Bool} {i : Nat} {v : Value} (hp : ∀ w, p (i, w) = false) (hn : mm_ndk l) : mm_ndk ((i, v) :: l.filter p) := by
  unfold mm_ndk at hn ⊢
  rw [List.map_cons, List.nodup_cons]
  refine ⟨fun hm => ?_, hn.sublist (List.filter_sublist.map _)⟩
  obtain ⟨⟨qi, qv⟩, hq, he⟩ := List.mem_map.mp hm
  dsimp only at he
  subst he
  have := (List.mem_filter.mp hq).2
  rw [hp] at this
  cases this
theorem mm_s1_sub {l l2 : List (Nat × Value)} {i : Nat} {v : Value} (hn : mm_ndk l) (h : mm_sub l l2) : mm_sub (mm_s1 l i v) (mm_s1 l2 i v) ∧ mm_ndk (mm_s1 l i v) := ⟨mm_sub_st hn h, mm_ndk_st (fun w => by simp) hn⟩
theorem mm_s2_sub {l l2 : List (Nat × Value)} {i : Nat} {v : Value} (hn : mm_ndk l) (h : mm_sub l l2) : mm_sub (mm_s2 l i v) (mm_s2 l2 i v) ∧ mm_ndk (mm_s2 l i v) := ⟨mm_sub_st hn h, mm_ndk_st (fun w => by simp) hn⟩
set_option maxHeartbeats 4000000 in
theorem mm_st_sub {o nL pc pc' : Nat} {ini : Bool} {i : Instr} {l l' l2 : List (Nat × Value)} {st st' : List Value} {M M' : mH} (hn : mm_ndk l) (hs : mm_sub l l2) (h : mm_st o nL ini i pc l st M = some (pc', l', st', M')) : ∃ l3, mm_st o nL ini i pc l2 st M = some (pc', l3, st', M') ∧ mm_sub l' l3 ∧ mm_ndk l' := by
  cases hu : mm_usl i with
  | false =>
    refine ⟨l2, ?_, ?_⟩
    · rw [mm_st_un hu l l2, h]
      rfl
    · have h9 := mm_st_un (o := o) (nL := nL) (ini := ini) (pc := pc) hu l l st M
      rw [h] at h9
      have e : l' = l := by
        have := Option.some.inj h9
        exact congrArg (fun c => c.2.1) this
      rw [e]
      exact ⟨hs, hn⟩
  | true =>
    cases i
    all_goals first
      | (cases hu; done)
      | skip
    all_goals simp only [mm_st] at h ⊢
    case iload n =>
      split at h
      · rename_i v hv
        cases h
        exact ⟨l2, by rw [hs _ _ hv], hs, hn⟩
      · cases h
    case iload_n n =>
      split at h
      · rename_i v hv
        cases h
        exact ⟨l2, by rw [hs _ _ hv], hs, hn⟩
      · cases h
    case lload n =>
      split at h
      · rename_i v hv
        cases h
        exact ⟨l2, by rw [hs _ _ hv], hs, hn⟩
      · cases h
    case lload_n n =>
      split at h
      · rename_i v hv
        cases h
        exact ⟨l2, by rw [hs _ _ hv], hs, hn⟩
      · cases h
    case aload n =>
      split at h
      · rename_i v hv
        cases h
        exact ⟨l2, by rw [hs _ _ hv], hs, hn⟩
      · rename_i hv
        cases h
        exact ⟨l2, by rw [hs _ _ hv], hs, hn⟩
      · cases h
    case aload_n n =>
      split at h
      · rename_i v hv
        cases h
        exact ⟨l2, by rw [hs _ _ hv], hs, hn⟩
      · rename_i hv
        cases h
        exact ⟨l2, by rw [hs _ _ hv], hs, hn⟩
      · cases h
    case istore n =>
      split at h
      · split at h
        · rename_i hlt
          cases h
          exact ⟨_, by rw [if_pos hlt], mm_s1_sub hn hs⟩
        · cases h
      · cases h
    case istore_n n =>
      split at h
      · split at h
        · rename_i hlt
          cases h
          exact ⟨_, by rw [if_pos hlt], mm_s1_sub hn hs⟩
        · cases h
      · cases h
    case lstore n =>
      split at h
      · split at h
        · rename_i hlt
          cases h
          exact ⟨_, by rw [if_pos hlt], mm_s2_sub hn hs⟩
        · cases h
      · cases h
    case lstore_n n =>
      split at h
      · split at h
        · rename_i hlt
          cases h
          exact ⟨_, by rw [if_pos hlt], mm_s2_sub hn hs⟩
        · cases h
      · cases h
    case astore n =>
      split at h
      · split at h
        · rename_i hlt
          cases h
          exact ⟨_, by rw [if_pos hlt], mm_s1_sub hn hs⟩
        · cases h
      · split at h
        · rename_i hlt
          cases h
          exact ⟨_, by rw [if_pos hlt], mm_s1_sub hn hs⟩
        · cases h
      · cases h
    case astore_n n =>
      split at h
      · split at h
        · rename_i hlt
          cases h
          exact ⟨_, by rw [if_pos hlt], mm_s1_sub hn hs⟩
        · cases h
      · split at h
        · rename_i hlt
          cases h
          exact ⟨_, by rw [if_pos hlt], mm_s1_sub hn hs⟩
        · cases h
      · cases h
    case iinc n k =>
      split at h
      · rename_i v hv
        split at h
        · rename_i hlt
          cases h
          exact ⟨_, by rw [hs _ _ hv]; dsimp only; rw [if_pos hlt], mm_s1_sub hn hs⟩
        · cases h
      · cases h
theorem mm_run_sub {cal : Nat → List Value → mH → Option (Option Value × mH)} {o nL : Nat} {ini : Bool} {b : ByteArray} {ret : Option FieldType} : ∀ (n pc : Nat) (l l2 : List (Nat × Value)) (st : List Value) (M : mH) (R : Option Value × mH), mm_ndk l → mm_sub l l2 → mm_run cal o nL ini b ret n pc l st M = some R → mm_run cal o nL ini b ret n pc l2 st M = some R := by
  intro n
  induction n with
  | zero => intro pc l l2 st M R _ _ h; cases h
  | succ n ih =>
    intro pc l l2 st M R hn hs h
    unfold mm_run at h ⊢
    split at h
    · rename_i i len hd
      try dsimp only
      split at h
      · rename_i hl
        rw [if_pos hl]
        split at h
        · rename_i hr
          rw [if_pos hr]
          exact h
        · rename_i hr
          rw [if_neg hr]
          split at h
          · rename_i k j hv
            try rw [hv]
            try dsimp only
            split at h
            · rename_i h7
              rw [if_pos h7]
              split at h
              · split at h
                · rename_i hsum
                  rw [if_pos hsum]
                  exact ih _ _ _ _ _ _ hn hs h
                · cases h
              · cases h
            · rename_i h7
              rw [if_neg h7]
              split at h
              · rename_i hcn
                rw [if_pos hcn]
                split at h
                · exact ih _ _ _ _ _ _ hn hs h
                · cases h
              · cases h
          · rename_i hv
            try rw [hv]
            try dsimp only
            split at h
            · rename_i pc' l' st' M' hst
              obtain ⟨l3, e3, hs3, hn3⟩ := mm_st_sub hn hs hst
              rw [e3]
              exact ih _ _ _ _ _ _ hn3 hs3 h
            · cases h
      · cases h
    · cases h
/-- the locals that matter, in an order of one's own -/
theorem r_ls {d : Nat} {C : mX} {pc : Nat} {l2 : List (Nat × Value)} {st : List Value} {M : mH} {R : Option Value × mH → Prop} (l : List (Nat × Value)) (hn : mm_ndk l) (hs : mm_sub l l2) (kk : mm_Ru d C pc l st M R) : mm_Ru d C pc l2 st M R := by
  obtain ⟨R0, hR0, n0, h⟩ := kk
  exact ⟨R0, hR0, n0, fun N n hN hnn => mm_run_sub n pc l l2 st M R0 hn hs (h N n hN hnn)⟩
theorem mm_sub_nil (l : List (Nat × Value)) : mm_sub [] l := fun i v h => by cases h
theorem mm_sub_cons {l l2 : List (Nat × Value)} {i : Nat} {v : Value} (h : mm_lk l2 i = some v) (hs : mm_sub l l2) : mm_sub ((i, v) :: l) l2 := fun j w hj => by
  rw [mm_lk_cons] at hj
  by_cases he : i = j
  · rw [if_pos he] at hj
    cases hj
    rw [← he]
    exact h
  · rw [if_neg he] at hj
    exact hs j w hj
theorem mm_ndk_of {l : List (Nat × Value)} (ks : List Nat) (h : l.map (fun q => q.1) = ks) (hk : ks.Nodup) : mm_ndk l := by
  unfold mm_ndk
  rw [h]
  exact hk
