/-! every step that is no call and no return -/
/-- the machine comes to Q from here -/
def mm_Go (p : Program) (l : Launch) (e : Env) (R : Room) (s : State) (m : MethodId) (args : Array Value) (below : List Frame) (meth : Method) (c : Code) (Q : State → Prop) (D : va_G) (dA : Nat → Nat) (B : Nat) (sa : Nat → Nat) (hs : Nat → va_E) (nL : Nat) (M0 : mH) (pc : Nat) (ls : List (Nat × Value)) (st : List Value) (M : mH) : Prop :=
  ∀ (lsA : Array Slot) (H : Heap) (locs : List Loc), lv_has lsA nL (mm_rl B sa ls) → mm_R D dA B sa hs M H → (∀ q, q < B → H[q]? = s.heap[q]?) → (∀ q ∈ locs, B ≤ q.base) → W p l e R s m args below meth c H locs (M.1 - M0.1) (M.2.1 - M0.2.1) Q (F0 m pc lsA (st.map (mm_rv B sa)))
theorem mm_sumr0 {B : Nat} {sa : Nat → Nat} (q : List Value) : ((q.map (mm_rv B sa)).map fun v => v.category).sum = mm_sum q := by
  unfold mm_sum
  rw [List.map_map]
  congr 1
  apply List.map_congr_left
  intro v _
  exact mm_cat B sa v
theorem mm_aqok {B : Nat} {sa : Nat → Nat} (hsa : ∀ j, j < 10 → j ≠ 8 → sa j < B) {x y : Value} {q : Bool} (h : mm_aq x y = some q) : ∃ rx ry : Option Nat, mm_rv B sa x = va_rf rx ∧ mm_rv B sa y = va_rf ry ∧ (q = true ↔ rx = ry) := by
  unfold mm_aq at h
  split at h
  · cases h
    exact ⟨none, none, rfl, rfl, by simp⟩
  · cases h
    exact ⟨some _, none, rfl, rfl, by simp⟩
  · cases h
    exact ⟨none, some _, rfl, rfl, by simp⟩
  · rename_i a b
    refine ⟨some (mm_ro B sa a), some (mm_ro B sa b), rfl, rfl, ?_⟩
    split at h
    · rename_i hab
      cases h
      subst hab
      simp
    · rename_i hab
      split at h
      · rename_i hc
        cases h
        simp only [Bool.false_eq_true, Option.some.injEq, false_iff]
        rcases hc with ⟨ha, hb | ⟨hb, h8⟩⟩ | ⟨hb, ha, h8⟩
        · rw [mm_roB ha, mm_roB hb]
          exact fun h9 => hab (Nat.add_left_cancel h9)
        · obtain ⟨j, hj, rfl⟩ := mm_st_of hb
          rw [mm_roB ha, mm_roS]
          have := hsa j hj (fun h9 => h8 (by rw [h9]))
          omega
        · obtain ⟨j, hj, rfl⟩ := mm_st_of ha
          rw [mm_roB hb, mm_roS]
          have := hsa j hj (fun h9 => h8 (by rw [h9]))
          omega
      · cases h
  · cases h
section MMS
variable {p : Program} {l : Launch} {e : Env} {R : Room} {s : State} {m : MethodId} {args : Array Value} {below : List Frame} {meth : Method} {c : Code} {Q : State → Prop}
variable {cc : ByteArray} {pc : Nat} {ls : List (Nat × Value)} {st : List Value} {D : va_G} {dA : Nat → Nat} {B : Nat} {sa : Nat → Nat} {hs : Nat → va_E} {M M0 : mH} {o nL : Nat} {ini : Bool}
theorem mm_jump {off : Int} {pc' : Nat} {ls' : List (Nat × Value)} {st' : List Value} {M' : mH} (h : mm_go pc off ls st M = some (pc', ls', st', M')) : (pc : Int) + off = (pc' : Int) ∧ ls' = ls ∧ st' = st ∧ M' = M := by
  unfold mm_go at h
  split at h
  · rename_i h0
    cases h
    exact ⟨(Int.toNat_of_nonneg h0).symm, rfl, rfl, rfl⟩
  · cases h
theorem mm_i2ok {f : Int32 → Int32 → Int32} {r : mC} (h : mm_i2 f pc ls st M = some r) : ∃ (x y : Int32) (q : List Value), st = .int y :: .int x :: q ∧ r = (pc + 1, ls, .int (f x y) :: q, M) := by
  unfold mm_i2 at h
  split at h
  · cases h
    exact ⟨_, _, _, rfl, rfl⟩
  · cases h
theorem mm_l2ok {f : Int64 → Int64 → Int64} {r : mC} (h : mm_l2 f pc ls st M = some r) : ∃ (x y : Int64) (q : List Value), st = .long y :: .long x :: q ∧ r = (pc + 1, ls, .long (f x y) :: q, M) := by
  unfold mm_l2 at h
  split at h
  · cases h
    exact ⟨_, _, _, rfl, rfl⟩
  · cases h
theorem mm_keep {lc : Loc} {locs : List Loc} {a : Nat} (h : ∀ q ∈ locs, B ≤ q.base) (hb : lc.base = B + a) : ∀ q ∈ locs ++ [lc], B ≤ q.base := by
  intro q hq
  rcases List.mem_append.mp hq with h1 | h1
  · exact h q h1
  · rw [List.mem_singleton.mp h1, hb]
    exact Nat.le_add_right _ _
theorem mm_ifz {H : Heap} {locs : List Loc} {cells slots : Nat} {lsA : Array Slot} {rest : List Value} {cnd : Jvm.ClassFile.Cond} {x : Int32} {off : Int} {tgt : Nat} (hx : p.tables.exec = Jvm.exec) (hb : c.code = cc) (hd : decode cc pc = .ok (.ifCond cnd off, 3)) (ht : (pc : Int) + off = (tgt : Int)) (kt : mm_cz cnd x = true → W p l e R s m args below meth c H locs cells slots Q (F0 m tgt lsA rest)) (kf : ¬ mm_cz cnd x = true → W p l e R s m args below meth c H locs cells slots Q (F0 m (pc + 3) lsA rest)) : W p l e R s m args below meth c H locs cells slots Q (F0 m pc lsA (.int x :: rest)) := by
  cases cnd with
  | eq => exact lv_if_eq hx hb hd ht (fun h => kt (decide_eq_true h)) (fun h => kf (fun h2 => h (of_decide_eq_true h2)))
  | ne => exact lv_if_ne hx hb hd ht (fun h => kt (decide_eq_true h)) (fun h => kf (fun h2 => absurd h (of_decide_eq_true h2)))
  | lt => exact lv_if_lt hx hb hd ht (fun h => kt (decide_eq_true h)) (fun h => kf (fun h2 => h (of_decide_eq_true h2)))
  | ge => exact lv_if_ge hx hb hd ht (fun h => kt (decide_eq_true h)) (fun h => kf (fun h2 => h (of_decide_eq_true h2)))
  | gt => exact lv_if_gt hx hb hd ht (fun h => kt (decide_eq_true h)) (fun h => kf (fun h2 => h (of_decide_eq_true h2)))
  | le => exact lv_if_le hx hb hd ht (fun h => kt (decide_eq_true h)) (fun h => kf (fun h2 => h (of_decide_eq_true h2)))
theorem mm_ic2 {H : Heap} {locs : List Loc} {cells slots : Nat} {lsA : Array Slot} {rest : List Value} {cnd : Jvm.ClassFile.Cond} {x y : Int32} {off : Int} {tgt : Nat} (hx : p.tables.exec = Jvm.exec) (hb : c.code = cc) (hd : decode cc pc = .ok (.if_icmp cnd off, 3)) (ht : (pc : Int) + off = (tgt : Int)) (kt : mm_c2 cnd x y = true → W p l e R s m args below meth c H locs cells slots Q (F0 m tgt lsA rest)) (kf : ¬ mm_c2 cnd x y = true → W p l e R s m args below meth c H locs cells slots Q (F0 m (pc + 3) lsA rest)) : W p l e R s m args below meth c H locs cells slots Q (F0 m pc lsA (.int y :: .int x :: rest)) := by
  cases cnd with
  | eq => exact lv_icmp_eq hx hb hd ht (fun h => kt (decide_eq_true h)) (fun h => kf (fun h2 => h (of_decide_eq_true h2)))
  | ne => exact lv_icmp_ne hx hb hd ht (fun h => kt (decide_eq_true h)) (fun h => kf (fun h2 => absurd h (of_decide_eq_true h2)))
  | lt => exact lv_icmp_lt hx hb hd ht (fun h => kt (decide_eq_true h)) (fun h => kf (fun h2 => h (of_decide_eq_true h2)))
  | ge => exact lv_icmp_ge hx hb hd ht (fun h => kt (decide_eq_true h)) (fun h => kf (fun h2 => h (of_decide_eq_true h2)))
  | gt => exact lv_icmp_gt hx hb hd ht (fun h => kt (decide_eq_true h)) (fun h => kf (fun h2 => h (of_decide_eq_true h2)))
  | le => exact lv_icmp_le hx hb hd ht (fun h => kt (decide_eq_true h)) (fun h => kf (fun h2 => h (of_decide_eq_true h2)))
set_option maxHeartbeats 4000000 in
theorem mm_step1 {i : Instr} {len : Nat} {pc' : Nat} {ls' : List (Nat × Value)} {st' : List Value} {M' : mH} (C0 : mm_Cx p s m args meth c D dA o ini cc) (hml : c.maxLocals = nL) (hZ : mm_Z B sa hs s s.heap) (hC : ∀ ci, ci < 14 → va_Nw (.castable (mm_cn ci) "java/lang/Object") s) (hC2 : va_Nw (.castable "[I" "java/lang/Cloneable") s) (hs0 : s.heap.size = B + M0.1) (hRf : 1 ≤ R.frames) (hRl : 64 ≤ R.locals) (hd : decode cc pc = .ok (i, len)) (hlen : len = mm_len i len) (h : mm_st o nL ini i pc ls st M = some (pc', ls', st', M')) (h1 : M0.1 ≤ M.1) (h2 : M0.2.1 ≤ M.2.1) (hr1 : M'.1 - M0.1 ≤ R.cells) (hr2 : M'.2.1 - M0.2.1 ≤ R.slots)
    (k : mm_Go p l e R s m args below meth c Q D dA B sa hs nL M0 pc' ls' st' M') : mm_Go p l e R s m args below meth c Q D dA B sa hs nL M0 pc ls st M := by
  intro lsA H locs hl hR hB hL
  have hx := C0.1
  have hb := C0.2.1
  have hown := C0.2.2.1
  have hts := C0.2.2.2.1
  have hgo := fun (lsA : Array Slot) (hl : lv_has lsA nL (mm_rl B sa ls')) (hR : mm_R D dA B sa hs M' H) => k lsA H locs hl hR hB hL
  rw [hlen] at hd
  have hS : va_S (fun q => B ≤ q) s.heap H locs := ⟨by rw [hs0, hR.1]; omega, fun q _ h9 => hB q (Nat.lt_of_not_le h9), hL⟩
  have hml2 : c.maxLocals = lsA.size := hml.trans hl.1.symm
  cases i with
  | aconst_null => cases h; exact lv_null hx hb hd (hgo _ hl hR)
  | iconst n => cases h; exact lv_iconst hx hb hd rfl (hgo _ hl hR)
  | bipush n => cases h; exact lv_bipush hx hb hd rfl (hgo _ hl hR)
  | sipush n => cases h; exact lv_sipush hx hb hd rfl (hgo _ hl hR)
  | lconst n => cases h; exact lv_lconst hx hb hd rfl (hgo _ hl hR)
  | ldc n =>
    simp only [mm_st] at h
    split at h
    · rename_i v hv
      cases h
      exact lv_ldc hx hb hown (hts _ (mm_nrok hv)) hd (hgo _ hl hR)
    · split at h
      · rename_i v hv
        cases h
        exact mm_ldcs C0 hZ hv hd (hgo _ hl hR)
      · cases h
  | ldc_w n =>
    simp only [mm_st] at h
    split at h
    · rename_i v hv
      cases h
      exact lv_ldcw hx hb hown (hts _ (mm_nrok hv)) hd (hgo _ hl hR)
    · cases h
  | iload n =>
    simp only [mm_st] at h
    split at h
    · rename_i v hv
      cases h
      exact lv_iload hx hb hd (mm_lka hl hv) (hgo _ hl hR)
    · cases h
  | iload_n n =>
    simp only [mm_st] at h
    split at h
    · rename_i v hv
      cases h
      exact lv_iload_n hx hb hd rfl (mm_lka hl hv) (hgo _ hl hR)
    · cases h
  | lload n =>
    simp only [mm_st] at h
    split at h
    · rename_i v hv
      cases h
      exact lv_lload hx hb hd (mm_lka hl hv) (hgo _ hl hR)
    · cases h
  | lload_n n =>
    simp only [mm_st] at h
    split at h
    · rename_i v hv
      cases h
      exact lv_lload_n hx hb hd rfl (mm_lka hl hv) (hgo _ hl hR)
    · cases h
  | aload n =>
    simp only [mm_st] at h
    split at h
    · rename_i v hv
      cases h
      exact lv_aload hx hb hd (mm_lka hl hv) (hgo _ hl hR)
    · rename_i hv
      cases h
      exact lv_aloadN hx hb hd (mm_lka hl hv) (hgo _ hl hR)
    · cases h
  | aload_n n =>
    simp only [mm_st] at h
    split at h
    · rename_i v hv
      cases h
      exact lv_aload_n hx hb hd rfl (mm_lka hl hv) (hgo _ hl hR)
    · rename_i hv
      cases h
      exact lv_aload_nN hx hb hd rfl (mm_lka hl hv) (hgo _ hl hR)
    · cases h
  | istore n =>
    simp only [mm_st] at h
    split at h
    · split at h
      · rename_i hn
        cases h
        exact lv_istore hx hb hd hl hn (mm_s1r B sa ls _ (.int _)) (fun ls9 hl9 => hgo _ hl9 hR)
      · cases h
    · cases h
  | istore_n n =>
    simp only [mm_st] at h
    split at h
    · split at h
      · rename_i hn
        cases h
        exact lv_istore_n hx hb hd rfl hl hn (mm_s1r B sa ls _ (.int _)) (fun ls9 hl9 => hgo _ hl9 hR)
      · cases h
    · cases h
  | lstore n =>
    simp only [mm_st] at h
    split at h
    · split at h
      · rename_i hn
        cases h
        exact lv_lstore hx hb hd hl hn (mm_s2r B sa ls _ (.long _)) (fun ls9 hl9 => hgo _ hl9 hR)
      · cases h
    · cases h
  | lstore_n n =>
    simp only [mm_st] at h
    split at h
    · split at h
      · rename_i hn
        cases h
        exact lv_lstore_n hx hb hd rfl hl hn (mm_s2r B sa ls _ (.long _)) (fun ls9 hl9 => hgo _ hl9 hR)
      · cases h
    · cases h
  | astore n =>
    simp only [mm_st] at h
    split at h
    · split at h
      · rename_i hn
        cases h
        exact lv_astore hx hb hd hl hn (mm_s1r B sa ls _ (.ref _)) (fun ls9 hl9 => hgo _ hl9 hR)
      · cases h
    · split at h
      · rename_i hn
        cases h
        exact lv_astoreN hx hb hd hl hn (mm_s1r B sa ls _ .null) (fun ls9 hl9 => hgo _ hl9 hR)
      · cases h
    · cases h
  | astore_n n =>
    simp only [mm_st] at h
    split at h
    · split at h
      · rename_i hn
        cases h
        exact lv_astore_n hx hb hd rfl hl hn (mm_s1r B sa ls _ (.ref _)) (fun ls9 hl9 => hgo _ hl9 hR)
      · cases h
    · split at h
      · rename_i hn
        cases h
        exact lv_astore_nN hx hb hd rfl hl hn (mm_s1r B sa ls _ .null) (fun ls9 hl9 => hgo _ hl9 hR)
      · cases h
    · cases h
  | iinc n k9 =>
    simp only [mm_st] at h
    split at h
    · rename_i v hv
      split at h
      · rename_i hn
        cases h
        obtain ⟨j, hj⟩ := List.getElem?_of_mem (mm_lkm (B := B) (sa := sa) hv)
        exact lv_iinc hx hb hd hl hj rfl hn (mm_s1r B sa ls _ (.int _)) (fun ls9 hl9 => hgo _ hl9 hR)
      · cases h
    · cases h
  | iadd => obtain ⟨x, y, q, rfl, h⟩ := mm_i2ok h; cases h; exact lv_iadd hx hb hd (hgo _ hl hR)
  | isub => obtain ⟨x, y, q, rfl, h⟩ := mm_i2ok h; cases h; exact lv_isub hx hb hd (hgo _ hl hR)
  | imul => obtain ⟨x, y, q, rfl, h⟩ := mm_i2ok h; cases h; exact lv_imul hx hb hd (hgo _ hl hR)
  | iand => obtain ⟨x, y, q, rfl, h⟩ := mm_i2ok h; cases h; exact lv_iand hx hb hd (hgo _ hl hR)
  | ior => obtain ⟨x, y, q, rfl, h⟩ := mm_i2ok h; cases h; exact lv_ior hx hb hd (hgo _ hl hR)
  | ixor => obtain ⟨x, y, q, rfl, h⟩ := mm_i2ok h; cases h; exact lv_ixor hx hb hd (hgo _ hl hR)
  | ishl => obtain ⟨x, y, q, rfl, h⟩ := mm_i2ok h; cases h; exact lv_ishl hx hb hd (hgo _ hl hR)
  | ishr => obtain ⟨x, y, q, rfl, h⟩ := mm_i2ok h; cases h; exact lv_ishr hx hb hd (hgo _ hl hR)
  | iushr => obtain ⟨x, y, q, rfl, h⟩ := mm_i2ok h; cases h; exact lv_iushr hx hb hd rfl (hgo _ hl hR)
  | ladd => obtain ⟨x, y, q, rfl, h⟩ := mm_l2ok h; cases h; exact lv_ladd hx hb hd (hgo _ hl hR)
  | lsub => obtain ⟨x, y, q, rfl, h⟩ := mm_l2ok h; cases h; exact lv_lsub hx hb hd (hgo _ hl hR)
  | lmul => obtain ⟨x, y, q, rfl, h⟩ := mm_l2ok h; cases h; exact lv_lmul hx hb hd (hgo _ hl hR)
  | idiv =>
    simp only [mm_st] at h
    split at h
    · split at h
      · cases h
      · rename_i hy
        cases h
        exact lv_idiv hx hb hd hy (hgo _ hl hR)
    · cases h
  | irem =>
    simp only [mm_st] at h
    split at h
    · split at h
      · cases h
      · rename_i hy
        cases h
        exact lv_irem hx hb hd hy (hgo _ hl hR)
    · cases h
  | ineg =>
    simp only [mm_st] at h
    split at h
    · cases h
      exact lv_ineg hx hb hd (hgo _ hl hR)
    · cases h
  | lcmp =>
    simp only [mm_st] at h
    split at h
    · cases h
      exact W.lcmp hx hb hd (hgo _ hl hR)
    · cases h
  | i2l =>
    simp only [mm_st] at h
    split at h
    · cases h
      exact lv_i2l hx hb hd rfl (hgo _ hl hR)
    · cases h
  | i2b =>
    simp only [mm_st] at h
    split at h
    · cases h
      exact lv_i2b hx hb hd rfl (hgo _ hl hR)
    · cases h
  | i2c =>
    simp only [mm_st] at h
    split at h
    · cases h
      exact lv_i2c hx hb hd rfl (hgo _ hl hR)
    · cases h
  | dup =>
    simp only [mm_st] at h
    split at h
    · split at h
      · rename_i hv
        cases h
        exact lv_dup hx hb hd (by rw [mm_cat]; exact hv) (hgo _ hl hR)
      · cases h
    · cases h
  | dup2 =>
    simp only [mm_st] at h
    split at h
    · split at h
      · rename_i hv
        cases h
        exact lv_dup2_11 hx hb hd (by rw [mm_cat]; exact hv.1) (by rw [mm_cat]; exact hv.2) (hgo _ hl hR)
      · cases h
    · cases h
  | pop =>
    simp only [mm_st] at h
    split at h
    · split at h
      · rename_i hv
        cases h
        exact lv_pop hx hb hd (by rw [mm_cat]; exact hv) (hgo _ hl hR)
      · cases h
    · cases h
  | goto off =>
    obtain ⟨ht, rfl, rfl, rfl⟩ := mm_jump h
    exact lv_goto hx hb hd ht (hgo _ hl hR)
  | ifCond cnd off =>
    simp only [mm_st] at h
    split at h
    · split at h
      · rename_i x r h0
        refine mm_ifz hx hb hd (Int.toNat_of_nonneg h0).symm (fun hc => ?_) (fun hc => ?_)
        · rw [if_pos hc] at h
          cases h
          exact hgo _ hl hR
        · rw [if_neg hc] at h
          cases h
          exact hgo _ hl hR
      · cases h
    · cases h
  | if_icmp cnd off =>
    simp only [mm_st] at h
    split at h
    · split at h
      · rename_i x y r h0
        refine mm_ic2 hx hb hd (Int.toNat_of_nonneg h0).symm (fun hc => ?_) (fun hc => ?_)
        · rw [if_pos hc] at h
          cases h
          exact hgo _ hl hR
        · rw [if_neg hc] at h
          cases h
          exact hgo _ hl hR
      · cases h
    · cases h
  | ifnull off =>
    simp only [mm_st] at h
    split at h
    · cases h
      exact lv_ifnull hx hb hd (hgo _ hl hR)
    · obtain ⟨ht, rfl, rfl, rfl⟩ := mm_jump h
      exact lv_ifnullN hx hb hd ht (hgo _ hl hR)
    · cases h
  | ifnonnull off =>
    simp only [mm_st] at h
    split at h
    · obtain ⟨ht, rfl, rfl, rfl⟩ := mm_jump h
      exact lv_ifnonnull hx hb hd ht (hgo _ hl hR)
    · cases h
      exact lv_ifnonnullN hx hb hd (hgo _ hl hR)
    · cases h
  | tableswitch dd lo hi offs =>
    simp only [mm_st] at h
    split at h
    · split at h
      · rename_i hc
        obtain ⟨ht, rfl, rfl, rfl⟩ := mm_jump h
        exact lv_tableOut hx hb hd hc ht (hgo _ hl hR)
      · rename_i hc
        split at h
        · rename_i off ho
          obtain ⟨ht, rfl, rfl, rfl⟩ := mm_jump h
          exact lv_tableIn hx hb hd (fun q => hc (Or.inl q)) (fun q => hc (Or.inr q)) ho ht (hgo _ hl hR)
        · cases h
    · cases h
  | getfield x =>
    simp only [mm_st] at h
    split at h
    · split at h
      · rename_i v hv
        cases h
        exact mm_get C0 hR hv hd (hgo _ hl hR)
      · split at h
        · rename_i v hv
          cases h
          exact mm_gsf C0 hR hZ hS hv hd (hgo _ hl hR)
        · cases h
    · cases h
  | putfield x =>
    simp only [mm_st] at h
    split at h
    · split at h
      · rename_i M1 hv
        cases h
        refine mm_put C0 hR hv hd (fun H' lc hlc hR' e1 e2 hb' => ?_)
        have hk := k lsA H' (locs ++ [lc]) hl hR' (fun q hq => (hb' q hq).trans (hB q hq)) (mm_keep hL hlc)
        rw [e1, e2] at hk
        exact hk
      · cases h
    · cases h
  | iaload =>
    simp only [mm_st] at h
    split at h
    · split at h
      · rename_i v hv
        cases h
        exact mm_iald C0 hR hZ hS hv hd (hgo _ hl hR)
      · cases h
    · cases h
  | baload =>
    simp only [mm_st] at h
    split at h
    · split at h
      · rename_i v hv
        cases h
        exact mm_bald C0 hR hZ hS hv hd (hgo _ hl hR)
      · cases h
    · cases h
  | iastore =>
    simp only [mm_st] at h
    split at h
    · split at h
      · rename_i M1 hv
        cases h
        refine mm_iast C0 hR hv hd (fun H' lc hlc hR' e1 e2 hb' => ?_)
        have hk := k lsA H' (locs ++ [lc]) hl hR' (fun q hq => (hb' q hq).trans (hB q hq)) (mm_keep hL hlc)
        rw [e1, e2] at hk
        exact hk
      · cases h
    · cases h
  | bastore =>
    simp only [mm_st] at h
    split at h
    · split at h
      · rename_i M1 hv
        cases h
        refine mm_bast C0 hR hv hd (fun H' lc hlc hR' e1 e2 hb' => ?_)
        have hk := k lsA H' (locs ++ [lc]) hl hR' (fun q hq => (hb' q hq).trans (hB q hq)) (mm_keep hL hlc)
        rw [e1, e2] at hk
        exact hk
      · cases h
    · cases h
  | aaload =>
    simp only [mm_st] at h
    split at h
    · split at h
      · rename_i v hv
        cases h
        exact mm_aald C0 hR hv hd (hgo _ hl hR)
      · cases h
    · cases h
  | arraylength =>
    simp only [mm_st] at h
    split at h
    · split at h
      · rename_i v hv
        cases h
        exact mm_alen C0 hR hZ hS hv hd (hgo _ hl hR)
      · cases h
    · cases h
  | newarray t =>
    simp only [mm_st] at h
    split at h
    · split at h
      · rename_i u hu
        split at h
        · rename_i hc
          obtain ⟨hn, hn2, hM⟩ := hc
          cases h
          simp only [mm_al] at hr1 hr2
          refine mm_newr C0 hR hu hn hn2 hM (by rw [mm_blow h1]; exact hr1) (by rw [mm_blow2 h2]; exact hr2) hd (fun H' hR' hb' => ?_)
          have hk := k lsA H' locs hl hR' (fun q hq => (hb' q hq).trans (hB q hq)) hL
          simp only [mm_al] at hk
          rw [mm_blow h1, mm_blow2 h2]
          exact hk
        · cases h
      · cases h
    · cases h
  | new x =>
    simp only [mm_st] at h
    split at h
    · rename_i ci hci
      split at h
      · rename_i hM
        cases h
        simp only [mm_al] at hr1 hr2
        refine mm_newo C0 hR hci hM (by rw [mm_blow h1]; exact hr1) (by rw [mm_blow2 h2]; exact hr2) hd (fun H' hR' hb' => ?_)
        have hk := k lsA H' locs hl hR' (fun q hq => (hb' q hq).trans (hB q hq)) hL
        simp only [mm_al] at hk
        rw [mm_blow h1, mm_blow2 h2]
        exact hk
      · cases h
    · cases h
  | checkcast x =>
    simp only [mm_st] at h
    split at h
    · cases h
      exact lv_castN hx hb hd (hgo _ hl hR)
    · split at h
      · rename_i ha
        split at h
        · rename_i c9 fs hM
          split at h
          · rename_i hci
            cases h
            exact mm_cast C0 hR hci ha hM hd (hgo _ hl hR)
          · cases h
        · rename_i u n f hM
          split at h
          · rename_i hci
            cases h
            exact mm_castA C0 hR hci ha hM (Or.inl ⟨_, _, rfl⟩) hd (hgo _ hl hR)
          · cases h
        · rename_i u n f hM
          split at h
          · rename_i hci
            cases h
            exact mm_castA C0 hR hci ha hM (Or.inr ⟨_, _, rfl⟩) hd (hgo _ hl hR)
          · cases h
        · cases h
      · cases h
    · cases h
  | multianewarray x dm =>
    simp only [mm_st] at h
    split at h
    · split at h
      · rename_i hc
        obtain ⟨rfl, hmn, hn, hk9, hn2, hk2, hM⟩ := hc
        cases h
        simp only [mm_al2] at hr1 hr2
        refine mm_multi C0 hR hZ hmn hn hk9 hn2 hk2 hM (by omega) (by omega) hd (fun H' hR' hb' => ?_)
        have hkk := k lsA H' locs hl hR' (fun q hq => (hb' q hq).trans (hB q hq)) hL
        simp only [mm_al2] at hkk
        refine W.cs (by omega) (by omega) hkk
      · cases h
    · cases h
  | getstatic x =>
    simp only [mm_st] at h
    split at h
    · rename_i v hv
      cases h
      exact mm_gets C0 hZ hS hv hd (hgo _ hl hR)
    · cases h
  | dup_x1 =>
    simp only [mm_st] at h
    split at h
    · split at h
      · rename_i hv
        cases h
        exact lv_dup_x1 hx hb hd (by rw [mm_cat]; exact hv.1) (by rw [mm_cat]; exact hv.2) (hgo _ hl hR)
      · cases h
    · cases h
  | if_acmp cnd off =>
    simp only [mm_st] at h
    split at h
    · rename_i y x r
      split at h
      · rename_i q hq
        split at h
        · rename_i h0
          obtain ⟨rx, ry, ex, ey, hqq⟩ := mm_aqok (B := B) (sa := sa) (fun j hj => (hZ.1 j hj).1) hq
          have ht := (Int.toNat_of_nonneg h0).symm
          show W p l e R s m args below meth c H locs _ _ Q (F0 m pc lsA (mm_rv B sa y :: mm_rv B sa x :: r.map (mm_rv B sa)))
          rw [ex, ey]
          cases cnd with
          | eq =>
            refine lv_acmp_eq hx hb hd ht (fun h9 => ?_) (fun h9 => ?_)
            · rw [if_pos (hqq.mpr h9)] at h
              cases h
              exact hgo _ hl hR
            · rw [if_neg (fun z => h9 (hqq.mp z))] at h
              cases h
              exact hgo _ hl hR
          | ne =>
            refine lv_acmp_ne hx hb hd ht (fun h9 => ?_) (fun h9 => ?_)
            · rw [if_pos (by simpa using fun z => h9 (hqq.mp z))] at h
              cases h
              exact hgo _ hl hR
            · rw [if_neg (by simpa using hqq.mpr h9)] at h
              cases h
              exact hgo _ hl hR
        · cases h
      · cases h
    · cases h
  | anewarray x =>
    simp only [mm_st] at h
    split at h
    · split at h
      · rename_i hc
        obtain ⟨han, hn, hn2, hM⟩ := hc
        cases h
        simp only [mm_al] at hr1 hr2
        refine mm_newq C0 hR hZ han hn hn2 hM (by rw [mm_blow h1]; exact hr1) (by rw [mm_blow2 h2]; exact hr2) hd (fun H' hR' hb' => ?_)
        have hk := k lsA H' locs hl hR' (fun q hq => (hb' q hq).trans (hB q hq)) hL
        simp only [mm_al] at hk
        rw [mm_blow h1, mm_blow2 h2]
        exact hk
      · cases h
    · cases h
  | aastore =>
    simp only [mm_st] at h
    split at h
    · split at h
      · rename_i M1 hv
        cases h
        refine mm_aast C0 hC hR hv hd (fun H' lc hlc hR' e1 e2 hb' => ?_)
        have hk := k lsA H' (locs ++ [lc]) hl hR' (fun q hq => (hb' q hq).trans (hB q hq)) (mm_keep hL hlc)
        rw [e1, e2] at hk
        exact hk
      · cases h
    · cases h
  | invokestatic x =>
    simp only [mm_st] at h
    split at h
    · split at h
      · rename_i hc
        obtain ⟨hac, hsum⟩ := hc
        split at h
        · rename_i M1 hv
          cases h
          refine mm_copy C0 hC hml2 hR hac hv hL hRf (by rw [mm_sumr0]; have h64 : nativeFrameWords "java/lang/System" "arraycopy" 5 + 11 + 8 ≤ 64 := (by decide); omega) hd (fun H' locs' hL' hR' e1 e2 hb' => ?_)
          have hk := k lsA H' locs' hl hR' (fun q hq => (hb' q hq).trans (hB q hq)) hL'
          rw [e1, e2] at hk
          exact hk
        · cases h
      · cases h
    · cases h
  | invokevirtual x =>
    simp only [mm_st] at h
    split at h
    · split at h
      · rename_i hc
        obtain ⟨rfl, hsum, ha⟩ := hc
        split at h
        · rename_i u n f hM
          split at h
          · rename_i hc2
            obtain ⟨rfl, rfl, hM1⟩ := hc2
            cases h
            simp only [mm_al] at hr1 hr2
            refine mm_clone C0 hC2 hml2 hR ha hM hM1 hRf (by rw [mm_sumr0]; omega) (by rw [mm_blow h1]; exact hr1) (by rw [mm_blow2 h2]; exact hr2) hd (fun H' hR' hb' => ?_)
            have hk := k lsA H' locs hl hR' (fun q hq => (hb' q hq).trans (hB q hq)) hL
            simp only [mm_al] at hk
            rw [mm_blow h1, mm_blow2 h2]
            exact hk
          · cases h
        · rename_i u n f hM
          split at h
          · rename_i hc2
            obtain ⟨rfl, rfl⟩ := hc2
            cases h
            exact mm_getC C0 hml2 hR hZ ha hM hRf (by rw [mm_sumr0]; omega) hd (hgo _ hl hR)
          · cases h
        · cases h
      · cases h
    · cases h
  | _ => cases h
end MMS
