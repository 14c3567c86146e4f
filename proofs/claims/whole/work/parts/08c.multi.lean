/-! new int[n][k] -/
theorem mm_as3 {B m j : Nat} : B + m + 1 + j = B + (m + 1 + j) := by omega
theorem mm_outer (c : ClassId) (N h0 : Nat) : ∀ i : Nat, Jvm.Free.Multi.outerC c N h0 i = arrV c N (fun j => va_rf (if j < i then some (h0 + 1 + j) else none)) := by
  intro i
  induction i with
  | zero =>
    show ({ cls := c, slots := Array.replicate N .null, vm := .none } : Cell) = _
    rw [arrV_new]
    congr 1
  | succ i ih =>
    show (Jvm.Free.Multi.outerC c N h0 i).setSlot i (.ref (h0 + 1 + i)) = _
    rw [ih, arrV_store]
    congr 1
    funext j
    by_cases e : j = i
    · subst e
      rw [if_pos (Nat.lt_succ_self j)]
      simp [updV, va_rf]
    · have e2 : (j < i + 1) = (j < i) := propext ⟨fun h => by omega, fun h => by omega⟩
      simp only [updV, if_neg e, e2]
theorem mm_wm0 : Cond.classLink (mm_cn 1) 11 "[[I" ∈ mm_tb := mm_at_mem (i := 1042) (by decide +kernel)
theorem mm_wm4 : Cond.classLink (mm_cn 4) 11 "[[I" ∈ mm_tb := mm_at_mem (i := 1122) (by decide +kernel)
theorem mm_wm7 : Cond.classLink (mm_cn 7) 31 "[[I" ∈ mm_tb := mm_at_mem (i := 1213) (by decide +kernel)
section MMM
variable {p : Program} {l : Launch} {e : Env} {R : Room} {s : State} {m : MethodId} {args : Array Value} {below : List Frame} {meth : Method} {c : Code} {H : Heap} {locs : List Loc} {cells slots : Nat} {Q : State → Prop}
variable {cc : ByteArray} {pc : Nat} {ls : Array Slot} {rest : List Value} {D : va_G} {dA : Nat → Nat} {B : Nat} {sa : Nat → Nat} {hs : Nat → va_E} {M : mH} {o x : Nat} {ini : Bool}
set_option maxHeartbeats 4000000 in
theorem mm_multi (C0 : mm_Cx p s m args meth c D dA o ini cc) (hR : mm_R D dA B sa hs M H) (hZ : mm_Z B sa hs s s.heap) {n k : Int32} (h : mm_mn o x = true) (hn : ¬ n < 0) (hk : ¬ k < 0) (hn2 : n.toNatClampNeg ≤ 1000) (hk2 : k.toNatClampNeg ≤ 100000) (hM : M.1 + 1 + n.toNatClampNeg ≤ 1000000) (hcells : cells + (1 + n.toNatClampNeg) ≤ R.cells) (hslots : slots + (n.toNatClampNeg + n.toNatClampNeg * k.toNatClampNeg) ≤ R.slots) (hdg : decode cc pc = .ok (.multianewarray x 2, 4))
    (kk : ∀ H' : Heap, mm_R D dA B sa hs (mm_al2 M n.toNatClampNeg k.toNatClampNeg) H' → (∀ q, q < B → H'[q]? = H[q]?) → W p l e R s m args below meth c H' locs (cells + 1 + n.toNatClampNeg) (slots + n.toNatClampNeg + n.toNatClampNeg * k.toNatClampNeg) Q (F0 m (pc + 4) ls (.ref (mm_ro B sa M.1) :: rest))) : W p l e R s m args below meth c H locs cells slots Q (F0 m pc ls (.int k :: .int n :: rest)) := by
  obtain ⟨hx, hb, hown, hts, hK, -⟩ := C0
  have hsz := hR.1
  have hw : Cond.classLink (mm_cn o) x ("[" ++ (FieldType.array .int).toString) ∈ mm_tb := by
    unfold mm_mn at h
    simp only [Bool.or_eq_true, Bool.and_eq_true, beq_iff_eq] at h
    rcases h with (⟨rfl, rfl⟩ | ⟨rfl, rfl⟩) | ⟨rfl, rfl⟩
    · exact mm_wm0
    · exact mm_wm4
    · exact mm_wm7
  have hov := over_moved (a' := args) (Vm.Alike.refl s.vm) hZ.2.2.2.2.2.2.2.1.2
  have hA : s.vm.findClass ("[" ++ (FieldType.array .int).toString) = some (dA 4) := (hK.2 4 _ rfl).2
  have hI : s.vm.findClass (FieldType.array .int).toString = some (dA 0) := (hK.2 0 _ rfl).2
  intro T hT X
  obtain ⟨vm₁, cA, comp, -, fA, fC, -, -, X', step⟩ := X.multianewarray2F hx hown (hts _ hw) hov (hts _ mm_wI) (g := F0 m pc ls (.int k :: .int n :: rest)) rfl (by rw [hb]; exact hdg) rfl hn hk (by omega) (by show _ * 4 ≤ _; omega) (by omega) rfl rfl hcells hslots
  have ecA : cA = dA 4 := Option.some.inj (fA.symm.trans hA)
  have eco : comp = dA 0 := Option.some.inj (fC.symm.trans hI)
  subst ecA
  subst eco
  have hTh : (T.setVm vm₁).heap = H := hT
  obtain ⟨f1, f2, -, -⟩ := Jvm.Free.Multi.fill_facts (T.setVm vm₁) (dA 4) (dA 0) n.toNatClampNeg k.toNatClampNeg (defaultValue .int) n.toNatClampNeg
  have hold : ∀ q : Nat, q < H.size → (Jvm.Free.Multi.fill (T.setVm vm₁) (dA 4) (dA 0) n.toNatClampNeg k.toNatClampNeg (defaultValue .int) n.toNatClampNeg).heap[q]? = H[q]? := fun q hq => by
    have h9 := Jvm.Free.Multi.fill_old (T.setVm vm₁) (dA 4) (dA 0) n.toNatClampNeg k.toNatClampNeg (defaultValue .int) (a := q) (by rw [hTh]; exact hq) n.toNatClampNeg
    rw [hTh] at h9
    exact h9
  have hrow : ∀ j : Nat, j < n.toNatClampNeg → (Jvm.Free.Multi.fill (T.setVm vm₁) (dA 4) (dA 0) n.toNatClampNeg k.toNatClampNeg (defaultValue .int) n.toNatClampNeg).heap[H.size + 1 + j]? = some (arrV (dA 0) k.toNatClampNeg (fun _ => .int 0)) := fun j hj => by
    have h9 := Jvm.Free.Multi.fill_inner (T.setVm vm₁) (dA 4) (dA 0) n.toNatClampNeg k.toNatClampNeg (defaultValue .int) n.toNatClampNeg j hj
    rw [hTh] at h9
    rw [h9, ← arrV_new]
    rfl
  rw [hTh] at f1 f2
  rw [mm_outer] at f2
  generalize hF : Jvm.Free.Multi.fill (T.setVm vm₁) (dA 4) (dA 0) n.toNatClampNeg k.toNatClampNeg (defaultValue .int) n.toNatClampNeg = F at X' step f1 f2 hold hrow
  have hnew : mm_R D dA B sa hs (mm_al2 M n.toNatClampNeg k.toNatClampNeg) F.heap := by
    refine ⟨by rw [f1, hsz]; show _ = B + (M.1 + 1 + n.toNatClampNeg); omega, hM, fun i hi => ?_, fun j hj => ?_⟩
    · have hi' : i < M.1 + 1 + n.toNatClampNeg := hi
      show va_at D mm_cl (B + i, mm_E dA B sa (if i = M.1 then _ else if M.1 < i ∧ i < M.1 + 1 + n.toNatClampNeg then _ else M.2.2 i)) F.heap
      by_cases h1 : i = M.1
      · subst h1
        rw [if_pos rfl]
        show F.heap[B + M.1]? = some (vp_cell _ _)
        rw [← hsz, f2, vp_cell_q]
        congr 2
        funext j
        by_cases hj : j < n.toNatClampNeg
        · dsimp only
          rw [if_pos hj, if_pos hj]
          show Value.ref _ = Value.ref _
          rw [mm_roB (by omega), hsz]
          exact congrArg Value.ref mm_as3
        · dsimp only
          rw [if_neg hj, if_neg hj]
          rfl
      · rw [if_neg h1]
        by_cases h2 : M.1 < i
        · rw [if_pos ⟨h2, hi'⟩]
          show F.heap[B + i]? = some (vp_cell _ _)
          have h9 := hrow (i - M.1 - 1) (by omega)
          rw [hsz, show B + M.1 + 1 + (i - M.1 - 1) = B + i by omega] at h9
          rw [h9]
          rfl
        · rw [if_neg (fun q => h2 q.1)]
          exact (hR.2.2.1 i (by omega)).kept (hold _ (by show B + i < H.size; rw [hsz]; omega))
    · show (if 1000000 + j = M.1 then _ else if M.1 < 1000000 + j ∧ 1000000 + j < M.1 + 1 + n.toNatClampNeg then _ else M.2.2 (1000000 + j)) = hs j
      rw [if_neg (by omega), if_neg (by omega)]
      exact hR.2.2.2 j hj
  have hkk := kk F.heap hnew (fun q hq => hold q (by rw [hsz]; omega))
  rw [mm_roB (by omega), ← hsz] at hkk
  obtain ⟨t, a1, b1⟩ := hkk F rfl X'
  refine ⟨t, step t ?_, b1⟩
  have e9 : T.heap.size = H.size := by rw [hT]
  rw [e9]
  exact a1
end MMM
