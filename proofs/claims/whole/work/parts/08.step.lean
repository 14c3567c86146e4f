/-! a step of the small machine is a step of the machine -/
theorem mm_blow {M0 M : Nat} (h : M0 ≤ M) : M - M0 + 1 = M + 1 - M0 := by omega
theorem mm_blow2 {M0 M n : Nat} (h : M0 ≤ M) : M - M0 + n = M + n - M0 := by omega
theorem mm_wI : Cond.arrayClass .int ∈ mm_tb := mm_at_mem (i := 1051) (by decide +kernel)
theorem mm_wB : Cond.arrayClass .byte ∈ mm_tb := mm_at_mem (i := 3236) (by decide +kernel)
theorem mm_wZ : Cond.arrayClass .boolean ∈ mm_tb := mm_at_mem (i := 7036) (by decide +kernel)
theorem mm_wq1 : Cond.classLink (mm_cn 6) 7 "java/lang/Object" ∈ mm_tb := mm_at_mem (i := 2234) (by decide +kernel)
theorem mm_wq2 : Cond.classLink (mm_cn 15) 2 "java/lang/Object" ∈ mm_tb := mm_at_mem (i := 2226) (by decide +kernel)
theorem mm_wk3 : Cond.classLink (mm_cn 15) 110 "[Ljava/lang/Object;" ∈ mm_tb := mm_at_mem (i := 2224) (by decide +kernel)
theorem mm_wk0 : Cond.classLink (mm_cn 15) 317 "[I" ∈ mm_tb := mm_at_mem (i := 3198) (by decide +kernel)
theorem mm_wg0 : Cond.fieldLink (mm_cn 6) 39 "java/util/ArrayList" "DEFAULTCAPACITY_EMPTY_ELEMENTDATA" "[Ljava/lang/Object;" ∈ mm_tb := mm_at_mem (i := 1165) (by decide +kernel)
theorem mm_wg1 : Cond.fieldLink (mm_cn 7) 70 "StudentSwaps$Plan" "WORTH" "[I" ∈ mm_tb := mm_at_mem (i := 4201) (by decide +kernel)
theorem mm_wg2 : Cond.fieldLink (mm_cn 22) 38 "java/lang/String" "COMPACT_STRINGS" "Z" ∈ mm_tb := mm_at_mem (i := 3096) (by decide +kernel)
theorem mm_wc1 : Cond.methodLink (mm_cn 15) 86 ⟨"java/lang/Object", "getClass", "()Ljava/lang/Class;"⟩ ∈ mm_tb := mm_at_mem (i := 2203) (by decide +kernel)
theorem mm_wc2 : Cond.selects "[Ljava/lang/Object;" ⟨"java/lang/Object", "getClass", "()Ljava/lang/Class;"⟩ ⟨"java/lang/Object", "getClass", "()Ljava/lang/Class;"⟩ ∈ mm_tb := mm_at_mem (i := 8162) (by decide +kernel)
theorem mm_wc3 : Cond.instanceMethod ⟨"java/lang/Object", "getClass", "()Ljava/lang/Class;"⟩ ∈ mm_tb := mm_at_mem (i := 2204) (by decide +kernel)
theorem mm_wc4 : Cond.native ⟨"java/lang/Object", "getClass", "()Ljava/lang/Class;"⟩ ∈ mm_tb := mm_at_mem (i := 2220) (by decide +kernel)
section MMN
variable {p : Program} {l : Launch} {e : Env} {R : Room} {s : State} {m : MethodId} {args : Array Value} {below : List Frame} {meth : Method} {c : Code} {H : Heap} {locs : List Loc} {cells slots : Nat} {Q : State → Prop}
variable {cc : ByteArray} {pc : Nat} {ls : Array Slot} {rest : List Value} {D : va_G} {dA : Nat → Nat} {B : Nat} {sa : Nat → Nat} {hs : Nat → va_E} {M : mH} {o x a : Nat} {ini : Bool}
theorem mm_newo (C0 : mm_Cx p s m args meth c D dA o ini cc) (hR : mm_R D dA B sa hs M H) {ci : Nat} (h : mm_kr o x = some ci) (hM : M.1 < 1000000) (hcells : cells + 1 ≤ R.cells) (hslots : slots + (mm_df ci).length ≤ R.slots) (hdg : decode cc pc = .ok (.new x, 3))
    (kk : ∀ H' : Heap, mm_R D dA B sa hs (mm_al M (mm_df ci).length (.inr (ci, mm_df ci))) H' → (∀ q, q < B → H'[q]? = H[q]?) → W p l e R s m args below meth c H' locs (cells + 1) (slots + (mm_df ci).length) Q (F0 m (pc + 3) ls (.ref (mm_ro B sa M.1) :: rest))) : W p l e R s m args below meth c H locs cells slots Q (F0 m pc ls rest) := by
  obtain ⟨hx, hb, hown, hts, hK, -⟩ := C0
  obtain ⟨C, T, N, hc, hw1, hw2, hw3⟩ := mm_krok h
  obtain ⟨f1, f2, f3, f4, f5, f6, f7⟩ := mm_cf hc
  have hKn := hK.1 ci _ hc
  have e5 : (mm_df ci).length = N := f5
  rw [e5] at hslots kk
  refine W.newcK hx hb hown (hts _ hw1) (hts _ hw2) (hts _ hw3) rfl hdg hcells hslots hKn.2.1 rfl fun H1 kC hkC e1 z1 o1 => ?_
  have hsz := hR.1
  have hnew : mm_R D dA B sa hs (mm_al M N (.inr (ci, mm_df ci))) H1 := by
    refine mm_R_al hR hM z1 o1 ?_
    rw [hsz] at e1
    refine ⟨_, hc, (u_born (mm_ty ci) hts f1 hKn hkC e1 f3).to (fun j hj => ?_)⟩
    rw [f4 j hj]
    show _ = ((mm_df ci).map (mm_rv B sa)).getD j .null
    rw [List.getD_eq_getElem?_getD, List.getD_eq_getElem?_getD, List.getElem?_map]
    have hlt : j < (mm_df ci).length := by rw [e5]; exact hj
    rw [List.getElem?_eq_getElem hlt]
    simp only [Option.map_some, Option.getD_some]
    have hd : (mm_df ci)[j] = defaultValue (mm_ty ci j) := by
      rw [f4 j hj, List.getD_eq_getElem?_getD, List.getElem?_eq_getElem hlt]
      rfl
    rw [hd]
    cases mm_ty ci j <;> rfl
  have hk := kk H1 hnew (fun q hq => o1 q (by rw [hsz]; omega))
  rw [mm_roB hM, ← hsz] at hk
  exact hk
theorem mm_newr (C0 : mm_Cx p s m args meth c D dA o ini cc) (hR : mm_R D dA B sa hs M H) {t : ArrayType} {u : Nat} {n : Int32} (h : mm_tag t = some u) (hn : ¬ n < 0) (hn2 : n.toNatClampNeg ≤ 100000) (hM : M.1 < 1000000) (hcells : cells + 1 ≤ R.cells) (hslots : slots + n.toNatClampNeg ≤ R.slots) (hdg : decode cc pc = .ok (.newarray t, 2))
    (kk : ∀ H' : Heap, mm_R D dA B sa hs (mm_al M n.toNatClampNeg (.inl (u, n.toNatClampNeg, .inl (fun _ => 0)))) H' → (∀ q, q < B → H'[q]? = H[q]?) → W p l e R s m args below meth c H' locs (cells + 1) (slots + n.toNatClampNeg) Q (F0 m (pc + 2) ls (.ref (mm_ro B sa M.1) :: rest))) : W p l e R s m args below meth c H locs cells slots Q (F0 m pc ls (.int n :: rest)) := by
  obtain ⟨hx, hb, hown, hts, hK, -⟩ := C0
  have hsz := hR.1
  have hw : Cond.arrayClass (newarray.typeOf t) ∈ mm_tb ∧ newarray.typeOf t ∈ [FieldType.int, .byte, .boolean] ∧ (s.vm.findClass ("[" ++ (newarray.typeOf t).toString) = some (dA u)) ∧ (.int 0 = defaultValue (newarray.typeOf t)) := by
    cases t with
    | int => cases h; exact ⟨mm_wI, by decide, (hK.2 0 _ rfl).2, rfl⟩
    | byte => cases h; exact ⟨mm_wB, by decide, (hK.2 1 _ rfl).2, rfl⟩
    | boolean => cases h; exact ⟨mm_wZ, by decide, (hK.2 2 _ rfl).2, rfl⟩
    | _ => cases h
  obtain ⟨hw1, hw2, hw3, hw4⟩ := hw
  have hcb : componentBytes (newarray.typeOf t) ≤ 4 := by
    cases t with
    | int => decide
    | byte => decide
    | boolean => decide
    | _ => cases h
  refine va_newaK hx hb (hts _ hw1) rfl hdg rfl hn rfl (Nat.le_trans (Nat.mul_le_mul hn2 hcb) (by decide)) hcells hslots rfl fun H1 cA e1 z1 o1 _ hfc => ?_
  have hcA : cA = dA u := Option.some.inj (hfc.symm.trans hw3)
  subst hcA
  rw [hsz] at e1
  have hnew : mm_R D dA B sa hs (mm_al M n.toNatClampNeg (.inl (u, n.toNatClampNeg, .inl (fun _ => 0)))) H1 := mm_R_al hR hM z1 o1 (by
    show H1[B + M.1]? = some (vp_cell _ _)
    rw [e1, ← hw4]
    rfl)
  have hk := kk H1 hnew (fun q hq => o1 q (by rw [hsz]; omega))
  rw [mm_roB hM, ← hsz] at hk
  exact hk
theorem mm_cast (C0 : mm_Cx p s m args meth c D dA o ini cc) (hR : mm_R D dA B sa hs M H) {ci : Nat} {fs : List Value} (h : mm_kr o x = some ci) (ha : a < M.1) (hM : M.2.2 a = .inr (ci, fs)) (hdg : decode cc pc = .ok (.checkcast x, 3))
    (kk : W p l e R s m args below meth c H locs cells slots Q (F0 m (pc + 3) ls (.ref (mm_ro B sa a) :: rest))) : W p l e R s m args below meth c H locs cells slots Q (F0 m pc ls (.ref (mm_ro B sa a) :: rest)) := by
  obtain ⟨hx, hb, hown, hts, hK, -⟩ := C0
  obtain ⟨C, T, N, hc, hw1, hw2, hw3⟩ := mm_krok h
  have hat := hR.2.2.1 a ha
  rw [hM] at hat
  obtain ⟨r, h1, cell, q1, q2, q3, q4⟩ := hat
  have hr : r = (C, T, N) := Option.some.inj (h1.symm.trans hc)
  subst hr
  have hKn := hK.1 ci _ hc
  rw [mm_roB (Nat.lt_of_lt_of_le ha hR.2.1)] at kk ⊢
  exact va_castS hx hb hown (hts _ hw1) hKn.2 ⟨cell, q1, by rw [q3]; rfl, by rw [q2]; exact hKn.2.1⟩ hdg kk
theorem mm_newq (C0 : mm_Cx p s m args meth c D dA o ini cc) (hR : mm_R D dA B sa hs M H) (hZ : mm_Z B sa hs s s.heap) {n : Int32} (h : mm_an o x = true) (hn : ¬ n < 0) (hn2 : n.toNatClampNeg ≤ 100000) (hM : M.1 < 1000000) (hcells : cells + 1 ≤ R.cells) (hslots : slots + n.toNatClampNeg ≤ R.slots) (hdg : decode cc pc = .ok (.anewarray x, 3))
    (kk : ∀ H' : Heap, mm_R D dA B sa hs (mm_al M n.toNatClampNeg (.inl (3, n.toNatClampNeg, .inr (.inr (.inr (.inr (fun _ => none))))))) H' → (∀ q, q < B → H'[q]? = H[q]?) → W p l e R s m args below meth c H' locs (cells + 1) (slots + n.toNatClampNeg) Q (F0 m (pc + 3) ls (.ref (mm_ro B sa M.1) :: rest))) : W p l e R s m args below meth c H locs cells slots Q (F0 m pc ls (.int n :: rest)) := by
  obtain ⟨hx, hb, hown, hts, hK, -⟩ := C0
  have hsz := hR.1
  have hw : Cond.classLink (mm_cn o) x "java/lang/Object" ∈ mm_tb := by
    unfold mm_an at h
    simp only [Bool.or_eq_true, Bool.and_eq_true, beq_iff_eq] at h
    rcases h with ⟨rfl, rfl⟩ | ⟨rfl, rfl⟩
    · exact mm_wq1
    · exact mm_wq2
  have hao := hZ.2.2.2.2.2.2.2.1.1
  obtain ⟨-, kA0, comp0, g1, g2, g3, g4⟩ := hK.2 3 _ rfl
  refine W.anew hx hb hown (hts _ hw) (va_AO.use hao) rfl hdg rfl hn (by omega) hcells hslots fun cA kA comp f1 f2 f3 f4 => ?_
  have hcA : cA = dA 3 := Option.some.inj (f1.symm.trans g4)
  subst hcA
  generalize hH1 : H.push ({ cls := dA 3, slots := Array.replicate n.toNatClampNeg .null, vm := .none } : Cell) = H1
  have z1 : H1.size = H.size + 1 := by rw [← hH1, Array.size_push]
  have e1 : H1[H.size]? = some (arrV (dA 3) n.toNatClampNeg (fun _ => .null)) := by rw [← hH1, Array.getElem?_push_size, ← arrV_new]
  have o1 : ∀ q : Nat, q < H.size → H1[q]? = H[q]? := fun q hq => by rw [← hH1, Array.getElem?_push, if_neg (Nat.ne_of_lt hq)]
  rw [hsz] at e1
  have hnew : mm_R D dA B sa hs (mm_al M n.toNatClampNeg (.inl (3, n.toNatClampNeg, .inr (.inr (.inr (.inr (fun _ => none))))))) H1 := mm_R_al hR hM z1 o1 (by
    show H1[B + M.1]? = some (vp_cell _ _)
    rw [e1]
    rfl)
  have hk := kk H1 hnew (fun q hq => o1 q (by rw [hsz]; omega))
  rw [mm_roB hM, ← hsz] at hk
  exact hk
theorem mm_objf (hK : va_K D mm_cl (mm_aty dA) s) (hC : ∀ ci, ci < 14 → va_Nw (.castable (mm_cn ci) "java/lang/Object") s) (hR : mm_R D dA B sa hs M H) {v : Nat} (h : mm_obj M v = true) : v < M.1 ∧ ∃ (cell : Cell) (kC : Class), H[B + v]? = some cell ∧ cell.vm = .none ∧ s.vm.classes[cell.cls]? = some kC ∧ ∀ comp, s.vm.findClass "java/lang/Object" = some comp → s.vm.assignable cell.cls comp = true := by
  unfold mm_obj at h
  simp only [Bool.and_eq_true, decide_eq_true_eq] at h
  obtain ⟨hv, h⟩ := h
  refine ⟨hv, ?_⟩
  have hat := hR.2.2.1 v hv
  split at h
  · rename_i c9 fs hMv
    have hc9 := of_decide_eq_true h
    rw [hMv] at hat
    obtain ⟨q, hq, cell, q1, q2, q3, q4⟩ := hat
    have hKn := hK.1 c9 _ hq
    obtain ⟨hfc, kC, hkC, -⟩ := hKn.2
    obtain ⟨c0, t1, f1, f2, f3⟩ := Cond.castable_spec (va_Nw.use (A := #[]) rfl (hC c9 hc9))
    rw [(mm_ci hq).2] at hfc
    have e0 : c0 = D.1 c9 := Option.some.inj (f1.symm.trans hfc)
    subst e0
    refine ⟨cell, kC, q1, q3, by rw [q2]; exact hkC, fun comp hcomp => ?_⟩
    rw [q2, Option.some.inj (hcomp.symm.trans f2)]
    exact f3
  · cases h
theorem mm_aast (C0 : mm_Cx p s m args meth c D dA o ini cc) (hC : ∀ ci, ci < 14 → va_Nw (.castable (mm_cn ci) "java/lang/Object") s) (hR : mm_R D dA B sa hs M H) {i : Int32} {v : Nat} {M1 : mH} (h : mm_pa M a i v = some M1) (hdg : decode cc pc = .ok (.aastore, 1))
    (kk : ∀ (H' : Heap) (lc : Loc), lc.base = B + a → mm_R D dA B sa hs M1 H' → M1.1 = M.1 → M1.2.1 = M.2.1 → (∀ q, q < B → H'[q]? = H[q]?) → W p l e R s m args below meth c H' (locs ++ [lc]) cells slots Q (F0 m (pc + 1) ls rest)) : W p l e R s m args below meth c H locs cells slots Q (F0 m pc ls (.ref (mm_ro B sa v) :: .int i :: .ref (mm_ro B sa a) :: rest)) := by
  obtain ⟨hx, hb, hown, hts, hK, -⟩ := C0
  unfold mm_pa at h
  split at h
  · rename_i hcnd
    obtain ⟨ha, hv⟩ := hcnd
    obtain ⟨hvl, cv, kC, g1, g3, hkC, hasg⟩ := mm_objf hK hC hR hv
    split at h
    · rename_i u n f hM
      split at h
      · rename_i hcnd
        obtain ⟨rfl, hin⟩ := hcnd
        have hat := hR.2.2.1 a ha
        rw [hM] at hat
        cases h
        have hlt : i.toNatClampNeg < n := Nat.not_le.mp fun q => hin (Or.inr q)
        have h0 : ¬ i < 0 := fun q => hin (Or.inl q)
        obtain ⟨kA, comp, k1, k2, k3, -⟩ := (hK.2 3 _ rfl).2
        obtain ⟨kE, hkE, -⟩ := Vm.findClass_spec k3
        rw [mm_roB (Nat.lt_of_lt_of_le ha hR.2.1), mm_roB (Nat.lt_of_lt_of_le hvl hR.2.1)]
        refine W.aast hx hb (mm_atQ hat) (fun q h => by cases h) (fun h => by cases h) k1 k2 rfl hkE ⟨h0, by show _ < (arrV _ _ _).slots.size; rw [arrV_size]; exact hlt⟩ g1 (fun q h => by rw [g3] at h; cases h) hkC (hasg _ k3) rfl rfl hdg fun H1 e z oq => ?_
        refine kk H1 _ rfl (mm_R_wr hR ha z oq ?_) rfl rfl (fun q hq => oq q (mm_neB hq))
        show H1[B + a]? = some (vp_cell _ _)
        rw [e, vp_cell_q, arrV_store]
        congr 2
        funext q
        by_cases hq : q = i.toNatClampNeg
        · subst hq
          simp [updV, va_up, va_rf, mm_roB (Nat.lt_of_lt_of_le hvl hR.2.1)]
        · simp [updV, va_up, hq]
      · cases h
    · cases h
  · cases h
theorem mm_castA (C0 : mm_Cx p s m args meth c D dA o ini cc) (hR : mm_R D dA B sa hs M H) {u : Nat} {y : vp_A} (h : mm_ka o x = some u) (ha : a < M.1) (hM : M.2.2 a = .inl (u, y)) (hy : (∃ n f, y = (n, .inl f)) ∨ ∃ n f, y = (n, .inr (.inr (.inr (.inr f))))) (hdg : decode cc pc = .ok (.checkcast x, 3))
    (kk : W p l e R s m args below meth c H locs cells slots Q (F0 m (pc + 3) ls (.ref (mm_ro B sa a) :: rest))) : W p l e R s m args below meth c H locs cells slots Q (F0 m pc ls (.ref (mm_ro B sa a) :: rest)) := by
  obtain ⟨hx, hb, hown, hts, hK, -⟩ := C0
  have hat := hR.2.2.1 a ha
  rw [hM] at hat
  have hnm : ∃ nm, Cond.classLink (mm_cn o) x nm ∈ mm_tb ∧ s.vm.findClass nm = some (dA u) := by
    unfold mm_ka at h
    split at h
    · rename_i hcnd
      obtain ⟨rfl, rfl⟩ := hcnd
      cases h
      obtain ⟨-, kA, comp, k1, k2, k3, k4⟩ := hK.2 3 _ rfl
      exact ⟨_, mm_wk3, k4⟩
    · split at h
      · rename_i hcnd
        obtain ⟨rfl, rfl⟩ := hcnd
        cases h
        exact ⟨_, mm_wk0, (hK.2 0 _ rfl).2⟩
      · cases h
  obtain ⟨nm, hw, hfc⟩ := hnm
  rw [mm_roB (Nat.lt_of_lt_of_le ha hR.2.1)] at kk ⊢
  rcases hy with ⟨n, f, rfl⟩ | ⟨n, f, rfl⟩
  · have hP : va_P D mm_cl [(B + a, .inl (dA u, n, .inl f))] H := fun k9 q hq => by
      have h0 : k9 < 1 := (List.getElem?_eq_some_iff.mp hq).1
      rw [show k9 = 0 by omega] at hq
      cases hq
      exact hat
    exact va_castA hx hb hown (hts _ hw) hP 0 rfl hfc hdg kk
  · have hP : va_P D mm_cl [(B + a, .inl (dA u, n, .inr (.inr (.inr (.inr (fun j => (f j).map (mm_ro B sa)))))))] H := fun k9 q hq => by
      have h0 : k9 < 1 := (List.getElem?_eq_some_iff.mp hq).1
      rw [show k9 = 0 by omega] at hq
      cases hq
      exact hat
    exact va_castA hx hb hown (hts _ hw) hP 0 rfl hfc hdg kk
theorem mm_gets (C0 : mm_Cx p s m args meth c D dA o ini cc) (hZ : mm_Z B sa hs s s.heap) (hS : va_S (fun q => B ≤ q) s.heap H locs) {v : Value} (h : mm_gt o x = some v) (hdg : decode cc pc = .ok (.getstatic x, 3))
    (kk : W p l e R s m args below meth c H locs cells slots Q (F0 m (pc + 3) ls (mm_rv B sa v :: rest))) : W p l e R s m args below meth c H locs cells slots Q (F0 m pc ls rest) := by
  obtain ⟨hx, hb, hown, hts, hK, -⟩ := C0
  unfold mm_gt at h
  split at h
  · rename_i hcnd
    obtain ⟨rfl, rfl⟩ := hcnd
    cases h
    have e0 : mm_rv B sa (.ref 1000000) = .ref (sa 0) := congrArg Value.ref (mm_roS (B := B) (sa := sa) (j := 0))
    rw [e0] at kk
    exact va_gets hx hb hZ.2.1 hS hown (hts _ mm_wg0) (fun _ h9 => h9) hdg kk
  · split at h
    · rename_i hcnd
      obtain ⟨rfl, rfl⟩ := hcnd
      cases h
      have e0 : mm_rv B sa (.ref 1000001) = .ref (sa 1) := congrArg Value.ref (mm_roS (B := B) (sa := sa) (j := 1))
      rw [e0] at kk
      exact va_gets hx hb hZ.2.2.1 hS hown (hts _ mm_wg1) (fun _ h9 => h9) hdg kk
    · split at h
      · rename_i hcnd
        obtain ⟨rfl, rfl⟩ := hcnd
        cases h
        exact va_gets hx hb hZ.2.2.2.1 hS hown (hts _ mm_wg2) (fun _ h9 => h9) hdg kk
      · cases h
theorem mm_ldcs (C0 : mm_Cx p s m args meth c D dA o ini cc) (hZ : mm_Z B sa hs s s.heap) {v : Nat} (h : mm_lt o x = some v) (hdg : decode cc pc = .ok (.ldc x, 2))
    (kk : W p l e R s m args below meth c H locs cells slots Q (F0 m (pc + 2) ls (.ref (mm_ro B sa v) :: rest))) : W p l e R s m args below meth c H locs cells slots Q (F0 m pc ls rest) := by
  obtain ⟨hx, hb, hown, hts, hK, -⟩ := C0
  unfold mm_lt at h
  split at h
  · rename_i hcnd
    obtain ⟨rfl, rfl⟩ := hcnd
    cases h
    rw [mm_roS (j := 2)] at kk
    exact va_ldcS hx hb hown hZ.2.2.2.2.1.1 hdg kk
  · split at h
    · rename_i hcnd
      obtain ⟨rfl, rfl⟩ := hcnd
      cases h
      rw [mm_roS (j := 3)] at kk
      exact va_ldcS hx hb hown hZ.2.2.2.2.1.2.1 hdg kk
    · split at h
      · rename_i hcnd
        obtain ⟨rfl, rfl⟩ := hcnd
        cases h
        rw [mm_roS (j := 4)] at kk
        exact va_ldcS hx hb hown hZ.2.2.2.2.1.2.2 hdg kk
      · split at h
        · rename_i hcnd
          obtain ⟨rfl, rfl⟩ := hcnd
          cases h
          rw [mm_roS (j := 8)] at kk
          exact va_ldcM hx hb hown (hts _ mm_wk3) hZ.2.2.2.2.2.1 hdg kk
        · cases h
theorem mm_getC (C0 : mm_Cx p s m args meth c D dA 15 ini cc) (hml : c.maxLocals = ls.size) (hR : mm_R D dA B sa hs M H) (hZ : mm_Z B sa hs s s.heap) {n : Nat} {f : Nat → Option Nat} (ha : a < M.1) (hM : M.2.2 a = .inl (3, n, .inr (.inr (.inr (.inr f))))) (hframes : 1 ≤ R.frames) (hlocals : (rest.map fun v => v.category).sum + 14 ≤ R.locals) (hdg : decode cc pc = .ok (.invokevirtual 86, 3))
    (kk : W p l e R s m args below meth c H locs cells slots Q (F0 m (pc + 3) ls (.ref (mm_ro B sa 1000008) :: rest))) : W p l e R s m args below meth c H locs cells slots Q (F0 m pc ls (.ref (mm_ro B sa a) :: rest)) := by
  obtain ⟨hx, hb, hown, hts, hK, -⟩ := C0
  have hat := hR.2.2.1 a ha
  rw [hM] at hat
  obtain ⟨-, kA, comp, k1, k2, k3, k4⟩ := hK.2 3 _ rfl
  rw [mm_roS (j := 8)] at kk
  rw [mm_roB (Nat.lt_of_lt_of_le ha hR.2.1)]
  exact va_getC (C := "[Ljava/lang/Object;") hx hb hml hown (hts _ mm_wc1) (va_Dc.use hZ.2.2.2.2.2.2.1) (hts _ mm_wc2) (hts _ mm_wc3) (hts _ mm_wc4) hZ.2.2.2.2.2.1 ⟨_, mm_atQ hat, rfl, k4⟩ hframes hlocals hdg kk
end MMN
