/-! a step of the small machine is a step of the machine -/
theorem mm_blow {M0 M : Nat} (h : M0 ≤ M) : M - M0 + 1 = M + 1 - M0 := by omega
theorem mm_blow2 {M0 M n : Nat} (h : M0 ≤ M) : M - M0 + n = M + n - M0 := by omega
theorem mm_wI : Cond.arrayClass .int ∈ mm_tb := mm_at_mem (i := 1051) (by decide +kernel)
theorem mm_wB : Cond.arrayClass .byte ∈ mm_tb := mm_at_mem (i := 3236) (by decide +kernel)
theorem mm_wZ : Cond.arrayClass .boolean ∈ mm_tb := mm_at_mem (i := 7032) (by decide +kernel)
section MMN
variable {p : Program} {l : Launch} {e : Env} {R : Room} {s : State} {m : MethodId} {args : Array Value} {below : List Frame} {meth : Method} {c : Code} {H : Heap} {locs : List Loc} {cells slots : Nat} {Q : State → Prop}
variable {cc : ByteArray} {pc : Nat} {ls : Array Slot} {rest : List Value} {D : va_G} {dA : Nat → Nat} {B : Nat} {sa : Nat → Nat} {M : mH} {o x a : Nat} {ini : Bool}
theorem mm_newo (C0 : mm_Cx p s m args meth c D dA o ini cc) (hR : mm_R D dA B sa M H) {ci : Nat} (h : mm_kr o x = some ci) (hM : M.1 < 1000000) (hcells : cells + 1 ≤ R.cells) (hslots : slots + (mm_df ci).length ≤ R.slots) (hdg : decode cc pc = .ok (.new x, 3))
    (kk : ∀ H' : Heap, mm_R D dA B sa (mm_al M (mm_df ci).length (.inr (ci, mm_df ci))) H' → (∀ q, q < B → H'[q]? = H[q]?) → W p l e R s m args below meth c H' locs (cells + 1) (slots + (mm_df ci).length) Q (F0 m (pc + 3) ls (.ref (mm_ro B sa M.1) :: rest))) : W p l e R s m args below meth c H locs cells slots Q (F0 m pc ls rest) := by
  obtain ⟨hx, hb, hown, hts, hK, -⟩ := C0
  obtain ⟨C, T, N, hc, hw1, hw2, hw3⟩ := mm_krok h
  obtain ⟨f1, f2, f3, f4, f5, f6, f7⟩ := mm_cf hc
  have hKn := hK.1 ci _ hc
  have e5 : (mm_df ci).length = N := f5
  rw [e5] at hslots kk
  refine W.newcK hx hb hown (hts _ hw1) (hts _ hw2) (hts _ hw3) rfl hdg hcells hslots hKn.2.1 rfl fun H1 kC hkC e1 z1 o1 => ?_
  have hsz := hR.1
  have hnew : mm_R D dA B sa (mm_al M N (.inr (ci, mm_df ci))) H1 := by
    refine mm_R_al hR hM z1 o1 ?_
    rw [hsz] at e1
    refine ⟨_, hc, (u_born (mm_ty ci) hts f1 hKn hkC e1 f3).to (fun j hj => ?_)⟩
    rw [f4 j hj]
    show _ = ((mm_df ci).map (mm_rv B sa)).getD j .null
    rw [List.getD_eq_getElem?_getD, List.getD_eq_getElem?_getD, List.getElem?_map]
    have hlt : j < (mm_df ci).length := by rw [e5]; exact hj
    rw [List.getElem?_eq_getElem hlt]
    simp only [Option.map_some, Option.getD_some]
    have hd : (mm_df ci)[j] = defaultValue (mm_ty ci j) := by
      rw [f4 j hj, List.getD_eq_getElem?_getD, List.getElem?_eq_getElem hlt]
      rfl
    rw [hd]
    cases mm_ty ci j <;> rfl
  have hk := kk H1 hnew (fun q hq => o1 q (by rw [hsz]; omega))
  rw [mm_roB hM, ← hsz] at hk
  exact hk
theorem mm_newr (C0 : mm_Cx p s m args meth c D dA o ini cc) (hR : mm_R D dA B sa M H) {t : ArrayType} {u : Nat} {n : Int32} (h : mm_tag t = some u) (hn : ¬ n < 0) (hn2 : n.toNatClampNeg ≤ 100000) (hM : M.1 < 1000000) (hcells : cells + 1 ≤ R.cells) (hslots : slots + n.toNatClampNeg ≤ R.slots) (hdg : decode cc pc = .ok (.newarray t, 2))
    (kk : ∀ H' : Heap, mm_R D dA B sa (mm_al M n.toNatClampNeg (.inl (u, n.toNatClampNeg, .inl (fun _ => 0)))) H' → (∀ q, q < B → H'[q]? = H[q]?) → W p l e R s m args below meth c H' locs (cells + 1) (slots + n.toNatClampNeg) Q (F0 m (pc + 2) ls (.ref (mm_ro B sa M.1) :: rest))) : W p l e R s m args below meth c H locs cells slots Q (F0 m pc ls (.int n :: rest)) := by
  obtain ⟨hx, hb, hown, hts, hK, -⟩ := C0
  have hsz := hR.1
  have hw : Cond.arrayClass (newarray.typeOf t) ∈ mm_tb ∧ newarray.typeOf t ∈ [FieldType.int, .byte, .boolean] ∧ (s.vm.findClass ("[" ++ (newarray.typeOf t).toString) = some (dA u)) ∧ (.int 0 = defaultValue (newarray.typeOf t)) := by
    cases t with
    | int => cases h; exact ⟨mm_wI, by decide, (hK.2 0 _ rfl).2, rfl⟩
    | byte => cases h; exact ⟨mm_wB, by decide, (hK.2 1 _ rfl).2, rfl⟩
    | boolean => cases h; exact ⟨mm_wZ, by decide, (hK.2 2 _ rfl).2, rfl⟩
    | _ => cases h
  obtain ⟨hw1, hw2, hw3, hw4⟩ := hw
  have hcb : componentBytes (newarray.typeOf t) ≤ 4 := by
    cases t with
    | int => decide
    | byte => decide
    | boolean => decide
    | _ => cases h
  refine va_newaK hx hb (hts _ hw1) rfl hdg rfl hn rfl (Nat.le_trans (Nat.mul_le_mul hn2 hcb) (by decide)) hcells hslots rfl fun H1 cA e1 z1 o1 _ hfc => ?_
  have hcA : cA = dA u := Option.some.inj (hfc.symm.trans hw3)
  subst hcA
  rw [hsz] at e1
  have hnew : mm_R D dA B sa (mm_al M n.toNatClampNeg (.inl (u, n.toNatClampNeg, .inl (fun _ => 0)))) H1 := mm_R_al hR hM z1 o1 (by
    show H1[B + M.1]? = some (vp_cell _ _)
    rw [e1, ← hw4]
    rfl)
  have hk := kk H1 hnew (fun q hq => o1 q (by rw [hsz]; omega))
  rw [mm_roB hM, ← hsz] at hk
  exact hk
theorem mm_cast (C0 : mm_Cx p s m args meth c D dA o ini cc) (hR : mm_R D dA B sa M H) {ci : Nat} {fs : List Value} (h : mm_kr o x = some ci) (ha : a < M.1) (hM : M.2.2 a = .inr (ci, fs)) (hdg : decode cc pc = .ok (.checkcast x, 3))
    (kk : W p l e R s m args below meth c H locs cells slots Q (F0 m (pc + 3) ls (.ref (mm_ro B sa a) :: rest))) : W p l e R s m args below meth c H locs cells slots Q (F0 m pc ls (.ref (mm_ro B sa a) :: rest)) := by
  obtain ⟨hx, hb, hown, hts, hK, -⟩ := C0
  obtain ⟨C, T, N, hc, hw1, hw2, hw3⟩ := mm_krok h
  have hat := hR.2.2 a ha
  rw [hM] at hat
  obtain ⟨r, h1, cell, q1, q2, q3, q4⟩ := hat
  have hr : r = (C, T, N) := Option.some.inj (h1.symm.trans hc)
  subst hr
  have hKn := hK.1 ci _ hc
  rw [mm_roB (Nat.lt_of_lt_of_le ha hR.2.1)] at kk ⊢
  exact va_castS hx hb hown (hts _ hw1) hKn.2 ⟨cell, q1, by rw [q3]; rfl, by rw [q2]; exact hKn.2.1⟩ hdg kk
end MMN
