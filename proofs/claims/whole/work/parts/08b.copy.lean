/-! arraycopy and clone -/
theorem mm_wy0 : Cond.native arraycopyName ∈ mm_tb := mm_at_mem (i := 2232) (by decide +kernel)
theorem mm_wy1 : Cond.static arraycopyName ∈ mm_tb := mm_at_mem (i := 2231) (by decide +kernel)
theorem mm_wy2 : Cond.initialized "java/lang/System" ∈ mm_tb := mm_at_mem (i := 1017) (by decide +kernel)
theorem mm_wy3 : Cond.methodLink (mm_cn 15) 150 arraycopyName ∈ mm_tb := mm_at_mem (i := 2230) (by decide +kernel)
theorem mm_wy4 : Cond.methodLink (mm_cn 7) 107 arraycopyName ∈ mm_tb := mm_at_mem (i := 4230) (by decide +kernel)
theorem mm_wl1 : Cond.methodLink (mm_cn 15) 316 ⟨"[I", "clone", "()Ljava/lang/Object;"⟩ ∈ mm_tb := mm_at_mem (i := 3192) (by decide +kernel)
theorem mm_wl2 : Cond.sameMethod "[I" "java/lang/Object" "clone" "()Ljava/lang/Object;" ∈ mm_tb := mm_at_mem (i := 3193) (by decide +kernel)
theorem mm_wl3 : Cond.native ⟨"java/lang/Object", "clone", "()Ljava/lang/Object;"⟩ ∈ mm_tb := mm_at_mem (i := 3194) (by decide +kernel)
theorem mm_wl4 : Cond.instanceMethod ⟨"java/lang/Object", "clone", "()Ljava/lang/Object;"⟩ ∈ mm_tb := mm_at_mem (i := 3195) (by decide +kernel)
theorem mm_wl5 : Cond.selects "[I" ⟨"[I", "clone", "()Ljava/lang/Object;"⟩ ⟨"java/lang/Object", "clone", "()Ljava/lang/Object;"⟩ ∈ mm_tb := mm_at_mem (i := 3196) (by decide +kernel)
theorem mm_nn (z : Int32) (hz : ¬ z < 0) : z.toInt = (z.toNatClampNeg : Int) := by
  have hz0 : (0 : Int) ≤ z.toInt := by
    have := Int32.not_lt.mp hz
    simpa using Int32.le_iff_toInt_le.mp this
  show z.toInt = ((z.toInt.toNat : Nat) : Int)
  omega
theorem mm_cpm {ρ : Nat → Nat} (f g : Nat → Option Nat) (sp dp n : Nat) : va_cpy (fun j => (f j).map ρ) (fun j => (g j).map ρ) sp dp n = fun j => (va_cpy f g sp dp n j).map ρ := by
  funext j
  unfold va_cpy
  split <;> rfl
section MMY
variable {p : Program} {l : Launch} {e : Env} {R : Room} {s : State} {m : MethodId} {args : Array Value} {below : List Frame} {meth : Method} {c : Code} {H : Heap} {locs : List Loc} {cells slots : Nat} {Q : State → Prop}
variable {cc : ByteArray} {pc : Nat} {ls : Array Slot} {rest : List Value} {D : va_G} {dA : Nat → Nat} {B : Nat} {sa : Nat → Nat} {hs : Nat → va_E} {M : mH} {o x a b : Nat} {ini : Bool}
set_option maxHeartbeats 4000000 in
theorem mm_copy (C0 : mm_Cx p s m args meth c D dA o ini cc) (hC : ∀ ci, ci < 14 → va_Nw (.castable (mm_cn ci) "java/lang/Object") s) (hml : c.maxLocals = ls.size) (hR : mm_R D dA B sa hs M H) (hac : mm_ac o x = true) {sp dp n : Int32} {M1 : mH} (h : mm_cp M a b sp dp n = some M1) (hL : ∀ q ∈ locs, B ≤ q.base) (hframes : 1 ≤ R.frames) (hlocals : (rest.map fun v => v.category).sum + (nativeFrameWords "java/lang/System" "arraycopy" 5 + 11) ≤ R.locals) (hdg : decode cc pc = .ok (.invokestatic x, 3))
    (kk : ∀ (H' : Heap) (locs' : List Loc), (∀ q ∈ locs', B ≤ q.base) → mm_R D dA B sa hs M1 H' → M1.1 = M.1 → M1.2.1 = M.2.1 → (∀ q, q < B → H'[q]? = H[q]?) → W p l e R s m args below meth c H' locs' cells slots Q (F0 m (pc + 3) ls rest)) : W p l e R s m args below meth c H locs cells slots Q (F0 m pc ls (.int n :: .int dp :: .ref (mm_ro B sa b) :: .int sp :: .ref (mm_ro B sa a) :: rest)) := by
  obtain ⟨hx, hb, hown, hts, hK, -⟩ := C0
  have hw : Cond.methodLink (mm_cn o) x arraycopyName ∈ mm_tb := by
    unfold mm_ac at hac
    simp only [Bool.or_eq_true, Bool.and_eq_true, beq_iff_eq] at hac
    rcases hac with ⟨rfl, rfl⟩ | ⟨rfl, rfl⟩
    · exact mm_wy3
    · exact mm_wy4
  unfold mm_cp at h
  split at h
  · rename_i hcnd
    obtain ⟨ha, hb9, h1, h2, h3⟩ := hcnd
    have hata := hR.2.2.1 a ha
    have hatb := hR.2.2.1 b hb9
    rw [mm_roB (Nat.lt_of_lt_of_le ha hR.2.1), mm_roB (Nat.lt_of_lt_of_le hb9 hR.2.1)]
    split at h
    · rename_i u n0 f w n1 g hMa hMb
      split at h
      · rename_i hcnd
        obtain ⟨rfl, rfl, h4, h5⟩ := hcnd
        cases h
        rw [hMa] at hata
        rw [hMb] at hatb
        have hc0 := mm_atA hata
        have hc1 := mm_atA hatb
        intro T hT X
        obtain ⟨-, k0, hk0, cm0, hkk0⟩ := (hK.2 0 _ rfl).1 n0 (fun j => .int (f j))
        obtain ⟨-, k1, hk1, cm1, hkk1⟩ := (hK.2 0 _ rfl).1 n1 (fun j => .int (g j))
        obtain ⟨vm', X', step⟩ := X.arraycopy hx hown (hts _ hw) (hts _ mm_wy0) (hts _ mm_wy1) (hts _ mm_wy2) (src := B + a) (dst := B + b) (cs := arrV (dA 0) n0 (fun j => .int (f j))) (cd := arrV (dA 0) n1 (fun j => .int (g j))) (srcPos := sp) (destPos := dp) (n := n) (by rw [hT]; exact hc0) (by rw [hT]; exact hc1)
          (fun _ h => by cases h) (fun _ h => by cases h) (fun h => by cases h) (fun h => by cases h) hk0 hk1 hkk0 hkk1 (by simp [refKind]) h1 h2 h3
          (by rw [mm_nn sp h1, mm_nn n h3, arrV_size]; omega)
          (by rw [mm_nn dp h2, mm_nn n h3, arrV_size]; omega)
          (fun vm₁ _ i hi => by
            have e : (arrV (dA 0) n0 (fun j => .int (f j))).slots.getD (sp.toNatClampNeg + i) .null = .int (f (sp.toNatClampNeg + i)) := by
              rw [Array.getD_eq_getD_getElem?, arrV_read _ _ (by omega)]
              rfl
            refine ⟨?_, ?_⟩
            · rw [e]
              rfl
            · rw [e]
              exact trivial)
          (g := F0 m pc ls (.int n :: .int dp :: .ref (B + b) :: .int sp :: .ref (B + a) :: rest)) rfl (by rw [hml]) (rest := rest) rfl (by rw [hb]; exact hdg) hframes (by show 2 * 0 + _ + _ ≤ _; omega)
        have e1 : copied (arrV (dA 0) n0 (fun j => .int (f j))) (arrV (dA 0) n1 (fun j => .int (g j))) sp dp n = arrV (dA 0) n1 (fun j => .int (va_cpy f g sp.toNatClampNeg dp.toNatClampNeg n.toNatClampNeg j)) := va_copied (fun z => .int z) (dA 0) (dA 0) f g h4
        rw [e1] at X' step
        have hl : B + b < H.size := (Array.getElem?_eq_some_iff.mp hc1).1
        generalize hcell : arrV (dA 0) n1 (fun j => Value.int (va_cpy f g sp.toNatClampNeg dp.toNatClampNeg n.toNatClampNeg j)) = cellN at X' step
        have hheap : ((T.setVm vm').setCell (B + b) cellN).heap = H.setIfInBounds (B + b) cellN := by rw [← hT]; rfl
        have oq : ∀ q : Nat, q ≠ B + b → (H.setIfInBounds (B + b) cellN)[q]? = H[q]? := fun q hq => by simp [Array.getElem?_setIfInBounds, Ne.symm hq]
        obtain ⟨t, a1, b1⟩ := kk (H.setIfInBounds (B + b) cellN) _ (fun q hq => by
            rcases List.mem_append.mp hq with h | h
            · exact hL q h
            · obtain ⟨z, -, hz⟩ := List.mem_map.mp h
              rw [← hz]
              exact Nat.le_add_right _ _) (mm_R_wr hR hb9 (by simp) oq (by
            show (H.setIfInBounds (B + b) cellN)[B + b]? = some (vp_cell _ _)
            rw [← hcell]
            simp [Array.getElem?_setIfInBounds, hl]
            rfl)) rfl rfl (fun q hq => oq q (mm_neB hq)) _ hheap X'
        exact ⟨t, step t a1, b1⟩
      · cases h
    · rename_i u n0 f w n1 g hMa hMb
      split at h
      · rename_i hcnd
        obtain ⟨rfl, rfl, h4, h5, hel⟩ := hcnd
        cases h
        rw [hMa] at hata
        rw [hMb] at hatb
        have hc0 := mm_atQ hata
        have hc1 := mm_atQ hatb
        intro T hT X
        obtain ⟨-, k0, hk0, cm0, hkk0⟩ := (hK.2 3 _ rfl).1 n0 (fun j => va_rf ((f j).map (mm_ro B sa)))
        obtain ⟨-, k1, hk1, cm1, hkk1⟩ := (hK.2 3 _ rfl).1 n1 (fun j => va_rf ((g j).map (mm_ro B sa)))
        obtain ⟨vm', X', step⟩ := X.arraycopy hx hown (hts _ hw) (hts _ mm_wy0) (hts _ mm_wy1) (hts _ mm_wy2) (src := B + a) (dst := B + b) (cs := arrV (dA 3) n0 (fun j => va_rf ((f j).map (mm_ro B sa)))) (cd := arrV (dA 3) n1 (fun j => va_rf ((g j).map (mm_ro B sa)))) (srcPos := sp) (destPos := dp) (n := n) (by rw [hT]; exact hc0) (by rw [hT]; exact hc1)
          (fun _ h => by cases h) (fun _ h => by cases h) (fun h => by cases h) (fun h => by cases h) hk0 hk1 hkk0 hkk1 rfl h1 h2 h3
          (by rw [mm_nn sp h1, mm_nn n h3, arrV_size]; omega)
          (by rw [mm_nn dp h2, mm_nn n h3, arrV_size]; omega)
          (fun vm₁ hal i hi => by
            have e : (arrV (dA 3) n0 (fun j => va_rf ((f j).map (mm_ro B sa)))).slots.getD (sp.toNatClampNeg + i) .null = va_rf ((f (sp.toNatClampNeg + i)).map (mm_ro B sa)) := by
              rw [Array.getD_eq_getD_getElem?, arrV_read _ _ (by omega)]
              rfl
            rw [e]
            have hob := List.all_eq_true.mp hel i (List.mem_range.mpr hi)
            cases hy : f (sp.toNatClampNeg + i) with
            | none => exact ⟨rfl, trivial⟩
            | some y =>
              rw [hy] at hob
              obtain ⟨hvl, cellV, kC, g1, g2, hkC, hasg⟩ := mm_objf hK hC hR hob
              obtain ⟨kA, comp, r1, r2, r3, -⟩ := (hK.2 3 _ rfl).2
              cases hk1.symm.trans r1
              cases hkk1.symm.trans r2
              obtain ⟨kE, hkE, -⟩ := Vm.findClass_spec r3
              obtain ⟨kC', hkC', -⟩ := hal.2.2 _ _ hkC
              obtain ⟨kE', hkE', -⟩ := hal.2.2 _ _ hkE
              have ey : mm_ro B sa y = B + y := mm_roB (Nat.lt_of_lt_of_le hvl hR.2.1)
              refine ⟨rfl, cellV, (show T.heap[mm_ro B sa y]? = some cellV by rw [hT, ey]; exact g1), (fun q h => by rw [g2] at h; cases h), ⟨kC', hkC'⟩, ?_, ?_⟩
              · exact ⟨kE', hkE'⟩
              · show vm₁.assignable _ _ = true
                rw [hal.assignable]
                exact hasg _ r3)
          (g := F0 m pc ls (.int n :: .int dp :: .ref (B + b) :: .int sp :: .ref (B + a) :: rest)) rfl (by rw [hml]) (rest := rest) rfl (by rw [hb]; exact hdg) hframes (by show 2 * 0 + _ + _ ≤ _; omega)
        have e1 : copied (arrV (dA 3) n0 (fun j => va_rf ((f j).map (mm_ro B sa)))) (arrV (dA 3) n1 (fun j => va_rf ((g j).map (mm_ro B sa)))) sp dp n = arrV (dA 3) n1 (fun j => va_rf ((va_cpy f g sp.toNatClampNeg dp.toNatClampNeg n.toNatClampNeg j).map (mm_ro B sa))) := by
          have h9 := va_copied (fun z => va_rf z) (dA 3) (dA 3) (dp := dp.toNatClampNeg) (n1 := n1) (fun j => (f j).map (mm_ro B sa)) (fun j => (g j).map (mm_ro B sa)) h4
          rw [mm_cpm] at h9
          exact h9
        rw [e1] at X' step
        have hl : B + b < H.size := (Array.getElem?_eq_some_iff.mp hc1).1
        generalize hcell : arrV (dA 3) n1 (fun j => va_rf ((va_cpy f g sp.toNatClampNeg dp.toNatClampNeg n.toNatClampNeg j).map (mm_ro B sa))) = cellN at X' step
        have hheap : ((T.setVm vm').setCell (B + b) cellN).heap = H.setIfInBounds (B + b) cellN := by rw [← hT]; rfl
        have oq : ∀ q : Nat, q ≠ B + b → (H.setIfInBounds (B + b) cellN)[q]? = H[q]? := fun q hq => by simp [Array.getElem?_setIfInBounds, Ne.symm hq]
        obtain ⟨t, a1, b1⟩ := kk (H.setIfInBounds (B + b) cellN) _ (fun q hq => by
            rcases List.mem_append.mp hq with h | h
            · exact hL q h
            · obtain ⟨z, -, hz⟩ := List.mem_map.mp h
              rw [← hz]
              exact Nat.le_add_right _ _) (mm_R_wr hR hb9 (by simp) oq (by
            show (H.setIfInBounds (B + b) cellN)[B + b]? = some (vp_cell _ _)
            rw [← hcell]
            simp [Array.getElem?_setIfInBounds, hl]
            rfl)) rfl rfl (fun q hq => oq q (mm_neB hq)) _ hheap X'
        exact ⟨t, step t a1, b1⟩
      · cases h
    · cases h
  · cases h
set_option maxHeartbeats 4000000 in
theorem mm_clone (C0 : mm_Cx p s m args meth c D dA 15 ini cc) (hC : va_Nw (.castable "[I" "java/lang/Cloneable") s) (hml : c.maxLocals = ls.size) (hR : mm_R D dA B sa hs M H) {n : Nat} {f : Nat → Int32} (ha : a < M.1) (hM : M.2.2 a = .inl (0, n, .inl f)) (hM1 : M.1 < 1000000) (hframes : 1 ≤ R.frames) (hlocals : (rest.map fun v => v.category).sum + 14 ≤ R.locals) (hcells : cells + 1 ≤ R.cells) (hslots : slots + n ≤ R.slots) (hdg : decode cc pc = .ok (.invokevirtual 316, 3))
    (kk : ∀ H' : Heap, mm_R D dA B sa hs (mm_al M n (.inl (0, n, .inl f))) H' → (∀ q, q < B → H'[q]? = H[q]?) → W p l e R s m args below meth c H' locs (cells + 1) (slots + n) Q (F0 m (pc + 3) ls (.ref (mm_ro B sa M.1) :: rest))) : W p l e R s m args below meth c H locs cells slots Q (F0 m pc ls (.ref (mm_ro B sa a) :: rest)) := by
  obtain ⟨hx, hb, hown, hts, hK, -⟩ := C0
  have hat := hR.2.2.1 a ha
  rw [hM] at hat
  have hc0 := mm_atA hat
  have hsz := hR.1
  have hnm : s.vm.findClass "[I" = some (dA 0) := (hK.2 0 _ rfl).2
  obtain ⟨c0, t0', f1, f2, f3⟩ := Cond.castable_spec (va_Nw.use (A := args) rfl hC)
  have e0 : c0 = dA 0 := Option.some.inj (f1.symm.trans hnm)
  subst e0
  rw [mm_roB (Nat.lt_of_lt_of_le ha hR.2.1)]
  intro T hT X
  obtain ⟨-, kA, hkA, comp, hkind⟩ := State.isArrayOf_alike X.warmed.alike ((hK.2 0 _ rfl).1 0 (fun _ => .null))
  obtain ⟨-, kS, hkS, compS, hkindS⟩ := (hK.2 0 _ rfl).1 0 (fun _ => .null)
  obtain ⟨vm', X', st⟩ := X.cloneArray hx hown (hts _ mm_wl1) (hts _ mm_wl2) (hts _ mm_wl3) (hts _ mm_wl4) (hts _ mm_wl5) (a := B + a) (cell := arrV (dA 0) n (fun j => .int (f j))) (by rw [hT]; exact hc0) (fun k h => by cases h) (fun h => by cases h) hnm f2 f3
    (fun i v hv => by
      have hi : i < n := by
        have h9 := (Array.getElem?_eq_some_iff.mp hv).1
        rw [arrV_size] at h9
        exact h9
      rw [arrV_read _ _ hi] at hv
      cases hv
      have hk' : T.vm.classes[dA 0]? = some kA := hkA
      show State.fitsSlot T (dA 0) _ i (.int (f i)) = true
      simp [State.fitsSlot, State.slotType?, hk', hkind]
      rfl)
    (g := F0 m pc ls (.ref (B + a) :: rest)) rfl (by rw [hml]) rfl (by rw [hb]; exact hdg) hframes (by show 2 * 0 + _ + 14 ≤ _; omega) hcells (by rw [arrV_size]; exact hslots) (hloader := Vm.clonesLoader_of_array hkS hkindS)
  have hce : ({ cls := (arrV (dA 0) n (fun j => Value.int (f j))).cls, slots := (arrV (dA 0) n (fun j => Value.int (f j))).slots } : Cell) = arrV (dA 0) n (fun j => .int (f j)) := rfl
  rw [hce, arrV_size] at X'
  generalize hH1 : H.push (arrV (dA 0) n (fun j => .int (f j))) = H1
  have z1 : H1.size = H.size + 1 := by rw [← hH1, Array.size_push]
  have e1 : H1[H.size]? = some (arrV (dA 0) n (fun j => .int (f j))) := by rw [← hH1, Array.getElem?_push_size]
  have o1 : ∀ q : Nat, q < H.size → H1[q]? = H[q]? := fun q hq => by rw [← hH1, Array.getElem?_push, if_neg (Nat.ne_of_lt hq)]
  rw [hsz] at e1
  have hk := kk H1 (mm_R_al hR hM1 z1 o1 e1) (fun q hq => o1 q (by rw [hsz]; omega))
  rw [mm_roB hM1, ← hsz] at hk
  obtain ⟨t, b1, b2⟩ := hk ((T.setVm vm').pushCell (arrV (dA 0) n (fun j => .int (f j)))) (by rw [← hH1, ← hT]; rfl) X'
  refine ⟨t, st t ?_, b2⟩
  rw [hce, hT]
  exact b1
end MMY
