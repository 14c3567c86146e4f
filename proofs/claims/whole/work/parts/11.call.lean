/-! a call of the small machine is a call of the machine -/
def mm_isn (w : Cond) : Bool := match w with
  | .methodLinkNest .. => true
  | .castable .. => true
  | _ => false
/-- what every state on the way knows -/
def mm_K (D : va_G) (dA : Nat → Nat) (B : Nat) (sa : Nat → Nat) (hs : Nat → va_E) (U : State) : Prop := va_K D mm_cl (mm_aty dA) U ∧ (∀ w ∈ lw_tbl, mm_isn w = true → va_Nw w U) ∧ mm_Z B sa hs U U.heap
theorem mm_K_warm {D : va_G} {dA : Nat → Nat} {B : Nat} {sa : Nat → Nat} {hs : Nat → va_E} {s U : State} (hW : s.WarmedH U.vm) (hq : ∀ a : Nat, a < B → U.heap[a]? = s.heap[a]?) (h : mm_K D dA B sa hs s) : mm_K D dA B sa hs U := by
  refine ⟨va_K.moved hW.alike h.1, fun w hw hn => ?_, mm_Z_mv hW.alike (fun own k tx a => vk_R.warm hW) hq h.2.2⟩
  have h9 := h.2.1 w hw hn
  cases w <;> first | exact va_Nw.warmM hW h9 | exact va_Nw.warmC hW h9 | (cases hn)
theorem mm_K_same {D : va_G} {dA : Nat → Nat} {B : Nat} {sa : Nat → Nat} {hs : Nat → va_E} {s U : State} (hv : s.vm = U.vm) (hh : U.heap = s.heap) (h : mm_K D dA B sa hs s) : mm_K D dA B sa hs U := by
  have hal : s.vm.Alike U.vm := by rw [hv]; exact Vm.Alike.refl U.vm
  refine ⟨va_K.moved hal h.1, fun w hw hn => ?_, mm_Z_mv hal (fun own k tx a => vk_R.same hv.symm) (fun a _ => by rw [hh]) h.2.2⟩
  have h9 := h.2.1 w hw hn
  cases w <;> first | exact va_Nw.same rfl hv h9 | (cases hn)
theorem mm_casts : (List.range 14).all (fun ci => (lw_tbl.any fun w => decide (w = .castable (mm_cn ci) "java/lang/Object"))) = true := by decide +kernel
theorem mm_castI : (lw_tbl.any fun w => decide (w = .castable "[I" "java/lang/Cloneable")) = true := by decide +kernel
theorem mm_K_cast {D : va_G} {dA : Nat → Nat} {B : Nat} {sa : Nat → Nat} {hs : Nat → va_E} {s : State} (h : mm_K D dA B sa hs s) : ∀ ci, ci < 14 → va_Nw (.castable (mm_cn ci) "java/lang/Object") s := fun ci hci => by
  have h1 := List.all_eq_true.mp mm_casts ci (List.mem_range.mpr hci)
  obtain ⟨w, hw, h2⟩ := List.any_eq_true.mp h1
  have h3 := of_decide_eq_true h2
  subst h3
  exact h.2.1 _ hw rfl
theorem mm_K_castI {D : va_G} {dA : Nat → Nat} {B : Nat} {sa : Nat → Nat} {hs : Nat → va_E} {s : State} (h : mm_K D dA B sa hs s) : va_Nw (.castable "[I" "java/lang/Cloneable") s := by
  obtain ⟨w, hw, h2⟩ := List.any_eq_true.mp mm_castI
  have h3 := of_decide_eq_true h2
  subst h3
  exact h.2.1 _ hw rfl
def mm_w (k : Nat) : List Cond := Cond.code (mm_y k) (mm_b k) (mm_nL k) (mm_re k) :: mm_tb
def mm_Pc (D : va_G) (dA : Nat → Nat) (B : Nat) (sa : Nat → Nat) (hs : Nat → va_E) (as : List Value) (M : mH) : Array Value → State → Prop := fun v U => v = (as.map (mm_rv B sa)).toArray ∧ mm_R D dA B sa hs M U.heap ∧ mm_K D dA B sa hs U
def mm_Qc (D : va_G) (dA : Nat → Nat) (B : Nat) (sa : Nat → Nat) (hs : Nat → va_E) (r : Option Value) (M' : mH) : Array Value → State → Outcome → State → Prop := fun _ st oc t => oc = .returned (r.map (mm_rv B sa)) ∧ mm_R D dA B sa hs M' t.heap ∧ ∀ q, q < B → t.heap[q]? = st.heap[q]?
def mm_rm (d mc ms : Nat) : Room := { frames := d, cells := mc, slots := ms, locals := 64 * d }
def mm_Met (l : Launch) (D : va_G) (dA : Nat → Nat) (B : Nat) (sa : Nat → Nat) (hs : Nat → va_E) (d k : Nat) (as : List Value) (M : mH) (r : Option Value) (M' : mH) : Prop :=
  Met l (mm_y k) (mm_w k) (mm_rm d (M'.1 - M.1) (M'.2.1 - M.2.1)) (mm_Pc D dA B sa hs as M) (mm_Qc D dA B sa hs r M') (M'.1 - M.1) (M'.2.1 - M.2.1) (fun q => B ≤ q)
theorem mm_blind {D : va_G} {dA : Nat → Nat} {B : Nat} {sa : Nat → Nat} {hs : Nat → va_E} {as : List Value} {M : mH} : FrameBlind (mm_Pc D dA B sa hs as M) := fun _ U g mk h => ⟨h.1, h.2.1, mm_K_same (s := U) (U := U.calling g mk _) rfl rfl h.2.2⟩
theorem mm_mek {k : Nat} (h : k < mm_ms.length) : mm_me k ∈ mm_ms := by
  unfold mm_me
  rw [List.getD_eq_getElem?_getD, List.getElem?_eq_getElem h]
  exact List.getElem_mem h
theorem mm_mef {k : Nat} (h : k < mm_ms.length) : (mm_y k).cls = mm_cn (mm_o k) ∧ plainFor (mm_y k) = true ∧ ((mm_y k).cls ≠ "java/lang/invoke/MethodHandle" ∧ (mm_y k).cls ≠ "java/lang/invoke/VarHandle" ∧ (parseMethodDescriptor (mm_y k).desc).map (fun d => d.parameters.length) = some (mm_np k)) ∧ mm_nL k ≤ 40 ∧ Cond.code (mm_y k) (mm_b k) (mm_nL k) (mm_re k) ∈ mm_tb := by
  have h1 := List.all_eq_true.mp mm_ms_ok _ (mm_mek h)
  have h2 := mm_cwa _ (mm_mek h)
  unfold mm_msok at h1
  simp only [Bool.and_eq_true, decide_eq_true_eq] at h1
  obtain ⟨⟨⟨⟨⟨⟨a1, a2⟩, a3⟩, a4⟩, a5⟩, a6⟩, a7⟩ := h1
  exact ⟨a1, a2, ⟨a3, a4, a5⟩, a6, List.mem_filter.mpr ⟨h2, a7⟩⟩
theorem mm_ms_in : mm_ms.all (fun q => !(decide (q.2.1.name = "<init>")) || decide (q.2.2.2.2.1 = none)) = true := by decide +kernel
theorem mm_initr {k : Nat} (h : k < mm_ms.length) (hn : (mm_y k).name = "<init>") : mm_re k = none := by
  have h1 := List.all_eq_true.mp mm_ms_in _ (mm_mek h)
  simp only [Bool.or_eq_true, Bool.not_eq_true', decide_eq_false_iff_not, decide_eq_true_eq] at h1
  rcases h1 with h2 | h2
  · exact absurd hn h2
  · exact h2
theorem mm_good {k : Nat} (h : k < mm_ms.length) : GoodIn mm_tb (mm_w k) := by
  intro w hw
  have hm : w ∈ mm_tb := by
    rcases List.mem_cons.mp hw with h1 | h1
    · rw [h1]
      exact (mm_mef h).2.2.2.2
    · exact h1
  exact ⟨hm, good_of_word (mm_tb_good w hm)⟩
theorem mm_crok {o x k j : Nat} (h : mm_cr o x = some (k, j)) (h7 : k ≠ 7) : j < mm_ms.length ∧ Cond.initialized (mm_y j).cls ∈ mm_tb ∧
    ((k = 0 ∧ Cond.methodLink (mm_cn o) x (mm_y j) ∈ mm_tb ∧ Cond.static (mm_y j) ∈ mm_tb) ∨ (k = 1 ∧ Cond.methodLink (mm_cn o) x (mm_y j) ∈ mm_tb ∧ Cond.instanceMethod (mm_y j) ∈ mm_tb ∧ Cond.selects (mm_y j).cls (mm_y j) (mm_y j) ∈ mm_tb) ∨
     (k = 2 ∧ Cond.methodLink (mm_cn o) x (mm_y j) ∈ mm_tb ∧ Cond.instanceMethod (mm_y j) ∈ mm_tb ∧ (mm_y j).name = "<init>") ∨ (k = 3 ∧ Cond.methodLinkNest (mm_cn o) x (mm_y j) "StudentSwaps" ∈ lw_tbl ∧ Cond.static (mm_y j) ∈ mm_tb) ∨
     (k = 5 ∧ Cond.methodLinkNest (mm_cn o) x (mm_y j) "StudentSwaps" ∈ lw_tbl ∧ Cond.instanceMethod (mm_y j) ∈ mm_tb ∧ (mm_y j).name = "<init>")) := by
  unfold mm_cr at h
  obtain ⟨e, he, h2⟩ := Option.map_eq_some_iff.mp h
  have hm := List.mem_of_find?_eq_some he
  have hp := List.find?_some he
  simp only [Bool.and_eq_true, beq_iff_eq] at hp
  have hk := List.all_eq_true.mp mm_ct_ok e hm
  obtain ⟨e1, e2, e3, e4, e5⟩ := e
  simp only [Prod.mk.injEq] at h2
  obtain ⟨rfl, rfl⟩ := h2
  obtain ⟨rfl, rfl⟩ := hp
  unfold mm_ctok at hk
  dsimp only at hk
  rw [if_neg h7] at hk
  simp only [Bool.and_eq_true, decide_eq_true_eq] at hk
  obtain ⟨⟨k1, k2⟩, k3⟩ := hk
  refine ⟨k1, mm_at_mem k2, ?_⟩
  split at k3
  · rename_i q; subst q
    simp only [Bool.and_eq_true] at k3
    exact Or.inl ⟨rfl, mm_at_mem k3.1, mm_at_mem k3.2⟩
  · split at k3
    · rename_i q; subst q
      simp only [Bool.and_eq_true] at k3
      exact Or.inr (Or.inl ⟨rfl, mm_at_mem k3.1.1, mm_at_mem k3.1.2, mm_at_mem k3.2⟩)
    · split at k3
      · rename_i q; subst q
        simp only [Bool.and_eq_true, decide_eq_true_eq] at k3
        exact Or.inr (Or.inr (Or.inl ⟨rfl, mm_at_mem k3.1.1, mm_at_mem k3.1.2, k3.2⟩))
      · split at k3
        · rename_i q; subst q
          simp only [Bool.and_eq_true] at k3
          exact Or.inr (Or.inr (Or.inr (Or.inl ⟨rfl, mm_is_mem k3.1, mm_at_mem k3.2⟩)))
        · split at k3
          · rename_i q; subst q
            simp only [Bool.and_eq_true, decide_eq_true_eq] at k3
            exact Or.inr (Or.inr (Or.inr (Or.inr ⟨rfl, mm_is_mem k3.1.1, mm_at_mem k3.1.2, k3.2⟩)))
          · cases k3
theorem mm_crok7 {o x j : Nat} (h : mm_cr o x = some (7, j)) : Cond.methodLink (mm_cn o) x objectInit ∈ mm_tb := by
  unfold mm_cr at h
  obtain ⟨e, he, h2⟩ := Option.map_eq_some_iff.mp h
  have hm := List.mem_of_find?_eq_some he
  have hp := List.find?_some he
  simp only [Bool.and_eq_true, beq_iff_eq] at hp
  have hk := List.all_eq_true.mp mm_ct_ok e hm
  obtain ⟨e1, e2, e3, e4, e5⟩ := e
  simp only [Prod.mk.injEq] at h2
  obtain ⟨rfl, rfl⟩ := h2
  obtain ⟨rfl, rfl⟩ := hp
  unfold mm_ctok at hk
  dsimp only at hk
  rw [if_pos rfl] at hk
  exact mm_at_mem hk
theorem mm_wo1 : Cond.instanceMethod objectInit ∈ mm_tb := mm_at_mem (i := 1034) (by decide +kernel)
theorem mm_wo2 : Cond.code objectInit ⟨#[0xb1]⟩ 1 none ∈ mm_tb := mm_at_mem (i := 1035) (by decide +kernel)
theorem mm_wi1 : Cond.methodLink (mm_cn 0) 113 (mm_ls "size" "()I") ∈ mm_tb := mm_at_mem (i := 2123) (by decide +kernel)
theorem mm_wi2 : Cond.methodLink (mm_cn 0) 124 (mm_ls "add" "(Ljava/lang/Object;)Z") ∈ mm_tb := mm_at_mem (i := 2170) (by decide +kernel)
theorem mm_wi3 : Cond.methodLink (mm_cn 0) 227 (mm_ls "get" "(I)Ljava/lang/Object;") ∈ mm_tb := mm_at_mem (i := 3004) (by decide +kernel)
theorem mm_wi4 : Cond.methodLink (mm_cn 9) 39 (mm_ls "size" "()I") ∈ mm_tb := mm_at_mem (i := 5110) (by decide +kernel)
theorem mm_wi5 : Cond.methodLink (mm_cn 9) 61 (mm_ls "get" "(I)Ljava/lang/Object;") ∈ mm_tb := mm_at_mem (i := 5120) (by decide +kernel)
theorem mm_wj1 : Cond.selects "java/util/ArrayList" (mm_ls "size" "()I") (mm_as "size" "()I") ∈ mm_tb := mm_at_mem (i := 2127) (by decide +kernel)
theorem mm_wj2 : Cond.selects "java/util/ArrayList" (mm_ls "add" "(Ljava/lang/Object;)Z") (mm_as "add" "(Ljava/lang/Object;)Z") ∈ mm_tb := mm_at_mem (i := 2173) (by decide +kernel)
theorem mm_wj3 : Cond.selects "java/util/ArrayList" (mm_ls "get" "(I)Ljava/lang/Object;") (mm_as "get" "(I)Ljava/lang/Object;") ∈ mm_tb := mm_at_mem (i := 3007) (by decide +kernel)
theorem mm_wm1 : Cond.instanceMethod (mm_as "size" "()I") ∈ mm_tb := mm_at_mem (i := 2129) (by decide +kernel)
theorem mm_wm2 : Cond.instanceMethod (mm_as "add" "(Ljava/lang/Object;)Z") ∈ mm_tb := mm_at_mem (i := 2175) (by decide +kernel)
theorem mm_wm3 : Cond.instanceMethod (mm_as "get" "(I)Ljava/lang/Object;") ∈ mm_tb := mm_at_mem (i := 3009) (by decide +kernel)
theorem mm_wal : Cond.initialized "java/util/ArrayList" ∈ mm_tb := mm_at_mem (i := 1010) (by decide +kernel)
theorem mm_jl : 40 < mm_ms.length := by decide +kernel
/-- the method of a list that a call by its face comes to -/
theorem mm_itok {o x j : Nat} (h : mm_it o x = some j) : j < mm_ms.length ∧ (mm_y j).cls = "java/util/ArrayList" ∧ ∃ nm : MethodName, Cond.methodLink (mm_cn o) x nm ∈ mm_tb ∧ Cond.selects "java/util/ArrayList" nm (mm_y j) ∈ mm_tb ∧ Cond.instanceMethod (mm_y j) ∈ mm_tb ∧ (nm.cls ≠ "java/lang/invoke/MethodHandle" ∧ nm.cls ≠ "java/lang/invoke/VarHandle" ∧ (parseMethodDescriptor nm.desc).map (fun d => d.parameters.length) = some (mm_np j)) ∧ ∀ (B : Nat) (sa : Nat → Nat) (hs : Nat → va_E) (U : State) (H : Heap), mm_Z B sa hs U H → va_Fw "java/util/ArrayList" nm (mm_y j) U := by
  have hj := mm_jl
  have e26 : mm_y 26 = mm_as "size" "()I" := rfl
  have e28 : mm_y 28 = mm_as "add" "(Ljava/lang/Object;)Z" := rfl
  have e40 : mm_y 40 = mm_as "get" "(I)Ljava/lang/Object;" := rfl
  have d1 : (mm_ls "size" "()I").cls ≠ "java/lang/invoke/MethodHandle" ∧ (mm_ls "size" "()I").cls ≠ "java/lang/invoke/VarHandle" ∧ (parseMethodDescriptor (mm_ls "size" "()I").desc).map (fun d => d.parameters.length) = some (mm_np 26) := ⟨by decide +kernel, by decide +kernel, by decide +kernel⟩
  have d2 : (mm_ls "add" "(Ljava/lang/Object;)Z").cls ≠ "java/lang/invoke/MethodHandle" ∧ (mm_ls "add" "(Ljava/lang/Object;)Z").cls ≠ "java/lang/invoke/VarHandle" ∧ (parseMethodDescriptor (mm_ls "add" "(Ljava/lang/Object;)Z").desc).map (fun d => d.parameters.length) = some (mm_np 28) := ⟨by decide +kernel, by decide +kernel, by decide +kernel⟩
  have d3 : (mm_ls "get" "(I)Ljava/lang/Object;").cls ≠ "java/lang/invoke/MethodHandle" ∧ (mm_ls "get" "(I)Ljava/lang/Object;").cls ≠ "java/lang/invoke/VarHandle" ∧ (parseMethodDescriptor (mm_ls "get" "(I)Ljava/lang/Object;").desc).map (fun d => d.parameters.length) = some (mm_np 40) := ⟨by decide +kernel, by decide +kernel, by decide +kernel⟩
  unfold mm_it at h
  split at h
  · rename_i hc; obtain ⟨rfl, rfl⟩ := hc; cases h
    exact ⟨by omega, rfl, _, mm_wi1, by rw [e26]; exact mm_wj1, by rw [e26]; exact mm_wm1, d1, fun _ _ _ _ _ hz => by rw [e26]; exact hz.2.2.2.2.2.2.2.2.1⟩
  · split at h
    · rename_i hc; obtain ⟨rfl, rfl⟩ := hc; cases h
      exact ⟨by omega, rfl, _, mm_wi2, by rw [e28]; exact mm_wj2, by rw [e28]; exact mm_wm2, d2, fun _ _ _ _ _ hz => by rw [e28]; exact hz.2.2.2.2.2.2.2.2.2.1⟩
    · split at h
      · rename_i hc; obtain ⟨rfl, rfl⟩ := hc; cases h
        exact ⟨hj, rfl, _, mm_wi3, by rw [e40]; exact mm_wj3, by rw [e40]; exact mm_wm3, d3, fun _ _ _ _ _ hz => by rw [e40]; exact hz.2.2.2.2.2.2.2.2.2.2⟩
      · split at h
        · rename_i hc; obtain ⟨rfl, rfl⟩ := hc; cases h
          exact ⟨by omega, rfl, _, mm_wi4, by rw [e26]; exact mm_wj1, by rw [e26]; exact mm_wm1, d1, fun _ _ _ _ _ hz => by rw [e26]; exact hz.2.2.2.2.2.2.2.2.1⟩
        · split at h
          · rename_i hc; obtain ⟨rfl, rfl⟩ := hc; cases h
            exact ⟨hj, rfl, _, mm_wi5, by rw [e40]; exact mm_wj3, by rw [e40]; exact mm_wm3, d3, fun _ _ _ _ _ hz => by rw [e40]; exact hz.2.2.2.2.2.2.2.2.2.2⟩
          · cases h
section MMC
variable {p : Program} {l : Launch} {e : Env} {R : Room} {s : State} {m : MethodId} {args : Array Value} {below : List Frame} {meth : Method} {c : Code} {Q : State → Prop}
variable {cc : ByteArray} {pc : Nat} {ls : List (Nat × Value)} {st : List Value} {D : va_G} {dA : Nat → Nat} {B : Nat} {sa : Nat → Nat} {hs : Nat → va_E} {M M1 M0 : mH} {o nL : Nat} {ini : Bool}
theorem mm_ofRun {H : Heap} {locs : List Loc} {cells slots mc ms : Nat} {lsA : Array Slot} {st0 rest : List Value} {r : Option Value} {a : Array Value} (hr : va_Run p l e R s m args below meth c H locs cells slots mc ms (F0 m pc lsA st0) rest (mm_Qc D dA B sa hs r M1 a) (fun q => B ≤ q)) (hL : ∀ q ∈ locs, B ≤ q.base)
    (kk : ∀ (H' : Heap) (locs' : List Loc), mm_R D dA B sa hs M1 H' → (∀ q, q < B → H'[q]? = H[q]?) → (∀ q ∈ locs', B ≤ q.base) → W p l e R s m args below meth c H' locs' (cells + mc) (slots + ms) Q (F0 m (pc + 3) lsA ((r.map (mm_rv B sa)).toList ++ rest))) : W p l e R s m args below meth c H locs cells slots Q (F0 m pc lsA st0) := by
  intro T hT X
  obtain ⟨v, st₀, t, T', L, h0, X', hL', e1, e2, ⟨hv, hR', hB'⟩, sst⟩ := hr T hT X
  have hv2 : v = r.map (mm_rv B sa) := Outcome.returned.inj hv
  subst hv2
  obtain ⟨t2, a1, b1⟩ := kk T'.heap (locs ++ L) (by rw [e1]; exact hR') (fun q hq => by rw [e1, hB' q hq, h0]) (fun q hq => by
    rcases List.mem_append.mp hq with h | h
    · exact hL q h
    · exact hL' q h) T' rfl X'
  exact ⟨t2, sst t2 a1, b1⟩
theorem mm_tk {na : Nat} (h : na ≤ st.length) : ((st.take na).reverse).length = na := by
  rw [List.length_reverse, List.length_take]
  omega
theorem mm_sp (na : Nat) : st.map (mm_rv B sa) = (((st.take na).reverse).map (mm_rv B sa)).reverse ++ (st.drop na).map (mm_rv B sa) := by
  rw [← List.map_reverse, List.reverse_reverse, ← List.map_append, List.take_append_drop]
theorem mm_sumr (q : List Value) : ((q.map (mm_rv B sa)).map fun v => v.category).sum = mm_sum q := by
  unfold mm_sum
  rw [List.map_map]
  congr 1
  apply List.map_congr_left
  intro v _
  exact mm_cat B sa v
theorem mm_bl3 {a b cc : Nat} (h : a ≤ b) (h2 : b ≤ cc) : b - a + (cc - b) = cc - a := by omega
set_option maxHeartbeats 4000000 in
theorem mm_call {i : Instr} {len k j d : Nat} {r : Option Value} (C0 : mm_Cx p s m args meth c D dA o ini cc) (hml : c.maxLocals = nL) (hK2 : mm_K D dA B sa hs s) (hiv : mm_iv o i = some (k, j)) (h7 : k ≠ 7) (h6 : k ≠ 6) (hd : decode cc pc = .ok (i, len)) (hlen : len = mm_len i len) (hna : mm_nas k j ≤ st.length) (hsum : mm_sum (st.drop (mm_nas k j)) ≤ 8) (hrc : mm_rc k j M (st.take (mm_nas k j)).reverse = true)
    (hM : mm_Met l D dA B sa hs d j (st.take (mm_nas k j)).reverse M r M1) (hRf : d + 1 ≤ R.frames) (hRl : 64 * (d + 1) ≤ R.locals) (h1 : mm_le M0 M) (hle : mm_le M M1) (hr1 : M1.1 - M0.1 ≤ R.cells) (hr2 : M1.2.1 - M0.2.1 ≤ R.slots)
    (kk : mm_Go p l e R s m args below meth c Q D dA B sa hs nL M0 (pc + 3) ls (r.toList ++ st.drop (mm_nas k j)) M1) : mm_Go p l e R s m args below meth c Q D dA B sa hs nL M0 pc ls st M := by
  intro lsA H locs hl hR hB hL
  have hx := C0.1
  have hb := C0.2.1
  have hown := C0.2.2.1
  have hts := C0.2.2.2.1
  have hK := C0.2.2.2.2.1
  rw [hlen] at hd
  have hx2 : ∃ x, mm_cr o x = some (k, j) ∧ ((i = .invokestatic x ∧ (k = 0 ∨ k = 3)) ∨ (i = .invokevirtual x ∧ (k = 1 ∨ k = 4)) ∨ (i = .invokespecial x ∧ (k = 2 ∨ k = 5 ∨ k = 7))) := by
    unfold mm_iv at hiv
    split at hiv
    · rename_i x
      split at hiv
      · rename_i k9 j9 hc
        split at hiv
        · rename_i hk9; cases hiv; exact ⟨x, hc, Or.inl ⟨rfl, hk9⟩⟩
        · cases hiv
      · cases hiv
    · rename_i x
      split at hiv
      · rename_i k9 j9 hc
        split at hiv
        · rename_i hk9; cases hiv; exact ⟨x, hc, Or.inr (Or.inl ⟨rfl, hk9⟩)⟩
        · cases hiv
      · cases hiv
    · rename_i x
      split at hiv
      · rename_i k9 j9 hc
        split at hiv
        · rename_i hk9; cases hiv; exact ⟨x, hc, Or.inr (Or.inr ⟨rfl, hk9⟩)⟩
        · cases hiv
      · cases hiv
    · split at hiv
      · cases hiv; exact absurd rfl h6
      · cases hiv
    · cases hiv
  obtain ⟨x, hcr, hi⟩ := hx2
  obtain ⟨hj, hini, hw⟩ := mm_crok hcr h7
  obtain ⟨f1, f2, f3, f4, f5⟩ := mm_mef hj
  have hG := mm_good hj
  have hRm : (mm_rm d (M1.1 - M.1) (M1.2.1 - M.2.1)).frames + 1 ≤ R.frames ∧ 8 + (mm_nL j + 11) + (mm_rm d (M1.1 - M.1) (M1.2.1 - M.2.1)).locals ≤ R.locals := ⟨hRf, by show 8 + (mm_nL j + 11) + 64 * d ≤ R.locals; omega⟩
  have hf : M.1 - M0.1 + (M1.1 - M.1) ≤ R.cells ∧ M.2.1 - M0.2.1 + (M1.2.1 - M.2.1) ≤ R.slots := by
    rw [mm_bl3 h1.1 hle.1, mm_bl3 h1.2 hle.2]
    exact ⟨hr1, hr2⟩
  have hS : CallFix p m c cc nL s args mm_tb (mm_cn o) := ⟨hx, hb, hml, hown, hts⟩
  have hend : ∀ (H' : Heap) (locs' : List Loc), mm_R D dA B sa hs M1 H' → (∀ q, q < B → H'[q]? = H[q]?) → (∀ q ∈ locs', B ≤ q.base) → W p l e R s m args below meth c H' locs' (M.1 - M0.1 + (M1.1 - M.1)) (M.2.1 - M0.2.1 + (M1.2.1 - M.2.1)) Q (F0 m (pc + 3) lsA ((r.map (mm_rv B sa)).toList ++ (st.drop (mm_nas k j)).map (mm_rv B sa))) := fun H' locs' hR' hB' hL' => by
    rw [mm_bl3 h1.1 hle.1, mm_bl3 h1.2 hle.2]
    have h9 := kk lsA H' locs' hl hR' (fun q hq => (hB' q hq).trans (hB q hq)) hL'
    rw [List.map_append] at h9
    have e9 : (r.map (mm_rv B sa)).toList = r.toList.map (mm_rv B sa) := by cases r <;> rfl
    rw [e9]
    exact h9
  have hpre : ∀ U : State, U.heap = H → s.WarmedH U.vm → mm_Pc D dA B sa hs (st.take (mm_nas k j)).reverse M ((((st.take (mm_nas k j)).reverse).map (mm_rv B sa)).toArray) U := fun U hU hW => ⟨rfl, by rw [hU]; exact hR, mm_K_warm hW (fun a h9 => by rw [hU]; exact hB a h9) hK2⟩
  have hroom := lv_room (m := m) (pc := pc) (ls := lsA) (rest := st.map (mm_rv B sa)) (st := (st.drop (mm_nas k j)).map (mm_rv B sa)) (by rw [mm_sumr]; exact hsum)
  have hlen9 := mm_tk hna
  have hst := mm_sp (B := B) (sa := sa) (st := st) (mm_nas k j)
  generalize hasd : (st.take (mm_nas k j)).reverse = as at hM hrc hpre hlen9 hst
  rcases hw with ⟨rfl, w1, w2⟩ | ⟨rfl, w1, w2, w3⟩ | ⟨rfl, w1, w2, w3⟩ | ⟨rfl, w1, w2⟩ | ⟨rfl, w1, w2, w3⟩
  · rcases hi with ⟨rfl, -⟩ | ⟨rfl, h9⟩ | ⟨rfl, h9⟩
    · have cw := callB_of (own := mm_cn o) (index := x) (R := R) (ws' := mm_tb) (mc := M1.1 - M.1) (ms := M1.2.1 - M.2.1) (mm_np j) hts hG rfl rfl rfl (hts _ hini) (hts _ w1) f3 hRm
      exact mm_ofRun (va_runS hS hM ⟨cw, hts _ w2⟩ ⟨mm_blind, hpre⟩ rfl (by rw [List.length_map, hlen9]; rfl) hl.1 hst hroom hd hf) hL hend
    · exact absurd h9 (by decide)
    · exact absurd h9 (by decide)
  · rcases hi with ⟨rfl, h9⟩ | ⟨rfl, -⟩ | ⟨rfl, h9⟩
    · exact absurd h9 (by decide)
    · have cw := callB_of (own := mm_cn o) (index := x) (R := R) (ws' := mm_tb) (mc := M1.1 - M.1) (ms := M1.2.1 - M.2.1) (mm_np j) hts hG rfl rfl rfl (hts _ hini) (hts _ w1) f3 hRm
      unfold mm_rc at hrc
      rw [if_pos (Or.inl rfl)] at hrc
      split at hrc
      · rename_i a as'
        simp only [Bool.and_eq_true, decide_eq_true_eq] at hrc
        obtain ⟨ha, hrc⟩ := hrc
        split at hrc
        · rename_i c9 fs hMa
          have hc9 : c9 = mm_o j := by simpa using hrc
          have hrecv : ∃ cellB : Cell, H[mm_ro B sa a]? = some cellB ∧ cellB.vm.isStatics = false ∧ s.vm.findClass (mm_y j).cls = some cellB.cls := by
            by_cases ha1 : a < M.1
            · have hat := hR.2.2.1 a ha1
              rw [hMa] at hat
              obtain ⟨q, hq, cell, q1, q2, q3, q4⟩ := hat
              have hKn := hK.1 c9 _ hq
              have hcn := (mm_ci hq).2
              have hcls : q.1 = (mm_y j).cls := by rw [f1, hcn, hc9]
              have ero : mm_ro B sa a = B + a := mm_roB (Nat.lt_of_lt_of_le ha1 hR.2.1)
              exact ⟨cell, by rw [ero]; exact q1, by rw [q3]; rfl, by rw [q2, ← hcls]; exact hKn.2.1⟩
            · have hst : mm_sta a = true ∧ mm_o j = 22 := by simp [ha1] at ha; exact ha
              obtain ⟨hst, h22⟩ := hst
              obtain ⟨n, hn, rfl⟩ := mm_st_of hst
              have hsn := hK2.2.2.1 n hn
              obtain ⟨-, hsj⟩ := hsn
              rw [← hR.2.2.2 n hn, hMa, hc9, h22] at hsj
              obtain ⟨cell, g1, g2, g3, g4⟩ := hsj.1
              have hlt := Nat.lt_of_not_le g4
              have hcy : (mm_y j).cls = "java/lang/String" := by rw [f1, h22]; rfl
              exact ⟨cell, by rw [mm_roS, hB _ hlt]; exact g1, g2, by rw [hcy]; exact g3⟩
          refine mm_ofRun (va_runV (C := (mm_y j).cls) (b := mm_ro B sa a) (As := as'.map (mm_rv B sa)) hS hM ⟨cw, hts _ w2, hts _ w3⟩ ⟨mm_blind, hrecv, hpre⟩ rfl ?_ hl.1 ?_ hroom hd hf) hL hend
          · rw [List.length_map]
            have : as'.length + 1 = mm_np j + 1 := hlen9
            omega
          · rw [show (F0 m pc lsA (st.map (mm_rv B sa))).stack = st.map (mm_rv B sa) from rfl, hst]
            simp [mm_rv]
        · cases hrc
      · cases hrc
    · exact absurd h9 (by decide)
  · rcases hi with ⟨rfl, h9⟩ | ⟨rfl, h9⟩ | ⟨rfl, -⟩
    · exact absurd h9 (by decide)
    · exact absurd h9 (by decide)
    · have hre : mm_re j = none := mm_initr hj w3
      have cw := callB_of (own := mm_cn o) (index := x) (R := R) (ws := mm_w j) (ws' := mm_tb) (mc := M1.1 - M.1) (ms := M1.2.1 - M.2.1) (bytes := mm_b j) (maxL := mm_nL j) (ret := none) (mm_np j) hts hG (by unfold mm_w; rw [hre]) rfl rfl (hts _ hini) (hts _ w1) f3 hRm
      unfold mm_rc at hrc
      rw [if_neg (by decide), if_pos (by decide)] at hrc
      split at hrc
      · rename_i a as'
        refine mm_ofRun (va_runI (b := mm_ro B sa a) (As := as'.map (mm_rv B sa)) hS hM ⟨cw, w3, hts _ w2⟩ ⟨mm_blind, hpre⟩ rfl ?_ hl.1 ?_ hroom hd hf) hL hend
        · rw [List.length_map]
          have : as'.length + 1 = mm_np j + 1 := hlen9
          omega
        · rw [show (F0 m pc lsA (st.map (mm_rv B sa))).stack = st.map (mm_rv B sa) from rfl, hst]
          simp [mm_rv]
      · cases hrc
  · rcases hi with ⟨rfl, -⟩ | ⟨rfl, h9⟩ | ⟨rfl, h9⟩
    · have cw := va_cnB (R := R) (args := args) (ws' := mm_tb) (mc := M1.1 - M.1) (ms := M1.2.1 - M.2.1) (mm_np j) hts hG rfl rfl rfl (hK2.2.1 _ w1 rfl) (hts _ hini) f3 hRm
      exact mm_ofRun (va_runSN hS hM ⟨cw, hts _ w2, trivial⟩ ⟨mm_blind, hpre⟩ rfl (by rw [List.length_map, hlen9]; rfl) hl.1 hst hroom hd hf) hL hend
    · exact absurd h9 (by decide)
    · exact absurd h9 (by decide)
  · rcases hi with ⟨rfl, h9⟩ | ⟨rfl, h9⟩ | ⟨rfl, -⟩
    · exact absurd h9 (by decide)
    · exact absurd h9 (by decide)
    · have hre : mm_re j = none := mm_initr hj w3
      have cw := va_cnB (R := R) (args := args) (ws := mm_w j) (ws' := mm_tb) (mc := M1.1 - M.1) (ms := M1.2.1 - M.2.1) (bytes := mm_b j) (maxL := mm_nL j) (ret := none) (mm_np j) hts hG (by unfold mm_w; rw [hre]) rfl rfl (hK2.2.1 _ w1 rfl) (hts _ hini) f3 hRm
      unfold mm_rc at hrc
      rw [if_neg (by decide), if_pos (by decide)] at hrc
      split at hrc
      · rename_i a as'
        refine mm_ofRun (va_runIN (b := mm_ro B sa a) (As := as'.map (mm_rv B sa)) hS hM ⟨cw, w3, hts _ w2⟩ ⟨mm_blind, hpre⟩ rfl ?_ hl.1 ?_ hroom hd hf) hL hend
        · rw [List.length_map]
          have : as'.length + 1 = mm_np j + 1 := hlen9
          omega
        · rw [show (F0 m pc lsA (st.map (mm_rv B sa))).stack = st.map (mm_rv B sa) from rfl, hst]
          simp [mm_rv]
      · cases hrc
theorem mm_ofRun5 {H : Heap} {locs : List Loc} {cells slots mc ms : Nat} {lsA : Array Slot} {st0 rest : List Value} {r : Option Value} {a : Array Value} (hr : va_Run5 p l e R s m args below meth c H locs cells slots mc ms (F0 m pc lsA st0) rest (mm_Qc D dA B sa hs r M1 a) (fun q => B ≤ q)) (hL : ∀ q ∈ locs, B ≤ q.base)
    (kk : ∀ (H' : Heap) (locs' : List Loc), mm_R D dA B sa hs M1 H' → (∀ q, q < B → H'[q]? = H[q]?) → (∀ q ∈ locs', B ≤ q.base) → W p l e R s m args below meth c H' locs' (cells + mc) (slots + ms) Q (F0 m (pc + 5) lsA ((r.map (mm_rv B sa)).toList ++ rest))) : W p l e R s m args below meth c H locs cells slots Q (F0 m pc lsA st0) := by
  intro T hT X
  obtain ⟨v, st₀, t, T', L, h0, X', hL', e1, e2, ⟨hv, hR', hB'⟩, sst⟩ := hr T hT X
  have hv2 : v = r.map (mm_rv B sa) := Outcome.returned.inj hv
  subst hv2
  obtain ⟨t2, a1, b1⟩ := kk T'.heap (locs ++ L) (by rw [e1]; exact hR') (fun q hq => by rw [e1, hB' q hq, h0]) (fun q hq => by
    rcases List.mem_append.mp hq with h | h
    · exact hL q h
    · exact hL' q h) T' rfl X'
  exact ⟨t2, sst t2 a1, b1⟩
set_option maxHeartbeats 4000000 in
theorem mm_callF {len x ct j d : Nat} {r : Option Value} (C0 : mm_Cx p s m args meth c D dA o ini cc) (hml : c.maxLocals = nL) (hK2 : mm_K D dA B sa hs s) (hit : mm_it o x = some j) (hd : decode cc pc = .ok (.invokeinterface x ct, len)) (hlen : len = mm_len (.invokeinterface x ct) len) (hna : mm_nas 6 j ≤ st.length) (hsum : mm_sum (st.drop (mm_nas 6 j)) ≤ 8) (hrc : mm_rc 6 j M (st.take (mm_nas 6 j)).reverse = true)
    (hM : mm_Met l D dA B sa hs d j (st.take (mm_nas 6 j)).reverse M r M1) (hRf : d + 1 ≤ R.frames) (hRl : 64 * (d + 1) ≤ R.locals) (h1 : mm_le M0 M) (hle : mm_le M M1) (hr1 : M1.1 - M0.1 ≤ R.cells) (hr2 : M1.2.1 - M0.2.1 ≤ R.slots)
    (kk : mm_Go p l e R s m args below meth c Q D dA B sa hs nL M0 (pc + 5) ls (r.toList ++ st.drop (mm_nas 6 j)) M1) : mm_Go p l e R s m args below meth c Q D dA B sa hs nL M0 pc ls st M := by
  intro lsA H locs hl hR hB hL
  have hx := C0.1
  have hb := C0.2.1
  have hown := C0.2.2.1
  have hts := C0.2.2.2.1
  have hK := C0.2.2.2.2.1
  rw [hlen] at hd
  obtain ⟨hj, hcy, nm, w1, w2, w3, w4, w5⟩ := mm_itok hit
  obtain ⟨f1, f2, f3, f4, f5⟩ := mm_mef hj
  have hG := mm_good hj
  have hG2 : GoodIn mm_tb (va_wsF (mm_cn o) x "java/util/ArrayList" nm (mm_y j) (mm_w j)) := by
    intro w hw
    have hm : w ∈ mm_tb := by
      unfold va_wsF at hw
      rcases List.mem_append.mp hw with h | h
      · simp only [List.mem_cons, List.not_mem_nil, or_false] at h
        rcases h with rfl | rfl | rfl | rfl
        · exact w1
        · exact w2
        · exact w3
        · rw [hcy]; exact mm_wal
      · exact (hG w h).1
    exact ⟨hm, good_of_word (mm_tb_good w hm)⟩
  have hRm : (mm_rm d (M1.1 - M.1) (M1.2.1 - M.2.1)).frames + 1 ≤ R.frames ∧ 8 + (mm_nL j + 11) + (mm_rm d (M1.1 - M.1) (M1.2.1 - M.2.1)).locals ≤ R.locals := ⟨hRf, by show 8 + (mm_nL j + 11) + 64 * d ≤ R.locals; omega⟩
  have hf : M.1 - M0.1 + (M1.1 - M.1) ≤ R.cells ∧ M.2.1 - M0.2.1 + (M1.2.1 - M.2.1) ≤ R.slots := by
    rw [mm_bl3 h1.1 hle.1, mm_bl3 h1.2 hle.2]
    exact ⟨hr1, hr2⟩
  have hS : CallFix p m c cc nL s args mm_tb (mm_cn o) := ⟨hx, hb, hml, hown, hts⟩
  have hend : ∀ (H' : Heap) (locs' : List Loc), mm_R D dA B sa hs M1 H' → (∀ q, q < B → H'[q]? = H[q]?) → (∀ q ∈ locs', B ≤ q.base) → W p l e R s m args below meth c H' locs' (M.1 - M0.1 + (M1.1 - M.1)) (M.2.1 - M0.2.1 + (M1.2.1 - M.2.1)) Q (F0 m (pc + 5) lsA ((r.map (mm_rv B sa)).toList ++ (st.drop (mm_nas 6 j)).map (mm_rv B sa))) := fun H' locs' hR' hB' hL' => by
    rw [mm_bl3 h1.1 hle.1, mm_bl3 h1.2 hle.2]
    have h9 := kk lsA H' locs' hl hR' (fun q hq => (hB' q hq).trans (hB q hq)) hL'
    rw [List.map_append] at h9
    have e9 : (r.map (mm_rv B sa)).toList = r.toList.map (mm_rv B sa) := by cases r <;> rfl
    rw [e9]
    exact h9
  have hpre : ∀ U : State, U.heap = H → s.WarmedH U.vm → mm_Pc D dA B sa hs (st.take (mm_nas 6 j)).reverse M ((((st.take (mm_nas 6 j)).reverse).map (mm_rv B sa)).toArray) U := fun U hU hW => ⟨rfl, by rw [hU]; exact hR, mm_K_warm hW (fun a h9 => by rw [hU]; exact hB a h9) hK2⟩
  have hroom := lv_room (m := m) (pc := pc) (ls := lsA) (rest := st.map (mm_rv B sa)) (st := (st.drop (mm_nas 6 j)).map (mm_rv B sa)) (by rw [mm_sumr]; exact hsum)
  have hlen9 := mm_tk hna
  have hst := mm_sp (B := B) (sa := sa) (st := st) (mm_nas 6 j)
  generalize hasd : (st.take (mm_nas 6 j)).reverse = as at hM hrc hpre hlen9 hst
  have cw := va_cwF (R := R) (ws := mm_w j) (ws' := mm_tb) (mc := M1.1 - M.1) (ms := M1.2.1 - M.2.1) (bytes := mm_b j) (maxL := mm_nL j) (ret := mm_re j) (mm_np j) hts hG2 rfl rfl rfl (w5 _ _ _ _ _ hK2.2.2) w4 hRm
  unfold mm_rc at hrc
  rw [if_pos (Or.inr (Or.inr rfl))] at hrc
  split at hrc
  · rename_i a as'
    simp only [Bool.and_eq_true] at hrc
    obtain ⟨ha, hrc⟩ := hrc
    have ha1 : a < M.1 := by simpa using ha
    split at hrc
    · rename_i c9 fs hMa
      have hc9 : c9 = mm_o j := by simpa using hrc
      have hat := hR.2.2.1 a ha1
      rw [hMa] at hat
      obtain ⟨q, hq, cell, q1, q2, q3, q4⟩ := hat
      have hKn := hK.1 c9 _ hq
      have hcn := (mm_ci hq).2
      have hcls : q.1 = "java/util/ArrayList" := by rw [← hcy, f1, hcn, hc9]
      have ero : mm_ro B sa a = B + a := mm_roB (Nat.lt_of_lt_of_le ha1 hR.2.1)
      have hat2 : ClassAt s "java/util/ArrayList" (D.1 c9) := by rw [← hcls]; exact hKn.2
      refine mm_ofRun5 (va_runF (b := mm_ro B sa a) (As := as'.map (mm_rv B sa)) hat2 hS hM cw ⟨mm_blind, ⟨cell, by rw [ero]; exact q1, by rw [q3]; rfl, by rw [q2]; exact hat2.1⟩, hpre⟩ rfl ?_ hl.1 ?_ hroom hd hf) hL hend
      · rw [List.length_map]
        have : as'.length + 1 = mm_np j + 1 := hlen9
        omega
      · rw [show (F0 m pc lsA (st.map (mm_rv B sa))).stack = st.map (mm_rv B sa) from rfl, hst]
        simp [mm_rv]
    · cases hrc
  · cases hrc
end MMC
