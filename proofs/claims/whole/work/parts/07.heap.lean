/-! the small machine's heap over the machine's own -/
def mm_aty (dA : Nat → Nat) : List (ClassId × FieldType) := [(dA 0, .int), (dA 1, .byte), (dA 2, .boolean), (dA 3, .object "java/lang/Object"), (dA 4, .array .int)]
theorem mm_roB {B : Nat} {sa : Nat → Nat} {a : Nat} (h : a < 1000000) : mm_ro B sa a = B + a := if_pos h
theorem mm_R_wr {D : va_G} {dA : Nat → Nat} {B : Nat} {sa : Nat → Nat} {hs : Nat → va_E} {M : mH} {H H' : Heap} {a : Nat} {e : va_E} (hR : mm_R D dA B sa hs M H) (ha : a < M.1) (hsz : H'.size = H.size) (hq : ∀ q, q ≠ B + a → H'[q]? = H[q]?) (hat : va_at D mm_cl (B + a, mm_E dA B sa e) H') : mm_R D dA B sa hs (mm_wr M a e) H' := by
  refine ⟨hsz.trans hR.1, hR.2.1, fun i hi => ?_, fun j hj => ?_⟩
  rotate_left
  · show va_up M.2.2 a e (1000000 + j) = hs j
    have := hR.2.1
    rw [va_up_ne _ _ (by omega)]
    exact hR.2.2.2 j hj
  show va_at D mm_cl (B + i, mm_E dA B sa (va_up M.2.2 a e i)) H'
  by_cases h : i = a
  · subst h
    rw [va_up_self]
    exact hat
  · rw [va_up_ne _ _ h]
    exact (hR.2.2.1 i hi).kept (hq _ (by show B + i ≠ B + a; omega))
theorem mm_R_al {D : va_G} {dA : Nat → Nat} {B : Nat} {sa : Nat → Nat} {hs : Nat → va_E} {M : mH} {H H' : Heap} {n : Nat} {e : va_E} (hR : mm_R D dA B sa hs M H) (h1 : M.1 < 1000000) (hsz : H'.size = H.size + 1) (hq : ∀ q, q < H.size → H'[q]? = H[q]?) (hat : va_at D mm_cl (B + M.1, mm_E dA B sa e) H') : mm_R D dA B sa hs (mm_al M n e) H' := by
  refine ⟨by rw [hsz, hR.1]; rfl, h1, fun i hi => ?_, fun j hj => ?_⟩
  rotate_left
  · show va_up M.2.2 M.1 e (1000000 + j) = hs j
    rw [va_up_ne _ _ (by omega)]
    exact hR.2.2.2 j hj
  show va_at D mm_cl (B + i, mm_E dA B sa (va_up M.2.2 M.1 e i)) H'
  by_cases h : i = M.1
  · subst h
    rw [va_up_self]
    exact hat
  · rw [va_up_ne _ _ h]
    have hi' : i < M.1 := by have h9 : i < M.1 + 1 := hi; omega
    exact (hR.2.2.1 i hi').kept (hq _ (by show B + i < H.size; rw [hR.1]; omega))
theorem mm_neB {q B a : Nat} (h : q < B) : q ≠ B + a := by omega
theorem mm_lt3 {u : Nat} (h : u < 3) : u = 0 ∨ u = 1 ∨ u = 2 := by omega
theorem mm_wr1 (M : mH) (a : Nat) (e : va_E) : (mm_wr M a e).1 = M.1 := rfl
theorem mm_rn (B : Nat) (sa : Nat → Nat) (ty : FieldType) (v : Value) (h : narrow ty v = v) : narrow ty (mm_rv B sa v) = mm_rv B sa v := by
  cases v with
  | ref a => cases ty <;> rfl
  | int x => exact h
  | long x => exact h
  | float x => exact h
  | double x => exact h
  | null => exact h
  | retAddr x => exact h
theorem mm_rfit (B : Nat) (sa : Nat → Nat) (ty : FieldType) (v : Value) (h : fits ty v = true) : fits ty (mm_rv B sa v) = true := by
  cases v with
  | ref a => cases ty <;> first | rfl | exact h
  | int x => exact h
  | long x => exact h
  | float x => exact h
  | double x => exact h
  | null => exact h
  | retAddr x => exact h
theorem mm_set_map (B : Nat) (sa : Nat → Nat) (fs : List Value) (k : Nat) (v : Value) : (fs.set k v).map (mm_rv B sa) = (fs.map (mm_rv B sa)).set k (mm_rv B sa v) := by
  rw [List.map_set]
def mm_Cx (p : Program) (s : State) (m : MethodId) (args : Array Value) (meth : Method) (c : Code) (D : va_G) (dA : Nat → Nat) (o : Nat) (ini : Bool) (cc : ByteArray) : Prop :=
  p.tables.exec = Jvm.exec ∧ c.code = cc ∧ s.vm.findClass (mm_cn o) = some m.cls ∧ (∀ w ∈ mm_tb, w.before args s = true) ∧ va_K D mm_cl (mm_aty dA) s ∧ (ini = true → meth.name = "<init>")
/-- what is known of a cell that was there before the start -/
def mm_S1 (B : Nat) (sa : Nat → Nat) (U : State) (H : Heap) (t : Nat) (e : va_E) : Prop := match e with
  | .inl (0, n, .inl f) => va_T .int t n (fun j => .int (f j)) (fun q => B ≤ q) U H
  | .inl (1, n, .inl f) => va_T .byte t n (fun j => .int (f j)) (fun q => B ≤ q) U H
  | .inl (3, n, .inr (.inr (.inr (.inr _)))) => va_T (.object "java/lang/Object") t n (fun _ => .null) (fun q => B ≤ q) U H
  | .inr (22, fs) => va_O "java/lang/String" t (fun q => B ≤ q) U H ∧ (∀ v, fs[0]? = some v → va_OF "java/lang/String" "value" "[B" (mm_rv B sa v) t (fun q => B ≤ q) U H) ∧ ∀ v, fs[1]? = some v → va_OF "java/lang/String" "coder" "B" (mm_rv B sa v) t (fun q => B ≤ q) U H
  | _ => True
theorem mm_S1_mv {B : Nat} {sa : Nat → Nat} {s U : State} {H H' : Heap} (hvm : s.vm.Alike U.vm) (hq : ∀ a : Nat, a < B → H'[a]? = H[a]?) {t : Nat} {e : va_E} (h : mm_S1 B sa s H t e) : mm_S1 B sa U H' t e := by
  have hq2 : ∀ a : Nat, a < H.size → ¬ B ≤ a → H'[a]? = H[a]? := fun a _ h => hq a (Nat.lt_of_not_le h)
  unfold mm_S1 at h ⊢
  split at h
  · exact (h.moved hvm).kept hq2
  · exact (h.moved hvm).kept hq2
  · exact (h.moved hvm).kept hq2
  · exact ⟨(h.1.moved hvm).kept hq2, fun v hv => ((h.2.1 v hv).moved hvm).kept hq2, fun v hv => ((h.2.2 v hv).moved hvm).kept hq2⟩
  · trivial
def mm_ls (n : String) (d : String) : MethodName := ⟨"java/util/List", n, d⟩
def mm_as (n : String) (d : String) : MethodName := ⟨"java/util/ArrayList", n, d⟩
/-- what is known of what was there before the start -/
def mm_Z (B : Nat) (sa : Nat → Nat) (hs : Nat → va_E) (U : State) (H : Heap) : Prop :=
  (∀ j, j < 10 → (j ≠ 8 → sa j < B) ∧ mm_S1 B sa U H (sa j) (hs j)) ∧
  va_Z "java/util/ArrayList" "DEFAULTCAPACITY_EMPTY_ELEMENTDATA" "[Ljava/lang/Object;" (.ref (sa 0)) (fun q => B ≤ q) U H ∧ va_Z "StudentSwaps$Plan" "WORTH" "[I" (.ref (sa 1)) (fun q => B ≤ q) U H ∧ va_Z "java/lang/String" "COMPACT_STRINGS" "Z" (.int 1) (fun q => B ≤ q) U H ∧
  (vk_R "StudentSwaps$TextReader" 107 "gtcs" (sa 2) U ∧ vk_R "StudentSwaps$TextReader" 109 "<>=" (sa 3) U ∧ vk_R "StudentSwaps$TextReader" 82 "nbpy" (sa 4) U) ∧
  va_Mi "[Ljava/lang/Object;" (sa 8) U ∧ va_Dc U ∧ (va_AO "java/lang/Object" U ∧ (Cond.arrayOver (.array .int)).before #[] U = true) ∧
  va_Fw "java/util/ArrayList" (mm_ls "size" "()I") (mm_as "size" "()I") U ∧ va_Fw "java/util/ArrayList" (mm_ls "add" "(Ljava/lang/Object;)Z") (mm_as "add" "(Ljava/lang/Object;)Z") U ∧ va_Fw "java/util/ArrayList" (mm_ls "get" "(I)Ljava/lang/Object;") (mm_as "get" "(I)Ljava/lang/Object;") U
theorem mm_Z_mv {B : Nat} {sa : Nat → Nat} {hs : Nat → va_E} {s U : State} {H H' : Heap} (hvm : s.vm.Alike U.vm) (hR : ∀ own k tx a, vk_R own k tx a s → vk_R own k tx a U) (hq : ∀ a : Nat, a < B → H'[a]? = H[a]?) (h : mm_Z B sa hs s H) : mm_Z B sa hs U H' := by
  have hq2 : ∀ a : Nat, a < H.size → ¬ B ≤ a → H'[a]? = H[a]? := fun a _ h => hq a (Nat.lt_of_not_le h)
  obtain ⟨h1, h2, h3, h4, ⟨h5, h6, h7⟩, h8, h9, ⟨h10, h10b⟩, h11, h12, h13⟩ := h
  exact ⟨fun j hj => ⟨(h1 j hj).1, mm_S1_mv hvm hq (h1 j hj).2⟩, (h2.moved hvm).kept hq2, (h3.moved hvm).kept hq2, (h4.moved hvm).kept hq2, ⟨hR _ _ _ _ h5, hR _ _ _ _ h6, hR _ _ _ _ h7⟩, h8.moved hvm, h9.moved hvm, ⟨h10.moved hvm, over_moved hvm h10b⟩, h11.moved ⟨by decide, by decide⟩ hvm, h12.moved ⟨by decide, by decide⟩ hvm, h13.moved ⟨by decide, by decide⟩ hvm⟩
theorem mm_st_of {a : Nat} (h : mm_sta a = true) : ∃ j, j < 10 ∧ a = 1000000 + j := by
  have h1 := of_decide_eq_true h
  exact ⟨a - 1000000, by omega, by omega⟩
theorem mm_roS {B : Nat} {sa : Nat → Nat} {j : Nat} : mm_ro B sa (1000000 + j) = sa j := by
  unfold mm_ro
  rw [if_neg (by omega), Nat.add_sub_cancel_left]
theorem mm_wsv : Cond.fieldLink (mm_cn 22) 9 "java/lang/String" "value" "[B" ∈ mm_tb := mm_at_mem (i := 8170) (by decide +kernel)
theorem mm_wsc : Cond.fieldLink (mm_cn 22) 15 "java/lang/String" "coder" "B" ∈ mm_tb := mm_at_mem (i := 8169) (by decide +kernel)
section MMH
variable {p : Program} {l : Launch} {e : Env} {R : Room} {s : State} {m : MethodId} {args : Array Value} {below : List Frame} {meth : Method} {c : Code} {H : Heap} {locs : List Loc} {cells slots : Nat} {Q : State → Prop}
variable {cc : ByteArray} {pc : Nat} {ls : Array Slot} {rest : List Value} {D : va_G} {dA : Nat → Nat} {B : Nat} {sa : Nat → Nat} {hs : Nat → va_E} {M : mH} {o x a : Nat} {ini : Bool}
theorem mm_get (C0 : mm_Cx p s m args meth c D dA o ini cc) (hR : mm_R D dA B sa hs M H) {v : Value} (h : mm_gf o x M a = some v) (hdg : decode cc pc = .ok (.getfield x, 3))
    (kk : W p l e R s m args below meth c H locs cells slots Q (F0 m (pc + 3) ls (mm_rv B sa v :: rest))) : W p l e R s m args below meth c H locs cells slots Q (F0 m pc ls (.ref (mm_ro B sa a) :: rest)) := by
  obtain ⟨hx, hb, hown, hts, hK, -⟩ := C0
  unfold mm_gf at h
  split at h
  · rename_i ci k hfr
    split at h
    · rename_i ha
      split at h
      · rename_i c9 fs hM
        split at h
        · rename_i hc9
          subst hc9
          obtain ⟨C, T, N, ref, hc, hk, hw, hsm⟩ := mm_frok hfr
          have hat := hR.2.2.1 a ha
          rw [hM] at hat
          have hP : va_P D mm_cl [(B + a, .inr (c9, fs.map (mm_rv B sa)))] H := fun k9 q hq => by
            have h0 : k9 < 1 := (List.getElem?_eq_some_iff.mp hq).1
            rw [show k9 = 0 by omega] at hq
            cases hq
            exact hat
          rw [mm_roB (Nat.lt_of_lt_of_le ha hR.2.1)]
          exact va_get hx hb hts (mm_cf hc).1 hown hK hP 0 rfl hc k hk (hts _ hw) (mm_sm hts hsm) (by rw [List.getElem?_map, h]; rfl) hdg kk
        · cases h
      · cases h
    · cases h
  · cases h
theorem mm_put (C0 : mm_Cx p s m args meth c D dA o ini cc) (hR : mm_R D dA B sa hs M H) {v : Value} {M1 : mH} (h : mm_pf o x ini M a v = some M1) (hdg : decode cc pc = .ok (.putfield x, 3))
    (kk : ∀ (H' : Heap) (lc : Loc), lc.base = B + a → mm_R D dA B sa hs M1 H' → M1.1 = M.1 → M1.2.1 = M.2.1 → (∀ q, q < B → H'[q]? = H[q]?) → W p l e R s m args below meth c H' (locs ++ [lc]) cells slots Q (F0 m (pc + 3) ls rest)) : W p l e R s m args below meth c H locs cells slots Q (F0 m pc ls (mm_rv B sa v :: .ref (mm_ro B sa a) :: rest)) := by
  obtain ⟨hx, hb, hown, hts, hK, hini⟩ := C0
  unfold mm_pf at h
  split at h
  · rename_i ci k hfr
    split at h
    · rename_i hcnd
      obtain ⟨ha, hfin, hn, hfit⟩ := hcnd
      split at h
      · rename_i c9 fs hM
        split at h
        · rename_i hc9
          obtain ⟨hc9, hkl⟩ := hc9
          subst hc9
          obtain ⟨C, T, N, ref, hc, hk, hw, hsm⟩ := mm_frok hfr
          obtain ⟨f1, f2, f3, f4, f5, f6, f7⟩ := mm_cf hc
          have hap := va_apart (own := mm_cn o) hts f1 (mm_ty c9) f3 f2 hK hc
          have hat := hR.2.2.1 a ha
          rw [hM] at hat
          obtain ⟨r, h1, cell, q1, q2, q3, q4⟩ := hat
          have hr : r = (C, T, N) := Option.some.inj (h1.symm.trans hc)
          subst hr
          obtain ⟨hS, hfc, kC, hkC, hkind⟩ := hK.1 c9 _ hc
          obtain ⟨cf, kf, fi, f, hi, hsl⟩ := hS k hk
          have hst := (u_facts hfc hkC (u_lays hts f1 hk) hi).1
          have hlay := hts _ (f1 _ (u_in_lay hk))
          have hn' := mm_rn B sa _ v hn
          have hfit' := mm_rfit B sa _ v hfit
          have hd := f3 k hk
          have hlnk := hts _ hw
          cases h
          rw [mm_roB (Nat.lt_of_lt_of_le ha hR.2.1)]
          have fin : ∀ H' : Heap, H'[B + a]? = some (cell.setSlot (D.2 c9 k) (mm_rv B sa v)) → H'.size = H.size → (∀ q, q ≠ B + a → H'[q]? = H[q]?) → mm_R D dA B sa hs (mm_wr M a (.inr (c9, fs.set k v))) H' := fun H' e1 e2 e3 => by
            refine mm_R_wr hR ha e2 e3 ?_
            show va_at D mm_cl (B + a, .inr (c9, (fs.set k v).map (mm_rv B sa))) H'
            rw [mm_set_map]
            exact ⟨_, hc, t_OB.to (V := updV (vp_V (fs.map (mm_rv B sa))) k (mm_rv B sa v)) ⟨_, e1, q2, q3, t_set q4 hap hk _⟩ (fun j _ => vp_updV_set (by rw [List.length_map]; exact hkl) _ j)⟩
          by_cases hf : (T k).2.2.2 = false
          · unfold u_lay at hlay
            rw [if_neg (by rw [hf]; decide)] at hlay
            have h6 := u_store hfc hkC hkind hlay hi hd hn' hfit'
            refine W.putK hx hb (f := f) ⟨hown, hlnk, ⟨_, _, _, mm_sm hts hsm _ hi⟩, hst⟩ (by rw [q2]; exact h6) q1 q3 (by rw [hsl]; exact k2_hasslot (q4 k hk)) rfl rfl hdg fun H' e1 e2 e3 => ?_
            rw [hsl] at e1 ⊢
            exact kk H' _ rfl (fin H' e1 e2 e3) rfl rfl (fun q hq => e3 q (mm_neB hq))
          · have hft : (T k).2.2.2 = true := by simpa using hf
            have hii : ini = true ∧ o = c9 := by
              rcases hfin with h | h
              · unfold mm_fin at h
                rw [hc] at h
                exact absurd h hf
              · exact h
            have hin2 := hini hii.1
            have hdecl : (T k).1 = mm_cn o := by rw [f7 k hk hft, f6, hii.2]
            unfold u_lay at hlay
            rw [if_pos hft] at hlay
            have hcf : m.cls = cf := by
              obtain ⟨_, _, c', _, _, _, -, -, hf', -, -, -, hown2, -⟩ := Cond.laysFinal_spec hlay
              have e1 : c' = cf := by have := hi.symm.trans hf'; simp at this; exact this.1.symm
              rw [hdecl] at hown2
              rw [← e1]; exact Option.some.inj (hown.symm.trans hown2)
            have h6 := u_fits hfc hkC hkind (Or.inr hlay) hi hd hn' hfit'
            refine W.putFinK hx hb hown hlnk (mm_sm hts hsm _ hi) hst hcf hin2 (by rw [q2]; exact h6) q1 q3 (by rw [hsl]; exact k2_hasslot (q4 k hk)) rfl rfl hdg fun H' e1 e2 e3 => ?_
            rw [hsl] at e1 ⊢
            exact kk H' _ rfl (fin H' e1 e2 e3) rfl rfl (fun q hq => e3 q (mm_neB hq))
        · cases h
      · cases h
    · cases h
  · cases h
theorem mm_atA {D : va_G} {cA n : Nat} {f : Nat → Int32} {q : Nat} (h : va_at D mm_cl (q, .inl (cA, n, .inl f)) H) : H[q]? = some (arrV cA n (fun j => .int (f j))) := h
theorem mm_atQ {D : va_G} {cA n : Nat} {f : Nat → Option Nat} {q : Nat} (h : va_at D mm_cl (q, .inl (cA, n, .inr (.inr (.inr (.inr f))))) H) : H[q]? = some (arrV cA n (fun j => va_rf (f j))) := h
theorem mm_upV (f : Nat → Int32) (k : Nat) (x : Int32) : updV (fun j => Value.int (f j)) k (.int x) = fun j => .int (upd f k x j) := by
  funext q
  by_cases hq : q = k
  · subst hq
    simp [updV, upd]
  · simp [updV, upd, hq]
theorem mm_iald (C0 : mm_Cx p s m args meth c D dA o ini cc) (hR : mm_R D dA B sa hs M H) (hZ : mm_Z B sa hs s s.heap) (hS : va_S (fun q => B ≤ q) s.heap H locs) {i v : Int32} (h : mm_ai (fun u => u == 0) M a i = some v) (hdg : decode cc pc = .ok (.iaload, 1))
    (kk : W p l e R s m args below meth c H locs cells slots Q (F0 m (pc + 1) ls (.int v :: rest))) : W p l e R s m args below meth c H locs cells slots Q (F0 m pc ls (.int i :: .ref (mm_ro B sa a) :: rest)) := by
  obtain ⟨hx, hb, hown, hts, hK, -⟩ := C0
  unfold mm_ai at h
  split at h
  · rename_i u n f hM
    split at h
    · rename_i hcnd
      obtain ⟨hok, hu, hin⟩ := hcnd
      have hu0 : u = 0 := by simpa using hu
      subst hu0
      cases h
      have hlt : i.toNatClampNeg < n := Nat.not_le.mp fun q => hin (Or.inr q)
      by_cases ha : a < M.1
      · have hat := hR.2.2.1 a ha
        rw [hM] at hat
        rw [mm_roB (Nat.lt_of_lt_of_le ha hR.2.1)]
        exact W.iald (v := .int (f i.toNatClampNeg)) hx hb (mm_atA hat) ((hK.2 0 _ rfl).1 n (fun j => .int (f j))) (fun q => by cases q) (by show ¬ (i < 0 ∨ (arrV _ _ _).slots.size ≤ _); rw [arrV_size]; exact hin) (by show (arrV _ _ _).slots[_]? = _; rw [arrV_read _ _ hlt]) rfl rfl hdg kk
      · have hst : mm_sta a = true := by unfold mm_ok at hok; simp [ha] at hok; exact hok
        obtain ⟨j, hj, rfl⟩ := mm_st_of hst
        have hsj := (hZ.1 j hj).2
        rw [← hR.2.2.2 j hj, hM] at hsj
        rw [mm_roS]
        exact va_ti hx hb hsj hS hin rfl hdg kk
    · cases h
  · cases h
theorem mm_bald (C0 : mm_Cx p s m args meth c D dA o ini cc) (hR : mm_R D dA B sa hs M H) (hZ : mm_Z B sa hs s s.heap) (hS : va_S (fun q => B ≤ q) s.heap H locs) {i v : Int32} (h : mm_ai (fun u => u == 1 || u == 2) M a i = some v) (hdg : decode cc pc = .ok (.baload, 1))
    (kk : W p l e R s m args below meth c H locs cells slots Q (F0 m (pc + 1) ls (.int v :: rest))) : W p l e R s m args below meth c H locs cells slots Q (F0 m pc ls (.int i :: .ref (mm_ro B sa a) :: rest)) := by
  obtain ⟨hx, hb, hown, hts, hK, -⟩ := C0
  unfold mm_ai at h
  split at h
  · rename_i u n f hM
    split at h
    · rename_i hcnd
      obtain ⟨hok, hu, hin⟩ := hcnd
      cases h
      have hlt : i.toNatClampNeg < n := Nat.not_le.mp fun q => hin (Or.inr q)
      have hu2 : u = 1 ∨ u = 2 := by simpa using hu
      by_cases ha : a < M.1
      · have hat := hR.2.2.1 a ha
        rw [hM] at hat
        rw [mm_roB (Nat.lt_of_lt_of_le ha hR.2.1)]
        rcases hu2 with rfl | rfl
        · exact W.bald (v := .int (f i.toNatClampNeg)) hx hb (mm_atA hat) ((hK.2 1 _ rfl).1 n (fun j => .int (f j))) (fun q => by cases q) (by show ¬ (i < 0 ∨ (arrV _ _ _).slots.size ≤ _); rw [arrV_size]; exact hin) (by show (arrV _ _ _).slots[_]? = _; rw [arrV_read _ _ hlt]) rfl rfl hdg kk
        · exact W.zald (v := .int (f i.toNatClampNeg)) hx hb (mm_atA hat) ((hK.2 2 _ rfl).1 n (fun j => .int (f j))) (fun q => by cases q) (by show ¬ (i < 0 ∨ (arrV _ _ _).slots.size ≤ _); rw [arrV_size]; exact hin) (by show (arrV _ _ _).slots[_]? = _; rw [arrV_read _ _ hlt]) rfl rfl hdg kk
      · have hst : mm_sta a = true ∧ u = 1 := by
          unfold mm_ok at hok
          rcases hu2 with rfl | rfl
          · simp [ha] at hok; exact ⟨hok, rfl⟩
          · simp [ha] at hok
        obtain ⟨hst, rfl⟩ := hst
        obtain ⟨j, hj, rfl⟩ := mm_st_of hst
        have hsj := (hZ.1 j hj).2
        rw [← hR.2.2.2 j hj, hM] at hsj
        rw [mm_roS]
        exact va_tb hx hb hsj hS hin rfl hdg kk
    · cases h
  · cases h
theorem mm_iast (C0 : mm_Cx p s m args meth c D dA o ini cc) (hR : mm_R D dA B sa hs M H) {i v : Int32} {M1 : mH} (h : mm_pi (fun u => u == 0) M a i v = some M1) (hdg : decode cc pc = .ok (.iastore, 1))
    (kk : ∀ (H' : Heap) (lc : Loc), lc.base = B + a → mm_R D dA B sa hs M1 H' → M1.1 = M.1 → M1.2.1 = M.2.1 → (∀ q, q < B → H'[q]? = H[q]?) → W p l e R s m args below meth c H' (locs ++ [lc]) cells slots Q (F0 m (pc + 1) ls rest)) : W p l e R s m args below meth c H locs cells slots Q (F0 m pc ls (.int v :: .int i :: .ref (mm_ro B sa a) :: rest)) := by
  obtain ⟨hx, hb, hown, hts, hK, -⟩ := C0
  unfold mm_pi at h
  split at h
  · rename_i ha
    split at h
    · rename_i u n f hM
      split at h
      · rename_i hcnd
        obtain ⟨hu, hin⟩ := hcnd
        have hu0 : u = 0 := by simpa using hu
        subst hu0
        have hat := hR.2.2.1 a ha
        rw [hM] at hat
        cases h
        rw [mm_roB (Nat.lt_of_lt_of_le ha hR.2.1)]
        refine W.iast hx hb (mm_atA hat) ((hK.2 0 _ rfl).1 n (fun j => .int (f j))) (fun q => by cases q) (by show ¬ (i < 0 ∨ (arrV _ _ _).slots.size ≤ _); rw [arrV_size]; exact hin) rfl rfl hdg fun H' e1 e2 e3 => ?_
        refine kk H' _ rfl (mm_R_wr hR ha e2 e3 ?_) rfl rfl (fun q hq => e3 q (mm_neB hq))
        show H'[B + a]? = some (vp_cell _ _)
        rw [e1, arrV_store, mm_upV]
        rfl
      · cases h
    · cases h
  · cases h
theorem mm_bast (C0 : mm_Cx p s m args meth c D dA o ini cc) (hR : mm_R D dA B sa hs M H) {i v : Int32} {M1 : mH} (h : mm_pi (fun u => u == 1 || u == 2) M a i v = some M1) (hdg : decode cc pc = .ok (.bastore, 1))
    (kk : ∀ (H' : Heap) (lc : Loc), lc.base = B + a → mm_R D dA B sa hs M1 H' → M1.1 = M.1 → M1.2.1 = M.2.1 → (∀ q, q < B → H'[q]? = H[q]?) → W p l e R s m args below meth c H' (locs ++ [lc]) cells slots Q (F0 m (pc + 1) ls rest)) : W p l e R s m args below meth c H locs cells slots Q (F0 m pc ls (.int v :: .int i :: .ref (mm_ro B sa a) :: rest)) := by
  obtain ⟨hx, hb, hown, hts, hK, -⟩ := C0
  unfold mm_pi at h
  split at h
  · rename_i ha
    split at h
    · rename_i u n f hM
      split at h
      · rename_i hcnd
        obtain ⟨hu, hin⟩ := hcnd
        have hat := hR.2.2.1 a ha
        rw [hM] at hat
        cases h
        rw [mm_roB (Nat.lt_of_lt_of_le ha hR.2.1)]
        have hu2 : u = 1 ∨ u = 2 := by simpa using hu
        rcases hu2 with rfl | rfl
        · refine W.bast hx hb (mm_atA hat) ((hK.2 1 _ rfl).1 n (fun j => .int (f j))) (fun q => by cases q) (by show ¬ (i < 0 ∨ (arrV _ _ _).slots.size ≤ _); rw [arrV_size]; exact hin) rfl rfl hdg fun H' e1 e2 e3 => ?_
          refine kk H' _ rfl (mm_R_wr hR ha e2 e3 ?_) rfl rfl (fun q hq => e3 q (mm_neB hq))
          show H'[B + a]? = some (vp_cell _ _)
          rw [e1, arrV_store]
          show some (arrV _ _ (updV _ _ (.int _))) = _
          rw [mm_upV]
          rfl
        · refine W.zast hx hb (mm_atA hat) ((hK.2 2 _ rfl).1 n (fun j => .int (f j))) (fun q => by cases q) (by show ¬ (i < 0 ∨ (arrV _ _ _).slots.size ≤ _); rw [arrV_size]; exact hin) rfl rfl hdg fun H' e1 e2 e3 => ?_
          refine kk H' _ rfl (mm_R_wr hR ha e2 e3 ?_) rfl rfl (fun q hq => e3 q (mm_neB hq))
          show H'[B + a]? = some (vp_cell _ _)
          rw [e1, arrV_store]
          show some (arrV _ _ (updV _ _ (.int _))) = _
          rw [mm_upV]
          rfl
      · cases h
    · cases h
  · cases h
theorem mm_aald (C0 : mm_Cx p s m args meth c D dA o ini cc) (hR : mm_R D dA B sa hs M H) {i : Int32} {v : Option Nat} (h : mm_aa M a i = some v) (hdg : decode cc pc = .ok (.aaload, 1))
    (kk : W p l e R s m args below meth c H locs cells slots Q (F0 m (pc + 1) ls (mm_rv B sa (va_rf v) :: rest))) : W p l e R s m args below meth c H locs cells slots Q (F0 m pc ls (.int i :: .ref (mm_ro B sa a) :: rest)) := by
  obtain ⟨hx, hb, hown, hts, hK, -⟩ := C0
  unfold mm_aa at h
  split at h
  · rename_i ha
    split at h
    · rename_i u n f hM
      split at h
      · rename_i hcnd
        obtain ⟨hu, hin⟩ := hcnd
        have hat := hR.2.2.1 a ha
        rw [hM] at hat
        cases h
        rw [mm_roB (Nat.lt_of_lt_of_le ha hR.2.1)]
        have hlt : i.toNatClampNeg < n := Nat.not_le.mp fun q => hin (Or.inr q)
        have hv : va_rf ((f i.toNatClampNeg).map (mm_ro B sa)) = mm_rv B sa (va_rf (f i.toNatClampNeg)) := by cases f i.toNatClampNeg <;> rfl
        rcases hu with rfl | rfl
        · exact W.aald (ty := .object "java/lang/Object") (v := mm_rv B sa (va_rf (f i.toNatClampNeg))) hx hb (mm_atQ hat) ((hK.2 3 _ rfl).1 n _) rfl (fun q => by cases q) (by show ¬ (i < 0 ∨ (arrV _ _ _).slots.size ≤ _); rw [arrV_size]; exact hin) (by show (arrV _ _ _).slots[_]? = _; rw [arrV_read _ _ hlt, hv]) rfl rfl hdg kk
        · exact W.aald (ty := .array .int) (v := mm_rv B sa (va_rf (f i.toNatClampNeg))) hx hb (mm_atQ hat) ((hK.2 4 _ rfl).1 n _) rfl (fun q => by cases q) (by show ¬ (i < 0 ∨ (arrV _ _ _).slots.size ≤ _); rw [arrV_size]; exact hin) (by show (arrV _ _ _).slots[_]? = _; rw [arrV_read _ _ hlt, hv]) rfl rfl hdg kk
      · cases h
    · cases h
  · cases h
theorem mm_alen (C0 : mm_Cx p s m args meth c D dA o ini cc) (hR : mm_R D dA B sa hs M H) (hZ : mm_Z B sa hs s s.heap) (hS : va_S (fun q => B ≤ q) s.heap H locs) {v : Int32} (h : mm_lg M a = some v) (hdg : decode cc pc = .ok (.arraylength, 1))
    (kk : W p l e R s m args below meth c H locs cells slots Q (F0 m (pc + 1) ls (.int v :: rest))) : W p l e R s m args below meth c H locs cells slots Q (F0 m pc ls (.ref (mm_ro B sa a) :: rest)) := by
  obtain ⟨hx, hb, hown, hts, hK, -⟩ := C0
  unfold mm_lg at h
  split at h
  · rename_i u n f hM
    split at h
    · rename_i hcnd
      obtain ⟨hok, hu⟩ := hcnd
      cases h
      have hu2 : u = 0 ∨ u = 1 ∨ u = 2 := mm_lt3 hu
      by_cases ha : a < M.1
      · have hat := hR.2.2.1 a ha
        rw [hM] at hat
        rw [mm_roB (Nat.lt_of_lt_of_le ha hR.2.1)]
        rcases hu2 with rfl | rfl | rfl
        · exact W.alen hx hb (mm_atA hat) ((hK.2 0 _ rfl).1 n _) (by rw [arrV_size]) rfl rfl hdg kk
        · exact W.alen hx hb (mm_atA hat) ((hK.2 1 _ rfl).1 n _) (by rw [arrV_size]) rfl rfl hdg kk
        · exact W.alen hx hb (mm_atA hat) ((hK.2 2 _ rfl).1 n _) (by rw [arrV_size]) rfl rfl hdg kk
      · have hst : mm_sta a = true ∧ (u = 0 ∨ u = 1) := by
          unfold mm_ok at hok
          rcases hu2 with rfl | rfl | rfl
          · simp [ha] at hok; exact ⟨hok, Or.inl rfl⟩
          · simp [ha] at hok; exact ⟨hok, Or.inr rfl⟩
          · simp [ha] at hok
        obtain ⟨hst, hu3⟩ := hst
        obtain ⟨j, hj, rfl⟩ := mm_st_of hst
        have hsj := (hZ.1 j hj).2
        rw [← hR.2.2.2 j hj, hM] at hsj
        rw [mm_roS]
        rcases hu3 with rfl | rfl
        · exact va_tlen hx hb hsj hS rfl hdg kk
        · exact va_tlen hx hb hsj hS rfl hdg kk
    · cases h
  · rename_i u n f hM
    split at h
    · rename_i hcnd
      obtain ⟨hok, hu⟩ := hcnd
      cases h
      by_cases ha : a < M.1
      · have hat := hR.2.2.1 a ha
        rw [hM] at hat
        rw [mm_roB (Nat.lt_of_lt_of_le ha hR.2.1)]
        rcases hu with rfl | rfl
        · exact W.alen hx hb (mm_atQ hat) ((hK.2 3 _ rfl).1 n _) (by rw [arrV_size]) rfl rfl hdg kk
        · exact W.alen hx hb (mm_atQ hat) ((hK.2 4 _ rfl).1 n _) (by rw [arrV_size]) rfl rfl hdg kk
      · have hst : mm_sta a = true ∧ u = 3 := by
          unfold mm_ok at hok
          rcases hu with rfl | rfl
          · simp [ha] at hok; exact ⟨hok, rfl⟩
          · simp [ha] at hok
        obtain ⟨hst, rfl⟩ := hst
        obtain ⟨j, hj, rfl⟩ := mm_st_of hst
        have hsj := (hZ.1 j hj).2
        rw [← hR.2.2.2 j hj, hM] at hsj
        rw [mm_roS]
        exact va_tlen hx hb hsj hS rfl hdg kk
    · cases h
  · cases h
theorem mm_gsf (C0 : mm_Cx p s m args meth c D dA o ini cc) (hR : mm_R D dA B sa hs M H) (hZ : mm_Z B sa hs s s.heap) (hS : va_S (fun q => B ≤ q) s.heap H locs) {v : Value} (h : mm_gs o x M a = some v) (hdg : decode cc pc = .ok (.getfield x, 3))
    (kk : W p l e R s m args below meth c H locs cells slots Q (F0 m (pc + 3) ls (mm_rv B sa v :: rest))) : W p l e R s m args below meth c H locs cells slots Q (F0 m pc ls (.ref (mm_ro B sa a) :: rest)) := by
  obtain ⟨hx, hb, hown, hts, hK, -⟩ := C0
  unfold mm_gs at h
  split at h
  · rename_i hcnd
    obtain ⟨rfl, hst⟩ := hcnd
    split at h
    · rename_i c9 fs hM
      split at h
      · rename_i hc9
        subst hc9
        obtain ⟨j, hj, rfl⟩ := mm_st_of hst
        have hsj := (hZ.1 j hj).2
        rw [← hR.2.2.2 j hj, hM] at hsj
        rw [mm_roS]
        split at h
        · rename_i hx9
          subst hx9
          exact vk_getf (ref := "java/lang/String") hx hb (hsj.2.1 v h) hS hown (hts _ mm_wsv) (fun _ h9 => h9) hdg kk
        · split at h
          · rename_i hx9
            subst hx9
            exact vk_getf (ref := "java/lang/String") hx hb (hsj.2.2 v h) hS hown (hts _ mm_wsc) (fun _ h9 => h9) hdg kk
          · cases h
      · cases h
    · cases h
  · cases h
end MMH
