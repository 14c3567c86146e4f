/-! THE CLAIM OUT OF ONE WALK OF THE LAW'S BODY. Your part is whole_start (and what it stands on); all else here is the same for every law, but numbers. -/
def R_law : String := "StudentSwapsLaw"
def lw_P (b : Addr) (xs : List Int32) (args : Array Value) (s : State) : Prop := args = #[.ref b] ∧ s.IntsAt b xs ∧ xs.length ≤ 4096 ∧ (Jvm.Cond.and given_1 narrow_1).before args s = true
def lw_Q (_ : Array Value) (s : State) (o : Outcome) (t : State) : Prop := o = .returned (some (.int 1)) ∧ Framed s o t [] 600000 7302250
def lw_Z (below : List Frame) (a : Array Value) (s : State) : State → Prop := fun t => ∃ o, t.status = .running ∧ Ended t below o ∧ lw_Q a s o t
/-- the law's own end, with 1 on the stack, nothing written that was there before, its room as the claim has it -/
theorem lw_ret {p : Program} {l : Launch} {e : Env} {s : State} {m : MethodId} {below : List Frame} {meth : Method} {c : Code} {b : Nat} (hx : p.tables.exec = Jvm.exec) (hb : c.code = code) (hr : meth.sig.returnType = ret) (hlocks : meth.locks = false) {pc : Nat} {H : Heap} {ls : Array Slot} (hdg : decode code pc = .ok (.ireturn, 1)) : W p l e room_1 s m #[Value.ref b] below meth c H [] 600000 7302250 (lw_Z below #[Value.ref b] s) (F0 m pc ls [.int 1]) := by
  intro T hT X
  obtain ⟨fs, hret, hrun, hended, hW, hframe⟩ := X.leave (v := some (.int 1)) (hlocks := hlocks) (fun h => by rw [hr] at h; cases h)
  have hmeth' : T.vm.method? m = some meth := X.method'
  refine ⟨T.setFrames fs, ?_, .returned (some (.int 1)), hrun, hended, rfl, ⟨_, rfl⟩, hW, hframe⟩
  jvm_step X.here [X.here.top, hx, hb, hdg, hmeth', hr, ret, narrow_b1]
  (try refine ⟨rfl, ?_⟩); (try refine ⟨rfl, ?_⟩)
  first | (intro acts; rw [hret _ acts rfl rfl rfl]) | rw [hret _ _ rfl rfl rfl]
  exact Steps.refl _
/-- what holds at the law's entry: the machine, the code, the tables' words (any of lw_tbl by 'hts w (by decide +kernel)'), the script of L ints xs at the cell b, what the Statement gives of the start (any of its parts by flat_of_before) -/
def lw_At (p : Program) (s : State) (m : MethodId) (meth : Method) (c : Code) (b L : Nat) (xs : Nat → Int32) : Prop :=
  p.tables.exec = Jvm.exec ∧ c.code = code ∧ meth.sig.returnType = ret ∧ c.maxLocals = 4 ∧ s.vm.findClass R_law = some m.cls ∧ (∀ w ∈ lw_tbl, w.before #[Value.ref b] s = true) ∧ va_X b L xs s s.heap ∧ b < s.heap.size ∧ meth.locks = false ∧ (Jvm.Cond.and given_1 narrow_1).before #[Value.ref b] s = true
-- ===== YOUR PART BEGINS =====
/-- WHAT IS LEFT TO SHOW, of the small machine alone: on every script of at most 4096 ints the law's run answers 1, within the room -/
def mm_Pure : Prop := ∀ (L : Nat) (xs : Nat → Int32), L ≤ 4096 → ∃ (N d : Nat) (M : mH), d ≤ 1000 ∧ mm_run (mm_ev N d) 27 4 false code ret N 0 [(0, .ref 1000009)] [] (mm_M0 L xs) = some (some (.int 1), M) ∧ M.1 ≤ 600000 ∧ M.2.1 ≤ 7302250
theorem mm_M0s (L : Nat) (xs : Nat → Int32) (j : Nat) : (mm_M0 L xs).2.2 (1000000 + j) = mm_hs L xs j := by simp only [mm_M0, Nat.add_sub_cancel_left]
theorem mm_emp {D : va_G} {dA : Nat → Nat} {sa : Nat → Nat} {hs : Nat → va_E} {M : mH} {H : Heap} (h : M.1 = 0) (h4 : ∀ j, j < 10 → M.2.2 (1000000 + j) = hs j) : mm_R D dA H.size sa hs M H := by
  refine ⟨by rw [h]; rfl, by rw [h]; exact Nat.zero_le _, fun i hi => ?_, h4⟩
  rw [h] at hi
  exact absurd hi (Nat.not_lt_zero i)
theorem mm_M0z (L : Nat) (xs : Nat → Int32) : (mm_M0 L xs).1 ≤ 1000000 := Nat.zero_le 1000000
set_option maxHeartbeats 4000000 in
theorem mm_start (hp : mm_Pure) {p : Program} {e : Env} {s : State} {m : MethodId} {below : List Frame} {meth : Method} {c : Code} (l : Launch) {b L : Nat} {xs : Nat → Int32} (hL : L ≤ 4096) (C0 : lw_At p s m meth c b L xs) : W p l e room_1 s m #[Value.ref b] below meth c s.heap [] 0 0 (lw_Z below #[Value.ref b] s) (entryFrame m ([Value.ref b] : List Value).toArray 4) := by
  obtain ⟨hx, hb, hr, hml, hown, hts, hX, hbl, hlocks, hgv⟩ := C0
  obtain ⟨N, d, MF, hd, hrun, hM1, hM2⟩ := hp L xs hL
  obtain ⟨sa, hsa9, hZ⟩ := mm_Zs hL hts hX hbl hgv
  obtain ⟨D, hD⟩ := mm_D hts
  obtain ⟨c0, a0, r0⟩ := mm_arrC (ty := .int) (hts _ (mm_tb_tbl _ mm_wI)) (fun C h => by cases h)
  obtain ⟨c1, a1, r1⟩ := mm_arrC (ty := .byte) (hts _ (mm_tb_tbl _ mm_wB)) (fun C h => by cases h)
  obtain ⟨c2, a2, r2⟩ := mm_arrC (ty := .boolean) (hts _ (mm_tb_tbl _ mm_wZ)) (fun C h => by cases h)
  obtain ⟨c3, a3, r3⟩ := mm_arrO (C := "java/lang/Object") (mm_at_of hts (i := 2225) (by decide +kernel))
  obtain ⟨c4, a4, r4⟩ := mm_arrA (t := .int) (mm_at_of hts (i := 1043) (by decide +kernel))
  obtain ⟨dA, hdA⟩ : ∃ dA : Nat → Nat, dA 0 = c0 ∧ dA 1 = c1 ∧ dA 2 = c2 ∧ dA 3 = c3 ∧ dA 4 = c4 := ⟨fun j => match j with | 0 => c0 | 1 => c1 | 2 => c2 | 3 => c3 | _ => c4, rfl, rfl, rfl, rfl, rfl⟩
  obtain ⟨d0, d1, d2, d3, d4⟩ := hdA
  have hKa : va_K D mm_cl (mm_aty dA) s := ⟨hD, fun k q hq => by
    unfold mm_aty at hq
    match k, hq with
    | 0, hq => cases hq; rw [d0]; exact ⟨a0, r0⟩
    | 1, hq => cases hq; rw [d1]; exact ⟨a1, r1⟩
    | 2, hq => cases hq; rw [d2]; exact ⟨a2, r2⟩
    | 3, hq => cases hq; rw [d3]; exact ⟨a3, r3⟩
    | 4, hq => cases hq; rw [d4]; exact ⟨a4, r4⟩
    | n + 5, hq => simp at hq⟩
  have hK2 : mm_K D dA s.heap.size sa (mm_hs L xs) s := ⟨hKa, fun w hw hn => by
    have h9 := hts w hw
    cases w <;> first | exact va_Nw.of rfl h9 | (cases hn), hZ⟩
  have hC : mm_Cx p s m #[Value.ref b] meth c D dA 27 false code := ⟨hx, hb, hown, fun w hw => hts w (mm_tb_tbl w hw), hKa, fun h => by cases h⟩
  have hR : mm_R D dA s.heap.size sa (mm_hs L xs) (mm_M0 L xs) s.heap := by
    have h0 : (mm_M0 L xs).1 = 0 := rfl
    have h4 : ∀ j, j < 10 → (mm_M0 L xs).2.2 (1000000 + j) = mm_hs L xs j := fun j _ => mm_M0s L xs j
    exact mm_emp h0 h4
  have hgo := mm_runs (l := l) (e := e) (R := room_1) (below := below) (Q := lw_Z below #[Value.ref b] s) (M0 := mm_M0 L xs) (B := s.heap.size) (sa := sa) (hs := mm_hs L xs) (d := d) (nL := 4) (ret := ret) (rF := some (.int 1)) (MF := MF) hC hml hK2 rfl (by show d + 1 ≤ 2048; omega) (by show 64 * (d + 1) ≤ 84000; omega) (by show MF.1 - 0 ≤ 600000; omega) (by show MF.2.1 - 0 ≤ 7302250; omega) (fun j as M r M1 h => mm_sound l D dA s.heap.size sa (mm_hs L xs) N d j as M r M1 h) (fun j as M r M1 h => mm_ev_le N d j as M r M1 h) ?_ N 0 _ _ _ (mm_le_rf _) hrun
  · have hl := lv_entry ([.ref b]) (n := 4) (Nat.le_of_ble_eq_true rfl)
    rw [lg_entry_eq]
    have e9 : lv_args 0 [Value.ref b] = mm_rl s.heap.size sa [(0, .ref 1000009)] := by
      show [(0, Value.ref b)] = [(0, Value.ref (mm_ro s.heap.size sa (1000000 + 9)))]
      rw [mm_roS, hsa9]
    rw [e9] at hl
    exact hgo _ s.heap [] hl hR (fun _ _ => rfl) (fun q hq => absurd hq List.not_mem_nil)
  · intro pc len i ls st hd9 hlen hrt lsA H locs hl hR' hB hL9
    rw [hlen] at hd9
    refine va_forget (fun q hq => hL9 q hq) ?_
    refine W.widen (k := 600000) (n := 7302250) (by show MF.1 - 0 ≤ 600000; omega) (by show MF.2.1 - 0 ≤ 7302250; omega) ?_
    have hi : i = .ireturn ∧ st = [.int 1] := by
      unfold mm_rt at hrt
      split at hrt
      · split at hrt <;> cases hrt
      · split at hrt
        · split at hrt
          · cases hrt; exact ⟨rfl, rfl⟩
          · cases hrt
        · cases hrt
      · split at hrt <;> cases hrt
      · split at hrt <;> cases hrt
      · split at hrt <;> cases hrt
      · cases hrt
    obtain ⟨rfl, rfl⟩ := hi
    exact lw_ret hx hb hr hlocks hd9
