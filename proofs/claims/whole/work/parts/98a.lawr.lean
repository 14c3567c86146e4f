/-! RULES FOR THE LAW, AND WHERE IT BEGINS -/
theorem rt_int {r : Option FieldType} (hr : r = some .int ∨ r = some .boolean) {i : Instr} {st : List Value} {v : Value} (h : mm_rt r i st = some (some v)) : ∃ x, v = .int x := by
  unfold mm_rt at h
  split at h
  · split at h <;> cases h
  · split at h
    · split at h
      · cases h
        exact ⟨_, rfl⟩
      · cases h
    · cases h
  · split at h
    · next hq => rcases hr with rfl | rfl <;> cases hq
    · cases h
  · rcases hr with rfl | rfl <;> cases h
  · rcases hr with rfl | rfl <;> cases h
  · cases h
theorem run_rt {cal : Nat → List Value → mH → Option (Option Value × mH)} {o nL : Nat} {ini : Bool} {b : ByteArray} {ret : Option FieldType} : ∀ (n pc : Nat) (ls : List (Nat × Value)) (st : List Value) (M : mH) (r : Option Value) (M1 : mH), mm_run cal o nL ini b ret n pc ls st M = some (r, M1) → ∃ i st, mm_rt ret i st = some r
  | 0, _, _, _, _, _, _, h => by
    unfold mm_run at h
    cases h
  | n + 1, pc, ls, st, M, r, M1, h => by
    unfold mm_run at h
    split at h
    · split at h
      · split at h
        · split at h
          · next hq =>
            cases h
            exact ⟨_, _, hq⟩
          · cases h
        · split at h
          · split at h
            · split at h
              · split at h
                · exact run_rt n _ _ _ _ _ _ h
                · cases h
              · cases h
            · split at h
              · split at h
                · exact run_rt n _ _ _ _ _ _ h
                · cases h
              · cases h
          · split at h
            · exact run_rt n _ _ _ _ _ _ h
            · cases h
      · cases h
    · cases h
theorem ev_rt {d k : Nat} {as : List Value} {M M1 : mH} {r : Option Value} (h : mm_Ev d k as M (r, M1)) : ∃ i st, mm_rt (mm_re k) i st = some r := by
  obtain ⟨n0, h⟩ := h
  have h := h n0 (Nat.le_refl _)
  cases d with
  | zero => cases h
  | succ d =>
    unfold mm_ev at h
    split at h
    · exact run_rt _ _ _ _ _ _ _ h
    · cases h
theorem ev_int {d k : Nat} {as : List Value} {M M1 : mH} {v : Value} (h : mm_Ev d k as M (some v, M1)) (hr : mm_re k = some .int ∨ mm_re k = some .boolean) : ∃ x, v = .int x := by
  obtain ⟨i, st, h⟩ := ev_rt h
  exact rt_int hr h
theorem ev_det {d d2 k : Nat} {as : List Value} {M : mH} {R R2 : Option Value × mH} (h : mm_Ev d k as M R) (h2 : mm_Ev d2 k as M R2) : R = R2 := by
  obtain ⟨n, h⟩ := mm_Ev_up (Nat.le_max_left d d2) h
  obtain ⟨n2, h2⟩ := mm_Ev_up (Nat.le_max_right d d2) h2
  exact Option.some.inj ((h (max n n2) (Nat.le_max_left _ _)).symm.trans (h2 (max n n2) (Nat.le_max_right _ _)))
theorem owed_long {L : Nat} {xs : Nat → Int32} {M M2 : mH} {T T2 : Nat → mT} {cs cs2 : Nat → Nat → Int32} {io : Nat → Int32} {sg : Nat → Nat → Int32} (hI : IV L xs M T cs io sg) (hM : 157 ≤ M2.1) {h : Int32} {v : Value} {N : mH} (hr : mm_Ev 40 266 [.ref 100, .int h] (hk (rf_mk M2 io sg) T2 cs2) (some v, N)) : ∃ x, v = .long x := by
  obtain ⟨⟨e, D, nh, nx, ns, nf, ny, tp, cm, w, cn, wc, hV, -⟩, -⟩ := hI
  obtain ⟨⟨⟨h3, hnh⟩, ⟨h4, hnx⟩, ⟨h5, hns⟩, -⟩, -⟩ := hV.2.2.2.1
  rw [← hk_rf] at hr
  by_cases hh : 0 ≤ h ∧ h < nI nh
  · obtain ⟨n, hn, rfl⟩ := g_lt hh (by omega)
    have := ev_det hr (c_owed_ok (hk M2 T2 cs2) hM io sg ns h5 hns nh h3 hnh nx h4 hnx n hn)
    exact ⟨_, Option.some.inj (Prod.ext_iff.mp this).1⟩
  · have := ev_det hr (c_owed_no (hk M2 T2 cs2) hM io sg h (fun g => hh (by rw [← h3]; exact g)))
    exact ⟨_, Option.some.inj (Prod.ext_iff.mp this).1⟩
section LW
variable {d nL pc : Nat} {ini : Bool} {b : ByteArray} {ret : Option FieldType} {ls : List (Nat × Value)} {st : List Value} {R : Option Value × mH → Prop} {N : mH} {L : Nat} {xs : Nat → Int32}
theorem l_len {o : Nat} (hN : N.2.2 1000009 = .inl (0, L, .inl xs)) (hd : decode b pc = .ok (.arraylength, 1)) (kk : mm_Ru d (o, nL, ini, b, ret) (pc + 1) ls (.int (nI L) :: st) N R) : mm_Ru d (o, nL, ini, b, ret) pc ls (.ref 1000009 :: st) N R := r_alen (by
  unfold mm_lg
  rw [hN]
  dsimp only
  exact if_pos ⟨by unfold mm_ok mm_sta; simp, by decide⟩) hd kk
theorem l_ld {o e : Nat} (hN : N.2.2 1000009 = .inl (0, L, .inl xs)) (he : e < L) (hL : L < 2 ^ 31) (hd : decode b pc = .ok (.iaload, 1)) (kk : mm_Ru d (o, nL, ini, b, ret) (pc + 1) ls (.int (xs e) :: st) N R) : mm_Ru d (o, nL, ini, b, ret) pc ls (.int (nI e) :: .ref 1000009 :: st) N R := r_iaload (by
  unfold mm_ai
  rw [hN]
  dsimp only
  rw [nI_clamp (by omega), if_pos ⟨by unfold mm_ok mm_sta; simp, rfl, fun q => q.elim (nI_pos (by omega)) (fun z => by omega)⟩]) hd kk
theorem l_callr {o x j : Nat} {as rest : List Value} {v : Value} {M1 : mH} (hv : mm_iv o (.invokevirtual x) = some (1, j)) (hn : mm_nas 1 j = as.length + 1) (hrc : mm_rc 1 j N (.ref 100 :: as) = true) (hst : st = as.reverse ++ .ref 100 :: rest) (hsum : mm_sum rest ≤ 8) (hd : decode b pc = .ok (.invokevirtual x, 3)) (hc : mm_Ev d j (.ref 100 :: as) N (some v, M1)) (kk : mm_Ru d (o, nL, ini, b, ret) (pc + 3) ls (v :: rest) M1 R) : mm_Ru d (o, nL, ini, b, ret) pc ls st N R := r_call (C := (o, nL, ini, b, ret)) (as := .ref 100 :: as) (rest := rest) hd rfl rfl hv rfl (by rw [hst]; simp) hn hsum hrc hc kk
theorem l_new {x s : Nat} {g : Nat → va_E} {o : Nat} (hx : mm_kr o x = some 13) (hd : decode b pc = .ok (.new x, 3)) (kk : mm_Ru d (o, nL, ini, b, ret) (pc + 3) ls (.ref 100 :: st) (PR g (s + 82) 0) R) : mm_Ru d (o, nL, ini, b, ret) pc ls st (100, s, g) R := r_st (C := (o, nL, ini, b, ret)) hd rfl rfl rfl (by
  simp only [mm_st, hx]
  rw [if_pos (show (100 : Nat) < 1000000 by decide)]
  refine congrArg (fun z => some (pc + 3, ls, Value.ref 100 :: st, z)) ?_
  refine Prod.ext rfl (Prod.ext (by show s + (mm_df 13).length = s + 82; exact congrArg (fun z => s + z) (by decide +kernel)) (funext fun a => ?_))
  show va_up g 100 (.inr (13, mm_df 13)) a = (if a = 100 then .inr (13, pfs 0) else if 101 ≤ a ∧ a < 101 + 0 then _ else g a)
  by_cases h : a = 100
  · subst h
    rw [if_pos rfl]
    exact (if_pos rfl).trans (congrArg (fun z => (Sum.inr (13, z) : va_E)) (show mm_df 13 = pfs 0 by rfl))
  · rw [up_o _ _ h, if_neg h, if_neg (by omega)]) kk
end LW
theorem l_rc {M : mH} {T : Nat → mT} {cs : Nat → Nat → Int32} {io : Nat → Int32} {sg : Nat → Nat → Int32} (j : Nat) (hj : mm_o j = 13) (hM : 157 ≤ M.1) (as : List Value) : mm_rc 1 j (hk (rf_mk M io sg) T cs) (.ref 100 :: as) = true := by
  rw [← hk_rf]
  exact q_rc j hj (show 157 ≤ (hk M T cs).1 from hM) as
theorem hk_0 {M : mH} (h : M.1 = 0) (T : Nat → mT) (cs : Nat → Nat → Int32) : hk M T cs = M := by
  obtain ⟨x, y, z⟩ := M
  have : x = 0 := h
  subst this
  refine Prod.ext rfl (Prod.ext rfl (funext fun a => ?_))
  show (if a < 0 ∧ ¬ (100 ≤ a ∧ a < 157) then mk_c (T a) (cs a) else z a) = z a
  exact if_neg (fun q => Nat.not_lt_zero a q.1)
theorem hk_start (s : Nat) (f : Nat → va_E) (T : Nat → mT) (cs : Nat → Nat → Int32) (io : Nat → Int32) (sg : Nat → Nat → Int32) (s0 : Nat) : rf_mk (157, s, (hk (100, s0, f) T cs).2.2) io sg = hk (rf_mk (157, s, f) io sg) T cs := by
  refine Prod.ext rfl (Prod.ext rfl (funext fun a => ?_))
  show (if 100 ≤ a ∧ a < 157 then rf_cell io sg a else if a < 100 ∧ ¬ (100 ≤ a ∧ a < 157) then mk_c (T a) (cs a) else f a) = (if a < 157 ∧ ¬ (100 ≤ a ∧ a < 157) then mk_c (T a) (cs a) else if 100 ≤ a ∧ a < 157 then rf_cell io sg a else f a)
  by_cases h : 100 ≤ a ∧ a < 157
  · rw [if_pos h, if_neg (fun z => z.2 h), if_pos h]
  · rw [if_neg h, if_neg h]
    by_cases h2 : a < 100
    · rw [if_pos ⟨h2, h⟩, if_pos ⟨by omega, h⟩]
    · rw [if_neg (fun z => h2 z.1), if_neg (by omega)]
theorem IV_start (L : Nat) (xs : Nat → Int32) (f : Nat → va_E) (hf : ∀ j, f (1000000 + j) = mm_hs L xs j) (s : Nat) (T : Nat → mT) (cs sg : Nat → Nat → Int32) (hT : ∀ a, a < 100 → T a = cT (fun j => if j = 3 then 13 else 1000000) a) (hc : cs 0 0 = nI 0 ∧ (∀ l, l < 4 → cs 1 l = nI 10 ∧ cs 2 l = nI 30) ∧ (∀ i, i < 4 → ∀ m, m < 11 → cs (6 + i) m = nI 1) ∧ (cs 10 1 = nI 0 ∧ ∀ j, cs 11 j = 0) ∧ (cs 20 0 = nI 0 ∧ cs 20 1 = nI 0 ∧ ∀ j, cs 21 j = 0 ∧ cs 22 j = 0 ∧ cs 23 j = 0 ∧ cs 24 j = 0) ∧ cs 25 1 = nI 0 ∧ cs 26 1 = nI 0 ∧ cs 27 1 = nI 0) (hs : (∀ l, l < 4 → sg 0 l = nI 10 ∧ sg 1 l = nI 30) ∧ (∀ j, j < 44 → sg 2 j = nI 1) ∧ ∀ k, ¬ k ≤ 2 → sg k = fun _ => 0) : IV L xs (157, s, f) T cs (fun _ => 0) sg := by
  obtain ⟨c1, c2, c3, c4, c5, c6, c7, c8⟩ := hc
  obtain ⟨s1, s2, s3⟩ := hs
  have n0 : ∀ {α : Prop} {i : Nat}, i < 0 → α := fun h => absurd h (Nat.not_lt_zero _)
  refine ⟨⟨fun j => if j = 3 then 13 else 1000000, fun _ _ => 1000000, 0, 0, 0, 0, 0, 0, fun _ => 0, fun _ _ => 0, fun _ => 0, fun _ _ => 0, ⟨⟨Nat.le_refl _, by show (157 : Nat) ≤ 900000; decide, ?_⟩, ⟨hT, ⟨?_, ?_, ?_⟩, fun h hh => n0 hh, fun x hx => n0 hx, fun s hs => n0 hs⟩, ⟨c1, fun l hl => ?_, fun i hi m hm => ?_, ⟨c4.1, fun j hj => ?_⟩, ⟨c5.1, c5.2.1, fun i hi => ?_⟩⟩, ⟨⟨⟨rfl, by decide⟩, ⟨rfl, by decide⟩, ⟨rfl, by decide⟩, ⟨rfl, by decide⟩, ⟨rfl, by decide⟩, ⟨rfl, by decide⟩⟩, fun l hl => ⟨10, 30, by decide, by decide, (s1 l hl).1, (s1 l hl).2⟩, fun j hj => ⟨1, by decide, s2 j hj⟩, fun h hh => n0 hh, fun h _ _ => by rw [s3 16 (by decide)]; rfl, fun h c _ _ => Or.inl (by rw [s3 21 (by decide)]), fun x hx => n0 hx, fun x hx => n0 hx, fun s hs => n0 hs, fun t _ _ => by rw [s3 59 (by decide)]; rfl, fun i hi => n0 hi⟩, ⟨fun i hi => (if_neg (by omega)).symm, fun _ => 0, fun k i hv => ?_⟩⟩, Or.inr rfl⟩, fun j hj => ?_⟩
  · exact (hf 1).trans rfl
  · exact ⟨hT 25 (by decide), ⟨by show 25 < 157; decide, by decide⟩, c6, by decide, Or.inl ⟨rfl, rfl⟩⟩
  · exact ⟨hT 26 (by decide), ⟨by show 26 < 157; decide, by decide⟩, c7, by decide, Or.inl ⟨rfl, rfl⟩⟩
  · exact ⟨hT 27 (by decide), ⟨by show 27 < 157; decide, by decide⟩, c8, by decide, Or.inl ⟨rfl, rfl⟩⟩
  · rw [(s1 l hl).1, (s1 l hl).2]
    exact c2 l hl
  · rw [s2 _ (by omega)]
    exact c3 i hi m hm
  · rw [s3 22 (by decide), c4.2 j]
    rfl
  · rw [s3 78 (by decide), s3 79 (by decide), s3 80 (by decide), s3 81 (by decide)]
    exact c5.2.2 i
  · obtain ⟨g1, g⟩ := hv
    rcases g with g | g | ⟨-, h, c, -, g, -⟩ | g | g | g
    · exact n0 g.2
    · exact n0 g.2.1
    · exact n0 g
    · exact n0 g.2.2
    · exact n0 g.2.2
    · rcases g.2 with y | y | y <;> exact n0 y.2
  · exact hf j
theorem IV_9 {L : Nat} {xs : Nat → Int32} {M : mH} {T : Nat → mT} {cs : Nat → Nat → Int32} {io io2 : Nat → Int32} {sg sg2 : Nat → Nat → Int32} (h : IV L xs M T cs io sg) : (hk (rf_mk M io2 sg2) T cs).2.2 1000009 = .inl (0, L, .inl xs) := by
  obtain ⟨⟨e, D, nh, nx, ns, nf, ny, tp, cm, w, cn, wc, hV, -⟩, hs⟩ := h
  have hb := hV.1.2.1
  exact (h_sta (show (rf_mk M io2 sg2).1 ≤ 1000000 by show M.1 ≤ 1000000; omega) (by decide)).trans ((rf_hi M io2 sg2 (by decide)).trans (hs 9 (by decide)))
theorem IV_0 {L : Nat} {xs : Nat → Int32} {M : mH} {T : Nat → mT} {cs : Nat → Nat → Int32} {io : Nat → Int32} {sg : Nat → Nat → Int32} (h : IV L xs M T cs io sg) : (∃ e, T 0 = cT e 0) ∧ 157 ≤ M.1 := by
  obtain ⟨⟨e, D, nh, nx, ns, nf, ny, tp, cm, w, cn, wc, hV, -⟩, hs⟩ := h
  exact ⟨⟨e, hV.2.1.1 0 (by decide)⟩, hV.1.1⟩
theorem li31 (x : Int32) : ∃ k, k < 32 ∧ x &&& nI 31 = nI k := by
  refine ⟨(x &&& nI 31).toBitVec.toNat, ?_, ?_⟩
  · have : (x &&& nI 31).toBitVec.toNat = x.toBitVec.toNat &&& 31 := by
      rw [Int32.toBitVec_and, BitVec.toNat_and]
      rfl
    rw [this]
    exact Nat.lt_succ_of_le Nat.and_le_right
  · apply Int32.toBitVec_inj.mp
    show _ = BitVec.ofNat 32 _
    rw [BitVec.ofNat_toNat, BitVec.setWidth_eq]
theorem lw_gt {L m : Nat} (hL : L ≤ 4096) (hm : m ≤ 1000) (h : L < 8 * m + 8) : nI L - nI 8 < nI (8 * m) := by
  rw [← zI_n, ← zI_n, ← zI_n, zI_sub, zI_lt (by omega) (by omega) (by omega) (by omega)]
  omega
