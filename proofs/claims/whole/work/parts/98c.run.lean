/-! THE LAW FROM ITS START -/
set_option maxHeartbeats 4000000 in
theorem lw_run0 (hAg : ∀ a b n : Int32, StpG 47 199 [.int a, .int b, .int n]) (L : Nat) (xs : Nat → Int32) (hL : L ≤ 4096) (f : Nat → va_E) (hf : ∀ j, f (1000000 + j) = mm_hs L xs j) : mm_Ru 40 (27, 4, false, code, ret) 0 [(0, .ref 1000009)] [] (0, 0, f) (fun z => ∃ M9 : mH, z = (some (.int 1), M9) ∧ M9.1 ≤ 600000 ∧ M9.2.1 ≤ 7302250) := by
  rw [← hk_0 (M := (0, 0, f)) rfl (fun _ => (0, 0, fun _ => none)) (fun _ _ => 0)]
  refine h_new (c := 0) (nf := 13) (by decide +kernel) (show (0 : Nat) < 1000000 by decide) (show ¬ (100 ≤ 0 ∧ 0 < 157) by decide) mk_n0 (by decide +kernel) dl_0 ?_
  refine r_dup rfl dl_3 ?_
  obtain ⟨T2, cs2, ⟨hT2, hc2⟩, hev⟩ := k_init (fun j => if j = 3 then 13 else 1000000) 13 f (va_up (fun _ => (0, 0, fun _ => none)) 0 (0, 0, fun _ => none)) (wA (fun _ _ => 0) 0 (fun _ => 0)) rfl rfl rfl rfl rfl
  refine h_callI (as := []) (rest := [.ref 0]) (M1 := hk (100, 13 + 2245, f) T2 cs2) rfl rfl lv_9 (Or.inl rfl) ln_0 rfl (show (1 : Nat) ≤ 8 by decide) dl_4 (mm_Ev_up (by decide) hev) ?_
  refine r_astore_n (ls' := [(1, .ref 0), (0, .ref 1000009)]) (by decide) rfl dl_7 ?_
  obtain ⟨g, eg⟩ : ∃ z, z = (hk (100, 13 + 2245, f) T2 cs2).2.2 := ⟨_, rfl⟩
  show mm_Ru 40 (27, 4, false, code, ret) 8 [(1, .ref 0), (0, .ref 1000009)] [] (100, 13 + 2245, (hk (100, 13 + 2245, f) T2 cs2).2.2) (fun z => ∃ M9 : mH, z = (some (.int 1), M9) ∧ M9.1 ≤ 600000 ∧ M9.2.1 ≤ 7302250)
  rw [← eg]
  refine l_new (by decide +kernel) dl_8 ?_
  refine r_dup rfl dl_11 ?_
  obtain ⟨sg2, hs2, hev2⟩ := c_init g (13 + 2245 + 82)
  refine h_callI (as := []) (rest := [.ref 100]) (M1 := rf_mk (157, 13 + 2245 + 82 + 3334, g) (fun _ => 0) sg2) rfl rfl lv_12 (Or.inl rfl) ln_185 rfl (show (1 : Nat) ≤ 8 by decide) dl_12 (mm_Ev_up (by decide) hev2) ?_
  refine r_astore_n (ls' := [(2, .ref 100), (1, .ref 0), (0, .ref 1000009)]) (by decide) rfl dl_15 ?_
  refine r_iconst (v := nI 0) (by decide) dl_16 ?_
  refine r_istore_n (ls' := [(3, .int (nI 0)), (2, .ref 100), (1, .ref 0), (0, .ref 1000009)]) (by decide) rfl dl_17 ?_
  rw [eg, hk_start]
  exact lw_loop hAg L xs hL _ T2 cs2 _ sg2 (IV_start L xs f hf _ T2 cs2 sg2 hT2 hc2 hs2) (by show (157 : Nat) ≤ 200; decide) (by show 13 + 2245 + 82 + 3334 ≤ 10000; decide)
theorem lw_run (hAg : ∀ a b n : Int32, StpG 47 199 [.int a, .int b, .int n]) (L : Nat) (xs : Nat → Int32) (hL : L ≤ 4096) (M0 : mH) (h0 : M0.1 = 0) (h1 : M0.2.1 = 0) (hf : ∀ j, M0.2.2 (1000000 + j) = mm_hs L xs j) : mm_Ru 40 (27, 4, false, code, ret) 0 [(0, .ref 1000009)] [] M0 (fun z => ∃ M9 : mH, z = (some (.int 1), M9) ∧ M9.1 ≤ 600000 ∧ M9.2.1 ≤ 7302250) := by
  obtain ⟨x, s0, f⟩ := M0
  have e1 : x = 0 := h0
  have e2 : s0 = 0 := h1
  subst e1
  subst e2
  exact lw_run0 hAg L xs hL f hf
theorem lw_pure (hAg : ∀ a b n : Int32, StpG 47 199 [.int a, .int b, .int n]) : mm_Pure := fun L xs hL => by
  obtain ⟨R, ⟨M9, rfl, h1, h2⟩, n0, h⟩ := lw_run hAg L xs hL (mm_M0 L xs) rfl rfl (mm_M0s L xs)
  exact ⟨n0, 40, M9, by decide, h n0 n0 (Nat.le_refl _) (Nat.le_refl _), h1, h2⟩
