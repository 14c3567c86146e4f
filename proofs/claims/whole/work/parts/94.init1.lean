/-! the init of the system: its parts -/
theorem dc_11_1_0 : decode prog_11_method_1_code 0 = .ok (.aload_n 0, 1) := by decide +kernel
theorem dc_11_1_1 : decode prog_11_method_1_code 1 = .ok (.invokespecial 1, 3) := by decide +kernel
theorem dc_11_1_4 : decode prog_11_method_1_code 4 = .ok (.aload_n 0, 1) := by decide +kernel
theorem dc_11_1_5 : decode prog_11_method_1_code 5 = .ok (.bipush 80, 2) := by decide +kernel
theorem dc_11_1_7 : decode prog_11_method_1_code 7 = .ok (.newarray .int, 2) := by decide +kernel
theorem dc_11_1_9 : decode prog_11_method_1_code 9 = .ok (.putfield 9, 3) := by decide +kernel
theorem dc_11_1_12 : decode prog_11_method_1_code 12 = .ok (.aload_n 0, 1) := by decide +kernel
theorem dc_11_1_13 : decode prog_11_method_1_code 13 = .ok (.iconst 0, 1) := by decide +kernel
theorem dc_11_1_14 : decode prog_11_method_1_code 14 = .ok (.putfield 13, 3) := by decide +kernel
theorem dc_11_1_17 : decode prog_11_method_1_code 17 = .ok (.return_, 1) := by decide +kernel
theorem dc_12_1_0 : decode prog_12_method_1_code 0 = .ok (.aload_n 0, 1) := by decide +kernel
theorem dc_12_1_1 : decode prog_12_method_1_code 1 = .ok (.invokespecial 3, 3) := by decide +kernel
theorem dc_12_1_4 : decode prog_12_method_1_code 4 = .ok (.aload_n 0, 1) := by decide +kernel
theorem dc_12_1_5 : decode prog_12_method_1_code 5 = .ok (.iconst 0, 1) := by decide +kernel
theorem dc_12_1_6 : decode prog_12_method_1_code 6 = .ok (.newarray .int, 2) := by decide +kernel
theorem dc_12_1_8 : decode prog_12_method_1_code 8 = .ok (.putfield 9, 3) := by decide +kernel
theorem dc_12_1_11 : decode prog_12_method_1_code 11 = .ok (.aload_n 0, 1) := by decide +kernel
theorem dc_12_1_12 : decode prog_12_method_1_code 12 = .ok (.bipush 60, 2) := by decide +kernel
theorem dc_12_1_14 : decode prog_12_method_1_code 14 = .ok (.newarray .int, 2) := by decide +kernel
theorem dc_12_1_16 : decode prog_12_method_1_code 16 = .ok (.putfield 15, 3) := by decide +kernel
theorem dc_12_1_19 : decode prog_12_method_1_code 19 = .ok (.return_, 1) := by decide +kernel
theorem dc_3_1_0 : decode prog_3_method_1_code 0 = .ok (.aload_n 0, 1) := by decide +kernel
theorem dc_3_1_1 : decode prog_3_method_1_code 1 = .ok (.invokespecial 3, 3) := by decide +kernel
theorem dc_3_1_4 : decode prog_3_method_1_code 4 = .ok (.aload_n 0, 1) := by decide +kernel
theorem dc_3_1_5 : decode prog_3_method_1_code 5 = .ok (.bipush 12, 2) := by decide +kernel
theorem dc_3_1_7 : decode prog_3_method_1_code 7 = .ok (.newarray .int, 2) := by decide +kernel
theorem dc_3_1_9 : decode prog_3_method_1_code 9 = .ok (.putfield 9, 3) := by decide +kernel
theorem dc_3_1_12 : decode prog_3_method_1_code 12 = .ok (.aload_n 0, 1) := by decide +kernel
theorem dc_3_1_13 : decode prog_3_method_1_code 13 = .ok (.bipush 12, 2) := by decide +kernel
theorem dc_3_1_15 : decode prog_3_method_1_code 15 = .ok (.newarray .int, 2) := by decide +kernel
theorem dc_3_1_17 : decode prog_3_method_1_code 17 = .ok (.putfield 15, 3) := by decide +kernel
theorem dc_3_1_20 : decode prog_3_method_1_code 20 = .ok (.aload_n 0, 1) := by decide +kernel
theorem dc_3_1_21 : decode prog_3_method_1_code 21 = .ok (.bipush 8, 2) := by decide +kernel
theorem dc_3_1_23 : decode prog_3_method_1_code 23 = .ok (.newarray .int, 2) := by decide +kernel
theorem dc_3_1_25 : decode prog_3_method_1_code 25 = .ok (.putfield 18, 3) := by decide +kernel
theorem dc_3_1_28 : decode prog_3_method_1_code 28 = .ok (.aload_n 0, 1) := by decide +kernel
theorem dc_3_1_29 : decode prog_3_method_1_code 29 = .ok (.bipush 12, 2) := by decide +kernel
theorem dc_3_1_31 : decode prog_3_method_1_code 31 = .ok (.newarray .int, 2) := by decide +kernel
theorem dc_3_1_33 : decode prog_3_method_1_code 33 = .ok (.putfield 21, 3) := by decide +kernel
theorem dc_3_1_36 : decode prog_3_method_1_code 36 = .ok (.aload_n 0, 1) := by decide +kernel
theorem dc_3_1_37 : decode prog_3_method_1_code 37 = .ok (.bipush 12, 2) := by decide +kernel
theorem dc_3_1_39 : decode prog_3_method_1_code 39 = .ok (.newarray .int, 2) := by decide +kernel
theorem dc_3_1_41 : decode prog_3_method_1_code 41 = .ok (.putfield 24, 3) := by decide +kernel
theorem dc_3_1_44 : decode prog_3_method_1_code 44 = .ok (.aload_n 0, 1) := by decide +kernel
theorem dc_3_1_45 : decode prog_3_method_1_code 45 = .ok (.bipush 12, 2) := by decide +kernel
theorem dc_3_1_47 : decode prog_3_method_1_code 47 = .ok (.newarray .int, 2) := by decide +kernel
theorem dc_3_1_49 : decode prog_3_method_1_code 49 = .ok (.putfield 27, 3) := by decide +kernel
theorem dc_3_1_52 : decode prog_3_method_1_code 52 = .ok (.aload_n 0, 1) := by decide +kernel
theorem dc_3_1_53 : decode prog_3_method_1_code 53 = .ok (.bipush 8, 2) := by decide +kernel
theorem dc_3_1_55 : decode prog_3_method_1_code 55 = .ok (.newarray .int, 2) := by decide +kernel
theorem dc_3_1_57 : decode prog_3_method_1_code 57 = .ok (.putfield 30, 3) := by decide +kernel
theorem dc_3_1_60 : decode prog_3_method_1_code 60 = .ok (.return_, 1) := by decide +kernel
theorem dc_5_1_0 : decode prog_5_method_1_code 0 = .ok (.aload_n 0, 1) := by decide +kernel
theorem dc_5_1_1 : decode prog_5_method_1_code 1 = .ok (.invokespecial 3, 3) := by decide +kernel
theorem dc_5_1_4 : decode prog_5_method_1_code 4 = .ok (.aload_n 0, 1) := by decide +kernel
theorem dc_5_1_5 : decode prog_5_method_1_code 5 = .ok (.iconst 0, 1) := by decide +kernel
theorem dc_5_1_6 : decode prog_5_method_1_code 6 = .ok (.putfield 9, 3) := by decide +kernel
theorem dc_5_1_9 : decode prog_5_method_1_code 9 = .ok (.aload_n 0, 1) := by decide +kernel
theorem dc_5_1_10 : decode prog_5_method_1_code 10 = .ok (.iconst 0, 1) := by decide +kernel
theorem dc_5_1_11 : decode prog_5_method_1_code 11 = .ok (.putfield 15, 3) := by decide +kernel
theorem dc_5_1_14 : decode prog_5_method_1_code 14 = .ok (.aload_n 0, 1) := by decide +kernel
theorem dc_5_1_15 : decode prog_5_method_1_code 15 = .ok (.sipush 200, 3) := by decide +kernel
theorem dc_5_1_18 : decode prog_5_method_1_code 18 = .ok (.newarray .int, 2) := by decide +kernel
theorem dc_5_1_20 : decode prog_5_method_1_code 20 = .ok (.putfield 18, 3) := by decide +kernel
theorem dc_5_1_23 : decode prog_5_method_1_code 23 = .ok (.aload_n 0, 1) := by decide +kernel
theorem dc_5_1_24 : decode prog_5_method_1_code 24 = .ok (.sipush 200, 3) := by decide +kernel
theorem dc_5_1_27 : decode prog_5_method_1_code 27 = .ok (.newarray .int, 2) := by decide +kernel
theorem dc_5_1_29 : decode prog_5_method_1_code 29 = .ok (.putfield 22, 3) := by decide +kernel
theorem dc_5_1_32 : decode prog_5_method_1_code 32 = .ok (.aload_n 0, 1) := by decide +kernel
theorem dc_5_1_33 : decode prog_5_method_1_code 33 = .ok (.sipush 200, 3) := by decide +kernel
theorem dc_5_1_36 : decode prog_5_method_1_code 36 = .ok (.newarray .int, 2) := by decide +kernel
theorem dc_5_1_38 : decode prog_5_method_1_code 38 = .ok (.putfield 25, 3) := by decide +kernel
theorem dc_5_1_41 : decode prog_5_method_1_code 41 = .ok (.aload_n 0, 1) := by decide +kernel
theorem dc_5_1_42 : decode prog_5_method_1_code 42 = .ok (.sipush 200, 3) := by decide +kernel
theorem dc_5_1_45 : decode prog_5_method_1_code 45 = .ok (.newarray .int, 2) := by decide +kernel
theorem dc_5_1_47 : decode prog_5_method_1_code 47 = .ok (.putfield 28, 3) := by decide +kernel
theorem dc_5_1_50 : decode prog_5_method_1_code 50 = .ok (.return_, 1) := by decide +kernel
theorem dc_6_1_0 : decode prog_6_method_1_code 0 = .ok (.aload_n 0, 1) := by decide +kernel
theorem dc_6_1_1 : decode prog_6_method_1_code 1 = .ok (.invokespecial 3, 3) := by decide +kernel
theorem dc_6_1_4 : decode prog_6_method_1_code 4 = .ok (.aload_n 0, 1) := by decide +kernel
theorem dc_6_1_5 : decode prog_6_method_1_code 5 = .ok (.iconst 3, 1) := by decide +kernel
theorem dc_6_1_6 : decode prog_6_method_1_code 6 = .ok (.bipush 101, 2) := by decide +kernel
theorem dc_6_1_8 : decode prog_6_method_1_code 8 = .ok (.multianewarray 11 2, 4) := by decide +kernel
theorem dc_6_1_12 : decode prog_6_method_1_code 12 = .ok (.putfield 13, 3) := by decide +kernel
theorem dc_6_1_15 : decode prog_6_method_1_code 15 = .ok (.return_, 1) := by decide +kernel
theorem iv_2_i1 : mm_iv 2 (.invokespecial 1) = some (7, 0) := by decide +kernel
theorem iv_3_i3 : mm_iv 3 (.invokespecial 3) = some (7, 0) := by decide +kernel
theorem iv_4_i3 : mm_iv 4 (.invokespecial 3) = some (7, 0) := by decide +kernel
theorem iv_5_i3 : mm_iv 5 (.invokespecial 3) = some (7, 0) := by decide +kernel
theorem iv_8_i3 : mm_iv 8 (.invokespecial 3) = some (7, 0) := by decide +kernel
theorem cw2_o (cs : Nat → Nat → Int32) (m n : Nat) {a : Nat} (h : ¬ (m < a ∧ a < m + 1 + n)) : cw2 cs m n a = cs a := if_neg h
set_option maxHeartbeats 4000000 in
theorem k_iTape (e : Nat → Nat) (sl : Nat) (f : Nat → va_E) (T : Nat → mT) (cs : Nat → Nat → Int32) (hT : T 10 = (2, 0, fun _ => none)) : ∃ (T2 : Nat → mT), ∃ (cs2 : Nat → Nat → Int32), ((∀ a, 10 ≤ a → a < 12 → T2 a = cT e a) ∧ (∀ a, a < 10 → T2 a = T a) ∧ (∀ a, a < 10 → cs2 a = cs a) ∧ cs2 10 1 = nI 0 ∧ ∀ j, cs2 11 j = 0) ∧ mm_Ev 1 3 [.ref 10] (hk ((11, sl + 0, f)) T cs) ((none, hk (12, sl + 80, f) T2 cs2)) := by
  have hq9 : ∃ z, (fun r9 => ∃ (T2 : Nat → mT), ∃ (cs2 : Nat → Nat → Int32), ((∀ a, 10 ≤ a → a < 12 → T2 a = cT e a) ∧ (∀ a, a < 10 → T2 a = T a) ∧ (∀ a, a < 10 → cs2 a = cs a) ∧ cs2 10 1 = nI 0 ∧ ∀ j, cs2 11 j = 0) ∧ r9 = ((none, hk (12, sl + 80, f) T2 cs2))) z ∧ mm_Ev 1 3 [.ref 10] (hk ((11, sl + 0, f)) T cs) z := by
    refine r_evQ (by decide +kernel) (show (1 : Nat) ≤ mm_nL 3 by decide +kernel) ?_
    show mm_Ru 0 (2, 1, true, prog_11_method_1_code, none) 0 [(0, .ref 10)] [] (hk ((11, sl + 0, f)) T cs) (fun r9 => ∃ (T2 : Nat → mT), ∃ (cs2 : Nat → Nat → Int32), ((∀ a, 10 ≤ a → a < 12 → T2 a = cT e a) ∧ (∀ a, a < 10 → T2 a = T a) ∧ (∀ a, a < 10 → cs2 a = cs a) ∧ cs2 10 1 = nI 0 ∧ ∀ j, cs2 11 j = 0) ∧ r9 = ((none, hk (12, sl + 80, f) T2 cs2)))
    refine r_aload_n rfl dc_11_1_0 ?_
    refine r_obj (C := (2, 1, true, prog_11_method_1_code, none)) (j := 0) dc_11_1_1 rfl rfl iv_2_i1 (show (0 : Nat) ≤ 8 by decide) ?_
    refine r_aload_n rfl dc_11_1_4 ?_
    refine r_bipush (v := nI 80) (by decide) dc_11_1_5 ?_
    refine h_newi (n := 80) (by show 11 < 1000000; omega) (by show ¬ (100 ≤ 11 ∧ 11 < 157); omega) (by omega) dc_11_1_7 ?_
    show mm_Ru 0 (2, 1, true, prog_11_method_1_code, none) 9 [(0, .ref 10)] [.ref 11, .ref 10] (hk ((12, sl + 80, f)) (va_up T 11 ((20, 80, fun _ => none))) (wA cs 11 (fun _ => 0))) (fun r9 => ∃ (T2 : Nat → mT), ∃ (cs2 : Nat → Nat → Int32), ((∀ a, 10 ≤ a → a < 12 → T2 a = cT e a) ∧ (∀ a, a < 10 → T2 a = T a) ∧ (∀ a, a < 10 → cs2 a = cs a) ∧ cs2 10 1 = nI 0 ∧ ∀ j, cs2 11 j = 0) ∧ r9 = ((none, hk (12, sl + 80, f) T2 cs2)))
    refine h_pref (t := (2, 0, fun _ => none)) (t2 := (2, 0, rl [(0, 11)])) fx_2_9 hT ⟨by show 10 < 12; omega, by omega⟩ (Or.inr ⟨rfl, rfl⟩) rfl rfl (rfl) dc_11_1_9 ?_
    show mm_Ru 0 (2, 1, true, prog_11_method_1_code, none) 12 [(0, .ref 10)] [] (hk ((12, sl + 80, f)) (va_up (va_up T 11 ((20, 80, fun _ => none))) 10 ((2, 0, rl [(0, 11)]))) (wA cs 11 (fun _ => 0))) (fun r9 => ∃ (T2 : Nat → mT), ∃ (cs2 : Nat → Nat → Int32), ((∀ a, 10 ≤ a → a < 12 → T2 a = cT e a) ∧ (∀ a, a < 10 → T2 a = T a) ∧ (∀ a, a < 10 → cs2 a = cs a) ∧ cs2 10 1 = nI 0 ∧ ∀ j, cs2 11 j = 0) ∧ r9 = ((none, hk (12, sl + 80, f) T2 cs2)))
    refine r_aload_n rfl dc_11_1_12 ?_
    refine r_iconst (v := nI 0) (by decide) dc_11_1_13 ?_
    refine h_pint (t := (2, 0, rl [(0, 11)])) fx_2_13 rfl ⟨by show 10 < 12; omega, by omega⟩ (Or.inl fn_2_1) ty_2_1 (pi_2_1 _ _ _ _) dc_11_1_14 ?_
    refine r_vret rfl dc_11_1_17 ?_
    refine ⟨_, _, ⟨fun a h1 h2 => ?_, fun a ha => ?_, fun a ha => ?_, ?_, ?_⟩, rfl⟩
    · rcases (by omega : a = 10 ∨ a = 11) with rfl | rfl <;> first | rfl | (show _ = (3, 0, rl [(0, e 3), (4, 14)]); rw [he3]; rfl)
    · simp only [va_up, tw2]; repeat rw [if_neg (by omega)]
    · repeat (first | rw [wA_o _ _ (by omega)] | rw [w1_n _ _ _ (by omega)] | rw [cw2_o _ _ _ (by omega)])
    · exact w1_s _ _ _ _
    · intro j; rfl
  obtain ⟨z9, ⟨T2, cs2, p9, e9⟩, h9⟩ := hq9
  subst e9
  exact ⟨T2, cs2, p9, h9⟩
set_option maxHeartbeats 4000000 in
theorem k_iRead (e : Nat → Nat) (sl : Nat) (f : Nat → va_E) (T : Nat → mT) (cs : Nat → Nat → Int32) (he3 : e 3 = 13) (hT : T 12 = (3, 0, fun _ => none)) : ∃ (T2 : Nat → mT), ∃ (cs2 : Nat → Nat → Int32), ((∀ a, 12 ≤ a → a < 15 → T2 a = cT e a) ∧ (∀ a, a < 12 → T2 a = T a) ∧ (∀ a, a < 12 → cs2 a = cs a)) ∧ mm_Ev 1 4 [.ref 12] (hk ((13, sl + 0, f)) T cs) ((none, hk (15, sl + 60, f) T2 cs2)) := by
  have hq9 : ∃ z, (fun r9 => ∃ (T2 : Nat → mT), ∃ (cs2 : Nat → Nat → Int32), ((∀ a, 12 ≤ a → a < 15 → T2 a = cT e a) ∧ (∀ a, a < 12 → T2 a = T a) ∧ (∀ a, a < 12 → cs2 a = cs a)) ∧ r9 = ((none, hk (15, sl + 60, f) T2 cs2))) z ∧ mm_Ev 1 4 [.ref 12] (hk ((13, sl + 0, f)) T cs) z := by
    refine r_evQ (by decide +kernel) (show (1 : Nat) ≤ mm_nL 4 by decide +kernel) ?_
    show mm_Ru 0 (3, 1, true, prog_12_method_1_code, none) 0 [(0, .ref 12)] [] (hk ((13, sl + 0, f)) T cs) (fun r9 => ∃ (T2 : Nat → mT), ∃ (cs2 : Nat → Nat → Int32), ((∀ a, 12 ≤ a → a < 15 → T2 a = cT e a) ∧ (∀ a, a < 12 → T2 a = T a) ∧ (∀ a, a < 12 → cs2 a = cs a)) ∧ r9 = ((none, hk (15, sl + 60, f) T2 cs2)))
    refine r_aload_n rfl dc_12_1_0 ?_
    refine r_obj (C := (3, 1, true, prog_12_method_1_code, none)) (j := 0) dc_12_1_1 rfl rfl iv_3_i3 (show (0 : Nat) ≤ 8 by decide) ?_
    refine r_aload_n rfl dc_12_1_4 ?_
    refine r_iconst (v := nI 0) (by decide) dc_12_1_5 ?_
    refine h_newi (n := 0) (by show 13 < 1000000; omega) (by show ¬ (100 ≤ 13 ∧ 13 < 157); omega) (by omega) dc_12_1_6 ?_
    show mm_Ru 0 (3, 1, true, prog_12_method_1_code, none) 8 [(0, .ref 12)] [.ref 13, .ref 12] (hk ((14, sl + 0, f)) (va_up T 13 ((20, 0, fun _ => none))) (wA cs 13 (fun _ => 0))) (fun r9 => ∃ (T2 : Nat → mT), ∃ (cs2 : Nat → Nat → Int32), ((∀ a, 12 ≤ a → a < 15 → T2 a = cT e a) ∧ (∀ a, a < 12 → T2 a = T a) ∧ (∀ a, a < 12 → cs2 a = cs a)) ∧ r9 = ((none, hk (15, sl + 60, f) T2 cs2)))
    refine h_pref (t := (3, 0, fun _ => none)) (t2 := (3, 0, rl [(0, 13)])) fx_3_9 hT ⟨by show 12 < 14; omega, by omega⟩ (Or.inl fn_3_0) rfl rfl (rfl) dc_12_1_8 ?_
    show mm_Ru 0 (3, 1, true, prog_12_method_1_code, none) 11 [(0, .ref 12)] [] (hk ((14, sl + 0, f)) (va_up (va_up T 13 ((20, 0, fun _ => none))) 12 ((3, 0, rl [(0, 13)]))) (wA cs 13 (fun _ => 0))) (fun r9 => ∃ (T2 : Nat → mT), ∃ (cs2 : Nat → Nat → Int32), ((∀ a, 12 ≤ a → a < 15 → T2 a = cT e a) ∧ (∀ a, a < 12 → T2 a = T a) ∧ (∀ a, a < 12 → cs2 a = cs a)) ∧ r9 = ((none, hk (15, sl + 60, f) T2 cs2)))
    refine r_aload_n rfl dc_12_1_11 ?_
    refine r_bipush (v := nI 60) (by decide) dc_12_1_12 ?_
    refine h_newi (n := 60) (by show 14 < 1000000; omega) (by show ¬ (100 ≤ 14 ∧ 14 < 157); omega) (by omega) dc_12_1_14 ?_
    show mm_Ru 0 (3, 1, true, prog_12_method_1_code, none) 16 [(0, .ref 12)] [.ref 14, .ref 12] (hk ((15, sl + 60, f)) (va_up (va_up (va_up T 13 ((20, 0, fun _ => none))) 12 ((3, 0, rl [(0, 13)]))) 14 ((20, 60, fun _ => none))) (wA (wA cs 13 (fun _ => 0)) 14 (fun _ => 0))) (fun r9 => ∃ (T2 : Nat → mT), ∃ (cs2 : Nat → Nat → Int32), ((∀ a, 12 ≤ a → a < 15 → T2 a = cT e a) ∧ (∀ a, a < 12 → T2 a = T a) ∧ (∀ a, a < 12 → cs2 a = cs a)) ∧ r9 = ((none, hk (15, sl + 60, f) T2 cs2)))
    refine h_pref (t := (3, 0, rl [(0, 13)])) (t2 := (3, 0, rl [(0, 13), (4, 14)])) fx_3_15 rfl ⟨by show 12 < 15; omega, by omega⟩ (Or.inr ⟨rfl, rfl⟩) rfl rfl (rfl) dc_12_1_16 ?_
    show mm_Ru 0 (3, 1, true, prog_12_method_1_code, none) 19 [(0, .ref 12)] [] (hk ((15, sl + 60, f)) (va_up (va_up (va_up (va_up T 13 ((20, 0, fun _ => none))) 12 ((3, 0, rl [(0, 13)]))) 14 ((20, 60, fun _ => none))) 12 ((3, 0, rl [(0, 13), (4, 14)]))) (wA (wA cs 13 (fun _ => 0)) 14 (fun _ => 0))) (fun r9 => ∃ (T2 : Nat → mT), ∃ (cs2 : Nat → Nat → Int32), ((∀ a, 12 ≤ a → a < 15 → T2 a = cT e a) ∧ (∀ a, a < 12 → T2 a = T a) ∧ (∀ a, a < 12 → cs2 a = cs a)) ∧ r9 = ((none, hk (15, sl + 60, f) T2 cs2)))
    refine r_vret rfl dc_12_1_19 ?_
    refine ⟨_, _, ⟨fun a h1 h2 => ?_, fun a ha => ?_, fun a ha => ?_⟩, rfl⟩
    · rcases (by omega : a = 12 ∨ a = 13 ∨ a = 14) with rfl | rfl | rfl <;> first | rfl | (show _ = (3, 0, rl [(0, e 3), (4, 14)]); rw [he3]; rfl)
    · simp only [va_up, tw2]; repeat rw [if_neg (by omega)]
    · repeat (first | rw [wA_o _ _ (by omega)] | rw [w1_n _ _ _ (by omega)] | rw [cw2_o _ _ _ (by omega)])
  obtain ⟨z9, ⟨T2, cs2, p9, e9⟩, h9⟩ := hq9
  subst e9
  exact ⟨T2, cs2, p9, h9⟩
set_option maxHeartbeats 4000000 in
theorem k_iFact (e : Nat → Nat) (sl : Nat) (f : Nat → va_E) (T : Nat → mT) (cs : Nat → Nat → Int32) (hT : T 20 = (5, 0, fun _ => none)) : ∃ (T2 : Nat → mT), ∃ (cs2 : Nat → Nat → Int32), ((∀ a, 20 ≤ a → a < 25 → T2 a = cT e a) ∧ (∀ a, a < 20 → T2 a = T a) ∧ (∀ a, a < 20 → cs2 a = cs a) ∧ cs2 20 0 = nI 0 ∧ cs2 20 1 = nI 0 ∧ ∀ j, cs2 21 j = 0 ∧ cs2 22 j = 0 ∧ cs2 23 j = 0 ∧ cs2 24 j = 0) ∧ mm_Ev 1 6 [.ref 20] (hk ((21, sl + 0, f)) T cs) ((none, hk (25, sl + 800, f) T2 cs2)) := by
  have hq9 : ∃ z, (fun r9 => ∃ (T2 : Nat → mT), ∃ (cs2 : Nat → Nat → Int32), ((∀ a, 20 ≤ a → a < 25 → T2 a = cT e a) ∧ (∀ a, a < 20 → T2 a = T a) ∧ (∀ a, a < 20 → cs2 a = cs a) ∧ cs2 20 0 = nI 0 ∧ cs2 20 1 = nI 0 ∧ ∀ j, cs2 21 j = 0 ∧ cs2 22 j = 0 ∧ cs2 23 j = 0 ∧ cs2 24 j = 0) ∧ r9 = ((none, hk (25, sl + 800, f) T2 cs2))) z ∧ mm_Ev 1 6 [.ref 20] (hk ((21, sl + 0, f)) T cs) z := by
    refine r_evQ (by decide +kernel) (show (1 : Nat) ≤ mm_nL 6 by decide +kernel) ?_
    show mm_Ru 0 (5, 1, true, prog_5_method_1_code, none) 0 [(0, .ref 20)] [] (hk ((21, sl + 0, f)) T cs) (fun r9 => ∃ (T2 : Nat → mT), ∃ (cs2 : Nat → Nat → Int32), ((∀ a, 20 ≤ a → a < 25 → T2 a = cT e a) ∧ (∀ a, a < 20 → T2 a = T a) ∧ (∀ a, a < 20 → cs2 a = cs a) ∧ cs2 20 0 = nI 0 ∧ cs2 20 1 = nI 0 ∧ ∀ j, cs2 21 j = 0 ∧ cs2 22 j = 0 ∧ cs2 23 j = 0 ∧ cs2 24 j = 0) ∧ r9 = ((none, hk (25, sl + 800, f) T2 cs2)))
    refine r_aload_n rfl dc_5_1_0 ?_
    refine r_obj (C := (5, 1, true, prog_5_method_1_code, none)) (j := 0) dc_5_1_1 rfl rfl iv_5_i3 (show (0 : Nat) ≤ 8 by decide) ?_
    refine r_aload_n rfl dc_5_1_4 ?_
    refine r_iconst (v := nI 0) (by decide) dc_5_1_5 ?_
    refine h_pint (t := (5, 0, fun _ => none)) fx_5_9 hT ⟨by show 20 < 21; omega, by omega⟩ (Or.inl fn_5_0) ty_5_0 (pi_5_0 _ _ _ _) dc_5_1_6 ?_
    refine r_aload_n rfl dc_5_1_9 ?_
    refine r_iconst (v := nI 0) (by decide) dc_5_1_10 ?_
    refine h_pint (t := (5, 0, fun _ => none)) fx_5_15 hT ⟨by show 20 < 21; omega, by omega⟩ (Or.inl fn_5_1) ty_5_1 (pi_5_1 _ _ _ _) dc_5_1_11 ?_
    refine r_aload_n rfl dc_5_1_14 ?_
    refine r_sipush (v := nI 200) (by decide) dc_5_1_15 ?_
    refine h_newi (n := 200) (by show 21 < 1000000; omega) (by show ¬ (100 ≤ 21 ∧ 21 < 157); omega) (by omega) dc_5_1_18 ?_
    show mm_Ru 0 (5, 1, true, prog_5_method_1_code, none) 20 [(0, .ref 20)] [.ref 21, .ref 20] (hk ((22, sl + 200, f)) (va_up T 21 ((20, 200, fun _ => none))) (wA (w1 (w1 cs 20 0 (nI 0)) 20 1 (nI 0)) 21 (fun _ => 0))) (fun r9 => ∃ (T2 : Nat → mT), ∃ (cs2 : Nat → Nat → Int32), ((∀ a, 20 ≤ a → a < 25 → T2 a = cT e a) ∧ (∀ a, a < 20 → T2 a = T a) ∧ (∀ a, a < 20 → cs2 a = cs a) ∧ cs2 20 0 = nI 0 ∧ cs2 20 1 = nI 0 ∧ ∀ j, cs2 21 j = 0 ∧ cs2 22 j = 0 ∧ cs2 23 j = 0 ∧ cs2 24 j = 0) ∧ r9 = ((none, hk (25, sl + 800, f) T2 cs2)))
    refine h_pref (t := (5, 0, fun _ => none)) (t2 := (5, 0, rl [(2, 21)])) fx_5_18 hT ⟨by show 20 < 22; omega, by omega⟩ (Or.inr ⟨rfl, rfl⟩) rfl rfl (rfl) dc_5_1_20 ?_
    show mm_Ru 0 (5, 1, true, prog_5_method_1_code, none) 23 [(0, .ref 20)] [] (hk ((22, sl + 200, f)) (va_up (va_up T 21 ((20, 200, fun _ => none))) 20 ((5, 0, rl [(2, 21)]))) (wA (w1 (w1 cs 20 0 (nI 0)) 20 1 (nI 0)) 21 (fun _ => 0))) (fun r9 => ∃ (T2 : Nat → mT), ∃ (cs2 : Nat → Nat → Int32), ((∀ a, 20 ≤ a → a < 25 → T2 a = cT e a) ∧ (∀ a, a < 20 → T2 a = T a) ∧ (∀ a, a < 20 → cs2 a = cs a) ∧ cs2 20 0 = nI 0 ∧ cs2 20 1 = nI 0 ∧ ∀ j, cs2 21 j = 0 ∧ cs2 22 j = 0 ∧ cs2 23 j = 0 ∧ cs2 24 j = 0) ∧ r9 = ((none, hk (25, sl + 800, f) T2 cs2)))
    refine r_aload_n rfl dc_5_1_23 ?_
    refine r_sipush (v := nI 200) (by decide) dc_5_1_24 ?_
    refine h_newi (n := 200) (by show 22 < 1000000; omega) (by show ¬ (100 ≤ 22 ∧ 22 < 157); omega) (by omega) dc_5_1_27 ?_
    show mm_Ru 0 (5, 1, true, prog_5_method_1_code, none) 29 [(0, .ref 20)] [.ref 22, .ref 20] (hk ((23, sl + 400, f)) (va_up (va_up (va_up T 21 ((20, 200, fun _ => none))) 20 ((5, 0, rl [(2, 21)]))) 22 ((20, 200, fun _ => none))) (wA (wA (w1 (w1 cs 20 0 (nI 0)) 20 1 (nI 0)) 21 (fun _ => 0)) 22 (fun _ => 0))) (fun r9 => ∃ (T2 : Nat → mT), ∃ (cs2 : Nat → Nat → Int32), ((∀ a, 20 ≤ a → a < 25 → T2 a = cT e a) ∧ (∀ a, a < 20 → T2 a = T a) ∧ (∀ a, a < 20 → cs2 a = cs a) ∧ cs2 20 0 = nI 0 ∧ cs2 20 1 = nI 0 ∧ ∀ j, cs2 21 j = 0 ∧ cs2 22 j = 0 ∧ cs2 23 j = 0 ∧ cs2 24 j = 0) ∧ r9 = ((none, hk (25, sl + 800, f) T2 cs2)))
    refine h_pref (t := (5, 0, rl [(2, 21)])) (t2 := (5, 0, rl [(2, 21), (3, 22)])) fx_5_22 rfl ⟨by show 20 < 23; omega, by omega⟩ (Or.inr ⟨rfl, rfl⟩) rfl rfl (rfl) dc_5_1_29 ?_
    show mm_Ru 0 (5, 1, true, prog_5_method_1_code, none) 32 [(0, .ref 20)] [] (hk ((23, sl + 400, f)) (va_up (va_up (va_up (va_up T 21 ((20, 200, fun _ => none))) 20 ((5, 0, rl [(2, 21)]))) 22 ((20, 200, fun _ => none))) 20 ((5, 0, rl [(2, 21), (3, 22)]))) (wA (wA (w1 (w1 cs 20 0 (nI 0)) 20 1 (nI 0)) 21 (fun _ => 0)) 22 (fun _ => 0))) (fun r9 => ∃ (T2 : Nat → mT), ∃ (cs2 : Nat → Nat → Int32), ((∀ a, 20 ≤ a → a < 25 → T2 a = cT e a) ∧ (∀ a, a < 20 → T2 a = T a) ∧ (∀ a, a < 20 → cs2 a = cs a) ∧ cs2 20 0 = nI 0 ∧ cs2 20 1 = nI 0 ∧ ∀ j, cs2 21 j = 0 ∧ cs2 22 j = 0 ∧ cs2 23 j = 0 ∧ cs2 24 j = 0) ∧ r9 = ((none, hk (25, sl + 800, f) T2 cs2)))
    refine r_aload_n rfl dc_5_1_32 ?_
    refine r_sipush (v := nI 200) (by decide) dc_5_1_33 ?_
    refine h_newi (n := 200) (by show 23 < 1000000; omega) (by show ¬ (100 ≤ 23 ∧ 23 < 157); omega) (by omega) dc_5_1_36 ?_
    show mm_Ru 0 (5, 1, true, prog_5_method_1_code, none) 38 [(0, .ref 20)] [.ref 23, .ref 20] (hk ((24, sl + 600, f)) (va_up (va_up (va_up (va_up (va_up T 21 ((20, 200, fun _ => none))) 20 ((5, 0, rl [(2, 21)]))) 22 ((20, 200, fun _ => none))) 20 ((5, 0, rl [(2, 21), (3, 22)]))) 23 ((20, 200, fun _ => none))) (wA (wA (wA (w1 (w1 cs 20 0 (nI 0)) 20 1 (nI 0)) 21 (fun _ => 0)) 22 (fun _ => 0)) 23 (fun _ => 0))) (fun r9 => ∃ (T2 : Nat → mT), ∃ (cs2 : Nat → Nat → Int32), ((∀ a, 20 ≤ a → a < 25 → T2 a = cT e a) ∧ (∀ a, a < 20 → T2 a = T a) ∧ (∀ a, a < 20 → cs2 a = cs a) ∧ cs2 20 0 = nI 0 ∧ cs2 20 1 = nI 0 ∧ ∀ j, cs2 21 j = 0 ∧ cs2 22 j = 0 ∧ cs2 23 j = 0 ∧ cs2 24 j = 0) ∧ r9 = ((none, hk (25, sl + 800, f) T2 cs2)))
    refine h_pref (t := (5, 0, rl [(2, 21), (3, 22)])) (t2 := (5, 0, rl [(2, 21), (3, 22), (4, 23)])) fx_5_25 rfl ⟨by show 20 < 24; omega, by omega⟩ (Or.inr ⟨rfl, rfl⟩) rfl rfl (rfl) dc_5_1_38 ?_
    show mm_Ru 0 (5, 1, true, prog_5_method_1_code, none) 41 [(0, .ref 20)] [] (hk ((24, sl + 600, f)) (va_up (va_up (va_up (va_up (va_up (va_up T 21 ((20, 200, fun _ => none))) 20 ((5, 0, rl [(2, 21)]))) 22 ((20, 200, fun _ => none))) 20 ((5, 0, rl [(2, 21), (3, 22)]))) 23 ((20, 200, fun _ => none))) 20 ((5, 0, rl [(2, 21), (3, 22), (4, 23)]))) (wA (wA (wA (w1 (w1 cs 20 0 (nI 0)) 20 1 (nI 0)) 21 (fun _ => 0)) 22 (fun _ => 0)) 23 (fun _ => 0))) (fun r9 => ∃ (T2 : Nat → mT), ∃ (cs2 : Nat → Nat → Int32), ((∀ a, 20 ≤ a → a < 25 → T2 a = cT e a) ∧ (∀ a, a < 20 → T2 a = T a) ∧ (∀ a, a < 20 → cs2 a = cs a) ∧ cs2 20 0 = nI 0 ∧ cs2 20 1 = nI 0 ∧ ∀ j, cs2 21 j = 0 ∧ cs2 22 j = 0 ∧ cs2 23 j = 0 ∧ cs2 24 j = 0) ∧ r9 = ((none, hk (25, sl + 800, f) T2 cs2)))
    refine r_aload_n rfl dc_5_1_41 ?_
    refine r_sipush (v := nI 200) (by decide) dc_5_1_42 ?_
    refine h_newi (n := 200) (by show 24 < 1000000; omega) (by show ¬ (100 ≤ 24 ∧ 24 < 157); omega) (by omega) dc_5_1_45 ?_
    show mm_Ru 0 (5, 1, true, prog_5_method_1_code, none) 47 [(0, .ref 20)] [.ref 24, .ref 20] (hk ((25, sl + 800, f)) (va_up (va_up (va_up (va_up (va_up (va_up (va_up T 21 ((20, 200, fun _ => none))) 20 ((5, 0, rl [(2, 21)]))) 22 ((20, 200, fun _ => none))) 20 ((5, 0, rl [(2, 21), (3, 22)]))) 23 ((20, 200, fun _ => none))) 20 ((5, 0, rl [(2, 21), (3, 22), (4, 23)]))) 24 ((20, 200, fun _ => none))) (wA (wA (wA (wA (w1 (w1 cs 20 0 (nI 0)) 20 1 (nI 0)) 21 (fun _ => 0)) 22 (fun _ => 0)) 23 (fun _ => 0)) 24 (fun _ => 0))) (fun r9 => ∃ (T2 : Nat → mT), ∃ (cs2 : Nat → Nat → Int32), ((∀ a, 20 ≤ a → a < 25 → T2 a = cT e a) ∧ (∀ a, a < 20 → T2 a = T a) ∧ (∀ a, a < 20 → cs2 a = cs a) ∧ cs2 20 0 = nI 0 ∧ cs2 20 1 = nI 0 ∧ ∀ j, cs2 21 j = 0 ∧ cs2 22 j = 0 ∧ cs2 23 j = 0 ∧ cs2 24 j = 0) ∧ r9 = ((none, hk (25, sl + 800, f) T2 cs2)))
    refine h_pref (t := (5, 0, rl [(2, 21), (3, 22), (4, 23)])) (t2 := (5, 0, rl [(2, 21), (3, 22), (4, 23), (5, 24)])) fx_5_28 rfl ⟨by show 20 < 25; omega, by omega⟩ (Or.inr ⟨rfl, rfl⟩) rfl rfl (rfl) dc_5_1_47 ?_
    show mm_Ru 0 (5, 1, true, prog_5_method_1_code, none) 50 [(0, .ref 20)] [] (hk ((25, sl + 800, f)) (va_up (va_up (va_up (va_up (va_up (va_up (va_up (va_up T 21 ((20, 200, fun _ => none))) 20 ((5, 0, rl [(2, 21)]))) 22 ((20, 200, fun _ => none))) 20 ((5, 0, rl [(2, 21), (3, 22)]))) 23 ((20, 200, fun _ => none))) 20 ((5, 0, rl [(2, 21), (3, 22), (4, 23)]))) 24 ((20, 200, fun _ => none))) 20 ((5, 0, rl [(2, 21), (3, 22), (4, 23), (5, 24)]))) (wA (wA (wA (wA (w1 (w1 cs 20 0 (nI 0)) 20 1 (nI 0)) 21 (fun _ => 0)) 22 (fun _ => 0)) 23 (fun _ => 0)) 24 (fun _ => 0))) (fun r9 => ∃ (T2 : Nat → mT), ∃ (cs2 : Nat → Nat → Int32), ((∀ a, 20 ≤ a → a < 25 → T2 a = cT e a) ∧ (∀ a, a < 20 → T2 a = T a) ∧ (∀ a, a < 20 → cs2 a = cs a) ∧ cs2 20 0 = nI 0 ∧ cs2 20 1 = nI 0 ∧ ∀ j, cs2 21 j = 0 ∧ cs2 22 j = 0 ∧ cs2 23 j = 0 ∧ cs2 24 j = 0) ∧ r9 = ((none, hk (25, sl + 800, f) T2 cs2)))
    refine r_vret rfl dc_5_1_50 ?_
    refine ⟨_, _, ⟨fun a h1 h2 => ?_, fun a ha => ?_, fun a ha => ?_, ?_, ?_, ?_⟩, rfl⟩
    · rcases (by omega : a = 20 ∨ a = 21 ∨ a = 22 ∨ a = 23 ∨ a = 24) with rfl | rfl | rfl | rfl | rfl <;> first | rfl | (show _ = (3, 0, rl [(0, e 3), (4, 14)]); rw [he3]; rfl)
    · simp only [va_up, tw2]; repeat rw [if_neg (by omega)]
    · repeat (first | rw [wA_o _ _ (by omega)] | rw [w1_n _ _ _ (by omega)] | rw [cw2_o _ _ _ (by omega)])
    · rfl
    · rfl
    · intro j; exact ⟨rfl, rfl, rfl, rfl⟩
  obtain ⟨z9, ⟨T2, cs2, p9, e9⟩, h9⟩ := hq9
  subst e9
  exact ⟨T2, cs2, p9, h9⟩
set_option maxHeartbeats 4000000 in
theorem k_iGrid (e : Nat → Nat) (sl : Nat) (f : Nat → va_E) (T : Nat → mT) (cs : Nat → Nat → Int32) (hT : T 15 = (4, 0, fun _ => none)) : ∃ (T2 : Nat → mT), ∃ (cs2 : Nat → Nat → Int32), ((∀ a, 15 ≤ a → a < 20 → T2 a = cT e a) ∧ (∀ a, a < 15 → T2 a = T a) ∧ (∀ a, a < 15 → cs2 a = cs a)) ∧ mm_Ev 1 5 [.ref 15] (hk ((16, sl + 0, f)) T cs) ((none, hk (20, sl + 306, f) T2 cs2)) := by
  have hq9 : ∃ z, (fun r9 => ∃ (T2 : Nat → mT), ∃ (cs2 : Nat → Nat → Int32), ((∀ a, 15 ≤ a → a < 20 → T2 a = cT e a) ∧ (∀ a, a < 15 → T2 a = T a) ∧ (∀ a, a < 15 → cs2 a = cs a)) ∧ r9 = ((none, hk (20, sl + 306, f) T2 cs2))) z ∧ mm_Ev 1 5 [.ref 15] (hk ((16, sl + 0, f)) T cs) z := by
    refine r_evQ (by decide +kernel) (show (1 : Nat) ≤ mm_nL 5 by decide +kernel) ?_
    show mm_Ru 0 (4, 1, true, prog_6_method_1_code, none) 0 [(0, .ref 15)] [] (hk ((16, sl + 0, f)) T cs) (fun r9 => ∃ (T2 : Nat → mT), ∃ (cs2 : Nat → Nat → Int32), ((∀ a, 15 ≤ a → a < 20 → T2 a = cT e a) ∧ (∀ a, a < 15 → T2 a = T a) ∧ (∀ a, a < 15 → cs2 a = cs a)) ∧ r9 = ((none, hk (20, sl + 306, f) T2 cs2)))
    refine r_aload_n rfl dc_6_1_0 ?_
    refine r_obj (C := (4, 1, true, prog_6_method_1_code, none)) (j := 0) dc_6_1_1 rfl rfl iv_4_i3 (show (0 : Nat) ≤ 8 by decide) ?_
    refine r_aload_n rfl dc_6_1_4 ?_
    refine r_iconst (v := nI 3) (by decide) dc_6_1_5 ?_
    refine r_bipush (v := nI 101) (by decide) dc_6_1_6 ?_
    refine h_mul (n := 3) (k := 101) (by decide) (Or.inl (by show 16 + 1 + 3 ≤ 100; decide)) (by show 16 + 1 + 3 ≤ 1000000; decide) (by decide) (by decide) dc_6_1_8 ?_
    show mm_Ru 0 (4, 1, true, prog_6_method_1_code, none) 12 [(0, .ref 15)] [.ref 16, .ref 15] (hk ((20, sl + 306, f)) (tw2 T 16 3 101) (cw2 cs 16 3)) (fun r9 => ∃ (T2 : Nat → mT), ∃ (cs2 : Nat → Nat → Int32), ((∀ a, 15 ≤ a → a < 20 → T2 a = cT e a) ∧ (∀ a, a < 15 → T2 a = T a) ∧ (∀ a, a < 15 → cs2 a = cs a)) ∧ r9 = ((none, hk (20, sl + 306, f) T2 cs2)))
    refine h_pref (t := (4, 0, fun _ => none)) (t2 := (4, 0, rl [(0, 16)])) fx_4_13 hT ⟨by show 15 < 20; omega, by omega⟩ (Or.inr ⟨rfl, rfl⟩) rfl rfl (rfl) dc_6_1_12 ?_
    show mm_Ru 0 (4, 1, true, prog_6_method_1_code, none) 15 [(0, .ref 15)] [] (hk ((20, sl + 306, f)) (va_up (tw2 T 16 3 101) 15 ((4, 0, rl [(0, 16)]))) (cw2 cs 16 3)) (fun r9 => ∃ (T2 : Nat → mT), ∃ (cs2 : Nat → Nat → Int32), ((∀ a, 15 ≤ a → a < 20 → T2 a = cT e a) ∧ (∀ a, a < 15 → T2 a = T a) ∧ (∀ a, a < 15 → cs2 a = cs a)) ∧ r9 = ((none, hk (20, sl + 306, f) T2 cs2)))
    refine r_vret rfl dc_6_1_15 ?_
    refine ⟨_, _, ⟨fun a h1 h2 => ?_, fun a ha => ?_, fun a ha => ?_⟩, rfl⟩
    · rcases (by omega : a = 15 ∨ a = 16 ∨ a = 17 ∨ a = 18 ∨ a = 19) with rfl | rfl | rfl | rfl | rfl <;> first | rfl | (show _ = (3, 0, rl [(0, e 3), (4, 14)]); rw [he3]; rfl)
    · simp only [va_up, tw2]; repeat rw [if_neg (by omega)]
    · repeat (first | rw [wA_o _ _ (by omega)] | rw [w1_n _ _ _ (by omega)] | rw [cw2_o _ _ _ (by omega)])
  obtain ⟨z9, ⟨T2, cs2, p9, e9⟩, h9⟩ := hq9
  subst e9
  exact ⟨T2, cs2, p9, h9⟩
set_option maxHeartbeats 4000000 in
theorem k_iBnd (e : Nat → Nat) (sl : Nat) (f : Nat → va_E) (T : Nat → mT) (cs : Nat → Nat → Int32) (hT : T 29 = (8, 0, fun _ => none)) : ∃ (T2 : Nat → mT), ∃ (cs2 : Nat → Nat → Int32), ((∀ a, 29 ≤ a → a < 37 → T2 a = cT e a) ∧ (∀ a, a < 29 → T2 a = T a) ∧ (∀ a, a < 29 → cs2 a = cs a)) ∧ mm_Ev 1 11 [.ref 29] (hk ((30, sl + 0, f)) T cs) ((none, hk (37, sl + 76, f) T2 cs2)) := by
  have hq9 : ∃ z, (fun r9 => ∃ (T2 : Nat → mT), ∃ (cs2 : Nat → Nat → Int32), ((∀ a, 29 ≤ a → a < 37 → T2 a = cT e a) ∧ (∀ a, a < 29 → T2 a = T a) ∧ (∀ a, a < 29 → cs2 a = cs a)) ∧ r9 = ((none, hk (37, sl + 76, f) T2 cs2))) z ∧ mm_Ev 1 11 [.ref 29] (hk ((30, sl + 0, f)) T cs) z := by
    refine r_evQ (by decide +kernel) (show (1 : Nat) ≤ mm_nL 11 by decide +kernel) ?_
    show mm_Ru 0 (8, 1, true, prog_3_method_1_code, none) 0 [(0, .ref 29)] [] (hk ((30, sl + 0, f)) T cs) (fun r9 => ∃ (T2 : Nat → mT), ∃ (cs2 : Nat → Nat → Int32), ((∀ a, 29 ≤ a → a < 37 → T2 a = cT e a) ∧ (∀ a, a < 29 → T2 a = T a) ∧ (∀ a, a < 29 → cs2 a = cs a)) ∧ r9 = ((none, hk (37, sl + 76, f) T2 cs2)))
    refine r_aload_n rfl dc_3_1_0 ?_
    refine r_obj (C := (8, 1, true, prog_3_method_1_code, none)) (j := 0) dc_3_1_1 rfl rfl iv_8_i3 (show (0 : Nat) ≤ 8 by decide) ?_
    refine r_aload_n rfl dc_3_1_4 ?_
    refine r_bipush (v := nI 12) (by decide) dc_3_1_5 ?_
    refine h_newi (n := 12) (by show 30 < 1000000; omega) (by show ¬ (100 ≤ 30 ∧ 30 < 157); omega) (by omega) dc_3_1_7 ?_
    show mm_Ru 0 (8, 1, true, prog_3_method_1_code, none) 9 [(0, .ref 29)] [.ref 30, .ref 29] (hk ((31, sl + 12, f)) (va_up T 30 ((20, 12, fun _ => none))) (wA cs 30 (fun _ => 0))) (fun r9 => ∃ (T2 : Nat → mT), ∃ (cs2 : Nat → Nat → Int32), ((∀ a, 29 ≤ a → a < 37 → T2 a = cT e a) ∧ (∀ a, a < 29 → T2 a = T a) ∧ (∀ a, a < 29 → cs2 a = cs a)) ∧ r9 = ((none, hk (37, sl + 76, f) T2 cs2)))
    refine h_pref (t := (8, 0, fun _ => none)) (t2 := (8, 0, rl [(0, 30)])) fx_8_9 hT ⟨by show 29 < 31; omega, by omega⟩ (Or.inr ⟨rfl, rfl⟩) rfl rfl (rfl) dc_3_1_9 ?_
    show mm_Ru 0 (8, 1, true, prog_3_method_1_code, none) 12 [(0, .ref 29)] [] (hk ((31, sl + 12, f)) (va_up (va_up T 30 ((20, 12, fun _ => none))) 29 ((8, 0, rl [(0, 30)]))) (wA cs 30 (fun _ => 0))) (fun r9 => ∃ (T2 : Nat → mT), ∃ (cs2 : Nat → Nat → Int32), ((∀ a, 29 ≤ a → a < 37 → T2 a = cT e a) ∧ (∀ a, a < 29 → T2 a = T a) ∧ (∀ a, a < 29 → cs2 a = cs a)) ∧ r9 = ((none, hk (37, sl + 76, f) T2 cs2)))
    refine r_aload_n rfl dc_3_1_12 ?_
    refine r_bipush (v := nI 12) (by decide) dc_3_1_13 ?_
    refine h_newi (n := 12) (by show 31 < 1000000; omega) (by show ¬ (100 ≤ 31 ∧ 31 < 157); omega) (by omega) dc_3_1_15 ?_
    show mm_Ru 0 (8, 1, true, prog_3_method_1_code, none) 17 [(0, .ref 29)] [.ref 31, .ref 29] (hk ((32, sl + 24, f)) (va_up (va_up (va_up T 30 ((20, 12, fun _ => none))) 29 ((8, 0, rl [(0, 30)]))) 31 ((20, 12, fun _ => none))) (wA (wA cs 30 (fun _ => 0)) 31 (fun _ => 0))) (fun r9 => ∃ (T2 : Nat → mT), ∃ (cs2 : Nat → Nat → Int32), ((∀ a, 29 ≤ a → a < 37 → T2 a = cT e a) ∧ (∀ a, a < 29 → T2 a = T a) ∧ (∀ a, a < 29 → cs2 a = cs a)) ∧ r9 = ((none, hk (37, sl + 76, f) T2 cs2)))
    refine h_pref (t := (8, 0, rl [(0, 30)])) (t2 := (8, 0, rl [(0, 30), (1, 31)])) fx_8_15 rfl ⟨by show 29 < 32; omega, by omega⟩ (Or.inr ⟨rfl, rfl⟩) rfl rfl (rfl) dc_3_1_17 ?_
    show mm_Ru 0 (8, 1, true, prog_3_method_1_code, none) 20 [(0, .ref 29)] [] (hk ((32, sl + 24, f)) (va_up (va_up (va_up (va_up T 30 ((20, 12, fun _ => none))) 29 ((8, 0, rl [(0, 30)]))) 31 ((20, 12, fun _ => none))) 29 ((8, 0, rl [(0, 30), (1, 31)]))) (wA (wA cs 30 (fun _ => 0)) 31 (fun _ => 0))) (fun r9 => ∃ (T2 : Nat → mT), ∃ (cs2 : Nat → Nat → Int32), ((∀ a, 29 ≤ a → a < 37 → T2 a = cT e a) ∧ (∀ a, a < 29 → T2 a = T a) ∧ (∀ a, a < 29 → cs2 a = cs a)) ∧ r9 = ((none, hk (37, sl + 76, f) T2 cs2)))
    refine r_aload_n rfl dc_3_1_20 ?_
    refine r_bipush (v := nI 8) (by decide) dc_3_1_21 ?_
    refine h_newi (n := 8) (by show 32 < 1000000; omega) (by show ¬ (100 ≤ 32 ∧ 32 < 157); omega) (by omega) dc_3_1_23 ?_
    show mm_Ru 0 (8, 1, true, prog_3_method_1_code, none) 25 [(0, .ref 29)] [.ref 32, .ref 29] (hk ((33, sl + 32, f)) (va_up (va_up (va_up (va_up (va_up T 30 ((20, 12, fun _ => none))) 29 ((8, 0, rl [(0, 30)]))) 31 ((20, 12, fun _ => none))) 29 ((8, 0, rl [(0, 30), (1, 31)]))) 32 ((20, 8, fun _ => none))) (wA (wA (wA cs 30 (fun _ => 0)) 31 (fun _ => 0)) 32 (fun _ => 0))) (fun r9 => ∃ (T2 : Nat → mT), ∃ (cs2 : Nat → Nat → Int32), ((∀ a, 29 ≤ a → a < 37 → T2 a = cT e a) ∧ (∀ a, a < 29 → T2 a = T a) ∧ (∀ a, a < 29 → cs2 a = cs a)) ∧ r9 = ((none, hk (37, sl + 76, f) T2 cs2)))
    refine h_pref (t := (8, 0, rl [(0, 30), (1, 31)])) (t2 := (8, 0, rl [(0, 30), (1, 31), (2, 32)])) fx_8_18 rfl ⟨by show 29 < 33; omega, by omega⟩ (Or.inr ⟨rfl, rfl⟩) rfl rfl (rfl) dc_3_1_25 ?_
    show mm_Ru 0 (8, 1, true, prog_3_method_1_code, none) 28 [(0, .ref 29)] [] (hk ((33, sl + 32, f)) (va_up (va_up (va_up (va_up (va_up (va_up T 30 ((20, 12, fun _ => none))) 29 ((8, 0, rl [(0, 30)]))) 31 ((20, 12, fun _ => none))) 29 ((8, 0, rl [(0, 30), (1, 31)]))) 32 ((20, 8, fun _ => none))) 29 ((8, 0, rl [(0, 30), (1, 31), (2, 32)]))) (wA (wA (wA cs 30 (fun _ => 0)) 31 (fun _ => 0)) 32 (fun _ => 0))) (fun r9 => ∃ (T2 : Nat → mT), ∃ (cs2 : Nat → Nat → Int32), ((∀ a, 29 ≤ a → a < 37 → T2 a = cT e a) ∧ (∀ a, a < 29 → T2 a = T a) ∧ (∀ a, a < 29 → cs2 a = cs a)) ∧ r9 = ((none, hk (37, sl + 76, f) T2 cs2)))
    refine r_aload_n rfl dc_3_1_28 ?_
    refine r_bipush (v := nI 12) (by decide) dc_3_1_29 ?_
    refine h_newi (n := 12) (by show 33 < 1000000; omega) (by show ¬ (100 ≤ 33 ∧ 33 < 157); omega) (by omega) dc_3_1_31 ?_
    show mm_Ru 0 (8, 1, true, prog_3_method_1_code, none) 33 [(0, .ref 29)] [.ref 33, .ref 29] (hk ((34, sl + 44, f)) (va_up (va_up (va_up (va_up (va_up (va_up (va_up T 30 ((20, 12, fun _ => none))) 29 ((8, 0, rl [(0, 30)]))) 31 ((20, 12, fun _ => none))) 29 ((8, 0, rl [(0, 30), (1, 31)]))) 32 ((20, 8, fun _ => none))) 29 ((8, 0, rl [(0, 30), (1, 31), (2, 32)]))) 33 ((20, 12, fun _ => none))) (wA (wA (wA (wA cs 30 (fun _ => 0)) 31 (fun _ => 0)) 32 (fun _ => 0)) 33 (fun _ => 0))) (fun r9 => ∃ (T2 : Nat → mT), ∃ (cs2 : Nat → Nat → Int32), ((∀ a, 29 ≤ a → a < 37 → T2 a = cT e a) ∧ (∀ a, a < 29 → T2 a = T a) ∧ (∀ a, a < 29 → cs2 a = cs a)) ∧ r9 = ((none, hk (37, sl + 76, f) T2 cs2)))
    refine h_pref (t := (8, 0, rl [(0, 30), (1, 31), (2, 32)])) (t2 := (8, 0, rl [(0, 30), (1, 31), (2, 32), (3, 33)])) fx_8_21 rfl ⟨by show 29 < 34; omega, by omega⟩ (Or.inr ⟨rfl, rfl⟩) rfl rfl (rfl) dc_3_1_33 ?_
    show mm_Ru 0 (8, 1, true, prog_3_method_1_code, none) 36 [(0, .ref 29)] [] (hk ((34, sl + 44, f)) (va_up (va_up (va_up (va_up (va_up (va_up (va_up (va_up T 30 ((20, 12, fun _ => none))) 29 ((8, 0, rl [(0, 30)]))) 31 ((20, 12, fun _ => none))) 29 ((8, 0, rl [(0, 30), (1, 31)]))) 32 ((20, 8, fun _ => none))) 29 ((8, 0, rl [(0, 30), (1, 31), (2, 32)]))) 33 ((20, 12, fun _ => none))) 29 ((8, 0, rl [(0, 30), (1, 31), (2, 32), (3, 33)]))) (wA (wA (wA (wA cs 30 (fun _ => 0)) 31 (fun _ => 0)) 32 (fun _ => 0)) 33 (fun _ => 0))) (fun r9 => ∃ (T2 : Nat → mT), ∃ (cs2 : Nat → Nat → Int32), ((∀ a, 29 ≤ a → a < 37 → T2 a = cT e a) ∧ (∀ a, a < 29 → T2 a = T a) ∧ (∀ a, a < 29 → cs2 a = cs a)) ∧ r9 = ((none, hk (37, sl + 76, f) T2 cs2)))
    refine r_aload_n rfl dc_3_1_36 ?_
    refine r_bipush (v := nI 12) (by decide) dc_3_1_37 ?_
    refine h_newi (n := 12) (by show 34 < 1000000; omega) (by show ¬ (100 ≤ 34 ∧ 34 < 157); omega) (by omega) dc_3_1_39 ?_
    show mm_Ru 0 (8, 1, true, prog_3_method_1_code, none) 41 [(0, .ref 29)] [.ref 34, .ref 29] (hk ((35, sl + 56, f)) (va_up (va_up (va_up (va_up (va_up (va_up (va_up (va_up (va_up T 30 ((20, 12, fun _ => none))) 29 ((8, 0, rl [(0, 30)]))) 31 ((20, 12, fun _ => none))) 29 ((8, 0, rl [(0, 30), (1, 31)]))) 32 ((20, 8, fun _ => none))) 29 ((8, 0, rl [(0, 30), (1, 31), (2, 32)]))) 33 ((20, 12, fun _ => none))) 29 ((8, 0, rl [(0, 30), (1, 31), (2, 32), (3, 33)]))) 34 ((20, 12, fun _ => none))) (wA (wA (wA (wA (wA cs 30 (fun _ => 0)) 31 (fun _ => 0)) 32 (fun _ => 0)) 33 (fun _ => 0)) 34 (fun _ => 0))) (fun r9 => ∃ (T2 : Nat → mT), ∃ (cs2 : Nat → Nat → Int32), ((∀ a, 29 ≤ a → a < 37 → T2 a = cT e a) ∧ (∀ a, a < 29 → T2 a = T a) ∧ (∀ a, a < 29 → cs2 a = cs a)) ∧ r9 = ((none, hk (37, sl + 76, f) T2 cs2)))
    refine h_pref (t := (8, 0, rl [(0, 30), (1, 31), (2, 32), (3, 33)])) (t2 := (8, 0, rl [(0, 30), (1, 31), (2, 32), (3, 33), (4, 34)])) fx_8_24 rfl ⟨by show 29 < 35; omega, by omega⟩ (Or.inr ⟨rfl, rfl⟩) rfl rfl (rfl) dc_3_1_41 ?_
    show mm_Ru 0 (8, 1, true, prog_3_method_1_code, none) 44 [(0, .ref 29)] [] (hk ((35, sl + 56, f)) (va_up (va_up (va_up (va_up (va_up (va_up (va_up (va_up (va_up (va_up T 30 ((20, 12, fun _ => none))) 29 ((8, 0, rl [(0, 30)]))) 31 ((20, 12, fun _ => none))) 29 ((8, 0, rl [(0, 30), (1, 31)]))) 32 ((20, 8, fun _ => none))) 29 ((8, 0, rl [(0, 30), (1, 31), (2, 32)]))) 33 ((20, 12, fun _ => none))) 29 ((8, 0, rl [(0, 30), (1, 31), (2, 32), (3, 33)]))) 34 ((20, 12, fun _ => none))) 29 ((8, 0, rl [(0, 30), (1, 31), (2, 32), (3, 33), (4, 34)]))) (wA (wA (wA (wA (wA cs 30 (fun _ => 0)) 31 (fun _ => 0)) 32 (fun _ => 0)) 33 (fun _ => 0)) 34 (fun _ => 0))) (fun r9 => ∃ (T2 : Nat → mT), ∃ (cs2 : Nat → Nat → Int32), ((∀ a, 29 ≤ a → a < 37 → T2 a = cT e a) ∧ (∀ a, a < 29 → T2 a = T a) ∧ (∀ a, a < 29 → cs2 a = cs a)) ∧ r9 = ((none, hk (37, sl + 76, f) T2 cs2)))
    refine r_aload_n rfl dc_3_1_44 ?_
    refine r_bipush (v := nI 12) (by decide) dc_3_1_45 ?_
    refine h_newi (n := 12) (by show 35 < 1000000; omega) (by show ¬ (100 ≤ 35 ∧ 35 < 157); omega) (by omega) dc_3_1_47 ?_
    show mm_Ru 0 (8, 1, true, prog_3_method_1_code, none) 49 [(0, .ref 29)] [.ref 35, .ref 29] (hk ((36, sl + 68, f)) (va_up (va_up (va_up (va_up (va_up (va_up (va_up (va_up (va_up (va_up (va_up T 30 ((20, 12, fun _ => none))) 29 ((8, 0, rl [(0, 30)]))) 31 ((20, 12, fun _ => none))) 29 ((8, 0, rl [(0, 30), (1, 31)]))) 32 ((20, 8, fun _ => none))) 29 ((8, 0, rl [(0, 30), (1, 31), (2, 32)]))) 33 ((20, 12, fun _ => none))) 29 ((8, 0, rl [(0, 30), (1, 31), (2, 32), (3, 33)]))) 34 ((20, 12, fun _ => none))) 29 ((8, 0, rl [(0, 30), (1, 31), (2, 32), (3, 33), (4, 34)]))) 35 ((20, 12, fun _ => none))) (wA (wA (wA (wA (wA (wA cs 30 (fun _ => 0)) 31 (fun _ => 0)) 32 (fun _ => 0)) 33 (fun _ => 0)) 34 (fun _ => 0)) 35 (fun _ => 0))) (fun r9 => ∃ (T2 : Nat → mT), ∃ (cs2 : Nat → Nat → Int32), ((∀ a, 29 ≤ a → a < 37 → T2 a = cT e a) ∧ (∀ a, a < 29 → T2 a = T a) ∧ (∀ a, a < 29 → cs2 a = cs a)) ∧ r9 = ((none, hk (37, sl + 76, f) T2 cs2)))
    refine h_pref (t := (8, 0, rl [(0, 30), (1, 31), (2, 32), (3, 33), (4, 34)])) (t2 := (8, 0, rl [(0, 30), (1, 31), (2, 32), (3, 33), (4, 34), (5, 35)])) fx_8_27 rfl ⟨by show 29 < 36; omega, by omega⟩ (Or.inr ⟨rfl, rfl⟩) rfl rfl (rfl) dc_3_1_49 ?_
    show mm_Ru 0 (8, 1, true, prog_3_method_1_code, none) 52 [(0, .ref 29)] [] (hk ((36, sl + 68, f)) (va_up (va_up (va_up (va_up (va_up (va_up (va_up (va_up (va_up (va_up (va_up (va_up T 30 ((20, 12, fun _ => none))) 29 ((8, 0, rl [(0, 30)]))) 31 ((20, 12, fun _ => none))) 29 ((8, 0, rl [(0, 30), (1, 31)]))) 32 ((20, 8, fun _ => none))) 29 ((8, 0, rl [(0, 30), (1, 31), (2, 32)]))) 33 ((20, 12, fun _ => none))) 29 ((8, 0, rl [(0, 30), (1, 31), (2, 32), (3, 33)]))) 34 ((20, 12, fun _ => none))) 29 ((8, 0, rl [(0, 30), (1, 31), (2, 32), (3, 33), (4, 34)]))) 35 ((20, 12, fun _ => none))) 29 ((8, 0, rl [(0, 30), (1, 31), (2, 32), (3, 33), (4, 34), (5, 35)]))) (wA (wA (wA (wA (wA (wA cs 30 (fun _ => 0)) 31 (fun _ => 0)) 32 (fun _ => 0)) 33 (fun _ => 0)) 34 (fun _ => 0)) 35 (fun _ => 0))) (fun r9 => ∃ (T2 : Nat → mT), ∃ (cs2 : Nat → Nat → Int32), ((∀ a, 29 ≤ a → a < 37 → T2 a = cT e a) ∧ (∀ a, a < 29 → T2 a = T a) ∧ (∀ a, a < 29 → cs2 a = cs a)) ∧ r9 = ((none, hk (37, sl + 76, f) T2 cs2)))
    refine r_aload_n rfl dc_3_1_52 ?_
    refine r_bipush (v := nI 8) (by decide) dc_3_1_53 ?_
    refine h_newi (n := 8) (by show 36 < 1000000; omega) (by show ¬ (100 ≤ 36 ∧ 36 < 157); omega) (by omega) dc_3_1_55 ?_
    show mm_Ru 0 (8, 1, true, prog_3_method_1_code, none) 57 [(0, .ref 29)] [.ref 36, .ref 29] (hk ((37, sl + 76, f)) (va_up (va_up (va_up (va_up (va_up (va_up (va_up (va_up (va_up (va_up (va_up (va_up (va_up T 30 ((20, 12, fun _ => none))) 29 ((8, 0, rl [(0, 30)]))) 31 ((20, 12, fun _ => none))) 29 ((8, 0, rl [(0, 30), (1, 31)]))) 32 ((20, 8, fun _ => none))) 29 ((8, 0, rl [(0, 30), (1, 31), (2, 32)]))) 33 ((20, 12, fun _ => none))) 29 ((8, 0, rl [(0, 30), (1, 31), (2, 32), (3, 33)]))) 34 ((20, 12, fun _ => none))) 29 ((8, 0, rl [(0, 30), (1, 31), (2, 32), (3, 33), (4, 34)]))) 35 ((20, 12, fun _ => none))) 29 ((8, 0, rl [(0, 30), (1, 31), (2, 32), (3, 33), (4, 34), (5, 35)]))) 36 ((20, 8, fun _ => none))) (wA (wA (wA (wA (wA (wA (wA cs 30 (fun _ => 0)) 31 (fun _ => 0)) 32 (fun _ => 0)) 33 (fun _ => 0)) 34 (fun _ => 0)) 35 (fun _ => 0)) 36 (fun _ => 0))) (fun r9 => ∃ (T2 : Nat → mT), ∃ (cs2 : Nat → Nat → Int32), ((∀ a, 29 ≤ a → a < 37 → T2 a = cT e a) ∧ (∀ a, a < 29 → T2 a = T a) ∧ (∀ a, a < 29 → cs2 a = cs a)) ∧ r9 = ((none, hk (37, sl + 76, f) T2 cs2)))
    refine h_pref (t := (8, 0, rl [(0, 30), (1, 31), (2, 32), (3, 33), (4, 34), (5, 35)])) (t2 := (8, 0, rl [(0, 30), (1, 31), (2, 32), (3, 33), (4, 34), (5, 35), (6, 36)])) fx_8_30 rfl ⟨by show 29 < 37; omega, by omega⟩ (Or.inr ⟨rfl, rfl⟩) rfl rfl (rfl) dc_3_1_57 ?_
    show mm_Ru 0 (8, 1, true, prog_3_method_1_code, none) 60 [(0, .ref 29)] [] (hk ((37, sl + 76, f)) (va_up (va_up (va_up (va_up (va_up (va_up (va_up (va_up (va_up (va_up (va_up (va_up (va_up (va_up T 30 ((20, 12, fun _ => none))) 29 ((8, 0, rl [(0, 30)]))) 31 ((20, 12, fun _ => none))) 29 ((8, 0, rl [(0, 30), (1, 31)]))) 32 ((20, 8, fun _ => none))) 29 ((8, 0, rl [(0, 30), (1, 31), (2, 32)]))) 33 ((20, 12, fun _ => none))) 29 ((8, 0, rl [(0, 30), (1, 31), (2, 32), (3, 33)]))) 34 ((20, 12, fun _ => none))) 29 ((8, 0, rl [(0, 30), (1, 31), (2, 32), (3, 33), (4, 34)]))) 35 ((20, 12, fun _ => none))) 29 ((8, 0, rl [(0, 30), (1, 31), (2, 32), (3, 33), (4, 34), (5, 35)]))) 36 ((20, 8, fun _ => none))) 29 ((8, 0, rl [(0, 30), (1, 31), (2, 32), (3, 33), (4, 34), (5, 35), (6, 36)]))) (wA (wA (wA (wA (wA (wA (wA cs 30 (fun _ => 0)) 31 (fun _ => 0)) 32 (fun _ => 0)) 33 (fun _ => 0)) 34 (fun _ => 0)) 35 (fun _ => 0)) 36 (fun _ => 0))) (fun r9 => ∃ (T2 : Nat → mT), ∃ (cs2 : Nat → Nat → Int32), ((∀ a, 29 ≤ a → a < 37 → T2 a = cT e a) ∧ (∀ a, a < 29 → T2 a = T a) ∧ (∀ a, a < 29 → cs2 a = cs a)) ∧ r9 = ((none, hk (37, sl + 76, f) T2 cs2)))
    refine r_vret rfl dc_3_1_60 ?_
    refine ⟨_, _, ⟨fun a h1 h2 => ?_, fun a ha => ?_, fun a ha => ?_⟩, rfl⟩
    · rcases (by omega : a = 29 ∨ a = 30 ∨ a = 31 ∨ a = 32 ∨ a = 33 ∨ a = 34 ∨ a = 35 ∨ a = 36) with rfl | rfl | rfl | rfl | rfl | rfl | rfl | rfl <;> first | rfl | (show _ = (3, 0, rl [(0, e 3), (4, 14)]); rw [he3]; rfl)
    · simp only [va_up, tw2]; repeat rw [if_neg (by omega)]
    · repeat (first | rw [wA_o _ _ (by omega)] | rw [w1_n _ _ _ (by omega)] | rw [cw2_o _ _ _ (by omega)])
  obtain ⟨z9, ⟨T2, cs2, p9, e9⟩, h9⟩ := hq9
  subst e9
  exact ⟨T2, cs2, p9, h9⟩
