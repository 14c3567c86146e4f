/-! the init of the system -/
theorem dc_1_1_0 : decode prog_1_method_1_code 0 = .ok (.aload_n 0, 1) := by decide +kernel
theorem dc_1_1_1 : decode prog_1_method_1_code 1 = .ok (.invokespecial 1, 3) := by decide +kernel
theorem dc_1_1_4 : decode prog_1_method_1_code 4 = .ok (.aload_n 0, 1) := by decide +kernel
theorem dc_1_1_5 : decode prog_1_method_1_code 5 = .ok (.iconst 0, 1) := by decide +kernel
theorem dc_1_1_6 : decode prog_1_method_1_code 6 = .ok (.putfield 7, 3) := by decide +kernel
theorem dc_1_1_9 : decode prog_1_method_1_code 9 = .ok (.aload_n 0, 1) := by decide +kernel
theorem dc_1_1_10 : decode prog_1_method_1_code 10 = .ok (.iconst 4, 1) := by decide +kernel
theorem dc_1_1_11 : decode prog_1_method_1_code 11 = .ok (.newarray .int, 2) := by decide +kernel
theorem dc_1_1_13 : decode prog_1_method_1_code 13 = .ok (.putfield 13, 3) := by decide +kernel
theorem dc_1_1_16 : decode prog_1_method_1_code 16 = .ok (.aload_n 0, 1) := by decide +kernel
theorem dc_1_1_17 : decode prog_1_method_1_code 17 = .ok (.iconst 4, 1) := by decide +kernel
theorem dc_1_1_18 : decode prog_1_method_1_code 18 = .ok (.newarray .int, 2) := by decide +kernel
theorem dc_1_1_20 : decode prog_1_method_1_code 20 = .ok (.putfield 17, 3) := by decide +kernel
theorem dc_1_1_23 : decode prog_1_method_1_code 23 = .ok (.aload_n 0, 1) := by decide +kernel
theorem dc_1_1_24 : decode prog_1_method_1_code 24 = .ok (.sipush 360, 3) := by decide +kernel
theorem dc_1_1_27 : decode prog_1_method_1_code 27 = .ok (.newarray .int, 2) := by decide +kernel
theorem dc_1_1_29 : decode prog_1_method_1_code 29 = .ok (.putfield 20, 3) := by decide +kernel
theorem dc_1_1_32 : decode prog_1_method_1_code 32 = .ok (.aload_n 0, 1) := by decide +kernel
theorem dc_1_1_33 : decode prog_1_method_1_code 33 = .ok (.new 23, 3) := by decide +kernel
theorem dc_1_1_36 : decode prog_1_method_1_code 36 = .ok (.dup, 1) := by decide +kernel
theorem dc_1_1_37 : decode prog_1_method_1_code 37 = .ok (.invokespecial 25, 3) := by decide +kernel
theorem dc_1_1_40 : decode prog_1_method_1_code 40 = .ok (.putfield 26, 3) := by decide +kernel
theorem dc_1_1_43 : decode prog_1_method_1_code 43 = .ok (.aload_n 0, 1) := by decide +kernel
theorem dc_1_1_44 : decode prog_1_method_1_code 44 = .ok (.new 30, 3) := by decide +kernel
theorem dc_1_1_47 : decode prog_1_method_1_code 47 = .ok (.dup, 1) := by decide +kernel
theorem dc_1_1_48 : decode prog_1_method_1_code 48 = .ok (.invokespecial 32, 3) := by decide +kernel
theorem dc_1_1_51 : decode prog_1_method_1_code 51 = .ok (.putfield 33, 3) := by decide +kernel
theorem dc_1_1_54 : decode prog_1_method_1_code 54 = .ok (.aload_n 0, 1) := by decide +kernel
theorem dc_1_1_55 : decode prog_1_method_1_code 55 = .ok (.new 37, 3) := by decide +kernel
theorem dc_1_1_58 : decode prog_1_method_1_code 58 = .ok (.dup, 1) := by decide +kernel
theorem dc_1_1_59 : decode prog_1_method_1_code 59 = .ok (.invokespecial 39, 3) := by decide +kernel
theorem dc_1_1_62 : decode prog_1_method_1_code 62 = .ok (.putfield 40, 3) := by decide +kernel
theorem dc_1_1_65 : decode prog_1_method_1_code 65 = .ok (.aload_n 0, 1) := by decide +kernel
theorem dc_1_1_66 : decode prog_1_method_1_code 66 = .ok (.new 44, 3) := by decide +kernel
theorem dc_1_1_69 : decode prog_1_method_1_code 69 = .ok (.dup, 1) := by decide +kernel
theorem dc_1_1_70 : decode prog_1_method_1_code 70 = .ok (.invokespecial 46, 3) := by decide +kernel
theorem dc_1_1_73 : decode prog_1_method_1_code 73 = .ok (.putfield 47, 3) := by decide +kernel
theorem dc_1_1_76 : decode prog_1_method_1_code 76 = .ok (.aload_n 0, 1) := by decide +kernel
theorem dc_1_1_77 : decode prog_1_method_1_code 77 = .ok (.new 51, 3) := by decide +kernel
theorem dc_1_1_80 : decode prog_1_method_1_code 80 = .ok (.dup, 1) := by decide +kernel
theorem dc_1_1_81 : decode prog_1_method_1_code 81 = .ok (.invokespecial 53, 3) := by decide +kernel
theorem dc_1_1_84 : decode prog_1_method_1_code 84 = .ok (.putfield 54, 3) := by decide +kernel
theorem dc_1_1_87 : decode prog_1_method_1_code 87 = .ok (.aload_n 0, 1) := by decide +kernel
theorem dc_1_1_88 : decode prog_1_method_1_code 88 = .ok (.new 58, 3) := by decide +kernel
theorem dc_1_1_91 : decode prog_1_method_1_code 91 = .ok (.dup, 1) := by decide +kernel
theorem dc_1_1_92 : decode prog_1_method_1_code 92 = .ok (.invokespecial 60, 3) := by decide +kernel
theorem dc_1_1_95 : decode prog_1_method_1_code 95 = .ok (.putfield 61, 3) := by decide +kernel
theorem dc_1_1_98 : decode prog_1_method_1_code 98 = .ok (.aload_n 0, 1) := by decide +kernel
theorem dc_1_1_99 : decode prog_1_method_1_code 99 = .ok (.new 58, 3) := by decide +kernel
theorem dc_1_1_102 : decode prog_1_method_1_code 102 = .ok (.dup, 1) := by decide +kernel
theorem dc_1_1_103 : decode prog_1_method_1_code 103 = .ok (.invokespecial 60, 3) := by decide +kernel
theorem dc_1_1_106 : decode prog_1_method_1_code 106 = .ok (.putfield 65, 3) := by decide +kernel
theorem dc_1_1_109 : decode prog_1_method_1_code 109 = .ok (.aload_n 0, 1) := by decide +kernel
theorem dc_1_1_110 : decode prog_1_method_1_code 110 = .ok (.new 58, 3) := by decide +kernel
theorem dc_1_1_113 : decode prog_1_method_1_code 113 = .ok (.dup, 1) := by decide +kernel
theorem dc_1_1_114 : decode prog_1_method_1_code 114 = .ok (.invokespecial 60, 3) := by decide +kernel
theorem dc_1_1_117 : decode prog_1_method_1_code 117 = .ok (.putfield 68, 3) := by decide +kernel
theorem dc_1_1_120 : decode prog_1_method_1_code 120 = .ok (.aload_n 0, 1) := by decide +kernel
theorem dc_1_1_121 : decode prog_1_method_1_code 121 = .ok (.new 71, 3) := by decide +kernel
theorem dc_1_1_124 : decode prog_1_method_1_code 124 = .ok (.dup, 1) := by decide +kernel
theorem dc_1_1_125 : decode prog_1_method_1_code 125 = .ok (.invokespecial 73, 3) := by decide +kernel
theorem dc_1_1_128 : decode prog_1_method_1_code 128 = .ok (.putfield 74, 3) := by decide +kernel
theorem dc_1_1_131 : decode prog_1_method_1_code 131 = .ok (.aload_n 0, 1) := by decide +kernel
theorem dc_1_1_132 : decode prog_1_method_1_code 132 = .ok (.getfield 13, 3) := by decide +kernel
theorem dc_1_1_135 : decode prog_1_method_1_code 135 = .ok (.bipush 10, 2) := by decide +kernel
theorem dc_1_1_137 : decode prog_1_method_1_code 137 = .ok (.invokestatic 78, 3) := by decide +kernel
theorem dc_1_1_140 : decode prog_1_method_1_code 140 = .ok (.aload_n 0, 1) := by decide +kernel
theorem dc_1_1_141 : decode prog_1_method_1_code 141 = .ok (.getfield 17, 3) := by decide +kernel
theorem dc_1_1_144 : decode prog_1_method_1_code 144 = .ok (.bipush 30, 2) := by decide +kernel
theorem dc_1_1_146 : decode prog_1_method_1_code 146 = .ok (.invokestatic 78, 3) := by decide +kernel
theorem dc_1_1_149 : decode prog_1_method_1_code 149 = .ok (.return_, 1) := by decide +kernel
theorem iv_0_i1 : mm_iv 0 (.invokespecial 1) = some (7, 0) := by decide +kernel
theorem iv_0_i25 : mm_iv 0 (.invokespecial 25) = some (2, 1) := by decide +kernel
theorem iv_0_i32 : mm_iv 0 (.invokespecial 32) = some (5, 3) := by decide +kernel
theorem iv_0_i39 : mm_iv 0 (.invokespecial 39) = some (5, 4) := by decide +kernel
theorem iv_0_i46 : mm_iv 0 (.invokespecial 46) = some (5, 5) := by decide +kernel
theorem iv_0_i53 : mm_iv 0 (.invokespecial 53) = some (5, 6) := by decide +kernel
theorem iv_0_i60 : mm_iv 0 (.invokespecial 60) = some (2, 7) := by decide +kernel
theorem iv_0_i73 : mm_iv 0 (.invokespecial 73) = some (5, 10) := by decide +kernel
theorem kr_0_23 : mm_kr 0 23 = some 1 := by decide +kernel
theorem kr_0_30 : mm_kr 0 30 = some 2 := by decide +kernel
theorem kr_0_37 : mm_kr 0 37 = some 3 := by decide +kernel
theorem kr_0_44 : mm_kr 0 44 = some 4 := by decide +kernel
theorem kr_0_51 : mm_kr 0 51 = some 5 := by decide +kernel
theorem kr_0_58 : mm_kr 0 58 = some 6 := by decide +kernel
theorem kr_0_71 : mm_kr 0 71 = some 7 := by decide +kernel
theorem na_2_1 : mm_nas 2 1 = 1 := by decide +kernel
theorem na_5_10 : mm_nas 5 10 = 1 := by decide +kernel
theorem na_5_3 : mm_nas 5 3 = 1 := by decide +kernel
theorem na_5_4 : mm_nas 5 4 = 1 := by decide +kernel
theorem na_5_5 : mm_nas 5 5 = 1 := by decide +kernel
theorem na_5_6 : mm_nas 5 6 = 1 := by decide +kernel
set_option maxHeartbeats 4000000 in
theorem k_init (e : Nat → Nat) (sl : Nat) (f : Nat → va_E) (T : Nat → mT) (cs : Nat → Nat → Int32) (he0 : e 0 = 1000000) (he1 : e 1 = 1000000) (he2 : e 2 = 1000000) (he3 : e 3 = 13) (hT : T 0 = (0, 0, fun _ => none)) : ∃ (T2 : Nat → mT), ∃ (cs2 : Nat → Nat → Int32), ((∀ a, a < 100 → T2 a = cT e a) ∧ cs2 0 0 = nI 0 ∧ (∀ l, l < 4 → cs2 1 l = nI 10 ∧ cs2 2 l = nI 30) ∧ (∀ i, i < 4 → ∀ m, m < 11 → cs2 (6 + i) m = nI 1) ∧ (cs2 10 1 = nI 0 ∧ ∀ j, cs2 11 j = 0) ∧ (cs2 20 0 = nI 0 ∧ cs2 20 1 = nI 0 ∧ ∀ j, cs2 21 j = 0 ∧ cs2 22 j = 0 ∧ cs2 23 j = 0 ∧ cs2 24 j = 0) ∧ cs2 25 1 = nI 0 ∧ cs2 26 1 = nI 0 ∧ cs2 27 1 = nI 0) ∧ mm_Ev 4 0 [.ref 0] (hk ((1, sl + 0, f)) T cs) ((none, hk (100, sl + 2245, f) T2 cs2)) := by
  have hq9 : ∃ z, (fun r9 => ∃ (T2 : Nat → mT), ∃ (cs2 : Nat → Nat → Int32), ((∀ a, a < 100 → T2 a = cT e a) ∧ cs2 0 0 = nI 0 ∧ (∀ l, l < 4 → cs2 1 l = nI 10 ∧ cs2 2 l = nI 30) ∧ (∀ i, i < 4 → ∀ m, m < 11 → cs2 (6 + i) m = nI 1) ∧ (cs2 10 1 = nI 0 ∧ ∀ j, cs2 11 j = 0) ∧ (cs2 20 0 = nI 0 ∧ cs2 20 1 = nI 0 ∧ ∀ j, cs2 21 j = 0 ∧ cs2 22 j = 0 ∧ cs2 23 j = 0 ∧ cs2 24 j = 0) ∧ cs2 25 1 = nI 0 ∧ cs2 26 1 = nI 0 ∧ cs2 27 1 = nI 0) ∧ r9 = ((none, hk (100, sl + 2245, f) T2 cs2))) z ∧ mm_Ev 4 0 [.ref 0] (hk ((1, sl + 0, f)) T cs) z := by
    refine r_evQ (by decide +kernel) (show (1 : Nat) ≤ mm_nL 0 by decide +kernel) ?_
    show mm_Ru 3 (0, 1, true, prog_1_method_1_code, none) 0 [(0, .ref 0)] [] (hk ((1, sl + 0, f)) T cs) (fun r9 => ∃ (T2 : Nat → mT), ∃ (cs2 : Nat → Nat → Int32), ((∀ a, a < 100 → T2 a = cT e a) ∧ cs2 0 0 = nI 0 ∧ (∀ l, l < 4 → cs2 1 l = nI 10 ∧ cs2 2 l = nI 30) ∧ (∀ i, i < 4 → ∀ m, m < 11 → cs2 (6 + i) m = nI 1) ∧ (cs2 10 1 = nI 0 ∧ ∀ j, cs2 11 j = 0) ∧ (cs2 20 0 = nI 0 ∧ cs2 20 1 = nI 0 ∧ ∀ j, cs2 21 j = 0 ∧ cs2 22 j = 0 ∧ cs2 23 j = 0 ∧ cs2 24 j = 0) ∧ cs2 25 1 = nI 0 ∧ cs2 26 1 = nI 0 ∧ cs2 27 1 = nI 0) ∧ r9 = ((none, hk (100, sl + 2245, f) T2 cs2)))
    refine r_aload_n rfl dc_1_1_0 ?_
    refine r_obj (C := (0, 1, true, prog_1_method_1_code, none)) (j := 0) dc_1_1_1 rfl rfl iv_0_i1 (show (0 : Nat) ≤ 8 by decide) ?_
    refine r_aload_n rfl dc_1_1_4 ?_
    refine r_iconst (v := nI 0) (by decide) dc_1_1_5 ?_
    refine h_pint (t := (0, 0, fun _ => none)) fx_0_7 hT ⟨by show 0 < 1; omega, by omega⟩ (Or.inl fn_0_0) ty_0_0 (pi_0_0 _ _ _ _) dc_1_1_6 ?_
    refine r_aload_n rfl dc_1_1_9 ?_
    refine r_iconst (v := nI 4) (by decide) dc_1_1_10 ?_
    refine h_newi (n := 4) (by show 1 < 1000000; omega) (by show ¬ (100 ≤ 1 ∧ 1 < 157); omega) (by omega) dc_1_1_11 ?_
    show mm_Ru 3 (0, 1, true, prog_1_method_1_code, none) 13 [(0, .ref 0)] [.ref 1, .ref 0] (hk ((2, sl + 4, f)) (va_up T 1 ((20, 4, fun _ => none))) (wA (w1 cs 0 0 (nI 0)) 1 (fun _ => 0))) (fun r9 => ∃ (T2 : Nat → mT), ∃ (cs2 : Nat → Nat → Int32), ((∀ a, a < 100 → T2 a = cT e a) ∧ cs2 0 0 = nI 0 ∧ (∀ l, l < 4 → cs2 1 l = nI 10 ∧ cs2 2 l = nI 30) ∧ (∀ i, i < 4 → ∀ m, m < 11 → cs2 (6 + i) m = nI 1) ∧ (cs2 10 1 = nI 0 ∧ ∀ j, cs2 11 j = 0) ∧ (cs2 20 0 = nI 0 ∧ cs2 20 1 = nI 0 ∧ ∀ j, cs2 21 j = 0 ∧ cs2 22 j = 0 ∧ cs2 23 j = 0 ∧ cs2 24 j = 0) ∧ cs2 25 1 = nI 0 ∧ cs2 26 1 = nI 0 ∧ cs2 27 1 = nI 0) ∧ r9 = ((none, hk (100, sl + 2245, f) T2 cs2)))
    refine h_pref (t := (0, 0, fun _ => none)) (t2 := (0, 0, rl [(1, 1)])) fx_0_13 hT ⟨by show 0 < 2; omega, by omega⟩ (Or.inr ⟨rfl, rfl⟩) rfl rfl (rfl) dc_1_1_13 ?_
    show mm_Ru 3 (0, 1, true, prog_1_method_1_code, none) 16 [(0, .ref 0)] [] (hk ((2, sl + 4, f)) (va_up (va_up T 1 ((20, 4, fun _ => none))) 0 ((0, 0, rl [(1, 1)]))) (wA (w1 cs 0 0 (nI 0)) 1 (fun _ => 0))) (fun r9 => ∃ (T2 : Nat → mT), ∃ (cs2 : Nat → Nat → Int32), ((∀ a, a < 100 → T2 a = cT e a) ∧ cs2 0 0 = nI 0 ∧ (∀ l, l < 4 → cs2 1 l = nI 10 ∧ cs2 2 l = nI 30) ∧ (∀ i, i < 4 → ∀ m, m < 11 → cs2 (6 + i) m = nI 1) ∧ (cs2 10 1 = nI 0 ∧ ∀ j, cs2 11 j = 0) ∧ (cs2 20 0 = nI 0 ∧ cs2 20 1 = nI 0 ∧ ∀ j, cs2 21 j = 0 ∧ cs2 22 j = 0 ∧ cs2 23 j = 0 ∧ cs2 24 j = 0) ∧ cs2 25 1 = nI 0 ∧ cs2 26 1 = nI 0 ∧ cs2 27 1 = nI 0) ∧ r9 = ((none, hk (100, sl + 2245, f) T2 cs2)))
    refine r_aload_n rfl dc_1_1_16 ?_
    refine r_iconst (v := nI 4) (by decide) dc_1_1_17 ?_
    refine h_newi (n := 4) (by show 2 < 1000000; omega) (by show ¬ (100 ≤ 2 ∧ 2 < 157); omega) (by omega) dc_1_1_18 ?_
    show mm_Ru 3 (0, 1, true, prog_1_method_1_code, none) 20 [(0, .ref 0)] [.ref 2, .ref 0] (hk ((3, sl + 8, f)) (va_up (va_up (va_up T 1 ((20, 4, fun _ => none))) 0 ((0, 0, rl [(1, 1)]))) 2 ((20, 4, fun _ => none))) (wA (wA (w1 cs 0 0 (nI 0)) 1 (fun _ => 0)) 2 (fun _ => 0))) (fun r9 => ∃ (T2 : Nat → mT), ∃ (cs2 : Nat → Nat → Int32), ((∀ a, a < 100 → T2 a = cT e a) ∧ cs2 0 0 = nI 0 ∧ (∀ l, l < 4 → cs2 1 l = nI 10 ∧ cs2 2 l = nI 30) ∧ (∀ i, i < 4 → ∀ m, m < 11 → cs2 (6 + i) m = nI 1) ∧ (cs2 10 1 = nI 0 ∧ ∀ j, cs2 11 j = 0) ∧ (cs2 20 0 = nI 0 ∧ cs2 20 1 = nI 0 ∧ ∀ j, cs2 21 j = 0 ∧ cs2 22 j = 0 ∧ cs2 23 j = 0 ∧ cs2 24 j = 0) ∧ cs2 25 1 = nI 0 ∧ cs2 26 1 = nI 0 ∧ cs2 27 1 = nI 0) ∧ r9 = ((none, hk (100, sl + 2245, f) T2 cs2)))
    refine h_pref (t := (0, 0, rl [(1, 1)])) (t2 := (0, 0, rl [(1, 1), (2, 2)])) fx_0_17 rfl ⟨by show 0 < 3; omega, by omega⟩ (Or.inr ⟨rfl, rfl⟩) rfl rfl (rfl) dc_1_1_20 ?_
    show mm_Ru 3 (0, 1, true, prog_1_method_1_code, none) 23 [(0, .ref 0)] [] (hk ((3, sl + 8, f)) (va_up (va_up (va_up (va_up T 1 ((20, 4, fun _ => none))) 0 ((0, 0, rl [(1, 1)]))) 2 ((20, 4, fun _ => none))) 0 ((0, 0, rl [(1, 1), (2, 2)]))) (wA (wA (w1 cs 0 0 (nI 0)) 1 (fun _ => 0)) 2 (fun _ => 0))) (fun r9 => ∃ (T2 : Nat → mT), ∃ (cs2 : Nat → Nat → Int32), ((∀ a, a < 100 → T2 a = cT e a) ∧ cs2 0 0 = nI 0 ∧ (∀ l, l < 4 → cs2 1 l = nI 10 ∧ cs2 2 l = nI 30) ∧ (∀ i, i < 4 → ∀ m, m < 11 → cs2 (6 + i) m = nI 1) ∧ (cs2 10 1 = nI 0 ∧ ∀ j, cs2 11 j = 0) ∧ (cs2 20 0 = nI 0 ∧ cs2 20 1 = nI 0 ∧ ∀ j, cs2 21 j = 0 ∧ cs2 22 j = 0 ∧ cs2 23 j = 0 ∧ cs2 24 j = 0) ∧ cs2 25 1 = nI 0 ∧ cs2 26 1 = nI 0 ∧ cs2 27 1 = nI 0) ∧ r9 = ((none, hk (100, sl + 2245, f) T2 cs2)))
    refine r_aload_n rfl dc_1_1_23 ?_
    refine r_sipush (v := nI 360) (by decide) dc_1_1_24 ?_
    refine h_newi (n := 360) (by show 3 < 1000000; omega) (by show ¬ (100 ≤ 3 ∧ 3 < 157); omega) (by omega) dc_1_1_27 ?_
    show mm_Ru 3 (0, 1, true, prog_1_method_1_code, none) 29 [(0, .ref 0)] [.ref 3, .ref 0] (hk ((4, sl + 368, f)) (va_up (va_up (va_up (va_up (va_up T 1 ((20, 4, fun _ => none))) 0 ((0, 0, rl [(1, 1)]))) 2 ((20, 4, fun _ => none))) 0 ((0, 0, rl [(1, 1), (2, 2)]))) 3 ((20, 360, fun _ => none))) (wA (wA (wA (w1 cs 0 0 (nI 0)) 1 (fun _ => 0)) 2 (fun _ => 0)) 3 (fun _ => 0))) (fun r9 => ∃ (T2 : Nat → mT), ∃ (cs2 : Nat → Nat → Int32), ((∀ a, a < 100 → T2 a = cT e a) ∧ cs2 0 0 = nI 0 ∧ (∀ l, l < 4 → cs2 1 l = nI 10 ∧ cs2 2 l = nI 30) ∧ (∀ i, i < 4 → ∀ m, m < 11 → cs2 (6 + i) m = nI 1) ∧ (cs2 10 1 = nI 0 ∧ ∀ j, cs2 11 j = 0) ∧ (cs2 20 0 = nI 0 ∧ cs2 20 1 = nI 0 ∧ ∀ j, cs2 21 j = 0 ∧ cs2 22 j = 0 ∧ cs2 23 j = 0 ∧ cs2 24 j = 0) ∧ cs2 25 1 = nI 0 ∧ cs2 26 1 = nI 0 ∧ cs2 27 1 = nI 0) ∧ r9 = ((none, hk (100, sl + 2245, f) T2 cs2)))
    refine h_pref (t := (0, 0, rl [(1, 1), (2, 2)])) (t2 := (0, 0, rl [(1, 1), (2, 2), (3, 3)])) fx_0_20 rfl ⟨by show 0 < 4; omega, by omega⟩ (Or.inr ⟨rfl, rfl⟩) rfl rfl (rfl) dc_1_1_29 ?_
    show mm_Ru 3 (0, 1, true, prog_1_method_1_code, none) 32 [(0, .ref 0)] [] (hk ((4, sl + 368, f)) (va_up (va_up (va_up (va_up (va_up (va_up T 1 ((20, 4, fun _ => none))) 0 ((0, 0, rl [(1, 1)]))) 2 ((20, 4, fun _ => none))) 0 ((0, 0, rl [(1, 1), (2, 2)]))) 3 ((20, 360, fun _ => none))) 0 ((0, 0, rl [(1, 1), (2, 2), (3, 3)]))) (wA (wA (wA (w1 cs 0 0 (nI 0)) 1 (fun _ => 0)) 2 (fun _ => 0)) 3 (fun _ => 0))) (fun r9 => ∃ (T2 : Nat → mT), ∃ (cs2 : Nat → Nat → Int32), ((∀ a, a < 100 → T2 a = cT e a) ∧ cs2 0 0 = nI 0 ∧ (∀ l, l < 4 → cs2 1 l = nI 10 ∧ cs2 2 l = nI 30) ∧ (∀ i, i < 4 → ∀ m, m < 11 → cs2 (6 + i) m = nI 1) ∧ (cs2 10 1 = nI 0 ∧ ∀ j, cs2 11 j = 0) ∧ (cs2 20 0 = nI 0 ∧ cs2 20 1 = nI 0 ∧ ∀ j, cs2 21 j = 0 ∧ cs2 22 j = 0 ∧ cs2 23 j = 0 ∧ cs2 24 j = 0) ∧ cs2 25 1 = nI 0 ∧ cs2 26 1 = nI 0 ∧ cs2 27 1 = nI 0) ∧ r9 = ((none, hk (100, sl + 2245, f) T2 cs2)))
    refine r_aload_n rfl dc_1_1_32 ?_
    refine h_new (c := 1) (nf := 1) kr_0_23 (by show 4 < 1000000; omega) (by show ¬ (100 ≤ 4 ∧ 4 < 157); omega) (mk_n1) (by decide +kernel) dc_1_1_33 ?_
    show mm_Ru 3 (0, 1, true, prog_1_method_1_code, none) 36 [(0, .ref 0)] [.ref 4, .ref 0] (hk ((5, sl + 369, f)) (va_up (va_up (va_up (va_up (va_up (va_up (va_up T 1 ((20, 4, fun _ => none))) 0 ((0, 0, rl [(1, 1)]))) 2 ((20, 4, fun _ => none))) 0 ((0, 0, rl [(1, 1), (2, 2)]))) 3 ((20, 360, fun _ => none))) 0 ((0, 0, rl [(1, 1), (2, 2), (3, 3)]))) 4 ((1, 0, fun _ => none))) (wA (wA (wA (wA (w1 cs 0 0 (nI 0)) 1 (fun _ => 0)) 2 (fun _ => 0)) 3 (fun _ => 0)) 4 (fun _ => 0))) (fun r9 => ∃ (T2 : Nat → mT), ∃ (cs2 : Nat → Nat → Int32), ((∀ a, a < 100 → T2 a = cT e a) ∧ cs2 0 0 = nI 0 ∧ (∀ l, l < 4 → cs2 1 l = nI 10 ∧ cs2 2 l = nI 30) ∧ (∀ i, i < 4 → ∀ m, m < 11 → cs2 (6 + i) m = nI 1) ∧ (cs2 10 1 = nI 0 ∧ ∀ j, cs2 11 j = 0) ∧ (cs2 20 0 = nI 0 ∧ cs2 20 1 = nI 0 ∧ ∀ j, cs2 21 j = 0 ∧ cs2 22 j = 0 ∧ cs2 23 j = 0 ∧ cs2 24 j = 0) ∧ cs2 25 1 = nI 0 ∧ cs2 26 1 = nI 0 ∧ cs2 27 1 = nI 0) ∧ r9 = ((none, hk (100, sl + 2245, f) T2 cs2)))
    refine r_dup rfl dc_1_1_36 ?_
    obtain ⟨T1, cs1, ⟨h1a, h1b, h1c, h1d⟩, hev1⟩ := k_iScal e (sl + 369) f (va_up (va_up (va_up (va_up (va_up (va_up (va_up T 1 ((20, 4, fun _ => none))) 0 ((0, 0, rl [(1, 1)]))) 2 ((20, 4, fun _ => none))) 0 ((0, 0, rl [(1, 1), (2, 2)]))) 3 ((20, 360, fun _ => none))) 0 ((0, 0, rl [(1, 1), (2, 2), (3, 3)]))) 4 ((1, 0, fun _ => none))) (wA (wA (wA (wA (w1 cs 0 0 (nI 0)) 1 (fun _ => 0)) 2 (fun _ => 0)) 3 (fun _ => 0)) 4 (fun _ => 0)) rfl
    refine h_callI (as := []) (rest := [.ref 4, .ref 0]) (M1 := hk ((10, sl + 417, f)) T1 cs1) rfl rfl iv_0_i25 (Or.inl rfl) na_2_1 rfl (show (2 : Nat) ≤ 8 by decide) dc_1_1_37 (mm_Ev_up (by decide : 2 ≤ 3) (hev1)) ?_
    refine h_pref (t := (0, 0, rl [(1, 1), (2, 2), (3, 3)])) (t2 := (0, 0, rl [(1, 1), (2, 2), (3, 3), (4, 4)])) fx_0_26 ((h1b 0 (by decide)).trans rfl) ⟨by show 0 < 10; omega, by omega⟩ (Or.inr ⟨rfl, rfl⟩) rfl rfl (rfl) dc_1_1_40 ?_
    show mm_Ru 3 (0, 1, true, prog_1_method_1_code, none) 43 [(0, .ref 0)] [] (hk ((10, sl + 417, f)) (va_up T1 0 ((0, 0, rl [(1, 1), (2, 2), (3, 3), (4, 4)]))) cs1) (fun r9 => ∃ (T2 : Nat → mT), ∃ (cs2 : Nat → Nat → Int32), ((∀ a, a < 100 → T2 a = cT e a) ∧ cs2 0 0 = nI 0 ∧ (∀ l, l < 4 → cs2 1 l = nI 10 ∧ cs2 2 l = nI 30) ∧ (∀ i, i < 4 → ∀ m, m < 11 → cs2 (6 + i) m = nI 1) ∧ (cs2 10 1 = nI 0 ∧ ∀ j, cs2 11 j = 0) ∧ (cs2 20 0 = nI 0 ∧ cs2 20 1 = nI 0 ∧ ∀ j, cs2 21 j = 0 ∧ cs2 22 j = 0 ∧ cs2 23 j = 0 ∧ cs2 24 j = 0) ∧ cs2 25 1 = nI 0 ∧ cs2 26 1 = nI 0 ∧ cs2 27 1 = nI 0) ∧ r9 = ((none, hk (100, sl + 2245, f) T2 cs2)))
    refine r_aload_n rfl dc_1_1_43 ?_
    refine h_new (c := 2) (nf := 2) kr_0_30 (by show 10 < 1000000; omega) (by show ¬ (100 ≤ 10 ∧ 10 < 157); omega) (mk_n2) (by decide +kernel) dc_1_1_44 ?_
    show mm_Ru 3 (0, 1, true, prog_1_method_1_code, none) 47 [(0, .ref 0)] [.ref 10, .ref 0] (hk ((11, sl + 419, f)) (va_up (va_up T1 0 ((0, 0, rl [(1, 1), (2, 2), (3, 3), (4, 4)]))) 10 ((2, 0, fun _ => none))) (wA cs1 10 (fun _ => 0))) (fun r9 => ∃ (T2 : Nat → mT), ∃ (cs2 : Nat → Nat → Int32), ((∀ a, a < 100 → T2 a = cT e a) ∧ cs2 0 0 = nI 0 ∧ (∀ l, l < 4 → cs2 1 l = nI 10 ∧ cs2 2 l = nI 30) ∧ (∀ i, i < 4 → ∀ m, m < 11 → cs2 (6 + i) m = nI 1) ∧ (cs2 10 1 = nI 0 ∧ ∀ j, cs2 11 j = 0) ∧ (cs2 20 0 = nI 0 ∧ cs2 20 1 = nI 0 ∧ ∀ j, cs2 21 j = 0 ∧ cs2 22 j = 0 ∧ cs2 23 j = 0 ∧ cs2 24 j = 0) ∧ cs2 25 1 = nI 0 ∧ cs2 26 1 = nI 0 ∧ cs2 27 1 = nI 0) ∧ r9 = ((none, hk (100, sl + 2245, f) T2 cs2)))
    refine r_dup rfl dc_1_1_47 ?_
    obtain ⟨T2, cs2, ⟨h2a, h2b, h2c, h2d⟩, hev2⟩ := k_iTape e (sl + 419) f (va_up (va_up T1 0 ((0, 0, rl [(1, 1), (2, 2), (3, 3), (4, 4)]))) 10 ((2, 0, fun _ => none))) (wA cs1 10 (fun _ => 0)) rfl
    refine h_callI (as := []) (rest := [.ref 10, .ref 0]) (M1 := hk ((12, sl + 499, f)) T2 cs2) rfl rfl iv_0_i32 (Or.inr rfl) na_5_3 rfl (show (2 : Nat) ≤ 8 by decide) dc_1_1_48 (mm_Ev_up (by decide : 1 ≤ 3) (hev2)) ?_
    refine h_pref (t := (0, 0, rl [(1, 1), (2, 2), (3, 3), (4, 4)])) (t2 := (0, 0, rl [(1, 1), (2, 2), (3, 3), (4, 4), (5, 10)])) fx_0_33 ((h2b 0 (by decide)).trans rfl) ⟨by show 0 < 12; omega, by omega⟩ (Or.inr ⟨rfl, rfl⟩) rfl rfl (rfl) dc_1_1_51 ?_
    show mm_Ru 3 (0, 1, true, prog_1_method_1_code, none) 54 [(0, .ref 0)] [] (hk ((12, sl + 499, f)) (va_up T2 0 ((0, 0, rl [(1, 1), (2, 2), (3, 3), (4, 4), (5, 10)]))) cs2) (fun r9 => ∃ (T2 : Nat → mT), ∃ (cs2 : Nat → Nat → Int32), ((∀ a, a < 100 → T2 a = cT e a) ∧ cs2 0 0 = nI 0 ∧ (∀ l, l < 4 → cs2 1 l = nI 10 ∧ cs2 2 l = nI 30) ∧ (∀ i, i < 4 → ∀ m, m < 11 → cs2 (6 + i) m = nI 1) ∧ (cs2 10 1 = nI 0 ∧ ∀ j, cs2 11 j = 0) ∧ (cs2 20 0 = nI 0 ∧ cs2 20 1 = nI 0 ∧ ∀ j, cs2 21 j = 0 ∧ cs2 22 j = 0 ∧ cs2 23 j = 0 ∧ cs2 24 j = 0) ∧ cs2 25 1 = nI 0 ∧ cs2 26 1 = nI 0 ∧ cs2 27 1 = nI 0) ∧ r9 = ((none, hk (100, sl + 2245, f) T2 cs2)))
    refine r_aload_n rfl dc_1_1_54 ?_
    refine h_new (c := 3) (nf := 12) kr_0_37 (by show 12 < 1000000; omega) (by show ¬ (100 ≤ 12 ∧ 12 < 157); omega) (mk_n3) (by decide +kernel) dc_1_1_55 ?_
    show mm_Ru 3 (0, 1, true, prog_1_method_1_code, none) 58 [(0, .ref 0)] [.ref 12, .ref 0] (hk ((13, sl + 511, f)) (va_up (va_up T2 0 ((0, 0, rl [(1, 1), (2, 2), (3, 3), (4, 4), (5, 10)]))) 12 ((3, 0, fun _ => none))) (wA cs2 12 (fun _ => 0))) (fun r9 => ∃ (T2 : Nat → mT), ∃ (cs2 : Nat → Nat → Int32), ((∀ a, a < 100 → T2 a = cT e a) ∧ cs2 0 0 = nI 0 ∧ (∀ l, l < 4 → cs2 1 l = nI 10 ∧ cs2 2 l = nI 30) ∧ (∀ i, i < 4 → ∀ m, m < 11 → cs2 (6 + i) m = nI 1) ∧ (cs2 10 1 = nI 0 ∧ ∀ j, cs2 11 j = 0) ∧ (cs2 20 0 = nI 0 ∧ cs2 20 1 = nI 0 ∧ ∀ j, cs2 21 j = 0 ∧ cs2 22 j = 0 ∧ cs2 23 j = 0 ∧ cs2 24 j = 0) ∧ cs2 25 1 = nI 0 ∧ cs2 26 1 = nI 0 ∧ cs2 27 1 = nI 0) ∧ r9 = ((none, hk (100, sl + 2245, f) T2 cs2)))
    refine r_dup rfl dc_1_1_58 ?_
    obtain ⟨T3, cs3, ⟨h3a, h3b, h3c⟩, hev3⟩ := k_iRead e (sl + 511) f (va_up (va_up T2 0 ((0, 0, rl [(1, 1), (2, 2), (3, 3), (4, 4), (5, 10)]))) 12 ((3, 0, fun _ => none))) (wA cs2 12 (fun _ => 0)) he3 rfl
    refine h_callI (as := []) (rest := [.ref 12, .ref 0]) (M1 := hk ((15, sl + 571, f)) T3 cs3) rfl rfl iv_0_i39 (Or.inr rfl) na_5_4 rfl (show (2 : Nat) ≤ 8 by decide) dc_1_1_59 (mm_Ev_up (by decide : 1 ≤ 3) (hev3)) ?_
    refine h_pref (t := (0, 0, rl [(1, 1), (2, 2), (3, 3), (4, 4), (5, 10)])) (t2 := (0, 0, rl [(1, 1), (2, 2), (3, 3), (4, 4), (5, 10), (6, 12)])) fx_0_40 ((h3b 0 (by decide)).trans rfl) ⟨by show 0 < 15; omega, by omega⟩ (Or.inr ⟨rfl, rfl⟩) rfl rfl (rfl) dc_1_1_62 ?_
    show mm_Ru 3 (0, 1, true, prog_1_method_1_code, none) 65 [(0, .ref 0)] [] (hk ((15, sl + 571, f)) (va_up T3 0 ((0, 0, rl [(1, 1), (2, 2), (3, 3), (4, 4), (5, 10), (6, 12)]))) cs3) (fun r9 => ∃ (T2 : Nat → mT), ∃ (cs2 : Nat → Nat → Int32), ((∀ a, a < 100 → T2 a = cT e a) ∧ cs2 0 0 = nI 0 ∧ (∀ l, l < 4 → cs2 1 l = nI 10 ∧ cs2 2 l = nI 30) ∧ (∀ i, i < 4 → ∀ m, m < 11 → cs2 (6 + i) m = nI 1) ∧ (cs2 10 1 = nI 0 ∧ ∀ j, cs2 11 j = 0) ∧ (cs2 20 0 = nI 0 ∧ cs2 20 1 = nI 0 ∧ ∀ j, cs2 21 j = 0 ∧ cs2 22 j = 0 ∧ cs2 23 j = 0 ∧ cs2 24 j = 0) ∧ cs2 25 1 = nI 0 ∧ cs2 26 1 = nI 0 ∧ cs2 27 1 = nI 0) ∧ r9 = ((none, hk (100, sl + 2245, f) T2 cs2)))
    refine r_aload_n rfl dc_1_1_65 ?_
    refine h_new (c := 4) (nf := 1) kr_0_44 (by show 15 < 1000000; omega) (by show ¬ (100 ≤ 15 ∧ 15 < 157); omega) (mk_n4) (by decide +kernel) dc_1_1_66 ?_
    show mm_Ru 3 (0, 1, true, prog_1_method_1_code, none) 69 [(0, .ref 0)] [.ref 15, .ref 0] (hk ((16, sl + 572, f)) (va_up (va_up T3 0 ((0, 0, rl [(1, 1), (2, 2), (3, 3), (4, 4), (5, 10), (6, 12)]))) 15 ((4, 0, fun _ => none))) (wA cs3 15 (fun _ => 0))) (fun r9 => ∃ (T2 : Nat → mT), ∃ (cs2 : Nat → Nat → Int32), ((∀ a, a < 100 → T2 a = cT e a) ∧ cs2 0 0 = nI 0 ∧ (∀ l, l < 4 → cs2 1 l = nI 10 ∧ cs2 2 l = nI 30) ∧ (∀ i, i < 4 → ∀ m, m < 11 → cs2 (6 + i) m = nI 1) ∧ (cs2 10 1 = nI 0 ∧ ∀ j, cs2 11 j = 0) ∧ (cs2 20 0 = nI 0 ∧ cs2 20 1 = nI 0 ∧ ∀ j, cs2 21 j = 0 ∧ cs2 22 j = 0 ∧ cs2 23 j = 0 ∧ cs2 24 j = 0) ∧ cs2 25 1 = nI 0 ∧ cs2 26 1 = nI 0 ∧ cs2 27 1 = nI 0) ∧ r9 = ((none, hk (100, sl + 2245, f) T2 cs2)))
    refine r_dup rfl dc_1_1_69 ?_
    obtain ⟨T4, cs4, ⟨h4a, h4b, h4c⟩, hev4⟩ := k_iGrid e (sl + 572) f (va_up (va_up T3 0 ((0, 0, rl [(1, 1), (2, 2), (3, 3), (4, 4), (5, 10), (6, 12)]))) 15 ((4, 0, fun _ => none))) (wA cs3 15 (fun _ => 0)) rfl
    refine h_callI (as := []) (rest := [.ref 15, .ref 0]) (M1 := hk ((20, sl + 878, f)) T4 cs4) rfl rfl iv_0_i46 (Or.inr rfl) na_5_5 rfl (show (2 : Nat) ≤ 8 by decide) dc_1_1_70 (mm_Ev_up (by decide : 1 ≤ 3) (hev4)) ?_
    refine h_pref (t := (0, 0, rl [(1, 1), (2, 2), (3, 3), (4, 4), (5, 10), (6, 12)])) (t2 := (0, 0, rl [(1, 1), (2, 2), (3, 3), (4, 4), (5, 10), (6, 12), (7, 15)])) fx_0_47 ((h4b 0 (by decide)).trans rfl) ⟨by show 0 < 20; omega, by omega⟩ (Or.inr ⟨rfl, rfl⟩) rfl rfl (rfl) dc_1_1_73 ?_
    show mm_Ru 3 (0, 1, true, prog_1_method_1_code, none) 76 [(0, .ref 0)] [] (hk ((20, sl + 878, f)) (va_up T4 0 ((0, 0, rl [(1, 1), (2, 2), (3, 3), (4, 4), (5, 10), (6, 12), (7, 15)]))) cs4) (fun r9 => ∃ (T2 : Nat → mT), ∃ (cs2 : Nat → Nat → Int32), ((∀ a, a < 100 → T2 a = cT e a) ∧ cs2 0 0 = nI 0 ∧ (∀ l, l < 4 → cs2 1 l = nI 10 ∧ cs2 2 l = nI 30) ∧ (∀ i, i < 4 → ∀ m, m < 11 → cs2 (6 + i) m = nI 1) ∧ (cs2 10 1 = nI 0 ∧ ∀ j, cs2 11 j = 0) ∧ (cs2 20 0 = nI 0 ∧ cs2 20 1 = nI 0 ∧ ∀ j, cs2 21 j = 0 ∧ cs2 22 j = 0 ∧ cs2 23 j = 0 ∧ cs2 24 j = 0) ∧ cs2 25 1 = nI 0 ∧ cs2 26 1 = nI 0 ∧ cs2 27 1 = nI 0) ∧ r9 = ((none, hk (100, sl + 2245, f) T2 cs2)))
    refine r_aload_n rfl dc_1_1_76 ?_
    refine h_new (c := 5) (nf := 6) kr_0_51 (by show 20 < 1000000; omega) (by show ¬ (100 ≤ 20 ∧ 20 < 157); omega) (mk_n5) (by decide +kernel) dc_1_1_77 ?_
    show mm_Ru 3 (0, 1, true, prog_1_method_1_code, none) 80 [(0, .ref 0)] [.ref 20, .ref 0] (hk ((21, sl + 884, f)) (va_up (va_up T4 0 ((0, 0, rl [(1, 1), (2, 2), (3, 3), (4, 4), (5, 10), (6, 12), (7, 15)]))) 20 ((5, 0, fun _ => none))) (wA cs4 20 (fun _ => 0))) (fun r9 => ∃ (T2 : Nat → mT), ∃ (cs2 : Nat → Nat → Int32), ((∀ a, a < 100 → T2 a = cT e a) ∧ cs2 0 0 = nI 0 ∧ (∀ l, l < 4 → cs2 1 l = nI 10 ∧ cs2 2 l = nI 30) ∧ (∀ i, i < 4 → ∀ m, m < 11 → cs2 (6 + i) m = nI 1) ∧ (cs2 10 1 = nI 0 ∧ ∀ j, cs2 11 j = 0) ∧ (cs2 20 0 = nI 0 ∧ cs2 20 1 = nI 0 ∧ ∀ j, cs2 21 j = 0 ∧ cs2 22 j = 0 ∧ cs2 23 j = 0 ∧ cs2 24 j = 0) ∧ cs2 25 1 = nI 0 ∧ cs2 26 1 = nI 0 ∧ cs2 27 1 = nI 0) ∧ r9 = ((none, hk (100, sl + 2245, f) T2 cs2)))
    refine r_dup rfl dc_1_1_80 ?_
    obtain ⟨T5, cs5, ⟨h5a, h5b, h5c, h5d⟩, hev5⟩ := k_iFact e (sl + 884) f (va_up (va_up T4 0 ((0, 0, rl [(1, 1), (2, 2), (3, 3), (4, 4), (5, 10), (6, 12), (7, 15)]))) 20 ((5, 0, fun _ => none))) (wA cs4 20 (fun _ => 0)) rfl
    refine h_callI (as := []) (rest := [.ref 20, .ref 0]) (M1 := hk ((25, sl + 1684, f)) T5 cs5) rfl rfl iv_0_i53 (Or.inr rfl) na_5_6 rfl (show (2 : Nat) ≤ 8 by decide) dc_1_1_81 (mm_Ev_up (by decide : 1 ≤ 3) (hev5)) ?_
    refine h_pref (t := (0, 0, rl [(1, 1), (2, 2), (3, 3), (4, 4), (5, 10), (6, 12), (7, 15)])) (t2 := (0, 0, rl [(1, 1), (2, 2), (3, 3), (4, 4), (5, 10), (6, 12), (7, 15), (8, 20)])) fx_0_54 ((h5b 0 (by decide)).trans rfl) ⟨by show 0 < 25; omega, by omega⟩ (Or.inr ⟨rfl, rfl⟩) rfl rfl (rfl) dc_1_1_84 ?_
    show mm_Ru 3 (0, 1, true, prog_1_method_1_code, none) 87 [(0, .ref 0)] [] (hk ((25, sl + 1684, f)) (va_up T5 0 ((0, 0, rl [(1, 1), (2, 2), (3, 3), (4, 4), (5, 10), (6, 12), (7, 15), (8, 20)]))) cs5) (fun r9 => ∃ (T2 : Nat → mT), ∃ (cs2 : Nat → Nat → Int32), ((∀ a, a < 100 → T2 a = cT e a) ∧ cs2 0 0 = nI 0 ∧ (∀ l, l < 4 → cs2 1 l = nI 10 ∧ cs2 2 l = nI 30) ∧ (∀ i, i < 4 → ∀ m, m < 11 → cs2 (6 + i) m = nI 1) ∧ (cs2 10 1 = nI 0 ∧ ∀ j, cs2 11 j = 0) ∧ (cs2 20 0 = nI 0 ∧ cs2 20 1 = nI 0 ∧ ∀ j, cs2 21 j = 0 ∧ cs2 22 j = 0 ∧ cs2 23 j = 0 ∧ cs2 24 j = 0) ∧ cs2 25 1 = nI 0 ∧ cs2 26 1 = nI 0 ∧ cs2 27 1 = nI 0) ∧ r9 = ((none, hk (100, sl + 2245, f) T2 cs2)))
    refine r_aload_n rfl dc_1_1_87 ?_
    refine h_new (c := 6) (nf := 3) kr_0_58 (by show 25 < 1000000; omega) (by show ¬ (100 ≤ 25 ∧ 25 < 157); omega) (mk_n6) (by decide +kernel) dc_1_1_88 ?_
    show mm_Ru 3 (0, 1, true, prog_1_method_1_code, none) 91 [(0, .ref 0)] [.ref 25, .ref 0] (hk ((26, sl + 1687, f)) (va_up (va_up T5 0 ((0, 0, rl [(1, 1), (2, 2), (3, 3), (4, 4), (5, 10), (6, 12), (7, 15), (8, 20)]))) 25 ((6, 0, fun _ => none))) (wA cs5 25 (fun _ => 0))) (fun r9 => ∃ (T2 : Nat → mT), ∃ (cs2 : Nat → Nat → Int32), ((∀ a, a < 100 → T2 a = cT e a) ∧ cs2 0 0 = nI 0 ∧ (∀ l, l < 4 → cs2 1 l = nI 10 ∧ cs2 2 l = nI 30) ∧ (∀ i, i < 4 → ∀ m, m < 11 → cs2 (6 + i) m = nI 1) ∧ (cs2 10 1 = nI 0 ∧ ∀ j, cs2 11 j = 0) ∧ (cs2 20 0 = nI 0 ∧ cs2 20 1 = nI 0 ∧ ∀ j, cs2 21 j = 0 ∧ cs2 22 j = 0 ∧ cs2 23 j = 0 ∧ cs2 24 j = 0) ∧ cs2 25 1 = nI 0 ∧ cs2 26 1 = nI 0 ∧ cs2 27 1 = nI 0) ∧ r9 = ((none, hk (100, sl + 2245, f) T2 cs2)))
    refine r_dup rfl dc_1_1_91 ?_
    refine h_callI (as := []) (rest := [.ref 25, .ref 0]) (M1 := hk ((26, sl + 1687, f)) (va_up (va_up (va_up T5 0 ((0, 0, rl [(1, 1), (2, 2), (3, 3), (4, 4), (5, 10), (6, 12), (7, 15), (8, 20)]))) 25 ((6, 0, fun _ => none))) 25 ((6, 0, rl [(0, 1000000)]))) (w1 (wA cs5 25 (fun _ => 0)) 25 2 (nI 0))) rfl rfl iv_0_i60 (Or.inl rfl) na_2_7 rfl (show (2 : Nat) ≤ 8 by decide) dc_1_1_92 (k_iAL ((26, sl + 1687, f)) (va_up (va_up T5 0 ((0, 0, rl [(1, 1), (2, 2), (3, 3), (4, 4), (5, 10), (6, 12), (7, 15), (8, 20)]))) 25 ((6, 0, fun _ => none))) (wA cs5 25 (fun _ => 0)) 25 rfl ⟨by show 25 < 26; decide, by decide⟩) ?_
    refine h_pref (t := (0, 0, rl [(1, 1), (2, 2), (3, 3), (4, 4), (5, 10), (6, 12), (7, 15), (8, 20)])) (t2 := (0, 0, rl [(1, 1), (2, 2), (3, 3), (4, 4), (5, 10), (6, 12), (7, 15), (8, 20), (9, 25)])) fx_0_61 rfl ⟨by show 0 < 26; omega, by omega⟩ (Or.inr ⟨rfl, rfl⟩) rfl rfl (rfl) dc_1_1_95 ?_
    show mm_Ru 3 (0, 1, true, prog_1_method_1_code, none) 98 [(0, .ref 0)] [] (hk ((26, sl + 1687, f)) (va_up (va_up (va_up (va_up T5 0 ((0, 0, rl [(1, 1), (2, 2), (3, 3), (4, 4), (5, 10), (6, 12), (7, 15), (8, 20)]))) 25 ((6, 0, fun _ => none))) 25 ((6, 0, rl [(0, 1000000)]))) 0 ((0, 0, rl [(1, 1), (2, 2), (3, 3), (4, 4), (5, 10), (6, 12), (7, 15), (8, 20), (9, 25)]))) (w1 (wA cs5 25 (fun _ => 0)) 25 2 (nI 0))) (fun r9 => ∃ (T2 : Nat → mT), ∃ (cs2 : Nat → Nat → Int32), ((∀ a, a < 100 → T2 a = cT e a) ∧ cs2 0 0 = nI 0 ∧ (∀ l, l < 4 → cs2 1 l = nI 10 ∧ cs2 2 l = nI 30) ∧ (∀ i, i < 4 → ∀ m, m < 11 → cs2 (6 + i) m = nI 1) ∧ (cs2 10 1 = nI 0 ∧ ∀ j, cs2 11 j = 0) ∧ (cs2 20 0 = nI 0 ∧ cs2 20 1 = nI 0 ∧ ∀ j, cs2 21 j = 0 ∧ cs2 22 j = 0 ∧ cs2 23 j = 0 ∧ cs2 24 j = 0) ∧ cs2 25 1 = nI 0 ∧ cs2 26 1 = nI 0 ∧ cs2 27 1 = nI 0) ∧ r9 = ((none, hk (100, sl + 2245, f) T2 cs2)))
    refine r_aload_n rfl dc_1_1_98 ?_
    refine h_new (c := 6) (nf := 3) kr_0_58 (by show 26 < 1000000; omega) (by show ¬ (100 ≤ 26 ∧ 26 < 157); omega) (mk_n6) (by decide +kernel) dc_1_1_99 ?_
    show mm_Ru 3 (0, 1, true, prog_1_method_1_code, none) 102 [(0, .ref 0)] [.ref 26, .ref 0] (hk ((27, sl + 1690, f)) (va_up (va_up (va_up (va_up (va_up T5 0 ((0, 0, rl [(1, 1), (2, 2), (3, 3), (4, 4), (5, 10), (6, 12), (7, 15), (8, 20)]))) 25 ((6, 0, fun _ => none))) 25 ((6, 0, rl [(0, 1000000)]))) 0 ((0, 0, rl [(1, 1), (2, 2), (3, 3), (4, 4), (5, 10), (6, 12), (7, 15), (8, 20), (9, 25)]))) 26 ((6, 0, fun _ => none))) (wA (w1 (wA cs5 25 (fun _ => 0)) 25 2 (nI 0)) 26 (fun _ => 0))) (fun r9 => ∃ (T2 : Nat → mT), ∃ (cs2 : Nat → Nat → Int32), ((∀ a, a < 100 → T2 a = cT e a) ∧ cs2 0 0 = nI 0 ∧ (∀ l, l < 4 → cs2 1 l = nI 10 ∧ cs2 2 l = nI 30) ∧ (∀ i, i < 4 → ∀ m, m < 11 → cs2 (6 + i) m = nI 1) ∧ (cs2 10 1 = nI 0 ∧ ∀ j, cs2 11 j = 0) ∧ (cs2 20 0 = nI 0 ∧ cs2 20 1 = nI 0 ∧ ∀ j, cs2 21 j = 0 ∧ cs2 22 j = 0 ∧ cs2 23 j = 0 ∧ cs2 24 j = 0) ∧ cs2 25 1 = nI 0 ∧ cs2 26 1 = nI 0 ∧ cs2 27 1 = nI 0) ∧ r9 = ((none, hk (100, sl + 2245, f) T2 cs2)))
    refine r_dup rfl dc_1_1_102 ?_
    refine h_callI (as := []) (rest := [.ref 26, .ref 0]) (M1 := hk ((27, sl + 1690, f)) (va_up (va_up (va_up (va_up (va_up (va_up T5 0 ((0, 0, rl [(1, 1), (2, 2), (3, 3), (4, 4), (5, 10), (6, 12), (7, 15), (8, 20)]))) 25 ((6, 0, fun _ => none))) 25 ((6, 0, rl [(0, 1000000)]))) 0 ((0, 0, rl [(1, 1), (2, 2), (3, 3), (4, 4), (5, 10), (6, 12), (7, 15), (8, 20), (9, 25)]))) 26 ((6, 0, fun _ => none))) 26 ((6, 0, rl [(0, 1000000)]))) (w1 (wA (w1 (wA cs5 25 (fun _ => 0)) 25 2 (nI 0)) 26 (fun _ => 0)) 26 2 (nI 0))) rfl rfl iv_0_i60 (Or.inl rfl) na_2_7 rfl (show (2 : Nat) ≤ 8 by decide) dc_1_1_103 (k_iAL ((27, sl + 1690, f)) (va_up (va_up (va_up (va_up (va_up T5 0 ((0, 0, rl [(1, 1), (2, 2), (3, 3), (4, 4), (5, 10), (6, 12), (7, 15), (8, 20)]))) 25 ((6, 0, fun _ => none))) 25 ((6, 0, rl [(0, 1000000)]))) 0 ((0, 0, rl [(1, 1), (2, 2), (3, 3), (4, 4), (5, 10), (6, 12), (7, 15), (8, 20), (9, 25)]))) 26 ((6, 0, fun _ => none))) (wA (w1 (wA cs5 25 (fun _ => 0)) 25 2 (nI 0)) 26 (fun _ => 0)) 26 rfl ⟨by show 26 < 27; decide, by decide⟩) ?_
    refine h_pref (t := (0, 0, rl [(1, 1), (2, 2), (3, 3), (4, 4), (5, 10), (6, 12), (7, 15), (8, 20), (9, 25)])) (t2 := (0, 0, rl [(1, 1), (2, 2), (3, 3), (4, 4), (5, 10), (6, 12), (7, 15), (8, 20), (9, 25), (10, 26)])) fx_0_65 rfl ⟨by show 0 < 27; omega, by omega⟩ (Or.inr ⟨rfl, rfl⟩) rfl rfl (rfl) dc_1_1_106 ?_
    show mm_Ru 3 (0, 1, true, prog_1_method_1_code, none) 109 [(0, .ref 0)] [] (hk ((27, sl + 1690, f)) (va_up (va_up (va_up (va_up (va_up (va_up (va_up T5 0 ((0, 0, rl [(1, 1), (2, 2), (3, 3), (4, 4), (5, 10), (6, 12), (7, 15), (8, 20)]))) 25 ((6, 0, fun _ => none))) 25 ((6, 0, rl [(0, 1000000)]))) 0 ((0, 0, rl [(1, 1), (2, 2), (3, 3), (4, 4), (5, 10), (6, 12), (7, 15), (8, 20), (9, 25)]))) 26 ((6, 0, fun _ => none))) 26 ((6, 0, rl [(0, 1000000)]))) 0 ((0, 0, rl [(1, 1), (2, 2), (3, 3), (4, 4), (5, 10), (6, 12), (7, 15), (8, 20), (9, 25), (10, 26)]))) (w1 (wA (w1 (wA cs5 25 (fun _ => 0)) 25 2 (nI 0)) 26 (fun _ => 0)) 26 2 (nI 0))) (fun r9 => ∃ (T2 : Nat → mT), ∃ (cs2 : Nat → Nat → Int32), ((∀ a, a < 100 → T2 a = cT e a) ∧ cs2 0 0 = nI 0 ∧ (∀ l, l < 4 → cs2 1 l = nI 10 ∧ cs2 2 l = nI 30) ∧ (∀ i, i < 4 → ∀ m, m < 11 → cs2 (6 + i) m = nI 1) ∧ (cs2 10 1 = nI 0 ∧ ∀ j, cs2 11 j = 0) ∧ (cs2 20 0 = nI 0 ∧ cs2 20 1 = nI 0 ∧ ∀ j, cs2 21 j = 0 ∧ cs2 22 j = 0 ∧ cs2 23 j = 0 ∧ cs2 24 j = 0) ∧ cs2 25 1 = nI 0 ∧ cs2 26 1 = nI 0 ∧ cs2 27 1 = nI 0) ∧ r9 = ((none, hk (100, sl + 2245, f) T2 cs2)))
    refine r_aload_n rfl dc_1_1_109 ?_
    refine h_new (c := 6) (nf := 3) kr_0_58 (by show 27 < 1000000; omega) (by show ¬ (100 ≤ 27 ∧ 27 < 157); omega) (mk_n6) (by decide +kernel) dc_1_1_110 ?_
    show mm_Ru 3 (0, 1, true, prog_1_method_1_code, none) 113 [(0, .ref 0)] [.ref 27, .ref 0] (hk ((28, sl + 1693, f)) (va_up (va_up (va_up (va_up (va_up (va_up (va_up (va_up T5 0 ((0, 0, rl [(1, 1), (2, 2), (3, 3), (4, 4), (5, 10), (6, 12), (7, 15), (8, 20)]))) 25 ((6, 0, fun _ => none))) 25 ((6, 0, rl [(0, 1000000)]))) 0 ((0, 0, rl [(1, 1), (2, 2), (3, 3), (4, 4), (5, 10), (6, 12), (7, 15), (8, 20), (9, 25)]))) 26 ((6, 0, fun _ => none))) 26 ((6, 0, rl [(0, 1000000)]))) 0 ((0, 0, rl [(1, 1), (2, 2), (3, 3), (4, 4), (5, 10), (6, 12), (7, 15), (8, 20), (9, 25), (10, 26)]))) 27 ((6, 0, fun _ => none))) (wA (w1 (wA (w1 (wA cs5 25 (fun _ => 0)) 25 2 (nI 0)) 26 (fun _ => 0)) 26 2 (nI 0)) 27 (fun _ => 0))) (fun r9 => ∃ (T2 : Nat → mT), ∃ (cs2 : Nat → Nat → Int32), ((∀ a, a < 100 → T2 a = cT e a) ∧ cs2 0 0 = nI 0 ∧ (∀ l, l < 4 → cs2 1 l = nI 10 ∧ cs2 2 l = nI 30) ∧ (∀ i, i < 4 → ∀ m, m < 11 → cs2 (6 + i) m = nI 1) ∧ (cs2 10 1 = nI 0 ∧ ∀ j, cs2 11 j = 0) ∧ (cs2 20 0 = nI 0 ∧ cs2 20 1 = nI 0 ∧ ∀ j, cs2 21 j = 0 ∧ cs2 22 j = 0 ∧ cs2 23 j = 0 ∧ cs2 24 j = 0) ∧ cs2 25 1 = nI 0 ∧ cs2 26 1 = nI 0 ∧ cs2 27 1 = nI 0) ∧ r9 = ((none, hk (100, sl + 2245, f) T2 cs2)))
    refine r_dup rfl dc_1_1_113 ?_
    refine h_callI (as := []) (rest := [.ref 27, .ref 0]) (M1 := hk ((28, sl + 1693, f)) (va_up (va_up (va_up (va_up (va_up (va_up (va_up (va_up (va_up T5 0 ((0, 0, rl [(1, 1), (2, 2), (3, 3), (4, 4), (5, 10), (6, 12), (7, 15), (8, 20)]))) 25 ((6, 0, fun _ => none))) 25 ((6, 0, rl [(0, 1000000)]))) 0 ((0, 0, rl [(1, 1), (2, 2), (3, 3), (4, 4), (5, 10), (6, 12), (7, 15), (8, 20), (9, 25)]))) 26 ((6, 0, fun _ => none))) 26 ((6, 0, rl [(0, 1000000)]))) 0 ((0, 0, rl [(1, 1), (2, 2), (3, 3), (4, 4), (5, 10), (6, 12), (7, 15), (8, 20), (9, 25), (10, 26)]))) 27 ((6, 0, fun _ => none))) 27 ((6, 0, rl [(0, 1000000)]))) (w1 (wA (w1 (wA (w1 (wA cs5 25 (fun _ => 0)) 25 2 (nI 0)) 26 (fun _ => 0)) 26 2 (nI 0)) 27 (fun _ => 0)) 27 2 (nI 0))) rfl rfl iv_0_i60 (Or.inl rfl) na_2_7 rfl (show (2 : Nat) ≤ 8 by decide) dc_1_1_114 (k_iAL ((28, sl + 1693, f)) (va_up (va_up (va_up (va_up (va_up (va_up (va_up (va_up T5 0 ((0, 0, rl [(1, 1), (2, 2), (3, 3), (4, 4), (5, 10), (6, 12), (7, 15), (8, 20)]))) 25 ((6, 0, fun _ => none))) 25 ((6, 0, rl [(0, 1000000)]))) 0 ((0, 0, rl [(1, 1), (2, 2), (3, 3), (4, 4), (5, 10), (6, 12), (7, 15), (8, 20), (9, 25)]))) 26 ((6, 0, fun _ => none))) 26 ((6, 0, rl [(0, 1000000)]))) 0 ((0, 0, rl [(1, 1), (2, 2), (3, 3), (4, 4), (5, 10), (6, 12), (7, 15), (8, 20), (9, 25), (10, 26)]))) 27 ((6, 0, fun _ => none))) (wA (w1 (wA (w1 (wA cs5 25 (fun _ => 0)) 25 2 (nI 0)) 26 (fun _ => 0)) 26 2 (nI 0)) 27 (fun _ => 0)) 27 rfl ⟨by show 27 < 28; decide, by decide⟩) ?_
    refine h_pref (t := (0, 0, rl [(1, 1), (2, 2), (3, 3), (4, 4), (5, 10), (6, 12), (7, 15), (8, 20), (9, 25), (10, 26)])) (t2 := (0, 0, rl [(1, 1), (2, 2), (3, 3), (4, 4), (5, 10), (6, 12), (7, 15), (8, 20), (9, 25), (10, 26), (11, 27)])) fx_0_68 rfl ⟨by show 0 < 28; omega, by omega⟩ (Or.inr ⟨rfl, rfl⟩) rfl rfl (rfl) dc_1_1_117 ?_
    show mm_Ru 3 (0, 1, true, prog_1_method_1_code, none) 120 [(0, .ref 0)] [] (hk ((28, sl + 1693, f)) (va_up (va_up (va_up (va_up (va_up (va_up (va_up (va_up (va_up (va_up T5 0 ((0, 0, rl [(1, 1), (2, 2), (3, 3), (4, 4), (5, 10), (6, 12), (7, 15), (8, 20)]))) 25 ((6, 0, fun _ => none))) 25 ((6, 0, rl [(0, 1000000)]))) 0 ((0, 0, rl [(1, 1), (2, 2), (3, 3), (4, 4), (5, 10), (6, 12), (7, 15), (8, 20), (9, 25)]))) 26 ((6, 0, fun _ => none))) 26 ((6, 0, rl [(0, 1000000)]))) 0 ((0, 0, rl [(1, 1), (2, 2), (3, 3), (4, 4), (5, 10), (6, 12), (7, 15), (8, 20), (9, 25), (10, 26)]))) 27 ((6, 0, fun _ => none))) 27 ((6, 0, rl [(0, 1000000)]))) 0 ((0, 0, rl [(1, 1), (2, 2), (3, 3), (4, 4), (5, 10), (6, 12), (7, 15), (8, 20), (9, 25), (10, 26), (11, 27)]))) (w1 (wA (w1 (wA (w1 (wA cs5 25 (fun _ => 0)) 25 2 (nI 0)) 26 (fun _ => 0)) 26 2 (nI 0)) 27 (fun _ => 0)) 27 2 (nI 0))) (fun r9 => ∃ (T2 : Nat → mT), ∃ (cs2 : Nat → Nat → Int32), ((∀ a, a < 100 → T2 a = cT e a) ∧ cs2 0 0 = nI 0 ∧ (∀ l, l < 4 → cs2 1 l = nI 10 ∧ cs2 2 l = nI 30) ∧ (∀ i, i < 4 → ∀ m, m < 11 → cs2 (6 + i) m = nI 1) ∧ (cs2 10 1 = nI 0 ∧ ∀ j, cs2 11 j = 0) ∧ (cs2 20 0 = nI 0 ∧ cs2 20 1 = nI 0 ∧ ∀ j, cs2 21 j = 0 ∧ cs2 22 j = 0 ∧ cs2 23 j = 0 ∧ cs2 24 j = 0) ∧ cs2 25 1 = nI 0 ∧ cs2 26 1 = nI 0 ∧ cs2 27 1 = nI 0) ∧ r9 = ((none, hk (100, sl + 2245, f) T2 cs2)))
    refine r_aload_n rfl dc_1_1_120 ?_
    refine h_new (c := 7) (nf := 15) kr_0_71 (by show 28 < 1000000; omega) (by show ¬ (100 ≤ 28 ∧ 28 < 157); omega) (mk_n7) (by decide +kernel) dc_1_1_121 ?_
    show mm_Ru 3 (0, 1, true, prog_1_method_1_code, none) 124 [(0, .ref 0)] [.ref 28, .ref 0] (hk ((29, sl + 1708, f)) (va_up (va_up (va_up (va_up (va_up (va_up (va_up (va_up (va_up (va_up (va_up T5 0 ((0, 0, rl [(1, 1), (2, 2), (3, 3), (4, 4), (5, 10), (6, 12), (7, 15), (8, 20)]))) 25 ((6, 0, fun _ => none))) 25 ((6, 0, rl [(0, 1000000)]))) 0 ((0, 0, rl [(1, 1), (2, 2), (3, 3), (4, 4), (5, 10), (6, 12), (7, 15), (8, 20), (9, 25)]))) 26 ((6, 0, fun _ => none))) 26 ((6, 0, rl [(0, 1000000)]))) 0 ((0, 0, rl [(1, 1), (2, 2), (3, 3), (4, 4), (5, 10), (6, 12), (7, 15), (8, 20), (9, 25), (10, 26)]))) 27 ((6, 0, fun _ => none))) 27 ((6, 0, rl [(0, 1000000)]))) 0 ((0, 0, rl [(1, 1), (2, 2), (3, 3), (4, 4), (5, 10), (6, 12), (7, 15), (8, 20), (9, 25), (10, 26), (11, 27)]))) 28 ((7, 0, fun _ => none))) (wA (w1 (wA (w1 (wA (w1 (wA cs5 25 (fun _ => 0)) 25 2 (nI 0)) 26 (fun _ => 0)) 26 2 (nI 0)) 27 (fun _ => 0)) 27 2 (nI 0)) 28 (fun _ => 0))) (fun r9 => ∃ (T2 : Nat → mT), ∃ (cs2 : Nat → Nat → Int32), ((∀ a, a < 100 → T2 a = cT e a) ∧ cs2 0 0 = nI 0 ∧ (∀ l, l < 4 → cs2 1 l = nI 10 ∧ cs2 2 l = nI 30) ∧ (∀ i, i < 4 → ∀ m, m < 11 → cs2 (6 + i) m = nI 1) ∧ (cs2 10 1 = nI 0 ∧ ∀ j, cs2 11 j = 0) ∧ (cs2 20 0 = nI 0 ∧ cs2 20 1 = nI 0 ∧ ∀ j, cs2 21 j = 0 ∧ cs2 22 j = 0 ∧ cs2 23 j = 0 ∧ cs2 24 j = 0) ∧ cs2 25 1 = nI 0 ∧ cs2 26 1 = nI 0 ∧ cs2 27 1 = nI 0) ∧ r9 = ((none, hk (100, sl + 2245, f) T2 cs2)))
    refine r_dup rfl dc_1_1_124 ?_
    obtain ⟨T6, cs6, ⟨h6a, h6b, h6c⟩, hev6⟩ := k_iPlan e (sl + 1708) f (va_up (va_up (va_up (va_up (va_up (va_up (va_up (va_up (va_up (va_up (va_up T5 0 ((0, 0, rl [(1, 1), (2, 2), (3, 3), (4, 4), (5, 10), (6, 12), (7, 15), (8, 20)]))) 25 ((6, 0, fun _ => none))) 25 ((6, 0, rl [(0, 1000000)]))) 0 ((0, 0, rl [(1, 1), (2, 2), (3, 3), (4, 4), (5, 10), (6, 12), (7, 15), (8, 20), (9, 25)]))) 26 ((6, 0, fun _ => none))) 26 ((6, 0, rl [(0, 1000000)]))) 0 ((0, 0, rl [(1, 1), (2, 2), (3, 3), (4, 4), (5, 10), (6, 12), (7, 15), (8, 20), (9, 25), (10, 26)]))) 27 ((6, 0, fun _ => none))) 27 ((6, 0, rl [(0, 1000000)]))) 0 ((0, 0, rl [(1, 1), (2, 2), (3, 3), (4, 4), (5, 10), (6, 12), (7, 15), (8, 20), (9, 25), (10, 26), (11, 27)]))) 28 ((7, 0, fun _ => none))) (wA (w1 (wA (w1 (wA (w1 (wA cs5 25 (fun _ => 0)) 25 2 (nI 0)) 26 (fun _ => 0)) 26 2 (nI 0)) 27 (fun _ => 0)) 27 2 (nI 0)) 28 (fun _ => 0)) rfl
    refine h_callI (as := []) (rest := [.ref 28, .ref 0]) (M1 := hk ((100, sl + 2245, f)) T6 cs6) rfl rfl iv_0_i73 (Or.inr rfl) na_5_10 rfl (show (2 : Nat) ≤ 8 by decide) dc_1_1_125 (mm_Ev_up (by decide : 2 ≤ 3) (hev6)) ?_
    refine h_pref (t := (0, 0, rl [(1, 1), (2, 2), (3, 3), (4, 4), (5, 10), (6, 12), (7, 15), (8, 20), (9, 25), (10, 26), (11, 27)])) (t2 := (0, 0, rl [(1, 1), (2, 2), (3, 3), (4, 4), (5, 10), (6, 12), (7, 15), (8, 20), (9, 25), (10, 26), (11, 27), (12, 28)])) fx_0_74 ((h6b 0 (by decide)).trans rfl) ⟨by show 0 < 100; omega, by omega⟩ (Or.inr ⟨rfl, rfl⟩) rfl rfl (rfl) dc_1_1_128 ?_
    show mm_Ru 3 (0, 1, true, prog_1_method_1_code, none) 131 [(0, .ref 0)] [] (hk ((100, sl + 2245, f)) (va_up T6 0 ((0, 0, rl [(1, 1), (2, 2), (3, 3), (4, 4), (5, 10), (6, 12), (7, 15), (8, 20), (9, 25), (10, 26), (11, 27), (12, 28)]))) cs6) (fun r9 => ∃ (T2 : Nat → mT), ∃ (cs2 : Nat → Nat → Int32), ((∀ a, a < 100 → T2 a = cT e a) ∧ cs2 0 0 = nI 0 ∧ (∀ l, l < 4 → cs2 1 l = nI 10 ∧ cs2 2 l = nI 30) ∧ (∀ i, i < 4 → ∀ m, m < 11 → cs2 (6 + i) m = nI 1) ∧ (cs2 10 1 = nI 0 ∧ ∀ j, cs2 11 j = 0) ∧ (cs2 20 0 = nI 0 ∧ cs2 20 1 = nI 0 ∧ ∀ j, cs2 21 j = 0 ∧ cs2 22 j = 0 ∧ cs2 23 j = 0 ∧ cs2 24 j = 0) ∧ cs2 25 1 = nI 0 ∧ cs2 26 1 = nI 0 ∧ cs2 27 1 = nI 0) ∧ r9 = ((none, hk (100, sl + 2245, f) T2 cs2)))
    refine r_aload_n rfl dc_1_1_131 ?_
    refine h_get (t := (0, 0, rl [(1, 1), (2, 2), (3, 3), (4, 4), (5, 10), (6, 12), (7, 15), (8, 20), (9, 25), (10, 26), (11, 27), (12, 28)])) (v := .ref 1) fx_0_13 rfl ⟨by show 0 < 100; omega, by omega⟩ (rfl) dc_1_1_132 ?_
    refine r_bipush (v := nI 10) (by decide) dc_1_1_135 ?_
    refine h_callS0 (as := [.ref 1, .int (nI 10)]) (rest := []) (M1 := hk ((100, sl + 2245, f)) (va_up T6 0 ((0, 0, rl [(1, 1), (2, 2), (3, 3), (4, 4), (5, 10), (6, 12), (7, 15), (8, 20), (9, 25), (10, 26), (11, 27), (12, 28)]))) (wA cs6 1 (fl (cs6 1) 4 (nI 10)))) rfl rfl iv_0_s78 (Or.inl rfl) na_0_2 rfl (show (0 : Nat) ≤ 8 by decide) dc_1_1_137 (mm_Ev_up (by decide : 1 ≤ 3) (k_fill ((100, sl + 2245, f)) (va_up T6 0 ((0, 0, rl [(1, 1), (2, 2), (3, 3), (4, 4), (5, 10), (6, 12), (7, 15), (8, 20), (9, 25), (10, 26), (11, 27), (12, 28)]))) cs6 1 4 (fun _ => none) (nI 10) ((h6b 1 (by decide)).trans (show _ = _ from (h5b 1 (by decide)).trans (show _ = _ from (h4b 1 (by decide)).trans (show _ = _ from (h3b 1 (by decide)).trans (show _ = _ from (h2b 1 (by decide)).trans (show _ = _ from (h1b 1 (by decide)).trans rfl)))))) ⟨by show 1 < 100; decide, by decide⟩ (by decide))) ?_
    refine r_aload_n rfl dc_1_1_140 ?_
    refine h_get (t := (0, 0, rl [(1, 1), (2, 2), (3, 3), (4, 4), (5, 10), (6, 12), (7, 15), (8, 20), (9, 25), (10, 26), (11, 27), (12, 28)])) (v := .ref 2) fx_0_17 rfl ⟨by show 0 < 100; omega, by omega⟩ (rfl) dc_1_1_141 ?_
    refine r_bipush (v := nI 30) (by decide) dc_1_1_144 ?_
    refine h_callS0 (as := [.ref 2, .int (nI 30)]) (rest := []) (M1 := hk ((100, sl + 2245, f)) (va_up T6 0 ((0, 0, rl [(1, 1), (2, 2), (3, 3), (4, 4), (5, 10), (6, 12), (7, 15), (8, 20), (9, 25), (10, 26), (11, 27), (12, 28)]))) (wA (wA cs6 1 (fl (cs6 1) 4 (nI 10))) 2 (fl ((wA cs6 1 (fl (cs6 1) 4 (nI 10))) 2) 4 (nI 30)))) rfl rfl iv_0_s78 (Or.inl rfl) na_0_2 rfl (show (0 : Nat) ≤ 8 by decide) dc_1_1_146 (mm_Ev_up (by decide : 1 ≤ 3) (k_fill ((100, sl + 2245, f)) (va_up T6 0 ((0, 0, rl [(1, 1), (2, 2), (3, 3), (4, 4), (5, 10), (6, 12), (7, 15), (8, 20), (9, 25), (10, 26), (11, 27), (12, 28)]))) (wA cs6 1 (fl (cs6 1) 4 (nI 10))) 2 4 (fun _ => none) (nI 30) ((h6b 2 (by decide)).trans (show _ = _ from (h5b 2 (by decide)).trans (show _ = _ from (h4b 2 (by decide)).trans (show _ = _ from (h3b 2 (by decide)).trans (show _ = _ from (h2b 2 (by decide)).trans (show _ = _ from (h1b 2 (by decide)).trans rfl)))))) ⟨by show 2 < 100; decide, by decide⟩ (by decide))) ?_
    refine r_vret rfl dc_1_1_149 ?_
    refine ⟨_, _, ⟨fun a ha => ?_, ?_, ?_, ?_, ?_, ?_, ?_⟩, rfl⟩
    · rcases (by omega : a = 0 ∨ a = 1 ∨ a = 2 ∨ a = 3 ∨ a = 25 ∨ a = 26 ∨ a = 27 ∨ (4 ≤ a ∧ a < 10) ∨ (10 ≤ a ∧ a < 12) ∨ (12 ≤ a ∧ a < 15) ∨ (15 ≤ a ∧ a < 20) ∨ (20 ≤ a ∧ a < 25) ∨ (28 ≤ a ∧ a < 100)) with rfl | rfl | rfl | rfl | rfl | rfl | rfl | z | z | z | z | z | z
      · exact (show _ = (0, 0, rl [(1, 1), (2, 2), (3, 3), (4, 4), (5, 10), (6, 12), (7, 15), (8, 20), (9, 25), (10, 26), (11, 27), (12, 28)]) from rfl)
      · exact (show _ = _ from (h6b 1 (by decide)).trans (show _ = _ from (h5b 1 (by decide)).trans (show _ = _ from (h4b 1 (by decide)).trans (show _ = _ from (h3b 1 (by decide)).trans (show _ = _ from (h2b 1 (by decide)).trans (show _ = _ from (h1b 1 (by decide)).trans rfl))))))
      · exact (show _ = _ from (h6b 2 (by decide)).trans (show _ = _ from (h5b 2 (by decide)).trans (show _ = _ from (h4b 2 (by decide)).trans (show _ = _ from (h3b 2 (by decide)).trans (show _ = _ from (h2b 2 (by decide)).trans (show _ = _ from (h1b 2 (by decide)).trans rfl))))))
      · exact (show _ = _ from (h6b 3 (by decide)).trans (show _ = _ from (h5b 3 (by decide)).trans (show _ = _ from (h4b 3 (by decide)).trans (show _ = _ from (h3b 3 (by decide)).trans (show _ = _ from (h2b 3 (by decide)).trans (show _ = _ from (h1b 3 (by decide)).trans rfl))))))
      · exact ((show _ = _ from (h6b 25 (by decide)).trans rfl) : _ = (6, 0, rl [(0, 1000000)])).trans (by show _ = (6, 0, rl [(0, e 0)]); rw [he0])
      · exact ((show _ = _ from (h6b 26 (by decide)).trans rfl) : _ = (6, 0, rl [(0, 1000000)])).trans (by show _ = (6, 0, rl [(0, e 1)]); rw [he1])
      · exact ((show _ = _ from (h6b 27 (by decide)).trans rfl) : _ = (6, 0, rl [(0, 1000000)])).trans (by show _ = (6, 0, rl [(0, e 2)]); rw [he2])
      · rw [up_o _ _ (by omega)]
        rw [h6b a (by omega), up_o _ _ (by omega), up_o _ _ (by omega), up_o _ _ (by omega), up_o _ _ (by omega), up_o _ _ (by omega), up_o _ _ (by omega), up_o _ _ (by omega), up_o _ _ (by omega), up_o _ _ (by omega), up_o _ _ (by omega), up_o _ _ (by omega)]
        rw [h5b a (by omega), up_o _ _ (by omega), up_o _ _ (by omega)]
        rw [h4b a (by omega), up_o _ _ (by omega), up_o _ _ (by omega)]
        rw [h3b a (by omega), up_o _ _ (by omega), up_o _ _ (by omega)]
        rw [h2b a (by omega), up_o _ _ (by omega), up_o _ _ (by omega)]
        exact h1a a (by omega) (by omega)
      · rw [up_o _ _ (by omega)]
        rw [h6b a (by omega), up_o _ _ (by omega), up_o _ _ (by omega), up_o _ _ (by omega), up_o _ _ (by omega), up_o _ _ (by omega), up_o _ _ (by omega), up_o _ _ (by omega), up_o _ _ (by omega), up_o _ _ (by omega), up_o _ _ (by omega), up_o _ _ (by omega)]
        rw [h5b a (by omega), up_o _ _ (by omega), up_o _ _ (by omega)]
        rw [h4b a (by omega), up_o _ _ (by omega), up_o _ _ (by omega)]
        rw [h3b a (by omega), up_o _ _ (by omega), up_o _ _ (by omega)]
        exact h2a a (by omega) (by omega)
      · rw [up_o _ _ (by omega)]
        rw [h6b a (by omega), up_o _ _ (by omega), up_o _ _ (by omega), up_o _ _ (by omega), up_o _ _ (by omega), up_o _ _ (by omega), up_o _ _ (by omega), up_o _ _ (by omega), up_o _ _ (by omega), up_o _ _ (by omega), up_o _ _ (by omega), up_o _ _ (by omega)]
        rw [h5b a (by omega), up_o _ _ (by omega), up_o _ _ (by omega)]
        rw [h4b a (by omega), up_o _ _ (by omega), up_o _ _ (by omega)]
        exact h3a a (by omega) (by omega)
      · rw [up_o _ _ (by omega)]
        rw [h6b a (by omega), up_o _ _ (by omega), up_o _ _ (by omega), up_o _ _ (by omega), up_o _ _ (by omega), up_o _ _ (by omega), up_o _ _ (by omega), up_o _ _ (by omega), up_o _ _ (by omega), up_o _ _ (by omega), up_o _ _ (by omega), up_o _ _ (by omega)]
        rw [h5b a (by omega), up_o _ _ (by omega), up_o _ _ (by omega)]
        exact h4a a (by omega) (by omega)
      · rw [up_o _ _ (by omega)]
        rw [h6b a (by omega), up_o _ _ (by omega), up_o _ _ (by omega), up_o _ _ (by omega), up_o _ _ (by omega), up_o _ _ (by omega), up_o _ _ (by omega), up_o _ _ (by omega), up_o _ _ (by omega), up_o _ _ (by omega), up_o _ _ (by omega), up_o _ _ (by omega)]
        exact h5a a (by omega) (by omega)
      · rw [up_o _ _ (by omega)]
        exact h6a a (by omega) (by omega)
    · rw [wA_o _ _ (by omega), wA_o _ _ (by omega)]
      rw [h6c 0 (by omega)]
      repeat (first | rw [wA_o _ _ (by omega)] | rw [w1_n _ _ _ (by omega)])
      rw [h5c 0 (by omega)]
      repeat (first | rw [wA_o _ _ (by omega)] | rw [w1_n _ _ _ (by omega)])
      rw [h4c 0 (by omega)]
      repeat (first | rw [wA_o _ _ (by omega)] | rw [w1_n _ _ _ (by omega)])
      rw [h3c 0 (by omega)]
      repeat (first | rw [wA_o _ _ (by omega)] | rw [w1_n _ _ _ (by omega)])
      rw [h2c 0 (by omega)]
      repeat (first | rw [wA_o _ _ (by omega)] | rw [w1_n _ _ _ (by omega)])
      rw [h1c 0 (by omega)]
      rfl
    · intro l hl
      rw [wA_o _ _ (by omega), wA_s, wA_s]
      exact ⟨if_pos hl, if_pos hl⟩
    · intro i hi m hm
      rw [wA_o _ _ (by omega), wA_o _ _ (by omega)]
      rw [h6c ((6 + i)) (by omega)]
      repeat (first | rw [wA_o _ _ (by omega)] | rw [w1_n _ _ _ (by omega)])
      rw [h5c ((6 + i)) (by omega)]
      repeat (first | rw [wA_o _ _ (by omega)] | rw [w1_n _ _ _ (by omega)])
      rw [h4c ((6 + i)) (by omega)]
      repeat (first | rw [wA_o _ _ (by omega)] | rw [w1_n _ _ _ (by omega)])
      rw [h3c ((6 + i)) (by omega)]
      repeat (first | rw [wA_o _ _ (by omega)] | rw [w1_n _ _ _ (by omega)])
      rw [h2c ((6 + i)) (by omega)]
      repeat (first | rw [wA_o _ _ (by omega)] | rw [w1_n _ _ _ (by omega)])
      exact h1d i hi m hm
    · refine ⟨?_, fun j => ?_⟩
      · rw [wA_o _ _ (by omega), wA_o _ _ (by omega)]
        rw [h6c 10 (by omega)]
        repeat (first | rw [wA_o _ _ (by omega)] | rw [w1_n _ _ _ (by omega)])
        rw [h5c 10 (by omega)]
        repeat (first | rw [wA_o _ _ (by omega)] | rw [w1_n _ _ _ (by omega)])
        rw [h4c 10 (by omega)]
        repeat (first | rw [wA_o _ _ (by omega)] | rw [w1_n _ _ _ (by omega)])
        rw [h3c 10 (by omega)]
        repeat (first | rw [wA_o _ _ (by omega)] | rw [w1_n _ _ _ (by omega)])
        exact h2d.1
      · rw [wA_o _ _ (by omega), wA_o _ _ (by omega)]
        rw [h6c 11 (by omega)]
        repeat (first | rw [wA_o _ _ (by omega)] | rw [w1_n _ _ _ (by omega)])
        rw [h5c 11 (by omega)]
        repeat (first | rw [wA_o _ _ (by omega)] | rw [w1_n _ _ _ (by omega)])
        rw [h4c 11 (by omega)]
        repeat (first | rw [wA_o _ _ (by omega)] | rw [w1_n _ _ _ (by omega)])
        rw [h3c 11 (by omega)]
        repeat (first | rw [wA_o _ _ (by omega)] | rw [w1_n _ _ _ (by omega)])
        exact h2d.2 j
    · refine ⟨?_, ?_, fun j => ⟨?_, ?_, ?_, ?_⟩⟩
      · rw [wA_o _ _ (by omega), wA_o _ _ (by omega)]
        rw [h6c 20 (by omega)]
        repeat (first | rw [wA_o _ _ (by omega)] | rw [w1_n _ _ _ (by omega)])
        exact h5d.1
      · rw [wA_o _ _ (by omega), wA_o _ _ (by omega)]
        rw [h6c 20 (by omega)]
        repeat (first | rw [wA_o _ _ (by omega)] | rw [w1_n _ _ _ (by omega)])
        exact h5d.2.1
      · rw [wA_o _ _ (by omega), wA_o _ _ (by omega)]
        rw [h6c 21 (by omega)]
        repeat (first | rw [wA_o _ _ (by omega)] | rw [w1_n _ _ _ (by omega)])
        exact (h5d.2.2 j).1
      · rw [wA_o _ _ (by omega), wA_o _ _ (by omega)]
        rw [h6c 22 (by omega)]
        repeat (first | rw [wA_o _ _ (by omega)] | rw [w1_n _ _ _ (by omega)])
        exact (h5d.2.2 j).2.1
      · rw [wA_o _ _ (by omega), wA_o _ _ (by omega)]
        rw [h6c 23 (by omega)]
        repeat (first | rw [wA_o _ _ (by omega)] | rw [w1_n _ _ _ (by omega)])
        exact (h5d.2.2 j).2.2.1
      · rw [wA_o _ _ (by omega), wA_o _ _ (by omega)]
        rw [h6c 24 (by omega)]
        repeat (first | rw [wA_o _ _ (by omega)] | rw [w1_n _ _ _ (by omega)])
        exact (h5d.2.2 j).2.2.2
    · refine ⟨?_, ?_, ?_⟩
      · rw [wA_o _ _ (by omega), wA_o _ _ (by omega), h6c 25 (by omega)]
        rfl
      · rw [wA_o _ _ (by omega), wA_o _ _ (by omega), h6c 26 (by omega)]
        rfl
      · rw [wA_o _ _ (by omega), wA_o _ _ (by omega), h6c 27 (by omega)]
        rfl
  obtain ⟨z9, ⟨T2, cs2, p9, e9⟩, h9⟩ := hq9
  subst e9
  exact ⟨T2, cs2, p9, h9⟩
