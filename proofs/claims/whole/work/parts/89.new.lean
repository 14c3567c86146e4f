/-! new schools, courses, students, agreements -/
theorem dc_10_1_0 : decode prog_10_method_1_code 0 = .ok (.aload_n 0, 1) := by decide +kernel
theorem dc_10_1_1 : decode prog_10_method_1_code 1 = .ok (.invokespecial 3, 3) := by decide +kernel
theorem dc_10_1_4 : decode prog_10_method_1_code 4 = .ok (.aload_n 0, 1) := by decide +kernel
theorem dc_10_1_5 : decode prog_10_method_1_code 5 = .ok (.iconst 4, 1) := by decide +kernel
theorem dc_10_1_6 : decode prog_10_method_1_code 6 = .ok (.newarray .int, 2) := by decide +kernel
theorem dc_10_1_8 : decode prog_10_method_1_code 8 = .ok (.putfield 9, 3) := by decide +kernel
theorem dc_10_1_11 : decode prog_10_method_1_code 11 = .ok (.aload_n 0, 1) := by decide +kernel
theorem dc_10_1_12 : decode prog_10_method_1_code 12 = .ok (.iconst 4, 1) := by decide +kernel
theorem dc_10_1_13 : decode prog_10_method_1_code 13 = .ok (.newarray .int, 2) := by decide +kernel
theorem dc_10_1_15 : decode prog_10_method_1_code 15 = .ok (.putfield 15, 3) := by decide +kernel
theorem dc_10_1_18 : decode prog_10_method_1_code 18 = .ok (.aload_n 0, 1) := by decide +kernel
theorem dc_10_1_19 : decode prog_10_method_1_code 19 = .ok (.iconst 0, 1) := by decide +kernel
theorem dc_10_1_20 : decode prog_10_method_1_code 20 = .ok (.putfield 18, 3) := by decide +kernel
theorem dc_10_1_23 : decode prog_10_method_1_code 23 = .ok (.aload_n 0, 1) := by decide +kernel
theorem dc_10_1_24 : decode prog_10_method_1_code 24 = .ok (.iconst 0, 1) := by decide +kernel
theorem dc_10_1_25 : decode prog_10_method_1_code 25 = .ok (.putfield 22, 3) := by decide +kernel
theorem dc_10_1_28 : decode prog_10_method_1_code 28 = .ok (.aload_n 0, 1) := by decide +kernel
theorem dc_10_1_29 : decode prog_10_method_1_code 29 = .ok (.iconst (-1), 1) := by decide +kernel
theorem dc_10_1_30 : decode prog_10_method_1_code 30 = .ok (.putfield 25, 3) := by decide +kernel
theorem dc_10_1_33 : decode prog_10_method_1_code 33 = .ok (.aload_n 0, 1) := by decide +kernel
theorem dc_10_1_34 : decode prog_10_method_1_code 34 = .ok (.iconst (-1), 1) := by decide +kernel
theorem dc_10_1_35 : decode prog_10_method_1_code 35 = .ok (.putfield 28, 3) := by decide +kernel
theorem dc_10_1_38 : decode prog_10_method_1_code 38 = .ok (.aload_n 0, 1) := by decide +kernel
theorem dc_10_1_39 : decode prog_10_method_1_code 39 = .ok (.iload_n 1, 1) := by decide +kernel
theorem dc_10_1_40 : decode prog_10_method_1_code 40 = .ok (.putfield 31, 3) := by decide +kernel
theorem dc_10_1_43 : decode prog_10_method_1_code 43 = .ok (.aload_n 0, 1) := by decide +kernel
theorem dc_10_1_44 : decode prog_10_method_1_code 44 = .ok (.iload_n 2, 1) := by decide +kernel
theorem dc_10_1_45 : decode prog_10_method_1_code 45 = .ok (.putfield 34, 3) := by decide +kernel
theorem dc_10_1_48 : decode prog_10_method_1_code 48 = .ok (.aload_n 0, 1) := by decide +kernel
theorem dc_10_1_49 : decode prog_10_method_1_code 49 = .ok (.iload_n 3, 1) := by decide +kernel
theorem dc_10_1_50 : decode prog_10_method_1_code 50 = .ok (.putfield 37, 3) := by decide +kernel
theorem dc_10_1_53 : decode prog_10_method_1_code 53 = .ok (.aload_n 0, 1) := by decide +kernel
theorem dc_10_1_54 : decode prog_10_method_1_code 54 = .ok (.iload 4, 2) := by decide +kernel
theorem dc_10_1_56 : decode prog_10_method_1_code 56 = .ok (.putfield 40, 3) := by decide +kernel
theorem dc_10_1_59 : decode prog_10_method_1_code 59 = .ok (.aload_n 0, 1) := by decide +kernel
theorem dc_10_1_60 : decode prog_10_method_1_code 60 = .ok (.iload 5, 2) := by decide +kernel
theorem dc_10_1_62 : decode prog_10_method_1_code 62 = .ok (.putfield 43, 3) := by decide +kernel
theorem dc_10_1_65 : decode prog_10_method_1_code 65 = .ok (.aload_n 0, 1) := by decide +kernel
theorem dc_10_1_66 : decode prog_10_method_1_code 66 = .ok (.getfield 9, 3) := by decide +kernel
theorem dc_10_1_69 : decode prog_10_method_1_code 69 = .ok (.iconst (-1), 1) := by decide +kernel
theorem dc_10_1_70 : decode prog_10_method_1_code 70 = .ok (.invokestatic 46, 3) := by decide +kernel
theorem dc_10_1_73 : decode prog_10_method_1_code 73 = .ok (.aload_n 0, 1) := by decide +kernel
theorem dc_10_1_74 : decode prog_10_method_1_code 74 = .ok (.getfield 15, 3) := by decide +kernel
theorem dc_10_1_77 : decode prog_10_method_1_code 77 = .ok (.iconst (-1), 1) := by decide +kernel
theorem dc_10_1_78 : decode prog_10_method_1_code 78 = .ok (.invokestatic 46, 3) := by decide +kernel
theorem dc_10_1_81 : decode prog_10_method_1_code 81 = .ok (.return_, 1) := by decide +kernel
theorem dc_12_3_0 : decode prog_12_method_3_code 0 = .ok (.aload_n 0, 1) := by decide +kernel
theorem dc_12_3_1 : decode prog_12_method_3_code 1 = .ok (.getfield 15, 3) := by decide +kernel
theorem dc_12_3_4 : decode prog_12_method_3_code 4 = .ok (.iconst 0, 1) := by decide +kernel
theorem dc_12_3_5 : decode prog_12_method_3_code 5 = .ok (.aload_n 0, 1) := by decide +kernel
theorem dc_12_3_6 : decode prog_12_method_3_code 6 = .ok (.getfield 34, 3) := by decide +kernel
theorem dc_12_3_9 : decode prog_12_method_3_code 9 = .ok (.invokestatic 62, 3) := by decide +kernel
theorem dc_12_3_12 : decode prog_12_method_3_code 12 = .ok (.invokestatic 65, 3) := by decide +kernel
theorem dc_12_3_15 : decode prog_12_method_3_code 15 = .ok (.areturn, 1) := by decide +kernel
theorem dc_28_123_0 : decode prog_28_method_123_code 0 = .ok (.iload_n 1, 1) := by decide +kernel
theorem dc_28_123_1 : decode prog_28_method_123_code 1 = .ok (.aload_n 0, 1) := by decide +kernel
theorem dc_28_123_2 : decode prog_28_method_123_code 2 = .ok (.arraylength, 1) := by decide +kernel
theorem dc_28_123_3 : decode prog_28_method_123_code 3 = .ok (.if_icmp .ne 11, 3) := by decide +kernel
theorem dc_28_123_14 : decode prog_28_method_123_code 14 = .ok (.iload_n 1, 1) := by decide +kernel
theorem dc_28_123_15 : decode prog_28_method_123_code 15 = .ok (.newarray .int, 2) := by decide +kernel
theorem dc_28_123_17 : decode prog_28_method_123_code 17 = .ok (.astore_n 2, 1) := by decide +kernel
theorem dc_28_123_18 : decode prog_28_method_123_code 18 = .ok (.aload_n 0, 1) := by decide +kernel
theorem dc_28_123_19 : decode prog_28_method_123_code 19 = .ok (.iconst 0, 1) := by decide +kernel
theorem dc_28_123_20 : decode prog_28_method_123_code 20 = .ok (.aload_n 2, 1) := by decide +kernel
theorem dc_28_123_21 : decode prog_28_method_123_code 21 = .ok (.iconst 0, 1) := by decide +kernel
theorem dc_28_123_22 : decode prog_28_method_123_code 22 = .ok (.aload_n 0, 1) := by decide +kernel
theorem dc_28_123_23 : decode prog_28_method_123_code 23 = .ok (.arraylength, 1) := by decide +kernel
theorem dc_28_123_24 : decode prog_28_method_123_code 24 = .ok (.iload_n 1, 1) := by decide +kernel
theorem dc_28_123_25 : decode prog_28_method_123_code 25 = .ok (.invokestatic 304, 3) := by decide +kernel
theorem dc_28_123_28 : decode prog_28_method_123_code 28 = .ok (.invokestatic 150, 3) := by decide +kernel
theorem dc_28_123_31 : decode prog_28_method_123_code 31 = .ok (.aload_n 2, 1) := by decide +kernel
theorem dc_28_123_32 : decode prog_28_method_123_code 32 = .ok (.areturn, 1) := by decide +kernel
theorem dc_2_1_0 : decode prog_2_method_1_code 0 = .ok (.aload_n 0, 1) := by decide +kernel
theorem dc_2_1_1 : decode prog_2_method_1_code 1 = .ok (.invokespecial 3, 3) := by decide +kernel
theorem dc_2_1_4 : decode prog_2_method_1_code 4 = .ok (.aload_n 0, 1) := by decide +kernel
theorem dc_2_1_5 : decode prog_2_method_1_code 5 = .ok (.iload_n 1, 1) := by decide +kernel
theorem dc_2_1_6 : decode prog_2_method_1_code 6 = .ok (.putfield 9, 3) := by decide +kernel
theorem dc_2_1_9 : decode prog_2_method_1_code 9 = .ok (.aload_n 0, 1) := by decide +kernel
theorem dc_2_1_10 : decode prog_2_method_1_code 10 = .ok (.iload_n 2, 1) := by decide +kernel
theorem dc_2_1_11 : decode prog_2_method_1_code 11 = .ok (.putfield 15, 3) := by decide +kernel
theorem dc_2_1_14 : decode prog_2_method_1_code 14 = .ok (.aload_n 0, 1) := by decide +kernel
theorem dc_2_1_15 : decode prog_2_method_1_code 15 = .ok (.aload_n 3, 1) := by decide +kernel
theorem dc_2_1_16 : decode prog_2_method_1_code 16 = .ok (.getfield 18, 3) := by decide +kernel
theorem dc_2_1_19 : decode prog_2_method_1_code 19 = .ok (.putfield 23, 3) := by decide +kernel
theorem dc_2_1_22 : decode prog_2_method_1_code 22 = .ok (.aload_n 0, 1) := by decide +kernel
theorem dc_2_1_23 : decode prog_2_method_1_code 23 = .ok (.aload_n 3, 1) := by decide +kernel
theorem dc_2_1_24 : decode prog_2_method_1_code 24 = .ok (.getfield 24, 3) := by decide +kernel
theorem dc_2_1_27 : decode prog_2_method_1_code 27 = .ok (.putfield 27, 3) := by decide +kernel
theorem dc_2_1_30 : decode prog_2_method_1_code 30 = .ok (.aload_n 0, 1) := by decide +kernel
theorem dc_2_1_31 : decode prog_2_method_1_code 31 = .ok (.aload_n 3, 1) := by decide +kernel
theorem dc_2_1_32 : decode prog_2_method_1_code 32 = .ok (.getfield 28, 3) := by decide +kernel
theorem dc_2_1_35 : decode prog_2_method_1_code 35 = .ok (.putfield 31, 3) := by decide +kernel
theorem dc_2_1_38 : decode prog_2_method_1_code 38 = .ok (.aload_n 0, 1) := by decide +kernel
theorem dc_2_1_39 : decode prog_2_method_1_code 39 = .ok (.aload_n 3, 1) := by decide +kernel
theorem dc_2_1_40 : decode prog_2_method_1_code 40 = .ok (.getfield 32, 3) := by decide +kernel
theorem dc_2_1_43 : decode prog_2_method_1_code 43 = .ok (.putfield 35, 3) := by decide +kernel
theorem dc_2_1_46 : decode prog_2_method_1_code 46 = .ok (.aload_n 0, 1) := by decide +kernel
theorem dc_2_1_47 : decode prog_2_method_1_code 47 = .ok (.aload_n 3, 1) := by decide +kernel
theorem dc_2_1_48 : decode prog_2_method_1_code 48 = .ok (.getfield 36, 3) := by decide +kernel
theorem dc_2_1_51 : decode prog_2_method_1_code 51 = .ok (.putfield 39, 3) := by decide +kernel
theorem dc_2_1_54 : decode prog_2_method_1_code 54 = .ok (.aload_n 0, 1) := by decide +kernel
theorem dc_2_1_55 : decode prog_2_method_1_code 55 = .ok (.aload_n 3, 1) := by decide +kernel
theorem dc_2_1_56 : decode prog_2_method_1_code 56 = .ok (.getfield 40, 3) := by decide +kernel
theorem dc_2_1_59 : decode prog_2_method_1_code 59 = .ok (.putfield 43, 3) := by decide +kernel
theorem dc_2_1_62 : decode prog_2_method_1_code 62 = .ok (.aload_n 0, 1) := by decide +kernel
theorem dc_2_1_63 : decode prog_2_method_1_code 63 = .ok (.aload_n 3, 1) := by decide +kernel
theorem dc_2_1_64 : decode prog_2_method_1_code 64 = .ok (.invokevirtual 44, 3) := by decide +kernel
theorem dc_2_1_67 : decode prog_2_method_1_code 67 = .ok (.putfield 48, 3) := by decide +kernel
theorem dc_2_1_70 : decode prog_2_method_1_code 70 = .ok (.aload_n 0, 1) := by decide +kernel
theorem dc_2_1_71 : decode prog_2_method_1_code 71 = .ok (.aload_n 0, 1) := by decide +kernel
theorem dc_2_1_72 : decode prog_2_method_1_code 72 = .ok (.getfield 48, 3) := by decide +kernel
theorem dc_2_1_75 : decode prog_2_method_1_code 75 = .ok (.arraylength, 1) := by decide +kernel
theorem dc_2_1_76 : decode prog_2_method_1_code 76 = .ok (.newarray .int, 2) := by decide +kernel
theorem dc_2_1_78 : decode prog_2_method_1_code 78 = .ok (.putfield 51, 3) := by decide +kernel
theorem dc_2_1_81 : decode prog_2_method_1_code 81 = .ok (.return_, 1) := by decide +kernel
theorem dc_4_1_0 : decode prog_4_method_1_code 0 = .ok (.aload_n 0, 1) := by decide +kernel
theorem dc_4_1_1 : decode prog_4_method_1_code 1 = .ok (.invokespecial 1, 3) := by decide +kernel
theorem dc_4_1_4 : decode prog_4_method_1_code 4 = .ok (.aload_n 0, 1) := by decide +kernel
theorem dc_4_1_5 : decode prog_4_method_1_code 5 = .ok (.iconst 0, 1) := by decide +kernel
theorem dc_4_1_6 : decode prog_4_method_1_code 6 = .ok (.putfield 7, 3) := by decide +kernel
theorem dc_4_1_9 : decode prog_4_method_1_code 9 = .ok (.aload_n 0, 1) := by decide +kernel
theorem dc_4_1_10 : decode prog_4_method_1_code 10 = .ok (.iload_n 1, 1) := by decide +kernel
theorem dc_4_1_11 : decode prog_4_method_1_code 11 = .ok (.putfield 13, 3) := by decide +kernel
theorem dc_4_1_14 : decode prog_4_method_1_code 14 = .ok (.aload_n 0, 1) := by decide +kernel
theorem dc_4_1_15 : decode prog_4_method_1_code 15 = .ok (.iload_n 2, 1) := by decide +kernel
theorem dc_4_1_16 : decode prog_4_method_1_code 16 = .ok (.putfield 17, 3) := by decide +kernel
theorem dc_4_1_19 : decode prog_4_method_1_code 19 = .ok (.aload_n 0, 1) := by decide +kernel
theorem dc_4_1_20 : decode prog_4_method_1_code 20 = .ok (.iload_n 3, 1) := by decide +kernel
theorem dc_4_1_21 : decode prog_4_method_1_code 21 = .ok (.putfield 20, 3) := by decide +kernel
theorem dc_4_1_24 : decode prog_4_method_1_code 24 = .ok (.aload_n 0, 1) := by decide +kernel
theorem dc_4_1_25 : decode prog_4_method_1_code 25 = .ok (.iload 4, 2) := by decide +kernel
theorem dc_4_1_27 : decode prog_4_method_1_code 27 = .ok (.putfield 23, 3) := by decide +kernel
theorem dc_4_1_30 : decode prog_4_method_1_code 30 = .ok (.return_, 1) := by decide +kernel
theorem dc_9_1_0 : decode prog_9_method_1_code 0 = .ok (.aload_n 0, 1) := by decide +kernel
theorem dc_9_1_1 : decode prog_9_method_1_code 1 = .ok (.invokespecial 1, 3) := by decide +kernel
theorem dc_9_1_4 : decode prog_9_method_1_code 4 = .ok (.aload_n 0, 1) := by decide +kernel
theorem dc_9_1_5 : decode prog_9_method_1_code 5 = .ok (.new 7, 3) := by decide +kernel
theorem dc_9_1_8 : decode prog_9_method_1_code 8 = .ok (.dup, 1) := by decide +kernel
theorem dc_9_1_9 : decode prog_9_method_1_code 9 = .ok (.invokespecial 9, 3) := by decide +kernel
theorem dc_9_1_12 : decode prog_9_method_1_code 12 = .ok (.putfield 10, 3) := by decide +kernel
theorem dc_9_1_15 : decode prog_9_method_1_code 15 = .ok (.aload_n 0, 1) := by decide +kernel
theorem dc_9_1_16 : decode prog_9_method_1_code 16 = .ok (.iload_n 1, 1) := by decide +kernel
theorem dc_9_1_17 : decode prog_9_method_1_code 17 = .ok (.putfield 16, 3) := by decide +kernel
theorem dc_9_1_20 : decode prog_9_method_1_code 20 = .ok (.aload_n 0, 1) := by decide +kernel
theorem dc_9_1_21 : decode prog_9_method_1_code 21 = .ok (.iload_n 2, 1) := by decide +kernel
theorem dc_9_1_22 : decode prog_9_method_1_code 22 = .ok (.putfield 20, 3) := by decide +kernel
theorem dc_9_1_25 : decode prog_9_method_1_code 25 = .ok (.aload_n 0, 1) := by decide +kernel
theorem dc_9_1_26 : decode prog_9_method_1_code 26 = .ok (.iload_n 3, 1) := by decide +kernel
theorem dc_9_1_27 : decode prog_9_method_1_code 27 = .ok (.putfield 23, 3) := by decide +kernel
theorem dc_9_1_30 : decode prog_9_method_1_code 30 = .ok (.aload_n 0, 1) := by decide +kernel
theorem dc_9_1_31 : decode prog_9_method_1_code 31 = .ok (.iload 4, 2) := by decide +kernel
theorem dc_9_1_33 : decode prog_9_method_1_code 33 = .ok (.putfield 26, 3) := by decide +kernel
theorem dc_9_1_36 : decode prog_9_method_1_code 36 = .ok (.aload_n 0, 1) := by decide +kernel
theorem dc_9_1_37 : decode prog_9_method_1_code 37 = .ok (.iload 5, 2) := by decide +kernel
theorem dc_9_1_39 : decode prog_9_method_1_code 39 = .ok (.putfield 29, 3) := by decide +kernel
theorem dc_9_1_42 : decode prog_9_method_1_code 42 = .ok (.aload_n 0, 1) := by decide +kernel
theorem dc_9_1_43 : decode prog_9_method_1_code 43 = .ok (.iload 6, 2) := by decide +kernel
theorem dc_9_1_45 : decode prog_9_method_1_code 45 = .ok (.putfield 32, 3) := by decide +kernel
theorem dc_9_1_48 : decode prog_9_method_1_code 48 = .ok (.return_, 1) := by decide +kernel
theorem iv_10_i3 : mm_iv 10 (.invokespecial 3) = some (7, 0) := by decide +kernel
theorem iv_10_v44 : mm_iv 10 (.invokevirtual 44) = some (1, 82) := by decide +kernel
theorem iv_11_i3 : mm_iv 11 (.invokespecial 3) = some (7, 0) := by decide +kernel
theorem iv_11_s46 : mm_iv 11 (.invokestatic 46) = some (0, 2) := by decide +kernel
theorem iv_12_i1 : mm_iv 12 (.invokespecial 1) = some (7, 0) := by decide +kernel
theorem iv_3_s62 : mm_iv 3 (.invokestatic 62) = some (0, 33) := by decide +kernel
theorem iv_3_s65 : mm_iv 3 (.invokestatic 65) = some (0, 83) := by decide +kernel
theorem iv_9_i1 : mm_iv 9 (.invokespecial 1) = some (7, 0) := by decide +kernel
theorem iv_9_i9 : mm_iv 9 (.invokespecial 9) = some (2, 7) := by decide +kernel
theorem kr_9_7 : mm_kr 9 7 = some 6 := by decide +kernel
theorem o_82 : mm_o 82 = 3 := by decide +kernel
theorem na_0_83 : mm_nas 0 83 = 2 := by decide +kernel
theorem na_1_82 : mm_nas 1 82 = 1 := by decide +kernel
theorem na_2_7 : mm_nas 2 7 = 1 := by decide +kernel
set_option maxHeartbeats 4000000 in
theorem k_iSc (M : mH) (hlo : 157 ≤ M.1) (hhi : M.1 ≤ 900000) (T : Nat → mT) (cs : Nat → Nat → Int32) (a : Nat) (hT : T a = (9, 0, fun _ => none)) (ha : inC M a) (v1 v2 v3 v4 v5 v6 : Int32) : mm_Ev 4 27 [.ref a, .int v1, .int v2, .int v3, .int v4, .int v5, .int v6] (hk M T cs) ((none, hk (mnew M 3) (va_up (va_up (va_up T M.1 (6, 0, fun _ => none)) M.1 (6, 0, rl [(0, 1000000)])) a (9, 0, rl [(6, M.1)])) (w1 (w1 (w1 (w1 (w1 (w1 (w1 (wA cs M.1 (fun _ => 0)) M.1 2 (nI 0)) a 0 v1) a 1 v2) a 5 v3) a 2 v4) a 3 v5) a 4 v6))) := by
  have ha1 := ha.1
  refine r_ev (by decide +kernel) (show (7 : Nat) ≤ mm_nL 27 by decide +kernel) ?_
  show mm_Ru 3 (9, 7, true, prog_9_method_1_code, none) 0 [(0, .ref a), (1, .int v1), (2, .int v2), (3, .int v3), (4, .int v4), (5, .int v5), (6, .int v6)] [] (hk M T cs) (fun r9 => r9 = ((none, hk (mnew M 3) (va_up (va_up (va_up T M.1 (6, 0, fun _ => none)) M.1 (6, 0, rl [(0, 1000000)])) a (9, 0, rl [(6, M.1)])) (w1 (w1 (w1 (w1 (w1 (w1 (w1 (wA cs M.1 (fun _ => 0)) M.1 2 (nI 0)) a 0 v1) a 1 v2) a 5 v3) a 2 v4) a 3 v5) a 4 v6))))
  refine r_aload_n rfl dc_9_1_0 ?_
  refine r_obj (C := (9, 7, true, prog_9_method_1_code, none)) (j := 0) dc_9_1_1 rfl rfl iv_9_i1 (show (0 : Nat) ≤ 8 by decide) ?_
  refine r_aload_n rfl dc_9_1_4 ?_
  refine h_new (c := 6) (nf := 3) kr_9_7 (by show M.1 < 1000000; omega) (by show ¬ (100 ≤ M.1 ∧ M.1 < 157); omega) (mk_n6) (by decide +kernel) dc_9_1_5 ?_
  show mm_Ru 3 (9, 7, true, prog_9_method_1_code, none) 8 [(0, .ref a), (1, .int v1), (2, .int v2), (3, .int v3), (4, .int v4), (5, .int v5), (6, .int v6)] [.ref M.1, .ref a] (hk (mnew M 3) (va_up T M.1 ((6, 0, fun _ => none))) (wA cs M.1 (fun _ => 0))) (fun r9 => r9 = ((none, hk (mnew M 3) (va_up (va_up (va_up T M.1 (6, 0, fun _ => none)) M.1 (6, 0, rl [(0, 1000000)])) a (9, 0, rl [(6, M.1)])) (w1 (w1 (w1 (w1 (w1 (w1 (w1 (wA cs M.1 (fun _ => 0)) M.1 2 (nI 0)) a 0 v1) a 1 v2) a 5 v3) a 2 v4) a 3 v5) a 4 v6))))
  refine r_dup rfl dc_9_1_8 ?_
  refine h_callI (as := []) (rest := [.ref M.1, .ref a]) (M1 := hk (mnew M 3) (va_up (va_up T M.1 ((6, 0, fun _ => none))) M.1 ((6, 0, rl [(0, 1000000)]))) (w1 (wA cs M.1 (fun _ => 0)) M.1 2 (nI 0))) rfl rfl iv_9_i9 (Or.inl rfl) na_2_7 rfl (show (2 : Nat) ≤ 8 by decide) dc_9_1_9 (k_iAL (mnew M 3) (va_up T M.1 ((6, 0, fun _ => none))) (wA cs M.1 (fun _ => 0)) M.1 ((if_pos rfl)) ⟨by show M.1 < M.1 + 1; omega, by omega⟩) ?_
  refine h_pref (t := (9, 0, fun _ => none)) (t2 := (9, 0, rl [(6, M.1)])) fx_9_10 ((up_o _ _ (by omega)).trans ((up_o _ _ (by omega)).trans (hT))) ⟨by show a < M.1 + 1; omega, by omega⟩ (Or.inr ⟨rfl, rfl⟩) rfl rfl (rfl) dc_9_1_12 ?_
  show mm_Ru 3 (9, 7, true, prog_9_method_1_code, none) 15 [(0, .ref a), (1, .int v1), (2, .int v2), (3, .int v3), (4, .int v4), (5, .int v5), (6, .int v6)] [] (hk (mnew M 3) (va_up (va_up (va_up T M.1 ((6, 0, fun _ => none))) M.1 ((6, 0, rl [(0, 1000000)]))) a ((9, 0, rl [(6, M.1)]))) (w1 (wA cs M.1 (fun _ => 0)) M.1 2 (nI 0))) (fun r9 => r9 = ((none, hk (mnew M 3) (va_up (va_up (va_up T M.1 (6, 0, fun _ => none)) M.1 (6, 0, rl [(0, 1000000)])) a (9, 0, rl [(6, M.1)])) (w1 (w1 (w1 (w1 (w1 (w1 (w1 (wA cs M.1 (fun _ => 0)) M.1 2 (nI 0)) a 0 v1) a 1 v2) a 5 v3) a 2 v4) a 3 v5) a 4 v6))))
  refine r_aload_n rfl dc_9_1_15 ?_
  refine r_iload_n rfl dc_9_1_16 ?_
  refine h_pint (t := (9, 0, rl [(6, M.1)])) fx_9_16 ((if_pos rfl)) ⟨by show a < M.1 + 1; omega, by omega⟩ (Or.inr ⟨rfl, rfl⟩) ty_9_0 (pi_9_0 _ _ _ _) dc_9_1_17 ?_
  refine r_aload_n rfl dc_9_1_20 ?_
  refine r_iload_n rfl dc_9_1_21 ?_
  refine h_pint (t := (9, 0, rl [(6, M.1)])) fx_9_20 ((if_pos rfl)) ⟨by show a < M.1 + 1; omega, by omega⟩ (Or.inr ⟨rfl, rfl⟩) ty_9_1 (pi_9_1 _ _ _ _) dc_9_1_22 ?_
  refine r_aload_n rfl dc_9_1_25 ?_
  refine r_iload_n rfl dc_9_1_26 ?_
  refine h_pint (t := (9, 0, rl [(6, M.1)])) fx_9_23 ((if_pos rfl)) ⟨by show a < M.1 + 1; omega, by omega⟩ (Or.inl fn_9_5) ty_9_5 (pi_9_5 _ _ _ _) dc_9_1_27 ?_
  refine r_aload_n rfl dc_9_1_30 ?_
  refine r_iload rfl dc_9_1_31 ?_
  refine h_pint (t := (9, 0, rl [(6, M.1)])) fx_9_26 ((if_pos rfl)) ⟨by show a < M.1 + 1; omega, by omega⟩ (Or.inr ⟨rfl, rfl⟩) ty_9_2 (pi_9_2 _ _ _ _) dc_9_1_33 ?_
  refine r_aload_n rfl dc_9_1_36 ?_
  refine r_iload rfl dc_9_1_37 ?_
  refine h_pint (t := (9, 0, rl [(6, M.1)])) fx_9_29 ((if_pos rfl)) ⟨by show a < M.1 + 1; omega, by omega⟩ (Or.inr ⟨rfl, rfl⟩) ty_9_3 (pi_9_3 _ _ _ _) dc_9_1_39 ?_
  refine r_aload_n rfl dc_9_1_42 ?_
  refine r_iload rfl dc_9_1_43 ?_
  refine h_pint (t := (9, 0, rl [(6, M.1)])) fx_9_32 ((if_pos rfl)) ⟨by show a < M.1 + 1; omega, by omega⟩ (Or.inr ⟨rfl, rfl⟩) ty_9_4 (pi_9_4 _ _ _ _) dc_9_1_45 ?_
  exact r_vret rfl dc_9_1_48 (rfl)
set_option maxHeartbeats 4000000 in
theorem k_iCo (M : mH) (hlo : 157 ≤ M.1) (hhi : M.1 ≤ 900000) (T : Nat → mT) (cs : Nat → Nat → Int32) (a : Nat) (hT : T a = (12, 0, fun _ => none)) (ha : inC M a) (v1 v2 v3 v4 : Int32) : mm_Ev 1 146 [.ref a, .int v1, .int v2, .int v3, .int v4] (hk M T cs) ((none, hk M T (w1 (w1 (w1 (w1 (w1 cs a 4 (nI 0)) a 0 v1) a 1 v2) a 2 v3) a 3 v4))) := by
  have ha1 := ha.1
  refine r_ev (by decide +kernel) (show (5 : Nat) ≤ mm_nL 146 by decide +kernel) ?_
  show mm_Ru 0 (12, 5, true, prog_4_method_1_code, none) 0 [(0, .ref a), (1, .int v1), (2, .int v2), (3, .int v3), (4, .int v4)] [] (hk M T cs) (fun r9 => r9 = ((none, hk M T (w1 (w1 (w1 (w1 (w1 cs a 4 (nI 0)) a 0 v1) a 1 v2) a 2 v3) a 3 v4))))
  refine r_aload_n rfl dc_4_1_0 ?_
  refine r_obj (C := (12, 5, true, prog_4_method_1_code, none)) (j := 0) dc_4_1_1 rfl rfl iv_12_i1 (show (0 : Nat) ≤ 8 by decide) ?_
  refine r_aload_n rfl dc_4_1_4 ?_
  refine r_iconst (v := nI 0) (by decide) dc_4_1_5 ?_
  refine h_pboo (t := (12, 0, fun _ => none)) fx_12_7 hT ha (Or.inl fn_12_4) (rfl) (rfl) (pi_12_4 _ _ _ _) dc_4_1_6 ?_
  refine r_aload_n rfl dc_4_1_9 ?_
  refine r_iload_n rfl dc_4_1_10 ?_
  refine h_pint (t := (12, 0, fun _ => none)) fx_12_13 hT ha (Or.inr ⟨rfl, rfl⟩) ty_12_0 (pi_12_0 _ _ _ _) dc_4_1_11 ?_
  refine r_aload_n rfl dc_4_1_14 ?_
  refine r_iload_n rfl dc_4_1_15 ?_
  refine h_pint (t := (12, 0, fun _ => none)) fx_12_17 hT ha (Or.inr ⟨rfl, rfl⟩) ty_12_1 (pi_12_1 _ _ _ _) dc_4_1_16 ?_
  refine r_aload_n rfl dc_4_1_19 ?_
  refine r_iload_n rfl dc_4_1_20 ?_
  refine h_pint (t := (12, 0, fun _ => none)) fx_12_20 hT ha (Or.inr ⟨rfl, rfl⟩) ty_12_2 (pi_12_2 _ _ _ _) dc_4_1_21 ?_
  refine r_aload_n rfl dc_4_1_24 ?_
  refine r_iload rfl dc_4_1_25 ?_
  refine h_pint (t := (12, 0, fun _ => none)) fx_12_23 hT ha (Or.inr ⟨rfl, rfl⟩) ty_12_3 (pi_12_3 _ _ _ _) dc_4_1_27 ?_
  exact r_vret rfl dc_4_1_30 (rfl)
set_option maxHeartbeats 4000000 in
theorem k_iSt (M : mH) (hlo : 157 ≤ M.1) (hhi : M.1 ≤ 900000) (T : Nat → mT) (cs : Nat → Nat → Int32) (a : Nat) (hT : T a = (11, 0, fun _ => none)) (ha : inC M a) (v1 v2 v3 v4 v5 : Int32) : mm_Ev 2 100 [.ref a, .int v1, .int v2, .int v3, .int v4, .int v5] (hk M T cs) ((none, hk (mnew (mnew M 4) 4) (va_up (va_up (va_up (va_up T M.1 (20, 4, fun _ => none)) a (11, 0, rl [(5, M.1)])) (M.1 + 1) (20, 4, fun _ => none)) a (11, 0, rl [(6, M.1 + 1), (5, M.1)])) (wA (wA (w1 (w1 (w1 (w1 (w1 (w1 (w1 (w1 (w1 (wA (wA cs M.1 (fun _ => 0)) (M.1 + 1) (fun _ => 0)) a 7 (nI 0)) a 8 (nI 0)) a 9 (-1)) a 10 (-1)) a 0 v1) a 1 v2) a 2 v3) a 3 v4) a 4 v5) M.1 (fl ((w1 (w1 (w1 (w1 (w1 (w1 (w1 (w1 (w1 (wA (wA cs M.1 (fun _ => 0)) (M.1 + 1) (fun _ => 0)) a 7 (nI 0)) a 8 (nI 0)) a 9 (-1)) a 10 (-1)) a 0 v1) a 1 v2) a 2 v3) a 3 v4) a 4 v5) M.1) 4 (-1))) (M.1 + 1) (fl ((wA (w1 (w1 (w1 (w1 (w1 (w1 (w1 (w1 (w1 (wA (wA cs M.1 (fun _ => 0)) (M.1 + 1) (fun _ => 0)) a 7 (nI 0)) a 8 (nI 0)) a 9 (-1)) a 10 (-1)) a 0 v1) a 1 v2) a 2 v3) a 3 v4) a 4 v5) M.1 (fl ((w1 (w1 (w1 (w1 (w1 (w1 (w1 (w1 (w1 (wA (wA cs M.1 (fun _ => 0)) (M.1 + 1) (fun _ => 0)) a 7 (nI 0)) a 8 (nI 0)) a 9 (-1)) a 10 (-1)) a 0 v1) a 1 v2) a 2 v3) a 3 v4) a 4 v5) M.1) 4 (-1))) (M.1 + 1)) 4 (-1))))) := by
  have ha1 := ha.1
  refine r_ev (by decide +kernel) (show (6 : Nat) ≤ mm_nL 100 by decide +kernel) ?_
  show mm_Ru 1 (11, 6, true, prog_10_method_1_code, none) 0 [(0, .ref a), (1, .int v1), (2, .int v2), (3, .int v3), (4, .int v4), (5, .int v5)] [] (hk M T cs) (fun r9 => r9 = ((none, hk (mnew (mnew M 4) 4) (va_up (va_up (va_up (va_up T M.1 (20, 4, fun _ => none)) a (11, 0, rl [(5, M.1)])) (M.1 + 1) (20, 4, fun _ => none)) a (11, 0, rl [(6, M.1 + 1), (5, M.1)])) (wA (wA (w1 (w1 (w1 (w1 (w1 (w1 (w1 (w1 (w1 (wA (wA cs M.1 (fun _ => 0)) (M.1 + 1) (fun _ => 0)) a 7 (nI 0)) a 8 (nI 0)) a 9 (-1)) a 10 (-1)) a 0 v1) a 1 v2) a 2 v3) a 3 v4) a 4 v5) M.1 (fl ((w1 (w1 (w1 (w1 (w1 (w1 (w1 (w1 (w1 (wA (wA cs M.1 (fun _ => 0)) (M.1 + 1) (fun _ => 0)) a 7 (nI 0)) a 8 (nI 0)) a 9 (-1)) a 10 (-1)) a 0 v1) a 1 v2) a 2 v3) a 3 v4) a 4 v5) M.1) 4 (-1))) (M.1 + 1) (fl ((wA (w1 (w1 (w1 (w1 (w1 (w1 (w1 (w1 (w1 (wA (wA cs M.1 (fun _ => 0)) (M.1 + 1) (fun _ => 0)) a 7 (nI 0)) a 8 (nI 0)) a 9 (-1)) a 10 (-1)) a 0 v1) a 1 v2) a 2 v3) a 3 v4) a 4 v5) M.1 (fl ((w1 (w1 (w1 (w1 (w1 (w1 (w1 (w1 (w1 (wA (wA cs M.1 (fun _ => 0)) (M.1 + 1) (fun _ => 0)) a 7 (nI 0)) a 8 (nI 0)) a 9 (-1)) a 10 (-1)) a 0 v1) a 1 v2) a 2 v3) a 3 v4) a 4 v5) M.1) 4 (-1))) (M.1 + 1)) 4 (-1))))))
  refine r_aload_n rfl dc_10_1_0 ?_
  refine r_obj (C := (11, 6, true, prog_10_method_1_code, none)) (j := 0) dc_10_1_1 rfl rfl iv_11_i3 (show (0 : Nat) ≤ 8 by decide) ?_
  refine r_aload_n rfl dc_10_1_4 ?_
  refine r_iconst (v := nI 4) (by decide) dc_10_1_5 ?_
  refine h_newi (n := 4) (by show M.1 < 1000000; omega) (by show ¬ (100 ≤ M.1 ∧ M.1 < 157); omega) (by omega) dc_10_1_6 ?_
  show mm_Ru 1 (11, 6, true, prog_10_method_1_code, none) 8 [(0, .ref a), (1, .int v1), (2, .int v2), (3, .int v3), (4, .int v4), (5, .int v5)] [.ref M.1, .ref a] (hk (mnew M 4) (va_up T M.1 ((20, 4, fun _ => none))) (wA cs M.1 (fun _ => 0))) (fun r9 => r9 = ((none, hk (mnew (mnew M 4) 4) (va_up (va_up (va_up (va_up T M.1 (20, 4, fun _ => none)) a (11, 0, rl [(5, M.1)])) (M.1 + 1) (20, 4, fun _ => none)) a (11, 0, rl [(6, M.1 + 1), (5, M.1)])) (wA (wA (w1 (w1 (w1 (w1 (w1 (w1 (w1 (w1 (w1 (wA (wA cs M.1 (fun _ => 0)) (M.1 + 1) (fun _ => 0)) a 7 (nI 0)) a 8 (nI 0)) a 9 (-1)) a 10 (-1)) a 0 v1) a 1 v2) a 2 v3) a 3 v4) a 4 v5) M.1 (fl ((w1 (w1 (w1 (w1 (w1 (w1 (w1 (w1 (w1 (wA (wA cs M.1 (fun _ => 0)) (M.1 + 1) (fun _ => 0)) a 7 (nI 0)) a 8 (nI 0)) a 9 (-1)) a 10 (-1)) a 0 v1) a 1 v2) a 2 v3) a 3 v4) a 4 v5) M.1) 4 (-1))) (M.1 + 1) (fl ((wA (w1 (w1 (w1 (w1 (w1 (w1 (w1 (w1 (w1 (wA (wA cs M.1 (fun _ => 0)) (M.1 + 1) (fun _ => 0)) a 7 (nI 0)) a 8 (nI 0)) a 9 (-1)) a 10 (-1)) a 0 v1) a 1 v2) a 2 v3) a 3 v4) a 4 v5) M.1 (fl ((w1 (w1 (w1 (w1 (w1 (w1 (w1 (w1 (w1 (wA (wA cs M.1 (fun _ => 0)) (M.1 + 1) (fun _ => 0)) a 7 (nI 0)) a 8 (nI 0)) a 9 (-1)) a 10 (-1)) a 0 v1) a 1 v2) a 2 v3) a 3 v4) a 4 v5) M.1) 4 (-1))) (M.1 + 1)) 4 (-1))))))
  refine h_pref (t := (11, 0, fun _ => none)) (t2 := (11, 0, rl [(5, M.1)])) fx_11_9 ((up_o _ _ (by omega)).trans (hT)) ⟨by show a < M.1 + 1; omega, by omega⟩ (Or.inr ⟨rfl, rfl⟩) rfl rfl (rfl) dc_10_1_8 ?_
  show mm_Ru 1 (11, 6, true, prog_10_method_1_code, none) 11 [(0, .ref a), (1, .int v1), (2, .int v2), (3, .int v3), (4, .int v4), (5, .int v5)] [] (hk (mnew M 4) (va_up (va_up T M.1 ((20, 4, fun _ => none))) a ((11, 0, rl [(5, M.1)]))) (wA cs M.1 (fun _ => 0))) (fun r9 => r9 = ((none, hk (mnew (mnew M 4) 4) (va_up (va_up (va_up (va_up T M.1 (20, 4, fun _ => none)) a (11, 0, rl [(5, M.1)])) (M.1 + 1) (20, 4, fun _ => none)) a (11, 0, rl [(6, M.1 + 1), (5, M.1)])) (wA (wA (w1 (w1 (w1 (w1 (w1 (w1 (w1 (w1 (w1 (wA (wA cs M.1 (fun _ => 0)) (M.1 + 1) (fun _ => 0)) a 7 (nI 0)) a 8 (nI 0)) a 9 (-1)) a 10 (-1)) a 0 v1) a 1 v2) a 2 v3) a 3 v4) a 4 v5) M.1 (fl ((w1 (w1 (w1 (w1 (w1 (w1 (w1 (w1 (w1 (wA (wA cs M.1 (fun _ => 0)) (M.1 + 1) (fun _ => 0)) a 7 (nI 0)) a 8 (nI 0)) a 9 (-1)) a 10 (-1)) a 0 v1) a 1 v2) a 2 v3) a 3 v4) a 4 v5) M.1) 4 (-1))) (M.1 + 1) (fl ((wA (w1 (w1 (w1 (w1 (w1 (w1 (w1 (w1 (w1 (wA (wA cs M.1 (fun _ => 0)) (M.1 + 1) (fun _ => 0)) a 7 (nI 0)) a 8 (nI 0)) a 9 (-1)) a 10 (-1)) a 0 v1) a 1 v2) a 2 v3) a 3 v4) a 4 v5) M.1 (fl ((w1 (w1 (w1 (w1 (w1 (w1 (w1 (w1 (w1 (wA (wA cs M.1 (fun _ => 0)) (M.1 + 1) (fun _ => 0)) a 7 (nI 0)) a 8 (nI 0)) a 9 (-1)) a 10 (-1)) a 0 v1) a 1 v2) a 2 v3) a 3 v4) a 4 v5) M.1) 4 (-1))) (M.1 + 1)) 4 (-1))))))
  refine r_aload_n rfl dc_10_1_11 ?_
  refine r_iconst (v := nI 4) (by decide) dc_10_1_12 ?_
  refine h_newi (n := 4) (by show M.1 + 1 < 1000000; omega) (by show ¬ (100 ≤ M.1 + 1 ∧ M.1 + 1 < 157); omega) (by omega) dc_10_1_13 ?_
  show mm_Ru 1 (11, 6, true, prog_10_method_1_code, none) 15 [(0, .ref a), (1, .int v1), (2, .int v2), (3, .int v3), (4, .int v4), (5, .int v5)] [.ref (M.1 + 1), .ref a] (hk (mnew (mnew M 4) 4) (va_up (va_up (va_up T M.1 ((20, 4, fun _ => none))) a ((11, 0, rl [(5, M.1)]))) (M.1 + 1) ((20, 4, fun _ => none))) (wA (wA cs M.1 (fun _ => 0)) (M.1 + 1) (fun _ => 0))) (fun r9 => r9 = ((none, hk (mnew (mnew M 4) 4) (va_up (va_up (va_up (va_up T M.1 (20, 4, fun _ => none)) a (11, 0, rl [(5, M.1)])) (M.1 + 1) (20, 4, fun _ => none)) a (11, 0, rl [(6, M.1 + 1), (5, M.1)])) (wA (wA (w1 (w1 (w1 (w1 (w1 (w1 (w1 (w1 (w1 (wA (wA cs M.1 (fun _ => 0)) (M.1 + 1) (fun _ => 0)) a 7 (nI 0)) a 8 (nI 0)) a 9 (-1)) a 10 (-1)) a 0 v1) a 1 v2) a 2 v3) a 3 v4) a 4 v5) M.1 (fl ((w1 (w1 (w1 (w1 (w1 (w1 (w1 (w1 (w1 (wA (wA cs M.1 (fun _ => 0)) (M.1 + 1) (fun _ => 0)) a 7 (nI 0)) a 8 (nI 0)) a 9 (-1)) a 10 (-1)) a 0 v1) a 1 v2) a 2 v3) a 3 v4) a 4 v5) M.1) 4 (-1))) (M.1 + 1) (fl ((wA (w1 (w1 (w1 (w1 (w1 (w1 (w1 (w1 (w1 (wA (wA cs M.1 (fun _ => 0)) (M.1 + 1) (fun _ => 0)) a 7 (nI 0)) a 8 (nI 0)) a 9 (-1)) a 10 (-1)) a 0 v1) a 1 v2) a 2 v3) a 3 v4) a 4 v5) M.1 (fl ((w1 (w1 (w1 (w1 (w1 (w1 (w1 (w1 (w1 (wA (wA cs M.1 (fun _ => 0)) (M.1 + 1) (fun _ => 0)) a 7 (nI 0)) a 8 (nI 0)) a 9 (-1)) a 10 (-1)) a 0 v1) a 1 v2) a 2 v3) a 3 v4) a 4 v5) M.1) 4 (-1))) (M.1 + 1)) 4 (-1))))))
  refine h_pref (t := (11, 0, rl [(5, M.1)])) (t2 := (11, 0, rl [(6, M.1 + 1), (5, M.1)])) fx_11_15 ((up_o _ _ (by omega)).trans ((if_pos rfl))) ⟨by show a < M.1 + 1 + 1; omega, by omega⟩ (Or.inr ⟨rfl, rfl⟩) rfl rfl (rfl) dc_10_1_15 ?_
  show mm_Ru 1 (11, 6, true, prog_10_method_1_code, none) 18 [(0, .ref a), (1, .int v1), (2, .int v2), (3, .int v3), (4, .int v4), (5, .int v5)] [] (hk (mnew (mnew M 4) 4) (va_up (va_up (va_up (va_up T M.1 ((20, 4, fun _ => none))) a ((11, 0, rl [(5, M.1)]))) (M.1 + 1) ((20, 4, fun _ => none))) a ((11, 0, rl [(6, M.1 + 1), (5, M.1)]))) (wA (wA cs M.1 (fun _ => 0)) (M.1 + 1) (fun _ => 0))) (fun r9 => r9 = ((none, hk (mnew (mnew M 4) 4) (va_up (va_up (va_up (va_up T M.1 (20, 4, fun _ => none)) a (11, 0, rl [(5, M.1)])) (M.1 + 1) (20, 4, fun _ => none)) a (11, 0, rl [(6, M.1 + 1), (5, M.1)])) (wA (wA (w1 (w1 (w1 (w1 (w1 (w1 (w1 (w1 (w1 (wA (wA cs M.1 (fun _ => 0)) (M.1 + 1) (fun _ => 0)) a 7 (nI 0)) a 8 (nI 0)) a 9 (-1)) a 10 (-1)) a 0 v1) a 1 v2) a 2 v3) a 3 v4) a 4 v5) M.1 (fl ((w1 (w1 (w1 (w1 (w1 (w1 (w1 (w1 (w1 (wA (wA cs M.1 (fun _ => 0)) (M.1 + 1) (fun _ => 0)) a 7 (nI 0)) a 8 (nI 0)) a 9 (-1)) a 10 (-1)) a 0 v1) a 1 v2) a 2 v3) a 3 v4) a 4 v5) M.1) 4 (-1))) (M.1 + 1) (fl ((wA (w1 (w1 (w1 (w1 (w1 (w1 (w1 (w1 (w1 (wA (wA cs M.1 (fun _ => 0)) (M.1 + 1) (fun _ => 0)) a 7 (nI 0)) a 8 (nI 0)) a 9 (-1)) a 10 (-1)) a 0 v1) a 1 v2) a 2 v3) a 3 v4) a 4 v5) M.1 (fl ((w1 (w1 (w1 (w1 (w1 (w1 (w1 (w1 (w1 (wA (wA cs M.1 (fun _ => 0)) (M.1 + 1) (fun _ => 0)) a 7 (nI 0)) a 8 (nI 0)) a 9 (-1)) a 10 (-1)) a 0 v1) a 1 v2) a 2 v3) a 3 v4) a 4 v5) M.1) 4 (-1))) (M.1 + 1)) 4 (-1))))))
  refine r_aload_n rfl dc_10_1_18 ?_
  refine r_iconst (v := nI 0) (by decide) dc_10_1_19 ?_
  refine h_pint (t := (11, 0, rl [(6, M.1 + 1), (5, M.1)])) fx_11_18 ((if_pos rfl)) ⟨by show a < M.1 + 1 + 1; omega, by omega⟩ (Or.inl fn_11_7) ty_11_7 (pi_11_7 _ _ _ _) dc_10_1_20 ?_
  refine r_aload_n rfl dc_10_1_23 ?_
  refine r_iconst (v := nI 0) (by decide) dc_10_1_24 ?_
  refine h_pint (t := (11, 0, rl [(6, M.1 + 1), (5, M.1)])) fx_11_22 ((if_pos rfl)) ⟨by show a < M.1 + 1 + 1; omega, by omega⟩ (Or.inl fn_11_8) ty_11_8 (pi_11_8 _ _ _ _) dc_10_1_25 ?_
  refine r_aload_n rfl dc_10_1_28 ?_
  refine r_iconst (v := -1) (by decide) dc_10_1_29 ?_
  refine h_pint (t := (11, 0, rl [(6, M.1 + 1), (5, M.1)])) fx_11_25 ((if_pos rfl)) ⟨by show a < M.1 + 1 + 1; omega, by omega⟩ (Or.inl fn_11_9) ty_11_9 (pi_11_9 _ _ _ _) dc_10_1_30 ?_
  refine r_aload_n rfl dc_10_1_33 ?_
  refine r_iconst (v := -1) (by decide) dc_10_1_34 ?_
  refine h_pint (t := (11, 0, rl [(6, M.1 + 1), (5, M.1)])) fx_11_28 ((if_pos rfl)) ⟨by show a < M.1 + 1 + 1; omega, by omega⟩ (Or.inl fn_11_10) ty_11_10 (pi_11_10 _ _ _ _) dc_10_1_35 ?_
  refine r_aload_n rfl dc_10_1_38 ?_
  refine r_iload_n rfl dc_10_1_39 ?_
  refine h_pint (t := (11, 0, rl [(6, M.1 + 1), (5, M.1)])) fx_11_31 ((if_pos rfl)) ⟨by show a < M.1 + 1 + 1; omega, by omega⟩ (Or.inr ⟨rfl, rfl⟩) ty_11_0 (pi_11_0 _ _ _ _) dc_10_1_40 ?_
  refine r_aload_n rfl dc_10_1_43 ?_
  refine r_iload_n rfl dc_10_1_44 ?_
  refine h_pint (t := (11, 0, rl [(6, M.1 + 1), (5, M.1)])) fx_11_34 ((if_pos rfl)) ⟨by show a < M.1 + 1 + 1; omega, by omega⟩ (Or.inr ⟨rfl, rfl⟩) ty_11_1 (pi_11_1 _ _ _ _) dc_10_1_45 ?_
  refine r_aload_n rfl dc_10_1_48 ?_
  refine r_iload_n rfl dc_10_1_49 ?_
  refine h_pint (t := (11, 0, rl [(6, M.1 + 1), (5, M.1)])) fx_11_37 ((if_pos rfl)) ⟨by show a < M.1 + 1 + 1; omega, by omega⟩ (Or.inr ⟨rfl, rfl⟩) ty_11_2 (pi_11_2 _ _ _ _) dc_10_1_50 ?_
  refine r_aload_n rfl dc_10_1_53 ?_
  refine r_iload rfl dc_10_1_54 ?_
  refine h_pint (t := (11, 0, rl [(6, M.1 + 1), (5, M.1)])) fx_11_40 ((if_pos rfl)) ⟨by show a < M.1 + 1 + 1; omega, by omega⟩ (Or.inr ⟨rfl, rfl⟩) ty_11_3 (pi_11_3 _ _ _ _) dc_10_1_56 ?_
  refine r_aload_n rfl dc_10_1_59 ?_
  refine r_iload rfl dc_10_1_60 ?_
  refine h_pint (t := (11, 0, rl [(6, M.1 + 1), (5, M.1)])) fx_11_43 ((if_pos rfl)) ⟨by show a < M.1 + 1 + 1; omega, by omega⟩ (Or.inr ⟨rfl, rfl⟩) ty_11_4 (pi_11_4 _ _ _ _) dc_10_1_62 ?_
  refine r_aload_n rfl dc_10_1_65 ?_
  refine h_get (t := (11, 0, rl [(6, M.1 + 1), (5, M.1)])) (v := .ref M.1) fx_11_9 ((if_pos rfl)) ⟨by show a < M.1 + 1 + 1; omega, by omega⟩ (rfl) dc_10_1_66 ?_
  refine r_iconst (v := -1) (by decide) dc_10_1_69 ?_
  refine h_callS0 (as := [.ref M.1, .int ((-1))]) (rest := []) (M1 := hk (mnew (mnew M 4) 4) (va_up (va_up (va_up (va_up T M.1 ((20, 4, fun _ => none))) a ((11, 0, rl [(5, M.1)]))) (M.1 + 1) ((20, 4, fun _ => none))) a ((11, 0, rl [(6, M.1 + 1), (5, M.1)]))) (wA (w1 (w1 (w1 (w1 (w1 (w1 (w1 (w1 (w1 (wA (wA cs M.1 (fun _ => 0)) (M.1 + 1) (fun _ => 0)) a 7 (nI 0)) a 8 (nI 0)) a 9 ((-1))) a 10 ((-1))) a 0 v1) a 1 v2) a 2 v3) a 3 v4) a 4 v5) M.1 (fl ((w1 (w1 (w1 (w1 (w1 (w1 (w1 (w1 (w1 (wA (wA cs M.1 (fun _ => 0)) (M.1 + 1) (fun _ => 0)) a 7 (nI 0)) a 8 (nI 0)) a 9 ((-1))) a 10 ((-1))) a 0 v1) a 1 v2) a 2 v3) a 3 v4) a 4 v5) M.1) 4 (-1)))) rfl rfl iv_11_s46 (Or.inl rfl) na_0_2 rfl (show (0 : Nat) ≤ 8 by decide) dc_10_1_70 (k_fill (mnew (mnew M 4) 4) (va_up (va_up (va_up (va_up T M.1 ((20, 4, fun _ => none))) a ((11, 0, rl [(5, M.1)]))) (M.1 + 1) ((20, 4, fun _ => none))) a ((11, 0, rl [(6, M.1 + 1), (5, M.1)]))) (w1 (w1 (w1 (w1 (w1 (w1 (w1 (w1 (w1 (wA (wA cs M.1 (fun _ => 0)) (M.1 + 1) (fun _ => 0)) a 7 (nI 0)) a 8 (nI 0)) a 9 ((-1))) a 10 ((-1))) a 0 v1) a 1 v2) a 2 v3) a 3 v4) a 4 v5) M.1 4 (fun _ => none) (-1) ((up_o _ _ (by omega)).trans ((up_o _ _ (by omega)).trans ((up_o _ _ (by omega)).trans ((if_pos rfl))))) ⟨by show M.1 < M.1 + 1 + 1; omega, by omega⟩ (by decide)) ?_
  refine r_aload_n rfl dc_10_1_73 ?_
  refine h_get (t := (11, 0, rl [(6, M.1 + 1), (5, M.1)])) (v := .ref (M.1 + 1)) fx_11_15 ((if_pos rfl)) ⟨by show a < M.1 + 1 + 1; omega, by omega⟩ (rfl) dc_10_1_74 ?_
  refine r_iconst (v := -1) (by decide) dc_10_1_77 ?_
  refine h_callS0 (as := [.ref (M.1 + 1), .int ((-1))]) (rest := []) (M1 := hk (mnew (mnew M 4) 4) (va_up (va_up (va_up (va_up T M.1 ((20, 4, fun _ => none))) a ((11, 0, rl [(5, M.1)]))) (M.1 + 1) ((20, 4, fun _ => none))) a ((11, 0, rl [(6, M.1 + 1), (5, M.1)]))) (wA (wA (w1 (w1 (w1 (w1 (w1 (w1 (w1 (w1 (w1 (wA (wA cs M.1 (fun _ => 0)) (M.1 + 1) (fun _ => 0)) a 7 (nI 0)) a 8 (nI 0)) a 9 ((-1))) a 10 ((-1))) a 0 v1) a 1 v2) a 2 v3) a 3 v4) a 4 v5) M.1 (fl ((w1 (w1 (w1 (w1 (w1 (w1 (w1 (w1 (w1 (wA (wA cs M.1 (fun _ => 0)) (M.1 + 1) (fun _ => 0)) a 7 (nI 0)) a 8 (nI 0)) a 9 ((-1))) a 10 ((-1))) a 0 v1) a 1 v2) a 2 v3) a 3 v4) a 4 v5) M.1) 4 (-1))) (M.1 + 1) (fl ((wA (w1 (w1 (w1 (w1 (w1 (w1 (w1 (w1 (w1 (wA (wA cs M.1 (fun _ => 0)) (M.1 + 1) (fun _ => 0)) a 7 (nI 0)) a 8 (nI 0)) a 9 ((-1))) a 10 ((-1))) a 0 v1) a 1 v2) a 2 v3) a 3 v4) a 4 v5) M.1 (fl ((w1 (w1 (w1 (w1 (w1 (w1 (w1 (w1 (w1 (wA (wA cs M.1 (fun _ => 0)) (M.1 + 1) (fun _ => 0)) a 7 (nI 0)) a 8 (nI 0)) a 9 ((-1))) a 10 ((-1))) a 0 v1) a 1 v2) a 2 v3) a 3 v4) a 4 v5) M.1) 4 (-1))) (M.1 + 1)) 4 (-1)))) rfl rfl iv_11_s46 (Or.inl rfl) na_0_2 rfl (show (0 : Nat) ≤ 8 by decide) dc_10_1_78 (k_fill (mnew (mnew M 4) 4) (va_up (va_up (va_up (va_up T M.1 ((20, 4, fun _ => none))) a ((11, 0, rl [(5, M.1)]))) (M.1 + 1) ((20, 4, fun _ => none))) a ((11, 0, rl [(6, M.1 + 1), (5, M.1)]))) (wA (w1 (w1 (w1 (w1 (w1 (w1 (w1 (w1 (w1 (wA (wA cs M.1 (fun _ => 0)) (M.1 + 1) (fun _ => 0)) a 7 (nI 0)) a 8 (nI 0)) a 9 ((-1))) a 10 ((-1))) a 0 v1) a 1 v2) a 2 v3) a 3 v4) a 4 v5) M.1 (fl ((w1 (w1 (w1 (w1 (w1 (w1 (w1 (w1 (w1 (wA (wA cs M.1 (fun _ => 0)) (M.1 + 1) (fun _ => 0)) a 7 (nI 0)) a 8 (nI 0)) a 9 ((-1))) a 10 ((-1))) a 0 v1) a 1 v2) a 2 v3) a 3 v4) a 4 v5) M.1) 4 (-1))) (M.1 + 1) 4 (fun _ => none) (-1) ((up_o _ _ (by omega)).trans ((if_pos rfl))) ⟨by show M.1 + 1 < M.1 + 1 + 1; omega, by omega⟩ (by decide)) ?_
  exact r_vret rfl dc_10_1_81 (rfl)
set_option maxHeartbeats 4000000 in
theorem k_cpI (M : mH) (hlo : 157 ≤ M.1) (hhi : M.1 ≤ 900000) (T : Nat → mT) (cs : Nat → Nat → Int32) (a c n : Nat) (hT : T a = (20, c, fun _ => none)) (ha : inC M a) (hnc : n < c) (hc : c ≤ 1000) : mm_Ev 2 83 [.ref a, .int (nI n)] (hk M T cs) ((some (.ref M.1), hk (mnew M n) (va_up T M.1 (20, n, fun _ => none)) (wA (wA cs M.1 (fun _ => 0)) M.1 (va_cpy ((wA cs M.1 (fun _ => 0)) a) ((wA cs M.1 (fun _ => 0)) M.1) 0 0 n)))) := by
  have ha1 := ha.1
  refine r_ev (by decide +kernel) (show (2 : Nat) ≤ mm_nL 83 by decide +kernel) ?_
  show mm_Ru 1 (15, 3, false, prog_28_method_123_code, some (.array .int)) 0 [(0, .ref a), (1, .int (nI n))] [] (hk M T cs) (fun r9 => r9 = ((some (.ref M.1), hk (mnew M n) (va_up T M.1 (20, n, fun _ => none)) (wA (wA cs M.1 (fun _ => 0)) M.1 (va_cpy ((wA cs M.1 (fun _ => 0)) a) ((wA cs M.1 (fun _ => 0)) M.1) 0 0 n)))))
  refine r_iload_n rfl dc_28_123_0 ?_
  refine r_aload_n rfl dc_28_123_1 ?_
  refine h_len (c := 20) (n := c) hT (Or.inl rfl) ha dc_28_123_2 ?_
  refine r_ncne (t := 14) (by omega) (by omega) (by decide) dc_28_123_3 (fun c_3 => ?_) (fun c_3 => ?_)
  · skip
    refine r_iload_n rfl dc_28_123_14 ?_
    refine h_newi (n := n) (by show M.1 < 1000000; omega) (by show ¬ (100 ≤ M.1 ∧ M.1 < 157); omega) (by omega) dc_28_123_15 ?_
    show mm_Ru 1 (15, 3, false, prog_28_method_123_code, some (.array .int)) 17 [(0, .ref a), (1, .int (nI n))] [.ref M.1] (hk (mnew M n) (va_up T M.1 ((20, n, fun _ => none))) (wA cs M.1 (fun _ => 0))) (fun r9 => r9 = ((some (.ref M.1), hk (mnew M n) (va_up T M.1 (20, n, fun _ => none)) (wA (wA cs M.1 (fun _ => 0)) M.1 (va_cpy ((wA cs M.1 (fun _ => 0)) a) ((wA cs M.1 (fun _ => 0)) M.1) 0 0 n)))))
    refine r_astore_n (ls' := [(2, .ref M.1), (0, .ref a), (1, .int (nI n))]) (by decide) rfl dc_28_123_17 ?_
    refine r_aload_n rfl dc_28_123_18 ?_
    refine r_iconst (v := nI 0) (by decide) dc_28_123_19 ?_
    refine r_aload_n rfl dc_28_123_20 ?_
    refine r_iconst (v := nI 0) (by decide) dc_28_123_21 ?_
    refine r_aload_n rfl dc_28_123_22 ?_
    refine h_len (c := 20) (n := c) ((up_o _ _ (by omega)).trans (hT)) (Or.inl rfl) ⟨by show a < M.1 + 1; omega, by omega⟩ dc_28_123_23 ?_
    refine r_iload_n rfl dc_28_123_24 ?_
    refine h_callS (as := [.int (nI c), .int (nI n)]) (rest := [.int (nI 0), .ref M.1, .int (nI 0), .ref a]) (v := .int (nI n)) rfl rfl iv_15_s304 (Or.inl rfl) na_0_37 rfl (show (4 : Nat) ≤ 8 by decide) dc_28_123_25 (by have h9 := k_min (hk (mnew M n) (va_up T M.1 ((20, n, fun _ => none))) (wA cs M.1 (fun _ => 0))) (nI c) (nI n); rw [mn_n (by omega) (by omega), Nat.min_eq_right (by omega)] at h9; exact h9) ?_
    refine h_cpi (n := n) (sp := 0) (dp := 0) (by decide) ((up_o _ _ (by omega)).trans (hT)) ⟨by show a < M.1 + 1; omega, by omega⟩ ((if_pos rfl)) ⟨by show M.1 < M.1 + 1; omega, by omega⟩ (by omega) (by omega) (by omega) (by decide) (by decide +kernel) dc_28_123_28 ?_
    show mm_Ru 1 (15, 3, false, prog_28_method_123_code, some (.array .int)) 31 [(2, .ref M.1), (0, .ref a), (1, .int (nI n))] [] (hk (mnew M n) (va_up T M.1 ((20, n, fun _ => none))) (wA (wA cs M.1 (fun _ => 0)) M.1 (va_cpy ((wA cs M.1 (fun _ => 0)) a) ((wA cs M.1 (fun _ => 0)) M.1) 0 0 n))) (fun r9 => r9 = ((some (.ref M.1), hk (mnew M n) (va_up T M.1 (20, n, fun _ => none)) (wA (wA cs M.1 (fun _ => 0)) M.1 (va_cpy ((wA cs M.1 (fun _ => 0)) a) ((wA cs M.1 (fun _ => 0)) M.1) 0 0 n)))))
    refine r_aload_n rfl dc_28_123_31 ?_
    exact r_aret rfl dc_28_123_32 (rfl)
  · omega
set_option maxHeartbeats 4000000 in
theorem k_codes (M : mH) (hlo : 157 ≤ M.1) (hhi : M.1 ≤ 900000) (T : Nat → mT) (cs : Nat → Nat → Int32) (r : Nat) (rb : Nat) (hr : T r = (3, 0, rl [(0, rb), (4, 14)])) (hrC : inC M r) (h14 : T 14 = (20, 60, fun _ => none)) (n : Nat) (hn : cs r 5 = nI n) (hn6 : n < 60) : mm_Ev 3 82 [.ref r] (hk M T cs) ((some (.ref M.1), hk (mnew M n) (va_up T M.1 (20, n, fun _ => none)) (wA (wA cs M.1 (fun _ => 0)) M.1 (va_cpy ((wA cs M.1 (fun _ => 0)) 14) ((wA cs M.1 (fun _ => 0)) M.1) 0 0 n)))) := by
  have hr1 := hrC.1
  refine r_ev (by decide +kernel) (show (1 : Nat) ≤ mm_nL 82 by decide +kernel) ?_
  show mm_Ru 2 (3, 1, false, prog_12_method_3_code, some (.array .int)) 0 [(0, .ref r)] [] (hk M T cs) (fun r9 => r9 = ((some (.ref M.1), hk (mnew M n) (va_up T M.1 (20, n, fun _ => none)) (wA (wA cs M.1 (fun _ => 0)) M.1 (va_cpy ((wA cs M.1 (fun _ => 0)) 14) ((wA cs M.1 (fun _ => 0)) M.1) 0 0 n)))))
  refine r_aload_n rfl dc_12_3_0 ?_
  refine h_get (t := (3, 0, rl [(0, rb), (4, 14)])) (v := .ref 14) fx_3_15 hr hrC (rfl) dc_12_3_1 ?_
  refine r_iconst (v := nI 0) (by decide) dc_12_3_4 ?_
  refine r_aload_n rfl dc_12_3_5 ?_
  refine h_get (t := (3, 0, rl [(0, rb), (4, 14)])) (v := .int (nI n)) fx_3_34 hr hrC (show some (Value.int _) = _ from congrArg (fun z => some (Value.int z)) (hn)) dc_12_3_6 ?_
  refine h_callS (as := [.int (nI 0), .int (nI n)]) (rest := [.ref 14]) (v := .int (nI n)) rfl rfl iv_3_s62 (Or.inl rfl) na_0_33 rfl (show (1 : Nat) ≤ 8 by decide) dc_12_3_9 (mm_Ev_up (by decide : 1 ≤ 2) (by have h9 := k_max (hk M T cs) (nI 0) (nI n); rw [mx_n (by omega) (by omega), Nat.zero_max] at h9; exact h9)) ?_
  refine h_callS (as := [.ref 14, .int (nI n)]) (rest := []) (v := .ref M.1) rfl rfl iv_3_s65 (Or.inl rfl) na_0_83 rfl (show (0 : Nat) ≤ 8 by decide) dc_12_3_12 (k_cpI M hlo hhi T cs 14 60 n h14 ⟨by omega, by omega⟩ hn6 (by decide)) ?_
  exact r_aret rfl dc_12_3_15 (rfl)
set_option maxHeartbeats 4000000 in
theorem k_iAg (M : mH) (hlo : 157 ≤ M.1) (hhi : M.1 ≤ 900000) (T : Nat → mT) (cs : Nat → Nat → Int32) (a : Nat) (hT : T a = (10, 0, fun _ => none)) (ha : inC M a) (r : Nat) (rb : Nat) (hr : T r = (3, 0, rl [(0, rb), (4, 14)])) (hrC : inC M r) (h14 : T 14 = (20, 60, fun _ => none)) (n : Nat) (hn : cs r 5 = nI n) (hn6 : n < 60) (hra : ¬ r = a) (v1 v2 : Int32) : mm_Ev 4 81 [.ref a, .int v1, .int v2, .ref r] (hk M T cs) ((none, hk (mnew (mnew M n) n) (va_up (va_up (va_up (va_up T M.1 (20, n, fun _ => none)) a (10, 0, rl [(8, M.1)])) (M.1 + 1) (20, n, fun _ => none)) a (10, 0, rl [(9, M.1 + 1), (8, M.1)])) (wA (wA (wA (w1 (w1 (w1 (w1 (w1 (w1 (w1 (w1 cs a 0 v1) a 1 v2) a 2 (cs r 6)) a 3 (cs r 7)) a 4 (cs r 8)) a 5 (cs r 9)) a 6 (cs r 10)) a 7 (cs r 11)) M.1 (fun _ => 0)) M.1 (va_cpy ((wA (w1 (w1 (w1 (w1 (w1 (w1 (w1 (w1 cs a 0 v1) a 1 v2) a 2 (cs r 6)) a 3 (cs r 7)) a 4 (cs r 8)) a 5 (cs r 9)) a 6 (cs r 10)) a 7 (cs r 11)) M.1 (fun _ => 0)) 14) ((wA (w1 (w1 (w1 (w1 (w1 (w1 (w1 (w1 cs a 0 v1) a 1 v2) a 2 (cs r 6)) a 3 (cs r 7)) a 4 (cs r 8)) a 5 (cs r 9)) a 6 (cs r 10)) a 7 (cs r 11)) M.1 (fun _ => 0)) M.1) 0 0 n)) (M.1 + 1) (fun _ => 0)))) := by
  have ha1 := ha.1
  have hr1 := hrC.1
  refine r_ev (by decide +kernel) (show (4 : Nat) ≤ mm_nL 81 by decide +kernel) ?_
  show mm_Ru 3 (10, 4, true, prog_2_method_1_code, none) 0 [(0, .ref a), (1, .int v1), (2, .int v2), (3, .ref r)] [] (hk M T cs) (fun r9 => r9 = ((none, hk (mnew (mnew M n) n) (va_up (va_up (va_up (va_up T M.1 (20, n, fun _ => none)) a (10, 0, rl [(8, M.1)])) (M.1 + 1) (20, n, fun _ => none)) a (10, 0, rl [(9, M.1 + 1), (8, M.1)])) (wA (wA (wA (w1 (w1 (w1 (w1 (w1 (w1 (w1 (w1 cs a 0 v1) a 1 v2) a 2 (cs r 6)) a 3 (cs r 7)) a 4 (cs r 8)) a 5 (cs r 9)) a 6 (cs r 10)) a 7 (cs r 11)) M.1 (fun _ => 0)) M.1 (va_cpy ((wA (w1 (w1 (w1 (w1 (w1 (w1 (w1 (w1 cs a 0 v1) a 1 v2) a 2 (cs r 6)) a 3 (cs r 7)) a 4 (cs r 8)) a 5 (cs r 9)) a 6 (cs r 10)) a 7 (cs r 11)) M.1 (fun _ => 0)) 14) ((wA (w1 (w1 (w1 (w1 (w1 (w1 (w1 (w1 cs a 0 v1) a 1 v2) a 2 (cs r 6)) a 3 (cs r 7)) a 4 (cs r 8)) a 5 (cs r 9)) a 6 (cs r 10)) a 7 (cs r 11)) M.1 (fun _ => 0)) M.1) 0 0 n)) (M.1 + 1) (fun _ => 0)))))
  refine r_aload_n rfl dc_2_1_0 ?_
  refine r_obj (C := (10, 4, true, prog_2_method_1_code, none)) (j := 0) dc_2_1_1 rfl rfl iv_10_i3 (show (0 : Nat) ≤ 8 by decide) ?_
  refine r_aload_n rfl dc_2_1_4 ?_
  refine r_iload_n rfl dc_2_1_5 ?_
  refine h_pint (t := (10, 0, fun _ => none)) fx_10_9 hT ha (Or.inr ⟨rfl, rfl⟩) ty_10_0 (pi_10_0 _ _ _ _) dc_2_1_6 ?_
  refine r_aload_n rfl dc_2_1_9 ?_
  refine r_iload_n rfl dc_2_1_10 ?_
  refine h_pint (t := (10, 0, fun _ => none)) fx_10_15 hT ha (Or.inr ⟨rfl, rfl⟩) ty_10_1 (pi_10_1 _ _ _ _) dc_2_1_11 ?_
  refine r_aload_n rfl dc_2_1_14 ?_
  refine r_aload_n rfl dc_2_1_15 ?_
  refine h_get (t := (3, 0, rl [(0, rb), (4, 14)])) (v := .int (cs r 6)) fx_10_18 hr hrC (show some (Value.int _) = _ from congrArg (fun z => some (Value.int z)) (by simp [w1, hra])) dc_2_1_16 ?_
  refine h_pint (t := (10, 0, fun _ => none)) fx_10_23 hT ha (Or.inr ⟨rfl, rfl⟩) ty_10_2 (pi_10_2 _ _ _ _) dc_2_1_19 ?_
  refine r_aload_n rfl dc_2_1_22 ?_
  refine r_aload_n rfl dc_2_1_23 ?_
  refine h_get (t := (3, 0, rl [(0, rb), (4, 14)])) (v := .int (cs r 7)) fx_10_24 hr hrC (show some (Value.int _) = _ from congrArg (fun z => some (Value.int z)) (by simp [w1, hra])) dc_2_1_24 ?_
  refine h_pint (t := (10, 0, fun _ => none)) fx_10_27 hT ha (Or.inr ⟨rfl, rfl⟩) ty_10_3 (pi_10_3 _ _ _ _) dc_2_1_27 ?_
  refine r_aload_n rfl dc_2_1_30 ?_
  refine r_aload_n rfl dc_2_1_31 ?_
  refine h_get (t := (3, 0, rl [(0, rb), (4, 14)])) (v := .int (cs r 8)) fx_10_28 hr hrC (show some (Value.int _) = _ from congrArg (fun z => some (Value.int z)) (by simp [w1, hra])) dc_2_1_32 ?_
  refine h_pint (t := (10, 0, fun _ => none)) fx_10_31 hT ha (Or.inr ⟨rfl, rfl⟩) ty_10_4 (pi_10_4 _ _ _ _) dc_2_1_35 ?_
  refine r_aload_n rfl dc_2_1_38 ?_
  refine r_aload_n rfl dc_2_1_39 ?_
  refine h_get (t := (3, 0, rl [(0, rb), (4, 14)])) (v := .int (cs r 9)) fx_10_32 hr hrC (show some (Value.int _) = _ from congrArg (fun z => some (Value.int z)) (by simp [w1, hra])) dc_2_1_40 ?_
  refine h_pint (t := (10, 0, fun _ => none)) fx_10_35 hT ha (Or.inr ⟨rfl, rfl⟩) ty_10_5 (pi_10_5 _ _ _ _) dc_2_1_43 ?_
  refine r_aload_n rfl dc_2_1_46 ?_
  refine r_aload_n rfl dc_2_1_47 ?_
  refine h_get (t := (3, 0, rl [(0, rb), (4, 14)])) (v := .int (cs r 10)) fx_10_36 hr hrC (show some (Value.int _) = _ from congrArg (fun z => some (Value.int z)) (by simp [w1, hra])) dc_2_1_48 ?_
  refine h_pint (t := (10, 0, fun _ => none)) fx_10_39 hT ha (Or.inr ⟨rfl, rfl⟩) ty_10_6 (pi_10_6 _ _ _ _) dc_2_1_51 ?_
  refine r_aload_n rfl dc_2_1_54 ?_
  refine r_aload_n rfl dc_2_1_55 ?_
  refine h_get (t := (3, 0, rl [(0, rb), (4, 14)])) (v := .int (cs r 11)) fx_10_40 hr hrC (show some (Value.int _) = _ from congrArg (fun z => some (Value.int z)) (by simp [w1, hra])) dc_2_1_56 ?_
  refine h_pint (t := (10, 0, fun _ => none)) fx_10_43 hT ha (Or.inr ⟨rfl, rfl⟩) ty_10_7 (pi_10_7 _ _ _ _) dc_2_1_59 ?_
  refine r_aload_n rfl dc_2_1_62 ?_
  refine r_aload_n rfl dc_2_1_63 ?_
  refine h_callv (t := (3, 0, rl [(0, rb), (4, 14)])) (as := []) (rest := [.ref a]) (v := .ref M.1) (M1 := hk (mnew M n) (va_up T M.1 ((20, n, fun _ => none))) (wA (wA (w1 (w1 (w1 (w1 (w1 (w1 (w1 (w1 cs a 0 v1) a 1 v2) a 2 (cs r 6)) a 3 (cs r 7)) a 4 (cs r 8)) a 5 (cs r 9)) a 6 (cs r 10)) a 7 (cs r 11)) M.1 (fun _ => 0)) M.1 (va_cpy ((wA (w1 (w1 (w1 (w1 (w1 (w1 (w1 (w1 cs a 0 v1) a 1 v2) a 2 (cs r 6)) a 3 (cs r 7)) a 4 (cs r 8)) a 5 (cs r 9)) a 6 (cs r 10)) a 7 (cs r 11)) M.1 (fun _ => 0)) 14) ((wA (w1 (w1 (w1 (w1 (w1 (w1 (w1 (w1 cs a 0 v1) a 1 v2) a 2 (cs r 6)) a 3 (cs r 7)) a 4 (cs r 8)) a 5 (cs r 9)) a 6 (cs r 10)) a 7 (cs r 11)) M.1 (fun _ => 0)) M.1) 0 0 n))) rfl rfl iv_10_v44 (Or.inl rfl) na_1_82 hr hrC (show (3 : Nat) < 14 by decide) o_82 rfl (show (1 : Nat) ≤ 8 by decide) dc_2_1_64 (k_codes M hlo hhi T (w1 (w1 (w1 (w1 (w1 (w1 (w1 (w1 cs a 0 v1) a 1 v2) a 2 (cs r 6)) a 3 (cs r 7)) a 4 (cs r 8)) a 5 (cs r 9)) a 6 (cs r 10)) a 7 (cs r 11)) r rb hr hrC h14 n (by simp [w1, hra]; exact hn) hn6) ?_
  refine h_pref (t := (10, 0, fun _ => none)) (t2 := (10, 0, rl [(8, M.1)])) fx_10_48 ((up_o _ _ (by omega)).trans (hT)) ⟨by show a < M.1 + 1; omega, by omega⟩ (Or.inr ⟨rfl, rfl⟩) rfl rfl (rfl) dc_2_1_67 ?_
  show mm_Ru 3 (10, 4, true, prog_2_method_1_code, none) 70 [(0, .ref a), (1, .int v1), (2, .int v2), (3, .ref r)] [] (hk (mnew M n) (va_up (va_up T M.1 ((20, n, fun _ => none))) a ((10, 0, rl [(8, M.1)]))) (wA (wA (w1 (w1 (w1 (w1 (w1 (w1 (w1 (w1 cs a 0 v1) a 1 v2) a 2 (cs r 6)) a 3 (cs r 7)) a 4 (cs r 8)) a 5 (cs r 9)) a 6 (cs r 10)) a 7 (cs r 11)) M.1 (fun _ => 0)) M.1 (va_cpy ((wA (w1 (w1 (w1 (w1 (w1 (w1 (w1 (w1 cs a 0 v1) a 1 v2) a 2 (cs r 6)) a 3 (cs r 7)) a 4 (cs r 8)) a 5 (cs r 9)) a 6 (cs r 10)) a 7 (cs r 11)) M.1 (fun _ => 0)) 14) ((wA (w1 (w1 (w1 (w1 (w1 (w1 (w1 (w1 cs a 0 v1) a 1 v2) a 2 (cs r 6)) a 3 (cs r 7)) a 4 (cs r 8)) a 5 (cs r 9)) a 6 (cs r 10)) a 7 (cs r 11)) M.1 (fun _ => 0)) M.1) 0 0 n))) (fun r9 => r9 = ((none, hk (mnew (mnew M n) n) (va_up (va_up (va_up (va_up T M.1 (20, n, fun _ => none)) a (10, 0, rl [(8, M.1)])) (M.1 + 1) (20, n, fun _ => none)) a (10, 0, rl [(9, M.1 + 1), (8, M.1)])) (wA (wA (wA (w1 (w1 (w1 (w1 (w1 (w1 (w1 (w1 cs a 0 v1) a 1 v2) a 2 (cs r 6)) a 3 (cs r 7)) a 4 (cs r 8)) a 5 (cs r 9)) a 6 (cs r 10)) a 7 (cs r 11)) M.1 (fun _ => 0)) M.1 (va_cpy ((wA (w1 (w1 (w1 (w1 (w1 (w1 (w1 (w1 cs a 0 v1) a 1 v2) a 2 (cs r 6)) a 3 (cs r 7)) a 4 (cs r 8)) a 5 (cs r 9)) a 6 (cs r 10)) a 7 (cs r 11)) M.1 (fun _ => 0)) 14) ((wA (w1 (w1 (w1 (w1 (w1 (w1 (w1 (w1 cs a 0 v1) a 1 v2) a 2 (cs r 6)) a 3 (cs r 7)) a 4 (cs r 8)) a 5 (cs r 9)) a 6 (cs r 10)) a 7 (cs r 11)) M.1 (fun _ => 0)) M.1) 0 0 n)) (M.1 + 1) (fun _ => 0)))))
  refine r_aload_n rfl dc_2_1_70 ?_
  refine r_aload_n rfl dc_2_1_71 ?_
  refine h_get (t := (10, 0, rl [(8, M.1)])) (v := .ref M.1) fx_10_48 ((if_pos rfl)) ⟨by show a < M.1 + 1; omega, by omega⟩ (rfl) dc_2_1_72 ?_
  refine h_len (c := 20) (n := n) ((up_o _ _ (by omega)).trans ((if_pos rfl))) (Or.inl rfl) ⟨by show M.1 < M.1 + 1; omega, by omega⟩ dc_2_1_75 ?_
  refine h_newi (n := n) (by show M.1 + 1 < 1000000; omega) (by show ¬ (100 ≤ M.1 + 1 ∧ M.1 + 1 < 157); omega) (by omega) dc_2_1_76 ?_
  show mm_Ru 3 (10, 4, true, prog_2_method_1_code, none) 78 [(0, .ref a), (1, .int v1), (2, .int v2), (3, .ref r)] [.ref (M.1 + 1), .ref a] (hk (mnew (mnew M n) n) (va_up (va_up (va_up T M.1 ((20, n, fun _ => none))) a ((10, 0, rl [(8, M.1)]))) (M.1 + 1) ((20, n, fun _ => none))) (wA (wA (wA (w1 (w1 (w1 (w1 (w1 (w1 (w1 (w1 cs a 0 v1) a 1 v2) a 2 (cs r 6)) a 3 (cs r 7)) a 4 (cs r 8)) a 5 (cs r 9)) a 6 (cs r 10)) a 7 (cs r 11)) M.1 (fun _ => 0)) M.1 (va_cpy ((wA (w1 (w1 (w1 (w1 (w1 (w1 (w1 (w1 cs a 0 v1) a 1 v2) a 2 (cs r 6)) a 3 (cs r 7)) a 4 (cs r 8)) a 5 (cs r 9)) a 6 (cs r 10)) a 7 (cs r 11)) M.1 (fun _ => 0)) 14) ((wA (w1 (w1 (w1 (w1 (w1 (w1 (w1 (w1 cs a 0 v1) a 1 v2) a 2 (cs r 6)) a 3 (cs r 7)) a 4 (cs r 8)) a 5 (cs r 9)) a 6 (cs r 10)) a 7 (cs r 11)) M.1 (fun _ => 0)) M.1) 0 0 n)) (M.1 + 1) (fun _ => 0))) (fun r9 => r9 = ((none, hk (mnew (mnew M n) n) (va_up (va_up (va_up (va_up T M.1 (20, n, fun _ => none)) a (10, 0, rl [(8, M.1)])) (M.1 + 1) (20, n, fun _ => none)) a (10, 0, rl [(9, M.1 + 1), (8, M.1)])) (wA (wA (wA (w1 (w1 (w1 (w1 (w1 (w1 (w1 (w1 cs a 0 v1) a 1 v2) a 2 (cs r 6)) a 3 (cs r 7)) a 4 (cs r 8)) a 5 (cs r 9)) a 6 (cs r 10)) a 7 (cs r 11)) M.1 (fun _ => 0)) M.1 (va_cpy ((wA (w1 (w1 (w1 (w1 (w1 (w1 (w1 (w1 cs a 0 v1) a 1 v2) a 2 (cs r 6)) a 3 (cs r 7)) a 4 (cs r 8)) a 5 (cs r 9)) a 6 (cs r 10)) a 7 (cs r 11)) M.1 (fun _ => 0)) 14) ((wA (w1 (w1 (w1 (w1 (w1 (w1 (w1 (w1 cs a 0 v1) a 1 v2) a 2 (cs r 6)) a 3 (cs r 7)) a 4 (cs r 8)) a 5 (cs r 9)) a 6 (cs r 10)) a 7 (cs r 11)) M.1 (fun _ => 0)) M.1) 0 0 n)) (M.1 + 1) (fun _ => 0)))))
  refine h_pref (t := (10, 0, rl [(8, M.1)])) (t2 := (10, 0, rl [(9, M.1 + 1), (8, M.1)])) fx_10_51 ((up_o _ _ (by omega)).trans ((if_pos rfl))) ⟨by show a < M.1 + 1 + 1; omega, by omega⟩ (Or.inr ⟨rfl, rfl⟩) rfl rfl (rfl) dc_2_1_78 ?_
  show mm_Ru 3 (10, 4, true, prog_2_method_1_code, none) 81 [(0, .ref a), (1, .int v1), (2, .int v2), (3, .ref r)] [] (hk (mnew (mnew M n) n) (va_up (va_up (va_up (va_up T M.1 ((20, n, fun _ => none))) a ((10, 0, rl [(8, M.1)]))) (M.1 + 1) ((20, n, fun _ => none))) a ((10, 0, rl [(9, M.1 + 1), (8, M.1)]))) (wA (wA (wA (w1 (w1 (w1 (w1 (w1 (w1 (w1 (w1 cs a 0 v1) a 1 v2) a 2 (cs r 6)) a 3 (cs r 7)) a 4 (cs r 8)) a 5 (cs r 9)) a 6 (cs r 10)) a 7 (cs r 11)) M.1 (fun _ => 0)) M.1 (va_cpy ((wA (w1 (w1 (w1 (w1 (w1 (w1 (w1 (w1 cs a 0 v1) a 1 v2) a 2 (cs r 6)) a 3 (cs r 7)) a 4 (cs r 8)) a 5 (cs r 9)) a 6 (cs r 10)) a 7 (cs r 11)) M.1 (fun _ => 0)) 14) ((wA (w1 (w1 (w1 (w1 (w1 (w1 (w1 (w1 cs a 0 v1) a 1 v2) a 2 (cs r 6)) a 3 (cs r 7)) a 4 (cs r 8)) a 5 (cs r 9)) a 6 (cs r 10)) a 7 (cs r 11)) M.1 (fun _ => 0)) M.1) 0 0 n)) (M.1 + 1) (fun _ => 0))) (fun r9 => r9 = ((none, hk (mnew (mnew M n) n) (va_up (va_up (va_up (va_up T M.1 (20, n, fun _ => none)) a (10, 0, rl [(8, M.1)])) (M.1 + 1) (20, n, fun _ => none)) a (10, 0, rl [(9, M.1 + 1), (8, M.1)])) (wA (wA (wA (w1 (w1 (w1 (w1 (w1 (w1 (w1 (w1 cs a 0 v1) a 1 v2) a 2 (cs r 6)) a 3 (cs r 7)) a 4 (cs r 8)) a 5 (cs r 9)) a 6 (cs r 10)) a 7 (cs r 11)) M.1 (fun _ => 0)) M.1 (va_cpy ((wA (w1 (w1 (w1 (w1 (w1 (w1 (w1 (w1 cs a 0 v1) a 1 v2) a 2 (cs r 6)) a 3 (cs r 7)) a 4 (cs r 8)) a 5 (cs r 9)) a 6 (cs r 10)) a 7 (cs r 11)) M.1 (fun _ => 0)) 14) ((wA (w1 (w1 (w1 (w1 (w1 (w1 (w1 (w1 cs a 0 v1) a 1 v2) a 2 (cs r 6)) a 3 (cs r 7)) a 4 (cs r 8)) a 5 (cs r 9)) a 6 (cs r 10)) a 7 (cs r 11)) M.1 (fun _ => 0)) M.1) 0 0 n)) (M.1 + 1) (fun _ => 0)))))
  exact r_vret rfl dc_2_1_81 (rfl)
