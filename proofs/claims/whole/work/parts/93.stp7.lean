/-! calls of the law: school, student, course -/
theorem dc_1_11_0 : decode prog_1_method_11_code 0 = .ok (.aload_n 0, 1) := by decide +kernel
theorem dc_1_11_1 : decode prog_1_method_11_code 1 = .ok (.iload_n 1, 1) := by decide +kernel
theorem dc_1_11_2 : decode prog_1_method_11_code 2 = .ok (.invokevirtual 128, 3) := by decide +kernel
theorem dc_1_11_5 : decode prog_1_method_11_code 5 = .ok (.ifnull 60, 3) := by decide +kernel
theorem dc_1_11_8 : decode prog_1_method_11_code 8 = .ok (.iload_n 2, 1) := by decide +kernel
theorem dc_1_11_9 : decode prog_1_method_11_code 9 = .ok (.iconst 0, 1) := by decide +kernel
theorem dc_1_11_10 : decode prog_1_method_11_code 10 = .ok (.bipush 7, 2) := by decide +kernel
theorem dc_1_11_12 : decode prog_1_method_11_code 12 = .ok (.invokestatic 84, 3) := by decide +kernel
theorem dc_1_11_15 : decode prog_1_method_11_code 15 = .ok (.ifCond .eq 50, 3) := by decide +kernel
theorem dc_1_11_18 : decode prog_1_method_11_code 18 = .ok (.iload_n 3, 1) := by decide +kernel
theorem dc_1_11_19 : decode prog_1_method_11_code 19 = .ok (.iconst 0, 1) := by decide +kernel
theorem dc_1_11_20 : decode prog_1_method_11_code 20 = .ok (.bipush 100, 2) := by decide +kernel
theorem dc_1_11_22 : decode prog_1_method_11_code 22 = .ok (.invokestatic 84, 3) := by decide +kernel
theorem dc_1_11_25 : decode prog_1_method_11_code 25 = .ok (.ifCond .eq 40, 3) := by decide +kernel
theorem dc_1_11_28 : decode prog_1_method_11_code 28 = .ok (.iload 4, 2) := by decide +kernel
theorem dc_1_11_30 : decode prog_1_method_11_code 30 = .ok (.iconst 0, 1) := by decide +kernel
theorem dc_1_11_31 : decode prog_1_method_11_code 31 = .ok (.bipush 99, 2) := by decide +kernel
theorem dc_1_11_33 : decode prog_1_method_11_code 33 = .ok (.invokestatic 84, 3) := by decide +kernel
theorem dc_1_11_36 : decode prog_1_method_11_code 36 = .ok (.ifCond .eq 29, 3) := by decide +kernel
theorem dc_1_11_39 : decode prog_1_method_11_code 39 = .ok (.iload 5, 2) := by decide +kernel
theorem dc_1_11_41 : decode prog_1_method_11_code 41 = .ok (.iconst 0, 1) := by decide +kernel
theorem dc_1_11_42 : decode prog_1_method_11_code 42 = .ok (.sipush 4095, 3) := by decide +kernel
theorem dc_1_11_45 : decode prog_1_method_11_code 45 = .ok (.invokestatic 84, 3) := by decide +kernel
theorem dc_1_11_48 : decode prog_1_method_11_code 48 = .ok (.ifCond .eq 17, 3) := by decide +kernel
theorem dc_1_11_51 : decode prog_1_method_11_code 51 = .ok (.aload_n 0, 1) := by decide +kernel
theorem dc_1_11_52 : decode prog_1_method_11_code 52 = .ok (.getfield 68, 3) := by decide +kernel
theorem dc_1_11_55 : decode prog_1_method_11_code 55 = .ok (.invokeinterface 113 1, 5) := by decide +kernel
theorem dc_1_11_60 : decode prog_1_method_11_code 60 = .ok (.bipush 16, 2) := by decide +kernel
theorem dc_1_11_62 : decode prog_1_method_11_code 62 = .ok (.if_icmp .lt 5, 3) := by decide +kernel
theorem dc_1_11_65 : decode prog_1_method_11_code 65 = .ok (.iconst (-1), 1) := by decide +kernel
theorem dc_1_11_66 : decode prog_1_method_11_code 66 = .ok (.ireturn, 1) := by decide +kernel
theorem dc_1_11_67 : decode prog_1_method_11_code 67 = .ok (.aload_n 0, 1) := by decide +kernel
theorem dc_1_11_68 : decode prog_1_method_11_code 68 = .ok (.getfield 68, 3) := by decide +kernel
theorem dc_1_11_71 : decode prog_1_method_11_code 71 = .ok (.new 175, 3) := by decide +kernel
theorem dc_1_11_74 : decode prog_1_method_11_code 74 = .ok (.dup, 1) := by decide +kernel
theorem dc_1_11_75 : decode prog_1_method_11_code 75 = .ok (.iload_n 1, 1) := by decide +kernel
theorem dc_1_11_76 : decode prog_1_method_11_code 76 = .ok (.iload_n 2, 1) := by decide +kernel
theorem dc_1_11_77 : decode prog_1_method_11_code 77 = .ok (.iload_n 3, 1) := by decide +kernel
theorem dc_1_11_78 : decode prog_1_method_11_code 78 = .ok (.iload 4, 2) := by decide +kernel
theorem dc_1_11_80 : decode prog_1_method_11_code 80 = .ok (.iload 5, 2) := by decide +kernel
theorem dc_1_11_82 : decode prog_1_method_11_code 82 = .ok (.invokespecial 177, 3) := by decide +kernel
theorem dc_1_11_85 : decode prog_1_method_11_code 85 = .ok (.invokeinterface 124 2, 5) := by decide +kernel
theorem dc_1_11_90 : decode prog_1_method_11_code 90 = .ok (.pop, 1) := by decide +kernel
theorem dc_1_11_91 : decode prog_1_method_11_code 91 = .ok (.aload_n 0, 1) := by decide +kernel
theorem dc_1_11_92 : decode prog_1_method_11_code 92 = .ok (.getfield 68, 3) := by decide +kernel
theorem dc_1_11_95 : decode prog_1_method_11_code 95 = .ok (.invokeinterface 113 1, 5) := by decide +kernel
theorem dc_1_11_100 : decode prog_1_method_11_code 100 = .ok (.iconst 1, 1) := by decide +kernel
theorem dc_1_11_101 : decode prog_1_method_11_code 101 = .ok (.isub, 1) := by decide +kernel
theorem dc_1_11_102 : decode prog_1_method_11_code 102 = .ok (.ireturn, 1) := by decide +kernel
theorem dc_1_20_0 : decode prog_1_method_20_code 0 = .ok (.aload_n 0, 1) := by decide +kernel
theorem dc_1_20_1 : decode prog_1_method_20_code 1 = .ok (.iload_n 1, 1) := by decide +kernel
theorem dc_1_20_2 : decode prog_1_method_20_code 2 = .ok (.invokevirtual 128, 3) := by decide +kernel
theorem dc_1_20_5 : decode prog_1_method_20_code 5 = .ok (.astore 6, 2) := by decide +kernel
theorem dc_1_20_7 : decode prog_1_method_20_code 7 = .ok (.aload 6, 2) := by decide +kernel
theorem dc_1_20_9 : decode prog_1_method_20_code 9 = .ok (.ifnull 61, 3) := by decide +kernel
theorem dc_1_20_12 : decode prog_1_method_20_code 12 = .ok (.iload_n 2, 1) := by decide +kernel
theorem dc_1_20_13 : decode prog_1_method_20_code 13 = .ok (.iconst 0, 1) := by decide +kernel
theorem dc_1_20_14 : decode prog_1_method_20_code 14 = .ok (.sipush 4095, 3) := by decide +kernel
theorem dc_1_20_17 : decode prog_1_method_20_code 17 = .ok (.invokestatic 84, 3) := by decide +kernel
theorem dc_1_20_20 : decode prog_1_method_20_code 20 = .ok (.ifCond .eq 50, 3) := by decide +kernel
theorem dc_1_20_23 : decode prog_1_method_20_code 23 = .ok (.iload_n 3, 1) := by decide +kernel
theorem dc_1_20_24 : decode prog_1_method_20_code 24 = .ok (.iconst 1, 1) := by decide +kernel
theorem dc_1_20_25 : decode prog_1_method_20_code 25 = .ok (.bipush 9, 2) := by decide +kernel
theorem dc_1_20_27 : decode prog_1_method_20_code 27 = .ok (.invokestatic 84, 3) := by decide +kernel
theorem dc_1_20_30 : decode prog_1_method_20_code 30 = .ok (.ifCond .eq 40, 3) := by decide +kernel
theorem dc_1_20_33 : decode prog_1_method_20_code 33 = .ok (.iload 4, 2) := by decide +kernel
theorem dc_1_20_35 : decode prog_1_method_20_code 35 = .ok (.iconst 0, 1) := by decide +kernel
theorem dc_1_20_36 : decode prog_1_method_20_code 36 = .ok (.bipush 9, 2) := by decide +kernel
theorem dc_1_20_38 : decode prog_1_method_20_code 38 = .ok (.invokestatic 84, 3) := by decide +kernel
theorem dc_1_20_41 : decode prog_1_method_20_code 41 = .ok (.ifCond .eq 29, 3) := by decide +kernel
theorem dc_1_20_44 : decode prog_1_method_20_code 44 = .ok (.iload 5, 2) := by decide +kernel
theorem dc_1_20_46 : decode prog_1_method_20_code 46 = .ok (.iconst 0, 1) := by decide +kernel
theorem dc_1_20_47 : decode prog_1_method_20_code 47 = .ok (.ldc 220, 2) := by decide +kernel
theorem dc_1_20_49 : decode prog_1_method_20_code 49 = .ok (.invokestatic 84, 3) := by decide +kernel
theorem dc_1_20_52 : decode prog_1_method_20_code 52 = .ok (.ifCond .eq 18, 3) := by decide +kernel
theorem dc_1_20_55 : decode prog_1_method_20_code 55 = .ok (.aload 6, 2) := by decide +kernel
theorem dc_1_20_57 : decode prog_1_method_20_code 57 = .ok (.getfield 221, 3) := by decide +kernel
theorem dc_1_20_60 : decode prog_1_method_20_code 60 = .ok (.invokeinterface 113 1, 5) := by decide +kernel
theorem dc_1_20_65 : decode prog_1_method_20_code 65 = .ok (.bipush 6, 2) := by decide +kernel
theorem dc_1_20_67 : decode prog_1_method_20_code 67 = .ok (.if_icmp .lt 5, 3) := by decide +kernel
theorem dc_1_20_70 : decode prog_1_method_20_code 70 = .ok (.iconst (-1), 1) := by decide +kernel
theorem dc_1_20_71 : decode prog_1_method_20_code 71 = .ok (.ireturn, 1) := by decide +kernel
theorem dc_1_20_72 : decode prog_1_method_20_code 72 = .ok (.aload 6, 2) := by decide +kernel
theorem dc_1_20_74 : decode prog_1_method_20_code 74 = .ok (.getfield 221, 3) := by decide +kernel
theorem dc_1_20_77 : decode prog_1_method_20_code 77 = .ok (.new 218, 3) := by decide +kernel
theorem dc_1_20_80 : decode prog_1_method_20_code 80 = .ok (.dup, 1) := by decide +kernel
theorem dc_1_20_81 : decode prog_1_method_20_code 81 = .ok (.iload_n 2, 1) := by decide +kernel
theorem dc_1_20_82 : decode prog_1_method_20_code 82 = .ok (.iload_n 3, 1) := by decide +kernel
theorem dc_1_20_83 : decode prog_1_method_20_code 83 = .ok (.iload 4, 2) := by decide +kernel
theorem dc_1_20_85 : decode prog_1_method_20_code 85 = .ok (.iload 5, 2) := by decide +kernel
theorem dc_1_20_87 : decode prog_1_method_20_code 87 = .ok (.invokespecial 224, 3) := by decide +kernel
theorem dc_1_20_90 : decode prog_1_method_20_code 90 = .ok (.invokeinterface 124 2, 5) := by decide +kernel
theorem dc_1_20_95 : decode prog_1_method_20_code 95 = .ok (.pop, 1) := by decide +kernel
theorem dc_1_20_96 : decode prog_1_method_20_code 96 = .ok (.aload 6, 2) := by decide +kernel
theorem dc_1_20_98 : decode prog_1_method_20_code 98 = .ok (.getfield 221, 3) := by decide +kernel
theorem dc_1_20_101 : decode prog_1_method_20_code 101 = .ok (.invokeinterface 113 1, 5) := by decide +kernel
theorem dc_1_20_106 : decode prog_1_method_20_code 106 = .ok (.iconst 1, 1) := by decide +kernel
theorem dc_1_20_107 : decode prog_1_method_20_code 107 = .ok (.isub, 1) := by decide +kernel
theorem dc_1_20_108 : decode prog_1_method_20_code 108 = .ok (.ireturn, 1) := by decide +kernel
theorem dc_1_5_0 : decode prog_1_method_5_code 0 = .ok (.iload_n 1, 1) := by decide +kernel
theorem dc_1_5_1 : decode prog_1_method_5_code 1 = .ok (.iconst 0, 1) := by decide +kernel
theorem dc_1_5_2 : decode prog_1_method_5_code 2 = .ok (.iconst 3, 1) := by decide +kernel
theorem dc_1_5_3 : decode prog_1_method_5_code 3 = .ok (.invokestatic 84, 3) := by decide +kernel
theorem dc_1_5_6 : decode prog_1_method_5_code 6 = .ok (.ifCond .eq 36, 3) := by decide +kernel
theorem dc_1_5_9 : decode prog_1_method_5_code 9 = .ok (.iload_n 2, 1) := by decide +kernel
theorem dc_1_5_10 : decode prog_1_method_5_code 10 = .ok (.iconst 0, 1) := by decide +kernel
theorem dc_1_5_11 : decode prog_1_method_5_code 11 = .ok (.iconst 3, 1) := by decide +kernel
theorem dc_1_5_12 : decode prog_1_method_5_code 12 = .ok (.invokestatic 84, 3) := by decide +kernel
theorem dc_1_5_15 : decode prog_1_method_5_code 15 = .ok (.ifCond .eq 27, 3) := by decide +kernel
theorem dc_1_5_18 : decode prog_1_method_5_code 18 = .ok (.iload_n 3, 1) := by decide +kernel
theorem dc_1_5_19 : decode prog_1_method_5_code 19 = .ok (.iconst 0, 1) := by decide +kernel
theorem dc_1_5_20 : decode prog_1_method_5_code 20 = .ok (.bipush 9, 2) := by decide +kernel
theorem dc_1_5_22 : decode prog_1_method_5_code 22 = .ok (.invokestatic 84, 3) := by decide +kernel
theorem dc_1_5_25 : decode prog_1_method_5_code 25 = .ok (.ifCond .eq 17, 3) := by decide +kernel
theorem dc_1_5_28 : decode prog_1_method_5_code 28 = .ok (.iload 4, 2) := by decide +kernel
theorem dc_1_5_30 : decode prog_1_method_5_code 30 = .ok (.iconst 0, 1) := by decide +kernel
theorem dc_1_5_31 : decode prog_1_method_5_code 31 = .ok (.iconst 3, 1) := by decide +kernel
theorem dc_1_5_32 : decode prog_1_method_5_code 32 = .ok (.invokestatic 84, 3) := by decide +kernel
theorem dc_1_5_35 : decode prog_1_method_5_code 35 = .ok (.ifCond .eq 7, 3) := by decide +kernel
theorem dc_1_5_38 : decode prog_1_method_5_code 38 = .ok (.iconst 1, 1) := by decide +kernel
theorem dc_1_5_39 : decode prog_1_method_5_code 39 = .ok (.goto 4, 3) := by decide +kernel
theorem dc_1_5_42 : decode prog_1_method_5_code 42 = .ok (.iconst 0, 1) := by decide +kernel
theorem dc_1_5_43 : decode prog_1_method_5_code 43 = .ok (.istore 8, 2) := by decide +kernel
theorem dc_1_5_45 : decode prog_1_method_5_code 45 = .ok (.iload 5, 2) := by decide +kernel
theorem dc_1_5_47 : decode prog_1_method_5_code 47 = .ok (.invokestatic 108, 3) := by decide +kernel
theorem dc_1_5_50 : decode prog_1_method_5_code 50 = .ok (.ifCond .eq 22, 3) := by decide +kernel
theorem dc_1_5_53 : decode prog_1_method_5_code 53 = .ok (.iload 6, 2) := by decide +kernel
theorem dc_1_5_55 : decode prog_1_method_5_code 55 = .ok (.invokestatic 108, 3) := by decide +kernel
theorem dc_1_5_58 : decode prog_1_method_5_code 58 = .ok (.ifCond .eq 14, 3) := by decide +kernel
theorem dc_1_5_61 : decode prog_1_method_5_code 61 = .ok (.iload 5, 2) := by decide +kernel
theorem dc_1_5_63 : decode prog_1_method_5_code 63 = .ok (.iload 6, 2) := by decide +kernel
theorem dc_1_5_65 : decode prog_1_method_5_code 65 = .ok (.if_icmp .ge 7, 3) := by decide +kernel
theorem dc_1_5_68 : decode prog_1_method_5_code 68 = .ok (.iconst 1, 1) := by decide +kernel
theorem dc_1_5_69 : decode prog_1_method_5_code 69 = .ok (.goto 4, 3) := by decide +kernel
theorem dc_1_5_72 : decode prog_1_method_5_code 72 = .ok (.iconst 0, 1) := by decide +kernel
theorem dc_1_5_73 : decode prog_1_method_5_code 73 = .ok (.istore 9, 2) := by decide +kernel
theorem dc_1_5_75 : decode prog_1_method_5_code 75 = .ok (.iload 8, 2) := by decide +kernel
theorem dc_1_5_77 : decode prog_1_method_5_code 77 = .ok (.ifCond .eq 33, 3) := by decide +kernel
theorem dc_1_5_80 : decode prog_1_method_5_code 80 = .ok (.iload 9, 2) := by decide +kernel
theorem dc_1_5_82 : decode prog_1_method_5_code 82 = .ok (.ifCond .eq 28, 3) := by decide +kernel
theorem dc_1_5_85 : decode prog_1_method_5_code 85 = .ok (.iload 7, 2) := by decide +kernel
theorem dc_1_5_87 : decode prog_1_method_5_code 87 = .ok (.iconst 0, 1) := by decide +kernel
theorem dc_1_5_88 : decode prog_1_method_5_code 88 = .ok (.ldc 112, 2) := by decide +kernel
theorem dc_1_5_90 : decode prog_1_method_5_code 90 = .ok (.invokestatic 84, 3) := by decide +kernel
theorem dc_1_5_93 : decode prog_1_method_5_code 93 = .ok (.ifCond .eq 17, 3) := by decide +kernel
theorem dc_1_5_96 : decode prog_1_method_5_code 96 = .ok (.aload_n 0, 1) := by decide +kernel
theorem dc_1_5_97 : decode prog_1_method_5_code 97 = .ok (.getfield 61, 3) := by decide +kernel
theorem dc_1_5_100 : decode prog_1_method_5_code 100 = .ok (.invokeinterface 113 1, 5) := by decide +kernel
theorem dc_1_5_105 : decode prog_1_method_5_code 105 = .ok (.bipush 8, 2) := by decide +kernel
theorem dc_1_5_107 : decode prog_1_method_5_code 107 = .ok (.if_icmp .lt 5, 3) := by decide +kernel
theorem dc_1_5_110 : decode prog_1_method_5_code 110 = .ok (.iconst (-1), 1) := by decide +kernel
theorem dc_1_5_111 : decode prog_1_method_5_code 111 = .ok (.ireturn, 1) := by decide +kernel
theorem dc_1_5_112 : decode prog_1_method_5_code 112 = .ok (.aload_n 0, 1) := by decide +kernel
theorem dc_1_5_113 : decode prog_1_method_5_code 113 = .ok (.getfield 61, 3) := by decide +kernel
theorem dc_1_5_116 : decode prog_1_method_5_code 116 = .ok (.new 119, 3) := by decide +kernel
theorem dc_1_5_119 : decode prog_1_method_5_code 119 = .ok (.dup, 1) := by decide +kernel
theorem dc_1_5_120 : decode prog_1_method_5_code 120 = .ok (.iload_n 1, 1) := by decide +kernel
theorem dc_1_5_121 : decode prog_1_method_5_code 121 = .ok (.iload_n 2, 1) := by decide +kernel
theorem dc_1_5_122 : decode prog_1_method_5_code 122 = .ok (.iload_n 3, 1) := by decide +kernel
theorem dc_1_5_123 : decode prog_1_method_5_code 123 = .ok (.iload 5, 2) := by decide +kernel
theorem dc_1_5_125 : decode prog_1_method_5_code 125 = .ok (.iload 6, 2) := by decide +kernel
theorem dc_1_5_127 : decode prog_1_method_5_code 127 = .ok (.iload 7, 2) := by decide +kernel
theorem dc_1_5_129 : decode prog_1_method_5_code 129 = .ok (.invokespecial 121, 3) := by decide +kernel
theorem dc_1_5_132 : decode prog_1_method_5_code 132 = .ok (.invokeinterface 124 2, 5) := by decide +kernel
theorem dc_1_5_137 : decode prog_1_method_5_code 137 = .ok (.pop, 1) := by decide +kernel
theorem dc_1_5_138 : decode prog_1_method_5_code 138 = .ok (.aload_n 0, 1) := by decide +kernel
theorem dc_1_5_139 : decode prog_1_method_5_code 139 = .ok (.getfield 61, 3) := by decide +kernel
theorem dc_1_5_142 : decode prog_1_method_5_code 142 = .ok (.invokeinterface 113 1, 5) := by decide +kernel
theorem dc_1_5_147 : decode prog_1_method_5_code 147 = .ok (.iconst 1, 1) := by decide +kernel
theorem dc_1_5_148 : decode prog_1_method_5_code 148 = .ok (.isub, 1) := by decide +kernel
theorem dc_1_5_149 : decode prog_1_method_5_code 149 = .ok (.ireturn, 1) := by decide +kernel
theorem iv_0_f124 : mm_iv 0 (.invokeinterface 124 2) = some (6, 28) := by decide +kernel
theorem iv_0_i121 : mm_iv 0 (.invokespecial 121) = some (2, 27) := by decide +kernel
theorem iv_0_i177 : mm_iv 0 (.invokespecial 177) = some (2, 100) := by decide +kernel
theorem iv_0_i224 : mm_iv 0 (.invokespecial 224) = some (2, 146) := by decide +kernel
theorem nr_0_112 : mm_nr 0 112 = some (nI 99999) := by decide +kernel
theorem nr_0_220 : mm_nr 0 220 = some (nI 1048575) := by decide +kernel
theorem o_28 : mm_o 28 = 6 := by decide +kernel
theorem na_2_100 : mm_nas 2 100 = 6 := by decide +kernel
theorem na_2_146 : mm_nas 2 146 = 5 := by decide +kernel
theorem na_2_27 : mm_nas 2 27 = 7 := by decide +kernel
theorem na_6_28 : mm_nas 6 28 = 2 := by decide +kernel
theorem nw_school {M : mH} (hlo : 157 ≤ M.1) (hhi : M.1 ≤ 800000) (T : Nat → mT) (cs : Nat → Nat → Int32) (v1 v2 v3 v4 v5 v6 : Int32) : ∃ M1 T1 cs1, ((M1.1 = M.1 + 2 ∧ M1.2.1 ≤ M.2.1 + 20 ∧ M1.2.2 = M.2.2) ∧ (∀ a, a < M.1 → T1 a = T a) ∧ (∀ a, a < M.1 → cs1 a = cs a) ∧ T1 M.1 = (9, 0, rl [(6, M.1 + 1)]) ∧ T1 (M.1 + 1) = (6, 0, rl [(0, 1000000)]) ∧ (cs1 M.1 0 = v1 ∧ cs1 M.1 1 = v2 ∧ cs1 M.1 2 = v4 ∧ cs1 M.1 3 = v5 ∧ cs1 M.1 4 = v6 ∧ cs1 M.1 5 = v3) ∧ cs1 (M.1 + 1) 1 = nI 0) ∧ mm_Ev 4 27 [.ref M.1, .int v1, .int v2, .int v3, .int v4, .int v5, .int v6] (hk (mnew M 7) (va_up T M.1 (9, 0, fun _ => none)) (wA cs M.1 (fun _ => 0))) (none, hk M1 T1 cs1) := by
  have h9 := k_iSc (mnew M 7) (by show 157 ≤ M.1 + 1; omega) (by show M.1 + 1 ≤ 900000; omega) (va_up T M.1 (9, 0, fun _ => none)) (wA cs M.1 (fun _ => 0)) M.1 (if_pos rfl) ⟨Nat.lt_succ_self _, by omega⟩ v1 v2 v3 v4 v5 v6
  refine ⟨_, _, _, ?_, h9⟩
  have e1 : (mnew M 7).1 = M.1 + 1 := rfl
  rw [e1]
  refine ⟨⟨rfl, by show M.2.1 + 7 + 3 ≤ _; omega, rfl⟩, fun a ha => ?_, fun a ha => ?_, if_pos rfl, ?_, ⟨?_, ?_, ?_, ?_, ?_, ?_⟩, ?_⟩
  · rw [up_o _ _ (by omega), up_o _ _ (by omega), up_o _ _ (by omega), up_o _ _ (by omega)]
  · rw [w1_n _ _ _ (by omega), w1_n _ _ _ (by omega), w1_n _ _ _ (by omega), w1_n _ _ _ (by omega), w1_n _ _ _ (by omega), w1_n _ _ _ (by omega), w1_n _ _ _ (by omega), wA_o _ _ (by omega), wA_o _ _ (by omega)]
  · rw [up_o _ _ (by omega)]
    exact if_pos rfl
  iterate 6 (simp [w1])
  show _ = (0 : Int32)
  simp [w1, wA_s]
theorem nw_course {M : mH} (hlo : 157 ≤ M.1) (hhi : M.1 ≤ 800000) (T : Nat → mT) (cs : Nat → Nat → Int32) (v1 v2 v3 v4 : Int32) : ∃ M1 T1 cs1, ((M1.1 = M.1 + 1 ∧ M1.2.1 ≤ M.2.1 + 20 ∧ M1.2.2 = M.2.2) ∧ (∀ a, a < M.1 → T1 a = T a) ∧ (∀ a, a < M.1 → cs1 a = cs a) ∧ T1 M.1 = (12, 0, rl []) ∧ (cs1 M.1 0 = v1 ∧ cs1 M.1 1 = v2 ∧ cs1 M.1 2 = v3 ∧ cs1 M.1 3 = v4 ∧ cs1 M.1 4 = nI 0)) ∧ mm_Ev 4 146 [.ref M.1, .int v1, .int v2, .int v3, .int v4] (hk (mnew M 5) (va_up T M.1 (12, 0, fun _ => none)) (wA cs M.1 (fun _ => 0))) (none, hk M1 T1 cs1) := by
  have h9 := k_iCo (mnew M 5) (by show 157 ≤ M.1 + 1; omega) (by show M.1 + 1 ≤ 900000; omega) (va_up T M.1 (12, 0, fun _ => none)) (wA cs M.1 (fun _ => 0)) M.1 (if_pos rfl) ⟨Nat.lt_succ_self _, by omega⟩ v1 v2 v3 v4
  refine ⟨_, _, _, ?_, mm_Ev_up (by decide) h9⟩
  refine ⟨⟨rfl, by show M.2.1 + 5 ≤ _; omega, rfl⟩, fun a ha => up_o _ _ (by omega), fun a ha => ?_, if_pos rfl, ⟨?_, ?_, ?_, ?_, ?_⟩⟩
  · rw [w1_n _ _ _ (by omega), w1_n _ _ _ (by omega), w1_n _ _ _ (by omega), w1_n _ _ _ (by omega), w1_n _ _ _ (by omega), wA_o _ _ (by omega)]
  all_goals simp [w1]
theorem fl_at (f : Nat → Int32) (n : Nat) (v : Int32) {j : Nat} (h : j < n) : fl f n v j = v := if_pos h
theorem nw_student {M : mH} (hlo : 157 ≤ M.1) (hhi : M.1 ≤ 800000) (T : Nat → mT) (cs : Nat → Nat → Int32) (v1 v2 v3 v4 v5 : Int32) : ∃ M1 T1 cs1, ((M1.1 = M.1 + 3 ∧ M1.2.1 ≤ M.2.1 + 20 ∧ M1.2.2 = M.2.2) ∧ (∀ a, a < M.1 → T1 a = T a) ∧ (∀ a, a < M.1 → cs1 a = cs a) ∧ T1 M.1 = (11, 0, rl [(6, M.1 + 2), (5, M.1 + 1)]) ∧ T1 (M.1 + 1) = (20, 4, fun _ => none) ∧ T1 (M.1 + 2) = (20, 4, fun _ => none) ∧ (cs1 M.1 0 = v1 ∧ cs1 M.1 1 = v2 ∧ cs1 M.1 2 = v3 ∧ cs1 M.1 3 = v4 ∧ cs1 M.1 4 = v5 ∧ cs1 M.1 7 = nI 0 ∧ cs1 M.1 8 = nI 0 ∧ cs1 M.1 9 = -1 ∧ cs1 M.1 10 = -1) ∧ ∀ t, t < 4 → cs1 (M.1 + 1) t = -1) ∧ mm_Ev 4 100 [.ref M.1, .int v1, .int v2, .int v3, .int v4, .int v5] (hk (mnew M 11) (va_up T M.1 (11, 0, fun _ => none)) (wA cs M.1 (fun _ => 0))) (none, hk M1 T1 cs1) := by
  have h9 := k_iSt (mnew M 11) (by show 157 ≤ M.1 + 1; omega) (by show M.1 + 1 ≤ 900000; omega) (va_up T M.1 (11, 0, fun _ => none)) (wA cs M.1 (fun _ => 0)) M.1 (if_pos rfl) ⟨Nat.lt_succ_self _, by omega⟩ v1 v2 v3 v4 v5
  have e1 : (mnew M 11).1 = M.1 + 1 := rfl
  rw [e1] at h9
  refine ⟨_, _, _, ?_, mm_Ev_up (by decide) h9⟩
  refine ⟨⟨rfl, by show M.2.1 + 11 + 4 + 4 ≤ _; omega, rfl⟩, fun a ha => ?_, fun a ha => ?_, if_pos rfl, ?_, ?_, ⟨?_, ?_, ?_, ?_, ?_, ?_, ?_, ?_, ?_⟩, fun t ht => ?_⟩
  · rw [up_o _ _ (by omega), up_o _ _ (by omega), up_o _ _ (by omega), up_o _ _ (by omega), up_o _ _ (by omega)]
  · rw [wA_o _ _ (by omega), wA_o _ _ (by omega), w1_n _ _ _ (by omega), w1_n _ _ _ (by omega), w1_n _ _ _ (by omega), w1_n _ _ _ (by omega), w1_n _ _ _ (by omega), w1_n _ _ _ (by omega), w1_n _ _ _ (by omega), w1_n _ _ _ (by omega), w1_n _ _ _ (by omega), wA_o _ _ (by omega), wA_o _ _ (by omega), wA_o _ _ (by omega)]
  · rw [up_o _ _ (by omega), up_o _ _ (by omega), up_o _ _ (by omega)]
    exact if_pos rfl
  · rw [up_o _ _ (by omega)]
    exact if_pos rfl
  iterate 9 (rw [wA_o _ _ (by omega), wA_o _ _ (by omega)]; simp [w1])
  rw [wA_o _ _ (by omega), wA_s]
  exact fl_at _ 4 _ ht
set_option maxHeartbeats 4000000 in
theorem s_school {M : mH} {T : Nat → mT} {cs sg : Nat → Nat → Int32} {io : Nat → Int32} {e : Nat → Nat} {D : Nat → Nat → Nat} {nh nx ns nf ny tp : Nat} {cm : Nat → Nat} {w : Nat → Nat → Nat} {cn : Nat → Nat} {wc : Nat → Nat → Nat} (hV : CV M T cs io sg e D nh nx ns nf ny tp cm w cn wc) (hM8 : M.1 ≤ 800000) (hE : M.2.2 1000000 = .inl (3, 0, .inr (.inr (.inr (.inr (fun _ => none)))))) (hsx : ∀ j, 2 ≤ j → j < 8 → M.2.2 (1000000 + j) = mm_hs 0 (fun _ => 0) j) (he3 : e 3 = 11 ∨ e 3 = 13) (la to be sc fr tt fe : Int32) : ∃ (v : Value), ∃ (M2 : mH), ∃ (T2 : Nat → mT), ∃ (cs2 : Nat → Nat → Int32), ∃ (io2 : Nat → Int32), ∃ (sg2 : Nat → Nat → Int32), (mm_Ev 30 194 [.ref 100, .int la, .int to, .int be, .int sc, .int fr, .int tt, .int fe] (rf_mk (hk M2 T2 cs2) io sg) (some v, rf_mk (hk M2 T2 cs2) io2 sg2) ∧ (M2.2.2 = M.2.2 ∧ M2.1 ≤ M.1 + 20 ∧ M2.2.1 ≤ M.2.1 + 1000) ∧ ∃ (e2 : Nat → Nat) (D2 : Nat → Nat → Nat) (nh2 nx2 ns2 nf2 ny2 tp2 : Nat) (cm2 : Nat → Nat) (w2 : Nat → Nat → Nat) (cn2 : Nat → Nat) (wc2 : Nat → Nat → Nat), CV M2 T2 cs2 io2 sg2 e2 D2 nh2 nx2 ns2 nf2 ny2 tp2 cm2 w2 cn2 wc2 ∧ (e2 3 = 11 ∨ e2 3 = 13)) ∧ mm_Ev 9 24 [.ref 0, .int la, .int to, .int be, .int sc, .int fr, .int tt, .int fe] (hk M T cs) ((some v, hk M2 T2 cs2)) := by
  have hq9 : ∃ z, (fun r9 => ∃ (v : Value), ∃ (M2 : mH), ∃ (T2 : Nat → mT), ∃ (cs2 : Nat → Nat → Int32), ∃ (io2 : Nat → Int32), ∃ (sg2 : Nat → Nat → Int32), (mm_Ev 30 194 [.ref 100, .int la, .int to, .int be, .int sc, .int fr, .int tt, .int fe] (rf_mk (hk M2 T2 cs2) io sg) (some v, rf_mk (hk M2 T2 cs2) io2 sg2) ∧ (M2.2.2 = M.2.2 ∧ M2.1 ≤ M.1 + 20 ∧ M2.2.1 ≤ M.2.1 + 1000) ∧ ∃ (e2 : Nat → Nat) (D2 : Nat → Nat → Nat) (nh2 nx2 ns2 nf2 ny2 tp2 : Nat) (cm2 : Nat → Nat) (w2 : Nat → Nat → Nat) (cn2 : Nat → Nat) (wc2 : Nat → Nat → Nat), CV M2 T2 cs2 io2 sg2 e2 D2 nh2 nx2 ns2 nf2 ny2 tp2 cm2 w2 cn2 wc2 ∧ (e2 3 = 11 ∨ e2 3 = 13)) ∧ r9 = ((some v, hk M2 T2 cs2))) z ∧ mm_Ev 9 24 [.ref 0, .int la, .int to, .int be, .int sc, .int fr, .int tt, .int fe] (hk M T cs) z := by
    obtain ⟨⟨hM, hMs, hW⟩, hC, hT, hR, hJ⟩ := id hV
    obtain ⟨hF, ⟨hL0, hL1, hL2⟩, hSc, hAg, hSt⟩ := id hC
    obtain ⟨⟨⟨h3, hnh⟩, ⟨h4, hnx⟩, ⟨h5, hns⟩, ⟨h7, hnf⟩, ⟨h6, hny⟩, ⟨h23, htp⟩⟩, hRa, hRb, hRs, hRs2, hRs3, hRx, hCD, hRt, hRt2, hRf⟩ := id hR
    refine r_evQ (by decide +kernel) (show (8 : Nat) ≤ mm_nL 24 by decide +kernel) ?_
    show mm_Ru 8 (0, 10, false, prog_1_method_5_code, some .int) 0 [(0, .ref 0), (1, .int la), (2, .int to), (3, .int be), (4, .int sc), (5, .int fr), (6, .int tt), (7, .int fe)] [] (hk M T cs) (fun r9 => ∃ (v : Value), ∃ (M2 : mH), ∃ (T2 : Nat → mT), ∃ (cs2 : Nat → Nat → Int32), ∃ (io2 : Nat → Int32), ∃ (sg2 : Nat → Nat → Int32), (mm_Ev 30 194 [.ref 100, .int la, .int to, .int be, .int sc, .int fr, .int tt, .int fe] (rf_mk (hk M2 T2 cs2) io sg) (some v, rf_mk (hk M2 T2 cs2) io2 sg2) ∧ (M2.2.2 = M.2.2 ∧ M2.1 ≤ M.1 + 20 ∧ M2.2.1 ≤ M.2.1 + 1000) ∧ ∃ (e2 : Nat → Nat) (D2 : Nat → Nat → Nat) (nh2 nx2 ns2 nf2 ny2 tp2 : Nat) (cm2 : Nat → Nat) (w2 : Nat → Nat → Nat) (cn2 : Nat → Nat) (wc2 : Nat → Nat → Nat), CV M2 T2 cs2 io2 sg2 e2 D2 nh2 nx2 ns2 nf2 ny2 tp2 cm2 w2 cn2 wc2 ∧ (e2 3 = 11 ∨ e2 3 = 13)) ∧ r9 = ((some v, hk M2 T2 cs2)))
    refine r_iload_n rfl dc_1_5_0 ?_
    refine r_iconst (v := nI 0) (by decide) dc_1_5_1 ?_
    refine r_iconst (v := nI 3) (by decide) dc_1_5_2 ?_
    by_cases h_3 : nI 0 ≤ la ∧ la ≤ nI 3
    · skip
      obtain ⟨n_3, hn_3, e_3⟩ := g_nat2 h_3 (by omega) (by omega)
      subst e_3
      refine h_callS (as := [.int (nI n_3), .int (nI 0), .int (nI 3)]) (rest := []) (v := .int (nI 1)) rfl rfl iv_0_s84 (Or.inl rfl) na_0_13 rfl (show (0 : Nat) ≤ 8 by decide) dc_1_5_3 (mm_Ev_up (by decide : 1 ≤ 8) (by have h9 := k_in (hk M T cs) (nI n_3) (nI 0) (nI 3); rw [show sp_in (nI n_3) (nI 0) (nI 3) = nI 1 from sp_in_ok (by omega) (by omega) (by omega)] at h9; exact h9)) ?_
      refine r_ifeq (t := 42) (by decide) dc_1_5_6 (fun c_6 => ?_) (fun c_6 => ?_)
      · exact absurd c_6 (by decide)
      · skip
        refine r_iload_n rfl dc_1_5_9 ?_
        refine r_iconst (v := nI 0) (by decide) dc_1_5_10 ?_
        refine r_iconst (v := nI 3) (by decide) dc_1_5_11 ?_
        by_cases h_12 : nI 0 ≤ to ∧ to ≤ nI 3
        · skip
          obtain ⟨n_12, hn_12, e_12⟩ := g_nat2 h_12 (by omega) (by omega)
          subst e_12
          refine h_callS (as := [.int (nI n_12), .int (nI 0), .int (nI 3)]) (rest := []) (v := .int (nI 1)) rfl rfl iv_0_s84 (Or.inl rfl) na_0_13 rfl (show (0 : Nat) ≤ 8 by decide) dc_1_5_12 (mm_Ev_up (by decide : 1 ≤ 8) (by have h9 := k_in (hk M T cs) (nI n_12) (nI 0) (nI 3); rw [show sp_in (nI n_12) (nI 0) (nI 3) = nI 1 from sp_in_ok (by omega) (by omega) (by omega)] at h9; exact h9)) ?_
          refine r_ifeq (t := 42) (by decide) dc_1_5_15 (fun c_15 => ?_) (fun c_15 => ?_)
          · exact absurd c_15 (by decide)
          · skip
            refine r_iload_n rfl dc_1_5_18 ?_
            refine r_iconst (v := nI 0) (by decide) dc_1_5_19 ?_
            refine r_bipush (v := nI 9) (by decide) dc_1_5_20 ?_
            by_cases h_22 : nI 0 ≤ be ∧ be ≤ nI 9
            · skip
              obtain ⟨n_22, hn_22, e_22⟩ := g_nat2 h_22 (by omega) (by omega)
              subst e_22
              refine h_callS (as := [.int (nI n_22), .int (nI 0), .int (nI 9)]) (rest := []) (v := .int (nI 1)) rfl rfl iv_0_s84 (Or.inl rfl) na_0_13 rfl (show (0 : Nat) ≤ 8 by decide) dc_1_5_22 (mm_Ev_up (by decide : 1 ≤ 8) (by have h9 := k_in (hk M T cs) (nI n_22) (nI 0) (nI 9); rw [show sp_in (nI n_22) (nI 0) (nI 9) = nI 1 from sp_in_ok (by omega) (by omega) (by omega)] at h9; exact h9)) ?_
              refine r_ifeq (t := 42) (by decide) dc_1_5_25 (fun c_25 => ?_) (fun c_25 => ?_)
              · exact absurd c_25 (by decide)
              · skip
                refine r_iload rfl dc_1_5_28 ?_
                refine r_iconst (v := nI 0) (by decide) dc_1_5_30 ?_
                refine r_iconst (v := nI 3) (by decide) dc_1_5_31 ?_
                by_cases h_32 : nI 0 ≤ sc ∧ sc ≤ nI 3
                · skip
                  obtain ⟨n_32, hn_32, e_32⟩ := g_nat2 h_32 (by omega) (by omega)
                  subst e_32
                  refine h_callS (as := [.int (nI n_32), .int (nI 0), .int (nI 3)]) (rest := []) (v := .int (nI 1)) rfl rfl iv_0_s84 (Or.inl rfl) na_0_13 rfl (show (0 : Nat) ≤ 8 by decide) dc_1_5_32 (mm_Ev_up (by decide : 1 ≤ 8) (by have h9 := k_in (hk M T cs) (nI n_32) (nI 0) (nI 3); rw [show sp_in (nI n_32) (nI 0) (nI 3) = nI 1 from sp_in_ok (by omega) (by omega) (by omega)] at h9; exact h9)) ?_
                  refine r_ifeq (t := 42) (by decide) dc_1_5_35 (fun c_35 => ?_) (fun c_35 => ?_)
                  · exact absurd c_35 (by decide)
                  · skip
                    refine r_iconst (v := nI 1) (by decide) dc_1_5_38 ?_
                    refine r_goto (t := 43) (by decide) dc_1_5_39 ?_
                    refine r_istore (ls' := [(8, .int (nI 1)), (0, .ref 0), (1, .int (nI n_3)), (2, .int (nI n_12)), (3, .int (nI n_22)), (4, .int (nI n_32)), (5, .int fr), (6, .int tt), (7, .int fe)]) (by decide) rfl dc_1_5_43 ?_
                    refine r_iload rfl dc_1_5_45 ?_
                    by_cases h_47 : nI 0 ≤ fr ∧ fr ≤ nI 359
                    · skip
                      obtain ⟨n_47, hn_47, e_47⟩ := g_nat2 h_47 (by omega) (by omega)
                      subst e_47
                      refine h_callS (as := [.int (nI n_47)]) (rest := []) (v := .int (nI 1)) rfl rfl iv_0_s108 (Or.inl rfl) na_0_25 rfl (show (0 : Nat) ≤ 8 by decide) dc_1_5_47 (mm_Ev_up (by decide : 2 ≤ 8) (by have h9 := k_isDay (hk M T cs) (nI n_47); rw [show sp_in (nI n_47) (nI 0) (nI 359) = nI 1 from sp_in_ok (by omega) (by omega) (by omega)] at h9; exact h9)) ?_
                      refine r_ifeq (t := 72) (by decide) dc_1_5_50 (fun c_50 => ?_) (fun c_50 => ?_)
                      · exact absurd c_50 (by decide)
                      · skip
                        refine r_iload rfl dc_1_5_53 ?_
                        by_cases h_55 : nI 0 ≤ tt ∧ tt ≤ nI 359
                        · skip
                          obtain ⟨n_55, hn_55, e_55⟩ := g_nat2 h_55 (by omega) (by omega)
                          subst e_55
                          refine h_callS (as := [.int (nI n_55)]) (rest := []) (v := .int (nI 1)) rfl rfl iv_0_s108 (Or.inl rfl) na_0_25 rfl (show (0 : Nat) ≤ 8 by decide) dc_1_5_55 (mm_Ev_up (by decide : 2 ≤ 8) (by have h9 := k_isDay (hk M T cs) (nI n_55); rw [show sp_in (nI n_55) (nI 0) (nI 359) = nI 1 from sp_in_ok (by omega) (by omega) (by omega)] at h9; exact h9)) ?_
                          refine r_ifeq (t := 72) (by decide) dc_1_5_58 (fun c_58 => ?_) (fun c_58 => ?_)
                          · exact absurd c_58 (by decide)
                          · skip
                            refine r_iload rfl dc_1_5_61 ?_
                            refine r_iload rfl dc_1_5_63 ?_
                            refine r_ncge (t := 72) (by omega) (by omega) (by decide) dc_1_5_65 (fun c_65 => ?_) (fun c_65 => ?_)
                            · skip
                              refine r_iconst (v := nI 0) (by decide) dc_1_5_72 ?_
                              refine r_istore (ls' := [(9, .int (nI 0)), (8, .int (nI 1)), (0, .ref 0), (1, .int (nI n_3)), (2, .int (nI n_12)), (3, .int (nI n_22)), (4, .int (nI n_32)), (5, .int (nI n_47)), (6, .int (nI n_55)), (7, .int fe)]) (by decide) rfl dc_1_5_73 ?_
                              refine r_iload rfl dc_1_5_75 ?_
                              refine r_ifeq (t := 110) (by decide) dc_1_5_77 (fun c_77 => ?_) (fun c_77 => ?_)
                              · exact absurd c_77 (by decide)
                              · skip
                                refine r_iload rfl dc_1_5_80 ?_
                                refine r_ifeq (t := 110) (by decide) dc_1_5_82 (fun c_82 => ?_) (fun c_82 => ?_)
                                · skip
                                  refine r_iconst (v := -1) (by decide) dc_1_5_110 ?_
                                  refine r_iret rfl dc_1_5_111 ?_
                                  refine ⟨_, M, T, _, io, sg, ⟨mm_Ev_up (by decide) (c_school_no (hk M T cs) hM io sg _ _ _ _ _ _ _ (fun g => by have y := (nI_ltI (by omega) (by omega)).mp g.2.2.2.2.2.2.1; omega)), ⟨rfl, by omega, by omega⟩, e, D, nh, nx, ns, nf, ny, tp, cm, w, cn, wc, hV, he3⟩, rfl⟩
                                · exact absurd c_82 (by decide)
                            · skip
                              refine r_iconst (v := nI 1) (by decide) dc_1_5_68 ?_
                              refine r_goto (t := 73) (by decide) dc_1_5_69 ?_
                              refine r_istore (ls' := [(9, .int (nI 1)), (8, .int (nI 1)), (0, .ref 0), (1, .int (nI n_3)), (2, .int (nI n_12)), (3, .int (nI n_22)), (4, .int (nI n_32)), (5, .int (nI n_47)), (6, .int (nI n_55)), (7, .int fe)]) (by decide) rfl dc_1_5_73 ?_
                              refine r_iload rfl dc_1_5_75 ?_
                              refine r_ifeq (t := 110) (by decide) dc_1_5_77 (fun c_77 => ?_) (fun c_77 => ?_)
                              · exact absurd c_77 (by decide)
                              · skip
                                refine r_iload rfl dc_1_5_80 ?_
                                refine r_ifeq (t := 110) (by decide) dc_1_5_82 (fun c_82 => ?_) (fun c_82 => ?_)
                                · exact absurd c_82 (by decide)
                                · skip
                                  refine r_iload rfl dc_1_5_85 ?_
                                  refine r_iconst (v := nI 0) (by decide) dc_1_5_87 ?_
                                  refine r_ldc (v := nI 99999) nr_0_112 dc_1_5_88 ?_
                                  by_cases h_90 : nI 0 ≤ fe ∧ fe ≤ nI 99999
                                  · skip
                                    obtain ⟨n_90, hn_90, e_90⟩ := g_nat2 h_90 (by omega) (by omega)
                                    subst e_90
                                    refine h_callS (as := [.int (nI n_90), .int (nI 0), .int (nI 99999)]) (rest := []) (v := .int (nI 1)) rfl rfl iv_0_s84 (Or.inl rfl) na_0_13 rfl (show (0 : Nat) ≤ 8 by decide) dc_1_5_90 (mm_Ev_up (by decide : 1 ≤ 8) (by have h9 := k_in (hk M T cs) (nI n_90) (nI 0) (nI 99999); rw [show sp_in (nI n_90) (nI 0) (nI 99999) = nI 1 from sp_in_ok (by omega) (by omega) (by omega)] at h9; exact h9)) ?_
                                    refine r_ifeq (t := 110) (by decide) dc_1_5_93 (fun c_93 => ?_) (fun c_93 => ?_)
                                    · exact absurd c_93 (by decide)
                                    · skip
                                      refine r_aload_n rfl dc_1_5_96 ?_
                                      refine h_get (t := cT e 0) (v := .ref 25) fx_0_61 ((hF 0 (by decide))) ⟨by omega, by omega⟩ (rfl) dc_1_5_97 ?_
                                      refine h_callv (t := cT e 25) (as := []) (rest := []) (v := .int (nI nh)) (M1 := hk M T cs) rfl rfl iv_0_f113 (Or.inr (Or.inr rfl)) na_6_26 ((hF 25 (by decide))) ⟨by omega, by omega⟩ (show (6 : Nat) < 14 by decide) o_26 rfl (show (0 : Nat) ≤ 8 by decide) dc_1_5_100 (mm_Ev_up (by decide : 1 ≤ 8) (k_sizeL hV.2.1.2.1.1)) ?_
                                      refine r_bipush (v := nI 8) (by decide) dc_1_5_105 ?_
                                      refine r_nclt (t := 112) (by omega) (by omega) (by decide) dc_1_5_107 (fun c_107 => ?_) (fun c_107 => ?_)
                                      · skip
                                        refine r_aload_n rfl dc_1_5_112 ?_
                                        refine h_get (t := cT e 0) (v := .ref 25) fx_0_61 ((hF 0 (by decide))) ⟨by omega, by omega⟩ (rfl) dc_1_5_113 ?_
                                        refine h_new (c := 9) (nf := 7) kr_0_119 (by show M.1 < 1000000; omega) (by show ¬ (100 ≤ M.1 ∧ M.1 < 157); omega) (mk_n9) (by decide +kernel) dc_1_5_116 ?_
                                        show mm_Ru 8 (0, 10, false, prog_1_method_5_code, some .int) 119 [(9, .int (nI 1)), (8, .int (nI 1)), (0, .ref 0), (1, .int (nI n_3)), (2, .int (nI n_12)), (3, .int (nI n_22)), (4, .int (nI n_32)), (5, .int (nI n_47)), (6, .int (nI n_55)), (7, .int (nI n_90))] [.ref M.1, .ref 25] (hk (mnew M 7) (va_up T M.1 ((9, 0, fun _ => none))) (wA cs M.1 (fun _ => 0))) (fun r9 => ∃ (v : Value), ∃ (M2 : mH), ∃ (T2 : Nat → mT), ∃ (cs2 : Nat → Nat → Int32), ∃ (io2 : Nat → Int32), ∃ (sg2 : Nat → Nat → Int32), (mm_Ev 30 194 [.ref 100, .int (nI n_3), .int (nI n_12), .int (nI n_22), .int (nI n_32), .int (nI n_47), .int (nI n_55), .int (nI n_90)] (rf_mk (hk M2 T2 cs2) io sg) (some v, rf_mk (hk M2 T2 cs2) io2 sg2) ∧ (M2.2.2 = M.2.2 ∧ M2.1 ≤ M.1 + 20 ∧ M2.2.1 ≤ M.2.1 + 1000) ∧ ∃ (e2 : Nat → Nat) (D2 : Nat → Nat → Nat) (nh2 nx2 ns2 nf2 ny2 tp2 : Nat) (cm2 : Nat → Nat) (w2 : Nat → Nat → Nat) (cn2 : Nat → Nat) (wc2 : Nat → Nat → Nat), CV M2 T2 cs2 io2 sg2 e2 D2 nh2 nx2 ns2 nf2 ny2 tp2 cm2 w2 cn2 wc2 ∧ (e2 3 = 11 ∨ e2 3 = 13)) ∧ r9 = ((some v, hk M2 T2 cs2)))
                                        refine r_dup rfl dc_1_5_119 ?_
                                        refine r_iload_n rfl dc_1_5_120 ?_
                                        refine r_iload_n rfl dc_1_5_121 ?_
                                        refine r_iload_n rfl dc_1_5_122 ?_
                                        refine r_iload rfl dc_1_5_123 ?_
                                        refine r_iload rfl dc_1_5_125 ?_
                                        refine r_iload rfl dc_1_5_127 ?_
                                        obtain ⟨M1, T1, cs1, ⟨⟨g1, g2, g3⟩, hT1, hc1, hnew⟩, hev1⟩ := nw_school hM hM8 T cs (nI n_3) (nI n_12) (nI n_22) (nI n_47) (nI n_55) (nI n_90)
                                        refine h_callI (as := [.int (nI n_3), .int (nI n_12), .int (nI n_22), .int (nI n_47), .int (nI n_55), .int (nI n_90)]) (rest := [.ref M.1, .ref 25]) (M1 := hk M1 T1 cs1) rfl rfl iv_0_i121 (Or.inl rfl) na_2_27 rfl (show (2 : Nat) ≤ 8 by decide) dc_1_5_129 (mm_Ev_up (by decide : 4 ≤ 8) (hev1)) ?_
                                        have hee : 157 ≤ e 0 ∧ e 0 < M.1 ∨ e 0 = 1000000 := hL0.2.2.2.2.elim (fun y => Or.inr y.2) (fun ⟨y, c, r, y1, y2, y3⟩ => Or.inl ⟨by rw [← hJ.1 0 (by decide)]; exact DJ_lo hJ (dvl_10 (by decide) y), y2.1⟩)
                                        have hLx : LsR M1 T1 cs1 25 (e 0) nh (D 0) := LsR_x hL0 (by omega) (hT1 25 (by omega)) (fun h0 => hT1 (e 0) (by rcases hL0.2.2.2.2 with y | ⟨y, c, r, y1, y2, y3⟩; exact absurd y.1 (by omega); exact y2.1)) (hc1 25 (by omega))
                                        have hel : ∀ i, i < nh → inC M1 (D 0 i) ∧ (T1 (D 0 i)).1 < 14 := fun i hi => ⟨inC_x (hSc i hi).2.1 (by omega), by rw [hT1 _ (hSc i hi).2.1.1, (hSc i hi).1]; exact (by decide : 9 < 14)⟩
                                        have h14n : (T1 M.1).1 < 14 := by rw [hnew.1]; exact (by decide : 9 < 14)
                                        obtain ⟨M2, T2, cs2, ed2, hA, hev2⟩ := k_addL M1 (by omega) (by omega) T1 cs1 25 (e 0) nh (D 0) hLx (by omega) hel (by omega) (by rw [g3]; exact hE) M.1 ⟨by omega, by omega⟩ h14n (by omega)
                                        have hs2 := hA.2.2.2.1
                                        have hed2 := hA.1
                                        have hsl := hA.2.1
                                        refine h_callv (t := (6, 0, rl [(0, e 0)])) (as := [.ref M.1]) (rest := []) (v := .int (nI 1)) (M1 := hk M2 T2 cs2) rfl rfl iv_0_f124 (Or.inr (Or.inr rfl)) na_6_28 (((hT1 25 (by omega)).trans (hF 25 (by decide)))) ⟨by omega, by omega⟩ (show (6 : Nat) < 14 by decide) o_28 rfl (show (0 : Nat) ≤ 8 by decide) dc_1_5_132 (mm_Ev_up (by decide : 7 ≤ 8) (hev2)) ?_
                                        refine r_pop rfl dc_1_5_137 ?_
                                        refine r_aload_n rfl dc_1_5_138 ?_
                                        refine h_get (t := cT e 0) (v := .ref 25) fx_0_61 (((hA.2.2.2.2.1 0 (by omega) (by decide) (by omega)).trans ((hT1 0 (by omega)).trans (hF 0 (by decide))))) ⟨by omega, by omega⟩ (rfl) dc_1_5_139 ?_
                                        refine h_callv (t := (6, 0, rl [(0, ed2)])) (as := []) (rest := []) (v := .int (nI (nh + 1))) (M1 := hk M2 T2 cs2) rfl rfl iv_0_f113 (Or.inr (Or.inr rfl)) na_6_26 hs2.1 hs2.2.1 (show (6 : Nat) < 14 by decide) o_26 rfl (show (0 : Nat) ≤ 8 by decide) dc_1_5_142 (mm_Ev_up (by decide : 1 ≤ 8) (k_sizeL hs2)) ?_
                                        refine r_iconst (v := nI 1) (by decide) dc_1_5_147 ?_
                                        refine r_isub (v := nI nh) ((nI_sb (by omega)).trans (congrArg nI (by omega))) dc_1_5_148 ?_
                                        refine r_iret rfl dc_1_5_149 ?_
                                        obtain ⟨e2, D2, hV2, he2⟩ := CV_school (d := n_32) hV g1 (by omega) g3 hT1 hc1 hA (by omega) (by omega) (by omega) (by omega) (by omega) (by omega) (by omega) hnew.1 hnew.2.1 hnew.2.2.1 hnew.2.2.2
                                        refine ⟨_, M2, T2, cs2, _, _, ⟨mm_Ev_up (by decide) (c_school_ok (hk M2 T2 cs2) hV2.1.1 io sg nh h3 hnh (by omega) n_3 n_12 n_22 n_32 n_47 n_55 n_90 (by omega) (by omega) (by omega) (by omega) (by omega) (by omega) (by omega)), ⟨hA.2.2.1.trans g3, by omega, by omega⟩, e2, D2, _, _, _, _, _, _, _, _, _, _, hV2, by rw [he2]; exact he3⟩, rfl⟩
                                      · skip
                                        refine r_iconst (v := -1) (by decide) dc_1_5_110 ?_
                                        refine r_iret rfl dc_1_5_111 ?_
                                        refine ⟨_, M, T, _, io, sg, ⟨mm_Ev_up (by decide) (c_school_no (hk M T cs) hM io sg _ _ _ _ _ _ _ (fun g => g.2.2.2.2.2.2.2.2 (by rw [h3, show nh = 8 by omega]))), ⟨rfl, by omega, by omega⟩, e, D, nh, nx, ns, nf, ny, tp, cm, w, cn, wc, hV, he3⟩, rfl⟩
                                  · skip
                                    refine h_callS (as := [.int fe, .int (nI 0), .int (nI 99999)]) (rest := []) (v := .int (nI 0)) rfl rfl iv_0_s84 (Or.inl rfl) na_0_13 rfl (show (0 : Nat) ≤ 8 by decide) dc_1_5_90 (mm_Ev_up (by decide : 1 ≤ 8) (by have h9 := k_in (hk M T cs) fe (nI 0) (nI 99999); rw [show sp_in fe (nI 0) (nI 99999) = nI 0 from if_neg h_90] at h9; exact h9)) ?_
                                    refine r_ifeq (t := 110) (by decide) dc_1_5_93 (fun c_93 => ?_) (fun c_93 => ?_)
                                    · skip
                                      refine r_iconst (v := -1) (by decide) dc_1_5_110 ?_
                                      refine r_iret rfl dc_1_5_111 ?_
                                      refine ⟨_, M, T, _, io, sg, ⟨mm_Ev_up (by decide) (c_school_no (hk M T cs) hM io sg _ _ _ _ _ _ _ (fun g => h_90 g.2.2.2.2.2.2.2.1)), ⟨rfl, by omega, by omega⟩, e, D, nh, nx, ns, nf, ny, tp, cm, w, cn, wc, hV, he3⟩, rfl⟩
                                    · exact absurd c_93 (by decide)
                        · skip
                          refine h_callS (as := [.int tt]) (rest := []) (v := .int (nI 0)) rfl rfl iv_0_s108 (Or.inl rfl) na_0_25 rfl (show (0 : Nat) ≤ 8 by decide) dc_1_5_55 (mm_Ev_up (by decide : 2 ≤ 8) (by have h9 := k_isDay (hk M T cs) tt; rw [show sp_in tt (nI 0) (nI 359) = nI 0 from if_neg h_55] at h9; exact h9)) ?_
                          refine r_ifeq (t := 72) (by decide) dc_1_5_58 (fun c_58 => ?_) (fun c_58 => ?_)
                          · skip
                            refine r_iconst (v := nI 0) (by decide) dc_1_5_72 ?_
                            refine r_istore (ls' := [(9, .int (nI 0)), (8, .int (nI 1)), (0, .ref 0), (1, .int (nI n_3)), (2, .int (nI n_12)), (3, .int (nI n_22)), (4, .int (nI n_32)), (5, .int (nI n_47)), (6, .int tt), (7, .int fe)]) (by decide) rfl dc_1_5_73 ?_
                            refine r_iload rfl dc_1_5_75 ?_
                            refine r_ifeq (t := 110) (by decide) dc_1_5_77 (fun c_77 => ?_) (fun c_77 => ?_)
                            · exact absurd c_77 (by decide)
                            · skip
                              refine r_iload rfl dc_1_5_80 ?_
                              refine r_ifeq (t := 110) (by decide) dc_1_5_82 (fun c_82 => ?_) (fun c_82 => ?_)
                              · skip
                                refine r_iconst (v := -1) (by decide) dc_1_5_110 ?_
                                refine r_iret rfl dc_1_5_111 ?_
                                refine ⟨_, M, T, _, io, sg, ⟨mm_Ev_up (by decide) (c_school_no (hk M T cs) hM io sg _ _ _ _ _ _ _ (fun g => h_55 g.2.2.2.2.2.1)), ⟨rfl, by omega, by omega⟩, e, D, nh, nx, ns, nf, ny, tp, cm, w, cn, wc, hV, he3⟩, rfl⟩
                              · exact absurd c_82 (by decide)
                          · exact absurd c_58 (by decide)
                    · skip
                      refine h_callS (as := [.int fr]) (rest := []) (v := .int (nI 0)) rfl rfl iv_0_s108 (Or.inl rfl) na_0_25 rfl (show (0 : Nat) ≤ 8 by decide) dc_1_5_47 (mm_Ev_up (by decide : 2 ≤ 8) (by have h9 := k_isDay (hk M T cs) fr; rw [show sp_in fr (nI 0) (nI 359) = nI 0 from if_neg h_47] at h9; exact h9)) ?_
                      refine r_ifeq (t := 72) (by decide) dc_1_5_50 (fun c_50 => ?_) (fun c_50 => ?_)
                      · skip
                        refine r_iconst (v := nI 0) (by decide) dc_1_5_72 ?_
                        refine r_istore (ls' := [(9, .int (nI 0)), (8, .int (nI 1)), (0, .ref 0), (1, .int (nI n_3)), (2, .int (nI n_12)), (3, .int (nI n_22)), (4, .int (nI n_32)), (5, .int fr), (6, .int tt), (7, .int fe)]) (by decide) rfl dc_1_5_73 ?_
                        refine r_iload rfl dc_1_5_75 ?_
                        refine r_ifeq (t := 110) (by decide) dc_1_5_77 (fun c_77 => ?_) (fun c_77 => ?_)
                        · exact absurd c_77 (by decide)
                        · skip
                          refine r_iload rfl dc_1_5_80 ?_
                          refine r_ifeq (t := 110) (by decide) dc_1_5_82 (fun c_82 => ?_) (fun c_82 => ?_)
                          · skip
                            refine r_iconst (v := -1) (by decide) dc_1_5_110 ?_
                            refine r_iret rfl dc_1_5_111 ?_
                            refine ⟨_, M, T, _, io, sg, ⟨mm_Ev_up (by decide) (c_school_no (hk M T cs) hM io sg _ _ _ _ _ _ _ (fun g => h_47 g.2.2.2.2.1)), ⟨rfl, by omega, by omega⟩, e, D, nh, nx, ns, nf, ny, tp, cm, w, cn, wc, hV, he3⟩, rfl⟩
                          · exact absurd c_82 (by decide)
                      · exact absurd c_50 (by decide)
                · skip
                  refine h_callS (as := [.int sc, .int (nI 0), .int (nI 3)]) (rest := []) (v := .int (nI 0)) rfl rfl iv_0_s84 (Or.inl rfl) na_0_13 rfl (show (0 : Nat) ≤ 8 by decide) dc_1_5_32 (mm_Ev_up (by decide : 1 ≤ 8) (by have h9 := k_in (hk M T cs) sc (nI 0) (nI 3); rw [show sp_in sc (nI 0) (nI 3) = nI 0 from if_neg h_32] at h9; exact h9)) ?_
                  refine r_ifeq (t := 42) (by decide) dc_1_5_35 (fun c_35 => ?_) (fun c_35 => ?_)
                  · skip
                    refine r_iconst (v := nI 0) (by decide) dc_1_5_42 ?_
                    refine r_istore (ls' := [(8, .int (nI 0)), (0, .ref 0), (1, .int (nI n_3)), (2, .int (nI n_12)), (3, .int (nI n_22)), (4, .int sc), (5, .int fr), (6, .int tt), (7, .int fe)]) (by decide) rfl dc_1_5_43 ?_
                    refine r_iload rfl dc_1_5_45 ?_
                    by_cases h_47 : nI 0 ≤ fr ∧ fr ≤ nI 359
                    · skip
                      obtain ⟨n_47, hn_47, e_47⟩ := g_nat2 h_47 (by omega) (by omega)
                      subst e_47
                      refine h_callS (as := [.int (nI n_47)]) (rest := []) (v := .int (nI 1)) rfl rfl iv_0_s108 (Or.inl rfl) na_0_25 rfl (show (0 : Nat) ≤ 8 by decide) dc_1_5_47 (mm_Ev_up (by decide : 2 ≤ 8) (by have h9 := k_isDay (hk M T cs) (nI n_47); rw [show sp_in (nI n_47) (nI 0) (nI 359) = nI 1 from sp_in_ok (by omega) (by omega) (by omega)] at h9; exact h9)) ?_
                      refine r_ifeq (t := 72) (by decide) dc_1_5_50 (fun c_50 => ?_) (fun c_50 => ?_)
                      · exact absurd c_50 (by decide)
                      · skip
                        refine r_iload rfl dc_1_5_53 ?_
                        by_cases h_55 : nI 0 ≤ tt ∧ tt ≤ nI 359
                        · skip
                          obtain ⟨n_55, hn_55, e_55⟩ := g_nat2 h_55 (by omega) (by omega)
                          subst e_55
                          refine h_callS (as := [.int (nI n_55)]) (rest := []) (v := .int (nI 1)) rfl rfl iv_0_s108 (Or.inl rfl) na_0_25 rfl (show (0 : Nat) ≤ 8 by decide) dc_1_5_55 (mm_Ev_up (by decide : 2 ≤ 8) (by have h9 := k_isDay (hk M T cs) (nI n_55); rw [show sp_in (nI n_55) (nI 0) (nI 359) = nI 1 from sp_in_ok (by omega) (by omega) (by omega)] at h9; exact h9)) ?_
                          refine r_ifeq (t := 72) (by decide) dc_1_5_58 (fun c_58 => ?_) (fun c_58 => ?_)
                          · exact absurd c_58 (by decide)
                          · skip
                            refine r_iload rfl dc_1_5_61 ?_
                            refine r_iload rfl dc_1_5_63 ?_
                            refine r_ncge (t := 72) (by omega) (by omega) (by decide) dc_1_5_65 (fun c_65 => ?_) (fun c_65 => ?_)
                            · skip
                              refine r_iconst (v := nI 0) (by decide) dc_1_5_72 ?_
                              refine r_istore (ls' := [(9, .int (nI 0)), (8, .int (nI 0)), (0, .ref 0), (1, .int (nI n_3)), (2, .int (nI n_12)), (3, .int (nI n_22)), (4, .int sc), (5, .int (nI n_47)), (6, .int (nI n_55)), (7, .int fe)]) (by decide) rfl dc_1_5_73 ?_
                              refine r_iload rfl dc_1_5_75 ?_
                              refine r_ifeq (t := 110) (by decide) dc_1_5_77 (fun c_77 => ?_) (fun c_77 => ?_)
                              · skip
                                refine r_iconst (v := -1) (by decide) dc_1_5_110 ?_
                                refine r_iret rfl dc_1_5_111 ?_
                                refine ⟨_, M, T, _, io, sg, ⟨mm_Ev_up (by decide) (c_school_no (hk M T cs) hM io sg _ _ _ _ _ _ _ (fun g => h_32 g.2.2.2.1)), ⟨rfl, by omega, by omega⟩, e, D, nh, nx, ns, nf, ny, tp, cm, w, cn, wc, hV, he3⟩, rfl⟩
                              · exact absurd c_77 (by decide)
                            · skip
                              refine r_iconst (v := nI 1) (by decide) dc_1_5_68 ?_
                              refine r_goto (t := 73) (by decide) dc_1_5_69 ?_
                              refine r_istore (ls' := [(9, .int (nI 1)), (8, .int (nI 0)), (0, .ref 0), (1, .int (nI n_3)), (2, .int (nI n_12)), (3, .int (nI n_22)), (4, .int sc), (5, .int (nI n_47)), (6, .int (nI n_55)), (7, .int fe)]) (by decide) rfl dc_1_5_73 ?_
                              refine r_iload rfl dc_1_5_75 ?_
                              refine r_ifeq (t := 110) (by decide) dc_1_5_77 (fun c_77 => ?_) (fun c_77 => ?_)
                              · skip
                                refine r_iconst (v := -1) (by decide) dc_1_5_110 ?_
                                refine r_iret rfl dc_1_5_111 ?_
                                refine ⟨_, M, T, _, io, sg, ⟨mm_Ev_up (by decide) (c_school_no (hk M T cs) hM io sg _ _ _ _ _ _ _ (fun g => h_32 g.2.2.2.1)), ⟨rfl, by omega, by omega⟩, e, D, nh, nx, ns, nf, ny, tp, cm, w, cn, wc, hV, he3⟩, rfl⟩
                              · exact absurd c_77 (by decide)
                        · skip
                          refine h_callS (as := [.int tt]) (rest := []) (v := .int (nI 0)) rfl rfl iv_0_s108 (Or.inl rfl) na_0_25 rfl (show (0 : Nat) ≤ 8 by decide) dc_1_5_55 (mm_Ev_up (by decide : 2 ≤ 8) (by have h9 := k_isDay (hk M T cs) tt; rw [show sp_in tt (nI 0) (nI 359) = nI 0 from if_neg h_55] at h9; exact h9)) ?_
                          refine r_ifeq (t := 72) (by decide) dc_1_5_58 (fun c_58 => ?_) (fun c_58 => ?_)
                          · skip
                            refine r_iconst (v := nI 0) (by decide) dc_1_5_72 ?_
                            refine r_istore (ls' := [(9, .int (nI 0)), (8, .int (nI 0)), (0, .ref 0), (1, .int (nI n_3)), (2, .int (nI n_12)), (3, .int (nI n_22)), (4, .int sc), (5, .int (nI n_47)), (6, .int tt), (7, .int fe)]) (by decide) rfl dc_1_5_73 ?_
                            refine r_iload rfl dc_1_5_75 ?_
                            refine r_ifeq (t := 110) (by decide) dc_1_5_77 (fun c_77 => ?_) (fun c_77 => ?_)
                            · skip
                              refine r_iconst (v := -1) (by decide) dc_1_5_110 ?_
                              refine r_iret rfl dc_1_5_111 ?_
                              refine ⟨_, M, T, _, io, sg, ⟨mm_Ev_up (by decide) (c_school_no (hk M T cs) hM io sg _ _ _ _ _ _ _ (fun g => h_32 g.2.2.2.1)), ⟨rfl, by omega, by omega⟩, e, D, nh, nx, ns, nf, ny, tp, cm, w, cn, wc, hV, he3⟩, rfl⟩
                            · exact absurd c_77 (by decide)
                          · exact absurd c_58 (by decide)
                    · skip
                      refine h_callS (as := [.int fr]) (rest := []) (v := .int (nI 0)) rfl rfl iv_0_s108 (Or.inl rfl) na_0_25 rfl (show (0 : Nat) ≤ 8 by decide) dc_1_5_47 (mm_Ev_up (by decide : 2 ≤ 8) (by have h9 := k_isDay (hk M T cs) fr; rw [show sp_in fr (nI 0) (nI 359) = nI 0 from if_neg h_47] at h9; exact h9)) ?_
                      refine r_ifeq (t := 72) (by decide) dc_1_5_50 (fun c_50 => ?_) (fun c_50 => ?_)
                      · skip
                        refine r_iconst (v := nI 0) (by decide) dc_1_5_72 ?_
                        refine r_istore (ls' := [(9, .int (nI 0)), (8, .int (nI 0)), (0, .ref 0), (1, .int (nI n_3)), (2, .int (nI n_12)), (3, .int (nI n_22)), (4, .int sc), (5, .int fr), (6, .int tt), (7, .int fe)]) (by decide) rfl dc_1_5_73 ?_
                        refine r_iload rfl dc_1_5_75 ?_
                        refine r_ifeq (t := 110) (by decide) dc_1_5_77 (fun c_77 => ?_) (fun c_77 => ?_)
                        · skip
                          refine r_iconst (v := -1) (by decide) dc_1_5_110 ?_
                          refine r_iret rfl dc_1_5_111 ?_
                          refine ⟨_, M, T, _, io, sg, ⟨mm_Ev_up (by decide) (c_school_no (hk M T cs) hM io sg _ _ _ _ _ _ _ (fun g => h_32 g.2.2.2.1)), ⟨rfl, by omega, by omega⟩, e, D, nh, nx, ns, nf, ny, tp, cm, w, cn, wc, hV, he3⟩, rfl⟩
                        · exact absurd c_77 (by decide)
                      · exact absurd c_50 (by decide)
                  · exact absurd c_35 (by decide)
            · skip
              refine h_callS (as := [.int be, .int (nI 0), .int (nI 9)]) (rest := []) (v := .int (nI 0)) rfl rfl iv_0_s84 (Or.inl rfl) na_0_13 rfl (show (0 : Nat) ≤ 8 by decide) dc_1_5_22 (mm_Ev_up (by decide : 1 ≤ 8) (by have h9 := k_in (hk M T cs) be (nI 0) (nI 9); rw [show sp_in be (nI 0) (nI 9) = nI 0 from if_neg h_22] at h9; exact h9)) ?_
              refine r_ifeq (t := 42) (by decide) dc_1_5_25 (fun c_25 => ?_) (fun c_25 => ?_)
              · skip
                refine r_iconst (v := nI 0) (by decide) dc_1_5_42 ?_
                refine r_istore (ls' := [(8, .int (nI 0)), (0, .ref 0), (1, .int (nI n_3)), (2, .int (nI n_12)), (3, .int be), (4, .int sc), (5, .int fr), (6, .int tt), (7, .int fe)]) (by decide) rfl dc_1_5_43 ?_
                refine r_iload rfl dc_1_5_45 ?_
                by_cases h_47 : nI 0 ≤ fr ∧ fr ≤ nI 359
                · skip
                  obtain ⟨n_47, hn_47, e_47⟩ := g_nat2 h_47 (by omega) (by omega)
                  subst e_47
                  refine h_callS (as := [.int (nI n_47)]) (rest := []) (v := .int (nI 1)) rfl rfl iv_0_s108 (Or.inl rfl) na_0_25 rfl (show (0 : Nat) ≤ 8 by decide) dc_1_5_47 (mm_Ev_up (by decide : 2 ≤ 8) (by have h9 := k_isDay (hk M T cs) (nI n_47); rw [show sp_in (nI n_47) (nI 0) (nI 359) = nI 1 from sp_in_ok (by omega) (by omega) (by omega)] at h9; exact h9)) ?_
                  refine r_ifeq (t := 72) (by decide) dc_1_5_50 (fun c_50 => ?_) (fun c_50 => ?_)
                  · exact absurd c_50 (by decide)
                  · skip
                    refine r_iload rfl dc_1_5_53 ?_
                    by_cases h_55 : nI 0 ≤ tt ∧ tt ≤ nI 359
                    · skip
                      obtain ⟨n_55, hn_55, e_55⟩ := g_nat2 h_55 (by omega) (by omega)
                      subst e_55
                      refine h_callS (as := [.int (nI n_55)]) (rest := []) (v := .int (nI 1)) rfl rfl iv_0_s108 (Or.inl rfl) na_0_25 rfl (show (0 : Nat) ≤ 8 by decide) dc_1_5_55 (mm_Ev_up (by decide : 2 ≤ 8) (by have h9 := k_isDay (hk M T cs) (nI n_55); rw [show sp_in (nI n_55) (nI 0) (nI 359) = nI 1 from sp_in_ok (by omega) (by omega) (by omega)] at h9; exact h9)) ?_
                      refine r_ifeq (t := 72) (by decide) dc_1_5_58 (fun c_58 => ?_) (fun c_58 => ?_)
                      · exact absurd c_58 (by decide)
                      · skip
                        refine r_iload rfl dc_1_5_61 ?_
                        refine r_iload rfl dc_1_5_63 ?_
                        refine r_ncge (t := 72) (by omega) (by omega) (by decide) dc_1_5_65 (fun c_65 => ?_) (fun c_65 => ?_)
                        · skip
                          refine r_iconst (v := nI 0) (by decide) dc_1_5_72 ?_
                          refine r_istore (ls' := [(9, .int (nI 0)), (8, .int (nI 0)), (0, .ref 0), (1, .int (nI n_3)), (2, .int (nI n_12)), (3, .int be), (4, .int sc), (5, .int (nI n_47)), (6, .int (nI n_55)), (7, .int fe)]) (by decide) rfl dc_1_5_73 ?_
                          refine r_iload rfl dc_1_5_75 ?_
                          refine r_ifeq (t := 110) (by decide) dc_1_5_77 (fun c_77 => ?_) (fun c_77 => ?_)
                          · skip
                            refine r_iconst (v := -1) (by decide) dc_1_5_110 ?_
                            refine r_iret rfl dc_1_5_111 ?_
                            refine ⟨_, M, T, _, io, sg, ⟨mm_Ev_up (by decide) (c_school_no (hk M T cs) hM io sg _ _ _ _ _ _ _ (fun g => h_22 g.2.2.1)), ⟨rfl, by omega, by omega⟩, e, D, nh, nx, ns, nf, ny, tp, cm, w, cn, wc, hV, he3⟩, rfl⟩
                          · exact absurd c_77 (by decide)
                        · skip
                          refine r_iconst (v := nI 1) (by decide) dc_1_5_68 ?_
                          refine r_goto (t := 73) (by decide) dc_1_5_69 ?_
                          refine r_istore (ls' := [(9, .int (nI 1)), (8, .int (nI 0)), (0, .ref 0), (1, .int (nI n_3)), (2, .int (nI n_12)), (3, .int be), (4, .int sc), (5, .int (nI n_47)), (6, .int (nI n_55)), (7, .int fe)]) (by decide) rfl dc_1_5_73 ?_
                          refine r_iload rfl dc_1_5_75 ?_
                          refine r_ifeq (t := 110) (by decide) dc_1_5_77 (fun c_77 => ?_) (fun c_77 => ?_)
                          · skip
                            refine r_iconst (v := -1) (by decide) dc_1_5_110 ?_
                            refine r_iret rfl dc_1_5_111 ?_
                            refine ⟨_, M, T, _, io, sg, ⟨mm_Ev_up (by decide) (c_school_no (hk M T cs) hM io sg _ _ _ _ _ _ _ (fun g => h_22 g.2.2.1)), ⟨rfl, by omega, by omega⟩, e, D, nh, nx, ns, nf, ny, tp, cm, w, cn, wc, hV, he3⟩, rfl⟩
                          · exact absurd c_77 (by decide)
                    · skip
                      refine h_callS (as := [.int tt]) (rest := []) (v := .int (nI 0)) rfl rfl iv_0_s108 (Or.inl rfl) na_0_25 rfl (show (0 : Nat) ≤ 8 by decide) dc_1_5_55 (mm_Ev_up (by decide : 2 ≤ 8) (by have h9 := k_isDay (hk M T cs) tt; rw [show sp_in tt (nI 0) (nI 359) = nI 0 from if_neg h_55] at h9; exact h9)) ?_
                      refine r_ifeq (t := 72) (by decide) dc_1_5_58 (fun c_58 => ?_) (fun c_58 => ?_)
                      · skip
                        refine r_iconst (v := nI 0) (by decide) dc_1_5_72 ?_
                        refine r_istore (ls' := [(9, .int (nI 0)), (8, .int (nI 0)), (0, .ref 0), (1, .int (nI n_3)), (2, .int (nI n_12)), (3, .int be), (4, .int sc), (5, .int (nI n_47)), (6, .int tt), (7, .int fe)]) (by decide) rfl dc_1_5_73 ?_
                        refine r_iload rfl dc_1_5_75 ?_
                        refine r_ifeq (t := 110) (by decide) dc_1_5_77 (fun c_77 => ?_) (fun c_77 => ?_)
                        · skip
                          refine r_iconst (v := -1) (by decide) dc_1_5_110 ?_
                          refine r_iret rfl dc_1_5_111 ?_
                          refine ⟨_, M, T, _, io, sg, ⟨mm_Ev_up (by decide) (c_school_no (hk M T cs) hM io sg _ _ _ _ _ _ _ (fun g => h_22 g.2.2.1)), ⟨rfl, by omega, by omega⟩, e, D, nh, nx, ns, nf, ny, tp, cm, w, cn, wc, hV, he3⟩, rfl⟩
                        · exact absurd c_77 (by decide)
                      · exact absurd c_58 (by decide)
                · skip
                  refine h_callS (as := [.int fr]) (rest := []) (v := .int (nI 0)) rfl rfl iv_0_s108 (Or.inl rfl) na_0_25 rfl (show (0 : Nat) ≤ 8 by decide) dc_1_5_47 (mm_Ev_up (by decide : 2 ≤ 8) (by have h9 := k_isDay (hk M T cs) fr; rw [show sp_in fr (nI 0) (nI 359) = nI 0 from if_neg h_47] at h9; exact h9)) ?_
                  refine r_ifeq (t := 72) (by decide) dc_1_5_50 (fun c_50 => ?_) (fun c_50 => ?_)
                  · skip
                    refine r_iconst (v := nI 0) (by decide) dc_1_5_72 ?_
                    refine r_istore (ls' := [(9, .int (nI 0)), (8, .int (nI 0)), (0, .ref 0), (1, .int (nI n_3)), (2, .int (nI n_12)), (3, .int be), (4, .int sc), (5, .int fr), (6, .int tt), (7, .int fe)]) (by decide) rfl dc_1_5_73 ?_
                    refine r_iload rfl dc_1_5_75 ?_
                    refine r_ifeq (t := 110) (by decide) dc_1_5_77 (fun c_77 => ?_) (fun c_77 => ?_)
                    · skip
                      refine r_iconst (v := -1) (by decide) dc_1_5_110 ?_
                      refine r_iret rfl dc_1_5_111 ?_
                      refine ⟨_, M, T, _, io, sg, ⟨mm_Ev_up (by decide) (c_school_no (hk M T cs) hM io sg _ _ _ _ _ _ _ (fun g => h_22 g.2.2.1)), ⟨rfl, by omega, by omega⟩, e, D, nh, nx, ns, nf, ny, tp, cm, w, cn, wc, hV, he3⟩, rfl⟩
                    · exact absurd c_77 (by decide)
                  · exact absurd c_50 (by decide)
              · exact absurd c_25 (by decide)
        · skip
          refine h_callS (as := [.int to, .int (nI 0), .int (nI 3)]) (rest := []) (v := .int (nI 0)) rfl rfl iv_0_s84 (Or.inl rfl) na_0_13 rfl (show (0 : Nat) ≤ 8 by decide) dc_1_5_12 (mm_Ev_up (by decide : 1 ≤ 8) (by have h9 := k_in (hk M T cs) to (nI 0) (nI 3); rw [show sp_in to (nI 0) (nI 3) = nI 0 from if_neg h_12] at h9; exact h9)) ?_
          refine r_ifeq (t := 42) (by decide) dc_1_5_15 (fun c_15 => ?_) (fun c_15 => ?_)
          · skip
            refine r_iconst (v := nI 0) (by decide) dc_1_5_42 ?_
            refine r_istore (ls' := [(8, .int (nI 0)), (0, .ref 0), (1, .int (nI n_3)), (2, .int to), (3, .int be), (4, .int sc), (5, .int fr), (6, .int tt), (7, .int fe)]) (by decide) rfl dc_1_5_43 ?_
            refine r_iload rfl dc_1_5_45 ?_
            by_cases h_47 : nI 0 ≤ fr ∧ fr ≤ nI 359
            · skip
              obtain ⟨n_47, hn_47, e_47⟩ := g_nat2 h_47 (by omega) (by omega)
              subst e_47
              refine h_callS (as := [.int (nI n_47)]) (rest := []) (v := .int (nI 1)) rfl rfl iv_0_s108 (Or.inl rfl) na_0_25 rfl (show (0 : Nat) ≤ 8 by decide) dc_1_5_47 (mm_Ev_up (by decide : 2 ≤ 8) (by have h9 := k_isDay (hk M T cs) (nI n_47); rw [show sp_in (nI n_47) (nI 0) (nI 359) = nI 1 from sp_in_ok (by omega) (by omega) (by omega)] at h9; exact h9)) ?_
              refine r_ifeq (t := 72) (by decide) dc_1_5_50 (fun c_50 => ?_) (fun c_50 => ?_)
              · exact absurd c_50 (by decide)
              · skip
                refine r_iload rfl dc_1_5_53 ?_
                by_cases h_55 : nI 0 ≤ tt ∧ tt ≤ nI 359
                · skip
                  obtain ⟨n_55, hn_55, e_55⟩ := g_nat2 h_55 (by omega) (by omega)
                  subst e_55
                  refine h_callS (as := [.int (nI n_55)]) (rest := []) (v := .int (nI 1)) rfl rfl iv_0_s108 (Or.inl rfl) na_0_25 rfl (show (0 : Nat) ≤ 8 by decide) dc_1_5_55 (mm_Ev_up (by decide : 2 ≤ 8) (by have h9 := k_isDay (hk M T cs) (nI n_55); rw [show sp_in (nI n_55) (nI 0) (nI 359) = nI 1 from sp_in_ok (by omega) (by omega) (by omega)] at h9; exact h9)) ?_
                  refine r_ifeq (t := 72) (by decide) dc_1_5_58 (fun c_58 => ?_) (fun c_58 => ?_)
                  · exact absurd c_58 (by decide)
                  · skip
                    refine r_iload rfl dc_1_5_61 ?_
                    refine r_iload rfl dc_1_5_63 ?_
                    refine r_ncge (t := 72) (by omega) (by omega) (by decide) dc_1_5_65 (fun c_65 => ?_) (fun c_65 => ?_)
                    · skip
                      refine r_iconst (v := nI 0) (by decide) dc_1_5_72 ?_
                      refine r_istore (ls' := [(9, .int (nI 0)), (8, .int (nI 0)), (0, .ref 0), (1, .int (nI n_3)), (2, .int to), (3, .int be), (4, .int sc), (5, .int (nI n_47)), (6, .int (nI n_55)), (7, .int fe)]) (by decide) rfl dc_1_5_73 ?_
                      refine r_iload rfl dc_1_5_75 ?_
                      refine r_ifeq (t := 110) (by decide) dc_1_5_77 (fun c_77 => ?_) (fun c_77 => ?_)
                      · skip
                        refine r_iconst (v := -1) (by decide) dc_1_5_110 ?_
                        refine r_iret rfl dc_1_5_111 ?_
                        refine ⟨_, M, T, _, io, sg, ⟨mm_Ev_up (by decide) (c_school_no (hk M T cs) hM io sg _ _ _ _ _ _ _ (fun g => h_12 g.2.1)), ⟨rfl, by omega, by omega⟩, e, D, nh, nx, ns, nf, ny, tp, cm, w, cn, wc, hV, he3⟩, rfl⟩
                      · exact absurd c_77 (by decide)
                    · skip
                      refine r_iconst (v := nI 1) (by decide) dc_1_5_68 ?_
                      refine r_goto (t := 73) (by decide) dc_1_5_69 ?_
                      refine r_istore (ls' := [(9, .int (nI 1)), (8, .int (nI 0)), (0, .ref 0), (1, .int (nI n_3)), (2, .int to), (3, .int be), (4, .int sc), (5, .int (nI n_47)), (6, .int (nI n_55)), (7, .int fe)]) (by decide) rfl dc_1_5_73 ?_
                      refine r_iload rfl dc_1_5_75 ?_
                      refine r_ifeq (t := 110) (by decide) dc_1_5_77 (fun c_77 => ?_) (fun c_77 => ?_)
                      · skip
                        refine r_iconst (v := -1) (by decide) dc_1_5_110 ?_
                        refine r_iret rfl dc_1_5_111 ?_
                        refine ⟨_, M, T, _, io, sg, ⟨mm_Ev_up (by decide) (c_school_no (hk M T cs) hM io sg _ _ _ _ _ _ _ (fun g => h_12 g.2.1)), ⟨rfl, by omega, by omega⟩, e, D, nh, nx, ns, nf, ny, tp, cm, w, cn, wc, hV, he3⟩, rfl⟩
                      · exact absurd c_77 (by decide)
                · skip
                  refine h_callS (as := [.int tt]) (rest := []) (v := .int (nI 0)) rfl rfl iv_0_s108 (Or.inl rfl) na_0_25 rfl (show (0 : Nat) ≤ 8 by decide) dc_1_5_55 (mm_Ev_up (by decide : 2 ≤ 8) (by have h9 := k_isDay (hk M T cs) tt; rw [show sp_in tt (nI 0) (nI 359) = nI 0 from if_neg h_55] at h9; exact h9)) ?_
                  refine r_ifeq (t := 72) (by decide) dc_1_5_58 (fun c_58 => ?_) (fun c_58 => ?_)
                  · skip
                    refine r_iconst (v := nI 0) (by decide) dc_1_5_72 ?_
                    refine r_istore (ls' := [(9, .int (nI 0)), (8, .int (nI 0)), (0, .ref 0), (1, .int (nI n_3)), (2, .int to), (3, .int be), (4, .int sc), (5, .int (nI n_47)), (6, .int tt), (7, .int fe)]) (by decide) rfl dc_1_5_73 ?_
                    refine r_iload rfl dc_1_5_75 ?_
                    refine r_ifeq (t := 110) (by decide) dc_1_5_77 (fun c_77 => ?_) (fun c_77 => ?_)
                    · skip
                      refine r_iconst (v := -1) (by decide) dc_1_5_110 ?_
                      refine r_iret rfl dc_1_5_111 ?_
                      refine ⟨_, M, T, _, io, sg, ⟨mm_Ev_up (by decide) (c_school_no (hk M T cs) hM io sg _ _ _ _ _ _ _ (fun g => h_12 g.2.1)), ⟨rfl, by omega, by omega⟩, e, D, nh, nx, ns, nf, ny, tp, cm, w, cn, wc, hV, he3⟩, rfl⟩
                    · exact absurd c_77 (by decide)
                  · exact absurd c_58 (by decide)
            · skip
              refine h_callS (as := [.int fr]) (rest := []) (v := .int (nI 0)) rfl rfl iv_0_s108 (Or.inl rfl) na_0_25 rfl (show (0 : Nat) ≤ 8 by decide) dc_1_5_47 (mm_Ev_up (by decide : 2 ≤ 8) (by have h9 := k_isDay (hk M T cs) fr; rw [show sp_in fr (nI 0) (nI 359) = nI 0 from if_neg h_47] at h9; exact h9)) ?_
              refine r_ifeq (t := 72) (by decide) dc_1_5_50 (fun c_50 => ?_) (fun c_50 => ?_)
              · skip
                refine r_iconst (v := nI 0) (by decide) dc_1_5_72 ?_
                refine r_istore (ls' := [(9, .int (nI 0)), (8, .int (nI 0)), (0, .ref 0), (1, .int (nI n_3)), (2, .int to), (3, .int be), (4, .int sc), (5, .int fr), (6, .int tt), (7, .int fe)]) (by decide) rfl dc_1_5_73 ?_
                refine r_iload rfl dc_1_5_75 ?_
                refine r_ifeq (t := 110) (by decide) dc_1_5_77 (fun c_77 => ?_) (fun c_77 => ?_)
                · skip
                  refine r_iconst (v := -1) (by decide) dc_1_5_110 ?_
                  refine r_iret rfl dc_1_5_111 ?_
                  refine ⟨_, M, T, _, io, sg, ⟨mm_Ev_up (by decide) (c_school_no (hk M T cs) hM io sg _ _ _ _ _ _ _ (fun g => h_12 g.2.1)), ⟨rfl, by omega, by omega⟩, e, D, nh, nx, ns, nf, ny, tp, cm, w, cn, wc, hV, he3⟩, rfl⟩
                · exact absurd c_77 (by decide)
              · exact absurd c_50 (by decide)
          · exact absurd c_15 (by decide)
    · skip
      refine h_callS (as := [.int la, .int (nI 0), .int (nI 3)]) (rest := []) (v := .int (nI 0)) rfl rfl iv_0_s84 (Or.inl rfl) na_0_13 rfl (show (0 : Nat) ≤ 8 by decide) dc_1_5_3 (mm_Ev_up (by decide : 1 ≤ 8) (by have h9 := k_in (hk M T cs) la (nI 0) (nI 3); rw [show sp_in la (nI 0) (nI 3) = nI 0 from if_neg h_3] at h9; exact h9)) ?_
      refine r_ifeq (t := 42) (by decide) dc_1_5_6 (fun c_6 => ?_) (fun c_6 => ?_)
      · skip
        refine r_iconst (v := nI 0) (by decide) dc_1_5_42 ?_
        refine r_istore (ls' := [(8, .int (nI 0)), (0, .ref 0), (1, .int la), (2, .int to), (3, .int be), (4, .int sc), (5, .int fr), (6, .int tt), (7, .int fe)]) (by decide) rfl dc_1_5_43 ?_
        refine r_iload rfl dc_1_5_45 ?_
        by_cases h_47 : nI 0 ≤ fr ∧ fr ≤ nI 359
        · skip
          obtain ⟨n_47, hn_47, e_47⟩ := g_nat2 h_47 (by omega) (by omega)
          subst e_47
          refine h_callS (as := [.int (nI n_47)]) (rest := []) (v := .int (nI 1)) rfl rfl iv_0_s108 (Or.inl rfl) na_0_25 rfl (show (0 : Nat) ≤ 8 by decide) dc_1_5_47 (mm_Ev_up (by decide : 2 ≤ 8) (by have h9 := k_isDay (hk M T cs) (nI n_47); rw [show sp_in (nI n_47) (nI 0) (nI 359) = nI 1 from sp_in_ok (by omega) (by omega) (by omega)] at h9; exact h9)) ?_
          refine r_ifeq (t := 72) (by decide) dc_1_5_50 (fun c_50 => ?_) (fun c_50 => ?_)
          · exact absurd c_50 (by decide)
          · skip
            refine r_iload rfl dc_1_5_53 ?_
            by_cases h_55 : nI 0 ≤ tt ∧ tt ≤ nI 359
            · skip
              obtain ⟨n_55, hn_55, e_55⟩ := g_nat2 h_55 (by omega) (by omega)
              subst e_55
              refine h_callS (as := [.int (nI n_55)]) (rest := []) (v := .int (nI 1)) rfl rfl iv_0_s108 (Or.inl rfl) na_0_25 rfl (show (0 : Nat) ≤ 8 by decide) dc_1_5_55 (mm_Ev_up (by decide : 2 ≤ 8) (by have h9 := k_isDay (hk M T cs) (nI n_55); rw [show sp_in (nI n_55) (nI 0) (nI 359) = nI 1 from sp_in_ok (by omega) (by omega) (by omega)] at h9; exact h9)) ?_
              refine r_ifeq (t := 72) (by decide) dc_1_5_58 (fun c_58 => ?_) (fun c_58 => ?_)
              · exact absurd c_58 (by decide)
              · skip
                refine r_iload rfl dc_1_5_61 ?_
                refine r_iload rfl dc_1_5_63 ?_
                refine r_ncge (t := 72) (by omega) (by omega) (by decide) dc_1_5_65 (fun c_65 => ?_) (fun c_65 => ?_)
                · skip
                  refine r_iconst (v := nI 0) (by decide) dc_1_5_72 ?_
                  refine r_istore (ls' := [(9, .int (nI 0)), (8, .int (nI 0)), (0, .ref 0), (1, .int la), (2, .int to), (3, .int be), (4, .int sc), (5, .int (nI n_47)), (6, .int (nI n_55)), (7, .int fe)]) (by decide) rfl dc_1_5_73 ?_
                  refine r_iload rfl dc_1_5_75 ?_
                  refine r_ifeq (t := 110) (by decide) dc_1_5_77 (fun c_77 => ?_) (fun c_77 => ?_)
                  · skip
                    refine r_iconst (v := -1) (by decide) dc_1_5_110 ?_
                    refine r_iret rfl dc_1_5_111 ?_
                    refine ⟨_, M, T, _, io, sg, ⟨mm_Ev_up (by decide) (c_school_no (hk M T cs) hM io sg _ _ _ _ _ _ _ (fun g => h_3 g.1)), ⟨rfl, by omega, by omega⟩, e, D, nh, nx, ns, nf, ny, tp, cm, w, cn, wc, hV, he3⟩, rfl⟩
                  · exact absurd c_77 (by decide)
                · skip
                  refine r_iconst (v := nI 1) (by decide) dc_1_5_68 ?_
                  refine r_goto (t := 73) (by decide) dc_1_5_69 ?_
                  refine r_istore (ls' := [(9, .int (nI 1)), (8, .int (nI 0)), (0, .ref 0), (1, .int la), (2, .int to), (3, .int be), (4, .int sc), (5, .int (nI n_47)), (6, .int (nI n_55)), (7, .int fe)]) (by decide) rfl dc_1_5_73 ?_
                  refine r_iload rfl dc_1_5_75 ?_
                  refine r_ifeq (t := 110) (by decide) dc_1_5_77 (fun c_77 => ?_) (fun c_77 => ?_)
                  · skip
                    refine r_iconst (v := -1) (by decide) dc_1_5_110 ?_
                    refine r_iret rfl dc_1_5_111 ?_
                    refine ⟨_, M, T, _, io, sg, ⟨mm_Ev_up (by decide) (c_school_no (hk M T cs) hM io sg _ _ _ _ _ _ _ (fun g => h_3 g.1)), ⟨rfl, by omega, by omega⟩, e, D, nh, nx, ns, nf, ny, tp, cm, w, cn, wc, hV, he3⟩, rfl⟩
                  · exact absurd c_77 (by decide)
            · skip
              refine h_callS (as := [.int tt]) (rest := []) (v := .int (nI 0)) rfl rfl iv_0_s108 (Or.inl rfl) na_0_25 rfl (show (0 : Nat) ≤ 8 by decide) dc_1_5_55 (mm_Ev_up (by decide : 2 ≤ 8) (by have h9 := k_isDay (hk M T cs) tt; rw [show sp_in tt (nI 0) (nI 359) = nI 0 from if_neg h_55] at h9; exact h9)) ?_
              refine r_ifeq (t := 72) (by decide) dc_1_5_58 (fun c_58 => ?_) (fun c_58 => ?_)
              · skip
                refine r_iconst (v := nI 0) (by decide) dc_1_5_72 ?_
                refine r_istore (ls' := [(9, .int (nI 0)), (8, .int (nI 0)), (0, .ref 0), (1, .int la), (2, .int to), (3, .int be), (4, .int sc), (5, .int (nI n_47)), (6, .int tt), (7, .int fe)]) (by decide) rfl dc_1_5_73 ?_
                refine r_iload rfl dc_1_5_75 ?_
                refine r_ifeq (t := 110) (by decide) dc_1_5_77 (fun c_77 => ?_) (fun c_77 => ?_)
                · skip
                  refine r_iconst (v := -1) (by decide) dc_1_5_110 ?_
                  refine r_iret rfl dc_1_5_111 ?_
                  refine ⟨_, M, T, _, io, sg, ⟨mm_Ev_up (by decide) (c_school_no (hk M T cs) hM io sg _ _ _ _ _ _ _ (fun g => h_3 g.1)), ⟨rfl, by omega, by omega⟩, e, D, nh, nx, ns, nf, ny, tp, cm, w, cn, wc, hV, he3⟩, rfl⟩
                · exact absurd c_77 (by decide)
              · exact absurd c_58 (by decide)
        · skip
          refine h_callS (as := [.int fr]) (rest := []) (v := .int (nI 0)) rfl rfl iv_0_s108 (Or.inl rfl) na_0_25 rfl (show (0 : Nat) ≤ 8 by decide) dc_1_5_47 (mm_Ev_up (by decide : 2 ≤ 8) (by have h9 := k_isDay (hk M T cs) fr; rw [show sp_in fr (nI 0) (nI 359) = nI 0 from if_neg h_47] at h9; exact h9)) ?_
          refine r_ifeq (t := 72) (by decide) dc_1_5_50 (fun c_50 => ?_) (fun c_50 => ?_)
          · skip
            refine r_iconst (v := nI 0) (by decide) dc_1_5_72 ?_
            refine r_istore (ls' := [(9, .int (nI 0)), (8, .int (nI 0)), (0, .ref 0), (1, .int la), (2, .int to), (3, .int be), (4, .int sc), (5, .int fr), (6, .int tt), (7, .int fe)]) (by decide) rfl dc_1_5_73 ?_
            refine r_iload rfl dc_1_5_75 ?_
            refine r_ifeq (t := 110) (by decide) dc_1_5_77 (fun c_77 => ?_) (fun c_77 => ?_)
            · skip
              refine r_iconst (v := -1) (by decide) dc_1_5_110 ?_
              refine r_iret rfl dc_1_5_111 ?_
              refine ⟨_, M, T, _, io, sg, ⟨mm_Ev_up (by decide) (c_school_no (hk M T cs) hM io sg _ _ _ _ _ _ _ (fun g => h_3 g.1)), ⟨rfl, by omega, by omega⟩, e, D, nh, nx, ns, nf, ny, tp, cm, w, cn, wc, hV, he3⟩, rfl⟩
            · exact absurd c_77 (by decide)
          · exact absurd c_50 (by decide)
      · exact absurd c_6 (by decide)
  obtain ⟨z9, ⟨v, M2, T2, cs2, io2, sg2, p9, e9⟩, h9⟩ := hq9
  subst e9
  exact ⟨v, M2, T2, cs2, io2, sg2, p9, h9⟩
theorem st_school (la to be sc fr tt fe : Int32) : StpG 24 194 [.int la, .int to, .int be, .int sc, .int fr, .int tt, .int fe] := fun M T cs sg io e D nh nx ns nf ny tp cm w cn wc hV h8 hE hs h3 => by
  obtain ⟨v, M2, T2, cs2, io2, sg2, hp, h⟩ := s_school hV h8 hE hs h3 la to be sc fr tt fe
  exact ⟨v, M2, T2, cs2, io2, sg2, hp, mm_Ev_up (by decide) h⟩
set_option maxHeartbeats 4000000 in
theorem s_student {M : mH} {T : Nat → mT} {cs sg : Nat → Nat → Int32} {io : Nat → Int32} {e : Nat → Nat} {D : Nat → Nat → Nat} {nh nx ns nf ny tp : Nat} {cm : Nat → Nat} {w : Nat → Nat → Nat} {cn : Nat → Nat} {wc : Nat → Nat → Nat} (hV : CV M T cs io sg e D nh nx ns nf ny tp cm w cn wc) (hM8 : M.1 ≤ 800000) (hE : M.2.2 1000000 = .inl (3, 0, .inr (.inr (.inr (.inr (fun _ => none)))))) (hsx : ∀ j, 2 ≤ j → j < 8 → M.2.2 (1000000 + j) = mm_hs 0 (fun _ => 0) j) (he3 : e 3 = 11 ∨ e 3 = 13) (ho su gr cr ne : Int32) : ∃ (v : Value), ∃ (M2 : mH), ∃ (T2 : Nat → mT), ∃ (cs2 : Nat → Nat → Int32), ∃ (io2 : Nat → Int32), ∃ (sg2 : Nat → Nat → Int32), (mm_Ev 30 220 [.ref 100, .int ho, .int su, .int gr, .int cr, .int ne] (rf_mk (hk M2 T2 cs2) io sg) (some v, rf_mk (hk M2 T2 cs2) io2 sg2) ∧ (M2.2.2 = M.2.2 ∧ M2.1 ≤ M.1 + 20 ∧ M2.2.1 ≤ M.2.1 + 1000) ∧ ∃ (e2 : Nat → Nat) (D2 : Nat → Nat → Nat) (nh2 nx2 ns2 nf2 ny2 tp2 : Nat) (cm2 : Nat → Nat) (w2 : Nat → Nat → Nat) (cn2 : Nat → Nat) (wc2 : Nat → Nat → Nat), CV M2 T2 cs2 io2 sg2 e2 D2 nh2 nx2 ns2 nf2 ny2 tp2 cm2 w2 cn2 wc2 ∧ (e2 3 = 11 ∨ e2 3 = 13)) ∧ mm_Ev 9 99 [.ref 0, .int ho, .int su, .int gr, .int cr, .int ne] (hk M T cs) ((some v, hk M2 T2 cs2)) := by
  have hq9 : ∃ z, (fun r9 => ∃ (v : Value), ∃ (M2 : mH), ∃ (T2 : Nat → mT), ∃ (cs2 : Nat → Nat → Int32), ∃ (io2 : Nat → Int32), ∃ (sg2 : Nat → Nat → Int32), (mm_Ev 30 220 [.ref 100, .int ho, .int su, .int gr, .int cr, .int ne] (rf_mk (hk M2 T2 cs2) io sg) (some v, rf_mk (hk M2 T2 cs2) io2 sg2) ∧ (M2.2.2 = M.2.2 ∧ M2.1 ≤ M.1 + 20 ∧ M2.2.1 ≤ M.2.1 + 1000) ∧ ∃ (e2 : Nat → Nat) (D2 : Nat → Nat → Nat) (nh2 nx2 ns2 nf2 ny2 tp2 : Nat) (cm2 : Nat → Nat) (w2 : Nat → Nat → Nat) (cn2 : Nat → Nat) (wc2 : Nat → Nat → Nat), CV M2 T2 cs2 io2 sg2 e2 D2 nh2 nx2 ns2 nf2 ny2 tp2 cm2 w2 cn2 wc2 ∧ (e2 3 = 11 ∨ e2 3 = 13)) ∧ r9 = ((some v, hk M2 T2 cs2))) z ∧ mm_Ev 9 99 [.ref 0, .int ho, .int su, .int gr, .int cr, .int ne] (hk M T cs) z := by
    obtain ⟨⟨hM, hMs, hW⟩, hC, hT, hR, hJ⟩ := id hV
    obtain ⟨hF, ⟨hL0, hL1, hL2⟩, hSc, hAg, hSt⟩ := id hC
    obtain ⟨⟨⟨h3, hnh⟩, ⟨h4, hnx⟩, ⟨h5, hns⟩, ⟨h7, hnf⟩, ⟨h6, hny⟩, ⟨h23, htp⟩⟩, hRa, hRb, hRs, hRs2, hRs3, hRx, hCD, hRt, hRt2, hRf⟩ := id hR
    refine r_evQ (by decide +kernel) (show (6 : Nat) ≤ mm_nL 99 by decide +kernel) ?_
    show mm_Ru 8 (0, 6, false, prog_1_method_11_code, some .int) 0 [(0, .ref 0), (1, .int ho), (2, .int su), (3, .int gr), (4, .int cr), (5, .int ne)] [] (hk M T cs) (fun r9 => ∃ (v : Value), ∃ (M2 : mH), ∃ (T2 : Nat → mT), ∃ (cs2 : Nat → Nat → Int32), ∃ (io2 : Nat → Int32), ∃ (sg2 : Nat → Nat → Int32), (mm_Ev 30 220 [.ref 100, .int ho, .int su, .int gr, .int cr, .int ne] (rf_mk (hk M2 T2 cs2) io sg) (some v, rf_mk (hk M2 T2 cs2) io2 sg2) ∧ (M2.2.2 = M.2.2 ∧ M2.1 ≤ M.1 + 20 ∧ M2.2.1 ≤ M.2.1 + 1000) ∧ ∃ (e2 : Nat → Nat) (D2 : Nat → Nat → Nat) (nh2 nx2 ns2 nf2 ny2 tp2 : Nat) (cm2 : Nat → Nat) (w2 : Nat → Nat → Nat) (cn2 : Nat → Nat) (wc2 : Nat → Nat → Nat), CV M2 T2 cs2 io2 sg2 e2 D2 nh2 nx2 ns2 nf2 ny2 tp2 cm2 w2 cn2 wc2 ∧ (e2 3 = 11 ∨ e2 3 = 13)) ∧ r9 = ((some v, hk M2 T2 cs2)))
    refine r_aload_n rfl dc_1_11_0 ?_
    refine r_iload_n rfl dc_1_11_1 ?_
    by_cases h_2 : 0 ≤ ho ∧ ho < nI nh
    · skip
      obtain ⟨n_2, hn_2, e_2⟩ := g_lt h_2 (by omega)
      subst e_2
      refine h_callv (t := cT e 0) (as := [.int (nI n_2)]) (rest := []) (v := .ref (D 0 n_2)) (M1 := hk M T cs) rfl rfl iv_0_v128 (Or.inl rfl) na_1_39 ((hF 0 (by decide))) ⟨by omega, by omega⟩ (show (0 : Nat) < 14 by decide) o_39 rfl (show (0 : Nat) ≤ 8 by decide) dc_1_11_2 (mm_Ev_up (by decide : 4 ≤ 8) (k_scAt_ok hV n_2 hn_2)) ?_
      refine r_ifnull dc_1_11_5 ?_
      refine r_iload_n rfl dc_1_11_8 ?_
      refine r_iconst (v := nI 0) (by decide) dc_1_11_9 ?_
      refine r_bipush (v := nI 7) (by decide) dc_1_11_10 ?_
      by_cases h_12 : nI 0 ≤ su ∧ su ≤ nI 7
      · skip
        obtain ⟨n_12, hn_12, e_12⟩ := g_nat2 h_12 (by omega) (by omega)
        subst e_12
        refine h_callS (as := [.int (nI n_12), .int (nI 0), .int (nI 7)]) (rest := []) (v := .int (nI 1)) rfl rfl iv_0_s84 (Or.inl rfl) na_0_13 rfl (show (0 : Nat) ≤ 8 by decide) dc_1_11_12 (mm_Ev_up (by decide : 1 ≤ 8) (by have h9 := k_in (hk M T cs) (nI n_12) (nI 0) (nI 7); rw [show sp_in (nI n_12) (nI 0) (nI 7) = nI 1 from sp_in_ok (by omega) (by omega) (by omega)] at h9; exact h9)) ?_
        refine r_ifeq (t := 65) (by decide) dc_1_11_15 (fun c_15 => ?_) (fun c_15 => ?_)
        · exact absurd c_15 (by decide)
        · skip
          refine r_iload_n rfl dc_1_11_18 ?_
          refine r_iconst (v := nI 0) (by decide) dc_1_11_19 ?_
          refine r_bipush (v := nI 100) (by decide) dc_1_11_20 ?_
          by_cases h_22 : nI 0 ≤ gr ∧ gr ≤ nI 100
          · skip
            obtain ⟨n_22, hn_22, e_22⟩ := g_nat2 h_22 (by omega) (by omega)
            subst e_22
            refine h_callS (as := [.int (nI n_22), .int (nI 0), .int (nI 100)]) (rest := []) (v := .int (nI 1)) rfl rfl iv_0_s84 (Or.inl rfl) na_0_13 rfl (show (0 : Nat) ≤ 8 by decide) dc_1_11_22 (mm_Ev_up (by decide : 1 ≤ 8) (by have h9 := k_in (hk M T cs) (nI n_22) (nI 0) (nI 100); rw [show sp_in (nI n_22) (nI 0) (nI 100) = nI 1 from sp_in_ok (by omega) (by omega) (by omega)] at h9; exact h9)) ?_
            refine r_ifeq (t := 65) (by decide) dc_1_11_25 (fun c_25 => ?_) (fun c_25 => ?_)
            · exact absurd c_25 (by decide)
            · skip
              refine r_iload rfl dc_1_11_28 ?_
              refine r_iconst (v := nI 0) (by decide) dc_1_11_30 ?_
              refine r_bipush (v := nI 99) (by decide) dc_1_11_31 ?_
              by_cases h_33 : nI 0 ≤ cr ∧ cr ≤ nI 99
              · skip
                obtain ⟨n_33, hn_33, e_33⟩ := g_nat2 h_33 (by omega) (by omega)
                subst e_33
                refine h_callS (as := [.int (nI n_33), .int (nI 0), .int (nI 99)]) (rest := []) (v := .int (nI 1)) rfl rfl iv_0_s84 (Or.inl rfl) na_0_13 rfl (show (0 : Nat) ≤ 8 by decide) dc_1_11_33 (mm_Ev_up (by decide : 1 ≤ 8) (by have h9 := k_in (hk M T cs) (nI n_33) (nI 0) (nI 99); rw [show sp_in (nI n_33) (nI 0) (nI 99) = nI 1 from sp_in_ok (by omega) (by omega) (by omega)] at h9; exact h9)) ?_
                refine r_ifeq (t := 65) (by decide) dc_1_11_36 (fun c_36 => ?_) (fun c_36 => ?_)
                · exact absurd c_36 (by decide)
                · skip
                  refine r_iload rfl dc_1_11_39 ?_
                  refine r_iconst (v := nI 0) (by decide) dc_1_11_41 ?_
                  refine r_sipush (v := nI 4095) (by decide) dc_1_11_42 ?_
                  by_cases h_45 : nI 0 ≤ ne ∧ ne ≤ nI 4095
                  · skip
                    obtain ⟨n_45, hn_45, e_45⟩ := g_nat2 h_45 (by omega) (by omega)
                    subst e_45
                    refine h_callS (as := [.int (nI n_45), .int (nI 0), .int (nI 4095)]) (rest := []) (v := .int (nI 1)) rfl rfl iv_0_s84 (Or.inl rfl) na_0_13 rfl (show (0 : Nat) ≤ 8 by decide) dc_1_11_45 (mm_Ev_up (by decide : 1 ≤ 8) (by have h9 := k_in (hk M T cs) (nI n_45) (nI 0) (nI 4095); rw [show sp_in (nI n_45) (nI 0) (nI 4095) = nI 1 from sp_in_ok (by omega) (by omega) (by omega)] at h9; exact h9)) ?_
                    refine r_ifeq (t := 65) (by decide) dc_1_11_48 (fun c_48 => ?_) (fun c_48 => ?_)
                    · exact absurd c_48 (by decide)
                    · skip
                      refine r_aload_n rfl dc_1_11_51 ?_
                      refine h_get (t := cT e 0) (v := .ref 27) fx_0_68 ((hF 0 (by decide))) ⟨by omega, by omega⟩ (rfl) dc_1_11_52 ?_
                      refine h_callv (t := cT e 27) (as := []) (rest := []) (v := .int (nI ns)) (M1 := hk M T cs) rfl rfl iv_0_f113 (Or.inr (Or.inr rfl)) na_6_26 ((hF 27 (by decide))) ⟨by omega, by omega⟩ (show (6 : Nat) < 14 by decide) o_26 rfl (show (0 : Nat) ≤ 8 by decide) dc_1_11_55 (mm_Ev_up (by decide : 1 ≤ 8) (k_sizeL hV.2.1.2.1.2.2)) ?_
                      refine r_bipush (v := nI 16) (by decide) dc_1_11_60 ?_
                      refine r_nclt (t := 67) (by omega) (by omega) (by decide) dc_1_11_62 (fun c_62 => ?_) (fun c_62 => ?_)
                      · skip
                        refine r_aload_n rfl dc_1_11_67 ?_
                        refine h_get (t := cT e 0) (v := .ref 27) fx_0_68 ((hF 0 (by decide))) ⟨by omega, by omega⟩ (rfl) dc_1_11_68 ?_
                        refine h_new (c := 11) (nf := 11) kr_0_175 (by show M.1 < 1000000; omega) (by show ¬ (100 ≤ M.1 ∧ M.1 < 157); omega) (mk_n11) (by decide +kernel) dc_1_11_71 ?_
                        show mm_Ru 8 (0, 6, false, prog_1_method_11_code, some .int) 74 [(0, .ref 0), (1, .int (nI n_2)), (2, .int (nI n_12)), (3, .int (nI n_22)), (4, .int (nI n_33)), (5, .int (nI n_45))] [.ref M.1, .ref 27] (hk (mnew M 11) (va_up T M.1 ((11, 0, fun _ => none))) (wA cs M.1 (fun _ => 0))) (fun r9 => ∃ (v : Value), ∃ (M2 : mH), ∃ (T2 : Nat → mT), ∃ (cs2 : Nat → Nat → Int32), ∃ (io2 : Nat → Int32), ∃ (sg2 : Nat → Nat → Int32), (mm_Ev 30 220 [.ref 100, .int (nI n_2), .int (nI n_12), .int (nI n_22), .int (nI n_33), .int (nI n_45)] (rf_mk (hk M2 T2 cs2) io sg) (some v, rf_mk (hk M2 T2 cs2) io2 sg2) ∧ (M2.2.2 = M.2.2 ∧ M2.1 ≤ M.1 + 20 ∧ M2.2.1 ≤ M.2.1 + 1000) ∧ ∃ (e2 : Nat → Nat) (D2 : Nat → Nat → Nat) (nh2 nx2 ns2 nf2 ny2 tp2 : Nat) (cm2 : Nat → Nat) (w2 : Nat → Nat → Nat) (cn2 : Nat → Nat) (wc2 : Nat → Nat → Nat), CV M2 T2 cs2 io2 sg2 e2 D2 nh2 nx2 ns2 nf2 ny2 tp2 cm2 w2 cn2 wc2 ∧ (e2 3 = 11 ∨ e2 3 = 13)) ∧ r9 = ((some v, hk M2 T2 cs2)))
                        refine r_dup rfl dc_1_11_74 ?_
                        refine r_iload_n rfl dc_1_11_75 ?_
                        refine r_iload_n rfl dc_1_11_76 ?_
                        refine r_iload_n rfl dc_1_11_77 ?_
                        refine r_iload rfl dc_1_11_78 ?_
                        refine r_iload rfl dc_1_11_80 ?_
                        obtain ⟨M1, T1, cs1, ⟨⟨g1, g2, g3⟩, hT1, hc1, hnew⟩, hev1⟩ := nw_student hM hM8 T cs (nI n_2) (nI n_12) (nI n_22) (nI n_33) (nI n_45)
                        refine h_callI (as := [.int (nI n_2), .int (nI n_12), .int (nI n_22), .int (nI n_33), .int (nI n_45)]) (rest := [.ref M.1, .ref 27]) (M1 := hk M1 T1 cs1) rfl rfl iv_0_i177 (Or.inl rfl) na_2_100 rfl (show (2 : Nat) ≤ 8 by decide) dc_1_11_82 (mm_Ev_up (by decide : 4 ≤ 8) (hev1)) ?_
                        have hee : 157 ≤ e 2 ∧ e 2 < M.1 ∨ e 2 = 1000000 := hL2.2.2.2.2.elim (fun y => Or.inr y.2) (fun ⟨y, c, r, y1, y2, y3⟩ => Or.inl ⟨by rw [← hJ.1 2 (by decide)]; exact DJ_lo hJ (dvl_10 (by decide) y), y2.1⟩)
                        have hLx : LsR M1 T1 cs1 27 (e 2) ns (D 7) := LsR_x hL2 (by omega) (hT1 27 (by omega)) (fun h0 => hT1 (e 2) (by rcases hL2.2.2.2.2 with y | ⟨y, c, r, y1, y2, y3⟩; exact absurd y.1 (by omega); exact y2.1)) (hc1 27 (by omega))
                        have hel : ∀ i, i < ns → inC M1 (D 7 i) ∧ (T1 (D 7 i)).1 < 14 := fun i hi => ⟨inC_x (hSt i hi).2.1 (by omega), by rw [hT1 _ (hSt i hi).2.1.1, (hSt i hi).1]; exact (by decide : 11 < 14)⟩
                        have h14n : (T1 M.1).1 < 14 := by rw [hnew.1]; exact (by decide : 11 < 14)
                        obtain ⟨M2, T2, cs2, ed2, hA, hev2⟩ := k_addL M1 (by omega) (by omega) T1 cs1 27 (e 2) ns (D 7) hLx (by omega) hel (by omega) (by rw [g3]; exact hE) M.1 ⟨by omega, by omega⟩ h14n (by omega)
                        have hs2 := hA.2.2.2.1
                        have hed2 := hA.1
                        have hsl := hA.2.1
                        refine h_callv (t := (6, 0, rl [(0, e 2)])) (as := [.ref M.1]) (rest := []) (v := .int (nI 1)) (M1 := hk M2 T2 cs2) rfl rfl iv_0_f124 (Or.inr (Or.inr rfl)) na_6_28 (((hT1 27 (by omega)).trans (hF 27 (by decide)))) ⟨by omega, by omega⟩ (show (6 : Nat) < 14 by decide) o_28 rfl (show (0 : Nat) ≤ 8 by decide) dc_1_11_85 (mm_Ev_up (by decide : 7 ≤ 8) (hev2)) ?_
                        refine r_pop rfl dc_1_11_90 ?_
                        refine r_aload_n rfl dc_1_11_91 ?_
                        refine h_get (t := cT e 0) (v := .ref 27) fx_0_68 (((hA.2.2.2.2.1 0 (by omega) (by decide) (by omega)).trans ((hT1 0 (by omega)).trans (hF 0 (by decide))))) ⟨by omega, by omega⟩ (rfl) dc_1_11_92 ?_
                        refine h_callv (t := (6, 0, rl [(0, ed2)])) (as := []) (rest := []) (v := .int (nI (ns + 1))) (M1 := hk M2 T2 cs2) rfl rfl iv_0_f113 (Or.inr (Or.inr rfl)) na_6_26 hs2.1 hs2.2.1 (show (6 : Nat) < 14 by decide) o_26 rfl (show (0 : Nat) ≤ 8 by decide) dc_1_11_95 (mm_Ev_up (by decide : 1 ≤ 8) (k_sizeL hs2)) ?_
                        refine r_iconst (v := nI 1) (by decide) dc_1_11_100 ?_
                        refine r_isub (v := nI ns) ((nI_sb (by omega)).trans (congrArg nI (by omega))) dc_1_11_101 ?_
                        refine r_iret rfl dc_1_11_102 ?_
                        obtain ⟨e2, D2, hV2, he2⟩ := CV_student hV g1 (by omega) g3 hT1 hc1 hA (by omega) hn_2 (by omega) (by omega) (by omega) (by omega) hnew.1 hnew.2.1 hnew.2.2.1 hnew.2.2.2.1 hnew.2.2.2.2
                        refine ⟨_, M2, T2, cs2, _, _, ⟨mm_Ev_up (by decide) (c_student_ok (hk M2 T2 cs2) hV2.1.1 io sg nh h3 hnh ns h5 hns (by omega) n_2 n_12 n_22 n_33 n_45 hn_2 (by omega) (by omega) (by omega) (by omega)), ⟨hA.2.2.1.trans g3, by omega, by omega⟩, e2, D2, _, _, _, _, _, _, _, _, _, _, hV2, by rw [he2]; exact he3⟩, rfl⟩
                      · skip
                        refine r_iconst (v := -1) (by decide) dc_1_11_65 ?_
                        refine r_iret rfl dc_1_11_66 ?_
                        refine ⟨_, M, T, _, io, sg, ⟨mm_Ev_up (by decide) (c_student_no (hk M T cs) hM io sg _ _ _ _ _ (fun g => g.2.2.2.2.2 (by rw [h5, show ns = 16 by omega]))), ⟨rfl, by omega, by omega⟩, e, D, nh, nx, ns, nf, ny, tp, cm, w, cn, wc, hV, he3⟩, rfl⟩
                  · skip
                    refine h_callS (as := [.int ne, .int (nI 0), .int (nI 4095)]) (rest := []) (v := .int (nI 0)) rfl rfl iv_0_s84 (Or.inl rfl) na_0_13 rfl (show (0 : Nat) ≤ 8 by decide) dc_1_11_45 (mm_Ev_up (by decide : 1 ≤ 8) (by have h9 := k_in (hk M T cs) ne (nI 0) (nI 4095); rw [show sp_in ne (nI 0) (nI 4095) = nI 0 from if_neg h_45] at h9; exact h9)) ?_
                    refine r_ifeq (t := 65) (by decide) dc_1_11_48 (fun c_48 => ?_) (fun c_48 => ?_)
                    · skip
                      refine r_iconst (v := -1) (by decide) dc_1_11_65 ?_
                      refine r_iret rfl dc_1_11_66 ?_
                      refine ⟨_, M, T, _, io, sg, ⟨mm_Ev_up (by decide) (c_student_no (hk M T cs) hM io sg _ _ _ _ _ (fun g => h_45 (g.2.2.2.2.1))), ⟨rfl, by omega, by omega⟩, e, D, nh, nx, ns, nf, ny, tp, cm, w, cn, wc, hV, he3⟩, rfl⟩
                    · exact absurd c_48 (by decide)
              · skip
                refine h_callS (as := [.int cr, .int (nI 0), .int (nI 99)]) (rest := []) (v := .int (nI 0)) rfl rfl iv_0_s84 (Or.inl rfl) na_0_13 rfl (show (0 : Nat) ≤ 8 by decide) dc_1_11_33 (mm_Ev_up (by decide : 1 ≤ 8) (by have h9 := k_in (hk M T cs) cr (nI 0) (nI 99); rw [show sp_in cr (nI 0) (nI 99) = nI 0 from if_neg h_33] at h9; exact h9)) ?_
                refine r_ifeq (t := 65) (by decide) dc_1_11_36 (fun c_36 => ?_) (fun c_36 => ?_)
                · skip
                  refine r_iconst (v := -1) (by decide) dc_1_11_65 ?_
                  refine r_iret rfl dc_1_11_66 ?_
                  refine ⟨_, M, T, _, io, sg, ⟨mm_Ev_up (by decide) (c_student_no (hk M T cs) hM io sg _ _ _ _ _ (fun g => h_33 (g.2.2.2.1))), ⟨rfl, by omega, by omega⟩, e, D, nh, nx, ns, nf, ny, tp, cm, w, cn, wc, hV, he3⟩, rfl⟩
                · exact absurd c_36 (by decide)
          · skip
            refine h_callS (as := [.int gr, .int (nI 0), .int (nI 100)]) (rest := []) (v := .int (nI 0)) rfl rfl iv_0_s84 (Or.inl rfl) na_0_13 rfl (show (0 : Nat) ≤ 8 by decide) dc_1_11_22 (mm_Ev_up (by decide : 1 ≤ 8) (by have h9 := k_in (hk M T cs) gr (nI 0) (nI 100); rw [show sp_in gr (nI 0) (nI 100) = nI 0 from if_neg h_22] at h9; exact h9)) ?_
            refine r_ifeq (t := 65) (by decide) dc_1_11_25 (fun c_25 => ?_) (fun c_25 => ?_)
            · skip
              refine r_iconst (v := -1) (by decide) dc_1_11_65 ?_
              refine r_iret rfl dc_1_11_66 ?_
              refine ⟨_, M, T, _, io, sg, ⟨mm_Ev_up (by decide) (c_student_no (hk M T cs) hM io sg _ _ _ _ _ (fun g => h_22 (g.2.2.1))), ⟨rfl, by omega, by omega⟩, e, D, nh, nx, ns, nf, ny, tp, cm, w, cn, wc, hV, he3⟩, rfl⟩
            · exact absurd c_25 (by decide)
      · skip
        refine h_callS (as := [.int su, .int (nI 0), .int (nI 7)]) (rest := []) (v := .int (nI 0)) rfl rfl iv_0_s84 (Or.inl rfl) na_0_13 rfl (show (0 : Nat) ≤ 8 by decide) dc_1_11_12 (mm_Ev_up (by decide : 1 ≤ 8) (by have h9 := k_in (hk M T cs) su (nI 0) (nI 7); rw [show sp_in su (nI 0) (nI 7) = nI 0 from if_neg h_12] at h9; exact h9)) ?_
        refine r_ifeq (t := 65) (by decide) dc_1_11_15 (fun c_15 => ?_) (fun c_15 => ?_)
        · skip
          refine r_iconst (v := -1) (by decide) dc_1_11_65 ?_
          refine r_iret rfl dc_1_11_66 ?_
          refine ⟨_, M, T, _, io, sg, ⟨mm_Ev_up (by decide) (c_student_no (hk M T cs) hM io sg _ _ _ _ _ (fun g => h_12 (g.2.1))), ⟨rfl, by omega, by omega⟩, e, D, nh, nx, ns, nf, ny, tp, cm, w, cn, wc, hV, he3⟩, rfl⟩
        · exact absurd c_15 (by decide)
    · skip
      refine h_callv (t := cT e 0) (as := [.int ho]) (rest := []) (v := .null) (M1 := hk M T cs) rfl rfl iv_0_v128 (Or.inl rfl) na_1_39 ((hF 0 (by decide))) ⟨by omega, by omega⟩ (show (0 : Nat) < 14 by decide) o_39 rfl (show (0 : Nat) ≤ 8 by decide) dc_1_11_2 (mm_Ev_up (by decide : 2 ≤ 8) (k_scAt_no hV ho h_2)) ?_
      refine r_ifnullZ (t := 65) (by decide) dc_1_11_5 ?_
      refine r_iconst (v := -1) (by decide) dc_1_11_65 ?_
      refine r_iret rfl dc_1_11_66 ?_
      refine ⟨_, M, T, _, io, sg, ⟨mm_Ev_up (by decide) (c_student_no (hk M T cs) hM io sg _ _ _ _ _ (fun g => h_2 (by rw [← h3]; exact g.1))), ⟨rfl, by omega, by omega⟩, e, D, nh, nx, ns, nf, ny, tp, cm, w, cn, wc, hV, he3⟩, rfl⟩
  obtain ⟨z9, ⟨v, M2, T2, cs2, io2, sg2, p9, e9⟩, h9⟩ := hq9
  subst e9
  exact ⟨v, M2, T2, cs2, io2, sg2, p9, h9⟩
theorem st_student (ho su gr cr ne : Int32) : StpG 99 220 [.int ho, .int su, .int gr, .int cr, .int ne] := fun M T cs sg io e D nh nx ns nf ny tp cm w cn wc hV h8 hE hs h3 => by
  obtain ⟨v, M2, T2, cs2, io2, sg2, hp, h⟩ := s_student hV h8 hE hs h3 ho su gr cr ne
  exact ⟨v, M2, T2, cs2, io2, sg2, hp, mm_Ev_up (by decide) h⟩
set_option maxHeartbeats 4000000 in
theorem s_course {M : mH} {T : Nat → mT} {cs sg : Nat → Nat → Int32} {io : Nat → Int32} {e : Nat → Nat} {D : Nat → Nat → Nat} {nh nx ns nf ny tp : Nat} {cm : Nat → Nat} {w : Nat → Nat → Nat} {cn : Nat → Nat} {wc : Nat → Nat → Nat} (hV : CV M T cs io sg e D nh nx ns nf ny tp cm w cn wc) (hM8 : M.1 ≤ 800000) (hE : M.2.2 1000000 = .inl (3, 0, .inr (.inr (.inr (.inr (fun _ => none)))))) (hsx : ∀ j, 2 ≤ j → j < 8 → M.2.2 (1000000 + j) = mm_hs 0 (fun _ => 0) j) (he3 : e 3 = 11 ∨ e 3 = 13) (ho to cr le hr : Int32) : ∃ (v : Value), ∃ (M2 : mH), ∃ (T2 : Nat → mT), ∃ (cs2 : Nat → Nat → Int32), ∃ (io2 : Nat → Int32), ∃ (sg2 : Nat → Nat → Int32), (mm_Ev 30 248 [.ref 100, .int ho, .int to, .int cr, .int le, .int hr] (rf_mk (hk M2 T2 cs2) io sg) (some v, rf_mk (hk M2 T2 cs2) io2 sg2) ∧ (M2.2.2 = M.2.2 ∧ M2.1 ≤ M.1 + 20 ∧ M2.2.1 ≤ M.2.1 + 1000) ∧ ∃ (e2 : Nat → Nat) (D2 : Nat → Nat → Nat) (nh2 nx2 ns2 nf2 ny2 tp2 : Nat) (cm2 : Nat → Nat) (w2 : Nat → Nat → Nat) (cn2 : Nat → Nat) (wc2 : Nat → Nat → Nat), CV M2 T2 cs2 io2 sg2 e2 D2 nh2 nx2 ns2 nf2 ny2 tp2 cm2 w2 cn2 wc2 ∧ (e2 3 = 11 ∨ e2 3 = 13)) ∧ mm_Ev 9 145 [.ref 0, .int ho, .int to, .int cr, .int le, .int hr] (hk M T cs) ((some v, hk M2 T2 cs2)) := by
  have hq9 : ∃ z, (fun r9 => ∃ (v : Value), ∃ (M2 : mH), ∃ (T2 : Nat → mT), ∃ (cs2 : Nat → Nat → Int32), ∃ (io2 : Nat → Int32), ∃ (sg2 : Nat → Nat → Int32), (mm_Ev 30 248 [.ref 100, .int ho, .int to, .int cr, .int le, .int hr] (rf_mk (hk M2 T2 cs2) io sg) (some v, rf_mk (hk M2 T2 cs2) io2 sg2) ∧ (M2.2.2 = M.2.2 ∧ M2.1 ≤ M.1 + 20 ∧ M2.2.1 ≤ M.2.1 + 1000) ∧ ∃ (e2 : Nat → Nat) (D2 : Nat → Nat → Nat) (nh2 nx2 ns2 nf2 ny2 tp2 : Nat) (cm2 : Nat → Nat) (w2 : Nat → Nat → Nat) (cn2 : Nat → Nat) (wc2 : Nat → Nat → Nat), CV M2 T2 cs2 io2 sg2 e2 D2 nh2 nx2 ns2 nf2 ny2 tp2 cm2 w2 cn2 wc2 ∧ (e2 3 = 11 ∨ e2 3 = 13)) ∧ r9 = ((some v, hk M2 T2 cs2))) z ∧ mm_Ev 9 145 [.ref 0, .int ho, .int to, .int cr, .int le, .int hr] (hk M T cs) z := by
    obtain ⟨⟨hM, hMs, hW⟩, hC, hT, hR, hJ⟩ := id hV
    obtain ⟨hF, ⟨hL0, hL1, hL2⟩, hSc, hAg, hSt⟩ := id hC
    obtain ⟨⟨⟨h3, hnh⟩, ⟨h4, hnx⟩, ⟨h5, hns⟩, ⟨h7, hnf⟩, ⟨h6, hny⟩, ⟨h23, htp⟩⟩, hRa, hRb, hRs, hRs2, hRs3, hRx, hCD, hRt, hRt2, hRf⟩ := id hR
    refine r_evQ (by decide +kernel) (show (6 : Nat) ≤ mm_nL 145 by decide +kernel) ?_
    show mm_Ru 8 (0, 7, false, prog_1_method_20_code, some .int) 0 [(0, .ref 0), (1, .int ho), (2, .int to), (3, .int cr), (4, .int le), (5, .int hr)] [] (hk M T cs) (fun r9 => ∃ (v : Value), ∃ (M2 : mH), ∃ (T2 : Nat → mT), ∃ (cs2 : Nat → Nat → Int32), ∃ (io2 : Nat → Int32), ∃ (sg2 : Nat → Nat → Int32), (mm_Ev 30 248 [.ref 100, .int ho, .int to, .int cr, .int le, .int hr] (rf_mk (hk M2 T2 cs2) io sg) (some v, rf_mk (hk M2 T2 cs2) io2 sg2) ∧ (M2.2.2 = M.2.2 ∧ M2.1 ≤ M.1 + 20 ∧ M2.2.1 ≤ M.2.1 + 1000) ∧ ∃ (e2 : Nat → Nat) (D2 : Nat → Nat → Nat) (nh2 nx2 ns2 nf2 ny2 tp2 : Nat) (cm2 : Nat → Nat) (w2 : Nat → Nat → Nat) (cn2 : Nat → Nat) (wc2 : Nat → Nat → Nat), CV M2 T2 cs2 io2 sg2 e2 D2 nh2 nx2 ns2 nf2 ny2 tp2 cm2 w2 cn2 wc2 ∧ (e2 3 = 11 ∨ e2 3 = 13)) ∧ r9 = ((some v, hk M2 T2 cs2)))
    refine r_aload_n rfl dc_1_20_0 ?_
    refine r_iload_n rfl dc_1_20_1 ?_
    by_cases h_2 : 0 ≤ ho ∧ ho < nI nh
    · skip
      obtain ⟨n_2, hn_2, e_2⟩ := g_lt h_2 (by omega)
      subst e_2
      refine h_callv (t := cT e 0) (as := [.int (nI n_2)]) (rest := []) (v := .ref (D 0 n_2)) (M1 := hk M T cs) rfl rfl iv_0_v128 (Or.inl rfl) na_1_39 ((hF 0 (by decide))) ⟨by omega, by omega⟩ (show (0 : Nat) < 14 by decide) o_39 rfl (show (0 : Nat) ≤ 8 by decide) dc_1_20_2 (mm_Ev_up (by decide : 4 ≤ 8) (k_scAt_ok hV n_2 hn_2)) ?_
      refine r_astore (ls' := [(6, .ref (D 0 n_2)), (0, .ref 0), (1, .int (nI n_2)), (2, .int to), (3, .int cr), (4, .int le), (5, .int hr)]) (by decide) rfl dc_1_20_5 ?_
      refine r_aload rfl dc_1_20_7 ?_
      refine r_ifnull dc_1_20_9 ?_
      refine r_iload_n rfl dc_1_20_12 ?_
      refine r_iconst (v := nI 0) (by decide) dc_1_20_13 ?_
      refine r_sipush (v := nI 4095) (by decide) dc_1_20_14 ?_
      by_cases h_17 : nI 0 ≤ to ∧ to ≤ nI 4095
      · skip
        obtain ⟨n_17, hn_17, e_17⟩ := g_nat2 h_17 (by omega) (by omega)
        subst e_17
        refine h_callS (as := [.int (nI n_17), .int (nI 0), .int (nI 4095)]) (rest := []) (v := .int (nI 1)) rfl rfl iv_0_s84 (Or.inl rfl) na_0_13 rfl (show (0 : Nat) ≤ 8 by decide) dc_1_20_17 (mm_Ev_up (by decide : 1 ≤ 8) (by have h9 := k_in (hk M T cs) (nI n_17) (nI 0) (nI 4095); rw [show sp_in (nI n_17) (nI 0) (nI 4095) = nI 1 from sp_in_ok (by omega) (by omega) (by omega)] at h9; exact h9)) ?_
        refine r_ifeq (t := 70) (by decide) dc_1_20_20 (fun c_20 => ?_) (fun c_20 => ?_)
        · exact absurd c_20 (by decide)
        · skip
          refine r_iload_n rfl dc_1_20_23 ?_
          refine r_iconst (v := nI 1) (by decide) dc_1_20_24 ?_
          refine r_bipush (v := nI 9) (by decide) dc_1_20_25 ?_
          by_cases h_27 : nI 1 ≤ cr ∧ cr ≤ nI 9
          · skip
            obtain ⟨n_27, hn_27, e_27⟩ := g_nat2 h_27 (by omega) (by omega)
            subst e_27
            refine h_callS (as := [.int (nI n_27), .int (nI 1), .int (nI 9)]) (rest := []) (v := .int (nI 1)) rfl rfl iv_0_s84 (Or.inl rfl) na_0_13 rfl (show (0 : Nat) ≤ 8 by decide) dc_1_20_27 (mm_Ev_up (by decide : 1 ≤ 8) (by have h9 := k_in (hk M T cs) (nI n_27) (nI 1) (nI 9); rw [show sp_in (nI n_27) (nI 1) (nI 9) = nI 1 from sp_in_ok (by omega) (by omega) (by omega)] at h9; exact h9)) ?_
            refine r_ifeq (t := 70) (by decide) dc_1_20_30 (fun c_30 => ?_) (fun c_30 => ?_)
            · exact absurd c_30 (by decide)
            · skip
              refine r_iload rfl dc_1_20_33 ?_
              refine r_iconst (v := nI 0) (by decide) dc_1_20_35 ?_
              refine r_bipush (v := nI 9) (by decide) dc_1_20_36 ?_
              by_cases h_38 : nI 0 ≤ le ∧ le ≤ nI 9
              · skip
                obtain ⟨n_38, hn_38, e_38⟩ := g_nat2 h_38 (by omega) (by omega)
                subst e_38
                refine h_callS (as := [.int (nI n_38), .int (nI 0), .int (nI 9)]) (rest := []) (v := .int (nI 1)) rfl rfl iv_0_s84 (Or.inl rfl) na_0_13 rfl (show (0 : Nat) ≤ 8 by decide) dc_1_20_38 (mm_Ev_up (by decide : 1 ≤ 8) (by have h9 := k_in (hk M T cs) (nI n_38) (nI 0) (nI 9); rw [show sp_in (nI n_38) (nI 0) (nI 9) = nI 1 from sp_in_ok (by omega) (by omega) (by omega)] at h9; exact h9)) ?_
                refine r_ifeq (t := 70) (by decide) dc_1_20_41 (fun c_41 => ?_) (fun c_41 => ?_)
                · exact absurd c_41 (by decide)
                · skip
                  refine r_iload rfl dc_1_20_44 ?_
                  refine r_iconst (v := nI 0) (by decide) dc_1_20_46 ?_
                  refine r_ldc (v := nI 1048575) nr_0_220 dc_1_20_47 ?_
                  by_cases h_49 : nI 0 ≤ hr ∧ hr ≤ nI 1048575
                  · skip
                    obtain ⟨n_49, hn_49, e_49⟩ := g_nat2 h_49 (by omega) (by omega)
                    subst e_49
                    refine h_callS (as := [.int (nI n_49), .int (nI 0), .int (nI 1048575)]) (rest := []) (v := .int (nI 1)) rfl rfl iv_0_s84 (Or.inl rfl) na_0_13 rfl (show (0 : Nat) ≤ 8 by decide) dc_1_20_49 (mm_Ev_up (by decide : 1 ≤ 8) (by have h9 := k_in (hk M T cs) (nI n_49) (nI 0) (nI 1048575); rw [show sp_in (nI n_49) (nI 0) (nI 1048575) = nI 1 from sp_in_ok (by omega) (by omega) (by omega)] at h9; exact h9)) ?_
                    refine r_ifeq (t := 70) (by decide) dc_1_20_52 (fun c_52 => ?_) (fun c_52 => ?_)
                    · exact absurd c_52 (by decide)
                    · skip
                      have q16 := inN_tN (hRs n_2 hn_2).2.2.2.2.2 (by decide)
                      refine r_aload rfl dc_1_20_55 ?_
                      refine h_get (t := (9, 0, rl [(6, D 1 n_2)])) (v := .ref (D 1 n_2)) fx_0_221 ((hSc n_2 (by omega)).1) (hSc n_2 (by omega)).2.1 (rfl) dc_1_20_57 ?_
                      refine h_callv (t := (6, 0, rl [(0, D 2 n_2)])) (as := []) (rest := []) (v := .int (nI (tN (sg 16 n_2)))) (M1 := hk M T cs) rfl rfl iv_0_f113 (Or.inr (Or.inr rfl)) na_6_26 ((hSc n_2 (by omega)).2.2.2.1.1) (hSc n_2 (by omega)).2.2.2.1.2.1 (show (6 : Nat) < 14 by decide) o_26 rfl (show (0 : Nat) ≤ 8 by decide) dc_1_20_60 (mm_Ev_up (by decide : 1 ≤ 8) (k_sizeL (hV.2.1.2.2.1 n_2 (by omega)).2.2.2.1)) ?_
                      refine r_bipush (v := nI 6) (by decide) dc_1_20_65 ?_
                      refine r_nclt (t := 72) (by omega) (by omega) (by decide) dc_1_20_67 (fun c_67 => ?_) (fun c_67 => ?_)
                      · skip
                        refine r_aload rfl dc_1_20_72 ?_
                        refine h_get (t := (9, 0, rl [(6, D 1 n_2)])) (v := .ref (D 1 n_2)) fx_0_221 ((hSc n_2 (by omega)).1) (hSc n_2 (by omega)).2.1 (rfl) dc_1_20_74 ?_
                        refine h_new (c := 12) (nf := 5) kr_0_218 (by show M.1 < 1000000; omega) (by show ¬ (100 ≤ M.1 ∧ M.1 < 157); omega) (mk_n12) (by decide +kernel) dc_1_20_77 ?_
                        show mm_Ru 8 (0, 7, false, prog_1_method_20_code, some .int) 80 [(6, .ref (D 0 n_2)), (0, .ref 0), (1, .int (nI n_2)), (2, .int (nI n_17)), (3, .int (nI n_27)), (4, .int (nI n_38)), (5, .int (nI n_49))] [.ref M.1, .ref (D 1 n_2)] (hk (mnew M 5) (va_up T M.1 ((12, 0, fun _ => none))) (wA cs M.1 (fun _ => 0))) (fun r9 => ∃ (v : Value), ∃ (M2 : mH), ∃ (T2 : Nat → mT), ∃ (cs2 : Nat → Nat → Int32), ∃ (io2 : Nat → Int32), ∃ (sg2 : Nat → Nat → Int32), (mm_Ev 30 248 [.ref 100, .int (nI n_2), .int (nI n_17), .int (nI n_27), .int (nI n_38), .int (nI n_49)] (rf_mk (hk M2 T2 cs2) io sg) (some v, rf_mk (hk M2 T2 cs2) io2 sg2) ∧ (M2.2.2 = M.2.2 ∧ M2.1 ≤ M.1 + 20 ∧ M2.2.1 ≤ M.2.1 + 1000) ∧ ∃ (e2 : Nat → Nat) (D2 : Nat → Nat → Nat) (nh2 nx2 ns2 nf2 ny2 tp2 : Nat) (cm2 : Nat → Nat) (w2 : Nat → Nat → Nat) (cn2 : Nat → Nat) (wc2 : Nat → Nat → Nat), CV M2 T2 cs2 io2 sg2 e2 D2 nh2 nx2 ns2 nf2 ny2 tp2 cm2 w2 cn2 wc2 ∧ (e2 3 = 11 ∨ e2 3 = 13)) ∧ r9 = ((some v, hk M2 T2 cs2)))
                        refine r_dup rfl dc_1_20_80 ?_
                        refine r_iload_n rfl dc_1_20_81 ?_
                        refine r_iload_n rfl dc_1_20_82 ?_
                        refine r_iload rfl dc_1_20_83 ?_
                        refine r_iload rfl dc_1_20_85 ?_
                        have hlt1 := (hSc n_2 hn_2).2.2.2.1.2.1.1
                        have hlo1 := DJ_lo hJ (dvl_1 hn_2 : dvl sg nh nx ns 1 n_2)
                        obtain ⟨M1, T1, cs1, ⟨⟨g1, g2, g3⟩, hT1, hc1, hnew⟩, hev1⟩ := nw_course hM hM8 T cs (nI n_17) (nI n_27) (nI n_38) (nI n_49)
                        refine h_callI (as := [.int (nI n_17), .int (nI n_27), .int (nI n_38), .int (nI n_49)]) (rest := [.ref M.1, .ref (D 1 n_2)]) (M1 := hk M1 T1 cs1) rfl rfl iv_0_i224 (Or.inl rfl) na_2_146 rfl (show (2 : Nat) ≤ 8 by decide) dc_1_20_87 (mm_Ev_up (by decide : 4 ≤ 8) (hev1)) ?_
                        have hLc := (hSc n_2 hn_2).2.2.2.1
                        have hlo1 := DJ_lo hJ (dvl_1 hn_2 : dvl sg nh nx ns 1 n_2)
                        have hlo0 := DJ_lo hJ (dvl_0 hn_2 : dvl sg nh nx ns 0 n_2)
                        have hee : (157 ≤ D 2 n_2 ∧ D 2 n_2 < M.1 ∧ ¬ D 1 n_2 = D 2 n_2 ∧ ¬ D 0 n_2 = D 2 n_2) ∨ D 2 n_2 = 1000000 := hLc.2.2.2.2.elim (fun y => Or.inr y.2) (fun ⟨y, c, r, y1, y2, y3⟩ => Or.inl ⟨DJ_lo hJ (⟨by decide, Or.inr (Or.inl ⟨rfl, hn_2, y⟩)⟩ : dvl sg nh nx ns 2 n_2), y2.1, DJ_ne hJ (dvl_1 hn_2) (⟨by decide, Or.inr (Or.inl ⟨rfl, hn_2, y⟩)⟩ : dvl sg nh nx ns 2 n_2) (by omega), DJ_ne hJ (dvl_0 hn_2) (⟨by decide, Or.inr (Or.inl ⟨rfl, hn_2, y⟩)⟩ : dvl sg nh nx ns 2 n_2) (by omega)⟩)
                        have hd10 := DJ_ne hJ (dvl_0 hn_2) (dvl_1 hn_2 : dvl sg nh nx ns 1 n_2) (by omega)
                        have hlt1 := hLc.2.1.1
                        have hlt0 := (hSc n_2 hn_2).2.1.1
                        have hLx : LsR M1 T1 cs1 (D 1 n_2) (D 2 n_2) (tN (sg 16 n_2)) (fun c => D 3 (6 * n_2 + c)) := LsR_x hLc (by omega) (hT1 _ hlt1) (fun h0 => hT1 (D 2 n_2) (by rcases hLc.2.2.2.2 with y | ⟨y, c, r, y1, y2, y3⟩; exact absurd y.1 (by omega); exact y2.1)) (hc1 _ hlt1)
                        have hel : ∀ i, i < tN (sg 16 n_2) → inC M1 (D 3 (6 * n_2 + i)) ∧ (T1 (D 3 (6 * n_2 + i))).1 < 14 := fun i hi => ⟨inC_x ((hSc n_2 hn_2).2.2.2.2 i hi).2.1 (by omega), by rw [hT1 _ ((hSc n_2 hn_2).2.2.2.2 i hi).2.1.1, ((hSc n_2 hn_2).2.2.2.2 i hi).1]; exact (by decide : 12 < 14)⟩
                        have h14n : (T1 M.1).1 < 14 := by rw [hnew.1]; exact (by decide : 12 < 14)
                        obtain ⟨M2, T2, cs2, ed2, hA, hev2⟩ := k_addL M1 (by omega) (by omega) T1 cs1 (D 1 n_2) (D 2 n_2) (tN (sg 16 n_2)) (fun c => D 3 (6 * n_2 + c)) hLx (by omega) hel (by omega) (by rw [g3]; exact hE) M.1 ⟨by omega, by omega⟩ h14n (by omega)
                        have hs2 := hA.2.2.2.1
                        have hed2 := hA.1
                        have hsl := hA.2.1
                        refine h_callv (t := (6, 0, rl [(0, D 2 n_2)])) (as := [.ref M.1]) (rest := []) (v := .int (nI 1)) (M1 := hk M2 T2 cs2) rfl rfl iv_0_f124 (Or.inr (Or.inr rfl)) na_6_28 (((hT1 (D 1 n_2) (by omega)).trans (hSc n_2 hn_2).2.2.2.1.1)) ⟨by omega, by omega⟩ (show (6 : Nat) < 14 by decide) o_28 rfl (show (0 : Nat) ≤ 8 by decide) dc_1_20_90 (mm_Ev_up (by decide : 7 ≤ 8) (hev2)) ?_
                        refine r_pop rfl dc_1_20_95 ?_
                        refine r_aload rfl dc_1_20_96 ?_
                        refine h_get (t := (9, 0, rl [(6, D 1 n_2)])) (v := .ref (D 1 n_2)) fx_0_221 (((hA.2.2.2.2.1 (D 0 n_2) (by omega) hd10 (by omega)).trans ((hT1 _ hlt0).trans (hSc n_2 hn_2).1))) ⟨by omega, by omega⟩ (rfl) dc_1_20_98 ?_
                        refine h_callv (t := (6, 0, rl [(0, ed2)])) (as := []) (rest := []) (v := .int (nI (tN (sg 16 n_2) + 1))) (M1 := hk M2 T2 cs2) rfl rfl iv_0_f113 (Or.inr (Or.inr rfl)) na_6_26 hs2.1 hs2.2.1 (show (6 : Nat) < 14 by decide) o_26 rfl (show (0 : Nat) ≤ 8 by decide) dc_1_20_101 (mm_Ev_up (by decide : 1 ≤ 8) (k_sizeL hs2)) ?_
                        refine r_iconst (v := nI 1) (by decide) dc_1_20_106 ?_
                        refine r_isub (v := nI (tN (sg 16 n_2))) ((nI_sb (by omega)).trans (congrArg nI (by omega))) dc_1_20_107 ?_
                        refine r_iret rfl dc_1_20_108 ?_
                        obtain ⟨D2, hV2⟩ := CV_course hV hn_2 q16.1 (by omega) g1 (by omega) g3 hT1 hc1 hA hnew.1 hnew.2
                        refine ⟨_, M2, T2, cs2, _, _, ⟨mm_Ev_up (by decide) (c_course_ok (hk M2 T2 cs2) hV2.1.1 io sg nh h3 hnh n_2 n_17 n_27 n_38 n_49 hn_2 (by omega) (by omega) (by omega) (by omega) (by omega) _ q16.1 (by omega)), ⟨hA.2.2.1.trans g3, by omega, by omega⟩, e, D2, _, _, _, _, _, _, _, _, _, _, hV2, he3⟩, rfl⟩
                      · skip
                        refine r_iconst (v := -1) (by decide) dc_1_20_70 ?_
                        refine r_iret rfl dc_1_20_71 ?_
                        refine ⟨_, M, T, _, io, sg, ⟨mm_Ev_up (by decide) (c_course_n2 (hk M T cs) hM io sg nh h3 hnh n_2 n_17 n_27 n_38 n_49 hn_2 (by omega) (by omega) (by omega) (by omega) (by omega) (by rw [q16.1, show tN (sg 16 n_2) = 6 by omega])), ⟨rfl, by omega, by omega⟩, e, D, nh, nx, ns, nf, ny, tp, cm, w, cn, wc, hV, he3⟩, rfl⟩
                  · skip
                    refine h_callS (as := [.int hr, .int (nI 0), .int (nI 1048575)]) (rest := []) (v := .int (nI 0)) rfl rfl iv_0_s84 (Or.inl rfl) na_0_13 rfl (show (0 : Nat) ≤ 8 by decide) dc_1_20_49 (mm_Ev_up (by decide : 1 ≤ 8) (by have h9 := k_in (hk M T cs) hr (nI 0) (nI 1048575); rw [show sp_in hr (nI 0) (nI 1048575) = nI 0 from if_neg h_49] at h9; exact h9)) ?_
                    refine r_ifeq (t := 70) (by decide) dc_1_20_52 (fun c_52 => ?_) (fun c_52 => ?_)
                    · skip
                      refine r_iconst (v := -1) (by decide) dc_1_20_70 ?_
                      refine r_iret rfl dc_1_20_71 ?_
                      refine ⟨_, M, T, _, io, sg, ⟨mm_Ev_up (by decide) (c_course_no (hk M T cs) hM io sg _ _ _ _ _ (fun g => h_49 (g.2.2.2.2))), ⟨rfl, by omega, by omega⟩, e, D, nh, nx, ns, nf, ny, tp, cm, w, cn, wc, hV, he3⟩, rfl⟩
                    · exact absurd c_52 (by decide)
              · skip
                refine h_callS (as := [.int le, .int (nI 0), .int (nI 9)]) (rest := []) (v := .int (nI 0)) rfl rfl iv_0_s84 (Or.inl rfl) na_0_13 rfl (show (0 : Nat) ≤ 8 by decide) dc_1_20_38 (mm_Ev_up (by decide : 1 ≤ 8) (by have h9 := k_in (hk M T cs) le (nI 0) (nI 9); rw [show sp_in le (nI 0) (nI 9) = nI 0 from if_neg h_38] at h9; exact h9)) ?_
                refine r_ifeq (t := 70) (by decide) dc_1_20_41 (fun c_41 => ?_) (fun c_41 => ?_)
                · skip
                  refine r_iconst (v := -1) (by decide) dc_1_20_70 ?_
                  refine r_iret rfl dc_1_20_71 ?_
                  refine ⟨_, M, T, _, io, sg, ⟨mm_Ev_up (by decide) (c_course_no (hk M T cs) hM io sg _ _ _ _ _ (fun g => h_38 (g.2.2.2.1))), ⟨rfl, by omega, by omega⟩, e, D, nh, nx, ns, nf, ny, tp, cm, w, cn, wc, hV, he3⟩, rfl⟩
                · exact absurd c_41 (by decide)
          · skip
            refine h_callS (as := [.int cr, .int (nI 1), .int (nI 9)]) (rest := []) (v := .int (nI 0)) rfl rfl iv_0_s84 (Or.inl rfl) na_0_13 rfl (show (0 : Nat) ≤ 8 by decide) dc_1_20_27 (mm_Ev_up (by decide : 1 ≤ 8) (by have h9 := k_in (hk M T cs) cr (nI 1) (nI 9); rw [show sp_in cr (nI 1) (nI 9) = nI 0 from if_neg h_27] at h9; exact h9)) ?_
            refine r_ifeq (t := 70) (by decide) dc_1_20_30 (fun c_30 => ?_) (fun c_30 => ?_)
            · skip
              refine r_iconst (v := -1) (by decide) dc_1_20_70 ?_
              refine r_iret rfl dc_1_20_71 ?_
              refine ⟨_, M, T, _, io, sg, ⟨mm_Ev_up (by decide) (c_course_no (hk M T cs) hM io sg _ _ _ _ _ (fun g => h_27 (g.2.2.1))), ⟨rfl, by omega, by omega⟩, e, D, nh, nx, ns, nf, ny, tp, cm, w, cn, wc, hV, he3⟩, rfl⟩
            · exact absurd c_30 (by decide)
      · skip
        refine h_callS (as := [.int to, .int (nI 0), .int (nI 4095)]) (rest := []) (v := .int (nI 0)) rfl rfl iv_0_s84 (Or.inl rfl) na_0_13 rfl (show (0 : Nat) ≤ 8 by decide) dc_1_20_17 (mm_Ev_up (by decide : 1 ≤ 8) (by have h9 := k_in (hk M T cs) to (nI 0) (nI 4095); rw [show sp_in to (nI 0) (nI 4095) = nI 0 from if_neg h_17] at h9; exact h9)) ?_
        refine r_ifeq (t := 70) (by decide) dc_1_20_20 (fun c_20 => ?_) (fun c_20 => ?_)
        · skip
          refine r_iconst (v := -1) (by decide) dc_1_20_70 ?_
          refine r_iret rfl dc_1_20_71 ?_
          refine ⟨_, M, T, _, io, sg, ⟨mm_Ev_up (by decide) (c_course_no (hk M T cs) hM io sg _ _ _ _ _ (fun g => h_17 (g.2.1))), ⟨rfl, by omega, by omega⟩, e, D, nh, nx, ns, nf, ny, tp, cm, w, cn, wc, hV, he3⟩, rfl⟩
        · exact absurd c_20 (by decide)
    · skip
      refine h_callv (t := cT e 0) (as := [.int ho]) (rest := []) (v := .null) (M1 := hk M T cs) rfl rfl iv_0_v128 (Or.inl rfl) na_1_39 ((hF 0 (by decide))) ⟨by omega, by omega⟩ (show (0 : Nat) < 14 by decide) o_39 rfl (show (0 : Nat) ≤ 8 by decide) dc_1_20_2 (mm_Ev_up (by decide : 2 ≤ 8) (k_scAt_no hV ho h_2)) ?_
      refine r_astoreZ (ls' := [(6, .null), (0, .ref 0), (1, .int ho), (2, .int to), (3, .int cr), (4, .int le), (5, .int hr)]) (by decide) rfl dc_1_20_5 ?_
      refine r_aloadZ rfl dc_1_20_7 ?_
      refine r_ifnullZ (t := 70) (by decide) dc_1_20_9 ?_
      refine r_iconst (v := -1) (by decide) dc_1_20_70 ?_
      refine r_iret rfl dc_1_20_71 ?_
      refine ⟨_, M, T, _, io, sg, ⟨mm_Ev_up (by decide) (c_course_no (hk M T cs) hM io sg _ _ _ _ _ (fun g => h_2 (by rw [← h3]; exact g.1))), ⟨rfl, by omega, by omega⟩, e, D, nh, nx, ns, nf, ny, tp, cm, w, cn, wc, hV, he3⟩, rfl⟩
  obtain ⟨z9, ⟨v, M2, T2, cs2, io2, sg2, p9, e9⟩, h9⟩ := hq9
  subst e9
  exact ⟨v, M2, T2, cs2, io2, sg2, p9, h9⟩
theorem st_course (ho to cr le hr : Int32) : StpG 145 248 [.int ho, .int to, .int cr, .int le, .int hr] := fun M T cs sg io e D nh nx ns nf ny tp cm w cn wc hV h8 hE hs h3 => by
  obtain ⟨v, M2, T2, cs2, io2, sg2, hp, h⟩ := s_course hV h8 hE hs h3 ho to cr le hr
  exact ⟨v, M2, T2, cs2, io2, sg2, hp, mm_Ev_up (by decide) h⟩
