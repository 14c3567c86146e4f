/-! the grid -/
theorem dc_6_2_0 : decode prog_6_method_2_code 0 = .ok (.aload_n 0, 1) := by decide +kernel
theorem dc_6_2_1 : decode prog_6_method_2_code 1 = .ok (.aload_n 1, 1) := by decide +kernel
theorem dc_6_2_2 : decode prog_6_method_2_code 2 = .ok (.aload_n 2, 1) := by decide +kernel
theorem dc_6_2_3 : decode prog_6_method_2_code 3 = .ok (.iconst 1, 1) := by decide +kernel
theorem dc_6_2_4 : decode prog_6_method_2_code 4 = .ok (.invokevirtual 16, 3) := by decide +kernel
theorem dc_6_2_7 : decode prog_6_method_2_code 7 = .ok (.ireturn, 1) := by decide +kernel
theorem dc_6_3_0 : decode prog_6_method_3_code 0 = .ok (.aload_n 0, 1) := by decide +kernel
theorem dc_6_3_1 : decode prog_6_method_3_code 1 = .ok (.aload_n 1, 1) := by decide +kernel
theorem dc_6_3_2 : decode prog_6_method_3_code 2 = .ok (.aload_n 2, 1) := by decide +kernel
theorem dc_6_3_3 : decode prog_6_method_3_code 3 = .ok (.iconst 0, 1) := by decide +kernel
theorem dc_6_3_4 : decode prog_6_method_3_code 4 = .ok (.invokevirtual 16, 3) := by decide +kernel
theorem dc_6_3_7 : decode prog_6_method_3_code 7 = .ok (.ireturn, 1) := by decide +kernel
theorem dc_6_4_0 : decode prog_6_method_4_code 0 = .ok (.iconst 0, 1) := by decide +kernel
theorem dc_6_4_1 : decode prog_6_method_4_code 1 = .ok (.istore 4, 2) := by decide +kernel
theorem dc_6_4_3 : decode prog_6_method_4_code 3 = .ok (.iload 4, 2) := by decide +kernel
theorem dc_6_4_5 : decode prog_6_method_4_code 5 = .ok (.iconst 3, 1) := by decide +kernel
theorem dc_6_4_6 : decode prog_6_method_4_code 6 = .ok (.if_icmp .ge 30, 3) := by decide +kernel
theorem dc_6_4_9 : decode prog_6_method_4_code 9 = .ok (.aload_n 0, 1) := by decide +kernel
theorem dc_6_4_10 : decode prog_6_method_4_code 10 = .ok (.getfield 13, 3) := by decide +kernel
theorem dc_6_4_13 : decode prog_6_method_4_code 13 = .ok (.iload 4, 2) := by decide +kernel
theorem dc_6_4_15 : decode prog_6_method_4_code 15 = .ok (.aaload, 1) := by decide +kernel
theorem dc_6_4_16 : decode prog_6_method_4_code 16 = .ok (.iconst 0, 1) := by decide +kernel
theorem dc_6_4_17 : decode prog_6_method_4_code 17 = .ok (.invokestatic 20, 3) := by decide +kernel
theorem dc_6_4_20 : decode prog_6_method_4_code 20 = .ok (.aload_n 0, 1) := by decide +kernel
theorem dc_6_4_21 : decode prog_6_method_4_code 21 = .ok (.getfield 13, 3) := by decide +kernel
theorem dc_6_4_24 : decode prog_6_method_4_code 24 = .ok (.iload 4, 2) := by decide +kernel
theorem dc_6_4_26 : decode prog_6_method_4_code 26 = .ok (.aaload, 1) := by decide +kernel
theorem dc_6_4_27 : decode prog_6_method_4_code 27 = .ok (.iconst 0, 1) := by decide +kernel
theorem dc_6_4_28 : decode prog_6_method_4_code 28 = .ok (.iconst 1, 1) := by decide +kernel
theorem dc_6_4_29 : decode prog_6_method_4_code 29 = .ok (.iastore, 1) := by decide +kernel
theorem dc_6_4_30 : decode prog_6_method_4_code 30 = .ok (.iinc 4 1, 3) := by decide +kernel
theorem dc_6_4_33 : decode prog_6_method_4_code 33 = .ok (.goto (-30), 3) := by decide +kernel
theorem dc_6_4_36 : decode prog_6_method_4_code 36 = .ok (.aload_n 0, 1) := by decide +kernel
theorem dc_6_4_37 : decode prog_6_method_4_code 37 = .ok (.aload_n 1, 1) := by decide +kernel
theorem dc_6_4_38 : decode prog_6_method_4_code 38 = .ok (.getfield 26, 3) := by decide +kernel
theorem dc_6_4_41 : decode prog_6_method_4_code 41 = .ok (.invokevirtual 32, 3) := by decide +kernel
theorem dc_6_4_44 : decode prog_6_method_4_code 44 = .ok (.aload_n 0, 1) := by decide +kernel
theorem dc_6_4_45 : decode prog_6_method_4_code 45 = .ok (.aload_n 2, 1) := by decide +kernel
theorem dc_6_4_46 : decode prog_6_method_4_code 46 = .ok (.getfield 26, 3) := by decide +kernel
theorem dc_6_4_49 : decode prog_6_method_4_code 49 = .ok (.invokevirtual 32, 3) := by decide +kernel
theorem dc_6_4_52 : decode prog_6_method_4_code 52 = .ok (.iconst 0, 1) := by decide +kernel
theorem dc_6_4_53 : decode prog_6_method_4_code 53 = .ok (.istore 4, 2) := by decide +kernel
theorem dc_6_4_55 : decode prog_6_method_4_code 55 = .ok (.iload 4, 2) := by decide +kernel
theorem dc_6_4_57 : decode prog_6_method_4_code 57 = .ok (.bipush 100, 2) := by decide +kernel
theorem dc_6_4_59 : decode prog_6_method_4_code 59 = .ok (.if_icmp .gt 36, 3) := by decide +kernel
theorem dc_6_4_62 : decode prog_6_method_4_code 62 = .ok (.aload_n 0, 1) := by decide +kernel
theorem dc_6_4_63 : decode prog_6_method_4_code 63 = .ok (.getfield 13, 3) := by decide +kernel
theorem dc_6_4_66 : decode prog_6_method_4_code 66 = .ok (.iconst 0, 1) := by decide +kernel
theorem dc_6_4_67 : decode prog_6_method_4_code 67 = .ok (.aaload, 1) := by decide +kernel
theorem dc_6_4_68 : decode prog_6_method_4_code 68 = .ok (.iload 4, 2) := by decide +kernel
theorem dc_6_4_70 : decode prog_6_method_4_code 70 = .ok (.iaload, 1) := by decide +kernel
theorem dc_6_4_71 : decode prog_6_method_4_code 71 = .ok (.iconst 1, 1) := by decide +kernel
theorem dc_6_4_72 : decode prog_6_method_4_code 72 = .ok (.if_icmp .ne 17, 3) := by decide +kernel
theorem dc_6_4_75 : decode prog_6_method_4_code 75 = .ok (.aload_n 0, 1) := by decide +kernel
theorem dc_6_4_76 : decode prog_6_method_4_code 76 = .ok (.aload_n 1, 1) := by decide +kernel
theorem dc_6_4_77 : decode prog_6_method_4_code 77 = .ok (.aload_n 2, 1) := by decide +kernel
theorem dc_6_4_78 : decode prog_6_method_4_code 78 = .ok (.iload_n 3, 1) := by decide +kernel
theorem dc_6_4_79 : decode prog_6_method_4_code 79 = .ok (.iload 4, 2) := by decide +kernel
theorem dc_6_4_81 : decode prog_6_method_4_code 81 = .ok (.invokevirtual 36, 3) := by decide +kernel
theorem dc_6_4_84 : decode prog_6_method_4_code 84 = .ok (.ifCond .eq 5, 3) := by decide +kernel
theorem dc_6_4_87 : decode prog_6_method_4_code 87 = .ok (.iconst 1, 1) := by decide +kernel
theorem dc_6_4_88 : decode prog_6_method_4_code 88 = .ok (.ireturn, 1) := by decide +kernel
theorem dc_6_4_89 : decode prog_6_method_4_code 89 = .ok (.iinc 4 1, 3) := by decide +kernel
theorem dc_6_4_92 : decode prog_6_method_4_code 92 = .ok (.goto (-37), 3) := by decide +kernel
theorem dc_6_4_95 : decode prog_6_method_4_code 95 = .ok (.iconst 0, 1) := by decide +kernel
theorem dc_6_4_96 : decode prog_6_method_4_code 96 = .ok (.ireturn, 1) := by decide +kernel
theorem dc_6_5_0 : decode prog_6_method_5_code 0 = .ok (.iload_n 3, 1) := by decide +kernel
theorem dc_6_5_1 : decode prog_6_method_5_code 1 = .ok (.ifCond .eq 7, 3) := by decide +kernel
theorem dc_6_5_4 : decode prog_6_method_5_code 4 = .ok (.iconst 0, 1) := by decide +kernel
theorem dc_6_5_5 : decode prog_6_method_5_code 5 = .ok (.goto 6, 3) := by decide +kernel
theorem dc_6_5_8 : decode prog_6_method_5_code 8 = .ok (.sipush 255, 3) := by decide +kernel
theorem dc_6_5_11 : decode prog_6_method_5_code 11 = .ok (.istore 5, 2) := by decide +kernel
theorem dc_6_5_13 : decode prog_6_method_5_code 13 = .ok (.iconst 0, 1) := by decide +kernel
theorem dc_6_5_14 : decode prog_6_method_5_code 14 = .ok (.istore 6, 2) := by decide +kernel
theorem dc_6_5_16 : decode prog_6_method_5_code 16 = .ok (.iload 6, 2) := by decide +kernel
theorem dc_6_5_18 : decode prog_6_method_5_code 18 = .ok (.bipush 9, 2) := by decide +kernel
theorem dc_6_5_20 : decode prog_6_method_5_code 20 = .ok (.if_icmp .gt 94, 3) := by decide +kernel
theorem dc_6_5_23 : decode prog_6_method_5_code 23 = .ok (.aload_n 0, 1) := by decide +kernel
theorem dc_6_5_24 : decode prog_6_method_5_code 24 = .ok (.getfield 13, 3) := by decide +kernel
theorem dc_6_5_27 : decode prog_6_method_5_code 27 = .ok (.iconst 1, 1) := by decide +kernel
theorem dc_6_5_28 : decode prog_6_method_5_code 28 = .ok (.aaload, 1) := by decide +kernel
theorem dc_6_5_29 : decode prog_6_method_5_code 29 = .ok (.iload 6, 2) := by decide +kernel
theorem dc_6_5_31 : decode prog_6_method_5_code 31 = .ok (.iaload, 1) := by decide +kernel
theorem dc_6_5_32 : decode prog_6_method_5_code 32 = .ok (.ifCond .ne 6, 3) := by decide +kernel
theorem dc_6_5_35 : decode prog_6_method_5_code 35 = .ok (.goto 73, 3) := by decide +kernel
theorem dc_6_5_38 : decode prog_6_method_5_code 38 = .ok (.iconst 0, 1) := by decide +kernel
theorem dc_6_5_39 : decode prog_6_method_5_code 39 = .ok (.istore 7, 2) := by decide +kernel
theorem dc_6_5_41 : decode prog_6_method_5_code 41 = .ok (.iload 7, 2) := by decide +kernel
theorem dc_6_5_43 : decode prog_6_method_5_code 43 = .ok (.bipush 99, 2) := by decide +kernel
theorem dc_6_5_45 : decode prog_6_method_5_code 45 = .ok (.if_icmp .gt 63, 3) := by decide +kernel
theorem dc_6_5_48 : decode prog_6_method_5_code 48 = .ok (.aload_n 0, 1) := by decide +kernel
theorem dc_6_5_49 : decode prog_6_method_5_code 49 = .ok (.getfield 13, 3) := by decide +kernel
theorem dc_6_5_52 : decode prog_6_method_5_code 52 = .ok (.iconst 2, 1) := by decide +kernel
theorem dc_6_5_53 : decode prog_6_method_5_code 53 = .ok (.aaload, 1) := by decide +kernel
theorem dc_6_5_54 : decode prog_6_method_5_code 54 = .ok (.iload 7, 2) := by decide +kernel
theorem dc_6_5_56 : decode prog_6_method_5_code 56 = .ok (.iaload, 1) := by decide +kernel
theorem dc_6_5_57 : decode prog_6_method_5_code 57 = .ok (.ifCond .ne 7, 3) := by decide +kernel
theorem dc_6_5_60 : decode prog_6_method_5_code 60 = .ok (.iconst 0, 1) := by decide +kernel
theorem dc_6_5_61 : decode prog_6_method_5_code 61 = .ok (.goto 13, 3) := by decide +kernel
theorem dc_6_5_64 : decode prog_6_method_5_code 64 = .ok (.aload_n 1, 1) := by decide +kernel
theorem dc_6_5_65 : decode prog_6_method_5_code 65 = .ok (.iload 4, 2) := by decide +kernel
theorem dc_6_5_67 : decode prog_6_method_5_code 67 = .ok (.iload 6, 2) := by decide +kernel
theorem dc_6_5_69 : decode prog_6_method_5_code 69 = .ok (.iload 7, 2) := by decide +kernel
theorem dc_6_5_71 : decode prog_6_method_5_code 71 = .ok (.invokevirtual 40, 3) := by decide +kernel
theorem dc_6_5_74 : decode prog_6_method_5_code 74 = .ok (.istore 8, 2) := by decide +kernel
theorem dc_6_5_76 : decode prog_6_method_5_code 76 = .ok (.iload 8, 2) := by decide +kernel
theorem dc_6_5_78 : decode prog_6_method_5_code 78 = .ok (.ifCond .eq 24, 3) := by decide +kernel
theorem dc_6_5_81 : decode prog_6_method_5_code 81 = .ok (.iload 8, 2) := by decide +kernel
theorem dc_6_5_83 : decode prog_6_method_5_code 83 = .ok (.iload 5, 2) := by decide +kernel
theorem dc_6_5_85 : decode prog_6_method_5_code 85 = .ok (.aload_n 2, 1) := by decide +kernel
theorem dc_6_5_86 : decode prog_6_method_5_code 86 = .ok (.iload 4, 2) := by decide +kernel
theorem dc_6_5_88 : decode prog_6_method_5_code 88 = .ok (.iload 6, 2) := by decide +kernel
theorem dc_6_5_90 : decode prog_6_method_5_code 90 = .ok (.iload 7, 2) := by decide +kernel
theorem dc_6_5_92 : decode prog_6_method_5_code 92 = .ok (.invokevirtual 40, 3) := by decide +kernel
theorem dc_6_5_95 : decode prog_6_method_5_code 95 = .ok (.ixor, 1) := by decide +kernel
theorem dc_6_5_96 : decode prog_6_method_5_code 96 = .ok (.iand, 1) := by decide +kernel
theorem dc_6_5_97 : decode prog_6_method_5_code 97 = .ok (.ifCond .eq 5, 3) := by decide +kernel
theorem dc_6_5_100 : decode prog_6_method_5_code 100 = .ok (.iconst 1, 1) := by decide +kernel
theorem dc_6_5_101 : decode prog_6_method_5_code 101 = .ok (.ireturn, 1) := by decide +kernel
theorem dc_6_5_102 : decode prog_6_method_5_code 102 = .ok (.iinc 7 1, 3) := by decide +kernel
theorem dc_6_5_105 : decode prog_6_method_5_code 105 = .ok (.goto (-64), 3) := by decide +kernel
theorem dc_6_5_108 : decode prog_6_method_5_code 108 = .ok (.iinc 6 1, 3) := by decide +kernel
theorem dc_6_5_111 : decode prog_6_method_5_code 111 = .ok (.goto (-95), 3) := by decide +kernel
theorem dc_6_5_114 : decode prog_6_method_5_code 114 = .ok (.iconst 0, 1) := by decide +kernel
theorem dc_6_5_115 : decode prog_6_method_5_code 115 = .ok (.ireturn, 1) := by decide +kernel
theorem dc_6_6_0 : decode prog_6_method_6_code 0 = .ok (.iconst 0, 1) := by decide +kernel
theorem dc_6_6_1 : decode prog_6_method_6_code 1 = .ok (.istore_n 2, 1) := by decide +kernel
theorem dc_6_6_2 : decode prog_6_method_6_code 2 = .ok (.iload_n 2, 1) := by decide +kernel
theorem dc_6_6_3 : decode prog_6_method_6_code 3 = .ok (.aload_n 1, 1) := by decide +kernel
theorem dc_6_6_4 : decode prog_6_method_6_code 4 = .ok (.arraylength, 1) := by decide +kernel
theorem dc_6_6_5 : decode prog_6_method_6_code 5 = .ok (.if_icmp .ge 55, 3) := by decide +kernel
theorem dc_6_6_8 : decode prog_6_method_6_code 8 = .ok (.aload_n 1, 1) := by decide +kernel
theorem dc_6_6_9 : decode prog_6_method_6_code 9 = .ok (.iload_n 2, 1) := by decide +kernel
theorem dc_6_6_10 : decode prog_6_method_6_code 10 = .ok (.iaload, 1) := by decide +kernel
theorem dc_6_6_11 : decode prog_6_method_6_code 11 = .ok (.sipush 10000, 3) := by decide +kernel
theorem dc_6_6_14 : decode prog_6_method_6_code 14 = .ok (.idiv, 1) := by decide +kernel
theorem dc_6_6_15 : decode prog_6_method_6_code 15 = .ok (.iconst 3, 1) := by decide +kernel
theorem dc_6_6_16 : decode prog_6_method_6_code 16 = .ok (.idiv, 1) := by decide +kernel
theorem dc_6_6_17 : decode prog_6_method_6_code 17 = .ok (.istore_n 3, 1) := by decide +kernel
theorem dc_6_6_18 : decode prog_6_method_6_code 18 = .ok (.aload_n 1, 1) := by decide +kernel
theorem dc_6_6_19 : decode prog_6_method_6_code 19 = .ok (.iload_n 2, 1) := by decide +kernel
theorem dc_6_6_20 : decode prog_6_method_6_code 20 = .ok (.iaload, 1) := by decide +kernel
theorem dc_6_6_21 : decode prog_6_method_6_code 21 = .ok (.sipush 10000, 3) := by decide +kernel
theorem dc_6_6_24 : decode prog_6_method_6_code 24 = .ok (.irem, 1) := by decide +kernel
theorem dc_6_6_25 : decode prog_6_method_6_code 25 = .ok (.istore 4, 2) := by decide +kernel
theorem dc_6_6_27 : decode prog_6_method_6_code 27 = .ok (.aload_n 1, 1) := by decide +kernel
theorem dc_6_6_28 : decode prog_6_method_6_code 28 = .ok (.iload_n 2, 1) := by decide +kernel
theorem dc_6_6_29 : decode prog_6_method_6_code 29 = .ok (.iaload, 1) := by decide +kernel
theorem dc_6_6_30 : decode prog_6_method_6_code 30 = .ok (.ifCond .lt 24, 3) := by decide +kernel
theorem dc_6_6_33 : decode prog_6_method_6_code 33 = .ok (.iload_n 3, 1) := by decide +kernel
theorem dc_6_6_34 : decode prog_6_method_6_code 34 = .ok (.iconst 3, 1) := by decide +kernel
theorem dc_6_6_35 : decode prog_6_method_6_code 35 = .ok (.if_icmp .ge 19, 3) := by decide +kernel
theorem dc_6_6_38 : decode prog_6_method_6_code 38 = .ok (.aload_n 0, 1) := by decide +kernel
theorem dc_6_6_39 : decode prog_6_method_6_code 39 = .ok (.iload_n 3, 1) := by decide +kernel
theorem dc_6_6_40 : decode prog_6_method_6_code 40 = .ok (.iload 4, 2) := by decide +kernel
theorem dc_6_6_42 : decode prog_6_method_6_code 42 = .ok (.invokevirtual 46, 3) := by decide +kernel
theorem dc_6_6_45 : decode prog_6_method_6_code 45 = .ok (.aload_n 0, 1) := by decide +kernel
theorem dc_6_6_46 : decode prog_6_method_6_code 46 = .ok (.iload_n 3, 1) := by decide +kernel
theorem dc_6_6_47 : decode prog_6_method_6_code 47 = .ok (.iload 4, 2) := by decide +kernel
theorem dc_6_6_49 : decode prog_6_method_6_code 49 = .ok (.iconst 1, 1) := by decide +kernel
theorem dc_6_6_50 : decode prog_6_method_6_code 50 = .ok (.iadd, 1) := by decide +kernel
theorem dc_6_6_51 : decode prog_6_method_6_code 51 = .ok (.invokevirtual 46, 3) := by decide +kernel
theorem dc_6_6_54 : decode prog_6_method_6_code 54 = .ok (.iinc 2 1, 3) := by decide +kernel
theorem dc_6_6_57 : decode prog_6_method_6_code 57 = .ok (.goto (-55), 3) := by decide +kernel
theorem dc_6_6_60 : decode prog_6_method_6_code 60 = .ok (.return_, 1) := by decide +kernel
theorem dc_6_7_0 : decode prog_6_method_7_code 0 = .ok (.iload_n 1, 1) := by decide +kernel
theorem dc_6_7_1 : decode prog_6_method_7_code 1 = .ok (.iconst 0, 1) := by decide +kernel
theorem dc_6_7_2 : decode prog_6_method_7_code 2 = .ok (.iconst 2, 1) := by decide +kernel
theorem dc_6_7_3 : decode prog_6_method_7_code 3 = .ok (.invokestatic 50, 3) := by decide +kernel
theorem dc_6_7_6 : decode prog_6_method_7_code 6 = .ok (.ifCond .eq 22, 3) := by decide +kernel
theorem dc_6_7_9 : decode prog_6_method_7_code 9 = .ok (.iload_n 2, 1) := by decide +kernel
theorem dc_6_7_10 : decode prog_6_method_7_code 10 = .ok (.iconst 0, 1) := by decide +kernel
theorem dc_6_7_11 : decode prog_6_method_7_code 11 = .ok (.bipush 100, 2) := by decide +kernel
theorem dc_6_7_13 : decode prog_6_method_7_code 13 = .ok (.invokestatic 50, 3) := by decide +kernel
theorem dc_6_7_16 : decode prog_6_method_7_code 16 = .ok (.ifCond .eq 12, 3) := by decide +kernel
theorem dc_6_7_19 : decode prog_6_method_7_code 19 = .ok (.aload_n 0, 1) := by decide +kernel
theorem dc_6_7_20 : decode prog_6_method_7_code 20 = .ok (.getfield 13, 3) := by decide +kernel
theorem dc_6_7_23 : decode prog_6_method_7_code 23 = .ok (.iload_n 1, 1) := by decide +kernel
theorem dc_6_7_24 : decode prog_6_method_7_code 24 = .ok (.aaload, 1) := by decide +kernel
theorem dc_6_7_25 : decode prog_6_method_7_code 25 = .ok (.iload_n 2, 1) := by decide +kernel
theorem dc_6_7_26 : decode prog_6_method_7_code 26 = .ok (.iconst 1, 1) := by decide +kernel
theorem dc_6_7_27 : decode prog_6_method_7_code 27 = .ok (.iastore, 1) := by decide +kernel
theorem dc_6_7_28 : decode prog_6_method_7_code 28 = .ok (.return_, 1) := by decide +kernel
theorem iv_4_s20 : mm_iv 4 (.invokestatic 20) = some (0, 2) := by decide +kernel
theorem iv_4_s50 : mm_iv 4 (.invokestatic 50) = some (3, 13) := by decide +kernel
theorem iv_4_v16 : mm_iv 4 (.invokevirtual 16) = some (1, 92) := by decide +kernel
theorem iv_4_v32 : mm_iv 4 (.invokevirtual 32) = some (1, 93) := by decide +kernel
theorem iv_4_v36 : mm_iv 4 (.invokevirtual 36) = some (1, 95) := by decide +kernel
theorem iv_4_v40 : mm_iv 4 (.invokevirtual 40) = some (1, 86) := by decide +kernel
theorem iv_4_v46 : mm_iv 4 (.invokevirtual 46) = some (1, 94) := by decide +kernel
theorem o_86 : mm_o 86 = 10 := by decide +kernel
theorem o_92 : mm_o 92 = 4 := by decide +kernel
theorem o_93 : mm_o 93 = 4 := by decide +kernel
theorem o_94 : mm_o 94 = 4 := by decide +kernel
theorem o_95 : mm_o 95 = 4 := by decide +kernel
theorem na_0_2 : mm_nas 0 2 = 2 := by decide +kernel
theorem na_1_86 : mm_nas 1 86 = 4 := by decide +kernel
theorem na_1_92 : mm_nas 1 92 = 4 := by decide +kernel
theorem na_1_93 : mm_nas 1 93 = 2 := by decide +kernel
theorem na_1_94 : mm_nas 1 94 = 3 := by decide +kernel
theorem na_1_95 : mm_nas 1 95 = 5 := by decide +kernel
def mkE (cs : Nat → Nat → Int32) (k v : Nat) : Nat → Nat → Int32 := if v ≤ 100 then w1 cs (17 + k) v (nI 1) else cs
set_option maxHeartbeats 4000000 in
theorem k_mark (M : mH) (hM : 157 ≤ M.1) (T : Nat → mT) (e : Nat → Nat) (hF : ShF T e) (cs : Nat → Nat → Int32) (k v : Nat) (hk9 : k < 3) (hv : v < 2 ^ 31) : mm_Ev 2 94 [.ref 15, .int (nI k), .int (nI v)] (hk M T cs) ((none, hk M T (mkE cs k v))) := by
  refine r_ev (by decide +kernel) (show (3 : Nat) ≤ mm_nL 94 by decide +kernel) ?_
  show mm_Ru 1 (4, 3, false, prog_6_method_7_code, none) 0 [(0, .ref 15), (1, .int (nI k)), (2, .int (nI v))] [] (hk M T cs) (fun r9 => r9 = ((none, hk M T (mkE cs k v))))
  refine r_iload_n rfl dc_6_7_0 ?_
  refine r_iconst (v := nI 0) (by decide) dc_6_7_1 ?_
  refine r_iconst (v := nI 2) (by decide) dc_6_7_2 ?_
  refine h_callS (as := [.int (nI k), .int (nI 0), .int (nI 2)]) (rest := []) (v := .int (nI 1)) rfl rfl iv_4_s50 (Or.inr rfl) na_3_13 rfl (show (0 : Nat) ≤ 8 by decide) dc_6_7_3 (k_inT _ k 0 2 (by omega) (by omega) (by decide)) ?_
  refine r_ifeq (t := 28) (by decide) dc_6_7_6 (fun c_6 => ?_) (fun c_6 => ?_)
  · exact absurd c_6 (by decide)
  · skip
    refine r_iload_n rfl dc_6_7_9 ?_
    refine r_iconst (v := nI 0) (by decide) dc_6_7_10 ?_
    refine r_bipush (v := nI 100) (by decide) dc_6_7_11 ?_
    refine h_callS (as := [.int (nI v), .int (nI 0), .int (nI 100)]) (rest := []) (v := .int (sp_in (nI v) (nI 0) (nI 100))) rfl rfl iv_4_s50 (Or.inr rfl) na_3_13 rfl (show (0 : Nat) ≤ 8 by decide) dc_6_7_13 (k_in _ (nI v) (nI 0) (nI 100)) ?_
    refine r_ifeq (t := 28) (by decide) dc_6_7_16 (fun c_16 => ?_) (fun c_16 => ?_)
    · have h9 := sp_in_0 c_16
      have hv9 : ¬ v ≤ 100 := fun z => h9 ⟨nI_le (Nat.zero_le _) (by omega), nI_le z (by decide)⟩
      refine r_vret rfl dc_6_7_28 ?_
      unfold mkE
      rw [if_neg hv9]
    · have hv9 : v ≤ 100 := (nI_leI (by omega) (by decide)).mp (sp_in_1 c_16).2
      refine r_aload_n rfl dc_6_7_19 ?_
      refine h_get (t := cT e 15) (v := .ref 16) fx_4_13 (hF 15 (by decide)) ⟨by omega, by omega⟩ (rfl) dc_6_7_20 ?_
      refine r_iload_n rfl dc_6_7_23 ?_
      refine h_aal (c := 24) (n := 3) (e := k) (y := 17 + k) (hF 16 (by decide)) (Or.inr rfl) ⟨by omega, by omega⟩ (by omega) (by omega) (if_pos (by omega)) dc_6_7_24 ?_
      refine r_iload_n rfl dc_6_7_25 ?_
      refine r_iconst (v := nI 1) (by decide) dc_6_7_26 ?_
      refine h_ist (n := 101) (e := v) ((hF (17 + k) (by omega)).trans (cR_16 e k (by omega))) ⟨by omega, by omega⟩ (show v < 101 by omega) (by omega) dc_6_7_27 ?_
      refine r_vret rfl dc_6_7_28 ?_
      unfold mkE
      rw [if_pos hv9]
def EdI (cs : Nat → Nat → Int32) (B : Nat → Nat → Prop) : Prop := ∀ k, k < 3 → ∀ v, v ≤ 100 → cs (17 + k) v = pI (B k v)
def FrE (cs cs2 : Nat → Nat → Int32) : Prop := ∀ a, (a < 17 ∨ 20 ≤ a) → cs2 a = cs a
def bo3 (w : Nat → Nat) (m k v : Nat) : Prop := ∃ j, j < m ∧ w j < 1000000 ∧ w j / 100000 = k ∧ (v = w j % 10000 ∨ v = w j % 10000 + 1)
theorem EdI_mk {cs : Nat → Nat → Int32} {B : Nat → Nat → Prop} (h : EdI cs B) (k v : Nat) : EdI (mkE cs k v) (fun a u => B a u ∨ a = k ∧ u = v) := by
  intro a ha u hu
  unfold mkE
  by_cases hv : v ≤ 100
  · rw [if_pos hv]
    by_cases q : a = k ∧ u = v
    · rw [q.1, q.2, w1_s, pI_t (Or.inr ⟨rfl, rfl⟩)]
    · rw [w1_o _ _ (by omega), h a ha u hu]
      by_cases hb : B a u
      · rw [pI_t hb, pI_t (Or.inl hb)]
      · rw [pI_f hb, pI_f (P := B a u ∨ a = k ∧ u = v) (fun z => z.elim hb q)]
  · rw [if_neg hv, h a ha u hu]
    by_cases hb : B a u
    · rw [pI_t hb, pI_t (Or.inl hb)]
    · rw [pI_f hb, pI_f (P := B a u ∨ a = k ∧ u = v) (fun z => z.elim hb (fun y => by omega))]
theorem EdI_c {cs : Nat → Nat → Int32} {B B2 : Nat → Nat → Prop} (h : EdI cs B) (hb : ∀ k v, B k v ↔ B2 k v) : EdI cs B2 := by
  have : B = B2 := by
    funext k v
    exact propext (hb k v)
  rwa [← this]
theorem FrE_mk (cs : Nat → Nat → Int32) {k : Nat} (hk : k < 3) (v : Nat) : FrE cs (mkE cs k v) := by
  intro a ha
  unfold mkE
  split
  · rw [w1_n _ _ _ (by omega)]
  · rfl
theorem FrE_t {a b c : Nat → Nat → Int32} (h : FrE a b) (h2 : FrE b c) : FrE a c := fun x hx => (h2 x hx).trans (h x hx)
set_option maxHeartbeats 4000000 in
theorem k_marks (M : mH) (hM : 157 ≤ M.1) (T : Nat → mT) (e : Nat → Nat) (hF : ShF T e) (cs : Nat → Nat → Int32) (B : Nat → Nat → Prop) (hB : EdI cs B) (a cn : Nat) (wc : Nat → Nat) (hTa : T a = (20, cn, fun _ => none)) (haC : inC M a) (ha2 : 20 ≤ a) (hcn : cn ≤ 60) (hcd : ∀ k, k < cn → cs a k = enc (wc k)) (how : ∀ k, k < cn → okW (wc k)) : ∃ (cs1 : Nat → Nat → Int32), (FrE cs cs1 ∧ EdI cs1 (fun k v => B k v ∨ bo3 wc cn k v)) ∧ mm_Ev 3 93 [.ref 15, .ref a] (hk M T cs) ((none, hk M T cs1)) := by
  have hq9 : ∃ z, (fun r9 => ∃ (cs1 : Nat → Nat → Int32), (FrE cs cs1 ∧ EdI cs1 (fun k v => B k v ∨ bo3 wc cn k v)) ∧ r9 = ((none, hk M T cs1))) z ∧ mm_Ev 3 93 [.ref 15, .ref a] (hk M T cs) z := by
    refine r_evQ (by decide +kernel) (show (2 : Nat) ≤ mm_nL 93 by decide +kernel) ?_
    show mm_Ru 2 (4, 5, false, prog_6_method_6_code, none) 0 [(0, .ref 15), (1, .ref a)] [] (hk M T cs) (fun r9 => ∃ (cs1 : Nat → Nat → Int32), (FrE cs cs1 ∧ EdI cs1 (fun k v => B k v ∨ bo3 wc cn k v)) ∧ r9 = ((none, hk M T cs1)))
    refine r_iconst (v := nI 0) (by decide) dc_6_6_0 ?_
    refine r_istore_n (ls' := [(2, .int (nI 0)), (0, .ref 15), (1, .ref a)]) (by decide) rfl dc_6_6_1 ?_
    refine mm_cnt (P := fun m => ∀ (cs1 : Nat → Nat → Int32), (FrE cs cs1 ∧ EdI cs1 (fun k v => B k v ∨ bo3 wc m k v)) → mm_Ru 2 (4, 5, false, prog_6_method_6_code, none) 2 [(2, .int (nI m)), (0, .ref 15), (1, .ref a)] [] (hk M T cs1) (fun r9 => ∃ (cs1 : Nat → Nat → Int32), (FrE cs cs1 ∧ EdI cs1 (fun k v => B k v ∨ bo3 wc cn k v)) ∧ r9 = ((none, hk M T cs1)))) cn ?_ ?_ 0 (by omega) cs (⟨fun _ _ => rfl, EdI_c hB (fun k v => ⟨Or.inl, fun z => z.elim id (fun y => absurd y.choose_spec.1 (Nat.not_lt_zero _))⟩)⟩)
    · intro  cs1 hi_m
      show mm_Ru 2 (4, 5, false, prog_6_method_6_code, none) 2 [(2, .int (nI cn)), (0, .ref 15), (1, .ref a)] [] (hk M T cs1) (fun r9 => ∃ (cs1 : Nat → Nat → Int32), (FrE cs cs1 ∧ EdI cs1 (fun k v => B k v ∨ bo3 wc cn k v)) ∧ r9 = ((none, hk M T cs1)))
      refine r_iload_n rfl dc_6_6_2 ?_
      refine r_aload_n rfl dc_6_6_3 ?_
      refine h_len (c := 20) (n := cn) hTa (Or.inl rfl) haC dc_6_6_4 ?_
      refine r_ncge (t := 60) (by omega) (by omega) (by decide) dc_6_6_5 (fun c_5 => ?_) (fun c_5 => ?_)
      · skip
        refine r_vret rfl dc_6_6_60 ?_
        exact ⟨cs1, hi_m, rfl⟩
      · omega
    · intro m h_m ih_m  cs1 hi_m
      show mm_Ru 2 (4, 5, false, prog_6_method_6_code, none) 2 [(2, .int (nI m)), (0, .ref 15), (1, .ref a)] [] (hk M T cs1) (fun r9 => ∃ (cs1 : Nat → Nat → Int32), (FrE cs cs1 ∧ EdI cs1 (fun k v => B k v ∨ bo3 wc cn k v)) ∧ r9 = ((none, hk M T cs1)))
      refine r_iload_n rfl dc_6_6_2 ?_
      refine r_aload_n rfl dc_6_6_3 ?_
      refine h_len (c := 20) (n := cn) hTa (Or.inl rfl) haC dc_6_6_4 ?_
      refine r_ncge (t := 60) (by omega) (by omega) (by decide) dc_6_6_5 (fun c_5 => ?_) (fun c_5 => ?_)
      · omega
      · skip
        have hcd1 : cs1 a m = enc (wc m) := (congrFun (hi_m.1 a (Or.inr ha2)) m).trans (hcd m h_m)
        rcases how m h_m with hw9 | hw9
        · rw [enc_c hw9.1] at hcd1
          have hd := encN_d hw9.1 hw9.2
          have hlt := encN_lt hw9.1 hw9.2
          refine r_aload_n rfl dc_6_6_8 ?_
          refine r_iload_n rfl dc_6_6_9 ?_
          refine h_ild (n := cn) (e := m) (v := nI (encN (wc m))) hTa haC (show m < cn by omega) (by omega) (hcd1) dc_6_6_10 ?_
          refine r_sipush (v := nI 10000) (by decide) dc_6_6_11 ?_
          refine r_idiv (v := nI (wc m / 100000 * 3 + wc m / 10000 % 10)) (nI_ne0 (by decide) (by decide)) ((pk_div (by omega) (by decide) (by decide)).trans (congrArg nI hd.2.1)) dc_6_6_14 ?_
          refine r_iconst (v := nI 3) (by decide) dc_6_6_15 ?_
          refine r_idiv (v := nI (wc m / 100000)) (nI_ne0 (by decide) (by decide)) ((pk_div (by omega) (by decide) (by decide)).trans (congrArg nI hd.2.2.2)) dc_6_6_16 ?_
          refine r_istore_n (ls' := [(3, .int (nI (wc m / 100000))), (2, .int (nI m)), (0, .ref 15), (1, .ref a)]) (by decide) rfl dc_6_6_17 ?_
          refine r_aload_n rfl dc_6_6_18 ?_
          refine r_iload_n rfl dc_6_6_19 ?_
          refine h_ild (n := cn) (e := m) (v := nI (encN (wc m))) hTa haC (show m < cn by omega) (by omega) (hcd1) dc_6_6_20 ?_
          refine r_sipush (v := nI 10000) (by decide) dc_6_6_21 ?_
          refine r_irem (v := nI (wc m % 10000)) (nI_ne0 (by decide) (by decide)) ((pk_rem (by omega) (by decide) (by decide)).trans (congrArg nI hd.1)) dc_6_6_24 ?_
          refine r_istore (ls' := [(4, .int (nI (wc m % 10000))), (3, .int (nI (wc m / 100000))), (2, .int (nI m)), (0, .ref 15), (1, .ref a)]) (by decide) rfl dc_6_6_25 ?_
          refine r_aload_n rfl dc_6_6_27 ?_
          refine r_iload_n rfl dc_6_6_28 ?_
          refine h_ild (n := cn) (e := m) (v := nI (encN (wc m))) hTa haC (show m < cn by omega) (by omega) (hcd1) dc_6_6_29 ?_
          refine r_nzlt (t := 54) (by omega) (by decide) dc_6_6_30 ?_
          refine r_iload_n rfl dc_6_6_33 ?_
          refine r_iconst (v := nI 3) (by decide) dc_6_6_34 ?_
          refine r_ncge (t := 54) (by omega) (by omega) (by decide) dc_6_6_35 (fun c_35 => ?_) (fun c_35 => ?_)
          · skip
            refine r_iinc (n := 2) (k := 1) (x := nI m) (v := nI (m + 1)) (ls' := [(2, .int (nI (m + 1))), (4, .int (nI (wc m % 10000))), (3, .int (nI (wc m / 100000))), (0, .ref 15), (1, .ref a)]) rfl (nI_1 _) (by decide) rfl dc_6_6_54 ?_
            refine r_goto (t := 2) (by decide) dc_6_6_57 ?_
            refine r_ls [(2, .int (nI (m + 1))), (0, .ref 15), (1, .ref a)] (mm_ndk_of [2, 0, 1] rfl (by decide)) (mm_sub_cons rfl (mm_sub_cons rfl (mm_sub_cons rfl (mm_sub_nil _)))) ?_
            exact ih_m cs1 (⟨hi_m.1, fun k hk v hv => (hi_m.2 k hk v hv).trans (congrArg pI (propext ⟨fun z => z.imp id (fun y => y.elim fun j hj => ⟨j, by omega, hj.2⟩), fun z => z.imp id (fun y => y.elim fun j hj => ⟨j, by rcases (by omega : j < m ∨ j = m) with h | h; exact h; exfalso; rw [h] at hj; omega, hj.2⟩)⟩))⟩)
          · skip
            refine r_aload_n rfl dc_6_6_38 ?_
            refine r_iload_n rfl dc_6_6_39 ?_
            refine r_iload rfl dc_6_6_40 ?_
            refine h_call0 (t := cT e 15) (as := [.int (nI (wc m / 100000)), .int (nI (wc m % 10000))]) (rest := []) (M1 := hk M T (mkE cs1 (wc m / 100000) (wc m % 10000))) rfl rfl iv_4_v46 (Or.inl rfl) na_1_94 (hF 15 (by decide)) ⟨by omega, by omega⟩ (show (4 : Nat) < 14 by decide) o_94 rfl (show (0 : Nat) ≤ 8 by decide) dc_6_6_42 (k_mark M hM T e hF cs1 (wc m / 100000) (wc m % 10000) (by omega) (by omega)) ?_
            refine r_aload_n rfl dc_6_6_45 ?_
            refine r_iload_n rfl dc_6_6_46 ?_
            refine r_iload rfl dc_6_6_47 ?_
            refine r_iconst (v := nI 1) (by decide) dc_6_6_49 ?_
            refine r_iadd (v := nI (wc m % 10000 + 1)) (nI_add _ _) dc_6_6_50 ?_
            refine h_call0 (t := cT e 15) (as := [.int (nI (wc m / 100000)), .int (nI (wc m % 10000 + 1))]) (rest := []) (M1 := hk M T (mkE (mkE cs1 (wc m / 100000) (wc m % 10000)) (wc m / 100000) (wc m % 10000 + 1))) rfl rfl iv_4_v46 (Or.inl rfl) na_1_94 (hF 15 (by decide)) ⟨by omega, by omega⟩ (show (4 : Nat) < 14 by decide) o_94 rfl (show (0 : Nat) ≤ 8 by decide) dc_6_6_51 (k_mark M hM T e hF (mkE cs1 (wc m / 100000) (wc m % 10000)) (wc m / 100000) (wc m % 10000 + 1) (by omega) (by omega)) ?_
            refine r_iinc (n := 2) (k := 1) (x := nI m) (v := nI (m + 1)) (ls' := [(2, .int (nI (m + 1))), (4, .int (nI (wc m % 10000))), (3, .int (nI (wc m / 100000))), (0, .ref 15), (1, .ref a)]) rfl (nI_1 _) (by decide) rfl dc_6_6_54 ?_
            refine r_goto (t := 2) (by decide) dc_6_6_57 ?_
            refine r_ls [(2, .int (nI (m + 1))), (0, .ref 15), (1, .ref a)] (mm_ndk_of [2, 0, 1] rfl (by decide)) (mm_sub_cons rfl (mm_sub_cons rfl (mm_sub_cons rfl (mm_sub_nil _)))) ?_
            exact ih_m (mkE (mkE cs1 (wc m / 100000) (wc m % 10000)) (wc m / 100000) (wc m % 10000 + 1)) (⟨FrE_t (FrE_t hi_m.1 (FrE_mk _ (by omega) _)) (FrE_mk _ (by omega) _), EdI_c (EdI_mk (EdI_mk hi_m.2 _ _) _ _) (fun k v => ⟨fun z => by rcases z with ((z | ⟨j, hj, z⟩) | ⟨z1, z2⟩) | ⟨z1, z2⟩; exact Or.inl z; exact Or.inr ⟨j, by omega, z⟩; exact Or.inr ⟨m, by omega, by omega, z1.symm, Or.inl z2⟩; exact Or.inr ⟨m, by omega, by omega, z1.symm, Or.inr z2⟩, fun z => by rcases z with z | ⟨j, hj, z1, z2, z3⟩; exact Or.inl (Or.inl (Or.inl z)); rcases (by omega : j < m ∨ j = m) with h | h; exact Or.inl (Or.inl (Or.inr ⟨j, h, z1, z2, z3⟩)); subst h; rcases z3 with z3 | z3; exact Or.inl (Or.inr ⟨z2.symm, z3⟩); exact Or.inr ⟨z2.symm, z3⟩⟩)⟩)
        · have hw7 : enc (wc m) < 0 := by
            rcases (by omega : wc m = 1000000 ∨ wc m = 1000001 ∨ wc m = 1000002) with h | h | h <;> rw [h] <;> decide
          refine r_aload_n rfl dc_6_6_8 ?_
          refine r_iload_n rfl dc_6_6_9 ?_
          refine h_ild (n := cn) (e := m) (v := enc (wc m)) hTa haC (show m < cn by omega) (by omega) (hcd1) dc_6_6_10 ?_
          refine r_sipush (v := nI 10000) (by decide) dc_6_6_11 ?_
          refine r_idiv (v := enc (wc m) / nI 10000) (nI_ne0 (by decide) (by decide)) (rfl) dc_6_6_14 ?_
          refine r_iconst (v := nI 3) (by decide) dc_6_6_15 ?_
          refine r_idiv (v := enc (wc m) / nI 10000 / nI 3) (nI_ne0 (by decide) (by decide)) (rfl) dc_6_6_16 ?_
          refine r_istore_n (ls' := [(3, .int (enc (wc m) / nI 10000 / nI 3)), (2, .int (nI m)), (0, .ref 15), (1, .ref a)]) (by decide) rfl dc_6_6_17 ?_
          refine r_aload_n rfl dc_6_6_18 ?_
          refine r_iload_n rfl dc_6_6_19 ?_
          refine h_ild (n := cn) (e := m) (v := enc (wc m)) hTa haC (show m < cn by omega) (by omega) (hcd1) dc_6_6_20 ?_
          refine r_sipush (v := nI 10000) (by decide) dc_6_6_21 ?_
          refine r_irem (v := enc (wc m) - enc (wc m) / nI 10000 * nI 10000) (nI_ne0 (by decide) (by decide)) (rfl) dc_6_6_24 ?_
          refine r_istore (ls' := [(4, .int (enc (wc m) - enc (wc m) / nI 10000 * nI 10000)), (3, .int (enc (wc m) / nI 10000 / nI 3)), (2, .int (nI m)), (0, .ref 15), (1, .ref a)]) (by decide) rfl dc_6_6_25 ?_
          refine r_aload_n rfl dc_6_6_27 ?_
          refine r_iload_n rfl dc_6_6_28 ?_
          refine h_ild (n := cn) (e := m) (v := enc (wc m)) hTa haC (show m < cn by omega) (by omega) (hcd1) dc_6_6_29 ?_
          refine r_iflt (t := 54) (by decide) dc_6_6_30 (fun c_30 => ?_) (fun c_30 => ?_)
          · skip
            refine r_iinc (n := 2) (k := 1) (x := nI m) (v := nI (m + 1)) (ls' := [(2, .int (nI (m + 1))), (4, .int (enc (wc m) - enc (wc m) / nI 10000 * nI 10000)), (3, .int (enc (wc m) / nI 10000 / nI 3)), (0, .ref 15), (1, .ref a)]) rfl (nI_1 _) (by decide) rfl dc_6_6_54 ?_
            refine r_goto (t := 2) (by decide) dc_6_6_57 ?_
            refine r_ls [(2, .int (nI (m + 1))), (0, .ref 15), (1, .ref a)] (mm_ndk_of [2, 0, 1] rfl (by decide)) (mm_sub_cons rfl (mm_sub_cons rfl (mm_sub_cons rfl (mm_sub_nil _)))) ?_
            exact ih_m cs1 (⟨hi_m.1, EdI_c hi_m.2 (fun k v => ⟨fun z => z.imp id (fun y => y.elim fun j hj => ⟨j, by omega, hj.2⟩), fun z => z.imp id (fun y => y.elim fun j hj => ⟨j, by rcases (by omega : j < m ∨ j = m) with h | h; exact h; exfalso; rw [h] at hj; omega, hj.2⟩)⟩)⟩)
          · exact absurd hw7 c_30
  obtain ⟨z9, ⟨cs1, p9, e9⟩, h9⟩ := hq9
  subst e9
  exact ⟨cs1, p9, h9⟩
def FG (w1 w2 : Nat → Nat) (c1 c2 wi g t c : Nat) : Prop := ∃ u, u < 8 ∧ sp_met w1 c1 g t c u ∧ pI (sp_met w2 c2 g t c u) = nI wi
theorem bI_z : ∀ a, a < 256 → (a = 0 ↔ ∀ u, u < 8 → bI a u = nI 0) := by decide +kernel
theorem bI_0 {k u : Nat} {P : Prop} (h : bI k u = pI P) : bI k u = 0 ↔ ¬ P := by
  rw [h]
  by_cases q : P
  · rw [pI_t q]
    exact ⟨fun z => absurd z (by decide), fun z => absurd q z⟩
  · rw [pI_f q]
    exact ⟨fun _ => q, fun _ => rfl⟩
theorem FG_0 {w1 w2 : Nat → Nat} {c1 c2 wi g t c k : Nat} (h : ∀ u, u < 8 → bI k u = pI (sp_met w1 c1 g t c u)) (hk : k = 0) : ¬ FG w1 w2 c1 c2 wi g t c := by
  rintro ⟨u, hu, h1, -⟩
  have := h u hu
  rw [hk, (bI_255 u hu).2, pI_t h1] at this
  exact absurd this (by decide)
theorem FG_w1 {w1 w2 : Nat → Nat} {c1 c2 g t c k k2 : Nat} (h : ∀ u, u < 8 → bI k u = pI (sp_met w1 c1 g t c u)) (h2 : ∀ u, u < 8 → bI k2 u = pI (sp_met w2 c2 g t c u)) (hk : k < 256) (hk2 : k2 < 256) : k &&& (0 ^^^ k2) = 0 ↔ ¬ FG w1 w2 c1 c2 1 g t c := by
  rw [Nat.zero_xor, bI_z _ (Nat.lt_of_le_of_lt Nat.and_le_left hk)]
  constructor
  · rintro hz ⟨u, hu, h3, h4⟩
    have := hz u hu
    rw [bI_and, h u hu, h2 u hu, pI_t h3, h4] at this
    exact absurd this (by decide)
  · intro hn u hu
    rw [bI_and, h u hu, h2 u hu]
    by_cases q1 : sp_met w1 c1 g t c u
    · by_cases q2 : sp_met w2 c2 g t c u
      · exact absurd ⟨u, hu, q1, pI_t q2⟩ hn
      · rw [pI_t q1, pI_f q2]
        decide
    · rw [pI_f q1]
      exact if_pos rfl
theorem FG_w0 {w1 w2 : Nat → Nat} {c1 c2 g t c k k2 : Nat} (h : ∀ u, u < 8 → bI k u = pI (sp_met w1 c1 g t c u)) (h2 : ∀ u, u < 8 → bI k2 u = pI (sp_met w2 c2 g t c u)) (hk : k < 256) (hk2 : k2 < 256) : k &&& (255 ^^^ k2) = 0 ↔ ¬ FG w1 w2 c1 c2 0 g t c := by
  rw [Nat.xor_comm, bI_z _ (Nat.lt_of_le_of_lt Nat.and_le_left hk)]
  constructor
  · rintro hz ⟨u, hu, h3, h4⟩
    have := hz u hu
    rw [bI_and, h u hu, bI_xor _ hu, h2 u hu, pI_t h3, h4] at this
    exact absurd this (by decide)
  · intro hn u hu
    rw [bI_and, h u hu, bI_xor _ hu, h2 u hu]
    by_cases q1 : sp_met w1 c1 g t c u
    · by_cases q2 : sp_met w2 c2 g t c u
      · rw [pI_t q1, pI_t q2]
        decide
      · exact absurd ⟨u, hu, q1, pI_f q2⟩ hn
    · rw [pI_f q1]
      exact if_pos rfl
theorem AgR_cs {M : mH} {T : Nat → mT} {cs cs2 sg : Nat → Nat → Int32} {D : Nat → Nat → Nat} {x cn : Nat} {wc : Nat → Nat} (h : AgR M T cs sg D x cn wc) (h4 : cs2 (D 4 x) = cs (D 4 x)) (h5 : cs2 (D 5 x) = cs (D 5 x)) : AgR M T cs2 sg D x cn wc := by
  unfold AgR at h ⊢
  rw [h4, h5]
  exact h
def FrG (D : Nat → Nat → Nat) (x y : Nat) (cs cs2 : Nat → Nat → Int32) : Prop := ∀ a, ¬ a = D 6 x → ¬ a = D 6 y → cs2 a = cs a
theorem FrG_t {D : Nat → Nat → Nat} {x y : Nat} {a b c : Nat → Nat → Int32} (h : FrG D x y a b) (h2 : FrG D x y b c) : FrG D x y a c := fun z h3 h4 => (h2 z h3 h4).trans (h z h3 h4)
theorem FrG_x {D : Nat → Nat → Nat} (x y : Nat) (cs : Nat → Nat → Int32) (q : Nat → Int32) : FrG D x y cs (wA cs (D 6 x) q) := fun a h _ => wA_o _ _ h
theorem FrG_y {D : Nat → Nat → Nat} (x y : Nat) (cs : Nat → Nat → Int32) (q : Nat → Int32) : FrG D x y cs (wA cs (D 6 y) q) := fun a _ h => wA_o _ _ h
set_option maxHeartbeats 4000000 in
theorem k_atGr0 (M : mH) (hM : 157 ≤ M.1) (T : Nat → mT) (e : Nat → Nat) (hF : ShF T e) (cs : Nat → Nat → Int32) (sg : Nat → Nat → Int32) (D : Nat → Nat → Nat) (x xcn : Nat) (xwc : Nat → Nat) (hx : AgR M T cs sg D x xcn xwc) (y ycn : Nat) (ywc : Nat → Nat) (hy : AgR M T cs sg D y ycn ywc) (h6x : 157 ≤ D 6 x) (h6y : 157 ≤ D 6 y) (hd4x : ¬ D 4 x = D 6 y) (hd4y : ¬ D 4 y = D 6 x) (hd5x : ¬ D 5 x = D 6 y) (hd5y : ¬ D 5 y = D 6 x) (B : Nat → Nat → Prop) (hB : EdI cs B) (g : Nat) (hg : g < 2 ^ 31) : ∃ (cs3 : Nat → Nat → Int32), (FrG D x y cs cs3) ∧ mm_Ev 4 95 [.ref 15, .ref (D 4 x), .ref (D 4 y), .int (nI 0), .int (nI g)] (hk M T cs) ((some (.int (pI (∃ t, t < 10 ∧ B 1 t ∧ ∃ c, c < 100 ∧ B 2 c ∧ FG xwc ywc xcn ycn 0 g t c))), hk M T cs3)) := by
  have hq9 : ∃ z, (fun r9 => ∃ (cs3 : Nat → Nat → Int32), (FrG D x y cs cs3) ∧ r9 = ((some (.int (pI (∃ t, t < 10 ∧ B 1 t ∧ ∃ c, c < 100 ∧ B 2 c ∧ FG xwc ywc xcn ycn 0 g t c))), hk M T cs3))) z ∧ mm_Ev 4 95 [.ref 15, .ref (D 4 x), .ref (D 4 y), .int (nI 0), .int (nI g)] (hk M T cs) z := by
    obtain ⟨xhS, xhSC, ⟨xhT5, xhC5, xhT6, xhC6⟩, ⟨xf0, xf1, xf2, xf3, xf4, xf5, xf6, xf7⟩, xfc, xhcn, xhow, xhoc, xhn56, xhn46⟩ := id hx
    obtain ⟨yhS, yhSC, ⟨yhT5, yhC5, yhT6, yhC6⟩, ⟨yf0, yf1, yf2, yf3, yf4, yf5, yf6, yf7⟩, yfc, yhcn, yhow, yhoc, yhn56, yhn46⟩ := id hy
    have hAx : ∀ c2, FrG D x y cs c2 → AgR M T c2 sg D x xcn xwc := fun c2 h => AgR_cs hx (h _ xhn46 hd4x) (h _ xhn56 hd5x)
    have hAy : ∀ c2, FrG D x y cs c2 → AgR M T c2 sg D y ycn ywc := fun c2 h => AgR_cs hy (h _ hd4y yhn46) (h _ hd5y yhn56)
    refine r_evQ (by decide +kernel) (show (5 : Nat) ≤ mm_nL 95 by decide +kernel) ?_
    show mm_Ru 3 (4, 9, false, prog_6_method_5_code, some .boolean) 0 [(0, .ref 15), (1, .ref (D 4 x)), (2, .ref (D 4 y)), (3, .int (nI 0)), (4, .int (nI g))] [] (hk M T cs) (fun r9 => ∃ (cs3 : Nat → Nat → Int32), (FrG D x y cs cs3) ∧ r9 = ((some (.int (pI (∃ t, t < 10 ∧ B 1 t ∧ ∃ c, c < 100 ∧ B 2 c ∧ FG xwc ywc xcn ycn 0 g t c))), hk M T cs3)))
    refine r_iload_n rfl dc_6_5_0 ?_
    refine r_ifeq (t := 8) (by decide) dc_6_5_1 (fun c_1 => ?_) (fun c_1 => ?_)
    · skip
      refine r_sipush (v := nI 255) (by decide) dc_6_5_8 ?_
      refine r_istore (ls' := [(5, .int (nI 255)), (0, .ref 15), (1, .ref (D 4 x)), (2, .ref (D 4 y)), (3, .int (nI 0)), (4, .int (nI g))]) (by decide) rfl dc_6_5_11 ?_
      refine r_iconst (v := nI 0) (by decide) dc_6_5_13 ?_
      refine r_istore (ls' := [(6, .int (nI 0)), (5, .int (nI 255)), (0, .ref 15), (1, .ref (D 4 x)), (2, .ref (D 4 y)), (3, .int (nI 0)), (4, .int (nI g))]) (by decide) rfl dc_6_5_14 ?_
      refine r_ls [(6, .int (nI 0)), (0, .ref 15), (1, .ref (D 4 x)), (2, .ref (D 4 y)), (3, .int (nI 0)), (4, .int (nI g)), (5, .int (nI 255))] (mm_ndk_of [6, 0, 1, 2, 3, 4, 5] rfl (by decide)) (mm_sub_cons rfl (mm_sub_cons rfl (mm_sub_cons rfl (mm_sub_cons rfl (mm_sub_cons rfl (mm_sub_cons rfl (mm_sub_cons rfl (mm_sub_nil _)))))))) ?_
      refine mm_cnt (P := fun t1 => ∀ (cs1 : Nat → Nat → Int32), (FrG D x y cs cs1 ∧ ∀ j, j < t1 → ¬ (B 1 j ∧ ∃ c, c < 100 ∧ B 2 c ∧ FG xwc ywc xcn ycn 0 g j c)) → mm_Ru 3 (4, 9, false, prog_6_method_5_code, some .boolean) 16 [(6, .int (nI t1)), (0, .ref 15), (1, .ref (D 4 x)), (2, .ref (D 4 y)), (3, .int (nI 0)), (4, .int (nI g)), (5, .int (nI 255))] [] (hk M T cs1) (fun r9 => ∃ (cs3 : Nat → Nat → Int32), (FrG D x y cs cs3) ∧ r9 = ((some (.int (pI (∃ t, t < 10 ∧ B 1 t ∧ ∃ c, c < 100 ∧ B 2 c ∧ FG xwc ywc xcn ycn 0 g t c))), hk M T cs3)))) 10 ?_ ?_ 0 (by omega) cs (⟨fun _ _ _ => rfl, fun j hj => absurd hj (Nat.not_lt_zero j)⟩)
      · intro  cs1 hi_t1
        show mm_Ru 3 (4, 9, false, prog_6_method_5_code, some .boolean) 16 [(6, .int (nI 10)), (0, .ref 15), (1, .ref (D 4 x)), (2, .ref (D 4 y)), (3, .int (nI 0)), (4, .int (nI g)), (5, .int (nI 255))] [] (hk M T cs1) (fun r9 => ∃ (cs3 : Nat → Nat → Int32), (FrG D x y cs cs3) ∧ r9 = ((some (.int (pI (∃ t, t < 10 ∧ B 1 t ∧ ∃ c, c < 100 ∧ B 2 c ∧ FG xwc ywc xcn ycn 0 g t c))), hk M T cs3)))
        refine r_iload rfl dc_6_5_16 ?_
        refine r_bipush (v := nI 9) (by decide) dc_6_5_18 ?_
        refine r_ncgt (t := 114) (by omega) (by omega) (by decide) dc_6_5_20 (fun c_20 => ?_) (fun c_20 => ?_)
        · skip
          refine r_iconst (v := nI 0) (by decide) dc_6_5_114 ?_
          refine r_zret rfl (by decide) dc_6_5_115 ?_
          exact ⟨_, hi_t1.1, by rw [pI_f (P := ∃ t, t < 10 ∧ B 1 t ∧ ∃ c, c < 100 ∧ B 2 c ∧ FG xwc ywc xcn ycn 0 g t c) (fun z => z.elim fun t ht => hi_t1.2 t ht.1 ht.2)]⟩
        · omega
      · intro t1 h_t1 ih_t1  cs1 hi_t1
        show mm_Ru 3 (4, 9, false, prog_6_method_5_code, some .boolean) 16 [(6, .int (nI t1)), (0, .ref 15), (1, .ref (D 4 x)), (2, .ref (D 4 y)), (3, .int (nI 0)), (4, .int (nI g)), (5, .int (nI 255))] [] (hk M T cs1) (fun r9 => ∃ (cs3 : Nat → Nat → Int32), (FrG D x y cs cs3) ∧ r9 = ((some (.int (pI (∃ t, t < 10 ∧ B 1 t ∧ ∃ c, c < 100 ∧ B 2 c ∧ FG xwc ywc xcn ycn 0 g t c))), hk M T cs3)))
        refine r_iload rfl dc_6_5_16 ?_
        refine r_bipush (v := nI 9) (by decide) dc_6_5_18 ?_
        refine r_ncgt (t := 114) (by omega) (by omega) (by decide) dc_6_5_20 (fun c_20 => ?_) (fun c_20 => ?_)
        · omega
        · skip
          refine r_aload_n rfl dc_6_5_23 ?_
          refine h_get (t := cT e 15) (v := .ref 16) fx_4_13 (hF 15 (by decide)) ⟨by omega, by omega⟩ (rfl) dc_6_5_24 ?_
          refine r_iconst (v := nI 1) (by decide) dc_6_5_27 ?_
          refine h_aal (c := 24) (n := 3) (e := 1) (y := 18) (hF 16 (by decide)) (Or.inr rfl) ⟨by omega, by omega⟩ (by omega) (by omega) (rfl) dc_6_5_28 ?_
          refine r_iload rfl dc_6_5_29 ?_
          refine h_ild (n := 101) (e := t1) (v := pI (B 1 t1)) (hF 18 (by decide)) ⟨by omega, by omega⟩ (show t1 < 101 by omega) (by omega) ((congrFun (hi_t1.1 18 (by omega) (by omega)) t1).trans (hB 1 (by decide) t1 (by omega))) dc_6_5_31 ?_
          refine r_ifne (t := 38) (by decide) dc_6_5_32 (fun c_32 => ?_) (fun c_32 => ?_)
          · skip
            refine r_iconst (v := nI 0) (by decide) dc_6_5_38 ?_
            refine r_istore (ls' := [(7, .int (nI 0)), (6, .int (nI t1)), (0, .ref 15), (1, .ref (D 4 x)), (2, .ref (D 4 y)), (3, .int (nI 0)), (4, .int (nI g)), (5, .int (nI 255))]) (by decide) rfl dc_6_5_39 ?_
            refine mm_cnt (P := fun c1 => ∀ (cs2 : Nat → Nat → Int32), (FrG D x y cs cs2 ∧ ∀ j, j < c1 → ¬ (B 2 j ∧ FG xwc ywc xcn ycn 0 g t1 j)) → mm_Ru 3 (4, 9, false, prog_6_method_5_code, some .boolean) 41 [(7, .int (nI c1)), (6, .int (nI t1)), (0, .ref 15), (1, .ref (D 4 x)), (2, .ref (D 4 y)), (3, .int (nI 0)), (4, .int (nI g)), (5, .int (nI 255))] [] (hk M T cs2) (fun r9 => ∃ (cs3 : Nat → Nat → Int32), (FrG D x y cs cs3) ∧ r9 = ((some (.int (pI (∃ t, t < 10 ∧ B 1 t ∧ ∃ c, c < 100 ∧ B 2 c ∧ FG xwc ywc xcn ycn 0 g t c))), hk M T cs3)))) 100 ?_ ?_ 0 (by omega) cs1 (⟨hi_t1.1, fun j hj => absurd hj (Nat.not_lt_zero j)⟩)
            · intro  cs2 hi_c1
              show mm_Ru 3 (4, 9, false, prog_6_method_5_code, some .boolean) 41 [(7, .int (nI 100)), (6, .int (nI t1)), (0, .ref 15), (1, .ref (D 4 x)), (2, .ref (D 4 y)), (3, .int (nI 0)), (4, .int (nI g)), (5, .int (nI 255))] [] (hk M T cs2) (fun r9 => ∃ (cs3 : Nat → Nat → Int32), (FrG D x y cs cs3) ∧ r9 = ((some (.int (pI (∃ t, t < 10 ∧ B 1 t ∧ ∃ c, c < 100 ∧ B 2 c ∧ FG xwc ywc xcn ycn 0 g t c))), hk M T cs3)))
              refine r_iload rfl dc_6_5_41 ?_
              refine r_bipush (v := nI 99) (by decide) dc_6_5_43 ?_
              refine r_ncgt (t := 108) (by omega) (by omega) (by decide) dc_6_5_45 (fun c_45 => ?_) (fun c_45 => ?_)
              · skip
                refine r_iinc (n := 6) (k := 1) (x := nI t1) (v := nI (t1 + 1)) (ls' := [(6, .int (nI (t1 + 1))), (7, .int (nI 100)), (0, .ref 15), (1, .ref (D 4 x)), (2, .ref (D 4 y)), (3, .int (nI 0)), (4, .int (nI g)), (5, .int (nI 255))]) rfl (nI_1 _) (by decide) rfl dc_6_5_108 ?_
                refine r_goto (t := 16) (by decide) dc_6_5_111 ?_
                refine r_ls [(6, .int (nI (t1 + 1))), (0, .ref 15), (1, .ref (D 4 x)), (2, .ref (D 4 y)), (3, .int (nI 0)), (4, .int (nI g)), (5, .int (nI 255))] (mm_ndk_of [6, 0, 1, 2, 3, 4, 5] rfl (by decide)) (mm_sub_cons rfl (mm_sub_cons rfl (mm_sub_cons rfl (mm_sub_cons rfl (mm_sub_cons rfl (mm_sub_cons rfl (mm_sub_cons rfl (mm_sub_nil _)))))))) ?_
                exact ih_t1 cs2 (⟨hi_c1.1, fun j hj => by rcases (by omega : j < t1 ∨ j = t1) with q | rfl; exact hi_t1.2 j q; exact fun z => z.2.elim fun c hc => hi_c1.2 c hc.1 hc.2⟩)
              · omega
            · intro c1 h_c1 ih_c1  cs2 hi_c1
              show mm_Ru 3 (4, 9, false, prog_6_method_5_code, some .boolean) 41 [(7, .int (nI c1)), (6, .int (nI t1)), (0, .ref 15), (1, .ref (D 4 x)), (2, .ref (D 4 y)), (3, .int (nI 0)), (4, .int (nI g)), (5, .int (nI 255))] [] (hk M T cs2) (fun r9 => ∃ (cs3 : Nat → Nat → Int32), (FrG D x y cs cs3) ∧ r9 = ((some (.int (pI (∃ t, t < 10 ∧ B 1 t ∧ ∃ c, c < 100 ∧ B 2 c ∧ FG xwc ywc xcn ycn 0 g t c))), hk M T cs3)))
              refine r_iload rfl dc_6_5_41 ?_
              refine r_bipush (v := nI 99) (by decide) dc_6_5_43 ?_
              refine r_ncgt (t := 108) (by omega) (by omega) (by decide) dc_6_5_45 (fun c_45 => ?_) (fun c_45 => ?_)
              · omega
              · skip
                refine r_aload_n rfl dc_6_5_48 ?_
                refine h_get (t := cT e 15) (v := .ref 16) fx_4_13 (hF 15 (by decide)) ⟨by omega, by omega⟩ (rfl) dc_6_5_49 ?_
                refine r_iconst (v := nI 2) (by decide) dc_6_5_52 ?_
                refine h_aal (c := 24) (n := 3) (e := 2) (y := 19) (hF 16 (by decide)) (Or.inr rfl) ⟨by omega, by omega⟩ (by omega) (by omega) (rfl) dc_6_5_53 ?_
                refine r_iload rfl dc_6_5_54 ?_
                refine h_ild (n := 101) (e := c1) (v := pI (B 2 c1)) (hF 19 (by decide)) ⟨by omega, by omega⟩ (show c1 < 101 by omega) (by omega) ((congrFun (hi_c1.1 19 (by omega) (by omega)) c1).trans (hB 2 (by decide) c1 (by omega))) dc_6_5_56 ?_
                refine r_ifne (t := 64) (by decide) dc_6_5_57 (fun c_57 => ?_) (fun c_57 => ?_)
                · skip
                  refine r_aload_n rfl dc_6_5_64 ?_
                  refine r_iload rfl dc_6_5_65 ?_
                  refine r_iload rfl dc_6_5_67 ?_
                  refine r_iload rfl dc_6_5_69 ?_
                  obtain ⟨q1, k1, ⟨hk1, hm1⟩, hev1⟩ := k_subj M T cs2 sg D x xcn xwc (hAx _ hi_c1.1) g t1 c1 (by omega) (by omega) (by omega)
                  refine h_callv (t := (10, 0, rl [(9, D 6 x), (8, D 5 x)])) (as := [.int (nI g), .int (nI t1), .int (nI c1)]) (rest := []) (v := .int (nI k1)) (M1 := hk M T (wA cs2 (D 6 x) q1)) rfl rfl iv_4_v40 (Or.inl rfl) na_1_86 xhS xhSC (show (10 : Nat) < 14 by decide) o_86 rfl (show (0 : Nat) ≤ 8 by decide) dc_6_5_71 (hev1) ?_
                  refine r_istore (ls' := [(8, .int (nI k1)), (7, .int (nI c1)), (6, .int (nI t1)), (0, .ref 15), (1, .ref (D 4 x)), (2, .ref (D 4 y)), (3, .int (nI 0)), (4, .int (nI g)), (5, .int (nI 255))]) (by decide) rfl dc_6_5_74 ?_
                  refine r_iload rfl dc_6_5_76 ?_
                  refine r_nzeq (t := 102) (by omega) (by decide) dc_6_5_78 (fun c_78 => ?_) (fun c_78 => ?_)
                  · skip
                    refine r_iinc (n := 7) (k := 1) (x := nI c1) (v := nI (c1 + 1)) (ls' := [(7, .int (nI (c1 + 1))), (8, .int (nI k1)), (6, .int (nI t1)), (0, .ref 15), (1, .ref (D 4 x)), (2, .ref (D 4 y)), (3, .int (nI 0)), (4, .int (nI g)), (5, .int (nI 255))]) rfl (nI_1 _) (by decide) rfl dc_6_5_102 ?_
                    refine r_goto (t := 41) (by decide) dc_6_5_105 ?_
                    refine r_ls [(7, .int (nI (c1 + 1))), (6, .int (nI t1)), (0, .ref 15), (1, .ref (D 4 x)), (2, .ref (D 4 y)), (3, .int (nI 0)), (4, .int (nI g)), (5, .int (nI 255))] (mm_ndk_of [7, 6, 0, 1, 2, 3, 4, 5] rfl (by decide)) (mm_sub_cons rfl (mm_sub_cons rfl (mm_sub_cons rfl (mm_sub_cons rfl (mm_sub_cons rfl (mm_sub_cons rfl (mm_sub_cons rfl (mm_sub_cons rfl (mm_sub_nil _))))))))) ?_
                    exact ih_c1 (wA cs2 (D 6 x) q1) (⟨FrG_t hi_c1.1 (FrG_x x y _ q1), fun j hj => by rcases (by omega : j < c1 ∨ j = c1) with q | rfl; exact hi_c1.2 j q; exact fun z => FG_0 hm1 c_78 z.2⟩)
                  · skip
                    refine r_iload rfl dc_6_5_81 ?_
                    refine r_iload rfl dc_6_5_83 ?_
                    refine r_aload_n rfl dc_6_5_85 ?_
                    refine r_iload rfl dc_6_5_86 ?_
                    refine r_iload rfl dc_6_5_88 ?_
                    refine r_iload rfl dc_6_5_90 ?_
                    obtain ⟨q2, k2, ⟨hk2, hm2⟩, hev2⟩ := k_subj M T (wA cs2 (D 6 x) q1) sg D y ycn ywc (hAy _ (FrG_t hi_c1.1 (FrG_x x y cs2 q1))) g t1 c1 (by omega) (by omega) (by omega)
                    refine h_callv (t := (10, 0, rl [(9, D 6 y), (8, D 5 y)])) (as := [.int (nI g), .int (nI t1), .int (nI c1)]) (rest := [.int (nI 255), .int (nI k1)]) (v := .int (nI k2)) (M1 := hk M T (wA (wA cs2 (D 6 x) q1) (D 6 y) q2)) rfl rfl iv_4_v40 (Or.inl rfl) na_1_86 yhS yhSC (show (10 : Nat) < 14 by decide) o_86 rfl (show (2 : Nat) ≤ 8 by decide) dc_6_5_92 (hev2) ?_
                    refine r_ixor (v := nI (255 ^^^ k2)) (nI_bitxor (by decide) hk2) dc_6_5_95 ?_
                    refine r_iand (v := nI (k1 &&& (255 ^^^ k2))) (nI_bitand hk1 (Nat.xor_lt_two_pow (n := 8) (by decide) hk2)) dc_6_5_96 ?_
                    have hb97 : k1 &&& (255 ^^^ k2) < 256 := Nat.lt_of_le_of_lt Nat.and_le_left hk1
                    refine r_nzeq (t := 102) (by omega) (by decide) dc_6_5_97 (fun c_97 => ?_) (fun c_97 => ?_)
                    · skip
                      refine r_iinc (n := 7) (k := 1) (x := nI c1) (v := nI (c1 + 1)) (ls' := [(7, .int (nI (c1 + 1))), (8, .int (nI k1)), (6, .int (nI t1)), (0, .ref 15), (1, .ref (D 4 x)), (2, .ref (D 4 y)), (3, .int (nI 0)), (4, .int (nI g)), (5, .int (nI 255))]) rfl (nI_1 _) (by decide) rfl dc_6_5_102 ?_
                      refine r_goto (t := 41) (by decide) dc_6_5_105 ?_
                      refine r_ls [(7, .int (nI (c1 + 1))), (6, .int (nI t1)), (0, .ref 15), (1, .ref (D 4 x)), (2, .ref (D 4 y)), (3, .int (nI 0)), (4, .int (nI g)), (5, .int (nI 255))] (mm_ndk_of [7, 6, 0, 1, 2, 3, 4, 5] rfl (by decide)) (mm_sub_cons rfl (mm_sub_cons rfl (mm_sub_cons rfl (mm_sub_cons rfl (mm_sub_cons rfl (mm_sub_cons rfl (mm_sub_cons rfl (mm_sub_cons rfl (mm_sub_nil _))))))))) ?_
                      exact ih_c1 (wA (wA cs2 (D 6 x) q1) (D 6 y) q2) (⟨FrG_t (FrG_t hi_c1.1 (FrG_x x y _ q1)) (FrG_y x y _ q2), fun j hj => by rcases (by omega : j < c1 ∨ j = c1) with q | rfl; exact hi_c1.2 j q; exact fun z => (FG_w0 hm1 hm2 hk1 hk2).mp c_97 z.2⟩)
                    · skip
                      refine r_iconst (v := nI 1) (by decide) dc_6_5_100 ?_
                      refine r_zret rfl (by decide) dc_6_5_101 ?_
                      exact ⟨_, FrG_t (FrG_t hi_c1.1 (FrG_x x y _ q1)) (FrG_y x y _ q2), by rw [pI_t (P := ∃ t, t < 10 ∧ B 1 t ∧ ∃ c, c < 100 ∧ B 2 c ∧ FG xwc ywc xcn ycn 0 g t c) ⟨t1, h_t1, pI_ne c_32, c1, h_c1, pI_ne c_57, Classical.byContradiction (fun z => c_97 ((FG_w0 hm1 hm2 hk1 hk2).mpr z))⟩]⟩
                · skip
                  refine r_iconst (v := nI 0) (by decide) dc_6_5_60 ?_
                  refine r_goto (t := 74) (by decide) dc_6_5_61 ?_
                  refine r_istore (ls' := [(8, .int (nI 0)), (7, .int (nI c1)), (6, .int (nI t1)), (0, .ref 15), (1, .ref (D 4 x)), (2, .ref (D 4 y)), (3, .int (nI 0)), (4, .int (nI g)), (5, .int (nI 255))]) (by decide) rfl dc_6_5_74 ?_
                  refine r_iload rfl dc_6_5_76 ?_
                  refine r_ifeq (t := 102) (by decide) dc_6_5_78 (fun c_78 => ?_) (fun c_78 => ?_)
                  · skip
                    refine r_iinc (n := 7) (k := 1) (x := nI c1) (v := nI (c1 + 1)) (ls' := [(7, .int (nI (c1 + 1))), (8, .int (nI 0)), (6, .int (nI t1)), (0, .ref 15), (1, .ref (D 4 x)), (2, .ref (D 4 y)), (3, .int (nI 0)), (4, .int (nI g)), (5, .int (nI 255))]) rfl (nI_1 _) (by decide) rfl dc_6_5_102 ?_
                    refine r_goto (t := 41) (by decide) dc_6_5_105 ?_
                    refine r_ls [(7, .int (nI (c1 + 1))), (6, .int (nI t1)), (0, .ref 15), (1, .ref (D 4 x)), (2, .ref (D 4 y)), (3, .int (nI 0)), (4, .int (nI g)), (5, .int (nI 255))] (mm_ndk_of [7, 6, 0, 1, 2, 3, 4, 5] rfl (by decide)) (mm_sub_cons rfl (mm_sub_cons rfl (mm_sub_cons rfl (mm_sub_cons rfl (mm_sub_cons rfl (mm_sub_cons rfl (mm_sub_cons rfl (mm_sub_cons rfl (mm_sub_nil _))))))))) ?_
                    exact ih_c1 cs2 (⟨hi_c1.1, fun j hj => by rcases (by omega : j < c1 ∨ j = c1) with q | rfl; exact hi_c1.2 j q; exact fun z => pI_eq0 c_57 z.1⟩)
                  · exact absurd c_78 (by decide)
          · skip
            refine r_goto (t := 108) (by decide) dc_6_5_35 ?_
            refine r_iinc (n := 6) (k := 1) (x := nI t1) (v := nI (t1 + 1)) (ls' := [(6, .int (nI (t1 + 1))), (0, .ref 15), (1, .ref (D 4 x)), (2, .ref (D 4 y)), (3, .int (nI 0)), (4, .int (nI g)), (5, .int (nI 255))]) rfl (nI_1 _) (by decide) rfl dc_6_5_108 ?_
            refine r_goto (t := 16) (by decide) dc_6_5_111 ?_
            exact ih_t1 cs1 (⟨hi_t1.1, fun j hj => by rcases (by omega : j < t1 ∨ j = t1) with q | rfl; exact hi_t1.2 j q; exact fun z => pI_eq0 c_32 z.1⟩)
    · exact absurd c_1 (by decide)
  obtain ⟨z9, ⟨cs3, p9, e9⟩, h9⟩ := hq9
  subst e9
  exact ⟨cs3, p9, h9⟩
set_option maxHeartbeats 4000000 in
theorem k_atGr1 (M : mH) (hM : 157 ≤ M.1) (T : Nat → mT) (e : Nat → Nat) (hF : ShF T e) (cs : Nat → Nat → Int32) (sg : Nat → Nat → Int32) (D : Nat → Nat → Nat) (x xcn : Nat) (xwc : Nat → Nat) (hx : AgR M T cs sg D x xcn xwc) (y ycn : Nat) (ywc : Nat → Nat) (hy : AgR M T cs sg D y ycn ywc) (h6x : 157 ≤ D 6 x) (h6y : 157 ≤ D 6 y) (hd4x : ¬ D 4 x = D 6 y) (hd4y : ¬ D 4 y = D 6 x) (hd5x : ¬ D 5 x = D 6 y) (hd5y : ¬ D 5 y = D 6 x) (B : Nat → Nat → Prop) (hB : EdI cs B) (g : Nat) (hg : g < 2 ^ 31) : ∃ (cs3 : Nat → Nat → Int32), (FrG D x y cs cs3) ∧ mm_Ev 4 95 [.ref 15, .ref (D 4 x), .ref (D 4 y), .int (nI 1), .int (nI g)] (hk M T cs) ((some (.int (pI (∃ t, t < 10 ∧ B 1 t ∧ ∃ c, c < 100 ∧ B 2 c ∧ FG xwc ywc xcn ycn 1 g t c))), hk M T cs3)) := by
  have hq9 : ∃ z, (fun r9 => ∃ (cs3 : Nat → Nat → Int32), (FrG D x y cs cs3) ∧ r9 = ((some (.int (pI (∃ t, t < 10 ∧ B 1 t ∧ ∃ c, c < 100 ∧ B 2 c ∧ FG xwc ywc xcn ycn 1 g t c))), hk M T cs3))) z ∧ mm_Ev 4 95 [.ref 15, .ref (D 4 x), .ref (D 4 y), .int (nI 1), .int (nI g)] (hk M T cs) z := by
    obtain ⟨xhS, xhSC, ⟨xhT5, xhC5, xhT6, xhC6⟩, ⟨xf0, xf1, xf2, xf3, xf4, xf5, xf6, xf7⟩, xfc, xhcn, xhow, xhoc, xhn56, xhn46⟩ := id hx
    obtain ⟨yhS, yhSC, ⟨yhT5, yhC5, yhT6, yhC6⟩, ⟨yf0, yf1, yf2, yf3, yf4, yf5, yf6, yf7⟩, yfc, yhcn, yhow, yhoc, yhn56, yhn46⟩ := id hy
    have hAx : ∀ c2, FrG D x y cs c2 → AgR M T c2 sg D x xcn xwc := fun c2 h => AgR_cs hx (h _ xhn46 hd4x) (h _ xhn56 hd5x)
    have hAy : ∀ c2, FrG D x y cs c2 → AgR M T c2 sg D y ycn ywc := fun c2 h => AgR_cs hy (h _ hd4y yhn46) (h _ hd5y yhn56)
    refine r_evQ (by decide +kernel) (show (5 : Nat) ≤ mm_nL 95 by decide +kernel) ?_
    show mm_Ru 3 (4, 9, false, prog_6_method_5_code, some .boolean) 0 [(0, .ref 15), (1, .ref (D 4 x)), (2, .ref (D 4 y)), (3, .int (nI 1)), (4, .int (nI g))] [] (hk M T cs) (fun r9 => ∃ (cs3 : Nat → Nat → Int32), (FrG D x y cs cs3) ∧ r9 = ((some (.int (pI (∃ t, t < 10 ∧ B 1 t ∧ ∃ c, c < 100 ∧ B 2 c ∧ FG xwc ywc xcn ycn 1 g t c))), hk M T cs3)))
    refine r_iload_n rfl dc_6_5_0 ?_
    refine r_ifeq (t := 8) (by decide) dc_6_5_1 (fun c_1 => ?_) (fun c_1 => ?_)
    · exact absurd c_1 (by decide)
    · skip
      refine r_iconst (v := nI 0) (by decide) dc_6_5_4 ?_
      refine r_goto (t := 11) (by decide) dc_6_5_5 ?_
      refine r_istore (ls' := [(5, .int (nI 0)), (0, .ref 15), (1, .ref (D 4 x)), (2, .ref (D 4 y)), (3, .int (nI 1)), (4, .int (nI g))]) (by decide) rfl dc_6_5_11 ?_
      refine r_iconst (v := nI 0) (by decide) dc_6_5_13 ?_
      refine r_istore (ls' := [(6, .int (nI 0)), (5, .int (nI 0)), (0, .ref 15), (1, .ref (D 4 x)), (2, .ref (D 4 y)), (3, .int (nI 1)), (4, .int (nI g))]) (by decide) rfl dc_6_5_14 ?_
      refine r_ls [(6, .int (nI 0)), (0, .ref 15), (1, .ref (D 4 x)), (2, .ref (D 4 y)), (3, .int (nI 1)), (4, .int (nI g)), (5, .int (nI 0))] (mm_ndk_of [6, 0, 1, 2, 3, 4, 5] rfl (by decide)) (mm_sub_cons rfl (mm_sub_cons rfl (mm_sub_cons rfl (mm_sub_cons rfl (mm_sub_cons rfl (mm_sub_cons rfl (mm_sub_cons rfl (mm_sub_nil _)))))))) ?_
      refine mm_cnt (P := fun t1 => ∀ (cs1 : Nat → Nat → Int32), (FrG D x y cs cs1 ∧ ∀ j, j < t1 → ¬ (B 1 j ∧ ∃ c, c < 100 ∧ B 2 c ∧ FG xwc ywc xcn ycn 1 g j c)) → mm_Ru 3 (4, 9, false, prog_6_method_5_code, some .boolean) 16 [(6, .int (nI t1)), (0, .ref 15), (1, .ref (D 4 x)), (2, .ref (D 4 y)), (3, .int (nI 1)), (4, .int (nI g)), (5, .int (nI 0))] [] (hk M T cs1) (fun r9 => ∃ (cs3 : Nat → Nat → Int32), (FrG D x y cs cs3) ∧ r9 = ((some (.int (pI (∃ t, t < 10 ∧ B 1 t ∧ ∃ c, c < 100 ∧ B 2 c ∧ FG xwc ywc xcn ycn 1 g t c))), hk M T cs3)))) 10 ?_ ?_ 0 (by omega) cs (⟨fun _ _ _ => rfl, fun j hj => absurd hj (Nat.not_lt_zero j)⟩)
      · intro  cs1 hi_t1
        show mm_Ru 3 (4, 9, false, prog_6_method_5_code, some .boolean) 16 [(6, .int (nI 10)), (0, .ref 15), (1, .ref (D 4 x)), (2, .ref (D 4 y)), (3, .int (nI 1)), (4, .int (nI g)), (5, .int (nI 0))] [] (hk M T cs1) (fun r9 => ∃ (cs3 : Nat → Nat → Int32), (FrG D x y cs cs3) ∧ r9 = ((some (.int (pI (∃ t, t < 10 ∧ B 1 t ∧ ∃ c, c < 100 ∧ B 2 c ∧ FG xwc ywc xcn ycn 1 g t c))), hk M T cs3)))
        refine r_iload rfl dc_6_5_16 ?_
        refine r_bipush (v := nI 9) (by decide) dc_6_5_18 ?_
        refine r_ncgt (t := 114) (by omega) (by omega) (by decide) dc_6_5_20 (fun c_20 => ?_) (fun c_20 => ?_)
        · skip
          refine r_iconst (v := nI 0) (by decide) dc_6_5_114 ?_
          refine r_zret rfl (by decide) dc_6_5_115 ?_
          exact ⟨_, hi_t1.1, by rw [pI_f (P := ∃ t, t < 10 ∧ B 1 t ∧ ∃ c, c < 100 ∧ B 2 c ∧ FG xwc ywc xcn ycn 1 g t c) (fun z => z.elim fun t ht => hi_t1.2 t ht.1 ht.2)]⟩
        · omega
      · intro t1 h_t1 ih_t1  cs1 hi_t1
        show mm_Ru 3 (4, 9, false, prog_6_method_5_code, some .boolean) 16 [(6, .int (nI t1)), (0, .ref 15), (1, .ref (D 4 x)), (2, .ref (D 4 y)), (3, .int (nI 1)), (4, .int (nI g)), (5, .int (nI 0))] [] (hk M T cs1) (fun r9 => ∃ (cs3 : Nat → Nat → Int32), (FrG D x y cs cs3) ∧ r9 = ((some (.int (pI (∃ t, t < 10 ∧ B 1 t ∧ ∃ c, c < 100 ∧ B 2 c ∧ FG xwc ywc xcn ycn 1 g t c))), hk M T cs3)))
        refine r_iload rfl dc_6_5_16 ?_
        refine r_bipush (v := nI 9) (by decide) dc_6_5_18 ?_
        refine r_ncgt (t := 114) (by omega) (by omega) (by decide) dc_6_5_20 (fun c_20 => ?_) (fun c_20 => ?_)
        · omega
        · skip
          refine r_aload_n rfl dc_6_5_23 ?_
          refine h_get (t := cT e 15) (v := .ref 16) fx_4_13 (hF 15 (by decide)) ⟨by omega, by omega⟩ (rfl) dc_6_5_24 ?_
          refine r_iconst (v := nI 1) (by decide) dc_6_5_27 ?_
          refine h_aal (c := 24) (n := 3) (e := 1) (y := 18) (hF 16 (by decide)) (Or.inr rfl) ⟨by omega, by omega⟩ (by omega) (by omega) (rfl) dc_6_5_28 ?_
          refine r_iload rfl dc_6_5_29 ?_
          refine h_ild (n := 101) (e := t1) (v := pI (B 1 t1)) (hF 18 (by decide)) ⟨by omega, by omega⟩ (show t1 < 101 by omega) (by omega) ((congrFun (hi_t1.1 18 (by omega) (by omega)) t1).trans (hB 1 (by decide) t1 (by omega))) dc_6_5_31 ?_
          refine r_ifne (t := 38) (by decide) dc_6_5_32 (fun c_32 => ?_) (fun c_32 => ?_)
          · skip
            refine r_iconst (v := nI 0) (by decide) dc_6_5_38 ?_
            refine r_istore (ls' := [(7, .int (nI 0)), (6, .int (nI t1)), (0, .ref 15), (1, .ref (D 4 x)), (2, .ref (D 4 y)), (3, .int (nI 1)), (4, .int (nI g)), (5, .int (nI 0))]) (by decide) rfl dc_6_5_39 ?_
            refine mm_cnt (P := fun c1 => ∀ (cs2 : Nat → Nat → Int32), (FrG D x y cs cs2 ∧ ∀ j, j < c1 → ¬ (B 2 j ∧ FG xwc ywc xcn ycn 1 g t1 j)) → mm_Ru 3 (4, 9, false, prog_6_method_5_code, some .boolean) 41 [(7, .int (nI c1)), (6, .int (nI t1)), (0, .ref 15), (1, .ref (D 4 x)), (2, .ref (D 4 y)), (3, .int (nI 1)), (4, .int (nI g)), (5, .int (nI 0))] [] (hk M T cs2) (fun r9 => ∃ (cs3 : Nat → Nat → Int32), (FrG D x y cs cs3) ∧ r9 = ((some (.int (pI (∃ t, t < 10 ∧ B 1 t ∧ ∃ c, c < 100 ∧ B 2 c ∧ FG xwc ywc xcn ycn 1 g t c))), hk M T cs3)))) 100 ?_ ?_ 0 (by omega) cs1 (⟨hi_t1.1, fun j hj => absurd hj (Nat.not_lt_zero j)⟩)
            · intro  cs2 hi_c1
              show mm_Ru 3 (4, 9, false, prog_6_method_5_code, some .boolean) 41 [(7, .int (nI 100)), (6, .int (nI t1)), (0, .ref 15), (1, .ref (D 4 x)), (2, .ref (D 4 y)), (3, .int (nI 1)), (4, .int (nI g)), (5, .int (nI 0))] [] (hk M T cs2) (fun r9 => ∃ (cs3 : Nat → Nat → Int32), (FrG D x y cs cs3) ∧ r9 = ((some (.int (pI (∃ t, t < 10 ∧ B 1 t ∧ ∃ c, c < 100 ∧ B 2 c ∧ FG xwc ywc xcn ycn 1 g t c))), hk M T cs3)))
              refine r_iload rfl dc_6_5_41 ?_
              refine r_bipush (v := nI 99) (by decide) dc_6_5_43 ?_
              refine r_ncgt (t := 108) (by omega) (by omega) (by decide) dc_6_5_45 (fun c_45 => ?_) (fun c_45 => ?_)
              · skip
                refine r_iinc (n := 6) (k := 1) (x := nI t1) (v := nI (t1 + 1)) (ls' := [(6, .int (nI (t1 + 1))), (7, .int (nI 100)), (0, .ref 15), (1, .ref (D 4 x)), (2, .ref (D 4 y)), (3, .int (nI 1)), (4, .int (nI g)), (5, .int (nI 0))]) rfl (nI_1 _) (by decide) rfl dc_6_5_108 ?_
                refine r_goto (t := 16) (by decide) dc_6_5_111 ?_
                refine r_ls [(6, .int (nI (t1 + 1))), (0, .ref 15), (1, .ref (D 4 x)), (2, .ref (D 4 y)), (3, .int (nI 1)), (4, .int (nI g)), (5, .int (nI 0))] (mm_ndk_of [6, 0, 1, 2, 3, 4, 5] rfl (by decide)) (mm_sub_cons rfl (mm_sub_cons rfl (mm_sub_cons rfl (mm_sub_cons rfl (mm_sub_cons rfl (mm_sub_cons rfl (mm_sub_cons rfl (mm_sub_nil _)))))))) ?_
                exact ih_t1 cs2 (⟨hi_c1.1, fun j hj => by rcases (by omega : j < t1 ∨ j = t1) with q | rfl; exact hi_t1.2 j q; exact fun z => z.2.elim fun c hc => hi_c1.2 c hc.1 hc.2⟩)
              · omega
            · intro c1 h_c1 ih_c1  cs2 hi_c1
              show mm_Ru 3 (4, 9, false, prog_6_method_5_code, some .boolean) 41 [(7, .int (nI c1)), (6, .int (nI t1)), (0, .ref 15), (1, .ref (D 4 x)), (2, .ref (D 4 y)), (3, .int (nI 1)), (4, .int (nI g)), (5, .int (nI 0))] [] (hk M T cs2) (fun r9 => ∃ (cs3 : Nat → Nat → Int32), (FrG D x y cs cs3) ∧ r9 = ((some (.int (pI (∃ t, t < 10 ∧ B 1 t ∧ ∃ c, c < 100 ∧ B 2 c ∧ FG xwc ywc xcn ycn 1 g t c))), hk M T cs3)))
              refine r_iload rfl dc_6_5_41 ?_
              refine r_bipush (v := nI 99) (by decide) dc_6_5_43 ?_
              refine r_ncgt (t := 108) (by omega) (by omega) (by decide) dc_6_5_45 (fun c_45 => ?_) (fun c_45 => ?_)
              · omega
              · skip
                refine r_aload_n rfl dc_6_5_48 ?_
                refine h_get (t := cT e 15) (v := .ref 16) fx_4_13 (hF 15 (by decide)) ⟨by omega, by omega⟩ (rfl) dc_6_5_49 ?_
                refine r_iconst (v := nI 2) (by decide) dc_6_5_52 ?_
                refine h_aal (c := 24) (n := 3) (e := 2) (y := 19) (hF 16 (by decide)) (Or.inr rfl) ⟨by omega, by omega⟩ (by omega) (by omega) (rfl) dc_6_5_53 ?_
                refine r_iload rfl dc_6_5_54 ?_
                refine h_ild (n := 101) (e := c1) (v := pI (B 2 c1)) (hF 19 (by decide)) ⟨by omega, by omega⟩ (show c1 < 101 by omega) (by omega) ((congrFun (hi_c1.1 19 (by omega) (by omega)) c1).trans (hB 2 (by decide) c1 (by omega))) dc_6_5_56 ?_
                refine r_ifne (t := 64) (by decide) dc_6_5_57 (fun c_57 => ?_) (fun c_57 => ?_)
                · skip
                  refine r_aload_n rfl dc_6_5_64 ?_
                  refine r_iload rfl dc_6_5_65 ?_
                  refine r_iload rfl dc_6_5_67 ?_
                  refine r_iload rfl dc_6_5_69 ?_
                  obtain ⟨q1, k1, ⟨hk1, hm1⟩, hev1⟩ := k_subj M T cs2 sg D x xcn xwc (hAx _ hi_c1.1) g t1 c1 (by omega) (by omega) (by omega)
                  refine h_callv (t := (10, 0, rl [(9, D 6 x), (8, D 5 x)])) (as := [.int (nI g), .int (nI t1), .int (nI c1)]) (rest := []) (v := .int (nI k1)) (M1 := hk M T (wA cs2 (D 6 x) q1)) rfl rfl iv_4_v40 (Or.inl rfl) na_1_86 xhS xhSC (show (10 : Nat) < 14 by decide) o_86 rfl (show (0 : Nat) ≤ 8 by decide) dc_6_5_71 (hev1) ?_
                  refine r_istore (ls' := [(8, .int (nI k1)), (7, .int (nI c1)), (6, .int (nI t1)), (0, .ref 15), (1, .ref (D 4 x)), (2, .ref (D 4 y)), (3, .int (nI 1)), (4, .int (nI g)), (5, .int (nI 0))]) (by decide) rfl dc_6_5_74 ?_
                  refine r_iload rfl dc_6_5_76 ?_
                  refine r_nzeq (t := 102) (by omega) (by decide) dc_6_5_78 (fun c_78 => ?_) (fun c_78 => ?_)
                  · skip
                    refine r_iinc (n := 7) (k := 1) (x := nI c1) (v := nI (c1 + 1)) (ls' := [(7, .int (nI (c1 + 1))), (8, .int (nI k1)), (6, .int (nI t1)), (0, .ref 15), (1, .ref (D 4 x)), (2, .ref (D 4 y)), (3, .int (nI 1)), (4, .int (nI g)), (5, .int (nI 0))]) rfl (nI_1 _) (by decide) rfl dc_6_5_102 ?_
                    refine r_goto (t := 41) (by decide) dc_6_5_105 ?_
                    refine r_ls [(7, .int (nI (c1 + 1))), (6, .int (nI t1)), (0, .ref 15), (1, .ref (D 4 x)), (2, .ref (D 4 y)), (3, .int (nI 1)), (4, .int (nI g)), (5, .int (nI 0))] (mm_ndk_of [7, 6, 0, 1, 2, 3, 4, 5] rfl (by decide)) (mm_sub_cons rfl (mm_sub_cons rfl (mm_sub_cons rfl (mm_sub_cons rfl (mm_sub_cons rfl (mm_sub_cons rfl (mm_sub_cons rfl (mm_sub_cons rfl (mm_sub_nil _))))))))) ?_
                    exact ih_c1 (wA cs2 (D 6 x) q1) (⟨FrG_t hi_c1.1 (FrG_x x y _ q1), fun j hj => by rcases (by omega : j < c1 ∨ j = c1) with q | rfl; exact hi_c1.2 j q; exact fun z => FG_0 hm1 c_78 z.2⟩)
                  · skip
                    refine r_iload rfl dc_6_5_81 ?_
                    refine r_iload rfl dc_6_5_83 ?_
                    refine r_aload_n rfl dc_6_5_85 ?_
                    refine r_iload rfl dc_6_5_86 ?_
                    refine r_iload rfl dc_6_5_88 ?_
                    refine r_iload rfl dc_6_5_90 ?_
                    obtain ⟨q2, k2, ⟨hk2, hm2⟩, hev2⟩ := k_subj M T (wA cs2 (D 6 x) q1) sg D y ycn ywc (hAy _ (FrG_t hi_c1.1 (FrG_x x y cs2 q1))) g t1 c1 (by omega) (by omega) (by omega)
                    refine h_callv (t := (10, 0, rl [(9, D 6 y), (8, D 5 y)])) (as := [.int (nI g), .int (nI t1), .int (nI c1)]) (rest := [.int (nI 0), .int (nI k1)]) (v := .int (nI k2)) (M1 := hk M T (wA (wA cs2 (D 6 x) q1) (D 6 y) q2)) rfl rfl iv_4_v40 (Or.inl rfl) na_1_86 yhS yhSC (show (10 : Nat) < 14 by decide) o_86 rfl (show (2 : Nat) ≤ 8 by decide) dc_6_5_92 (hev2) ?_
                    refine r_ixor (v := nI (0 ^^^ k2)) (nI_bitxor (by decide) hk2) dc_6_5_95 ?_
                    refine r_iand (v := nI (k1 &&& (0 ^^^ k2))) (nI_bitand hk1 (Nat.xor_lt_two_pow (n := 8) (by decide) hk2)) dc_6_5_96 ?_
                    have hb97 : k1 &&& (0 ^^^ k2) < 256 := Nat.lt_of_le_of_lt Nat.and_le_left hk1
                    refine r_nzeq (t := 102) (by omega) (by decide) dc_6_5_97 (fun c_97 => ?_) (fun c_97 => ?_)
                    · skip
                      refine r_iinc (n := 7) (k := 1) (x := nI c1) (v := nI (c1 + 1)) (ls' := [(7, .int (nI (c1 + 1))), (8, .int (nI k1)), (6, .int (nI t1)), (0, .ref 15), (1, .ref (D 4 x)), (2, .ref (D 4 y)), (3, .int (nI 1)), (4, .int (nI g)), (5, .int (nI 0))]) rfl (nI_1 _) (by decide) rfl dc_6_5_102 ?_
                      refine r_goto (t := 41) (by decide) dc_6_5_105 ?_
                      refine r_ls [(7, .int (nI (c1 + 1))), (6, .int (nI t1)), (0, .ref 15), (1, .ref (D 4 x)), (2, .ref (D 4 y)), (3, .int (nI 1)), (4, .int (nI g)), (5, .int (nI 0))] (mm_ndk_of [7, 6, 0, 1, 2, 3, 4, 5] rfl (by decide)) (mm_sub_cons rfl (mm_sub_cons rfl (mm_sub_cons rfl (mm_sub_cons rfl (mm_sub_cons rfl (mm_sub_cons rfl (mm_sub_cons rfl (mm_sub_cons rfl (mm_sub_nil _))))))))) ?_
                      exact ih_c1 (wA (wA cs2 (D 6 x) q1) (D 6 y) q2) (⟨FrG_t (FrG_t hi_c1.1 (FrG_x x y _ q1)) (FrG_y x y _ q2), fun j hj => by rcases (by omega : j < c1 ∨ j = c1) with q | rfl; exact hi_c1.2 j q; exact fun z => (FG_w1 hm1 hm2 hk1 hk2).mp c_97 z.2⟩)
                    · skip
                      refine r_iconst (v := nI 1) (by decide) dc_6_5_100 ?_
                      refine r_zret rfl (by decide) dc_6_5_101 ?_
                      exact ⟨_, FrG_t (FrG_t hi_c1.1 (FrG_x x y _ q1)) (FrG_y x y _ q2), by rw [pI_t (P := ∃ t, t < 10 ∧ B 1 t ∧ ∃ c, c < 100 ∧ B 2 c ∧ FG xwc ywc xcn ycn 1 g t c) ⟨t1, h_t1, pI_ne c_32, c1, h_c1, pI_ne c_57, Classical.byContradiction (fun z => c_97 ((FG_w1 hm1 hm2 hk1 hk2).mpr z))⟩]⟩
                · skip
                  refine r_iconst (v := nI 0) (by decide) dc_6_5_60 ?_
                  refine r_goto (t := 74) (by decide) dc_6_5_61 ?_
                  refine r_istore (ls' := [(8, .int (nI 0)), (7, .int (nI c1)), (6, .int (nI t1)), (0, .ref 15), (1, .ref (D 4 x)), (2, .ref (D 4 y)), (3, .int (nI 1)), (4, .int (nI g)), (5, .int (nI 0))]) (by decide) rfl dc_6_5_74 ?_
                  refine r_iload rfl dc_6_5_76 ?_
                  refine r_ifeq (t := 102) (by decide) dc_6_5_78 (fun c_78 => ?_) (fun c_78 => ?_)
                  · skip
                    refine r_iinc (n := 7) (k := 1) (x := nI c1) (v := nI (c1 + 1)) (ls' := [(7, .int (nI (c1 + 1))), (8, .int (nI 0)), (6, .int (nI t1)), (0, .ref 15), (1, .ref (D 4 x)), (2, .ref (D 4 y)), (3, .int (nI 1)), (4, .int (nI g)), (5, .int (nI 0))]) rfl (nI_1 _) (by decide) rfl dc_6_5_102 ?_
                    refine r_goto (t := 41) (by decide) dc_6_5_105 ?_
                    refine r_ls [(7, .int (nI (c1 + 1))), (6, .int (nI t1)), (0, .ref 15), (1, .ref (D 4 x)), (2, .ref (D 4 y)), (3, .int (nI 1)), (4, .int (nI g)), (5, .int (nI 0))] (mm_ndk_of [7, 6, 0, 1, 2, 3, 4, 5] rfl (by decide)) (mm_sub_cons rfl (mm_sub_cons rfl (mm_sub_cons rfl (mm_sub_cons rfl (mm_sub_cons rfl (mm_sub_cons rfl (mm_sub_cons rfl (mm_sub_cons rfl (mm_sub_nil _))))))))) ?_
                    exact ih_c1 cs2 (⟨hi_c1.1, fun j hj => by rcases (by omega : j < c1 ∨ j = c1) with q | rfl; exact hi_c1.2 j q; exact fun z => pI_eq0 c_57 z.1⟩)
                  · exact absurd c_78 (by decide)
          · skip
            refine r_goto (t := 108) (by decide) dc_6_5_35 ?_
            refine r_iinc (n := 6) (k := 1) (x := nI t1) (v := nI (t1 + 1)) (ls' := [(6, .int (nI (t1 + 1))), (0, .ref 15), (1, .ref (D 4 x)), (2, .ref (D 4 y)), (3, .int (nI 1)), (4, .int (nI g)), (5, .int (nI 0))]) rfl (nI_1 _) (by decide) rfl dc_6_5_108 ?_
            refine r_goto (t := 16) (by decide) dc_6_5_111 ?_
            exact ih_t1 cs1 (⟨hi_t1.1, fun j hj => by rcases (by omega : j < t1 ∨ j = t1) with q | rfl; exact hi_t1.2 j q; exact fun z => pI_eq0 c_32 z.1⟩)
  obtain ⟨z9, ⟨cs3, p9, e9⟩, h9⟩ := hq9
  subst e9
  exact ⟨cs3, p9, h9⟩
def Bf (xwc ywc : Nat → Nat) (xcn ycn k v : Nat) : Prop := (v = 0 ∨ bo3 xwc xcn k v) ∨ bo3 ywc ycn k v
def FrX (D : Nat → Nat → Nat) (x y : Nat) (cs cs2 : Nat → Nat → Int32) : Prop := ∀ a, (a < 17 ∨ 20 ≤ a) → ¬ a = D 6 x → ¬ a = D 6 y → cs2 a = cs a
def gFn (xwc ywc : Nat → Nat) (xcn ycn wi : Nat) : Prop := ∃ g, g < 101 ∧ Bf xwc ywc xcn ycn 0 g ∧ ∃ t, t < 10 ∧ Bf xwc ywc xcn ycn 1 t ∧ ∃ c, c < 100 ∧ Bf xwc ywc xcn ycn 2 c ∧ FG xwc ywc xcn ycn wi g t c
theorem pI_1 {P : Prop} (h : pI P = nI 1) : P := Classical.byContradiction (fun q => absurd ((pI_f q).symm.trans h) (by decide))
theorem fill_row {cs : Nat → Nat → Int32} {cs1 : Nat → Nat → Int32} {m : Nat} (h : FrE cs cs1 ∧ ∀ k, k < m → ∀ v, v ≤ 100 → cs1 (17 + k) v = pI (v = 0)) (hm : m < 3) : FrE cs (w1 (wA cs1 (17 + m) (fl (cs1 (17 + m)) 101 (nI 0))) (17 + m) 0 (nI 1)) ∧ ∀ k, k < m + 1 → ∀ v, v ≤ 100 → w1 (wA cs1 (17 + m) (fl (cs1 (17 + m)) 101 (nI 0))) (17 + m) 0 (nI 1) (17 + k) v = pI (v = 0) := by
  refine ⟨fun a ha => ?_, fun k hk v hv => ?_⟩
  · rw [w1_n _ _ _ (by omega), wA_o _ _ (by omega), h.1 a ha]
  · by_cases q : k = m
    · subst q
      by_cases q0 : v = 0
      · rw [q0, w1_s, pI_t rfl]
      · rw [w1_o _ _ (Or.inr q0), wA_s, pI_f q0]
        exact if_pos (by omega)
    · rw [w1_o _ _ (Or.inl (by omega)), wA_o _ _ (by omega)]
      exact h.2 k (by omega) v hv
set_option maxHeartbeats 4000000 in
theorem k_finds0 (M : mH) (hM : 157 ≤ M.1) (T : Nat → mT) (e : Nat → Nat) (hF : ShF T e) (cs : Nat → Nat → Int32) (sg : Nat → Nat → Int32) (D : Nat → Nat → Nat) (x xcn : Nat) (xwc : Nat → Nat) (hx : AgR M T cs sg D x xcn xwc) (y ycn : Nat) (ywc : Nat → Nat) (hy : AgR M T cs sg D y ycn ywc) (h6x : 157 ≤ D 6 x) (h6y : 157 ≤ D 6 y) (hd4x : ¬ D 4 x = D 6 y) (hd4y : ¬ D 4 y = D 6 x) (hd5x : ¬ D 5 x = D 6 y) (hd5y : ¬ D 5 y = D 6 x) (h4x : 157 ≤ D 4 x) (h4y : 157 ≤ D 4 y) (h5x : 157 ≤ D 5 x) (h5y : 157 ≤ D 5 y) : ∃ (cs6 : Nat → Nat → Int32), (FrX D x y cs cs6) ∧ mm_Ev 5 92 [.ref 15, .ref (D 4 x), .ref (D 4 y), .int (nI 0)] (hk M T cs) ((some (.int (pI (gFn xwc ywc xcn ycn 0))), hk M T cs6)) := by
  have hq9 : ∃ z, (fun r9 => ∃ (cs6 : Nat → Nat → Int32), (FrX D x y cs cs6) ∧ r9 = ((some (.int (pI (gFn xwc ywc xcn ycn 0))), hk M T cs6))) z ∧ mm_Ev 5 92 [.ref 15, .ref (D 4 x), .ref (D 4 y), .int (nI 0)] (hk M T cs) z := by
    obtain ⟨xhS, xhSC, ⟨xhT5, xhC5, xhT6, xhC6⟩, ⟨xf0, xf1, xf2, xf3, xf4, xf5, xf6, xf7⟩, xfc, xhcn, xhow, xhoc, xhn56, xhn46⟩ := id hx
    obtain ⟨yhS, yhSC, ⟨yhT5, yhC5, yhT6, yhC6⟩, ⟨yf0, yf1, yf2, yf3, yf4, yf5, yf6, yf7⟩, yfc, yhcn, yhow, yhoc, yhn56, yhn46⟩ := id hy
    refine r_evQ (by decide +kernel) (show (4 : Nat) ≤ mm_nL 92 by decide +kernel) ?_
    show mm_Ru 4 (4, 5, false, prog_6_method_4_code, some .boolean) 0 [(0, .ref 15), (1, .ref (D 4 x)), (2, .ref (D 4 y)), (3, .int (nI 0))] [] (hk M T cs) (fun r9 => ∃ (cs6 : Nat → Nat → Int32), (FrX D x y cs cs6) ∧ r9 = ((some (.int (pI (gFn xwc ywc xcn ycn 0))), hk M T cs6)))
    refine r_iconst (v := nI 0) (by decide) dc_6_4_0 ?_
    refine r_istore (ls' := [(4, .int (nI 0)), (0, .ref 15), (1, .ref (D 4 x)), (2, .ref (D 4 y)), (3, .int (nI 0))]) (by decide) rfl dc_6_4_1 ?_
    refine mm_cnt (P := fun k1 => ∀ (cs1 : Nat → Nat → Int32), (FrE cs cs1 ∧ ∀ k, k < k1 → ∀ v, v ≤ 100 → cs1 (17 + k) v = pI (v = 0)) → mm_Ru 4 (4, 5, false, prog_6_method_4_code, some .boolean) 3 [(4, .int (nI k1)), (0, .ref 15), (1, .ref (D 4 x)), (2, .ref (D 4 y)), (3, .int (nI 0))] [] (hk M T cs1) (fun r9 => ∃ (cs6 : Nat → Nat → Int32), (FrX D x y cs cs6) ∧ r9 = ((some (.int (pI (gFn xwc ywc xcn ycn 0))), hk M T cs6)))) 3 ?_ ?_ 0 (by omega) cs (⟨fun _ _ => rfl, fun j hj => absurd hj (Nat.not_lt_zero j)⟩)
    · intro  cs1 hi_k1
      show mm_Ru 4 (4, 5, false, prog_6_method_4_code, some .boolean) 3 [(4, .int (nI 3)), (0, .ref 15), (1, .ref (D 4 x)), (2, .ref (D 4 y)), (3, .int (nI 0))] [] (hk M T cs1) (fun r9 => ∃ (cs6 : Nat → Nat → Int32), (FrX D x y cs cs6) ∧ r9 = ((some (.int (pI (gFn xwc ywc xcn ycn 0))), hk M T cs6)))
      refine r_iload rfl dc_6_4_3 ?_
      refine r_iconst (v := nI 3) (by decide) dc_6_4_5 ?_
      refine r_ncge (t := 36) (by omega) (by omega) (by decide) dc_6_4_6 (fun c_6 => ?_) (fun c_6 => ?_)
      · skip
        refine r_aload_n rfl dc_6_4_36 ?_
        refine r_aload_n rfl dc_6_4_37 ?_
        refine h_get (t := (10, 0, rl [(9, D 6 x), (8, D 5 x)])) (v := .ref (D 5 x)) fx_4_26 xhS xhSC (rfl) dc_6_4_38 ?_
        obtain ⟨cs2, ⟨hf2, hE2⟩, hev2⟩ := k_marks M hM T e hF cs1 (fun k v => v = 0) (fun k hk v hv => hi_k1.2 k hk v hv) (D 5 x) xcn xwc xhT5 xhC5 (by omega) xhcn (fun k hk => (congrFun (hi_k1.1 _ (by omega)) k).trans (xfc k hk)) xhow
        refine h_call0 (t := cT e 15) (as := [.ref (D 5 x)]) (rest := []) (M1 := hk M T cs2) rfl rfl iv_4_v32 (Or.inl rfl) na_1_93 (hF 15 (by decide)) ⟨by omega, by omega⟩ (show (4 : Nat) < 14 by decide) o_93 rfl (show (0 : Nat) ≤ 8 by decide) dc_6_4_41 (mm_Ev_up (by decide : 3 ≤ 4) (hev2)) ?_
        refine r_aload_n rfl dc_6_4_44 ?_
        refine r_aload_n rfl dc_6_4_45 ?_
        refine h_get (t := (10, 0, rl [(9, D 6 y), (8, D 5 y)])) (v := .ref (D 5 y)) fx_4_26 yhS yhSC (rfl) dc_6_4_46 ?_
        have hf2b := FrE_t hi_k1.1 hf2
        obtain ⟨cs3, ⟨hf3, hE3⟩, hev3⟩ := k_marks M hM T e hF cs2 _ hE2 (D 5 y) ycn ywc yhT5 yhC5 (by omega) yhcn (fun k hk => (congrFun (hf2b _ (by omega)) k).trans (yfc k hk)) yhow
        have hf3b := FrE_t hf2b hf3
        have hx3 : AgR M T cs3 sg D x xcn xwc := AgR_cs hx (hf3b _ (by omega)) (hf3b _ (by omega))
        have hy3 : AgR M T cs3 sg D y ycn ywc := AgR_cs hy (hf3b _ (by omega)) (hf3b _ (by omega))
        refine h_call0 (t := cT e 15) (as := [.ref (D 5 y)]) (rest := []) (M1 := hk M T cs3) rfl rfl iv_4_v32 (Or.inl rfl) na_1_93 (hF 15 (by decide)) ⟨by omega, by omega⟩ (show (4 : Nat) < 14 by decide) o_93 rfl (show (0 : Nat) ≤ 8 by decide) dc_6_4_49 (mm_Ev_up (by decide : 3 ≤ 4) (hev3)) ?_
        refine r_iconst (v := nI 0) (by decide) dc_6_4_52 ?_
        refine r_istore (ls' := [(4, .int (nI 0)), (0, .ref 15), (1, .ref (D 4 x)), (2, .ref (D 4 y)), (3, .int (nI 0))]) (by decide) rfl dc_6_4_53 ?_
        refine mm_cnt (P := fun g1 => ∀ (cs4 : Nat → Nat → Int32), (FrG D x y cs3 cs4 ∧ ∀ j, j < g1 → ¬ (Bf xwc ywc xcn ycn 0 j ∧ ∃ t, t < 10 ∧ Bf xwc ywc xcn ycn 1 t ∧ ∃ c, c < 100 ∧ Bf xwc ywc xcn ycn 2 c ∧ FG xwc ywc xcn ycn 0 j t c)) → mm_Ru 4 (4, 5, false, prog_6_method_4_code, some .boolean) 55 [(4, .int (nI g1)), (0, .ref 15), (1, .ref (D 4 x)), (2, .ref (D 4 y)), (3, .int (nI 0))] [] (hk M T cs4) (fun r9 => ∃ (cs6 : Nat → Nat → Int32), (FrX D x y cs cs6) ∧ r9 = ((some (.int (pI (gFn xwc ywc xcn ycn 0))), hk M T cs6)))) 101 ?_ ?_ 0 (by omega) cs3 (⟨fun _ _ _ => rfl, fun j hj => absurd hj (Nat.not_lt_zero j)⟩)
        · intro  cs4 hi_g1
          show mm_Ru 4 (4, 5, false, prog_6_method_4_code, some .boolean) 55 [(4, .int (nI 101)), (0, .ref 15), (1, .ref (D 4 x)), (2, .ref (D 4 y)), (3, .int (nI 0))] [] (hk M T cs4) (fun r9 => ∃ (cs6 : Nat → Nat → Int32), (FrX D x y cs cs6) ∧ r9 = ((some (.int (pI (gFn xwc ywc xcn ycn 0))), hk M T cs6)))
          refine r_iload rfl dc_6_4_55 ?_
          refine r_bipush (v := nI 100) (by decide) dc_6_4_57 ?_
          refine r_ncgt (t := 95) (by omega) (by omega) (by decide) dc_6_4_59 (fun c_59 => ?_) (fun c_59 => ?_)
          · skip
            refine r_iconst (v := nI 0) (by decide) dc_6_4_95 ?_
            refine r_zret rfl (by decide) dc_6_4_96 ?_
            exact ⟨_, fun a h1 h2 h3 => (hi_g1.1 a h2 h3).trans (hf3b a h1), by rw [pI_f (P := gFn xwc ywc xcn ycn 0) (fun z => z.elim fun g hg => hi_g1.2 g hg.1 hg.2)]⟩
          · omega
        · intro g1 h_g1 ih_g1  cs4 hi_g1
          show mm_Ru 4 (4, 5, false, prog_6_method_4_code, some .boolean) 55 [(4, .int (nI g1)), (0, .ref 15), (1, .ref (D 4 x)), (2, .ref (D 4 y)), (3, .int (nI 0))] [] (hk M T cs4) (fun r9 => ∃ (cs6 : Nat → Nat → Int32), (FrX D x y cs cs6) ∧ r9 = ((some (.int (pI (gFn xwc ywc xcn ycn 0))), hk M T cs6)))
          refine r_iload rfl dc_6_4_55 ?_
          refine r_bipush (v := nI 100) (by decide) dc_6_4_57 ?_
          refine r_ncgt (t := 95) (by omega) (by omega) (by decide) dc_6_4_59 (fun c_59 => ?_) (fun c_59 => ?_)
          · omega
          · skip
            refine r_aload_n rfl dc_6_4_62 ?_
            refine h_get (t := cT e 15) (v := .ref 16) fx_4_13 (hF 15 (by decide)) ⟨by omega, by omega⟩ (rfl) dc_6_4_63 ?_
            refine r_iconst (v := nI 0) (by decide) dc_6_4_66 ?_
            refine h_aal (c := 24) (n := 3) (e := 0) (y := 17) (hF 16 (by decide)) (Or.inr rfl) ⟨by omega, by omega⟩ (by omega) (by omega) (rfl) dc_6_4_67 ?_
            refine r_iload rfl dc_6_4_68 ?_
            refine h_ild (n := 101) (e := g1) (v := pI (Bf xwc ywc xcn ycn 0 g1)) (hF 17 (by decide)) ⟨by omega, by omega⟩ (show g1 < 101 by omega) (by omega) ((congrFun (hi_g1.1 17 (by omega) (by omega)) g1).trans (hE3 0 (by decide) g1 (by omega))) dc_6_4_70 ?_
            refine r_iconst (v := nI 1) (by decide) dc_6_4_71 ?_
            refine r_icne (t := 89) (by decide) dc_6_4_72 (fun c_72 => ?_) (fun c_72 => ?_)
            · skip
              refine r_iinc (n := 4) (k := 1) (x := nI g1) (v := nI (g1 + 1)) (ls' := [(4, .int (nI (g1 + 1))), (0, .ref 15), (1, .ref (D 4 x)), (2, .ref (D 4 y)), (3, .int (nI 0))]) rfl (nI_1 _) (by decide) rfl dc_6_4_89 ?_
              refine r_goto (t := 55) (by decide) dc_6_4_92 ?_
              exact ih_g1 cs4 (⟨hi_g1.1, fun j hj => by rcases (by omega : j < g1 ∨ j = g1) with q | rfl; exact hi_g1.2 j q; exact fun z => c_72 (pI_t z.1)⟩)
            · skip
              refine r_aload_n rfl dc_6_4_75 ?_
              refine r_aload_n rfl dc_6_4_76 ?_
              refine r_aload_n rfl dc_6_4_77 ?_
              refine r_iload_n rfl dc_6_4_78 ?_
              refine r_iload rfl dc_6_4_79 ?_
              have hE4 : EdI cs4 (Bf xwc ywc xcn ycn) := fun k hk v hv => (congrFun (hi_g1.1 (17 + k) (by omega) (by omega)) v).trans (hE3 k hk v hv)
              obtain ⟨cs5, hf5, hev5⟩ := k_atGr0 M hM T e hF cs4 sg D x xcn xwc (AgR_cs hx3 (hi_g1.1 _ xhn46 hd4x) (hi_g1.1 _ xhn56 hd5x)) y ycn ywc (AgR_cs hy3 (hi_g1.1 _ hd4y yhn46) (hi_g1.1 _ hd5y yhn56)) h6x h6y hd4x hd4y hd5x hd5y _ hE4 g1 (by omega)
              refine h_callv (t := cT e 15) (as := [.ref (D 4 x), .ref (D 4 y), .int (nI 0), .int (nI g1)]) (rest := []) (v := .int (pI (∃ t, t < 10 ∧ Bf xwc ywc xcn ycn 1 t ∧ ∃ c, c < 100 ∧ Bf xwc ywc xcn ycn 2 c ∧ FG xwc ywc xcn ycn 0 g1 t c))) (M1 := hk M T cs5) rfl rfl iv_4_v36 (Or.inl rfl) na_1_95 (hF 15 (by decide)) ⟨by omega, by omega⟩ (show (4 : Nat) < 14 by decide) o_95 rfl (show (0 : Nat) ≤ 8 by decide) dc_6_4_81 (hev5) ?_
              refine r_ifeq (t := 89) (by decide) dc_6_4_84 (fun c_84 => ?_) (fun c_84 => ?_)
              · skip
                refine r_iinc (n := 4) (k := 1) (x := nI g1) (v := nI (g1 + 1)) (ls' := [(4, .int (nI (g1 + 1))), (0, .ref 15), (1, .ref (D 4 x)), (2, .ref (D 4 y)), (3, .int (nI 0))]) rfl (nI_1 _) (by decide) rfl dc_6_4_89 ?_
                refine r_goto (t := 55) (by decide) dc_6_4_92 ?_
                exact ih_g1 cs5 (⟨FrG_t hi_g1.1 hf5, fun j hj => by rcases (by omega : j < g1 ∨ j = g1) with q | rfl; exact hi_g1.2 j q; exact fun z => pI_eq0 c_84 z.2⟩)
              · skip
                refine r_iconst (v := nI 1) (by decide) dc_6_4_87 ?_
                refine r_zret rfl (by decide) dc_6_4_88 ?_
                exact ⟨_, fun a h1 h2 h3 => ((FrG_t hi_g1.1 hf5) a h2 h3).trans (hf3b a h1), by rw [pI_t (P := gFn xwc ywc xcn ycn 0) ⟨g1, h_g1, pI_1 c_72, pI_ne c_84⟩]⟩
      · omega
    · intro k1 h_k1 ih_k1  cs1 hi_k1
      show mm_Ru 4 (4, 5, false, prog_6_method_4_code, some .boolean) 3 [(4, .int (nI k1)), (0, .ref 15), (1, .ref (D 4 x)), (2, .ref (D 4 y)), (3, .int (nI 0))] [] (hk M T cs1) (fun r9 => ∃ (cs6 : Nat → Nat → Int32), (FrX D x y cs cs6) ∧ r9 = ((some (.int (pI (gFn xwc ywc xcn ycn 0))), hk M T cs6)))
      refine r_iload rfl dc_6_4_3 ?_
      refine r_iconst (v := nI 3) (by decide) dc_6_4_5 ?_
      refine r_ncge (t := 36) (by omega) (by omega) (by decide) dc_6_4_6 (fun c_6 => ?_) (fun c_6 => ?_)
      · omega
      · skip
        refine r_aload_n rfl dc_6_4_9 ?_
        refine h_get (t := cT e 15) (v := .ref 16) fx_4_13 (hF 15 (by decide)) ⟨by omega, by omega⟩ (rfl) dc_6_4_10 ?_
        refine r_iload rfl dc_6_4_13 ?_
        refine h_aal (c := 24) (n := 3) (e := k1) (y := 17 + k1) (hF 16 (by decide)) (Or.inr rfl) ⟨by omega, by omega⟩ (by omega) (by omega) (if_pos (by omega)) dc_6_4_15 ?_
        refine r_iconst (v := nI 0) (by decide) dc_6_4_16 ?_
        refine h_callS0 (as := [.ref (17 + k1), .int (nI 0)]) (rest := []) (M1 := hk M T (wA cs1 (17 + k1) (fl (cs1 (17 + k1)) 101 (nI 0)))) rfl rfl iv_4_s20 (Or.inl rfl) na_0_2 rfl (show (0 : Nat) ≤ 8 by decide) dc_6_4_17 (mm_Ev_up (by decide : 1 ≤ 4) (k_fill M T cs1 (17 + k1) 101 _ (nI 0) ((hF (17 + k1) (by omega)).trans (cR_16 e k1 (by omega))) ⟨by omega, by omega⟩ (by decide))) ?_
        refine r_aload_n rfl dc_6_4_20 ?_
        refine h_get (t := cT e 15) (v := .ref 16) fx_4_13 (hF 15 (by decide)) ⟨by omega, by omega⟩ (rfl) dc_6_4_21 ?_
        refine r_iload rfl dc_6_4_24 ?_
        refine h_aal (c := 24) (n := 3) (e := k1) (y := 17 + k1) (hF 16 (by decide)) (Or.inr rfl) ⟨by omega, by omega⟩ (by omega) (by omega) (if_pos (by omega)) dc_6_4_26 ?_
        refine r_iconst (v := nI 0) (by decide) dc_6_4_27 ?_
        refine r_iconst (v := nI 1) (by decide) dc_6_4_28 ?_
        refine h_ist (n := 101) (e := 0) ((hF (17 + k1) (by omega)).trans (cR_16 e k1 (by omega))) ⟨by omega, by omega⟩ (show 0 < 101 by omega) (by omega) dc_6_4_29 ?_
        refine r_iinc (n := 4) (k := 1) (x := nI k1) (v := nI (k1 + 1)) (ls' := [(4, .int (nI (k1 + 1))), (0, .ref 15), (1, .ref (D 4 x)), (2, .ref (D 4 y)), (3, .int (nI 0))]) rfl (nI_1 _) (by decide) rfl dc_6_4_30 ?_
        refine r_goto (t := 3) (by decide) dc_6_4_33 ?_
        exact ih_k1 (w1 (wA cs1 (17 + k1) (fl (cs1 (17 + k1)) 101 (nI 0))) (17 + k1) 0 (nI 1)) (fill_row hi_k1 h_k1)
  obtain ⟨z9, ⟨cs6, p9, e9⟩, h9⟩ := hq9
  subst e9
  exact ⟨cs6, p9, h9⟩
theorem pI_and1 (P : Prop) : pI P &&& 1 = pI P := by
  by_cases q : P
  · rw [pI_t q]
    decide
  · rw [pI_f q]
    decide
set_option maxHeartbeats 4000000 in
theorem k_beyond (M : mH) (hM : 157 ≤ M.1) (T : Nat → mT) (e : Nat → Nat) (hF : ShF T e) (cs : Nat → Nat → Int32) (sg : Nat → Nat → Int32) (D : Nat → Nat → Nat) (x xcn : Nat) (xwc : Nat → Nat) (hx : AgR M T cs sg D x xcn xwc) (y ycn : Nat) (ywc : Nat → Nat) (hy : AgR M T cs sg D y ycn ywc) (h6x : 157 ≤ D 6 x) (h6y : 157 ≤ D 6 y) (hd4x : ¬ D 4 x = D 6 y) (hd4y : ¬ D 4 y = D 6 x) (hd5x : ¬ D 5 x = D 6 y) (hd5y : ¬ D 5 y = D 6 x) (h4x : 157 ≤ D 4 x) (h4y : 157 ≤ D 4 y) (h5x : 157 ≤ D 5 x) (h5y : 157 ≤ D 5 y) : ∃ (cs6 : Nat → Nat → Int32), (FrX D x y cs cs6) ∧ mm_Ev 6 96 [.ref 15, .ref (D 4 x), .ref (D 4 y)] (hk M T cs) ((some (.int (pI (gFn xwc ywc xcn ycn 0))), hk M T cs6)) := by
  have hq9 : ∃ z, (fun r9 => ∃ (cs6 : Nat → Nat → Int32), (FrX D x y cs cs6) ∧ r9 = ((some (.int (pI (gFn xwc ywc xcn ycn 0))), hk M T cs6))) z ∧ mm_Ev 6 96 [.ref 15, .ref (D 4 x), .ref (D 4 y)] (hk M T cs) z := by
    obtain ⟨xhS, xhSC, ⟨xhT5, xhC5, xhT6, xhC6⟩, ⟨xf0, xf1, xf2, xf3, xf4, xf5, xf6, xf7⟩, xfc, xhcn, xhow, xhoc, xhn56, xhn46⟩ := id hx
    obtain ⟨yhS, yhSC, ⟨yhT5, yhC5, yhT6, yhC6⟩, ⟨yf0, yf1, yf2, yf3, yf4, yf5, yf6, yf7⟩, yfc, yhcn, yhow, yhoc, yhn56, yhn46⟩ := id hy
    refine r_evQ (by decide +kernel) (show (3 : Nat) ≤ mm_nL 96 by decide +kernel) ?_
    show mm_Ru 5 (4, 3, false, prog_6_method_3_code, some .boolean) 0 [(0, .ref 15), (1, .ref (D 4 x)), (2, .ref (D 4 y))] [] (hk M T cs) (fun r9 => ∃ (cs6 : Nat → Nat → Int32), (FrX D x y cs cs6) ∧ r9 = ((some (.int (pI (gFn xwc ywc xcn ycn 0))), hk M T cs6)))
    refine r_aload_n rfl dc_6_3_0 ?_
    refine r_aload_n rfl dc_6_3_1 ?_
    refine r_aload_n rfl dc_6_3_2 ?_
    refine r_iconst (v := nI 0) (by decide) dc_6_3_3 ?_
    obtain ⟨cs6, hf6, hev6⟩ := k_finds0 M hM T e hF cs sg D x xcn xwc hx y ycn ywc hy h6x h6y hd4x hd4y hd5x hd5y h4x h4y h5x h5y
    refine h_callv (t := cT e 15) (as := [.ref (D 4 x), .ref (D 4 y), .int (nI 0)]) (rest := []) (v := .int (pI (gFn xwc ywc xcn ycn 0))) (M1 := hk M T cs6) rfl rfl iv_4_v16 (Or.inl rfl) na_1_92 (hF 15 (by decide)) ⟨by omega, by omega⟩ (show (4 : Nat) < 14 by decide) o_92 rfl (show (0 : Nat) ≤ 8 by decide) dc_6_3_4 (hev6) ?_
    refine r_zret rfl (pI_and1 _) dc_6_3_7 ?_
    exact ⟨_, hf6, rfl⟩
  obtain ⟨z9, ⟨cs6, p9, e9⟩, h9⟩ := hq9
  subst e9
  exact ⟨cs6, p9, h9⟩
set_option maxHeartbeats 4000000 in
theorem k_finds1 (M : mH) (hM : 157 ≤ M.1) (T : Nat → mT) (e : Nat → Nat) (hF : ShF T e) (cs : Nat → Nat → Int32) (sg : Nat → Nat → Int32) (D : Nat → Nat → Nat) (x xcn : Nat) (xwc : Nat → Nat) (hx : AgR M T cs sg D x xcn xwc) (y ycn : Nat) (ywc : Nat → Nat) (hy : AgR M T cs sg D y ycn ywc) (h6x : 157 ≤ D 6 x) (h6y : 157 ≤ D 6 y) (hd4x : ¬ D 4 x = D 6 y) (hd4y : ¬ D 4 y = D 6 x) (hd5x : ¬ D 5 x = D 6 y) (hd5y : ¬ D 5 y = D 6 x) (h4x : 157 ≤ D 4 x) (h4y : 157 ≤ D 4 y) (h5x : 157 ≤ D 5 x) (h5y : 157 ≤ D 5 y) : ∃ (cs6 : Nat → Nat → Int32), (FrX D x y cs cs6) ∧ mm_Ev 5 92 [.ref 15, .ref (D 4 x), .ref (D 4 y), .int (nI 1)] (hk M T cs) ((some (.int (pI (gFn xwc ywc xcn ycn 1))), hk M T cs6)) := by
  have hq9 : ∃ z, (fun r9 => ∃ (cs6 : Nat → Nat → Int32), (FrX D x y cs cs6) ∧ r9 = ((some (.int (pI (gFn xwc ywc xcn ycn 1))), hk M T cs6))) z ∧ mm_Ev 5 92 [.ref 15, .ref (D 4 x), .ref (D 4 y), .int (nI 1)] (hk M T cs) z := by
    obtain ⟨xhS, xhSC, ⟨xhT5, xhC5, xhT6, xhC6⟩, ⟨xf0, xf1, xf2, xf3, xf4, xf5, xf6, xf7⟩, xfc, xhcn, xhow, xhoc, xhn56, xhn46⟩ := id hx
    obtain ⟨yhS, yhSC, ⟨yhT5, yhC5, yhT6, yhC6⟩, ⟨yf0, yf1, yf2, yf3, yf4, yf5, yf6, yf7⟩, yfc, yhcn, yhow, yhoc, yhn56, yhn46⟩ := id hy
    refine r_evQ (by decide +kernel) (show (4 : Nat) ≤ mm_nL 92 by decide +kernel) ?_
    show mm_Ru 4 (4, 5, false, prog_6_method_4_code, some .boolean) 0 [(0, .ref 15), (1, .ref (D 4 x)), (2, .ref (D 4 y)), (3, .int (nI 1))] [] (hk M T cs) (fun r9 => ∃ (cs6 : Nat → Nat → Int32), (FrX D x y cs cs6) ∧ r9 = ((some (.int (pI (gFn xwc ywc xcn ycn 1))), hk M T cs6)))
    refine r_iconst (v := nI 0) (by decide) dc_6_4_0 ?_
    refine r_istore (ls' := [(4, .int (nI 0)), (0, .ref 15), (1, .ref (D 4 x)), (2, .ref (D 4 y)), (3, .int (nI 1))]) (by decide) rfl dc_6_4_1 ?_
    refine mm_cnt (P := fun k1 => ∀ (cs1 : Nat → Nat → Int32), (FrE cs cs1 ∧ ∀ k, k < k1 → ∀ v, v ≤ 100 → cs1 (17 + k) v = pI (v = 0)) → mm_Ru 4 (4, 5, false, prog_6_method_4_code, some .boolean) 3 [(4, .int (nI k1)), (0, .ref 15), (1, .ref (D 4 x)), (2, .ref (D 4 y)), (3, .int (nI 1))] [] (hk M T cs1) (fun r9 => ∃ (cs6 : Nat → Nat → Int32), (FrX D x y cs cs6) ∧ r9 = ((some (.int (pI (gFn xwc ywc xcn ycn 1))), hk M T cs6)))) 3 ?_ ?_ 0 (by omega) cs (⟨fun _ _ => rfl, fun j hj => absurd hj (Nat.not_lt_zero j)⟩)
    · intro  cs1 hi_k1
      show mm_Ru 4 (4, 5, false, prog_6_method_4_code, some .boolean) 3 [(4, .int (nI 3)), (0, .ref 15), (1, .ref (D 4 x)), (2, .ref (D 4 y)), (3, .int (nI 1))] [] (hk M T cs1) (fun r9 => ∃ (cs6 : Nat → Nat → Int32), (FrX D x y cs cs6) ∧ r9 = ((some (.int (pI (gFn xwc ywc xcn ycn 1))), hk M T cs6)))
      refine r_iload rfl dc_6_4_3 ?_
      refine r_iconst (v := nI 3) (by decide) dc_6_4_5 ?_
      refine r_ncge (t := 36) (by omega) (by omega) (by decide) dc_6_4_6 (fun c_6 => ?_) (fun c_6 => ?_)
      · skip
        refine r_aload_n rfl dc_6_4_36 ?_
        refine r_aload_n rfl dc_6_4_37 ?_
        refine h_get (t := (10, 0, rl [(9, D 6 x), (8, D 5 x)])) (v := .ref (D 5 x)) fx_4_26 xhS xhSC (rfl) dc_6_4_38 ?_
        obtain ⟨cs2, ⟨hf2, hE2⟩, hev2⟩ := k_marks M hM T e hF cs1 (fun k v => v = 0) (fun k hk v hv => hi_k1.2 k hk v hv) (D 5 x) xcn xwc xhT5 xhC5 (by omega) xhcn (fun k hk => (congrFun (hi_k1.1 _ (by omega)) k).trans (xfc k hk)) xhow
        refine h_call0 (t := cT e 15) (as := [.ref (D 5 x)]) (rest := []) (M1 := hk M T cs2) rfl rfl iv_4_v32 (Or.inl rfl) na_1_93 (hF 15 (by decide)) ⟨by omega, by omega⟩ (show (4 : Nat) < 14 by decide) o_93 rfl (show (0 : Nat) ≤ 8 by decide) dc_6_4_41 (mm_Ev_up (by decide : 3 ≤ 4) (hev2)) ?_
        refine r_aload_n rfl dc_6_4_44 ?_
        refine r_aload_n rfl dc_6_4_45 ?_
        refine h_get (t := (10, 0, rl [(9, D 6 y), (8, D 5 y)])) (v := .ref (D 5 y)) fx_4_26 yhS yhSC (rfl) dc_6_4_46 ?_
        have hf2b := FrE_t hi_k1.1 hf2
        obtain ⟨cs3, ⟨hf3, hE3⟩, hev3⟩ := k_marks M hM T e hF cs2 _ hE2 (D 5 y) ycn ywc yhT5 yhC5 (by omega) yhcn (fun k hk => (congrFun (hf2b _ (by omega)) k).trans (yfc k hk)) yhow
        have hf3b := FrE_t hf2b hf3
        have hx3 : AgR M T cs3 sg D x xcn xwc := AgR_cs hx (hf3b _ (by omega)) (hf3b _ (by omega))
        have hy3 : AgR M T cs3 sg D y ycn ywc := AgR_cs hy (hf3b _ (by omega)) (hf3b _ (by omega))
        refine h_call0 (t := cT e 15) (as := [.ref (D 5 y)]) (rest := []) (M1 := hk M T cs3) rfl rfl iv_4_v32 (Or.inl rfl) na_1_93 (hF 15 (by decide)) ⟨by omega, by omega⟩ (show (4 : Nat) < 14 by decide) o_93 rfl (show (0 : Nat) ≤ 8 by decide) dc_6_4_49 (mm_Ev_up (by decide : 3 ≤ 4) (hev3)) ?_
        refine r_iconst (v := nI 0) (by decide) dc_6_4_52 ?_
        refine r_istore (ls' := [(4, .int (nI 0)), (0, .ref 15), (1, .ref (D 4 x)), (2, .ref (D 4 y)), (3, .int (nI 1))]) (by decide) rfl dc_6_4_53 ?_
        refine mm_cnt (P := fun g1 => ∀ (cs4 : Nat → Nat → Int32), (FrG D x y cs3 cs4 ∧ ∀ j, j < g1 → ¬ (Bf xwc ywc xcn ycn 0 j ∧ ∃ t, t < 10 ∧ Bf xwc ywc xcn ycn 1 t ∧ ∃ c, c < 100 ∧ Bf xwc ywc xcn ycn 2 c ∧ FG xwc ywc xcn ycn 1 j t c)) → mm_Ru 4 (4, 5, false, prog_6_method_4_code, some .boolean) 55 [(4, .int (nI g1)), (0, .ref 15), (1, .ref (D 4 x)), (2, .ref (D 4 y)), (3, .int (nI 1))] [] (hk M T cs4) (fun r9 => ∃ (cs6 : Nat → Nat → Int32), (FrX D x y cs cs6) ∧ r9 = ((some (.int (pI (gFn xwc ywc xcn ycn 1))), hk M T cs6)))) 101 ?_ ?_ 0 (by omega) cs3 (⟨fun _ _ _ => rfl, fun j hj => absurd hj (Nat.not_lt_zero j)⟩)
        · intro  cs4 hi_g1
          show mm_Ru 4 (4, 5, false, prog_6_method_4_code, some .boolean) 55 [(4, .int (nI 101)), (0, .ref 15), (1, .ref (D 4 x)), (2, .ref (D 4 y)), (3, .int (nI 1))] [] (hk M T cs4) (fun r9 => ∃ (cs6 : Nat → Nat → Int32), (FrX D x y cs cs6) ∧ r9 = ((some (.int (pI (gFn xwc ywc xcn ycn 1))), hk M T cs6)))
          refine r_iload rfl dc_6_4_55 ?_
          refine r_bipush (v := nI 100) (by decide) dc_6_4_57 ?_
          refine r_ncgt (t := 95) (by omega) (by omega) (by decide) dc_6_4_59 (fun c_59 => ?_) (fun c_59 => ?_)
          · skip
            refine r_iconst (v := nI 0) (by decide) dc_6_4_95 ?_
            refine r_zret rfl (by decide) dc_6_4_96 ?_
            exact ⟨_, fun a h1 h2 h3 => (hi_g1.1 a h2 h3).trans (hf3b a h1), by rw [pI_f (P := gFn xwc ywc xcn ycn 1) (fun z => z.elim fun g hg => hi_g1.2 g hg.1 hg.2)]⟩
          · omega
        · intro g1 h_g1 ih_g1  cs4 hi_g1
          show mm_Ru 4 (4, 5, false, prog_6_method_4_code, some .boolean) 55 [(4, .int (nI g1)), (0, .ref 15), (1, .ref (D 4 x)), (2, .ref (D 4 y)), (3, .int (nI 1))] [] (hk M T cs4) (fun r9 => ∃ (cs6 : Nat → Nat → Int32), (FrX D x y cs cs6) ∧ r9 = ((some (.int (pI (gFn xwc ywc xcn ycn 1))), hk M T cs6)))
          refine r_iload rfl dc_6_4_55 ?_
          refine r_bipush (v := nI 100) (by decide) dc_6_4_57 ?_
          refine r_ncgt (t := 95) (by omega) (by omega) (by decide) dc_6_4_59 (fun c_59 => ?_) (fun c_59 => ?_)
          · omega
          · skip
            refine r_aload_n rfl dc_6_4_62 ?_
            refine h_get (t := cT e 15) (v := .ref 16) fx_4_13 (hF 15 (by decide)) ⟨by omega, by omega⟩ (rfl) dc_6_4_63 ?_
            refine r_iconst (v := nI 0) (by decide) dc_6_4_66 ?_
            refine h_aal (c := 24) (n := 3) (e := 0) (y := 17) (hF 16 (by decide)) (Or.inr rfl) ⟨by omega, by omega⟩ (by omega) (by omega) (rfl) dc_6_4_67 ?_
            refine r_iload rfl dc_6_4_68 ?_
            refine h_ild (n := 101) (e := g1) (v := pI (Bf xwc ywc xcn ycn 0 g1)) (hF 17 (by decide)) ⟨by omega, by omega⟩ (show g1 < 101 by omega) (by omega) ((congrFun (hi_g1.1 17 (by omega) (by omega)) g1).trans (hE3 0 (by decide) g1 (by omega))) dc_6_4_70 ?_
            refine r_iconst (v := nI 1) (by decide) dc_6_4_71 ?_
            refine r_icne (t := 89) (by decide) dc_6_4_72 (fun c_72 => ?_) (fun c_72 => ?_)
            · skip
              refine r_iinc (n := 4) (k := 1) (x := nI g1) (v := nI (g1 + 1)) (ls' := [(4, .int (nI (g1 + 1))), (0, .ref 15), (1, .ref (D 4 x)), (2, .ref (D 4 y)), (3, .int (nI 1))]) rfl (nI_1 _) (by decide) rfl dc_6_4_89 ?_
              refine r_goto (t := 55) (by decide) dc_6_4_92 ?_
              exact ih_g1 cs4 (⟨hi_g1.1, fun j hj => by rcases (by omega : j < g1 ∨ j = g1) with q | rfl; exact hi_g1.2 j q; exact fun z => c_72 (pI_t z.1)⟩)
            · skip
              refine r_aload_n rfl dc_6_4_75 ?_
              refine r_aload_n rfl dc_6_4_76 ?_
              refine r_aload_n rfl dc_6_4_77 ?_
              refine r_iload_n rfl dc_6_4_78 ?_
              refine r_iload rfl dc_6_4_79 ?_
              have hE4 : EdI cs4 (Bf xwc ywc xcn ycn) := fun k hk v hv => (congrFun (hi_g1.1 (17 + k) (by omega) (by omega)) v).trans (hE3 k hk v hv)
              obtain ⟨cs5, hf5, hev5⟩ := k_atGr1 M hM T e hF cs4 sg D x xcn xwc (AgR_cs hx3 (hi_g1.1 _ xhn46 hd4x) (hi_g1.1 _ xhn56 hd5x)) y ycn ywc (AgR_cs hy3 (hi_g1.1 _ hd4y yhn46) (hi_g1.1 _ hd5y yhn56)) h6x h6y hd4x hd4y hd5x hd5y _ hE4 g1 (by omega)
              refine h_callv (t := cT e 15) (as := [.ref (D 4 x), .ref (D 4 y), .int (nI 1), .int (nI g1)]) (rest := []) (v := .int (pI (∃ t, t < 10 ∧ Bf xwc ywc xcn ycn 1 t ∧ ∃ c, c < 100 ∧ Bf xwc ywc xcn ycn 2 c ∧ FG xwc ywc xcn ycn 1 g1 t c))) (M1 := hk M T cs5) rfl rfl iv_4_v36 (Or.inl rfl) na_1_95 (hF 15 (by decide)) ⟨by omega, by omega⟩ (show (4 : Nat) < 14 by decide) o_95 rfl (show (0 : Nat) ≤ 8 by decide) dc_6_4_81 (hev5) ?_
              refine r_ifeq (t := 89) (by decide) dc_6_4_84 (fun c_84 => ?_) (fun c_84 => ?_)
              · skip
                refine r_iinc (n := 4) (k := 1) (x := nI g1) (v := nI (g1 + 1)) (ls' := [(4, .int (nI (g1 + 1))), (0, .ref 15), (1, .ref (D 4 x)), (2, .ref (D 4 y)), (3, .int (nI 1))]) rfl (nI_1 _) (by decide) rfl dc_6_4_89 ?_
                refine r_goto (t := 55) (by decide) dc_6_4_92 ?_
                exact ih_g1 cs5 (⟨FrG_t hi_g1.1 hf5, fun j hj => by rcases (by omega : j < g1 ∨ j = g1) with q | rfl; exact hi_g1.2 j q; exact fun z => pI_eq0 c_84 z.2⟩)
              · skip
                refine r_iconst (v := nI 1) (by decide) dc_6_4_87 ?_
                refine r_zret rfl (by decide) dc_6_4_88 ?_
                exact ⟨_, fun a h1 h2 h3 => ((FrG_t hi_g1.1 hf5) a h2 h3).trans (hf3b a h1), by rw [pI_t (P := gFn xwc ywc xcn ycn 1) ⟨g1, h_g1, pI_1 c_72, pI_ne c_84⟩]⟩
      · omega
    · intro k1 h_k1 ih_k1  cs1 hi_k1
      show mm_Ru 4 (4, 5, false, prog_6_method_4_code, some .boolean) 3 [(4, .int (nI k1)), (0, .ref 15), (1, .ref (D 4 x)), (2, .ref (D 4 y)), (3, .int (nI 1))] [] (hk M T cs1) (fun r9 => ∃ (cs6 : Nat → Nat → Int32), (FrX D x y cs cs6) ∧ r9 = ((some (.int (pI (gFn xwc ywc xcn ycn 1))), hk M T cs6)))
      refine r_iload rfl dc_6_4_3 ?_
      refine r_iconst (v := nI 3) (by decide) dc_6_4_5 ?_
      refine r_ncge (t := 36) (by omega) (by omega) (by decide) dc_6_4_6 (fun c_6 => ?_) (fun c_6 => ?_)
      · omega
      · skip
        refine r_aload_n rfl dc_6_4_9 ?_
        refine h_get (t := cT e 15) (v := .ref 16) fx_4_13 (hF 15 (by decide)) ⟨by omega, by omega⟩ (rfl) dc_6_4_10 ?_
        refine r_iload rfl dc_6_4_13 ?_
        refine h_aal (c := 24) (n := 3) (e := k1) (y := 17 + k1) (hF 16 (by decide)) (Or.inr rfl) ⟨by omega, by omega⟩ (by omega) (by omega) (if_pos (by omega)) dc_6_4_15 ?_
        refine r_iconst (v := nI 0) (by decide) dc_6_4_16 ?_
        refine h_callS0 (as := [.ref (17 + k1), .int (nI 0)]) (rest := []) (M1 := hk M T (wA cs1 (17 + k1) (fl (cs1 (17 + k1)) 101 (nI 0)))) rfl rfl iv_4_s20 (Or.inl rfl) na_0_2 rfl (show (0 : Nat) ≤ 8 by decide) dc_6_4_17 (mm_Ev_up (by decide : 1 ≤ 4) (k_fill M T cs1 (17 + k1) 101 _ (nI 0) ((hF (17 + k1) (by omega)).trans (cR_16 e k1 (by omega))) ⟨by omega, by omega⟩ (by decide))) ?_
        refine r_aload_n rfl dc_6_4_20 ?_
        refine h_get (t := cT e 15) (v := .ref 16) fx_4_13 (hF 15 (by decide)) ⟨by omega, by omega⟩ (rfl) dc_6_4_21 ?_
        refine r_iload rfl dc_6_4_24 ?_
        refine h_aal (c := 24) (n := 3) (e := k1) (y := 17 + k1) (hF 16 (by decide)) (Or.inr rfl) ⟨by omega, by omega⟩ (by omega) (by omega) (if_pos (by omega)) dc_6_4_26 ?_
        refine r_iconst (v := nI 0) (by decide) dc_6_4_27 ?_
        refine r_iconst (v := nI 1) (by decide) dc_6_4_28 ?_
        refine h_ist (n := 101) (e := 0) ((hF (17 + k1) (by omega)).trans (cR_16 e k1 (by omega))) ⟨by omega, by omega⟩ (show 0 < 101 by omega) (by omega) dc_6_4_29 ?_
        refine r_iinc (n := 4) (k := 1) (x := nI k1) (v := nI (k1 + 1)) (ls' := [(4, .int (nI (k1 + 1))), (0, .ref 15), (1, .ref (D 4 x)), (2, .ref (D 4 y)), (3, .int (nI 1))]) rfl (nI_1 _) (by decide) rfl dc_6_4_30 ?_
        refine r_goto (t := 3) (by decide) dc_6_4_33 ?_
        exact ih_k1 (w1 (wA cs1 (17 + k1) (fl (cs1 (17 + k1)) 101 (nI 0))) (17 + k1) 0 (nI 1)) (fill_row hi_k1 h_k1)
  obtain ⟨z9, ⟨cs6, p9, e9⟩, h9⟩ := hq9
  subst e9
  exact ⟨cs6, p9, h9⟩
set_option maxHeartbeats 4000000 in
theorem k_common (M : mH) (hM : 157 ≤ M.1) (T : Nat → mT) (e : Nat → Nat) (hF : ShF T e) (cs : Nat → Nat → Int32) (sg : Nat → Nat → Int32) (D : Nat → Nat → Nat) (x xcn : Nat) (xwc : Nat → Nat) (hx : AgR M T cs sg D x xcn xwc) (y ycn : Nat) (ywc : Nat → Nat) (hy : AgR M T cs sg D y ycn ywc) (h6x : 157 ≤ D 6 x) (h6y : 157 ≤ D 6 y) (hd4x : ¬ D 4 x = D 6 y) (hd4y : ¬ D 4 y = D 6 x) (hd5x : ¬ D 5 x = D 6 y) (hd5y : ¬ D 5 y = D 6 x) (h4x : 157 ≤ D 4 x) (h4y : 157 ≤ D 4 y) (h5x : 157 ≤ D 5 x) (h5y : 157 ≤ D 5 y) : ∃ (cs6 : Nat → Nat → Int32), (FrX D x y cs cs6) ∧ mm_Ev 6 91 [.ref 15, .ref (D 4 x), .ref (D 4 y)] (hk M T cs) ((some (.int (pI (gFn xwc ywc xcn ycn 1))), hk M T cs6)) := by
  have hq9 : ∃ z, (fun r9 => ∃ (cs6 : Nat → Nat → Int32), (FrX D x y cs cs6) ∧ r9 = ((some (.int (pI (gFn xwc ywc xcn ycn 1))), hk M T cs6))) z ∧ mm_Ev 6 91 [.ref 15, .ref (D 4 x), .ref (D 4 y)] (hk M T cs) z := by
    obtain ⟨xhS, xhSC, ⟨xhT5, xhC5, xhT6, xhC6⟩, ⟨xf0, xf1, xf2, xf3, xf4, xf5, xf6, xf7⟩, xfc, xhcn, xhow, xhoc, xhn56, xhn46⟩ := id hx
    obtain ⟨yhS, yhSC, ⟨yhT5, yhC5, yhT6, yhC6⟩, ⟨yf0, yf1, yf2, yf3, yf4, yf5, yf6, yf7⟩, yfc, yhcn, yhow, yhoc, yhn56, yhn46⟩ := id hy
    refine r_evQ (by decide +kernel) (show (3 : Nat) ≤ mm_nL 91 by decide +kernel) ?_
    show mm_Ru 5 (4, 3, false, prog_6_method_2_code, some .boolean) 0 [(0, .ref 15), (1, .ref (D 4 x)), (2, .ref (D 4 y))] [] (hk M T cs) (fun r9 => ∃ (cs6 : Nat → Nat → Int32), (FrX D x y cs cs6) ∧ r9 = ((some (.int (pI (gFn xwc ywc xcn ycn 1))), hk M T cs6)))
    refine r_aload_n rfl dc_6_2_0 ?_
    refine r_aload_n rfl dc_6_2_1 ?_
    refine r_aload_n rfl dc_6_2_2 ?_
    refine r_iconst (v := nI 1) (by decide) dc_6_2_3 ?_
    obtain ⟨cs6, hf6, hev6⟩ := k_finds1 M hM T e hF cs sg D x xcn xwc hx y ycn ywc hy h6x h6y hd4x hd4y hd5x hd5y h4x h4y h5x h5y
    refine h_callv (t := cT e 15) (as := [.ref (D 4 x), .ref (D 4 y), .int (nI 1)]) (rest := []) (v := .int (pI (gFn xwc ywc xcn ycn 1))) (M1 := hk M T cs6) rfl rfl iv_4_v16 (Or.inl rfl) na_1_92 (hF 15 (by decide)) ⟨by omega, by omega⟩ (show (4 : Nat) < 14 by decide) o_92 rfl (show (0 : Nat) ≤ 8 by decide) dc_6_2_4 (hev6) ?_
    refine r_zret rfl (pI_and1 _) dc_6_2_7 ?_
    exact ⟨_, hf6, rfl⟩
  obtain ⟨z9, ⟨cs6, p9, e9⟩, h9⟩ := hq9
  subst e9
  exact ⟨cs6, p9, h9⟩
