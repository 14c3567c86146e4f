/-! calls of the law: cancel, about, look, count, owed -/
theorem dc_1_21_0 : decode prog_1_method_21_code 0 = .ok (.aload_n 0, 1) := by decide +kernel
theorem dc_1_21_1 : decode prog_1_method_21_code 1 = .ok (.iload_n 1, 1) := by decide +kernel
theorem dc_1_21_2 : decode prog_1_method_21_code 2 = .ok (.invokevirtual 128, 3) := by decide +kernel
theorem dc_1_21_5 : decode prog_1_method_21_code 5 = .ok (.astore 4, 2) := by decide +kernel
theorem dc_1_21_7 : decode prog_1_method_21_code 7 = .ok (.aload 4, 2) := by decide +kernel
theorem dc_1_21_9 : decode prog_1_method_21_code 9 = .ok (.ifnull 21, 3) := by decide +kernel
theorem dc_1_21_12 : decode prog_1_method_21_code 12 = .ok (.iload_n 2, 1) := by decide +kernel
theorem dc_1_21_13 : decode prog_1_method_21_code 13 = .ok (.ifCond .lt 17, 3) := by decide +kernel
theorem dc_1_21_16 : decode prog_1_method_21_code 16 = .ok (.iload_n 2, 1) := by decide +kernel
theorem dc_1_21_17 : decode prog_1_method_21_code 17 = .ok (.aload 4, 2) := by decide +kernel
theorem dc_1_21_19 : decode prog_1_method_21_code 19 = .ok (.getfield 221, 3) := by decide +kernel
theorem dc_1_21_22 : decode prog_1_method_21_code 22 = .ok (.invokeinterface 113 1, 5) := by decide +kernel
theorem dc_1_21_27 : decode prog_1_method_21_code 27 = .ok (.if_icmp .lt 5, 3) := by decide +kernel
theorem dc_1_21_30 : decode prog_1_method_21_code 30 = .ok (.iconst 0, 1) := by decide +kernel
theorem dc_1_21_31 : decode prog_1_method_21_code 31 = .ok (.ireturn, 1) := by decide +kernel
theorem dc_1_21_32 : decode prog_1_method_21_code 32 = .ok (.aload 4, 2) := by decide +kernel
theorem dc_1_21_34 : decode prog_1_method_21_code 34 = .ok (.getfield 221, 3) := by decide +kernel
theorem dc_1_21_37 : decode prog_1_method_21_code 37 = .ok (.iload_n 2, 1) := by decide +kernel
theorem dc_1_21_38 : decode prog_1_method_21_code 38 = .ok (.invokeinterface 227 2, 5) := by decide +kernel
theorem dc_1_21_43 : decode prog_1_method_21_code 43 = .ok (.checkcast 218, 3) := by decide +kernel
theorem dc_1_21_46 : decode prog_1_method_21_code 46 = .ok (.astore 5, 2) := by decide +kernel
theorem dc_1_21_48 : decode prog_1_method_21_code 48 = .ok (.aload 5, 2) := by decide +kernel
theorem dc_1_21_50 : decode prog_1_method_21_code 50 = .ok (.getfield 231, 3) := by decide +kernel
theorem dc_1_21_53 : decode prog_1_method_21_code 53 = .ok (.iload_n 3, 1) := by decide +kernel
theorem dc_1_21_54 : decode prog_1_method_21_code 54 = .ok (.if_icmp .ne 5, 3) := by decide +kernel
theorem dc_1_21_57 : decode prog_1_method_21_code 57 = .ok (.iconst 0, 1) := by decide +kernel
theorem dc_1_21_58 : decode prog_1_method_21_code 58 = .ok (.ireturn, 1) := by decide +kernel
theorem dc_1_21_59 : decode prog_1_method_21_code 59 = .ok (.aload 5, 2) := by decide +kernel
theorem dc_1_21_61 : decode prog_1_method_21_code 61 = .ok (.iload_n 3, 1) := by decide +kernel
theorem dc_1_21_62 : decode prog_1_method_21_code 62 = .ok (.putfield 231, 3) := by decide +kernel
theorem dc_1_21_65 : decode prog_1_method_21_code 65 = .ok (.iconst 1, 1) := by decide +kernel
theorem dc_1_21_66 : decode prog_1_method_21_code 66 = .ok (.ireturn, 1) := by decide +kernel
theorem dc_1_30_0 : decode prog_1_method_30_code 0 = .ok (.lconst 0, 1) := by decide +kernel
theorem dc_1_30_1 : decode prog_1_method_30_code 1 = .ok (.lstore_n 2, 1) := by decide +kernel
theorem dc_1_30_2 : decode prog_1_method_30_code 2 = .ok (.iconst 0, 1) := by decide +kernel
theorem dc_1_30_3 : decode prog_1_method_30_code 3 = .ok (.istore 4, 2) := by decide +kernel
theorem dc_1_30_5 : decode prog_1_method_30_code 5 = .ok (.iload 4, 2) := by decide +kernel
theorem dc_1_30_7 : decode prog_1_method_30_code 7 = .ok (.aload_n 0, 1) := by decide +kernel
theorem dc_1_30_8 : decode prog_1_method_30_code 8 = .ok (.getfield 65, 3) := by decide +kernel
theorem dc_1_30_11 : decode prog_1_method_30_code 11 = .ok (.invokeinterface 113 1, 5) := by decide +kernel
theorem dc_1_30_16 : decode prog_1_method_30_code 16 = .ok (.if_icmp .ge 72, 3) := by decide +kernel
theorem dc_1_30_19 : decode prog_1_method_30_code 19 = .ok (.aload_n 0, 1) := by decide +kernel
theorem dc_1_30_20 : decode prog_1_method_30_code 20 = .ok (.getfield 65, 3) := by decide +kernel
theorem dc_1_30_23 : decode prog_1_method_30_code 23 = .ok (.iload 4, 2) := by decide +kernel
theorem dc_1_30_25 : decode prog_1_method_30_code 25 = .ok (.invokeinterface 227 2, 5) := by decide +kernel
theorem dc_1_30_30 : decode prog_1_method_30_code 30 = .ok (.checkcast 152, 3) := by decide +kernel
theorem dc_1_30_33 : decode prog_1_method_30_code 33 = .ok (.astore 5, 2) := by decide +kernel
theorem dc_1_30_35 : decode prog_1_method_30_code 35 = .ok (.aload 5, 2) := by decide +kernel
theorem dc_1_30_37 : decode prog_1_method_30_code 37 = .ok (.getfield 297, 3) := by decide +kernel
theorem dc_1_30_40 : decode prog_1_method_30_code 40 = .ok (.i2l, 1) := by decide +kernel
theorem dc_1_30_41 : decode prog_1_method_30_code 41 = .ok (.aload_n 0, 1) := by decide +kernel
theorem dc_1_30_42 : decode prog_1_method_30_code 42 = .ok (.iload 4, 2) := by decide +kernel
theorem dc_1_30_44 : decode prog_1_method_30_code 44 = .ok (.invokevirtual 214, 3) := by decide +kernel
theorem dc_1_30_47 : decode prog_1_method_30_code 47 = .ok (.i2l, 1) := by decide +kernel
theorem dc_1_30_48 : decode prog_1_method_30_code 48 = .ok (.lmul, 1) := by decide +kernel
theorem dc_1_30_49 : decode prog_1_method_30_code 49 = .ok (.lstore 6, 2) := by decide +kernel
theorem dc_1_30_51 : decode prog_1_method_30_code 51 = .ok (.aload 5, 2) := by decide +kernel
theorem dc_1_30_53 : decode prog_1_method_30_code 53 = .ok (.getfield 300, 3) := by decide +kernel
theorem dc_1_30_56 : decode prog_1_method_30_code 56 = .ok (.iload_n 1, 1) := by decide +kernel
theorem dc_1_30_57 : decode prog_1_method_30_code 57 = .ok (.if_icmp .ne 11, 3) := by decide +kernel
theorem dc_1_30_60 : decode prog_1_method_30_code 60 = .ok (.lload_n 2, 1) := by decide +kernel
theorem dc_1_30_61 : decode prog_1_method_30_code 61 = .ok (.lload 6, 2) := by decide +kernel
theorem dc_1_30_63 : decode prog_1_method_30_code 63 = .ok (.ladd, 1) := by decide +kernel
theorem dc_1_30_64 : decode prog_1_method_30_code 64 = .ok (.lstore_n 2, 1) := by decide +kernel
theorem dc_1_30_65 : decode prog_1_method_30_code 65 = .ok (.goto 17, 3) := by decide +kernel
theorem dc_1_30_68 : decode prog_1_method_30_code 68 = .ok (.aload 5, 2) := by decide +kernel
theorem dc_1_30_70 : decode prog_1_method_30_code 70 = .ok (.getfield 303, 3) := by decide +kernel
theorem dc_1_30_73 : decode prog_1_method_30_code 73 = .ok (.iload_n 1, 1) := by decide +kernel
theorem dc_1_30_74 : decode prog_1_method_30_code 74 = .ok (.if_icmp .ne 8, 3) := by decide +kernel
theorem dc_1_30_77 : decode prog_1_method_30_code 77 = .ok (.lload_n 2, 1) := by decide +kernel
theorem dc_1_30_78 : decode prog_1_method_30_code 78 = .ok (.lload 6, 2) := by decide +kernel
theorem dc_1_30_80 : decode prog_1_method_30_code 80 = .ok (.lsub, 1) := by decide +kernel
theorem dc_1_30_81 : decode prog_1_method_30_code 81 = .ok (.lstore_n 2, 1) := by decide +kernel
theorem dc_1_30_82 : decode prog_1_method_30_code 82 = .ok (.iinc 4 1, 3) := by decide +kernel
theorem dc_1_30_85 : decode prog_1_method_30_code 85 = .ok (.goto (-80), 3) := by decide +kernel
theorem dc_1_30_88 : decode prog_1_method_30_code 88 = .ok (.lload_n 2, 1) := by decide +kernel
theorem dc_1_30_89 : decode prog_1_method_30_code 89 = .ok (.lreturn, 1) := by decide +kernel
theorem dc_1_31_0 : decode prog_1_method_31_code 0 = .ok (.aload_n 0, 1) := by decide +kernel
theorem dc_1_31_1 : decode prog_1_method_31_code 1 = .ok (.iload_n 1, 1) := by decide +kernel
theorem dc_1_31_2 : decode prog_1_method_31_code 2 = .ok (.invokevirtual 180, 3) := by decide +kernel
theorem dc_1_31_5 : decode prog_1_method_31_code 5 = .ok (.astore_n 3, 1) := by decide +kernel
theorem dc_1_31_6 : decode prog_1_method_31_code 6 = .ok (.aload_n 3, 1) := by decide +kernel
theorem dc_1_31_7 : decode prog_1_method_31_code 7 = .ok (.ifnonnull 5, 3) := by decide +kernel
theorem dc_1_31_10 : decode prog_1_method_31_code 10 = .ok (.iconst (-1), 1) := by decide +kernel
theorem dc_1_31_11 : decode prog_1_method_31_code 11 = .ok (.ireturn, 1) := by decide +kernel
theorem dc_1_31_12 : decode prog_1_method_31_code 12 = .ok (.iload_n 2, 1) := by decide +kernel
theorem dc_1_31_13 : decode prog_1_method_31_code 13 = .ok (.bipush 20, 2) := by decide +kernel
theorem dc_1_31_15 : decode prog_1_method_31_code 15 = .ok (.bipush 23, 2) := by decide +kernel
theorem dc_1_31_17 : decode prog_1_method_31_code 17 = .ok (.invokestatic 84, 3) := by decide +kernel
theorem dc_1_31_20 : decode prog_1_method_31_code 20 = .ok (.ifCond .eq 13, 3) := by decide +kernel
theorem dc_1_31_23 : decode prog_1_method_31_code 23 = .ok (.aload_n 3, 1) := by decide +kernel
theorem dc_1_31_24 : decode prog_1_method_31_code 24 = .ok (.getfield 184, 3) := by decide +kernel
theorem dc_1_31_27 : decode prog_1_method_31_code 27 = .ok (.iload_n 2, 1) := by decide +kernel
theorem dc_1_31_28 : decode prog_1_method_31_code 28 = .ok (.bipush 20, 2) := by decide +kernel
theorem dc_1_31_30 : decode prog_1_method_31_code 30 = .ok (.isub, 1) := by decide +kernel
theorem dc_1_31_31 : decode prog_1_method_31_code 31 = .ok (.iaload, 1) := by decide +kernel
theorem dc_1_31_32 : decode prog_1_method_31_code 32 = .ok (.ireturn, 1) := by decide +kernel
theorem dc_1_31_33 : decode prog_1_method_31_code 33 = .ok (.iload_n 2, 1) := by decide +kernel
theorem dc_1_31_34 : decode prog_1_method_31_code 34 = .ok (.bipush 10, 2) := by decide +kernel
theorem dc_1_31_36 : decode prog_1_method_31_code 36 = .ok (.bipush 13, 2) := by decide +kernel
theorem dc_1_31_38 : decode prog_1_method_31_code 38 = .ok (.invokestatic 84, 3) := by decide +kernel
theorem dc_1_31_41 : decode prog_1_method_31_code 41 = .ok (.ifCond .eq 12, 3) := by decide +kernel
theorem dc_1_31_44 : decode prog_1_method_31_code 44 = .ok (.aload_n 3, 1) := by decide +kernel
theorem dc_1_31_45 : decode prog_1_method_31_code 45 = .ok (.iload_n 2, 1) := by decide +kernel
theorem dc_1_31_46 : decode prog_1_method_31_code 46 = .ok (.bipush 10, 2) := by decide +kernel
theorem dc_1_31_48 : decode prog_1_method_31_code 48 = .ok (.isub, 1) := by decide +kernel
theorem dc_1_31_49 : decode prog_1_method_31_code 49 = .ok (.invokevirtual 306, 3) := by decide +kernel
theorem dc_1_31_52 : decode prog_1_method_31_code 52 = .ok (.ireturn, 1) := by decide +kernel
theorem dc_1_31_53 : decode prog_1_method_31_code 53 = .ok (.iload_n 2, 1) := by decide +kernel
theorem dc_1_31_54 : decode prog_1_method_31_code 54 = .ok (.iconst 4, 1) := by decide +kernel
theorem dc_1_31_55 : decode prog_1_method_31_code 55 = .ok (.if_icmp .ge 11, 3) := by decide +kernel
theorem dc_1_31_58 : decode prog_1_method_31_code 58 = .ok (.aload_n 3, 1) := by decide +kernel
theorem dc_1_31_59 : decode prog_1_method_31_code 59 = .ok (.iload_n 2, 1) := by decide +kernel
theorem dc_1_31_60 : decode prog_1_method_31_code 60 = .ok (.invokevirtual 309, 3) := by decide +kernel
theorem dc_1_31_63 : decode prog_1_method_31_code 63 = .ok (.goto 8, 3) := by decide +kernel
theorem dc_1_31_66 : decode prog_1_method_31_code 66 = .ok (.aload_n 3, 1) := by decide +kernel
theorem dc_1_31_67 : decode prog_1_method_31_code 67 = .ok (.iload_n 2, 1) := by decide +kernel
theorem dc_1_31_68 : decode prog_1_method_31_code 68 = .ok (.invokevirtual 312, 3) := by decide +kernel
theorem dc_1_31_71 : decode prog_1_method_31_code 71 = .ok (.ireturn, 1) := by decide +kernel
theorem dc_1_32_0 : decode prog_1_method_32_code 0 = .ok (.aload_n 0, 1) := by decide +kernel
theorem dc_1_32_1 : decode prog_1_method_32_code 1 = .ok (.iload_n 1, 1) := by decide +kernel
theorem dc_1_32_2 : decode prog_1_method_32_code 2 = .ok (.invokevirtual 157, 3) := by decide +kernel
theorem dc_1_32_5 : decode prog_1_method_32_code 5 = .ok (.astore_n 3, 1) := by decide +kernel
theorem dc_1_32_6 : decode prog_1_method_32_code 6 = .ok (.aload_n 3, 1) := by decide +kernel
theorem dc_1_32_7 : decode prog_1_method_32_code 7 = .ok (.ifnonnull 5, 3) := by decide +kernel
theorem dc_1_32_10 : decode prog_1_method_32_code 10 = .ok (.iconst (-1), 1) := by decide +kernel
theorem dc_1_32_11 : decode prog_1_method_32_code 11 = .ok (.ireturn, 1) := by decide +kernel
theorem dc_1_32_12 : decode prog_1_method_32_code 12 = .ok (.iload_n 2, 1) := by decide +kernel
theorem dc_1_32_13 : decode prog_1_method_32_code 13 = .ok (.bipush 8, 2) := by decide +kernel
theorem dc_1_32_15 : decode prog_1_method_32_code 15 = .ok (.if_icmp .ne 9, 3) := by decide +kernel
theorem dc_1_32_18 : decode prog_1_method_32_code 18 = .ok (.aload_n 0, 1) := by decide +kernel
theorem dc_1_32_19 : decode prog_1_method_32_code 19 = .ok (.iload_n 1, 1) := by decide +kernel
theorem dc_1_32_20 : decode prog_1_method_32_code 20 = .ok (.invokevirtual 315, 3) := by decide +kernel
theorem dc_1_32_23 : decode prog_1_method_32_code 23 = .ok (.ireturn, 1) := by decide +kernel
theorem dc_1_32_24 : decode prog_1_method_32_code 24 = .ok (.iload_n 2, 1) := by decide +kernel
theorem dc_1_32_25 : decode prog_1_method_32_code 25 = .ok (.bipush 9, 2) := by decide +kernel
theorem dc_1_32_27 : decode prog_1_method_32_code 27 = .ok (.if_icmp .ne 22, 3) := by decide +kernel
theorem dc_1_32_30 : decode prog_1_method_32_code 30 = .ok (.aload_n 3, 1) := by decide +kernel
theorem dc_1_32_31 : decode prog_1_method_32_code 31 = .ok (.aload_n 0, 1) := by decide +kernel
theorem dc_1_32_32 : decode prog_1_method_32_code 32 = .ok (.getfield 7, 3) := by decide +kernel
theorem dc_1_32_35 : decode prog_1_method_32_code 35 = .ok (.invokevirtual 318, 3) := by decide +kernel
theorem dc_1_32_38 : decode prog_1_method_32_code 38 = .ok (.ifCond .eq 7, 3) := by decide +kernel
theorem dc_1_32_41 : decode prog_1_method_32_code 41 = .ok (.iconst 1, 1) := by decide +kernel
theorem dc_1_32_42 : decode prog_1_method_32_code 42 = .ok (.goto 12, 3) := by decide +kernel
theorem dc_1_32_45 : decode prog_1_method_32_code 45 = .ok (.iconst 0, 1) := by decide +kernel
theorem dc_1_32_46 : decode prog_1_method_32_code 46 = .ok (.goto 8, 3) := by decide +kernel
theorem dc_1_32_49 : decode prog_1_method_32_code 49 = .ok (.aload_n 3, 1) := by decide +kernel
theorem dc_1_32_50 : decode prog_1_method_32_code 50 = .ok (.iload_n 2, 1) := by decide +kernel
theorem dc_1_32_51 : decode prog_1_method_32_code 51 = .ok (.invokevirtual 321, 3) := by decide +kernel
theorem dc_1_32_54 : decode prog_1_method_32_code 54 = .ok (.ireturn, 1) := by decide +kernel
theorem dc_1_33_0 : decode prog_1_method_33_code 0 = .ok (.iload_n 1, 1) := by decide +kernel
theorem dc_1_33_1 : decode prog_1_method_33_code 1 = .ok (.iconst 4, 1) := by decide +kernel
theorem dc_1_33_2 : decode prog_1_method_33_code 2 = .ok (.bipush 7, 2) := by decide +kernel
theorem dc_1_33_4 : decode prog_1_method_33_code 4 = .ok (.invokestatic 84, 3) := by decide +kernel
theorem dc_1_33_7 : decode prog_1_method_33_code 7 = .ok (.ifCond .eq 11, 3) := by decide +kernel
theorem dc_1_33_10 : decode prog_1_method_33_code 10 = .ok (.aload_n 0, 1) := by decide +kernel
theorem dc_1_33_11 : decode prog_1_method_33_code 11 = .ok (.iload_n 1, 1) := by decide +kernel
theorem dc_1_33_12 : decode prog_1_method_33_code 12 = .ok (.iconst 4, 1) := by decide +kernel
theorem dc_1_33_13 : decode prog_1_method_33_code 13 = .ok (.isub, 1) := by decide +kernel
theorem dc_1_33_14 : decode prog_1_method_33_code 14 = .ok (.invokevirtual 324, 3) := by decide +kernel
theorem dc_1_33_17 : decode prog_1_method_33_code 17 = .ok (.ireturn, 1) := by decide +kernel
theorem dc_1_33_18 : decode prog_1_method_33_code 18 = .ok (.iload_n 1, 1) := by decide +kernel
theorem dc_1_33_19 : decode prog_1_method_33_code 19 = .ok (.bipush 10, 2) := by decide +kernel
theorem dc_1_33_21 : decode prog_1_method_33_code 21 = .ok (.bipush 39, 2) := by decide +kernel
theorem dc_1_33_23 : decode prog_1_method_33_code 23 = .ok (.invokestatic 84, 3) := by decide +kernel
theorem dc_1_33_26 : decode prog_1_method_33_code 26 = .ok (.ifCond .eq 16, 3) := by decide +kernel
theorem dc_1_33_29 : decode prog_1_method_33_code 29 = .ok (.aload_n 0, 1) := by decide +kernel
theorem dc_1_33_30 : decode prog_1_method_33_code 30 = .ok (.iload_n 1, 1) := by decide +kernel
theorem dc_1_33_31 : decode prog_1_method_33_code 31 = .ok (.bipush 10, 2) := by decide +kernel
theorem dc_1_33_33 : decode prog_1_method_33_code 33 = .ok (.irem, 1) := by decide +kernel
theorem dc_1_33_34 : decode prog_1_method_33_code 34 = .ok (.iload_n 1, 1) := by decide +kernel
theorem dc_1_33_35 : decode prog_1_method_33_code 35 = .ok (.bipush 10, 2) := by decide +kernel
theorem dc_1_33_37 : decode prog_1_method_33_code 37 = .ok (.idiv, 1) := by decide +kernel
theorem dc_1_33_38 : decode prog_1_method_33_code 38 = .ok (.invokevirtual 327, 3) := by decide +kernel
theorem dc_1_33_41 : decode prog_1_method_33_code 41 = .ok (.ireturn, 1) := by decide +kernel
theorem dc_1_33_42 : decode prog_1_method_33_code 42 = .ok (.iload_n 1, 1) := by decide +kernel
theorem dc_1_33_43 : decode prog_1_method_33_code 43 = .ok (.tableswitch 104 0 9 #[53, 58, 68, 78, 104, 104, 104, 104, 88, 96], 53) := by decide +kernel
theorem dc_1_33_96 : decode prog_1_method_33_code 96 = .ok (.aload_n 0, 1) := by decide +kernel
theorem dc_1_33_97 : decode prog_1_method_33_code 97 = .ok (.getfield 7, 3) := by decide +kernel
theorem dc_1_33_100 : decode prog_1_method_33_code 100 = .ok (.ireturn, 1) := by decide +kernel
theorem dc_1_33_101 : decode prog_1_method_33_code 101 = .ok (.aload_n 0, 1) := by decide +kernel
theorem dc_1_33_102 : decode prog_1_method_33_code 102 = .ok (.getfield 61, 3) := by decide +kernel
theorem dc_1_33_105 : decode prog_1_method_33_code 105 = .ok (.invokeinterface 113 1, 5) := by decide +kernel
theorem dc_1_33_110 : decode prog_1_method_33_code 110 = .ok (.ireturn, 1) := by decide +kernel
theorem dc_1_33_111 : decode prog_1_method_33_code 111 = .ok (.aload_n 0, 1) := by decide +kernel
theorem dc_1_33_112 : decode prog_1_method_33_code 112 = .ok (.getfield 65, 3) := by decide +kernel
theorem dc_1_33_115 : decode prog_1_method_33_code 115 = .ok (.invokeinterface 113 1, 5) := by decide +kernel
theorem dc_1_33_120 : decode prog_1_method_33_code 120 = .ok (.ireturn, 1) := by decide +kernel
theorem dc_1_33_121 : decode prog_1_method_33_code 121 = .ok (.aload_n 0, 1) := by decide +kernel
theorem dc_1_33_122 : decode prog_1_method_33_code 122 = .ok (.getfield 68, 3) := by decide +kernel
theorem dc_1_33_125 : decode prog_1_method_33_code 125 = .ok (.invokeinterface 113 1, 5) := by decide +kernel
theorem dc_1_33_130 : decode prog_1_method_33_code 130 = .ok (.ireturn, 1) := by decide +kernel
theorem dc_1_33_131 : decode prog_1_method_33_code 131 = .ok (.aload_n 0, 1) := by decide +kernel
theorem dc_1_33_132 : decode prog_1_method_33_code 132 = .ok (.getfield 54, 3) := by decide +kernel
theorem dc_1_33_135 : decode prog_1_method_33_code 135 = .ok (.getfield 330, 3) := by decide +kernel
theorem dc_1_33_138 : decode prog_1_method_33_code 138 = .ok (.ireturn, 1) := by decide +kernel
theorem dc_1_33_139 : decode prog_1_method_33_code 139 = .ok (.aload_n 0, 1) := by decide +kernel
theorem dc_1_33_140 : decode prog_1_method_33_code 140 = .ok (.getfield 33, 3) := by decide +kernel
theorem dc_1_33_143 : decode prog_1_method_33_code 143 = .ok (.getfield 143, 3) := by decide +kernel
theorem dc_1_33_146 : decode prog_1_method_33_code 146 = .ok (.ireturn, 1) := by decide +kernel
theorem dc_1_33_147 : decode prog_1_method_33_code 147 = .ok (.iconst (-1), 1) := by decide +kernel
theorem dc_1_33_148 : decode prog_1_method_33_code 148 = .ok (.ireturn, 1) := by decide +kernel
theorem iv_0_v309 : mm_iv 0 (.invokevirtual 309) = some (1, 176) := by decide +kernel
theorem iv_0_v312 : mm_iv 0 (.invokevirtual 312) = some (1, 177) := by decide +kernel
theorem iv_0_v315 : mm_iv 0 (.invokevirtual 315) = some (1, 179) := by decide +kernel
theorem iv_0_v321 : mm_iv 0 (.invokevirtual 321) = some (1, 180) := by decide +kernel
theorem iv_0_v324 : mm_iv 0 (.invokevirtual 324) = some (1, 182) := by decide +kernel
theorem iv_0_v327 : mm_iv 0 (.invokevirtual 327) = some (1, 183) := by decide +kernel
theorem kr_0_218 : mm_kr 0 218 = some 12 := by decide +kernel
theorem o_176 : mm_o 176 = 11 := by decide +kernel
theorem o_177 : mm_o 177 = 11 := by decide +kernel
theorem o_179 : mm_o 179 = 0 := by decide +kernel
theorem o_180 : mm_o 180 = 10 := by decide +kernel
theorem o_182 : mm_o 182 = 0 := by decide +kernel
theorem o_183 : mm_o 183 = 0 := by decide +kernel
theorem na_1_176 : mm_nas 1 176 = 2 := by decide +kernel
theorem na_1_177 : mm_nas 1 177 = 2 := by decide +kernel
theorem na_1_179 : mm_nas 1 179 = 2 := by decide +kernel
theorem na_1_180 : mm_nas 1 180 = 2 := by decide +kernel
theorem na_1_182 : mm_nas 1 182 = 2 := by decide +kernel
theorem na_1_183 : mm_nas 1 183 = 3 := by decide +kernel
theorem li9 (w : Int32) : w = nI 0 ∨ w = nI 1 ∨ w = nI 2 ∨ w = nI 3 ∨ w = nI 4 ∨ w = nI 5 ∨ w = nI 6 ∨ w = nI 7 ∨ w = nI 8 ∨ w = nI 9 ∨ (w.toInt < 0 ∨ 9 < w.toInt) := by
  by_cases h : nI 0 ≤ w ∧ w ≤ nI 9
  · obtain ⟨n, ⟨-, h9⟩, rfl⟩ := g_nat2 h (by decide) (by decide)
    rcases (by omega : n = 0 ∨ n = 1 ∨ n = 2 ∨ n = 3 ∨ n = 4 ∨ n = 5 ∨ n = 6 ∨ n = 7 ∨ n = 8 ∨ n = 9) with rfl | rfl | rfl | rfl | rfl | rfl | rfl | rfl | rfl | rfl <;> simp
  · have := n_out h (by decide) (by decide)
    have h2 : w.toInt < 0 ∨ 9 < w.toInt := by omega
    simp [h2]
theorem out_ne {w : Int32} (h : w.toInt < 0 ∨ 9 < w.toInt) {k : Nat} (hk : k ≤ 9) : ¬ w = nI k := fun z => by
  rw [z, nI_toInt (by omega)] at h
  omega
theorem n_no {w : Int32} {a b : Nat} (h : w.toInt < 10 ∨ 39 < w.toInt) (ha : 10 ≤ a) (ha2 : a ≤ 39) (hb : b ≤ 39) : ¬ (nI a ≤ w ∧ w ≤ nI b) := fun z => by
  have z1 := Int32.le_iff_toInt_le.mp z.1
  have z2 := Int32.le_iff_toInt_le.mp z.2
  rw [nI_toInt (by omega)] at z1 z2
  omega
theorem c39 {n : Nat} (h1 : 10 ≤ n) (h2 : n ≤ 39) : (∃ h, h < 10 ∧ n = 10 + h) ∨ (∃ h, h < 10 ∧ n = 20 + h) ∨ (∃ h, h < 10 ∧ n = 30 + h) := by
  rcases (by omega : n < 20 ∨ 20 ≤ n ∧ n < 30 ∨ 30 ≤ n) with z | z | z
  · exact Or.inl ⟨n - 10, by omega, by omega⟩
  · exact Or.inr (Or.inl ⟨n - 20, by omega, by omega⟩)
  · exact Or.inr (Or.inr ⟨n - 30, by omega, by omega⟩)
theorem q39 : ∀ h, h < 10 → (nI (10 + h) - nI (10 + h) / nI 10 * nI 10 = nI h ∧ nI (10 + h) / nI 10 = nI 1) ∧ (nI (20 + h) - nI (20 + h) / nI 10 * nI 10 = nI h ∧ nI (20 + h) / nI 10 = nI 2) ∧ (nI (30 + h) - nI (30 + h) / nI 10 * nI 10 = nI h ∧ nI (30 + h) / nI 10 = nI 3) := by decide +kernel
theorem le_n {a b : Nat} (h : ¬ a ≤ b) (ha : a < 2 ^ 31) (hb : b < 2 ^ 31) : ¬ nI a ≤ nI b := fun z => h ((nI_leI ha hb).mp z)
theorem ow_0 {sg : Nat → Nat → Int32} {ns : Nat} {h : Int32} : ∀ {n : Nat}, (∀ x, x < n → ¬ sg 28 x = h ∧ ¬ sg 27 x = h) → sp_ow sg ns h n = 0
  | 0, _ => rfl
  | n + 1, g => by
    rw [sp_ow_S, if_neg (g n (by omega)).1, if_neg (g n (by omega)).2, ow_0 (fun x hx => g x (by omega))]
    rfl
theorem sv_at {f : Nat → Int32} {v : Nat} {x : Int32} {n : Nat} (hn : n < 2 ^ 31) (hv : v < n) (h : f v = x) (hd : ∀ j k, j < k → k < n → ¬ f j = f k) : sp_at f x n = nI v := sp_at_yes (fun j hj => h ▸ hd j v hj hv) h (by omega) hv
set_option maxHeartbeats 4000000 in
theorem s_cancel {M : mH} {T : Nat → mT} {cs sg : Nat → Nat → Int32} {io : Nat → Int32} {e : Nat → Nat} {D : Nat → Nat → Nat} {nh nx ns nf ny tp : Nat} {cm : Nat → Nat} {w : Nat → Nat → Nat} {cn : Nat → Nat} {wc : Nat → Nat → Nat} (hV : CV M T cs io sg e D nh nx ns nf ny tp cm w cn wc) (h c zz : Int32) (hz : zz = 0 ∨ zz = nI 1) : ∃ (v : Value), ∃ (cs2 : Nat → Nat → Int32), ∃ (io2 : Nat → Int32), ∃ (sg2 : Nat → Nat → Int32), ∃ (nf2 : Nat), ∃ (ny2 : Nat), ∃ (tp2 : Nat), (mm_Ev 8 249 [.ref 100, .int h, .int c, .int zz] (rf_mk (hk M T cs2) io sg) (some v, rf_mk (hk M T cs2) io2 sg2) ∧ CV M T cs2 io2 sg2 e D nh nx ns nf2 ny2 tp2 cm w cn wc) ∧ mm_Ev 5 147 [.ref 0, .int h, .int c, .int zz] (hk M T cs) ((some v, hk M T cs2)) := by
  have hq9 : ∃ z, (fun r9 => ∃ (v : Value), ∃ (cs2 : Nat → Nat → Int32), ∃ (io2 : Nat → Int32), ∃ (sg2 : Nat → Nat → Int32), ∃ (nf2 : Nat), ∃ (ny2 : Nat), ∃ (tp2 : Nat), (mm_Ev 8 249 [.ref 100, .int h, .int c, .int zz] (rf_mk (hk M T cs2) io sg) (some v, rf_mk (hk M T cs2) io2 sg2) ∧ CV M T cs2 io2 sg2 e D nh nx ns nf2 ny2 tp2 cm w cn wc) ∧ r9 = ((some v, hk M T cs2))) z ∧ mm_Ev 5 147 [.ref 0, .int h, .int c, .int zz] (hk M T cs) z := by
    obtain ⟨⟨hM, hMs, hW⟩, hC, hT, hR, hJ⟩ := id hV
    obtain ⟨hF, ⟨hL0, hL1, hL2⟩, hSc, hAg, hSt⟩ := id hC
    obtain ⟨⟨⟨h3, hnh⟩, ⟨h4, hnx⟩, ⟨h5, hns⟩, ⟨h7, hnf⟩, ⟨h6, hny⟩, ⟨h23, htp⟩⟩, hRa, hRb, hRs, hRs2, hRs3, hRx, hCD, hRt, hRt2, hRf⟩ := id hR
    refine r_evQ (by decide +kernel) (show (4 : Nat) ≤ mm_nL 147 by decide +kernel) ?_
    show mm_Ru 4 (0, 6, false, prog_1_method_21_code, some .boolean) 0 [(0, .ref 0), (1, .int h), (2, .int c), (3, .int zz)] [] (hk M T cs) (fun r9 => ∃ (v : Value), ∃ (cs2 : Nat → Nat → Int32), ∃ (io2 : Nat → Int32), ∃ (sg2 : Nat → Nat → Int32), ∃ (nf2 : Nat), ∃ (ny2 : Nat), ∃ (tp2 : Nat), (mm_Ev 8 249 [.ref 100, .int h, .int c, .int zz] (rf_mk (hk M T cs2) io sg) (some v, rf_mk (hk M T cs2) io2 sg2) ∧ CV M T cs2 io2 sg2 e D nh nx ns nf2 ny2 tp2 cm w cn wc) ∧ r9 = ((some v, hk M T cs2)))
    refine r_aload_n rfl dc_1_21_0 ?_
    refine r_iload_n rfl dc_1_21_1 ?_
    by_cases h_2 : 0 ≤ h ∧ h < nI nh
    · skip
      obtain ⟨n_2, hn_2, e_2⟩ := g_lt h_2 (by omega)
      subst e_2
      refine h_callv (t := cT e 0) (as := [.int (nI n_2)]) (rest := []) (v := .ref (D 0 n_2)) (M1 := hk M T cs) rfl rfl iv_0_v128 (Or.inl rfl) na_1_39 (hF 0 (by decide)) ⟨by omega, by omega⟩ (show (0 : Nat) < 14 by decide) o_39 rfl (show (0 : Nat) ≤ 8 by decide) dc_1_21_2 (k_scAt_ok hV n_2 hn_2) ?_
      refine r_astore (ls' := [(4, .ref (D 0 n_2)), (0, .ref 0), (1, .int (nI n_2)), (2, .int c), (3, .int zz)]) (by decide) rfl dc_1_21_5 ?_
      refine r_aload rfl dc_1_21_7 ?_
      refine r_ifnull dc_1_21_9 ?_
      have q16 := inN_tN (hRs n_2 hn_2).2.2.2.2.2 (by decide)
      refine r_iload_n rfl dc_1_21_12 ?_
      refine r_iflt (t := 30) (by decide) dc_1_21_13 (fun c_13 => ?_) (fun c_13 => ?_)
      · skip
        refine r_iconst (v := nI 0) (by decide) dc_1_21_30 ?_
        refine r_zret rfl (by decide) dc_1_21_31 ?_
        refine ⟨_, _, io, sg, nf, ny, tp, ⟨mm_Ev_up (by decide) (c_cancel_n2 (hk M T cs) hM io sg nh h3 hnh n_2 _ _ hn_2 (fun g => absurd c_13 (Int32.not_lt.mpr g.1))), hV⟩, rfl⟩
      · skip
        refine r_iload_n rfl dc_1_21_16 ?_
        refine r_aload rfl dc_1_21_17 ?_
        refine h_get (t := (9, 0, rl [(6, D 1 n_2)])) (v := .ref (D 1 n_2)) fx_0_221 (hSc n_2 (by omega)).1 (hSc n_2 (by omega)).2.1 (rfl) dc_1_21_19 ?_
        refine h_callv (t := (6, 0, rl [(0, D 2 n_2)])) (as := []) (rest := [.int c]) (v := .int (nI (tN (sg 16 n_2)))) (M1 := hk M T cs) rfl rfl iv_0_f113 (Or.inr (Or.inr rfl)) na_6_26 (hSc n_2 (by omega)).2.2.2.1.1 (hSc n_2 (by omega)).2.2.2.1.2.1 (show (6 : Nat) < 14 by decide) o_26 rfl (show (1 : Nat) ≤ 8 by decide) dc_1_21_22 (mm_Ev_up (by decide : 1 ≤ 4) (k_sizeL (hV.2.1.2.2.1 n_2 (by omega)).2.2.2.1)) ?_
        refine r_iclt (t := 32) (by decide) dc_1_21_27 (fun c_27 => ?_) (fun c_27 => ?_)
        · skip
          obtain ⟨n_c, hn_c, e_c⟩ := g_lt ⟨Int32.not_lt.mp c_13, c_27⟩ (by omega)
          subst e_c
          refine r_aload rfl dc_1_21_32 ?_
          refine h_get (t := (9, 0, rl [(6, D 1 n_2)])) (v := .ref (D 1 n_2)) fx_0_221 (hSc n_2 (by omega)).1 (hSc n_2 (by omega)).2.1 (rfl) dc_1_21_34 ?_
          refine r_iload_n rfl dc_1_21_37 ?_
          refine h_callv (t := (6, 0, rl [(0, D 2 n_2)])) (as := [.int (nI n_c)]) (rest := []) (v := .ref (D 3 (6 * n_2 + n_c))) (M1 := hk M T cs) rfl rfl iv_0_f227 (Or.inr (Or.inr rfl)) na_6_40 (hSc n_2 (by omega)).2.2.2.1.1 (hSc n_2 (by omega)).2.2.2.1.2.1 (show (6 : Nat) < 14 by decide) o_40 rfl (show (0 : Nat) ≤ 8 by decide) dc_1_21_38 (mm_Ev_up (by decide : 3 ≤ 4) (k_getL (hV.2.1.2.2.1 n_2 (by omega)).2.2.2.1 n_c (by omega))) ?_
          refine h_cast (t := (12, 0, rl [])) (c := 12) ((hSc n_2 hn_2).2.2.2.2 n_c hn_c).1 ((hSc n_2 hn_2).2.2.2.2 n_c hn_c).2.1 (show (12 : Nat) < 14 by decide) kr_0_218 rfl dc_1_21_43 ?_
          refine r_astore (ls' := [(5, .ref (D 3 (6 * n_2 + n_c))), (4, .ref (D 0 n_2)), (0, .ref 0), (1, .int (nI n_2)), (2, .int (nI n_c)), (3, .int zz)]) (by decide) rfl dc_1_21_46 ?_
          refine r_aload rfl dc_1_21_48 ?_
          refine h_get (t := (12, 0, rl [])) (v := .int (sg 21 (6 * n_2 + n_c))) fx_0_231 ((hSc n_2 hn_2).2.2.2.2 n_c hn_c).1 ((hSc n_2 hn_2).2.2.2.2 n_c hn_c).2.1 (show some (Value.int _) = _ from congrArg (fun z => some (Value.int z)) (((hSc n_2 hn_2).2.2.2.2 n_c hn_c).2.2.2.2.2.2)) dc_1_21_50 ?_
          refine r_iload_n rfl dc_1_21_53 ?_
          refine r_icne (t := 59) (by decide) dc_1_21_54 (fun c_54 => ?_) (fun c_54 => ?_)
          · skip
            refine r_aload rfl dc_1_21_59 ?_
            refine r_iload_n rfl dc_1_21_61 ?_
            refine h_pboo (t := (12, 0, rl [])) fx_0_231 ((hSc n_2 hn_2).2.2.2.2 n_c hn_c).1 ((hSc n_2 hn_2).2.2.2.2 n_c hn_c).2.1 (Or.inl fn_12_4) (by rcases hz with y | y <;> rw [y] <;> rfl) (by rcases hz with y | y <;> rw [y] <;> rfl) (pi_12_4 _ _ _ _) dc_1_21_62 ?_
            refine r_iconst (v := nI 1) (by decide) dc_1_21_65 ?_
            refine r_zret rfl (by decide) dc_1_21_66 ?_
            refine ⟨_, _, io, _, nf, ny, tp, ⟨mm_Ev_up (by decide) (c_cancel_ok (hk M T (w1 cs (D 3 (6 * n_2 + n_c)) 4 zz)) hM io sg nh h3 hnh n_2 n_c zz hn_2 _ q16.1 hn_c q16.2 (by rcases hz with y | y <;> rw [y] <;> decide) c_54), CV_cancel hV hn_2 hn_c hz⟩, rfl⟩
          · skip
            refine r_iconst (v := nI 0) (by decide) dc_1_21_57 ?_
            refine r_zret rfl (by decide) dc_1_21_58 ?_
            refine ⟨_, _, io, sg, nf, ny, tp, ⟨mm_Ev_up (by decide) (c_cancel_n3 (hk M T cs) hM io sg nh h3 hnh n_2 n_c zz hn_2 _ q16.1 hn_c q16.2 (by rcases hz with y | y <;> rw [y] <;> decide) c_54), hV⟩, rfl⟩
        · skip
          refine r_iconst (v := nI 0) (by decide) dc_1_21_30 ?_
          refine r_zret rfl (by decide) dc_1_21_31 ?_
          refine ⟨_, _, io, sg, nf, ny, tp, ⟨mm_Ev_up (by decide) (c_cancel_n2 (hk M T cs) hM io sg nh h3 hnh n_2 _ _ hn_2 (fun g => c_27 (by rw [← q16.1]; exact g.2))), hV⟩, rfl⟩
    · skip
      refine h_callv (t := cT e 0) (as := [.int h]) (rest := []) (v := .null) (M1 := hk M T cs) rfl rfl iv_0_v128 (Or.inl rfl) na_1_39 (hF 0 (by decide)) ⟨by omega, by omega⟩ (show (0 : Nat) < 14 by decide) o_39 rfl (show (0 : Nat) ≤ 8 by decide) dc_1_21_2 (mm_Ev_up (by decide : 2 ≤ 4) (k_scAt_no hV h h_2)) ?_
      refine r_astoreZ (ls' := [(4, .null), (0, .ref 0), (1, .int h), (2, .int c), (3, .int zz)]) (by decide) rfl dc_1_21_5 ?_
      refine r_aloadZ rfl dc_1_21_7 ?_
      refine r_ifnullZ (t := 30) (by decide) dc_1_21_9 ?_
      refine r_iconst (v := nI 0) (by decide) dc_1_21_30 ?_
      refine r_zret rfl (by decide) dc_1_21_31 ?_
      refine ⟨_, _, io, sg, nf, ny, tp, ⟨mm_Ev_up (by decide) (c_cancel_no (hk M T cs) hM io sg _ _ _ (fun g => h_2 (by rw [← h3]; exact g))), hV⟩, rfl⟩
  obtain ⟨z9, ⟨v, cs2, io2, sg2, nf2, ny2, tp2, p9, e9⟩, h9⟩ := hq9
  subst e9
  exact ⟨v, cs2, io2, sg2, nf2, ny2, tp2, p9, h9⟩
theorem st_cancel (h c zz : Int32) (hz : zz = 0 ∨ zz = nI 1) : StpN 147 249 [.int h, .int c, .int zz] := fun M T cs sg io e D nh nx ns nf ny tp cm w cn wc hV => by
  obtain ⟨v, cs2, io2, sg2, nf2, ny2, tp2, hp, h⟩ := s_cancel hV h c zz hz
  exact ⟨v, cs2, io2, sg2, nf2, ny2, tp2, hp, mm_Ev_up (by decide) h⟩
set_option maxHeartbeats 4000000 in
theorem s_about {M : mH} {T : Nat → mT} {cs sg : Nat → Nat → Int32} {io : Nat → Int32} {e : Nat → Nat} {D : Nat → Nat → Nat} {nh nx ns nf ny tp : Nat} {cm : Nat → Nat} {w : Nat → Nat → Nat} {cn : Nat → Nat} {wc : Nat → Nat → Nat} (hV : CV M T cs io sg e D nh nx ns nf ny tp cm w cn wc) (x y : Int32) : ∃ (v : Value), ∃ (cs2 : Nat → Nat → Int32), ∃ (io2 : Nat → Int32), ∃ (sg2 : Nat → Nat → Int32), ∃ (nf2 : Nat), ∃ (ny2 : Nat), ∃ (tp2 : Nat), (mm_Ev 8 269 [.ref 100, .int x, .int y] (rf_mk (hk M T cs2) io sg) (some v, rf_mk (hk M T cs2) io2 sg2) ∧ CV M T cs2 io2 sg2 e D nh nx ns nf2 ny2 tp2 cm w cn wc) ∧ mm_Ev 6 178 [.ref 0, .int x, .int y] (hk M T cs) ((some v, hk M T cs2)) := by
  have hq9 : ∃ z, (fun r9 => ∃ (v : Value), ∃ (cs2 : Nat → Nat → Int32), ∃ (io2 : Nat → Int32), ∃ (sg2 : Nat → Nat → Int32), ∃ (nf2 : Nat), ∃ (ny2 : Nat), ∃ (tp2 : Nat), (mm_Ev 8 269 [.ref 100, .int x, .int y] (rf_mk (hk M T cs2) io sg) (some v, rf_mk (hk M T cs2) io2 sg2) ∧ CV M T cs2 io2 sg2 e D nh nx ns nf2 ny2 tp2 cm w cn wc) ∧ r9 = ((some v, hk M T cs2))) z ∧ mm_Ev 6 178 [.ref 0, .int x, .int y] (hk M T cs) z := by
    obtain ⟨⟨hM, hMs, hW⟩, hC, hT, hR, hJ⟩ := id hV
    obtain ⟨hF, ⟨hL0, hL1, hL2⟩, hSc, hAg, hSt⟩ := id hC
    obtain ⟨⟨⟨h3, hnh⟩, ⟨h4, hnx⟩, ⟨h5, hns⟩, ⟨h7, hnf⟩, ⟨h6, hny⟩, ⟨h23, htp⟩⟩, hRa, hRb, hRs, hRs2, hRs3, hRx, hCD, hRt, hRt2, hRf⟩ := id hR
    refine r_evQ (by decide +kernel) (show (3 : Nat) ≤ mm_nL 178 by decide +kernel) ?_
    show mm_Ru 5 (0, 4, false, prog_1_method_32_code, some .int) 0 [(0, .ref 0), (1, .int x), (2, .int y)] [] (hk M T cs) (fun r9 => ∃ (v : Value), ∃ (cs2 : Nat → Nat → Int32), ∃ (io2 : Nat → Int32), ∃ (sg2 : Nat → Nat → Int32), ∃ (nf2 : Nat), ∃ (ny2 : Nat), ∃ (tp2 : Nat), (mm_Ev 8 269 [.ref 100, .int x, .int y] (rf_mk (hk M T cs2) io sg) (some v, rf_mk (hk M T cs2) io2 sg2) ∧ CV M T cs2 io2 sg2 e D nh nx ns nf2 ny2 tp2 cm w cn wc) ∧ r9 = ((some v, hk M T cs2)))
    rcases li9 y with rfl | rfl | rfl | rfl | rfl | rfl | rfl | rfl | rfl | rfl | hw
    · skip
      refine r_aload_n rfl dc_1_32_0 ?_
      refine r_iload_n rfl dc_1_32_1 ?_
      by_cases h_2 : 0 ≤ x ∧ x < nI nx
      · skip
        obtain ⟨n_2, hn_2, e_2⟩ := g_lt h_2 (by omega)
        subst e_2
        refine h_callv (t := cT e 0) (as := [.int (nI n_2)]) (rest := []) (v := .ref (D 4 n_2)) (M1 := hk M T cs) rfl rfl iv_0_v157 (Or.inl rfl) na_1_85 (hF 0 (by decide)) ⟨by omega, by omega⟩ (show (0 : Nat) < 14 by decide) o_85 rfl (show (0 : Nat) ≤ 8 by decide) dc_1_32_2 (mm_Ev_up (by decide : 4 ≤ 5) (k_agAt_ok hV n_2 hn_2)) ?_
        refine r_astore_n (ls' := [(3, .ref (D 4 n_2)), (0, .ref 0), (1, .int (nI n_2)), (2, .int (nI 0))]) (by decide) rfl dc_1_32_5 ?_
        refine r_aload_n rfl dc_1_32_6 ?_
        refine r_ifnonnull (t := 12) (by decide) dc_1_32_7 ?_
        refine r_iload_n rfl dc_1_32_12 ?_
        refine r_bipush (v := nI 8) (by decide) dc_1_32_13 ?_
        refine r_ncne (t := 24) (by omega) (by omega) (by decide) dc_1_32_15 (fun c_15 => ?_) (fun c_15 => ?_)
        · skip
          refine r_iload_n rfl dc_1_32_24 ?_
          refine r_bipush (v := nI 9) (by decide) dc_1_32_25 ?_
          refine r_ncne (t := 49) (by omega) (by omega) (by decide) dc_1_32_27 (fun c_27 => ?_) (fun c_27 => ?_)
          · skip
            refine r_aload_n rfl dc_1_32_49 ?_
            refine r_iload_n rfl dc_1_32_50 ?_
            refine h_callv (t := (10, 0, rl [(9, D 6 n_2), (8, D 5 n_2)])) (as := [.int (nI 0)]) (rest := []) (v := .int (sg 27 n_2)) (M1 := hk M T cs) rfl rfl iv_0_v321 (Or.inl rfl) na_1_180 (hAg n_2 (by omega)).1 (hAg n_2 (by omega)).2.1 (show (10 : Nat) < 14 by decide) o_180 rfl (show (0 : Nat) ≤ 8 by decide) dc_1_32_51 (mm_Ev_up (by decide : 1 ≤ 5) (k_shown_0 M T cs sg D n_2 _ _ (hAg n_2 hn_2))) ?_
            refine r_iret rfl dc_1_32_54 ?_
            refine ⟨_, _, io, sg, nf, ny, tp, ⟨mm_Ev_up (by decide) (c_about_0 (hk M T cs) hM io sg nx h4 hnx n_2 hn_2), hV⟩, rfl⟩
          · omega
        · omega
      · skip
        refine h_callv (t := cT e 0) (as := [.int x]) (rest := []) (v := .null) (M1 := hk M T cs) rfl rfl iv_0_v157 (Or.inl rfl) na_1_85 (hF 0 (by decide)) ⟨by omega, by omega⟩ (show (0 : Nat) < 14 by decide) o_85 rfl (show (0 : Nat) ≤ 8 by decide) dc_1_32_2 (mm_Ev_up (by decide : 2 ≤ 5) (k_agAt_no hV x h_2)) ?_
        refine r_astore_nZ (ls' := [(3, .null), (0, .ref 0), (1, .int x), (2, .int (nI 0))]) (by decide) rfl dc_1_32_5 ?_
        refine r_aload_nZ rfl dc_1_32_6 ?_
        refine r_ifnonnullZ dc_1_32_7 ?_
        refine r_iconst (v := -1) (by decide) dc_1_32_10 ?_
        refine r_iret rfl dc_1_32_11 ?_
        refine ⟨_, _, io, sg, nf, ny, tp, ⟨mm_Ev_up (by decide) (c_about_no (hk M T cs) hM io sg _ _ (fun g => h_2 (by rw [← h4]; exact g))), hV⟩, rfl⟩
    · skip
      refine r_aload_n rfl dc_1_32_0 ?_
      refine r_iload_n rfl dc_1_32_1 ?_
      by_cases h_2 : 0 ≤ x ∧ x < nI nx
      · skip
        obtain ⟨n_2, hn_2, e_2⟩ := g_lt h_2 (by omega)
        subst e_2
        refine h_callv (t := cT e 0) (as := [.int (nI n_2)]) (rest := []) (v := .ref (D 4 n_2)) (M1 := hk M T cs) rfl rfl iv_0_v157 (Or.inl rfl) na_1_85 (hF 0 (by decide)) ⟨by omega, by omega⟩ (show (0 : Nat) < 14 by decide) o_85 rfl (show (0 : Nat) ≤ 8 by decide) dc_1_32_2 (mm_Ev_up (by decide : 4 ≤ 5) (k_agAt_ok hV n_2 hn_2)) ?_
        refine r_astore_n (ls' := [(3, .ref (D 4 n_2)), (0, .ref 0), (1, .int (nI n_2)), (2, .int (nI 1))]) (by decide) rfl dc_1_32_5 ?_
        refine r_aload_n rfl dc_1_32_6 ?_
        refine r_ifnonnull (t := 12) (by decide) dc_1_32_7 ?_
        refine r_iload_n rfl dc_1_32_12 ?_
        refine r_bipush (v := nI 8) (by decide) dc_1_32_13 ?_
        refine r_ncne (t := 24) (by omega) (by omega) (by decide) dc_1_32_15 (fun c_15 => ?_) (fun c_15 => ?_)
        · skip
          refine r_iload_n rfl dc_1_32_24 ?_
          refine r_bipush (v := nI 9) (by decide) dc_1_32_25 ?_
          refine r_ncne (t := 49) (by omega) (by omega) (by decide) dc_1_32_27 (fun c_27 => ?_) (fun c_27 => ?_)
          · skip
            refine r_aload_n rfl dc_1_32_49 ?_
            refine r_iload_n rfl dc_1_32_50 ?_
            refine h_callv (t := (10, 0, rl [(9, D 6 n_2), (8, D 5 n_2)])) (as := [.int (nI 1)]) (rest := []) (v := .int (sg 28 n_2)) (M1 := hk M T cs) rfl rfl iv_0_v321 (Or.inl rfl) na_1_180 (hAg n_2 (by omega)).1 (hAg n_2 (by omega)).2.1 (show (10 : Nat) < 14 by decide) o_180 rfl (show (0 : Nat) ≤ 8 by decide) dc_1_32_51 (mm_Ev_up (by decide : 1 ≤ 5) (k_shown_1 M T cs sg D n_2 _ _ (hAg n_2 hn_2))) ?_
            refine r_iret rfl dc_1_32_54 ?_
            refine ⟨_, _, io, sg, nf, ny, tp, ⟨mm_Ev_up (by decide) (c_about_1 (hk M T cs) hM io sg nx h4 hnx n_2 hn_2), hV⟩, rfl⟩
          · omega
        · omega
      · skip
        refine h_callv (t := cT e 0) (as := [.int x]) (rest := []) (v := .null) (M1 := hk M T cs) rfl rfl iv_0_v157 (Or.inl rfl) na_1_85 (hF 0 (by decide)) ⟨by omega, by omega⟩ (show (0 : Nat) < 14 by decide) o_85 rfl (show (0 : Nat) ≤ 8 by decide) dc_1_32_2 (mm_Ev_up (by decide : 2 ≤ 5) (k_agAt_no hV x h_2)) ?_
        refine r_astore_nZ (ls' := [(3, .null), (0, .ref 0), (1, .int x), (2, .int (nI 1))]) (by decide) rfl dc_1_32_5 ?_
        refine r_aload_nZ rfl dc_1_32_6 ?_
        refine r_ifnonnullZ dc_1_32_7 ?_
        refine r_iconst (v := -1) (by decide) dc_1_32_10 ?_
        refine r_iret rfl dc_1_32_11 ?_
        refine ⟨_, _, io, sg, nf, ny, tp, ⟨mm_Ev_up (by decide) (c_about_no (hk M T cs) hM io sg _ _ (fun g => h_2 (by rw [← h4]; exact g))), hV⟩, rfl⟩
    · skip
      refine r_aload_n rfl dc_1_32_0 ?_
      refine r_iload_n rfl dc_1_32_1 ?_
      by_cases h_2 : 0 ≤ x ∧ x < nI nx
      · skip
        obtain ⟨n_2, hn_2, e_2⟩ := g_lt h_2 (by omega)
        subst e_2
        refine h_callv (t := cT e 0) (as := [.int (nI n_2)]) (rest := []) (v := .ref (D 4 n_2)) (M1 := hk M T cs) rfl rfl iv_0_v157 (Or.inl rfl) na_1_85 (hF 0 (by decide)) ⟨by omega, by omega⟩ (show (0 : Nat) < 14 by decide) o_85 rfl (show (0 : Nat) ≤ 8 by decide) dc_1_32_2 (mm_Ev_up (by decide : 4 ≤ 5) (k_agAt_ok hV n_2 hn_2)) ?_
        refine r_astore_n (ls' := [(3, .ref (D 4 n_2)), (0, .ref 0), (1, .int (nI n_2)), (2, .int (nI 2))]) (by decide) rfl dc_1_32_5 ?_
        refine r_aload_n rfl dc_1_32_6 ?_
        refine r_ifnonnull (t := 12) (by decide) dc_1_32_7 ?_
        refine r_iload_n rfl dc_1_32_12 ?_
        refine r_bipush (v := nI 8) (by decide) dc_1_32_13 ?_
        refine r_ncne (t := 24) (by omega) (by omega) (by decide) dc_1_32_15 (fun c_15 => ?_) (fun c_15 => ?_)
        · skip
          refine r_iload_n rfl dc_1_32_24 ?_
          refine r_bipush (v := nI 9) (by decide) dc_1_32_25 ?_
          refine r_ncne (t := 49) (by omega) (by omega) (by decide) dc_1_32_27 (fun c_27 => ?_) (fun c_27 => ?_)
          · skip
            refine r_aload_n rfl dc_1_32_49 ?_
            refine r_iload_n rfl dc_1_32_50 ?_
            refine h_callv (t := (10, 0, rl [(9, D 6 n_2), (8, D 5 n_2)])) (as := [.int (nI 2)]) (rest := []) (v := .int (sg 29 n_2)) (M1 := hk M T cs) rfl rfl iv_0_v321 (Or.inl rfl) na_1_180 (hAg n_2 (by omega)).1 (hAg n_2 (by omega)).2.1 (show (10 : Nat) < 14 by decide) o_180 rfl (show (0 : Nat) ≤ 8 by decide) dc_1_32_51 (mm_Ev_up (by decide : 1 ≤ 5) (k_shown_2 M T cs sg D n_2 _ _ (hAg n_2 hn_2))) ?_
            refine r_iret rfl dc_1_32_54 ?_
            refine ⟨_, _, io, sg, nf, ny, tp, ⟨mm_Ev_up (by decide) (c_about_2 (hk M T cs) hM io sg nx h4 hnx n_2 hn_2), hV⟩, rfl⟩
          · omega
        · omega
      · skip
        refine h_callv (t := cT e 0) (as := [.int x]) (rest := []) (v := .null) (M1 := hk M T cs) rfl rfl iv_0_v157 (Or.inl rfl) na_1_85 (hF 0 (by decide)) ⟨by omega, by omega⟩ (show (0 : Nat) < 14 by decide) o_85 rfl (show (0 : Nat) ≤ 8 by decide) dc_1_32_2 (mm_Ev_up (by decide : 2 ≤ 5) (k_agAt_no hV x h_2)) ?_
        refine r_astore_nZ (ls' := [(3, .null), (0, .ref 0), (1, .int x), (2, .int (nI 2))]) (by decide) rfl dc_1_32_5 ?_
        refine r_aload_nZ rfl dc_1_32_6 ?_
        refine r_ifnonnullZ dc_1_32_7 ?_
        refine r_iconst (v := -1) (by decide) dc_1_32_10 ?_
        refine r_iret rfl dc_1_32_11 ?_
        refine ⟨_, _, io, sg, nf, ny, tp, ⟨mm_Ev_up (by decide) (c_about_no (hk M T cs) hM io sg _ _ (fun g => h_2 (by rw [← h4]; exact g))), hV⟩, rfl⟩
    · skip
      refine r_aload_n rfl dc_1_32_0 ?_
      refine r_iload_n rfl dc_1_32_1 ?_
      by_cases h_2 : 0 ≤ x ∧ x < nI nx
      · skip
        obtain ⟨n_2, hn_2, e_2⟩ := g_lt h_2 (by omega)
        subst e_2
        refine h_callv (t := cT e 0) (as := [.int (nI n_2)]) (rest := []) (v := .ref (D 4 n_2)) (M1 := hk M T cs) rfl rfl iv_0_v157 (Or.inl rfl) na_1_85 (hF 0 (by decide)) ⟨by omega, by omega⟩ (show (0 : Nat) < 14 by decide) o_85 rfl (show (0 : Nat) ≤ 8 by decide) dc_1_32_2 (mm_Ev_up (by decide : 4 ≤ 5) (k_agAt_ok hV n_2 hn_2)) ?_
        refine r_astore_n (ls' := [(3, .ref (D 4 n_2)), (0, .ref 0), (1, .int (nI n_2)), (2, .int (nI 3))]) (by decide) rfl dc_1_32_5 ?_
        refine r_aload_n rfl dc_1_32_6 ?_
        refine r_ifnonnull (t := 12) (by decide) dc_1_32_7 ?_
        refine r_iload_n rfl dc_1_32_12 ?_
        refine r_bipush (v := nI 8) (by decide) dc_1_32_13 ?_
        refine r_ncne (t := 24) (by omega) (by omega) (by decide) dc_1_32_15 (fun c_15 => ?_) (fun c_15 => ?_)
        · skip
          refine r_iload_n rfl dc_1_32_24 ?_
          refine r_bipush (v := nI 9) (by decide) dc_1_32_25 ?_
          refine r_ncne (t := 49) (by omega) (by omega) (by decide) dc_1_32_27 (fun c_27 => ?_) (fun c_27 => ?_)
          · skip
            refine r_aload_n rfl dc_1_32_49 ?_
            refine r_iload_n rfl dc_1_32_50 ?_
            refine h_callv (t := (10, 0, rl [(9, D 6 n_2), (8, D 5 n_2)])) (as := [.int (nI 3)]) (rest := []) (v := .int (sg 30 n_2)) (M1 := hk M T cs) rfl rfl iv_0_v321 (Or.inl rfl) na_1_180 (hAg n_2 (by omega)).1 (hAg n_2 (by omega)).2.1 (show (10 : Nat) < 14 by decide) o_180 rfl (show (0 : Nat) ≤ 8 by decide) dc_1_32_51 (mm_Ev_up (by decide : 1 ≤ 5) (k_shown_3 M T cs sg D n_2 _ _ (hAg n_2 hn_2))) ?_
            refine r_iret rfl dc_1_32_54 ?_
            refine ⟨_, _, io, sg, nf, ny, tp, ⟨mm_Ev_up (by decide) (c_about_3 (hk M T cs) hM io sg nx h4 hnx n_2 hn_2), hV⟩, rfl⟩
          · omega
        · omega
      · skip
        refine h_callv (t := cT e 0) (as := [.int x]) (rest := []) (v := .null) (M1 := hk M T cs) rfl rfl iv_0_v157 (Or.inl rfl) na_1_85 (hF 0 (by decide)) ⟨by omega, by omega⟩ (show (0 : Nat) < 14 by decide) o_85 rfl (show (0 : Nat) ≤ 8 by decide) dc_1_32_2 (mm_Ev_up (by decide : 2 ≤ 5) (k_agAt_no hV x h_2)) ?_
        refine r_astore_nZ (ls' := [(3, .null), (0, .ref 0), (1, .int x), (2, .int (nI 3))]) (by decide) rfl dc_1_32_5 ?_
        refine r_aload_nZ rfl dc_1_32_6 ?_
        refine r_ifnonnullZ dc_1_32_7 ?_
        refine r_iconst (v := -1) (by decide) dc_1_32_10 ?_
        refine r_iret rfl dc_1_32_11 ?_
        refine ⟨_, _, io, sg, nf, ny, tp, ⟨mm_Ev_up (by decide) (c_about_no (hk M T cs) hM io sg _ _ (fun g => h_2 (by rw [← h4]; exact g))), hV⟩, rfl⟩
    · skip
      refine r_aload_n rfl dc_1_32_0 ?_
      refine r_iload_n rfl dc_1_32_1 ?_
      by_cases h_2 : 0 ≤ x ∧ x < nI nx
      · skip
        obtain ⟨n_2, hn_2, e_2⟩ := g_lt h_2 (by omega)
        subst e_2
        refine h_callv (t := cT e 0) (as := [.int (nI n_2)]) (rest := []) (v := .ref (D 4 n_2)) (M1 := hk M T cs) rfl rfl iv_0_v157 (Or.inl rfl) na_1_85 (hF 0 (by decide)) ⟨by omega, by omega⟩ (show (0 : Nat) < 14 by decide) o_85 rfl (show (0 : Nat) ≤ 8 by decide) dc_1_32_2 (mm_Ev_up (by decide : 4 ≤ 5) (k_agAt_ok hV n_2 hn_2)) ?_
        refine r_astore_n (ls' := [(3, .ref (D 4 n_2)), (0, .ref 0), (1, .int (nI n_2)), (2, .int (nI 4))]) (by decide) rfl dc_1_32_5 ?_
        refine r_aload_n rfl dc_1_32_6 ?_
        refine r_ifnonnull (t := 12) (by decide) dc_1_32_7 ?_
        refine r_iload_n rfl dc_1_32_12 ?_
        refine r_bipush (v := nI 8) (by decide) dc_1_32_13 ?_
        refine r_ncne (t := 24) (by omega) (by omega) (by decide) dc_1_32_15 (fun c_15 => ?_) (fun c_15 => ?_)
        · skip
          refine r_iload_n rfl dc_1_32_24 ?_
          refine r_bipush (v := nI 9) (by decide) dc_1_32_25 ?_
          refine r_ncne (t := 49) (by omega) (by omega) (by decide) dc_1_32_27 (fun c_27 => ?_) (fun c_27 => ?_)
          · skip
            refine r_aload_n rfl dc_1_32_49 ?_
            refine r_iload_n rfl dc_1_32_50 ?_
            refine h_callv (t := (10, 0, rl [(9, D 6 n_2), (8, D 5 n_2)])) (as := [.int (nI 4)]) (rest := []) (v := .int (sg 31 n_2)) (M1 := hk M T cs) rfl rfl iv_0_v321 (Or.inl rfl) na_1_180 (hAg n_2 (by omega)).1 (hAg n_2 (by omega)).2.1 (show (10 : Nat) < 14 by decide) o_180 rfl (show (0 : Nat) ≤ 8 by decide) dc_1_32_51 (mm_Ev_up (by decide : 1 ≤ 5) (k_shown_4 M T cs sg D n_2 _ _ (hAg n_2 hn_2))) ?_
            refine r_iret rfl dc_1_32_54 ?_
            refine ⟨_, _, io, sg, nf, ny, tp, ⟨mm_Ev_up (by decide) (c_about_4 (hk M T cs) hM io sg nx h4 hnx n_2 hn_2), hV⟩, rfl⟩
          · omega
        · omega
      · skip
        refine h_callv (t := cT e 0) (as := [.int x]) (rest := []) (v := .null) (M1 := hk M T cs) rfl rfl iv_0_v157 (Or.inl rfl) na_1_85 (hF 0 (by decide)) ⟨by omega, by omega⟩ (show (0 : Nat) < 14 by decide) o_85 rfl (show (0 : Nat) ≤ 8 by decide) dc_1_32_2 (mm_Ev_up (by decide : 2 ≤ 5) (k_agAt_no hV x h_2)) ?_
        refine r_astore_nZ (ls' := [(3, .null), (0, .ref 0), (1, .int x), (2, .int (nI 4))]) (by decide) rfl dc_1_32_5 ?_
        refine r_aload_nZ rfl dc_1_32_6 ?_
        refine r_ifnonnullZ dc_1_32_7 ?_
        refine r_iconst (v := -1) (by decide) dc_1_32_10 ?_
        refine r_iret rfl dc_1_32_11 ?_
        refine ⟨_, _, io, sg, nf, ny, tp, ⟨mm_Ev_up (by decide) (c_about_no (hk M T cs) hM io sg _ _ (fun g => h_2 (by rw [← h4]; exact g))), hV⟩, rfl⟩
    · skip
      refine r_aload_n rfl dc_1_32_0 ?_
      refine r_iload_n rfl dc_1_32_1 ?_
      by_cases h_2 : 0 ≤ x ∧ x < nI nx
      · skip
        obtain ⟨n_2, hn_2, e_2⟩ := g_lt h_2 (by omega)
        subst e_2
        refine h_callv (t := cT e 0) (as := [.int (nI n_2)]) (rest := []) (v := .ref (D 4 n_2)) (M1 := hk M T cs) rfl rfl iv_0_v157 (Or.inl rfl) na_1_85 (hF 0 (by decide)) ⟨by omega, by omega⟩ (show (0 : Nat) < 14 by decide) o_85 rfl (show (0 : Nat) ≤ 8 by decide) dc_1_32_2 (mm_Ev_up (by decide : 4 ≤ 5) (k_agAt_ok hV n_2 hn_2)) ?_
        refine r_astore_n (ls' := [(3, .ref (D 4 n_2)), (0, .ref 0), (1, .int (nI n_2)), (2, .int (nI 5))]) (by decide) rfl dc_1_32_5 ?_
        refine r_aload_n rfl dc_1_32_6 ?_
        refine r_ifnonnull (t := 12) (by decide) dc_1_32_7 ?_
        refine r_iload_n rfl dc_1_32_12 ?_
        refine r_bipush (v := nI 8) (by decide) dc_1_32_13 ?_
        refine r_ncne (t := 24) (by omega) (by omega) (by decide) dc_1_32_15 (fun c_15 => ?_) (fun c_15 => ?_)
        · skip
          refine r_iload_n rfl dc_1_32_24 ?_
          refine r_bipush (v := nI 9) (by decide) dc_1_32_25 ?_
          refine r_ncne (t := 49) (by omega) (by omega) (by decide) dc_1_32_27 (fun c_27 => ?_) (fun c_27 => ?_)
          · skip
            refine r_aload_n rfl dc_1_32_49 ?_
            refine r_iload_n rfl dc_1_32_50 ?_
            refine h_callv (t := (10, 0, rl [(9, D 6 n_2), (8, D 5 n_2)])) (as := [.int (nI 5)]) (rest := []) (v := .int (sg 32 n_2)) (M1 := hk M T cs) rfl rfl iv_0_v321 (Or.inl rfl) na_1_180 (hAg n_2 (by omega)).1 (hAg n_2 (by omega)).2.1 (show (10 : Nat) < 14 by decide) o_180 rfl (show (0 : Nat) ≤ 8 by decide) dc_1_32_51 (mm_Ev_up (by decide : 1 ≤ 5) (k_shown_5 M T cs sg D n_2 _ _ (hAg n_2 hn_2))) ?_
            refine r_iret rfl dc_1_32_54 ?_
            refine ⟨_, _, io, sg, nf, ny, tp, ⟨mm_Ev_up (by decide) (c_about_5 (hk M T cs) hM io sg nx h4 hnx n_2 hn_2), hV⟩, rfl⟩
          · omega
        · omega
      · skip
        refine h_callv (t := cT e 0) (as := [.int x]) (rest := []) (v := .null) (M1 := hk M T cs) rfl rfl iv_0_v157 (Or.inl rfl) na_1_85 (hF 0 (by decide)) ⟨by omega, by omega⟩ (show (0 : Nat) < 14 by decide) o_85 rfl (show (0 : Nat) ≤ 8 by decide) dc_1_32_2 (mm_Ev_up (by decide : 2 ≤ 5) (k_agAt_no hV x h_2)) ?_
        refine r_astore_nZ (ls' := [(3, .null), (0, .ref 0), (1, .int x), (2, .int (nI 5))]) (by decide) rfl dc_1_32_5 ?_
        refine r_aload_nZ rfl dc_1_32_6 ?_
        refine r_ifnonnullZ dc_1_32_7 ?_
        refine r_iconst (v := -1) (by decide) dc_1_32_10 ?_
        refine r_iret rfl dc_1_32_11 ?_
        refine ⟨_, _, io, sg, nf, ny, tp, ⟨mm_Ev_up (by decide) (c_about_no (hk M T cs) hM io sg _ _ (fun g => h_2 (by rw [← h4]; exact g))), hV⟩, rfl⟩
    · skip
      refine r_aload_n rfl dc_1_32_0 ?_
      refine r_iload_n rfl dc_1_32_1 ?_
      by_cases h_2 : 0 ≤ x ∧ x < nI nx
      · skip
        obtain ⟨n_2, hn_2, e_2⟩ := g_lt h_2 (by omega)
        subst e_2
        refine h_callv (t := cT e 0) (as := [.int (nI n_2)]) (rest := []) (v := .ref (D 4 n_2)) (M1 := hk M T cs) rfl rfl iv_0_v157 (Or.inl rfl) na_1_85 (hF 0 (by decide)) ⟨by omega, by omega⟩ (show (0 : Nat) < 14 by decide) o_85 rfl (show (0 : Nat) ≤ 8 by decide) dc_1_32_2 (mm_Ev_up (by decide : 4 ≤ 5) (k_agAt_ok hV n_2 hn_2)) ?_
        refine r_astore_n (ls' := [(3, .ref (D 4 n_2)), (0, .ref 0), (1, .int (nI n_2)), (2, .int (nI 6))]) (by decide) rfl dc_1_32_5 ?_
        refine r_aload_n rfl dc_1_32_6 ?_
        refine r_ifnonnull (t := 12) (by decide) dc_1_32_7 ?_
        refine r_iload_n rfl dc_1_32_12 ?_
        refine r_bipush (v := nI 8) (by decide) dc_1_32_13 ?_
        refine r_ncne (t := 24) (by omega) (by omega) (by decide) dc_1_32_15 (fun c_15 => ?_) (fun c_15 => ?_)
        · skip
          refine r_iload_n rfl dc_1_32_24 ?_
          refine r_bipush (v := nI 9) (by decide) dc_1_32_25 ?_
          refine r_ncne (t := 49) (by omega) (by omega) (by decide) dc_1_32_27 (fun c_27 => ?_) (fun c_27 => ?_)
          · skip
            refine r_aload_n rfl dc_1_32_49 ?_
            refine r_iload_n rfl dc_1_32_50 ?_
            refine h_callv (t := (10, 0, rl [(9, D 6 n_2), (8, D 5 n_2)])) (as := [.int (nI 6)]) (rest := []) (v := .int (sg 33 n_2)) (M1 := hk M T cs) rfl rfl iv_0_v321 (Or.inl rfl) na_1_180 (hAg n_2 (by omega)).1 (hAg n_2 (by omega)).2.1 (show (10 : Nat) < 14 by decide) o_180 rfl (show (0 : Nat) ≤ 8 by decide) dc_1_32_51 (mm_Ev_up (by decide : 1 ≤ 5) (k_shown_6 M T cs sg D n_2 _ _ (hAg n_2 hn_2))) ?_
            refine r_iret rfl dc_1_32_54 ?_
            refine ⟨_, _, io, sg, nf, ny, tp, ⟨mm_Ev_up (by decide) (c_about_6 (hk M T cs) hM io sg nx h4 hnx n_2 hn_2), hV⟩, rfl⟩
          · omega
        · omega
      · skip
        refine h_callv (t := cT e 0) (as := [.int x]) (rest := []) (v := .null) (M1 := hk M T cs) rfl rfl iv_0_v157 (Or.inl rfl) na_1_85 (hF 0 (by decide)) ⟨by omega, by omega⟩ (show (0 : Nat) < 14 by decide) o_85 rfl (show (0 : Nat) ≤ 8 by decide) dc_1_32_2 (mm_Ev_up (by decide : 2 ≤ 5) (k_agAt_no hV x h_2)) ?_
        refine r_astore_nZ (ls' := [(3, .null), (0, .ref 0), (1, .int x), (2, .int (nI 6))]) (by decide) rfl dc_1_32_5 ?_
        refine r_aload_nZ rfl dc_1_32_6 ?_
        refine r_ifnonnullZ dc_1_32_7 ?_
        refine r_iconst (v := -1) (by decide) dc_1_32_10 ?_
        refine r_iret rfl dc_1_32_11 ?_
        refine ⟨_, _, io, sg, nf, ny, tp, ⟨mm_Ev_up (by decide) (c_about_no (hk M T cs) hM io sg _ _ (fun g => h_2 (by rw [← h4]; exact g))), hV⟩, rfl⟩
    · skip
      refine r_aload_n rfl dc_1_32_0 ?_
      refine r_iload_n rfl dc_1_32_1 ?_
      by_cases h_2 : 0 ≤ x ∧ x < nI nx
      · skip
        obtain ⟨n_2, hn_2, e_2⟩ := g_lt h_2 (by omega)
        subst e_2
        refine h_callv (t := cT e 0) (as := [.int (nI n_2)]) (rest := []) (v := .ref (D 4 n_2)) (M1 := hk M T cs) rfl rfl iv_0_v157 (Or.inl rfl) na_1_85 (hF 0 (by decide)) ⟨by omega, by omega⟩ (show (0 : Nat) < 14 by decide) o_85 rfl (show (0 : Nat) ≤ 8 by decide) dc_1_32_2 (mm_Ev_up (by decide : 4 ≤ 5) (k_agAt_ok hV n_2 hn_2)) ?_
        refine r_astore_n (ls' := [(3, .ref (D 4 n_2)), (0, .ref 0), (1, .int (nI n_2)), (2, .int (nI 7))]) (by decide) rfl dc_1_32_5 ?_
        refine r_aload_n rfl dc_1_32_6 ?_
        refine r_ifnonnull (t := 12) (by decide) dc_1_32_7 ?_
        refine r_iload_n rfl dc_1_32_12 ?_
        refine r_bipush (v := nI 8) (by decide) dc_1_32_13 ?_
        refine r_ncne (t := 24) (by omega) (by omega) (by decide) dc_1_32_15 (fun c_15 => ?_) (fun c_15 => ?_)
        · skip
          refine r_iload_n rfl dc_1_32_24 ?_
          refine r_bipush (v := nI 9) (by decide) dc_1_32_25 ?_
          refine r_ncne (t := 49) (by omega) (by omega) (by decide) dc_1_32_27 (fun c_27 => ?_) (fun c_27 => ?_)
          · skip
            refine r_aload_n rfl dc_1_32_49 ?_
            refine r_iload_n rfl dc_1_32_50 ?_
            refine h_callv (t := (10, 0, rl [(9, D 6 n_2), (8, D 5 n_2)])) (as := [.int (nI 7)]) (rest := []) (v := .int (sg 34 n_2)) (M1 := hk M T cs) rfl rfl iv_0_v321 (Or.inl rfl) na_1_180 (hAg n_2 (by omega)).1 (hAg n_2 (by omega)).2.1 (show (10 : Nat) < 14 by decide) o_180 rfl (show (0 : Nat) ≤ 8 by decide) dc_1_32_51 (mm_Ev_up (by decide : 1 ≤ 5) (k_shown_7 M T cs sg D n_2 _ _ (hAg n_2 hn_2))) ?_
            refine r_iret rfl dc_1_32_54 ?_
            refine ⟨_, _, io, sg, nf, ny, tp, ⟨mm_Ev_up (by decide) (c_about_7 (hk M T cs) hM io sg nx h4 hnx n_2 hn_2), hV⟩, rfl⟩
          · omega
        · omega
      · skip
        refine h_callv (t := cT e 0) (as := [.int x]) (rest := []) (v := .null) (M1 := hk M T cs) rfl rfl iv_0_v157 (Or.inl rfl) na_1_85 (hF 0 (by decide)) ⟨by omega, by omega⟩ (show (0 : Nat) < 14 by decide) o_85 rfl (show (0 : Nat) ≤ 8 by decide) dc_1_32_2 (mm_Ev_up (by decide : 2 ≤ 5) (k_agAt_no hV x h_2)) ?_
        refine r_astore_nZ (ls' := [(3, .null), (0, .ref 0), (1, .int x), (2, .int (nI 7))]) (by decide) rfl dc_1_32_5 ?_
        refine r_aload_nZ rfl dc_1_32_6 ?_
        refine r_ifnonnullZ dc_1_32_7 ?_
        refine r_iconst (v := -1) (by decide) dc_1_32_10 ?_
        refine r_iret rfl dc_1_32_11 ?_
        refine ⟨_, _, io, sg, nf, ny, tp, ⟨mm_Ev_up (by decide) (c_about_no (hk M T cs) hM io sg _ _ (fun g => h_2 (by rw [← h4]; exact g))), hV⟩, rfl⟩
    · skip
      refine r_aload_n rfl dc_1_32_0 ?_
      refine r_iload_n rfl dc_1_32_1 ?_
      by_cases h_2 : 0 ≤ x ∧ x < nI nx
      · skip
        obtain ⟨n_2, hn_2, e_2⟩ := g_lt h_2 (by omega)
        subst e_2
        refine h_callv (t := cT e 0) (as := [.int (nI n_2)]) (rest := []) (v := .ref (D 4 n_2)) (M1 := hk M T cs) rfl rfl iv_0_v157 (Or.inl rfl) na_1_85 (hF 0 (by decide)) ⟨by omega, by omega⟩ (show (0 : Nat) < 14 by decide) o_85 rfl (show (0 : Nat) ≤ 8 by decide) dc_1_32_2 (mm_Ev_up (by decide : 4 ≤ 5) (k_agAt_ok hV n_2 hn_2)) ?_
        refine r_astore_n (ls' := [(3, .ref (D 4 n_2)), (0, .ref 0), (1, .int (nI n_2)), (2, .int (nI 8))]) (by decide) rfl dc_1_32_5 ?_
        refine r_aload_n rfl dc_1_32_6 ?_
        refine r_ifnonnull (t := 12) (by decide) dc_1_32_7 ?_
        refine r_iload_n rfl dc_1_32_12 ?_
        refine r_bipush (v := nI 8) (by decide) dc_1_32_13 ?_
        refine r_ncne (t := 24) (by omega) (by omega) (by decide) dc_1_32_15 (fun c_15 => ?_) (fun c_15 => ?_)
        · omega
        · skip
          refine r_aload_n rfl dc_1_32_18 ?_
          refine r_iload_n rfl dc_1_32_19 ?_
          refine h_callv (t := cT e 0) (as := [.int (nI n_2)]) (rest := []) (v := .int (sp_pby sg ns (nI n_2))) (M1 := hk M T cs) rfl rfl iv_0_v315 (Or.inl rfl) na_1_179 (hF 0 (by decide)) ⟨by omega, by omega⟩ (show (0 : Nat) < 14 by decide) o_179 rfl (show (0 : Nat) ≤ 8 by decide) dc_1_32_20 (mm_Ev_up (by decide : 4 ≤ 5) (k_plBy hV (nI n_2))) ?_
          refine r_iret rfl dc_1_32_23 ?_
          refine ⟨_, _, io, sg, nf, ny, tp, ⟨mm_Ev_up (by decide) (c_about_8 (hk M T cs) hM io sg ns h5 hns nx h4 hnx n_2 hn_2), hV⟩, rfl⟩
      · skip
        refine h_callv (t := cT e 0) (as := [.int x]) (rest := []) (v := .null) (M1 := hk M T cs) rfl rfl iv_0_v157 (Or.inl rfl) na_1_85 (hF 0 (by decide)) ⟨by omega, by omega⟩ (show (0 : Nat) < 14 by decide) o_85 rfl (show (0 : Nat) ≤ 8 by decide) dc_1_32_2 (mm_Ev_up (by decide : 2 ≤ 5) (k_agAt_no hV x h_2)) ?_
        refine r_astore_nZ (ls' := [(3, .null), (0, .ref 0), (1, .int x), (2, .int (nI 8))]) (by decide) rfl dc_1_32_5 ?_
        refine r_aload_nZ rfl dc_1_32_6 ?_
        refine r_ifnonnullZ dc_1_32_7 ?_
        refine r_iconst (v := -1) (by decide) dc_1_32_10 ?_
        refine r_iret rfl dc_1_32_11 ?_
        refine ⟨_, _, io, sg, nf, ny, tp, ⟨mm_Ev_up (by decide) (c_about_no (hk M T cs) hM io sg _ _ (fun g => h_2 (by rw [← h4]; exact g))), hV⟩, rfl⟩
    · skip
      refine r_aload_n rfl dc_1_32_0 ?_
      refine r_iload_n rfl dc_1_32_1 ?_
      by_cases h_2 : 0 ≤ x ∧ x < nI nx
      · skip
        obtain ⟨n_2, hn_2, e_2⟩ := g_lt h_2 (by omega)
        subst e_2
        refine h_callv (t := cT e 0) (as := [.int (nI n_2)]) (rest := []) (v := .ref (D 4 n_2)) (M1 := hk M T cs) rfl rfl iv_0_v157 (Or.inl rfl) na_1_85 (hF 0 (by decide)) ⟨by omega, by omega⟩ (show (0 : Nat) < 14 by decide) o_85 rfl (show (0 : Nat) ≤ 8 by decide) dc_1_32_2 (mm_Ev_up (by decide : 4 ≤ 5) (k_agAt_ok hV n_2 hn_2)) ?_
        refine r_astore_n (ls' := [(3, .ref (D 4 n_2)), (0, .ref 0), (1, .int (nI n_2)), (2, .int (nI 9))]) (by decide) rfl dc_1_32_5 ?_
        refine r_aload_n rfl dc_1_32_6 ?_
        refine r_ifnonnull (t := 12) (by decide) dc_1_32_7 ?_
        refine r_iload_n rfl dc_1_32_12 ?_
        refine r_bipush (v := nI 8) (by decide) dc_1_32_13 ?_
        refine r_ncne (t := 24) (by omega) (by omega) (by decide) dc_1_32_15 (fun c_15 => ?_) (fun c_15 => ?_)
        · skip
          refine r_iload_n rfl dc_1_32_24 ?_
          refine r_bipush (v := nI 9) (by decide) dc_1_32_25 ?_
          refine r_ncne (t := 49) (by omega) (by omega) (by decide) dc_1_32_27 (fun c_27 => ?_) (fun c_27 => ?_)
          · omega
          · skip
            refine r_aload_n rfl dc_1_32_30 ?_
            refine r_aload_n rfl dc_1_32_31 ?_
            refine h_get (t := cT e 0) (v := .int (io 6)) fx_0_7 (hF 0 (by decide)) ⟨by omega, by omega⟩ (show some (Value.int _) = _ from congrArg (fun z => some (Value.int z)) (hV.2.2.1.1)) dc_1_32_32 ?_
            refine h_callv (t := (10, 0, rl [(9, D 6 n_2), (8, D 5 n_2)])) (as := [.int (io 6)]) (rest := []) (v := .int (sp_inf io sg n_2)) (M1 := hk M T cs) rfl rfl iv_0_v318 (Or.inl rfl) na_1_109 (hAg n_2 (by omega)).1 (hAg n_2 (by omega)).2.1 (show (10 : Nat) < 14 by decide) o_109 rfl (show (0 : Nat) ≤ 8 by decide) dc_1_32_35 (mm_Ev_up (by decide : 2 ≤ 5) (k_inForce M T cs sg D n_2 _ _ (hAg n_2 hn_2) (io 6))) ?_
            refine r_ifeq (t := 45) (by decide) dc_1_32_38 (fun c_38 => ?_) (fun c_38 => ?_)
            · skip
              refine r_iconst (v := nI 0) (by decide) dc_1_32_45 ?_
              refine r_goto (t := 54) (by decide) dc_1_32_46 ?_
              refine r_iret rfl dc_1_32_54 ?_
              have hr := c_about_9 (hk M T cs) hM io sg nx h4 hnx n_2 hn_2
              rw [show sp_inf io sg n_2 = nI 0 from c_38] at hr
              refine ⟨_, _, io, sg, nf, ny, tp, ⟨mm_Ev_up (by decide) (hr), hV⟩, rfl⟩
            · skip
              refine r_iconst (v := nI 1) (by decide) dc_1_32_41 ?_
              refine r_goto (t := 54) (by decide) dc_1_32_42 ?_
              refine r_iret rfl dc_1_32_54 ?_
              have hr := c_about_9 (hk M T cs) hM io sg nx h4 hnx n_2 hn_2
              rw [show sp_inf io sg n_2 = nI 1 from (sp_inf_01 io sg n_2).resolve_left c_38] at hr
              refine ⟨_, _, io, sg, nf, ny, tp, ⟨mm_Ev_up (by decide) (hr), hV⟩, rfl⟩
        · omega
      · skip
        refine h_callv (t := cT e 0) (as := [.int x]) (rest := []) (v := .null) (M1 := hk M T cs) rfl rfl iv_0_v157 (Or.inl rfl) na_1_85 (hF 0 (by decide)) ⟨by omega, by omega⟩ (show (0 : Nat) < 14 by decide) o_85 rfl (show (0 : Nat) ≤ 8 by decide) dc_1_32_2 (mm_Ev_up (by decide : 2 ≤ 5) (k_agAt_no hV x h_2)) ?_
        refine r_astore_nZ (ls' := [(3, .null), (0, .ref 0), (1, .int x), (2, .int (nI 9))]) (by decide) rfl dc_1_32_5 ?_
        refine r_aload_nZ rfl dc_1_32_6 ?_
        refine r_ifnonnullZ dc_1_32_7 ?_
        refine r_iconst (v := -1) (by decide) dc_1_32_10 ?_
        refine r_iret rfl dc_1_32_11 ?_
        refine ⟨_, _, io, sg, nf, ny, tp, ⟨mm_Ev_up (by decide) (c_about_no (hk M T cs) hM io sg _ _ (fun g => h_2 (by rw [← h4]; exact g))), hV⟩, rfl⟩
    · skip
      refine r_aload_n rfl dc_1_32_0 ?_
      refine r_iload_n rfl dc_1_32_1 ?_
      by_cases h_2 : 0 ≤ x ∧ x < nI nx
      · skip
        obtain ⟨n_2, hn_2, e_2⟩ := g_lt h_2 (by omega)
        subst e_2
        refine h_callv (t := cT e 0) (as := [.int (nI n_2)]) (rest := []) (v := .ref (D 4 n_2)) (M1 := hk M T cs) rfl rfl iv_0_v157 (Or.inl rfl) na_1_85 (hF 0 (by decide)) ⟨by omega, by omega⟩ (show (0 : Nat) < 14 by decide) o_85 rfl (show (0 : Nat) ≤ 8 by decide) dc_1_32_2 (mm_Ev_up (by decide : 4 ≤ 5) (k_agAt_ok hV n_2 hn_2)) ?_
        refine r_astore_n (ls' := [(3, .ref (D 4 n_2)), (0, .ref 0), (1, .int (nI n_2)), (2, .int y)]) (by decide) rfl dc_1_32_5 ?_
        refine r_aload_n rfl dc_1_32_6 ?_
        refine r_ifnonnull (t := 12) (by decide) dc_1_32_7 ?_
        refine r_iload_n rfl dc_1_32_12 ?_
        refine r_bipush (v := nI 8) (by decide) dc_1_32_13 ?_
        refine r_icne (t := 24) (by decide) dc_1_32_15 (fun c_15 => ?_) (fun c_15 => ?_)
        · skip
          refine r_iload_n rfl dc_1_32_24 ?_
          refine r_bipush (v := nI 9) (by decide) dc_1_32_25 ?_
          refine r_icne (t := 49) (by decide) dc_1_32_27 (fun c_27 => ?_) (fun c_27 => ?_)
          · skip
            refine r_aload_n rfl dc_1_32_49 ?_
            refine r_iload_n rfl dc_1_32_50 ?_
            refine h_callv (t := (10, 0, rl [(9, D 6 n_2), (8, D 5 n_2)])) (as := [.int y]) (rest := []) (v := .int ((-1))) (M1 := hk M T cs) rfl rfl iv_0_v321 (Or.inl rfl) na_1_180 (hAg n_2 (by omega)).1 (hAg n_2 (by omega)).2.1 (show (10 : Nat) < 14 by decide) o_180 rfl (show (0 : Nat) ≤ 8 by decide) dc_1_32_51 (mm_Ev_up (by decide : 1 ≤ 5) (k_shown_n M T cs sg D n_2 _ _ (hAg n_2 hn_2) y (by omega))) ?_
            refine r_iret rfl dc_1_32_54 ?_
            refine ⟨_, _, io, sg, nf, ny, tp, ⟨mm_Ev_up (by decide) (c_about_n (hk M T cs) hM io sg nx h4 hnx n_2 hn_2 y hw), hV⟩, rfl⟩
          · exact absurd c_27 (out_ne hw (by decide))
        · exact absurd c_15 (out_ne hw (by decide))
      · skip
        refine h_callv (t := cT e 0) (as := [.int x]) (rest := []) (v := .null) (M1 := hk M T cs) rfl rfl iv_0_v157 (Or.inl rfl) na_1_85 (hF 0 (by decide)) ⟨by omega, by omega⟩ (show (0 : Nat) < 14 by decide) o_85 rfl (show (0 : Nat) ≤ 8 by decide) dc_1_32_2 (mm_Ev_up (by decide : 2 ≤ 5) (k_agAt_no hV x h_2)) ?_
        refine r_astore_nZ (ls' := [(3, .null), (0, .ref 0), (1, .int x), (2, .int y)]) (by decide) rfl dc_1_32_5 ?_
        refine r_aload_nZ rfl dc_1_32_6 ?_
        refine r_ifnonnullZ dc_1_32_7 ?_
        refine r_iconst (v := -1) (by decide) dc_1_32_10 ?_
        refine r_iret rfl dc_1_32_11 ?_
        refine ⟨_, _, io, sg, nf, ny, tp, ⟨mm_Ev_up (by decide) (c_about_no (hk M T cs) hM io sg _ _ (fun g => h_2 (by rw [← h4]; exact g))), hV⟩, rfl⟩
  obtain ⟨z9, ⟨v, cs2, io2, sg2, nf2, ny2, tp2, p9, e9⟩, h9⟩ := hq9
  subst e9
  exact ⟨v, cs2, io2, sg2, nf2, ny2, tp2, p9, h9⟩
theorem st_about (x y : Int32) : StpN 178 269 [.int x, .int y] := fun M T cs sg io e D nh nx ns nf ny tp cm w cn wc hV => by
  obtain ⟨v, cs2, io2, sg2, nf2, ny2, tp2, hp, h⟩ := s_about hV x y
  exact ⟨v, cs2, io2, sg2, nf2, ny2, tp2, hp, mm_Ev_up (by decide) h⟩
set_option maxHeartbeats 4000000 in
theorem s_look {M : mH} {T : Nat → mT} {cs sg : Nat → Nat → Int32} {io : Nat → Int32} {e : Nat → Nat} {D : Nat → Nat → Nat} {nh nx ns nf ny tp : Nat} {cm : Nat → Nat} {w : Nat → Nat → Nat} {cn : Nat → Nat} {wc : Nat → Nat → Nat} (hV : CV M T cs io sg e D nh nx ns nf ny tp cm w cn wc) (s y : Int32) : ∃ (v : Value), ∃ (cs2 : Nat → Nat → Int32), ∃ (io2 : Nat → Int32), ∃ (sg2 : Nat → Nat → Int32), ∃ (nf2 : Nat), ∃ (ny2 : Nat), ∃ (tp2 : Nat), (mm_Ev 8 267 [.ref 100, .int s, .int y] (rf_mk (hk M T cs2) io sg) (some v, rf_mk (hk M T cs2) io2 sg2) ∧ CV M T cs2 io2 sg2 e D nh nx ns nf2 ny2 tp2 cm w cn wc) ∧ mm_Ev 6 175 [.ref 0, .int s, .int y] (hk M T cs) ((some v, hk M T cs2)) := by
  have hq9 : ∃ z, (fun r9 => ∃ (v : Value), ∃ (cs2 : Nat → Nat → Int32), ∃ (io2 : Nat → Int32), ∃ (sg2 : Nat → Nat → Int32), ∃ (nf2 : Nat), ∃ (ny2 : Nat), ∃ (tp2 : Nat), (mm_Ev 8 267 [.ref 100, .int s, .int y] (rf_mk (hk M T cs2) io sg) (some v, rf_mk (hk M T cs2) io2 sg2) ∧ CV M T cs2 io2 sg2 e D nh nx ns nf2 ny2 tp2 cm w cn wc) ∧ r9 = ((some v, hk M T cs2))) z ∧ mm_Ev 6 175 [.ref 0, .int s, .int y] (hk M T cs) z := by
    obtain ⟨⟨hM, hMs, hW⟩, hC, hT, hR, hJ⟩ := id hV
    obtain ⟨hF, ⟨hL0, hL1, hL2⟩, hSc, hAg, hSt⟩ := id hC
    obtain ⟨⟨⟨h3, hnh⟩, ⟨h4, hnx⟩, ⟨h5, hns⟩, ⟨h7, hnf⟩, ⟨h6, hny⟩, ⟨h23, htp⟩⟩, hRa, hRb, hRs, hRs2, hRs3, hRx, hCD, hRt, hRt2, hRf⟩ := id hR
    refine r_evQ (by decide +kernel) (show (3 : Nat) ≤ mm_nL 175 by decide +kernel) ?_
    show mm_Ru 5 (0, 4, false, prog_1_method_31_code, some .int) 0 [(0, .ref 0), (1, .int s), (2, .int y)] [] (hk M T cs) (fun r9 => ∃ (v : Value), ∃ (cs2 : Nat → Nat → Int32), ∃ (io2 : Nat → Int32), ∃ (sg2 : Nat → Nat → Int32), ∃ (nf2 : Nat), ∃ (ny2 : Nat), ∃ (tp2 : Nat), (mm_Ev 8 267 [.ref 100, .int s, .int y] (rf_mk (hk M T cs2) io sg) (some v, rf_mk (hk M T cs2) io2 sg2) ∧ CV M T cs2 io2 sg2 e D nh nx ns nf2 ny2 tp2 cm w cn wc) ∧ r9 = ((some v, hk M T cs2)))
    rcases li9 y with rfl | rfl | rfl | rfl | rfl | rfl | rfl | rfl | rfl | rfl | hw
    · skip
      refine r_aload_n rfl dc_1_31_0 ?_
      refine r_iload_n rfl dc_1_31_1 ?_
      by_cases h_2 : 0 ≤ s ∧ s < nI ns
      · skip
        obtain ⟨n_2, hn_2, e_2⟩ := g_lt h_2 (by omega)
        subst e_2
        refine h_callv (t := cT e 0) (as := [.int (nI n_2)]) (rest := []) (v := .ref (D 7 n_2)) (M1 := hk M T cs) rfl rfl iv_0_v180 (Or.inl rfl) na_1_102 (hF 0 (by decide)) ⟨by omega, by omega⟩ (show (0 : Nat) < 14 by decide) o_102 rfl (show (0 : Nat) ≤ 8 by decide) dc_1_31_2 (mm_Ev_up (by decide : 4 ≤ 5) (k_stAt_ok hV n_2 hn_2)) ?_
        refine r_astore_n (ls' := [(3, .ref (D 7 n_2)), (0, .ref 0), (1, .int (nI n_2)), (2, .int (nI 0))]) (by decide) rfl dc_1_31_5 ?_
        refine r_aload_n rfl dc_1_31_6 ?_
        refine r_ifnonnull (t := 12) (by decide) dc_1_31_7 ?_
        have q59 := inN_tN (hRt n_2 hn_2).2.2.2.2.2.2.1 (by decide)
        refine r_iload_n rfl dc_1_31_12 ?_
        refine r_bipush (v := nI 20) (by decide) dc_1_31_13 ?_
        refine r_bipush (v := nI 23) (by decide) dc_1_31_15 ?_
        refine h_callS (as := [.int (nI 0), .int (nI 20), .int (nI 23)]) (rest := []) (v := .int (nI 0)) rfl rfl iv_0_s84 (Or.inl rfl) na_0_13 rfl (show (0 : Nat) ≤ 8 by decide) dc_1_31_17 (mm_Ev_up (by decide : 1 ≤ 5) (by have h9 := k_in (hk M T cs) (nI 0) (nI 20) (nI 23); rw [show sp_in (nI 0) (nI 20) (nI 23) = nI 0 by decide] at h9; exact h9)) ?_
        refine r_ifeq (t := 33) (by decide) dc_1_31_20 (fun c_20 => ?_) (fun c_20 => ?_)
        · skip
          refine r_iload_n rfl dc_1_31_33 ?_
          refine r_bipush (v := nI 10) (by decide) dc_1_31_34 ?_
          refine r_bipush (v := nI 13) (by decide) dc_1_31_36 ?_
          refine h_callS (as := [.int (nI 0), .int (nI 10), .int (nI 13)]) (rest := []) (v := .int (nI 0)) rfl rfl iv_0_s84 (Or.inl rfl) na_0_13 rfl (show (0 : Nat) ≤ 8 by decide) dc_1_31_38 (mm_Ev_up (by decide : 1 ≤ 5) (by have h9 := k_in (hk M T cs) (nI 0) (nI 10) (nI 13); rw [show sp_in (nI 0) (nI 10) (nI 13) = nI 0 by decide] at h9; exact h9)) ?_
          refine r_ifeq (t := 53) (by decide) dc_1_31_41 (fun c_41 => ?_) (fun c_41 => ?_)
          · skip
            refine r_iload_n rfl dc_1_31_53 ?_
            refine r_iconst (v := nI 4) (by decide) dc_1_31_54 ?_
            refine r_ncge (t := 66) (by omega) (by omega) (by decide) dc_1_31_55 (fun c_55 => ?_) (fun c_55 => ?_)
            · omega
            · skip
              refine r_aload_n rfl dc_1_31_58 ?_
              refine r_iload_n rfl dc_1_31_59 ?_
              refine h_callv (t := (11, 0, rl [(6, D 9 n_2), (5, D 8 n_2)])) (as := [.int (nI 0)]) (rest := []) (v := .int (sg 56 n_2)) (M1 := hk M T cs) rfl rfl iv_0_v309 (Or.inl rfl) na_1_176 (hSt n_2 (by omega)).1 (hSt n_2 (by omega)).2.1 (show (11 : Nat) < 14 by decide) o_176 rfl (show (0 : Nat) ≤ 8 by decide) dc_1_31_60 (mm_Ev_up (by decide : 3 ≤ 5) (k_place_0 M T cs sg D n_2 _ (hSt n_2 hn_2) q59.2)) ?_
              refine r_goto (t := 71) (by decide) dc_1_31_63 ?_
              refine r_iret rfl dc_1_31_71 ?_
              refine ⟨_, _, io, sg, nf, ny, tp, ⟨mm_Ev_up (by decide) (c_look_0 (hk M T cs) hM io sg ns h5 hns n_2 hn_2), hV⟩, rfl⟩
          · exact absurd c_41 (by decide)
        · exact absurd c_20 (by decide)
      · skip
        refine h_callv (t := cT e 0) (as := [.int s]) (rest := []) (v := .null) (M1 := hk M T cs) rfl rfl iv_0_v180 (Or.inl rfl) na_1_102 (hF 0 (by decide)) ⟨by omega, by omega⟩ (show (0 : Nat) < 14 by decide) o_102 rfl (show (0 : Nat) ≤ 8 by decide) dc_1_31_2 (mm_Ev_up (by decide : 2 ≤ 5) (k_stAt_no hV s h_2)) ?_
        refine r_astore_nZ (ls' := [(3, .null), (0, .ref 0), (1, .int s), (2, .int (nI 0))]) (by decide) rfl dc_1_31_5 ?_
        refine r_aload_nZ rfl dc_1_31_6 ?_
        refine r_ifnonnullZ dc_1_31_7 ?_
        refine r_iconst (v := -1) (by decide) dc_1_31_10 ?_
        refine r_iret rfl dc_1_31_11 ?_
        refine ⟨_, _, io, sg, nf, ny, tp, ⟨mm_Ev_up (by decide) (c_look_no (hk M T cs) hM io sg _ _ (fun g => h_2 (by rw [← h5]; exact g))), hV⟩, rfl⟩
    · skip
      refine r_aload_n rfl dc_1_31_0 ?_
      refine r_iload_n rfl dc_1_31_1 ?_
      by_cases h_2 : 0 ≤ s ∧ s < nI ns
      · skip
        obtain ⟨n_2, hn_2, e_2⟩ := g_lt h_2 (by omega)
        subst e_2
        refine h_callv (t := cT e 0) (as := [.int (nI n_2)]) (rest := []) (v := .ref (D 7 n_2)) (M1 := hk M T cs) rfl rfl iv_0_v180 (Or.inl rfl) na_1_102 (hF 0 (by decide)) ⟨by omega, by omega⟩ (show (0 : Nat) < 14 by decide) o_102 rfl (show (0 : Nat) ≤ 8 by decide) dc_1_31_2 (mm_Ev_up (by decide : 4 ≤ 5) (k_stAt_ok hV n_2 hn_2)) ?_
        refine r_astore_n (ls' := [(3, .ref (D 7 n_2)), (0, .ref 0), (1, .int (nI n_2)), (2, .int (nI 1))]) (by decide) rfl dc_1_31_5 ?_
        refine r_aload_n rfl dc_1_31_6 ?_
        refine r_ifnonnull (t := 12) (by decide) dc_1_31_7 ?_
        have q59 := inN_tN (hRt n_2 hn_2).2.2.2.2.2.2.1 (by decide)
        refine r_iload_n rfl dc_1_31_12 ?_
        refine r_bipush (v := nI 20) (by decide) dc_1_31_13 ?_
        refine r_bipush (v := nI 23) (by decide) dc_1_31_15 ?_
        refine h_callS (as := [.int (nI 1), .int (nI 20), .int (nI 23)]) (rest := []) (v := .int (nI 0)) rfl rfl iv_0_s84 (Or.inl rfl) na_0_13 rfl (show (0 : Nat) ≤ 8 by decide) dc_1_31_17 (mm_Ev_up (by decide : 1 ≤ 5) (by have h9 := k_in (hk M T cs) (nI 1) (nI 20) (nI 23); rw [show sp_in (nI 1) (nI 20) (nI 23) = nI 0 by decide] at h9; exact h9)) ?_
        refine r_ifeq (t := 33) (by decide) dc_1_31_20 (fun c_20 => ?_) (fun c_20 => ?_)
        · skip
          refine r_iload_n rfl dc_1_31_33 ?_
          refine r_bipush (v := nI 10) (by decide) dc_1_31_34 ?_
          refine r_bipush (v := nI 13) (by decide) dc_1_31_36 ?_
          refine h_callS (as := [.int (nI 1), .int (nI 10), .int (nI 13)]) (rest := []) (v := .int (nI 0)) rfl rfl iv_0_s84 (Or.inl rfl) na_0_13 rfl (show (0 : Nat) ≤ 8 by decide) dc_1_31_38 (mm_Ev_up (by decide : 1 ≤ 5) (by have h9 := k_in (hk M T cs) (nI 1) (nI 10) (nI 13); rw [show sp_in (nI 1) (nI 10) (nI 13) = nI 0 by decide] at h9; exact h9)) ?_
          refine r_ifeq (t := 53) (by decide) dc_1_31_41 (fun c_41 => ?_) (fun c_41 => ?_)
          · skip
            refine r_iload_n rfl dc_1_31_53 ?_
            refine r_iconst (v := nI 4) (by decide) dc_1_31_54 ?_
            refine r_ncge (t := 66) (by omega) (by omega) (by decide) dc_1_31_55 (fun c_55 => ?_) (fun c_55 => ?_)
            · omega
            · skip
              refine r_aload_n rfl dc_1_31_58 ?_
              refine r_iload_n rfl dc_1_31_59 ?_
              refine h_callv (t := (11, 0, rl [(6, D 9 n_2), (5, D 8 n_2)])) (as := [.int (nI 1)]) (rest := []) (v := .int (hst sg n_2)) (M1 := hk M T cs) rfl rfl iv_0_v309 (Or.inl rfl) na_1_176 (hSt n_2 (by omega)).1 (hSt n_2 (by omega)).2.1 (show (11 : Nat) < 14 by decide) o_176 rfl (show (0 : Nat) ≤ 8 by decide) dc_1_31_60 (mm_Ev_up (by decide : 3 ≤ 5) (k_place_1 M T cs sg D n_2 _ (hSt n_2 hn_2) q59.2)) ?_
              refine r_goto (t := 71) (by decide) dc_1_31_63 ?_
              refine r_iret rfl dc_1_31_71 ?_
              refine ⟨_, _, io, sg, nf, ny, tp, ⟨mm_Ev_up (by decide) (c_look_1 (hk M T cs) hM io sg ns h5 hns n_2 hn_2), hV⟩, rfl⟩
          · exact absurd c_41 (by decide)
        · exact absurd c_20 (by decide)
      · skip
        refine h_callv (t := cT e 0) (as := [.int s]) (rest := []) (v := .null) (M1 := hk M T cs) rfl rfl iv_0_v180 (Or.inl rfl) na_1_102 (hF 0 (by decide)) ⟨by omega, by omega⟩ (show (0 : Nat) < 14 by decide) o_102 rfl (show (0 : Nat) ≤ 8 by decide) dc_1_31_2 (mm_Ev_up (by decide : 2 ≤ 5) (k_stAt_no hV s h_2)) ?_
        refine r_astore_nZ (ls' := [(3, .null), (0, .ref 0), (1, .int s), (2, .int (nI 1))]) (by decide) rfl dc_1_31_5 ?_
        refine r_aload_nZ rfl dc_1_31_6 ?_
        refine r_ifnonnullZ dc_1_31_7 ?_
        refine r_iconst (v := -1) (by decide) dc_1_31_10 ?_
        refine r_iret rfl dc_1_31_11 ?_
        refine ⟨_, _, io, sg, nf, ny, tp, ⟨mm_Ev_up (by decide) (c_look_no (hk M T cs) hM io sg _ _ (fun g => h_2 (by rw [← h5]; exact g))), hV⟩, rfl⟩
    · skip
      refine r_aload_n rfl dc_1_31_0 ?_
      refine r_iload_n rfl dc_1_31_1 ?_
      by_cases h_2 : 0 ≤ s ∧ s < nI ns
      · skip
        obtain ⟨n_2, hn_2, e_2⟩ := g_lt h_2 (by omega)
        subst e_2
        refine h_callv (t := cT e 0) (as := [.int (nI n_2)]) (rest := []) (v := .ref (D 7 n_2)) (M1 := hk M T cs) rfl rfl iv_0_v180 (Or.inl rfl) na_1_102 (hF 0 (by decide)) ⟨by omega, by omega⟩ (show (0 : Nat) < 14 by decide) o_102 rfl (show (0 : Nat) ≤ 8 by decide) dc_1_31_2 (mm_Ev_up (by decide : 4 ≤ 5) (k_stAt_ok hV n_2 hn_2)) ?_
        refine r_astore_n (ls' := [(3, .ref (D 7 n_2)), (0, .ref 0), (1, .int (nI n_2)), (2, .int (nI 2))]) (by decide) rfl dc_1_31_5 ?_
        refine r_aload_n rfl dc_1_31_6 ?_
        refine r_ifnonnull (t := 12) (by decide) dc_1_31_7 ?_
        have q59 := inN_tN (hRt n_2 hn_2).2.2.2.2.2.2.1 (by decide)
        refine r_iload_n rfl dc_1_31_12 ?_
        refine r_bipush (v := nI 20) (by decide) dc_1_31_13 ?_
        refine r_bipush (v := nI 23) (by decide) dc_1_31_15 ?_
        refine h_callS (as := [.int (nI 2), .int (nI 20), .int (nI 23)]) (rest := []) (v := .int (nI 0)) rfl rfl iv_0_s84 (Or.inl rfl) na_0_13 rfl (show (0 : Nat) ≤ 8 by decide) dc_1_31_17 (mm_Ev_up (by decide : 1 ≤ 5) (by have h9 := k_in (hk M T cs) (nI 2) (nI 20) (nI 23); rw [show sp_in (nI 2) (nI 20) (nI 23) = nI 0 by decide] at h9; exact h9)) ?_
        refine r_ifeq (t := 33) (by decide) dc_1_31_20 (fun c_20 => ?_) (fun c_20 => ?_)
        · skip
          refine r_iload_n rfl dc_1_31_33 ?_
          refine r_bipush (v := nI 10) (by decide) dc_1_31_34 ?_
          refine r_bipush (v := nI 13) (by decide) dc_1_31_36 ?_
          refine h_callS (as := [.int (nI 2), .int (nI 10), .int (nI 13)]) (rest := []) (v := .int (nI 0)) rfl rfl iv_0_s84 (Or.inl rfl) na_0_13 rfl (show (0 : Nat) ≤ 8 by decide) dc_1_31_38 (mm_Ev_up (by decide : 1 ≤ 5) (by have h9 := k_in (hk M T cs) (nI 2) (nI 10) (nI 13); rw [show sp_in (nI 2) (nI 10) (nI 13) = nI 0 by decide] at h9; exact h9)) ?_
          refine r_ifeq (t := 53) (by decide) dc_1_31_41 (fun c_41 => ?_) (fun c_41 => ?_)
          · skip
            refine r_iload_n rfl dc_1_31_53 ?_
            refine r_iconst (v := nI 4) (by decide) dc_1_31_54 ?_
            refine r_ncge (t := 66) (by omega) (by omega) (by decide) dc_1_31_55 (fun c_55 => ?_) (fun c_55 => ?_)
            · omega
            · skip
              refine r_aload_n rfl dc_1_31_58 ?_
              refine r_iload_n rfl dc_1_31_59 ?_
              refine h_callv (t := (11, 0, rl [(6, D 9 n_2), (5, D 8 n_2)])) (as := [.int (nI 2)]) (rest := []) (v := .int (if sg 56 n_2 = nI 1 then sg 58 n_2 else -1)) (M1 := hk M T cs) rfl rfl iv_0_v309 (Or.inl rfl) na_1_176 (hSt n_2 (by omega)).1 (hSt n_2 (by omega)).2.1 (show (11 : Nat) < 14 by decide) o_176 rfl (show (0 : Nat) ≤ 8 by decide) dc_1_31_60 (mm_Ev_up (by decide : 3 ≤ 5) (k_place_2 M T cs sg D n_2 _ (hSt n_2 hn_2) q59.2)) ?_
              refine r_goto (t := 71) (by decide) dc_1_31_63 ?_
              refine r_iret rfl dc_1_31_71 ?_
              refine ⟨_, _, io, sg, nf, ny, tp, ⟨mm_Ev_up (by decide) (c_look_2 (hk M T cs) hM io sg ns h5 hns n_2 hn_2), hV⟩, rfl⟩
          · exact absurd c_41 (by decide)
        · exact absurd c_20 (by decide)
      · skip
        refine h_callv (t := cT e 0) (as := [.int s]) (rest := []) (v := .null) (M1 := hk M T cs) rfl rfl iv_0_v180 (Or.inl rfl) na_1_102 (hF 0 (by decide)) ⟨by omega, by omega⟩ (show (0 : Nat) < 14 by decide) o_102 rfl (show (0 : Nat) ≤ 8 by decide) dc_1_31_2 (mm_Ev_up (by decide : 2 ≤ 5) (k_stAt_no hV s h_2)) ?_
        refine r_astore_nZ (ls' := [(3, .null), (0, .ref 0), (1, .int s), (2, .int (nI 2))]) (by decide) rfl dc_1_31_5 ?_
        refine r_aload_nZ rfl dc_1_31_6 ?_
        refine r_ifnonnullZ dc_1_31_7 ?_
        refine r_iconst (v := -1) (by decide) dc_1_31_10 ?_
        refine r_iret rfl dc_1_31_11 ?_
        refine ⟨_, _, io, sg, nf, ny, tp, ⟨mm_Ev_up (by decide) (c_look_no (hk M T cs) hM io sg _ _ (fun g => h_2 (by rw [← h5]; exact g))), hV⟩, rfl⟩
    · skip
      refine r_aload_n rfl dc_1_31_0 ?_
      refine r_iload_n rfl dc_1_31_1 ?_
      by_cases h_2 : 0 ≤ s ∧ s < nI ns
      · skip
        obtain ⟨n_2, hn_2, e_2⟩ := g_lt h_2 (by omega)
        subst e_2
        refine h_callv (t := cT e 0) (as := [.int (nI n_2)]) (rest := []) (v := .ref (D 7 n_2)) (M1 := hk M T cs) rfl rfl iv_0_v180 (Or.inl rfl) na_1_102 (hF 0 (by decide)) ⟨by omega, by omega⟩ (show (0 : Nat) < 14 by decide) o_102 rfl (show (0 : Nat) ≤ 8 by decide) dc_1_31_2 (mm_Ev_up (by decide : 4 ≤ 5) (k_stAt_ok hV n_2 hn_2)) ?_
        refine r_astore_n (ls' := [(3, .ref (D 7 n_2)), (0, .ref 0), (1, .int (nI n_2)), (2, .int (nI 3))]) (by decide) rfl dc_1_31_5 ?_
        refine r_aload_n rfl dc_1_31_6 ?_
        refine r_ifnonnull (t := 12) (by decide) dc_1_31_7 ?_
        have q59 := inN_tN (hRt n_2 hn_2).2.2.2.2.2.2.1 (by decide)
        refine r_iload_n rfl dc_1_31_12 ?_
        refine r_bipush (v := nI 20) (by decide) dc_1_31_13 ?_
        refine r_bipush (v := nI 23) (by decide) dc_1_31_15 ?_
        refine h_callS (as := [.int (nI 3), .int (nI 20), .int (nI 23)]) (rest := []) (v := .int (nI 0)) rfl rfl iv_0_s84 (Or.inl rfl) na_0_13 rfl (show (0 : Nat) ≤ 8 by decide) dc_1_31_17 (mm_Ev_up (by decide : 1 ≤ 5) (by have h9 := k_in (hk M T cs) (nI 3) (nI 20) (nI 23); rw [show sp_in (nI 3) (nI 20) (nI 23) = nI 0 by decide] at h9; exact h9)) ?_
        refine r_ifeq (t := 33) (by decide) dc_1_31_20 (fun c_20 => ?_) (fun c_20 => ?_)
        · skip
          refine r_iload_n rfl dc_1_31_33 ?_
          refine r_bipush (v := nI 10) (by decide) dc_1_31_34 ?_
          refine r_bipush (v := nI 13) (by decide) dc_1_31_36 ?_
          refine h_callS (as := [.int (nI 3), .int (nI 10), .int (nI 13)]) (rest := []) (v := .int (nI 0)) rfl rfl iv_0_s84 (Or.inl rfl) na_0_13 rfl (show (0 : Nat) ≤ 8 by decide) dc_1_31_38 (mm_Ev_up (by decide : 1 ≤ 5) (by have h9 := k_in (hk M T cs) (nI 3) (nI 10) (nI 13); rw [show sp_in (nI 3) (nI 10) (nI 13) = nI 0 by decide] at h9; exact h9)) ?_
          refine r_ifeq (t := 53) (by decide) dc_1_31_41 (fun c_41 => ?_) (fun c_41 => ?_)
          · skip
            refine r_iload_n rfl dc_1_31_53 ?_
            refine r_iconst (v := nI 4) (by decide) dc_1_31_54 ?_
            refine r_ncge (t := 66) (by omega) (by omega) (by decide) dc_1_31_55 (fun c_55 => ?_) (fun c_55 => ?_)
            · omega
            · skip
              refine r_aload_n rfl dc_1_31_58 ?_
              refine r_iload_n rfl dc_1_31_59 ?_
              refine h_callv (t := (11, 0, rl [(6, D 9 n_2), (5, D 8 n_2)])) (as := [.int (nI 3)]) (rest := []) (v := .int (cs (D 7 n_2) 9)) (M1 := hk M T cs) rfl rfl iv_0_v309 (Or.inl rfl) na_1_176 (hSt n_2 (by omega)).1 (hSt n_2 (by omega)).2.1 (show (11 : Nat) < 14 by decide) o_176 rfl (show (0 : Nat) ≤ 8 by decide) dc_1_31_60 (mm_Ev_up (by decide : 3 ≤ 5) (k_place_3 M T cs sg D n_2 _ (hSt n_2 hn_2) q59.2)) ?_
              refine r_goto (t := 71) (by decide) dc_1_31_63 ?_
              refine r_iret rfl dc_1_31_71 ?_
              have hr := c_look_3 (hk M T cs) hM io sg ns h5 hns n_2 hn_2 _ q59.1 q59.2
              rw [show (if sg 56 n_2 = nI 1 then sp_at (fun j => sg 60 (4 * n_2 + j)) (sg 57 n_2) (tN (sg 59 n_2)) else -1) = cs (D 7 n_2) 9 from ?_] at hr
              refine ⟨_, _, io, sg, nf, ny, tp, ⟨mm_Ev_up (by decide) (hr), hV⟩, rfl⟩
              by_cases z : sg 56 n_2 = nI 1
              · obtain ⟨v, v1, v2, v3⟩ := (hSt n_2 hn_2).2.2.2.2.2.2.1 z
                rw [if_pos z, v2]
                exact sv_at (f := fun j => sg 60 (4 * n_2 + j)) (by omega) v1 v3 (fun j k h1 h2 => (hRt n_2 hn_2).2.2.2.2.2.2.2.2.1 j k h1 h2)
              · rw [if_neg z, (hSt n_2 hn_2).2.2.2.2.2.2.2 z]
          · exact absurd c_41 (by decide)
        · exact absurd c_20 (by decide)
      · skip
        refine h_callv (t := cT e 0) (as := [.int s]) (rest := []) (v := .null) (M1 := hk M T cs) rfl rfl iv_0_v180 (Or.inl rfl) na_1_102 (hF 0 (by decide)) ⟨by omega, by omega⟩ (show (0 : Nat) < 14 by decide) o_102 rfl (show (0 : Nat) ≤ 8 by decide) dc_1_31_2 (mm_Ev_up (by decide : 2 ≤ 5) (k_stAt_no hV s h_2)) ?_
        refine r_astore_nZ (ls' := [(3, .null), (0, .ref 0), (1, .int s), (2, .int (nI 3))]) (by decide) rfl dc_1_31_5 ?_
        refine r_aload_nZ rfl dc_1_31_6 ?_
        refine r_ifnonnullZ dc_1_31_7 ?_
        refine r_iconst (v := -1) (by decide) dc_1_31_10 ?_
        refine r_iret rfl dc_1_31_11 ?_
        refine ⟨_, _, io, sg, nf, ny, tp, ⟨mm_Ev_up (by decide) (c_look_no (hk M T cs) hM io sg _ _ (fun g => h_2 (by rw [← h5]; exact g))), hV⟩, rfl⟩
    · skip
      refine r_aload_n rfl dc_1_31_0 ?_
      refine r_iload_n rfl dc_1_31_1 ?_
      by_cases h_2 : 0 ≤ s ∧ s < nI ns
      · skip
        obtain ⟨n_2, hn_2, e_2⟩ := g_lt h_2 (by omega)
        subst e_2
        refine h_callv (t := cT e 0) (as := [.int (nI n_2)]) (rest := []) (v := .ref (D 7 n_2)) (M1 := hk M T cs) rfl rfl iv_0_v180 (Or.inl rfl) na_1_102 (hF 0 (by decide)) ⟨by omega, by omega⟩ (show (0 : Nat) < 14 by decide) o_102 rfl (show (0 : Nat) ≤ 8 by decide) dc_1_31_2 (mm_Ev_up (by decide : 4 ≤ 5) (k_stAt_ok hV n_2 hn_2)) ?_
        refine r_astore_n (ls' := [(3, .ref (D 7 n_2)), (0, .ref 0), (1, .int (nI n_2)), (2, .int (nI 4))]) (by decide) rfl dc_1_31_5 ?_
        refine r_aload_n rfl dc_1_31_6 ?_
        refine r_ifnonnull (t := 12) (by decide) dc_1_31_7 ?_
        have q59 := inN_tN (hRt n_2 hn_2).2.2.2.2.2.2.1 (by decide)
        refine r_iload_n rfl dc_1_31_12 ?_
        refine r_bipush (v := nI 20) (by decide) dc_1_31_13 ?_
        refine r_bipush (v := nI 23) (by decide) dc_1_31_15 ?_
        refine h_callS (as := [.int (nI 4), .int (nI 20), .int (nI 23)]) (rest := []) (v := .int (nI 0)) rfl rfl iv_0_s84 (Or.inl rfl) na_0_13 rfl (show (0 : Nat) ≤ 8 by decide) dc_1_31_17 (mm_Ev_up (by decide : 1 ≤ 5) (by have h9 := k_in (hk M T cs) (nI 4) (nI 20) (nI 23); rw [show sp_in (nI 4) (nI 20) (nI 23) = nI 0 by decide] at h9; exact h9)) ?_
        refine r_ifeq (t := 33) (by decide) dc_1_31_20 (fun c_20 => ?_) (fun c_20 => ?_)
        · skip
          refine r_iload_n rfl dc_1_31_33 ?_
          refine r_bipush (v := nI 10) (by decide) dc_1_31_34 ?_
          refine r_bipush (v := nI 13) (by decide) dc_1_31_36 ?_
          refine h_callS (as := [.int (nI 4), .int (nI 10), .int (nI 13)]) (rest := []) (v := .int (nI 0)) rfl rfl iv_0_s84 (Or.inl rfl) na_0_13 rfl (show (0 : Nat) ≤ 8 by decide) dc_1_31_38 (mm_Ev_up (by decide : 1 ≤ 5) (by have h9 := k_in (hk M T cs) (nI 4) (nI 10) (nI 13); rw [show sp_in (nI 4) (nI 10) (nI 13) = nI 0 by decide] at h9; exact h9)) ?_
          refine r_ifeq (t := 53) (by decide) dc_1_31_41 (fun c_41 => ?_) (fun c_41 => ?_)
          · skip
            refine r_iload_n rfl dc_1_31_53 ?_
            refine r_iconst (v := nI 4) (by decide) dc_1_31_54 ?_
            refine r_ncge (t := 66) (by omega) (by omega) (by decide) dc_1_31_55 (fun c_55 => ?_) (fun c_55 => ?_)
            · skip
              refine r_aload_n rfl dc_1_31_66 ?_
              refine r_iload_n rfl dc_1_31_67 ?_
              refine h_callv (t := (11, 0, rl [(6, D 9 n_2), (5, D 8 n_2)])) (as := [.int (nI 4)]) (rest := []) (v := .int (sg 51 n_2)) (M1 := hk M T cs) rfl rfl iv_0_v312 (Or.inl rfl) na_1_177 (hSt n_2 (by omega)).1 (hSt n_2 (by omega)).2.1 (show (11 : Nat) < 14 by decide) o_177 rfl (show (0 : Nat) ≤ 8 by decide) dc_1_31_68 (mm_Ev_up (by decide : 1 ≤ 5) (k_self_4 M T cs sg D n_2 _ (hSt n_2 hn_2) q59.2)) ?_
              refine r_iret rfl dc_1_31_71 ?_
              refine ⟨_, _, io, sg, nf, ny, tp, ⟨mm_Ev_up (by decide) (c_look_4 (hk M T cs) hM io sg ns h5 hns n_2 hn_2), hV⟩, rfl⟩
            · omega
          · exact absurd c_41 (by decide)
        · exact absurd c_20 (by decide)
      · skip
        refine h_callv (t := cT e 0) (as := [.int s]) (rest := []) (v := .null) (M1 := hk M T cs) rfl rfl iv_0_v180 (Or.inl rfl) na_1_102 (hF 0 (by decide)) ⟨by omega, by omega⟩ (show (0 : Nat) < 14 by decide) o_102 rfl (show (0 : Nat) ≤ 8 by decide) dc_1_31_2 (mm_Ev_up (by decide : 2 ≤ 5) (k_stAt_no hV s h_2)) ?_
        refine r_astore_nZ (ls' := [(3, .null), (0, .ref 0), (1, .int s), (2, .int (nI 4))]) (by decide) rfl dc_1_31_5 ?_
        refine r_aload_nZ rfl dc_1_31_6 ?_
        refine r_ifnonnullZ dc_1_31_7 ?_
        refine r_iconst (v := -1) (by decide) dc_1_31_10 ?_
        refine r_iret rfl dc_1_31_11 ?_
        refine ⟨_, _, io, sg, nf, ny, tp, ⟨mm_Ev_up (by decide) (c_look_no (hk M T cs) hM io sg _ _ (fun g => h_2 (by rw [← h5]; exact g))), hV⟩, rfl⟩
    · skip
      refine r_aload_n rfl dc_1_31_0 ?_
      refine r_iload_n rfl dc_1_31_1 ?_
      by_cases h_2 : 0 ≤ s ∧ s < nI ns
      · skip
        obtain ⟨n_2, hn_2, e_2⟩ := g_lt h_2 (by omega)
        subst e_2
        refine h_callv (t := cT e 0) (as := [.int (nI n_2)]) (rest := []) (v := .ref (D 7 n_2)) (M1 := hk M T cs) rfl rfl iv_0_v180 (Or.inl rfl) na_1_102 (hF 0 (by decide)) ⟨by omega, by omega⟩ (show (0 : Nat) < 14 by decide) o_102 rfl (show (0 : Nat) ≤ 8 by decide) dc_1_31_2 (mm_Ev_up (by decide : 4 ≤ 5) (k_stAt_ok hV n_2 hn_2)) ?_
        refine r_astore_n (ls' := [(3, .ref (D 7 n_2)), (0, .ref 0), (1, .int (nI n_2)), (2, .int (nI 5))]) (by decide) rfl dc_1_31_5 ?_
        refine r_aload_n rfl dc_1_31_6 ?_
        refine r_ifnonnull (t := 12) (by decide) dc_1_31_7 ?_
        have q59 := inN_tN (hRt n_2 hn_2).2.2.2.2.2.2.1 (by decide)
        refine r_iload_n rfl dc_1_31_12 ?_
        refine r_bipush (v := nI 20) (by decide) dc_1_31_13 ?_
        refine r_bipush (v := nI 23) (by decide) dc_1_31_15 ?_
        refine h_callS (as := [.int (nI 5), .int (nI 20), .int (nI 23)]) (rest := []) (v := .int (nI 0)) rfl rfl iv_0_s84 (Or.inl rfl) na_0_13 rfl (show (0 : Nat) ≤ 8 by decide) dc_1_31_17 (mm_Ev_up (by decide : 1 ≤ 5) (by have h9 := k_in (hk M T cs) (nI 5) (nI 20) (nI 23); rw [show sp_in (nI 5) (nI 20) (nI 23) = nI 0 by decide] at h9; exact h9)) ?_
        refine r_ifeq (t := 33) (by decide) dc_1_31_20 (fun c_20 => ?_) (fun c_20 => ?_)
        · skip
          refine r_iload_n rfl dc_1_31_33 ?_
          refine r_bipush (v := nI 10) (by decide) dc_1_31_34 ?_
          refine r_bipush (v := nI 13) (by decide) dc_1_31_36 ?_
          refine h_callS (as := [.int (nI 5), .int (nI 10), .int (nI 13)]) (rest := []) (v := .int (nI 0)) rfl rfl iv_0_s84 (Or.inl rfl) na_0_13 rfl (show (0 : Nat) ≤ 8 by decide) dc_1_31_38 (mm_Ev_up (by decide : 1 ≤ 5) (by have h9 := k_in (hk M T cs) (nI 5) (nI 10) (nI 13); rw [show sp_in (nI 5) (nI 10) (nI 13) = nI 0 by decide] at h9; exact h9)) ?_
          refine r_ifeq (t := 53) (by decide) dc_1_31_41 (fun c_41 => ?_) (fun c_41 => ?_)
          · skip
            refine r_iload_n rfl dc_1_31_53 ?_
            refine r_iconst (v := nI 4) (by decide) dc_1_31_54 ?_
            refine r_ncge (t := 66) (by omega) (by omega) (by decide) dc_1_31_55 (fun c_55 => ?_) (fun c_55 => ?_)
            · skip
              refine r_aload_n rfl dc_1_31_66 ?_
              refine r_iload_n rfl dc_1_31_67 ?_
              refine h_callv (t := (11, 0, rl [(6, D 9 n_2), (5, D 8 n_2)])) (as := [.int (nI 5)]) (rest := []) (v := .int (sg 52 n_2)) (M1 := hk M T cs) rfl rfl iv_0_v312 (Or.inl rfl) na_1_177 (hSt n_2 (by omega)).1 (hSt n_2 (by omega)).2.1 (show (11 : Nat) < 14 by decide) o_177 rfl (show (0 : Nat) ≤ 8 by decide) dc_1_31_68 (mm_Ev_up (by decide : 1 ≤ 5) (k_self_5 M T cs sg D n_2 _ (hSt n_2 hn_2) q59.2)) ?_
              refine r_iret rfl dc_1_31_71 ?_
              refine ⟨_, _, io, sg, nf, ny, tp, ⟨mm_Ev_up (by decide) (c_look_5 (hk M T cs) hM io sg ns h5 hns n_2 hn_2), hV⟩, rfl⟩
            · omega
          · exact absurd c_41 (by decide)
        · exact absurd c_20 (by decide)
      · skip
        refine h_callv (t := cT e 0) (as := [.int s]) (rest := []) (v := .null) (M1 := hk M T cs) rfl rfl iv_0_v180 (Or.inl rfl) na_1_102 (hF 0 (by decide)) ⟨by omega, by omega⟩ (show (0 : Nat) < 14 by decide) o_102 rfl (show (0 : Nat) ≤ 8 by decide) dc_1_31_2 (mm_Ev_up (by decide : 2 ≤ 5) (k_stAt_no hV s h_2)) ?_
        refine r_astore_nZ (ls' := [(3, .null), (0, .ref 0), (1, .int s), (2, .int (nI 5))]) (by decide) rfl dc_1_31_5 ?_
        refine r_aload_nZ rfl dc_1_31_6 ?_
        refine r_ifnonnullZ dc_1_31_7 ?_
        refine r_iconst (v := -1) (by decide) dc_1_31_10 ?_
        refine r_iret rfl dc_1_31_11 ?_
        refine ⟨_, _, io, sg, nf, ny, tp, ⟨mm_Ev_up (by decide) (c_look_no (hk M T cs) hM io sg _ _ (fun g => h_2 (by rw [← h5]; exact g))), hV⟩, rfl⟩
    · skip
      refine r_aload_n rfl dc_1_31_0 ?_
      refine r_iload_n rfl dc_1_31_1 ?_
      by_cases h_2 : 0 ≤ s ∧ s < nI ns
      · skip
        obtain ⟨n_2, hn_2, e_2⟩ := g_lt h_2 (by omega)
        subst e_2
        refine h_callv (t := cT e 0) (as := [.int (nI n_2)]) (rest := []) (v := .ref (D 7 n_2)) (M1 := hk M T cs) rfl rfl iv_0_v180 (Or.inl rfl) na_1_102 (hF 0 (by decide)) ⟨by omega, by omega⟩ (show (0 : Nat) < 14 by decide) o_102 rfl (show (0 : Nat) ≤ 8 by decide) dc_1_31_2 (mm_Ev_up (by decide : 4 ≤ 5) (k_stAt_ok hV n_2 hn_2)) ?_
        refine r_astore_n (ls' := [(3, .ref (D 7 n_2)), (0, .ref 0), (1, .int (nI n_2)), (2, .int (nI 6))]) (by decide) rfl dc_1_31_5 ?_
        refine r_aload_n rfl dc_1_31_6 ?_
        refine r_ifnonnull (t := 12) (by decide) dc_1_31_7 ?_
        have q59 := inN_tN (hRt n_2 hn_2).2.2.2.2.2.2.1 (by decide)
        refine r_iload_n rfl dc_1_31_12 ?_
        refine r_bipush (v := nI 20) (by decide) dc_1_31_13 ?_
        refine r_bipush (v := nI 23) (by decide) dc_1_31_15 ?_
        refine h_callS (as := [.int (nI 6), .int (nI 20), .int (nI 23)]) (rest := []) (v := .int (nI 0)) rfl rfl iv_0_s84 (Or.inl rfl) na_0_13 rfl (show (0 : Nat) ≤ 8 by decide) dc_1_31_17 (mm_Ev_up (by decide : 1 ≤ 5) (by have h9 := k_in (hk M T cs) (nI 6) (nI 20) (nI 23); rw [show sp_in (nI 6) (nI 20) (nI 23) = nI 0 by decide] at h9; exact h9)) ?_
        refine r_ifeq (t := 33) (by decide) dc_1_31_20 (fun c_20 => ?_) (fun c_20 => ?_)
        · skip
          refine r_iload_n rfl dc_1_31_33 ?_
          refine r_bipush (v := nI 10) (by decide) dc_1_31_34 ?_
          refine r_bipush (v := nI 13) (by decide) dc_1_31_36 ?_
          refine h_callS (as := [.int (nI 6), .int (nI 10), .int (nI 13)]) (rest := []) (v := .int (nI 0)) rfl rfl iv_0_s84 (Or.inl rfl) na_0_13 rfl (show (0 : Nat) ≤ 8 by decide) dc_1_31_38 (mm_Ev_up (by decide : 1 ≤ 5) (by have h9 := k_in (hk M T cs) (nI 6) (nI 10) (nI 13); rw [show sp_in (nI 6) (nI 10) (nI 13) = nI 0 by decide] at h9; exact h9)) ?_
          refine r_ifeq (t := 53) (by decide) dc_1_31_41 (fun c_41 => ?_) (fun c_41 => ?_)
          · skip
            refine r_iload_n rfl dc_1_31_53 ?_
            refine r_iconst (v := nI 4) (by decide) dc_1_31_54 ?_
            refine r_ncge (t := 66) (by omega) (by omega) (by decide) dc_1_31_55 (fun c_55 => ?_) (fun c_55 => ?_)
            · skip
              refine r_aload_n rfl dc_1_31_66 ?_
              refine r_iload_n rfl dc_1_31_67 ?_
              refine h_callv (t := (11, 0, rl [(6, D 9 n_2), (5, D 8 n_2)])) (as := [.int (nI 6)]) (rest := []) (v := .int (sg 53 n_2)) (M1 := hk M T cs) rfl rfl iv_0_v312 (Or.inl rfl) na_1_177 (hSt n_2 (by omega)).1 (hSt n_2 (by omega)).2.1 (show (11 : Nat) < 14 by decide) o_177 rfl (show (0 : Nat) ≤ 8 by decide) dc_1_31_68 (mm_Ev_up (by decide : 1 ≤ 5) (k_self_6 M T cs sg D n_2 _ (hSt n_2 hn_2) q59.2)) ?_
              refine r_iret rfl dc_1_31_71 ?_
              refine ⟨_, _, io, sg, nf, ny, tp, ⟨mm_Ev_up (by decide) (c_look_6 (hk M T cs) hM io sg ns h5 hns n_2 hn_2), hV⟩, rfl⟩
            · omega
          · exact absurd c_41 (by decide)
        · exact absurd c_20 (by decide)
      · skip
        refine h_callv (t := cT e 0) (as := [.int s]) (rest := []) (v := .null) (M1 := hk M T cs) rfl rfl iv_0_v180 (Or.inl rfl) na_1_102 (hF 0 (by decide)) ⟨by omega, by omega⟩ (show (0 : Nat) < 14 by decide) o_102 rfl (show (0 : Nat) ≤ 8 by decide) dc_1_31_2 (mm_Ev_up (by decide : 2 ≤ 5) (k_stAt_no hV s h_2)) ?_
        refine r_astore_nZ (ls' := [(3, .null), (0, .ref 0), (1, .int s), (2, .int (nI 6))]) (by decide) rfl dc_1_31_5 ?_
        refine r_aload_nZ rfl dc_1_31_6 ?_
        refine r_ifnonnullZ dc_1_31_7 ?_
        refine r_iconst (v := -1) (by decide) dc_1_31_10 ?_
        refine r_iret rfl dc_1_31_11 ?_
        refine ⟨_, _, io, sg, nf, ny, tp, ⟨mm_Ev_up (by decide) (c_look_no (hk M T cs) hM io sg _ _ (fun g => h_2 (by rw [← h5]; exact g))), hV⟩, rfl⟩
    · skip
      refine r_aload_n rfl dc_1_31_0 ?_
      refine r_iload_n rfl dc_1_31_1 ?_
      by_cases h_2 : 0 ≤ s ∧ s < nI ns
      · skip
        obtain ⟨n_2, hn_2, e_2⟩ := g_lt h_2 (by omega)
        subst e_2
        refine h_callv (t := cT e 0) (as := [.int (nI n_2)]) (rest := []) (v := .ref (D 7 n_2)) (M1 := hk M T cs) rfl rfl iv_0_v180 (Or.inl rfl) na_1_102 (hF 0 (by decide)) ⟨by omega, by omega⟩ (show (0 : Nat) < 14 by decide) o_102 rfl (show (0 : Nat) ≤ 8 by decide) dc_1_31_2 (mm_Ev_up (by decide : 4 ≤ 5) (k_stAt_ok hV n_2 hn_2)) ?_
        refine r_astore_n (ls' := [(3, .ref (D 7 n_2)), (0, .ref 0), (1, .int (nI n_2)), (2, .int (nI 7))]) (by decide) rfl dc_1_31_5 ?_
        refine r_aload_n rfl dc_1_31_6 ?_
        refine r_ifnonnull (t := 12) (by decide) dc_1_31_7 ?_
        have q59 := inN_tN (hRt n_2 hn_2).2.2.2.2.2.2.1 (by decide)
        refine r_iload_n rfl dc_1_31_12 ?_
        refine r_bipush (v := nI 20) (by decide) dc_1_31_13 ?_
        refine r_bipush (v := nI 23) (by decide) dc_1_31_15 ?_
        refine h_callS (as := [.int (nI 7), .int (nI 20), .int (nI 23)]) (rest := []) (v := .int (nI 0)) rfl rfl iv_0_s84 (Or.inl rfl) na_0_13 rfl (show (0 : Nat) ≤ 8 by decide) dc_1_31_17 (mm_Ev_up (by decide : 1 ≤ 5) (by have h9 := k_in (hk M T cs) (nI 7) (nI 20) (nI 23); rw [show sp_in (nI 7) (nI 20) (nI 23) = nI 0 by decide] at h9; exact h9)) ?_
        refine r_ifeq (t := 33) (by decide) dc_1_31_20 (fun c_20 => ?_) (fun c_20 => ?_)
        · skip
          refine r_iload_n rfl dc_1_31_33 ?_
          refine r_bipush (v := nI 10) (by decide) dc_1_31_34 ?_
          refine r_bipush (v := nI 13) (by decide) dc_1_31_36 ?_
          refine h_callS (as := [.int (nI 7), .int (nI 10), .int (nI 13)]) (rest := []) (v := .int (nI 0)) rfl rfl iv_0_s84 (Or.inl rfl) na_0_13 rfl (show (0 : Nat) ≤ 8 by decide) dc_1_31_38 (mm_Ev_up (by decide : 1 ≤ 5) (by have h9 := k_in (hk M T cs) (nI 7) (nI 10) (nI 13); rw [show sp_in (nI 7) (nI 10) (nI 13) = nI 0 by decide] at h9; exact h9)) ?_
          refine r_ifeq (t := 53) (by decide) dc_1_31_41 (fun c_41 => ?_) (fun c_41 => ?_)
          · skip
            refine r_iload_n rfl dc_1_31_53 ?_
            refine r_iconst (v := nI 4) (by decide) dc_1_31_54 ?_
            refine r_ncge (t := 66) (by omega) (by omega) (by decide) dc_1_31_55 (fun c_55 => ?_) (fun c_55 => ?_)
            · skip
              refine r_aload_n rfl dc_1_31_66 ?_
              refine r_iload_n rfl dc_1_31_67 ?_
              refine h_callv (t := (11, 0, rl [(6, D 9 n_2), (5, D 8 n_2)])) (as := [.int (nI 7)]) (rest := []) (v := .int (sg 54 n_2)) (M1 := hk M T cs) rfl rfl iv_0_v312 (Or.inl rfl) na_1_177 (hSt n_2 (by omega)).1 (hSt n_2 (by omega)).2.1 (show (11 : Nat) < 14 by decide) o_177 rfl (show (0 : Nat) ≤ 8 by decide) dc_1_31_68 (mm_Ev_up (by decide : 1 ≤ 5) (k_self_7 M T cs sg D n_2 _ (hSt n_2 hn_2) q59.2)) ?_
              refine r_iret rfl dc_1_31_71 ?_
              refine ⟨_, _, io, sg, nf, ny, tp, ⟨mm_Ev_up (by decide) (c_look_7 (hk M T cs) hM io sg ns h5 hns n_2 hn_2), hV⟩, rfl⟩
            · omega
          · exact absurd c_41 (by decide)
        · exact absurd c_20 (by decide)
      · skip
        refine h_callv (t := cT e 0) (as := [.int s]) (rest := []) (v := .null) (M1 := hk M T cs) rfl rfl iv_0_v180 (Or.inl rfl) na_1_102 (hF 0 (by decide)) ⟨by omega, by omega⟩ (show (0 : Nat) < 14 by decide) o_102 rfl (show (0 : Nat) ≤ 8 by decide) dc_1_31_2 (mm_Ev_up (by decide : 2 ≤ 5) (k_stAt_no hV s h_2)) ?_
        refine r_astore_nZ (ls' := [(3, .null), (0, .ref 0), (1, .int s), (2, .int (nI 7))]) (by decide) rfl dc_1_31_5 ?_
        refine r_aload_nZ rfl dc_1_31_6 ?_
        refine r_ifnonnullZ dc_1_31_7 ?_
        refine r_iconst (v := -1) (by decide) dc_1_31_10 ?_
        refine r_iret rfl dc_1_31_11 ?_
        refine ⟨_, _, io, sg, nf, ny, tp, ⟨mm_Ev_up (by decide) (c_look_no (hk M T cs) hM io sg _ _ (fun g => h_2 (by rw [← h5]; exact g))), hV⟩, rfl⟩
    · skip
      refine r_aload_n rfl dc_1_31_0 ?_
      refine r_iload_n rfl dc_1_31_1 ?_
      by_cases h_2 : 0 ≤ s ∧ s < nI ns
      · skip
        obtain ⟨n_2, hn_2, e_2⟩ := g_lt h_2 (by omega)
        subst e_2
        refine h_callv (t := cT e 0) (as := [.int (nI n_2)]) (rest := []) (v := .ref (D 7 n_2)) (M1 := hk M T cs) rfl rfl iv_0_v180 (Or.inl rfl) na_1_102 (hF 0 (by decide)) ⟨by omega, by omega⟩ (show (0 : Nat) < 14 by decide) o_102 rfl (show (0 : Nat) ≤ 8 by decide) dc_1_31_2 (mm_Ev_up (by decide : 4 ≤ 5) (k_stAt_ok hV n_2 hn_2)) ?_
        refine r_astore_n (ls' := [(3, .ref (D 7 n_2)), (0, .ref 0), (1, .int (nI n_2)), (2, .int (nI 8))]) (by decide) rfl dc_1_31_5 ?_
        refine r_aload_n rfl dc_1_31_6 ?_
        refine r_ifnonnull (t := 12) (by decide) dc_1_31_7 ?_
        have q59 := inN_tN (hRt n_2 hn_2).2.2.2.2.2.2.1 (by decide)
        refine r_iload_n rfl dc_1_31_12 ?_
        refine r_bipush (v := nI 20) (by decide) dc_1_31_13 ?_
        refine r_bipush (v := nI 23) (by decide) dc_1_31_15 ?_
        refine h_callS (as := [.int (nI 8), .int (nI 20), .int (nI 23)]) (rest := []) (v := .int (nI 0)) rfl rfl iv_0_s84 (Or.inl rfl) na_0_13 rfl (show (0 : Nat) ≤ 8 by decide) dc_1_31_17 (mm_Ev_up (by decide : 1 ≤ 5) (by have h9 := k_in (hk M T cs) (nI 8) (nI 20) (nI 23); rw [show sp_in (nI 8) (nI 20) (nI 23) = nI 0 by decide] at h9; exact h9)) ?_
        refine r_ifeq (t := 33) (by decide) dc_1_31_20 (fun c_20 => ?_) (fun c_20 => ?_)
        · skip
          refine r_iload_n rfl dc_1_31_33 ?_
          refine r_bipush (v := nI 10) (by decide) dc_1_31_34 ?_
          refine r_bipush (v := nI 13) (by decide) dc_1_31_36 ?_
          refine h_callS (as := [.int (nI 8), .int (nI 10), .int (nI 13)]) (rest := []) (v := .int (nI 0)) rfl rfl iv_0_s84 (Or.inl rfl) na_0_13 rfl (show (0 : Nat) ≤ 8 by decide) dc_1_31_38 (mm_Ev_up (by decide : 1 ≤ 5) (by have h9 := k_in (hk M T cs) (nI 8) (nI 10) (nI 13); rw [show sp_in (nI 8) (nI 10) (nI 13) = nI 0 by decide] at h9; exact h9)) ?_
          refine r_ifeq (t := 53) (by decide) dc_1_31_41 (fun c_41 => ?_) (fun c_41 => ?_)
          · skip
            refine r_iload_n rfl dc_1_31_53 ?_
            refine r_iconst (v := nI 4) (by decide) dc_1_31_54 ?_
            refine r_ncge (t := 66) (by omega) (by omega) (by decide) dc_1_31_55 (fun c_55 => ?_) (fun c_55 => ?_)
            · skip
              refine r_aload_n rfl dc_1_31_66 ?_
              refine r_iload_n rfl dc_1_31_67 ?_
              refine h_callv (t := (11, 0, rl [(6, D 9 n_2), (5, D 8 n_2)])) (as := [.int (nI 8)]) (rest := []) (v := .int (sg 55 n_2)) (M1 := hk M T cs) rfl rfl iv_0_v312 (Or.inl rfl) na_1_177 (hSt n_2 (by omega)).1 (hSt n_2 (by omega)).2.1 (show (11 : Nat) < 14 by decide) o_177 rfl (show (0 : Nat) ≤ 8 by decide) dc_1_31_68 (mm_Ev_up (by decide : 1 ≤ 5) (k_self_8 M T cs sg D n_2 _ (hSt n_2 hn_2) q59.2)) ?_
              refine r_iret rfl dc_1_31_71 ?_
              refine ⟨_, _, io, sg, nf, ny, tp, ⟨mm_Ev_up (by decide) (c_look_8 (hk M T cs) hM io sg ns h5 hns n_2 hn_2), hV⟩, rfl⟩
            · omega
          · exact absurd c_41 (by decide)
        · exact absurd c_20 (by decide)
      · skip
        refine h_callv (t := cT e 0) (as := [.int s]) (rest := []) (v := .null) (M1 := hk M T cs) rfl rfl iv_0_v180 (Or.inl rfl) na_1_102 (hF 0 (by decide)) ⟨by omega, by omega⟩ (show (0 : Nat) < 14 by decide) o_102 rfl (show (0 : Nat) ≤ 8 by decide) dc_1_31_2 (mm_Ev_up (by decide : 2 ≤ 5) (k_stAt_no hV s h_2)) ?_
        refine r_astore_nZ (ls' := [(3, .null), (0, .ref 0), (1, .int s), (2, .int (nI 8))]) (by decide) rfl dc_1_31_5 ?_
        refine r_aload_nZ rfl dc_1_31_6 ?_
        refine r_ifnonnullZ dc_1_31_7 ?_
        refine r_iconst (v := -1) (by decide) dc_1_31_10 ?_
        refine r_iret rfl dc_1_31_11 ?_
        refine ⟨_, _, io, sg, nf, ny, tp, ⟨mm_Ev_up (by decide) (c_look_no (hk M T cs) hM io sg _ _ (fun g => h_2 (by rw [← h5]; exact g))), hV⟩, rfl⟩
    · skip
      refine r_aload_n rfl dc_1_31_0 ?_
      refine r_iload_n rfl dc_1_31_1 ?_
      by_cases h_2 : 0 ≤ s ∧ s < nI ns
      · skip
        obtain ⟨n_2, hn_2, e_2⟩ := g_lt h_2 (by omega)
        subst e_2
        refine h_callv (t := cT e 0) (as := [.int (nI n_2)]) (rest := []) (v := .ref (D 7 n_2)) (M1 := hk M T cs) rfl rfl iv_0_v180 (Or.inl rfl) na_1_102 (hF 0 (by decide)) ⟨by omega, by omega⟩ (show (0 : Nat) < 14 by decide) o_102 rfl (show (0 : Nat) ≤ 8 by decide) dc_1_31_2 (mm_Ev_up (by decide : 4 ≤ 5) (k_stAt_ok hV n_2 hn_2)) ?_
        refine r_astore_n (ls' := [(3, .ref (D 7 n_2)), (0, .ref 0), (1, .int (nI n_2)), (2, .int (nI 9))]) (by decide) rfl dc_1_31_5 ?_
        refine r_aload_n rfl dc_1_31_6 ?_
        refine r_ifnonnull (t := 12) (by decide) dc_1_31_7 ?_
        have q59 := inN_tN (hRt n_2 hn_2).2.2.2.2.2.2.1 (by decide)
        refine r_iload_n rfl dc_1_31_12 ?_
        refine r_bipush (v := nI 20) (by decide) dc_1_31_13 ?_
        refine r_bipush (v := nI 23) (by decide) dc_1_31_15 ?_
        refine h_callS (as := [.int (nI 9), .int (nI 20), .int (nI 23)]) (rest := []) (v := .int (nI 0)) rfl rfl iv_0_s84 (Or.inl rfl) na_0_13 rfl (show (0 : Nat) ≤ 8 by decide) dc_1_31_17 (mm_Ev_up (by decide : 1 ≤ 5) (by have h9 := k_in (hk M T cs) (nI 9) (nI 20) (nI 23); rw [show sp_in (nI 9) (nI 20) (nI 23) = nI 0 by decide] at h9; exact h9)) ?_
        refine r_ifeq (t := 33) (by decide) dc_1_31_20 (fun c_20 => ?_) (fun c_20 => ?_)
        · skip
          refine r_iload_n rfl dc_1_31_33 ?_
          refine r_bipush (v := nI 10) (by decide) dc_1_31_34 ?_
          refine r_bipush (v := nI 13) (by decide) dc_1_31_36 ?_
          refine h_callS (as := [.int (nI 9), .int (nI 10), .int (nI 13)]) (rest := []) (v := .int (nI 0)) rfl rfl iv_0_s84 (Or.inl rfl) na_0_13 rfl (show (0 : Nat) ≤ 8 by decide) dc_1_31_38 (mm_Ev_up (by decide : 1 ≤ 5) (by have h9 := k_in (hk M T cs) (nI 9) (nI 10) (nI 13); rw [show sp_in (nI 9) (nI 10) (nI 13) = nI 0 by decide] at h9; exact h9)) ?_
          refine r_ifeq (t := 53) (by decide) dc_1_31_41 (fun c_41 => ?_) (fun c_41 => ?_)
          · skip
            refine r_iload_n rfl dc_1_31_53 ?_
            refine r_iconst (v := nI 4) (by decide) dc_1_31_54 ?_
            refine r_ncge (t := 66) (by omega) (by omega) (by decide) dc_1_31_55 (fun c_55 => ?_) (fun c_55 => ?_)
            · skip
              refine r_aload_n rfl dc_1_31_66 ?_
              refine r_iload_n rfl dc_1_31_67 ?_
              refine h_callv (t := (11, 0, rl [(6, D 9 n_2), (5, D 8 n_2)])) (as := [.int (nI 9)]) (rest := []) (v := .int (nI (tN (sg 59 n_2)))) (M1 := hk M T cs) rfl rfl iv_0_v312 (Or.inl rfl) na_1_177 (hSt n_2 (by omega)).1 (hSt n_2 (by omega)).2.1 (show (11 : Nat) < 14 by decide) o_177 rfl (show (0 : Nat) ≤ 8 by decide) dc_1_31_68 (mm_Ev_up (by decide : 1 ≤ 5) (k_self_9 M T cs sg D n_2 _ (hSt n_2 hn_2) q59.2)) ?_
              refine r_iret rfl dc_1_31_71 ?_
              have hr := c_look_9 (hk M T cs) hM io sg ns h5 hns n_2 hn_2
              rw [q59.1] at hr
              refine ⟨_, _, io, sg, nf, ny, tp, ⟨mm_Ev_up (by decide) (hr), hV⟩, rfl⟩
            · omega
          · exact absurd c_41 (by decide)
        · exact absurd c_20 (by decide)
      · skip
        refine h_callv (t := cT e 0) (as := [.int s]) (rest := []) (v := .null) (M1 := hk M T cs) rfl rfl iv_0_v180 (Or.inl rfl) na_1_102 (hF 0 (by decide)) ⟨by omega, by omega⟩ (show (0 : Nat) < 14 by decide) o_102 rfl (show (0 : Nat) ≤ 8 by decide) dc_1_31_2 (mm_Ev_up (by decide : 2 ≤ 5) (k_stAt_no hV s h_2)) ?_
        refine r_astore_nZ (ls' := [(3, .null), (0, .ref 0), (1, .int s), (2, .int (nI 9))]) (by decide) rfl dc_1_31_5 ?_
        refine r_aload_nZ rfl dc_1_31_6 ?_
        refine r_ifnonnullZ dc_1_31_7 ?_
        refine r_iconst (v := -1) (by decide) dc_1_31_10 ?_
        refine r_iret rfl dc_1_31_11 ?_
        refine ⟨_, _, io, sg, nf, ny, tp, ⟨mm_Ev_up (by decide) (c_look_no (hk M T cs) hM io sg _ _ (fun g => h_2 (by rw [← h5]; exact g))), hV⟩, rfl⟩
    · skip
      refine r_aload_n rfl dc_1_31_0 ?_
      refine r_iload_n rfl dc_1_31_1 ?_
      by_cases h_2 : 0 ≤ s ∧ s < nI ns
      · skip
        obtain ⟨n_2, hn_2, e_2⟩ := g_lt h_2 (by omega)
        subst e_2
        refine h_callv (t := cT e 0) (as := [.int (nI n_2)]) (rest := []) (v := .ref (D 7 n_2)) (M1 := hk M T cs) rfl rfl iv_0_v180 (Or.inl rfl) na_1_102 (hF 0 (by decide)) ⟨by omega, by omega⟩ (show (0 : Nat) < 14 by decide) o_102 rfl (show (0 : Nat) ≤ 8 by decide) dc_1_31_2 (mm_Ev_up (by decide : 4 ≤ 5) (k_stAt_ok hV n_2 hn_2)) ?_
        refine r_astore_n (ls' := [(3, .ref (D 7 n_2)), (0, .ref 0), (1, .int (nI n_2)), (2, .int y)]) (by decide) rfl dc_1_31_5 ?_
        refine r_aload_n rfl dc_1_31_6 ?_
        refine r_ifnonnull (t := 12) (by decide) dc_1_31_7 ?_
        have q59 := inN_tN (hRt n_2 hn_2).2.2.2.2.2.2.1 (by decide)
        refine r_iload_n rfl dc_1_31_12 ?_
        refine r_bipush (v := nI 20) (by decide) dc_1_31_13 ?_
        refine r_bipush (v := nI 23) (by decide) dc_1_31_15 ?_
        by_cases h_17 : nI 20 ≤ y ∧ y ≤ nI 23
        · skip
          obtain ⟨n_17, hn_17, e_17⟩ := g_nat2 h_17 (by omega) (by omega)
          subst e_17
          obtain ⟨j_17, rfl⟩ : ∃ j, n_17 = 20 + j := ⟨n_17 - 20, by omega⟩
          refine h_callS (as := [.int (nI (20 + j_17)), .int (nI 20), .int (nI 23)]) (rest := []) (v := .int (nI 1)) rfl rfl iv_0_s84 (Or.inl rfl) na_0_13 rfl (show (0 : Nat) ≤ 8 by decide) dc_1_31_17 (mm_Ev_up (by decide : 1 ≤ 5) (by have h9 := k_in (hk M T cs) (nI (20 + j_17)) (nI 20) (nI 23); rw [show sp_in (nI (20 + j_17)) (nI 20) (nI 23) = nI 1 from sp_in_ok (by omega) (by omega) (by omega)] at h9; exact h9)) ?_
          refine r_ifeq (t := 33) (by decide) dc_1_31_20 (fun c_20 => ?_) (fun c_20 => ?_)
          · exact absurd c_20 (by decide)
          · skip
            refine r_aload_n rfl dc_1_31_23 ?_
            refine h_get (t := (11, 0, rl [(6, D 9 n_2), (5, D 8 n_2)])) (v := .ref (D 8 n_2)) fx_0_184 (hSt n_2 (by omega)).1 (hSt n_2 (by omega)).2.1 (rfl) dc_1_31_24 ?_
            refine r_iload_n rfl dc_1_31_27 ?_
            refine r_bipush (v := nI 20) (by decide) dc_1_31_28 ?_
            refine r_isub (v := nI j_17) ((nI_sb (by omega)).trans (congrArg nI (by omega))) dc_1_31_30 ?_
            refine h_ild (n := 4) (e := j_17) (v := sg 61 (4 * n_2 + j_17)) (hSt n_2 (by omega)).2.2.1.1 (hSt n_2 (by omega)).2.2.1.2.1 (show j_17 < 4 by omega) (by omega) ((hSt n_2 hn_2).2.2.2.2.1 j_17 (by omega)) dc_1_31_31 ?_
            refine r_iret rfl dc_1_31_32 ?_
            refine ⟨_, _, io, sg, nf, ny, tp, ⟨mm_Ev_up (by decide) (c_look_t (hk M T cs) hM io sg ns h5 hns n_2 hn_2 _ q59.1 q59.2 j_17 (by omega)), hV⟩, rfl⟩
        · skip
          refine h_callS (as := [.int y, .int (nI 20), .int (nI 23)]) (rest := []) (v := .int (nI 0)) rfl rfl iv_0_s84 (Or.inl rfl) na_0_13 rfl (show (0 : Nat) ≤ 8 by decide) dc_1_31_17 (mm_Ev_up (by decide : 1 ≤ 5) (by have h9 := k_in (hk M T cs) y (nI 20) (nI 23); rw [show sp_in y (nI 20) (nI 23) = nI 0 from if_neg h_17] at h9; exact h9)) ?_
          refine r_ifeq (t := 33) (by decide) dc_1_31_20 (fun c_20 => ?_) (fun c_20 => ?_)
          · skip
            refine r_iload_n rfl dc_1_31_33 ?_
            refine r_bipush (v := nI 10) (by decide) dc_1_31_34 ?_
            refine r_bipush (v := nI 13) (by decide) dc_1_31_36 ?_
            by_cases h_38 : nI 10 ≤ y ∧ y ≤ nI 13
            · skip
              obtain ⟨n_38, hn_38, e_38⟩ := g_nat2 h_38 (by omega) (by omega)
              subst e_38
              obtain ⟨j_38, rfl⟩ : ∃ j, n_38 = 10 + j := ⟨n_38 - 10, by omega⟩
              refine h_callS (as := [.int (nI (10 + j_38)), .int (nI 10), .int (nI 13)]) (rest := []) (v := .int (nI 1)) rfl rfl iv_0_s84 (Or.inl rfl) na_0_13 rfl (show (0 : Nat) ≤ 8 by decide) dc_1_31_38 (mm_Ev_up (by decide : 1 ≤ 5) (by have h9 := k_in (hk M T cs) (nI (10 + j_38)) (nI 10) (nI 13); rw [show sp_in (nI (10 + j_38)) (nI 10) (nI 13) = nI 1 from sp_in_ok (by omega) (by omega) (by omega)] at h9; exact h9)) ?_
              refine r_ifeq (t := 53) (by decide) dc_1_31_41 (fun c_41 => ?_) (fun c_41 => ?_)
              · exact absurd c_41 (by decide)
              · skip
                refine r_aload_n rfl dc_1_31_44 ?_
                refine r_iload_n rfl dc_1_31_45 ?_
                refine r_bipush (v := nI 10) (by decide) dc_1_31_46 ?_
                refine r_isub (v := nI j_38) ((nI_sb (by omega)).trans (congrArg nI (by omega))) dc_1_31_48 ?_
                by_cases h_49 : j_38 < tN (sg 59 n_2)
                · skip
                  refine h_callv (t := (11, 0, rl [(6, D 9 n_2), (5, D 8 n_2)])) (as := [.int (nI j_38)]) (rest := []) (v := .int (sg 60 (4 * n_2 + j_38))) (M1 := hk M T cs) rfl rfl iv_0_v306 (Or.inl rfl) na_1_105 (hSt n_2 (by omega)).1 (hSt n_2 (by omega)).2.1 (show (11 : Nat) < 14 by decide) o_105 rfl (show (0 : Nat) ≤ 8 by decide) dc_1_31_49 (mm_Ev_up (by decide : 1 ≤ 5) (k_wishAt M T cs sg D n_2 _ (hSt n_2 hn_2) q59.2 j_38 h_49)) ?_
                  refine r_iret rfl dc_1_31_52 ?_
                  refine ⟨_, _, io, sg, nf, ny, tp, ⟨mm_Ev_up (by decide) (c_look_w (hk M T cs) hM io sg ns h5 hns n_2 hn_2 _ q59.1 q59.2 j_38 h_49), hV⟩, rfl⟩
                · skip
                  refine h_callv (t := (11, 0, rl [(6, D 9 n_2), (5, D 8 n_2)])) (as := [.int (nI j_38)]) (rest := []) (v := .int ((-1))) (M1 := hk M T cs) rfl rfl iv_0_v306 (Or.inl rfl) na_1_105 (hSt n_2 (by omega)).1 (hSt n_2 (by omega)).2.1 (show (11 : Nat) < 14 by decide) o_105 rfl (show (0 : Nat) ≤ 8 by decide) dc_1_31_49 (mm_Ev_up (by decide : 1 ≤ 5) (k_wishAtH M T cs sg D n_2 _ (hSt n_2 hn_2) q59.2 j_38 (by omega) (by omega))) ?_
                  refine r_iret rfl dc_1_31_52 ?_
                  refine ⟨_, _, io, sg, nf, ny, tp, ⟨mm_Ev_up (by decide) (c_look_n (hk M T cs) hM io sg ns h5 hns n_2 hn_2 _ q59.1 q59.2 _ (nI_out (lo := 0) (hi := 9) (Or.inr (by omega)) (by omega)) ⟨fun g => le_n (by omega) (by omega) (by omega) g.2, fun g => le_n (by omega) (by omega) (by omega) g.1⟩), hV⟩, rfl⟩
            · skip
              refine h_callS (as := [.int y, .int (nI 10), .int (nI 13)]) (rest := []) (v := .int (nI 0)) rfl rfl iv_0_s84 (Or.inl rfl) na_0_13 rfl (show (0 : Nat) ≤ 8 by decide) dc_1_31_38 (mm_Ev_up (by decide : 1 ≤ 5) (by have h9 := k_in (hk M T cs) y (nI 10) (nI 13); rw [show sp_in y (nI 10) (nI 13) = nI 0 from if_neg h_38] at h9; exact h9)) ?_
              refine r_ifeq (t := 53) (by decide) dc_1_31_41 (fun c_41 => ?_) (fun c_41 => ?_)
              · skip
                refine r_iload_n rfl dc_1_31_53 ?_
                refine r_iconst (v := nI 4) (by decide) dc_1_31_54 ?_
                refine r_icge (t := 66) (by decide) dc_1_31_55 (fun c_55 => ?_) (fun c_55 => ?_)
                · skip
                  refine r_aload_n rfl dc_1_31_66 ?_
                  refine r_iload_n rfl dc_1_31_67 ?_
                  refine h_callv (t := (11, 0, rl [(6, D 9 n_2), (5, D 8 n_2)])) (as := [.int y]) (rest := []) (v := .int ((-1))) (M1 := hk M T cs) rfl rfl iv_0_v312 (Or.inl rfl) na_1_177 (hSt n_2 (by omega)).1 (hSt n_2 (by omega)).2.1 (show (11 : Nat) < 14 by decide) o_177 rfl (show (0 : Nat) ≤ 8 by decide) dc_1_31_68 (mm_Ev_up (by decide : 1 ≤ 5) (k_self_n M T cs sg D n_2 _ (hSt n_2 hn_2) q59.2 y (by omega))) ?_
                  refine r_iret rfl dc_1_31_71 ?_
                  refine ⟨_, _, io, sg, nf, ny, tp, ⟨mm_Ev_up (by decide) (c_look_n (hk M T cs) hM io sg ns h5 hns n_2 hn_2 _ q59.1 q59.2 y hw ⟨fun g => h_38 ⟨g.1, Int32.le_trans g.2 (nI_le (by omega) (by omega))⟩, h_17⟩), hV⟩, rfl⟩
                · skip
                  refine r_aload_n rfl dc_1_31_58 ?_
                  refine r_iload_n rfl dc_1_31_59 ?_
                  refine h_callv (t := (11, 0, rl [(6, D 9 n_2), (5, D 8 n_2)])) (as := [.int y]) (rest := []) (v := .int ((-1))) (M1 := hk M T cs) rfl rfl iv_0_v309 (Or.inl rfl) na_1_176 (hSt n_2 (by omega)).1 (hSt n_2 (by omega)).2.1 (show (11 : Nat) < 14 by decide) o_176 rfl (show (0 : Nat) ≤ 8 by decide) dc_1_31_60 (mm_Ev_up (by decide : 1 ≤ 5) (k_place_n M T cs sg D n_2 _ (hSt n_2 hn_2) q59.2 y (by omega))) ?_
                  refine r_goto (t := 71) (by decide) dc_1_31_63 ?_
                  refine r_iret rfl dc_1_31_71 ?_
                  refine ⟨_, _, io, sg, nf, ny, tp, ⟨mm_Ev_up (by decide) (c_look_n (hk M T cs) hM io sg ns h5 hns n_2 hn_2 _ q59.1 q59.2 y hw ⟨fun g => h_38 ⟨g.1, Int32.le_trans g.2 (nI_le (by omega) (by omega))⟩, h_17⟩), hV⟩, rfl⟩
              · exact absurd c_41 (by decide)
          · exact absurd c_20 (by decide)
      · skip
        refine h_callv (t := cT e 0) (as := [.int s]) (rest := []) (v := .null) (M1 := hk M T cs) rfl rfl iv_0_v180 (Or.inl rfl) na_1_102 (hF 0 (by decide)) ⟨by omega, by omega⟩ (show (0 : Nat) < 14 by decide) o_102 rfl (show (0 : Nat) ≤ 8 by decide) dc_1_31_2 (mm_Ev_up (by decide : 2 ≤ 5) (k_stAt_no hV s h_2)) ?_
        refine r_astore_nZ (ls' := [(3, .null), (0, .ref 0), (1, .int s), (2, .int y)]) (by decide) rfl dc_1_31_5 ?_
        refine r_aload_nZ rfl dc_1_31_6 ?_
        refine r_ifnonnullZ dc_1_31_7 ?_
        refine r_iconst (v := -1) (by decide) dc_1_31_10 ?_
        refine r_iret rfl dc_1_31_11 ?_
        refine ⟨_, _, io, sg, nf, ny, tp, ⟨mm_Ev_up (by decide) (c_look_no (hk M T cs) hM io sg _ _ (fun g => h_2 (by rw [← h5]; exact g))), hV⟩, rfl⟩
  obtain ⟨z9, ⟨v, cs2, io2, sg2, nf2, ny2, tp2, p9, e9⟩, h9⟩ := hq9
  subst e9
  exact ⟨v, cs2, io2, sg2, nf2, ny2, tp2, p9, h9⟩
theorem st_look (s y : Int32) : StpN 175 267 [.int s, .int y] := fun M T cs sg io e D nh nx ns nf ny tp cm w cn wc hV => by
  obtain ⟨v, cs2, io2, sg2, nf2, ny2, tp2, hp, h⟩ := s_look hV s y
  exact ⟨v, cs2, io2, sg2, nf2, ny2, tp2, hp, mm_Ev_up (by decide) h⟩
set_option maxHeartbeats 4000000 in
theorem s_count {M : mH} {T : Nat → mT} {cs sg : Nat → Nat → Int32} {io : Nat → Int32} {e : Nat → Nat} {D : Nat → Nat → Nat} {nh nx ns nf ny tp : Nat} {cm : Nat → Nat} {w : Nat → Nat → Nat} {cn : Nat → Nat} {wc : Nat → Nat → Nat} (hV : CV M T cs io sg e D nh nx ns nf ny tp cm w cn wc) (y : Int32) : ∃ (v : Value), ∃ (cs2 : Nat → Nat → Int32), ∃ (io2 : Nat → Int32), ∃ (sg2 : Nat → Nat → Int32), ∃ (nf2 : Nat), ∃ (ny2 : Nat), ∃ (tp2 : Nat), (mm_Ev 8 271 [.ref 100, .int y] (rf_mk (hk M T cs2) io sg) (some v, rf_mk (hk M T cs2) io2 sg2) ∧ CV M T cs2 io2 sg2 e D nh nx ns nf2 ny2 tp2 cm w cn wc) ∧ mm_Ev 7 181 [.ref 0, .int y] (hk M T cs) ((some v, hk M T cs2)) := by
  have hq9 : ∃ z, (fun r9 => ∃ (v : Value), ∃ (cs2 : Nat → Nat → Int32), ∃ (io2 : Nat → Int32), ∃ (sg2 : Nat → Nat → Int32), ∃ (nf2 : Nat), ∃ (ny2 : Nat), ∃ (tp2 : Nat), (mm_Ev 8 271 [.ref 100, .int y] (rf_mk (hk M T cs2) io sg) (some v, rf_mk (hk M T cs2) io2 sg2) ∧ CV M T cs2 io2 sg2 e D nh nx ns nf2 ny2 tp2 cm w cn wc) ∧ r9 = ((some v, hk M T cs2))) z ∧ mm_Ev 7 181 [.ref 0, .int y] (hk M T cs) z := by
    obtain ⟨⟨hM, hMs, hW⟩, hC, hT, hR, hJ⟩ := id hV
    obtain ⟨hF, ⟨hL0, hL1, hL2⟩, hSc, hAg, hSt⟩ := id hC
    obtain ⟨⟨⟨h3, hnh⟩, ⟨h4, hnx⟩, ⟨h5, hns⟩, ⟨h7, hnf⟩, ⟨h6, hny⟩, ⟨h23, htp⟩⟩, hRa, hRb, hRs, hRs2, hRs3, hRx, hCD, hRt, hRt2, hRf⟩ := id hR
    refine r_evQ (by decide +kernel) (show (2 : Nat) ≤ mm_nL 181 by decide +kernel) ?_
    show mm_Ru 6 (0, 2, false, prog_1_method_33_code, some .int) 0 [(0, .ref 0), (1, .int y)] [] (hk M T cs) (fun r9 => ∃ (v : Value), ∃ (cs2 : Nat → Nat → Int32), ∃ (io2 : Nat → Int32), ∃ (sg2 : Nat → Nat → Int32), ∃ (nf2 : Nat), ∃ (ny2 : Nat), ∃ (tp2 : Nat), (mm_Ev 8 271 [.ref 100, .int y] (rf_mk (hk M T cs2) io sg) (some v, rf_mk (hk M T cs2) io2 sg2) ∧ CV M T cs2 io2 sg2 e D nh nx ns nf2 ny2 tp2 cm w cn wc) ∧ r9 = ((some v, hk M T cs2)))
    rcases li9 y with rfl | rfl | rfl | rfl | rfl | rfl | rfl | rfl | rfl | rfl | hw
    · skip
      refine r_iload_n rfl dc_1_33_0 ?_
      refine r_iconst (v := nI 4) (by decide) dc_1_33_1 ?_
      refine r_bipush (v := nI 7) (by decide) dc_1_33_2 ?_
      refine h_callS (as := [.int (nI 0), .int (nI 4), .int (nI 7)]) (rest := []) (v := .int (nI 0)) rfl rfl iv_0_s84 (Or.inl rfl) na_0_13 rfl (show (0 : Nat) ≤ 8 by decide) dc_1_33_4 (mm_Ev_up (by decide : 1 ≤ 6) (by have h9 := k_in (hk M T cs) (nI 0) (nI 4) (nI 7); rw [show sp_in (nI 0) (nI 4) (nI 7) = nI 0 by decide] at h9; exact h9)) ?_
      refine r_ifeq (t := 18) (by decide) dc_1_33_7 (fun c_7 => ?_) (fun c_7 => ?_)
      · skip
        refine r_iload_n rfl dc_1_33_18 ?_
        refine r_bipush (v := nI 10) (by decide) dc_1_33_19 ?_
        refine r_bipush (v := nI 39) (by decide) dc_1_33_21 ?_
        refine h_callS (as := [.int (nI 0), .int (nI 10), .int (nI 39)]) (rest := []) (v := .int (nI 0)) rfl rfl iv_0_s84 (Or.inl rfl) na_0_13 rfl (show (0 : Nat) ≤ 8 by decide) dc_1_33_23 (mm_Ev_up (by decide : 1 ≤ 6) (by have h9 := k_in (hk M T cs) (nI 0) (nI 10) (nI 39); rw [show sp_in (nI 0) (nI 10) (nI 39) = nI 0 by decide] at h9; exact h9)) ?_
        refine r_ifeq (t := 42) (by decide) dc_1_33_26 (fun c_26 => ?_) (fun c_26 => ?_)
        · skip
          refine r_iload_n rfl dc_1_33_42 ?_
          refine r_swIn (off := 53) (t := 96) (by decide +kernel) (by decide +kernel) (by decide +kernel) (by decide) dc_1_33_43 ?_
          refine r_aload_n rfl dc_1_33_96 ?_
          refine h_get (t := cT e 0) (v := .int (io 6)) fx_0_7 (hF 0 (by decide)) ⟨by omega, by omega⟩ (show some (Value.int _) = _ from congrArg (fun z => some (Value.int z)) (hV.2.2.1.1)) dc_1_33_97 ?_
          refine r_iret rfl dc_1_33_100 ?_
          refine ⟨_, _, io, sg, nf, ny, tp, ⟨mm_Ev_up (by decide) (c_count_0 (hk M T cs) hM io sg), hV⟩, rfl⟩
        · exact absurd c_26 (by decide)
      · exact absurd c_7 (by decide)
    · skip
      refine r_iload_n rfl dc_1_33_0 ?_
      refine r_iconst (v := nI 4) (by decide) dc_1_33_1 ?_
      refine r_bipush (v := nI 7) (by decide) dc_1_33_2 ?_
      refine h_callS (as := [.int (nI 1), .int (nI 4), .int (nI 7)]) (rest := []) (v := .int (nI 0)) rfl rfl iv_0_s84 (Or.inl rfl) na_0_13 rfl (show (0 : Nat) ≤ 8 by decide) dc_1_33_4 (mm_Ev_up (by decide : 1 ≤ 6) (by have h9 := k_in (hk M T cs) (nI 1) (nI 4) (nI 7); rw [show sp_in (nI 1) (nI 4) (nI 7) = nI 0 by decide] at h9; exact h9)) ?_
      refine r_ifeq (t := 18) (by decide) dc_1_33_7 (fun c_7 => ?_) (fun c_7 => ?_)
      · skip
        refine r_iload_n rfl dc_1_33_18 ?_
        refine r_bipush (v := nI 10) (by decide) dc_1_33_19 ?_
        refine r_bipush (v := nI 39) (by decide) dc_1_33_21 ?_
        refine h_callS (as := [.int (nI 1), .int (nI 10), .int (nI 39)]) (rest := []) (v := .int (nI 0)) rfl rfl iv_0_s84 (Or.inl rfl) na_0_13 rfl (show (0 : Nat) ≤ 8 by decide) dc_1_33_23 (mm_Ev_up (by decide : 1 ≤ 6) (by have h9 := k_in (hk M T cs) (nI 1) (nI 10) (nI 39); rw [show sp_in (nI 1) (nI 10) (nI 39) = nI 0 by decide] at h9; exact h9)) ?_
        refine r_ifeq (t := 42) (by decide) dc_1_33_26 (fun c_26 => ?_) (fun c_26 => ?_)
        · skip
          refine r_iload_n rfl dc_1_33_42 ?_
          refine r_swIn (off := 58) (t := 101) (by decide +kernel) (by decide +kernel) (by decide +kernel) (by decide) dc_1_33_43 ?_
          refine r_aload_n rfl dc_1_33_101 ?_
          refine h_get (t := cT e 0) (v := .ref 25) fx_0_61 (hF 0 (by decide)) ⟨by omega, by omega⟩ (rfl) dc_1_33_102 ?_
          refine h_callv (t := cT e 25) (as := []) (rest := []) (v := .int (nI nh)) (M1 := hk M T cs) rfl rfl iv_0_f113 (Or.inr (Or.inr rfl)) na_6_26 (hF 25 (by decide)) ⟨by omega, by omega⟩ (show (6 : Nat) < 14 by decide) o_26 rfl (show (0 : Nat) ≤ 8 by decide) dc_1_33_105 (mm_Ev_up (by decide : 1 ≤ 6) (k_sizeL hV.2.1.2.1.1)) ?_
          refine r_iret rfl dc_1_33_110 ?_
          have hr := c_count_1 (hk M T cs) hM io sg
          rw [h3] at hr
          refine ⟨_, _, io, sg, nf, ny, tp, ⟨mm_Ev_up (by decide) (hr), hV⟩, rfl⟩
        · exact absurd c_26 (by decide)
      · exact absurd c_7 (by decide)
    · skip
      refine r_iload_n rfl dc_1_33_0 ?_
      refine r_iconst (v := nI 4) (by decide) dc_1_33_1 ?_
      refine r_bipush (v := nI 7) (by decide) dc_1_33_2 ?_
      refine h_callS (as := [.int (nI 2), .int (nI 4), .int (nI 7)]) (rest := []) (v := .int (nI 0)) rfl rfl iv_0_s84 (Or.inl rfl) na_0_13 rfl (show (0 : Nat) ≤ 8 by decide) dc_1_33_4 (mm_Ev_up (by decide : 1 ≤ 6) (by have h9 := k_in (hk M T cs) (nI 2) (nI 4) (nI 7); rw [show sp_in (nI 2) (nI 4) (nI 7) = nI 0 by decide] at h9; exact h9)) ?_
      refine r_ifeq (t := 18) (by decide) dc_1_33_7 (fun c_7 => ?_) (fun c_7 => ?_)
      · skip
        refine r_iload_n rfl dc_1_33_18 ?_
        refine r_bipush (v := nI 10) (by decide) dc_1_33_19 ?_
        refine r_bipush (v := nI 39) (by decide) dc_1_33_21 ?_
        refine h_callS (as := [.int (nI 2), .int (nI 10), .int (nI 39)]) (rest := []) (v := .int (nI 0)) rfl rfl iv_0_s84 (Or.inl rfl) na_0_13 rfl (show (0 : Nat) ≤ 8 by decide) dc_1_33_23 (mm_Ev_up (by decide : 1 ≤ 6) (by have h9 := k_in (hk M T cs) (nI 2) (nI 10) (nI 39); rw [show sp_in (nI 2) (nI 10) (nI 39) = nI 0 by decide] at h9; exact h9)) ?_
        refine r_ifeq (t := 42) (by decide) dc_1_33_26 (fun c_26 => ?_) (fun c_26 => ?_)
        · skip
          refine r_iload_n rfl dc_1_33_42 ?_
          refine r_swIn (off := 68) (t := 111) (by decide +kernel) (by decide +kernel) (by decide +kernel) (by decide) dc_1_33_43 ?_
          refine r_aload_n rfl dc_1_33_111 ?_
          refine h_get (t := cT e 0) (v := .ref 26) fx_0_65 (hF 0 (by decide)) ⟨by omega, by omega⟩ (rfl) dc_1_33_112 ?_
          refine h_callv (t := cT e 26) (as := []) (rest := []) (v := .int (nI nx)) (M1 := hk M T cs) rfl rfl iv_0_f113 (Or.inr (Or.inr rfl)) na_6_26 (hF 26 (by decide)) ⟨by omega, by omega⟩ (show (6 : Nat) < 14 by decide) o_26 rfl (show (0 : Nat) ≤ 8 by decide) dc_1_33_115 (mm_Ev_up (by decide : 1 ≤ 6) (k_sizeL hV.2.1.2.1.2.1)) ?_
          refine r_iret rfl dc_1_33_120 ?_
          have hr := c_count_2 (hk M T cs) hM io sg
          rw [h4] at hr
          refine ⟨_, _, io, sg, nf, ny, tp, ⟨mm_Ev_up (by decide) (hr), hV⟩, rfl⟩
        · exact absurd c_26 (by decide)
      · exact absurd c_7 (by decide)
    · skip
      refine r_iload_n rfl dc_1_33_0 ?_
      refine r_iconst (v := nI 4) (by decide) dc_1_33_1 ?_
      refine r_bipush (v := nI 7) (by decide) dc_1_33_2 ?_
      refine h_callS (as := [.int (nI 3), .int (nI 4), .int (nI 7)]) (rest := []) (v := .int (nI 0)) rfl rfl iv_0_s84 (Or.inl rfl) na_0_13 rfl (show (0 : Nat) ≤ 8 by decide) dc_1_33_4 (mm_Ev_up (by decide : 1 ≤ 6) (by have h9 := k_in (hk M T cs) (nI 3) (nI 4) (nI 7); rw [show sp_in (nI 3) (nI 4) (nI 7) = nI 0 by decide] at h9; exact h9)) ?_
      refine r_ifeq (t := 18) (by decide) dc_1_33_7 (fun c_7 => ?_) (fun c_7 => ?_)
      · skip
        refine r_iload_n rfl dc_1_33_18 ?_
        refine r_bipush (v := nI 10) (by decide) dc_1_33_19 ?_
        refine r_bipush (v := nI 39) (by decide) dc_1_33_21 ?_
        refine h_callS (as := [.int (nI 3), .int (nI 10), .int (nI 39)]) (rest := []) (v := .int (nI 0)) rfl rfl iv_0_s84 (Or.inl rfl) na_0_13 rfl (show (0 : Nat) ≤ 8 by decide) dc_1_33_23 (mm_Ev_up (by decide : 1 ≤ 6) (by have h9 := k_in (hk M T cs) (nI 3) (nI 10) (nI 39); rw [show sp_in (nI 3) (nI 10) (nI 39) = nI 0 by decide] at h9; exact h9)) ?_
        refine r_ifeq (t := 42) (by decide) dc_1_33_26 (fun c_26 => ?_) (fun c_26 => ?_)
        · skip
          refine r_iload_n rfl dc_1_33_42 ?_
          refine r_swIn (off := 78) (t := 121) (by decide +kernel) (by decide +kernel) (by decide +kernel) (by decide) dc_1_33_43 ?_
          refine r_aload_n rfl dc_1_33_121 ?_
          refine h_get (t := cT e 0) (v := .ref 27) fx_0_68 (hF 0 (by decide)) ⟨by omega, by omega⟩ (rfl) dc_1_33_122 ?_
          refine h_callv (t := cT e 27) (as := []) (rest := []) (v := .int (nI ns)) (M1 := hk M T cs) rfl rfl iv_0_f113 (Or.inr (Or.inr rfl)) na_6_26 (hF 27 (by decide)) ⟨by omega, by omega⟩ (show (6 : Nat) < 14 by decide) o_26 rfl (show (0 : Nat) ≤ 8 by decide) dc_1_33_125 (mm_Ev_up (by decide : 1 ≤ 6) (k_sizeL hV.2.1.2.1.2.2)) ?_
          refine r_iret rfl dc_1_33_130 ?_
          have hr := c_count_3 (hk M T cs) hM io sg
          rw [h5] at hr
          refine ⟨_, _, io, sg, nf, ny, tp, ⟨mm_Ev_up (by decide) (hr), hV⟩, rfl⟩
        · exact absurd c_26 (by decide)
      · exact absurd c_7 (by decide)
    · skip
      refine r_iload_n rfl dc_1_33_0 ?_
      refine r_iconst (v := nI 4) (by decide) dc_1_33_1 ?_
      refine r_bipush (v := nI 7) (by decide) dc_1_33_2 ?_
      refine h_callS (as := [.int (nI 4), .int (nI 4), .int (nI 7)]) (rest := []) (v := .int (nI 1)) rfl rfl iv_0_s84 (Or.inl rfl) na_0_13 rfl (show (0 : Nat) ≤ 8 by decide) dc_1_33_4 (mm_Ev_up (by decide : 1 ≤ 6) (by have h9 := k_in (hk M T cs) (nI 4) (nI 4) (nI 7); rw [show sp_in (nI 4) (nI 4) (nI 7) = nI 1 by decide] at h9; exact h9)) ?_
      refine r_ifeq (t := 18) (by decide) dc_1_33_7 (fun c_7 => ?_) (fun c_7 => ?_)
      · exact absurd c_7 (by decide)
      · skip
        refine r_aload_n rfl dc_1_33_10 ?_
        refine r_iload_n rfl dc_1_33_11 ?_
        refine r_iconst (v := nI 4) (by decide) dc_1_33_12 ?_
        refine r_isub (v := nI 0) (by decide) dc_1_33_13 ?_
        refine h_callv (t := cT e 0) (as := [.int (nI 0)]) (rest := []) (v := .int (sp_with sg ns (nI 0))) (M1 := hk M T cs) rfl rfl iv_0_v324 (Or.inl rfl) na_1_182 (hF 0 (by decide)) ⟨by omega, by omega⟩ (show (0 : Nat) < 14 by decide) o_182 rfl (show (0 : Nat) ≤ 8 by decide) dc_1_33_14 (mm_Ev_up (by decide : 4 ≤ 6) (k_inState hV (nI 0))) ?_
        refine r_iret rfl dc_1_33_17 ?_
        refine ⟨_, _, io, sg, nf, ny, tp, ⟨mm_Ev_up (by decide) (c_count_4 (hk M T cs) hM io sg ns h5 hns), hV⟩, rfl⟩
    · skip
      refine r_iload_n rfl dc_1_33_0 ?_
      refine r_iconst (v := nI 4) (by decide) dc_1_33_1 ?_
      refine r_bipush (v := nI 7) (by decide) dc_1_33_2 ?_
      refine h_callS (as := [.int (nI 5), .int (nI 4), .int (nI 7)]) (rest := []) (v := .int (nI 1)) rfl rfl iv_0_s84 (Or.inl rfl) na_0_13 rfl (show (0 : Nat) ≤ 8 by decide) dc_1_33_4 (mm_Ev_up (by decide : 1 ≤ 6) (by have h9 := k_in (hk M T cs) (nI 5) (nI 4) (nI 7); rw [show sp_in (nI 5) (nI 4) (nI 7) = nI 1 by decide] at h9; exact h9)) ?_
      refine r_ifeq (t := 18) (by decide) dc_1_33_7 (fun c_7 => ?_) (fun c_7 => ?_)
      · exact absurd c_7 (by decide)
      · skip
        refine r_aload_n rfl dc_1_33_10 ?_
        refine r_iload_n rfl dc_1_33_11 ?_
        refine r_iconst (v := nI 4) (by decide) dc_1_33_12 ?_
        refine r_isub (v := nI 1) (by decide) dc_1_33_13 ?_
        refine h_callv (t := cT e 0) (as := [.int (nI 1)]) (rest := []) (v := .int (sp_with sg ns (nI 1))) (M1 := hk M T cs) rfl rfl iv_0_v324 (Or.inl rfl) na_1_182 (hF 0 (by decide)) ⟨by omega, by omega⟩ (show (0 : Nat) < 14 by decide) o_182 rfl (show (0 : Nat) ≤ 8 by decide) dc_1_33_14 (mm_Ev_up (by decide : 4 ≤ 6) (k_inState hV (nI 1))) ?_
        refine r_iret rfl dc_1_33_17 ?_
        refine ⟨_, _, io, sg, nf, ny, tp, ⟨mm_Ev_up (by decide) (c_count_5 (hk M T cs) hM io sg ns h5 hns), hV⟩, rfl⟩
    · skip
      refine r_iload_n rfl dc_1_33_0 ?_
      refine r_iconst (v := nI 4) (by decide) dc_1_33_1 ?_
      refine r_bipush (v := nI 7) (by decide) dc_1_33_2 ?_
      refine h_callS (as := [.int (nI 6), .int (nI 4), .int (nI 7)]) (rest := []) (v := .int (nI 1)) rfl rfl iv_0_s84 (Or.inl rfl) na_0_13 rfl (show (0 : Nat) ≤ 8 by decide) dc_1_33_4 (mm_Ev_up (by decide : 1 ≤ 6) (by have h9 := k_in (hk M T cs) (nI 6) (nI 4) (nI 7); rw [show sp_in (nI 6) (nI 4) (nI 7) = nI 1 by decide] at h9; exact h9)) ?_
      refine r_ifeq (t := 18) (by decide) dc_1_33_7 (fun c_7 => ?_) (fun c_7 => ?_)
      · exact absurd c_7 (by decide)
      · skip
        refine r_aload_n rfl dc_1_33_10 ?_
        refine r_iload_n rfl dc_1_33_11 ?_
        refine r_iconst (v := nI 4) (by decide) dc_1_33_12 ?_
        refine r_isub (v := nI 2) (by decide) dc_1_33_13 ?_
        refine h_callv (t := cT e 0) (as := [.int (nI 2)]) (rest := []) (v := .int (sp_with sg ns (nI 2))) (M1 := hk M T cs) rfl rfl iv_0_v324 (Or.inl rfl) na_1_182 (hF 0 (by decide)) ⟨by omega, by omega⟩ (show (0 : Nat) < 14 by decide) o_182 rfl (show (0 : Nat) ≤ 8 by decide) dc_1_33_14 (mm_Ev_up (by decide : 4 ≤ 6) (k_inState hV (nI 2))) ?_
        refine r_iret rfl dc_1_33_17 ?_
        refine ⟨_, _, io, sg, nf, ny, tp, ⟨mm_Ev_up (by decide) (c_count_6 (hk M T cs) hM io sg ns h5 hns), hV⟩, rfl⟩
    · skip
      refine r_iload_n rfl dc_1_33_0 ?_
      refine r_iconst (v := nI 4) (by decide) dc_1_33_1 ?_
      refine r_bipush (v := nI 7) (by decide) dc_1_33_2 ?_
      refine h_callS (as := [.int (nI 7), .int (nI 4), .int (nI 7)]) (rest := []) (v := .int (nI 1)) rfl rfl iv_0_s84 (Or.inl rfl) na_0_13 rfl (show (0 : Nat) ≤ 8 by decide) dc_1_33_4 (mm_Ev_up (by decide : 1 ≤ 6) (by have h9 := k_in (hk M T cs) (nI 7) (nI 4) (nI 7); rw [show sp_in (nI 7) (nI 4) (nI 7) = nI 1 by decide] at h9; exact h9)) ?_
      refine r_ifeq (t := 18) (by decide) dc_1_33_7 (fun c_7 => ?_) (fun c_7 => ?_)
      · exact absurd c_7 (by decide)
      · skip
        refine r_aload_n rfl dc_1_33_10 ?_
        refine r_iload_n rfl dc_1_33_11 ?_
        refine r_iconst (v := nI 4) (by decide) dc_1_33_12 ?_
        refine r_isub (v := nI 3) (by decide) dc_1_33_13 ?_
        refine h_callv (t := cT e 0) (as := [.int (nI 3)]) (rest := []) (v := .int (sp_with sg ns (nI 3))) (M1 := hk M T cs) rfl rfl iv_0_v324 (Or.inl rfl) na_1_182 (hF 0 (by decide)) ⟨by omega, by omega⟩ (show (0 : Nat) < 14 by decide) o_182 rfl (show (0 : Nat) ≤ 8 by decide) dc_1_33_14 (mm_Ev_up (by decide : 4 ≤ 6) (k_inState hV (nI 3))) ?_
        refine r_iret rfl dc_1_33_17 ?_
        refine ⟨_, _, io, sg, nf, ny, tp, ⟨mm_Ev_up (by decide) (c_count_7 (hk M T cs) hM io sg ns h5 hns), hV⟩, rfl⟩
    · skip
      refine r_iload_n rfl dc_1_33_0 ?_
      refine r_iconst (v := nI 4) (by decide) dc_1_33_1 ?_
      refine r_bipush (v := nI 7) (by decide) dc_1_33_2 ?_
      refine h_callS (as := [.int (nI 8), .int (nI 4), .int (nI 7)]) (rest := []) (v := .int (nI 0)) rfl rfl iv_0_s84 (Or.inl rfl) na_0_13 rfl (show (0 : Nat) ≤ 8 by decide) dc_1_33_4 (mm_Ev_up (by decide : 1 ≤ 6) (by have h9 := k_in (hk M T cs) (nI 8) (nI 4) (nI 7); rw [show sp_in (nI 8) (nI 4) (nI 7) = nI 0 by decide] at h9; exact h9)) ?_
      refine r_ifeq (t := 18) (by decide) dc_1_33_7 (fun c_7 => ?_) (fun c_7 => ?_)
      · skip
        refine r_iload_n rfl dc_1_33_18 ?_
        refine r_bipush (v := nI 10) (by decide) dc_1_33_19 ?_
        refine r_bipush (v := nI 39) (by decide) dc_1_33_21 ?_
        refine h_callS (as := [.int (nI 8), .int (nI 10), .int (nI 39)]) (rest := []) (v := .int (nI 0)) rfl rfl iv_0_s84 (Or.inl rfl) na_0_13 rfl (show (0 : Nat) ≤ 8 by decide) dc_1_33_23 (mm_Ev_up (by decide : 1 ≤ 6) (by have h9 := k_in (hk M T cs) (nI 8) (nI 10) (nI 39); rw [show sp_in (nI 8) (nI 10) (nI 39) = nI 0 by decide] at h9; exact h9)) ?_
        refine r_ifeq (t := 42) (by decide) dc_1_33_26 (fun c_26 => ?_) (fun c_26 => ?_)
        · skip
          refine r_iload_n rfl dc_1_33_42 ?_
          refine r_swIn (off := 88) (t := 131) (by decide +kernel) (by decide +kernel) (by decide +kernel) (by decide) dc_1_33_43 ?_
          refine r_aload_n rfl dc_1_33_131 ?_
          refine h_get (t := cT e 0) (v := .ref 20) fx_0_54 (hF 0 (by decide)) ⟨by omega, by omega⟩ (rfl) dc_1_33_132 ?_
          refine h_get (t := cT e 20) (v := .int (nI nf)) fx_0_330 (hF 20 (by decide)) ⟨by omega, by omega⟩ (show some (Value.int _) = _ from congrArg (fun z => some (Value.int z)) (hT.2.2.2.2.1)) dc_1_33_135 ?_
          refine r_iret rfl dc_1_33_138 ?_
          have hr := c_count_8 (hk M T cs) hM io sg
          rw [h7] at hr
          refine ⟨_, _, io, sg, nf, ny, tp, ⟨mm_Ev_up (by decide) (hr), hV⟩, rfl⟩
        · exact absurd c_26 (by decide)
      · exact absurd c_7 (by decide)
    · skip
      refine r_iload_n rfl dc_1_33_0 ?_
      refine r_iconst (v := nI 4) (by decide) dc_1_33_1 ?_
      refine r_bipush (v := nI 7) (by decide) dc_1_33_2 ?_
      refine h_callS (as := [.int (nI 9), .int (nI 4), .int (nI 7)]) (rest := []) (v := .int (nI 0)) rfl rfl iv_0_s84 (Or.inl rfl) na_0_13 rfl (show (0 : Nat) ≤ 8 by decide) dc_1_33_4 (mm_Ev_up (by decide : 1 ≤ 6) (by have h9 := k_in (hk M T cs) (nI 9) (nI 4) (nI 7); rw [show sp_in (nI 9) (nI 4) (nI 7) = nI 0 by decide] at h9; exact h9)) ?_
      refine r_ifeq (t := 18) (by decide) dc_1_33_7 (fun c_7 => ?_) (fun c_7 => ?_)
      · skip
        refine r_iload_n rfl dc_1_33_18 ?_
        refine r_bipush (v := nI 10) (by decide) dc_1_33_19 ?_
        refine r_bipush (v := nI 39) (by decide) dc_1_33_21 ?_
        refine h_callS (as := [.int (nI 9), .int (nI 10), .int (nI 39)]) (rest := []) (v := .int (nI 0)) rfl rfl iv_0_s84 (Or.inl rfl) na_0_13 rfl (show (0 : Nat) ≤ 8 by decide) dc_1_33_23 (mm_Ev_up (by decide : 1 ≤ 6) (by have h9 := k_in (hk M T cs) (nI 9) (nI 10) (nI 39); rw [show sp_in (nI 9) (nI 10) (nI 39) = nI 0 by decide] at h9; exact h9)) ?_
        refine r_ifeq (t := 42) (by decide) dc_1_33_26 (fun c_26 => ?_) (fun c_26 => ?_)
        · skip
          refine r_iload_n rfl dc_1_33_42 ?_
          refine r_swIn (off := 96) (t := 139) (by decide +kernel) (by decide +kernel) (by decide +kernel) (by decide) dc_1_33_43 ?_
          refine r_aload_n rfl dc_1_33_139 ?_
          refine h_get (t := cT e 0) (v := .ref 10) fx_0_33 (hF 0 (by decide)) ⟨by omega, by omega⟩ (rfl) dc_1_33_140 ?_
          refine h_get (t := cT e 10) (v := .int (nI tp)) fx_0_143 (hF 10 (by decide)) ⟨by omega, by omega⟩ (show some (Value.int _) = _ from congrArg (fun z => some (Value.int z)) (hT.2.2.2.1.1)) dc_1_33_143 ?_
          refine r_iret rfl dc_1_33_146 ?_
          have hr := c_count_9 (hk M T cs) hM io sg
          rw [h23] at hr
          refine ⟨_, _, io, sg, nf, ny, tp, ⟨mm_Ev_up (by decide) (hr), hV⟩, rfl⟩
        · exact absurd c_26 (by decide)
      · exact absurd c_7 (by decide)
    · skip
      refine r_iload_n rfl dc_1_33_0 ?_
      refine r_iconst (v := nI 4) (by decide) dc_1_33_1 ?_
      refine r_bipush (v := nI 7) (by decide) dc_1_33_2 ?_
      refine h_callS (as := [.int y, .int (nI 4), .int (nI 7)]) (rest := []) (v := .int (nI 0)) rfl rfl iv_0_s84 (Or.inl rfl) na_0_13 rfl (show (0 : Nat) ≤ 8 by decide) dc_1_33_4 (mm_Ev_up (by decide : 1 ≤ 6) (by have h9 := k_in (hk M T cs) y (nI 4) (nI 7); rw [show sp_in y (nI 4) (nI 7) = nI 0 from if_neg (fun g => by have a := Int32.le_iff_toInt_le.mp g.1; have b := Int32.le_iff_toInt_le.mp g.2; rw [nI_toInt (by decide)] at a b; omega)] at h9; exact h9)) ?_
      refine r_ifeq (t := 18) (by decide) dc_1_33_7 (fun c_7 => ?_) (fun c_7 => ?_)
      · skip
        refine r_iload_n rfl dc_1_33_18 ?_
        refine r_bipush (v := nI 10) (by decide) dc_1_33_19 ?_
        refine r_bipush (v := nI 39) (by decide) dc_1_33_21 ?_
        by_cases h_23 : nI 10 ≤ y ∧ y ≤ nI 39
        · obtain ⟨n_23, hn_23, e_23⟩ := g_nat2 h_23 (by decide) (by decide)
          subst e_23
          rcases c39 hn_23.1 hn_23.2 with ⟨h, hh, rfl⟩ | ⟨h, hh, rfl⟩ | ⟨h, hh, rfl⟩
          · by_cases hs : h < nh
            · skip
              refine h_callS (as := [.int (nI (10 + h)), .int (nI 10), .int (nI 39)]) (rest := []) (v := .int (nI 1)) rfl rfl iv_0_s84 (Or.inl rfl) na_0_13 rfl (show (0 : Nat) ≤ 8 by decide) dc_1_33_23 (mm_Ev_up (by decide : 1 ≤ 6) (by have h9 := k_in (hk M T cs) (nI (10 + h)) (nI 10) (nI 39); rw [show sp_in (nI (10 + h)) (nI 10) (nI 39) = nI 1 from sp_in_ok (by omega) (by omega) (by omega)] at h9; exact h9)) ?_
              refine r_ifeq (t := 42) (by decide) dc_1_33_26 (fun c_26 => ?_) (fun c_26 => ?_)
              · exact absurd c_26 (by decide)
              · skip
                refine r_aload_n rfl dc_1_33_29 ?_
                refine r_iload_n rfl dc_1_33_30 ?_
                refine r_bipush (v := nI 10) (by decide) dc_1_33_31 ?_
                refine r_irem (v := nI h) (by decide) ((q39 h hh).1.1) dc_1_33_33 ?_
                refine r_iload_n rfl dc_1_33_34 ?_
                refine r_bipush (v := nI 10) (by decide) dc_1_33_35 ?_
                refine r_idiv (v := nI 1) (by decide) ((q39 h hh).1.2) dc_1_33_37 ?_
                refine h_callv (t := cT e 0) (as := [.int (nI h), .int (nI 1)]) (rest := []) (v := .int (sg 11 h)) (M1 := hk M T cs) rfl rfl iv_0_v327 (Or.inl rfl) na_1_183 (hF 0 (by decide)) ⟨by omega, by omega⟩ (show (0 : Nat) < 14 by decide) o_183 rfl (show (0 : Nat) ≤ 8 by decide) dc_1_33_38 (mm_Ev_up (by decide : 5 ≤ 6) (k_shS_1 hV h hs)) ?_
                refine r_iret rfl dc_1_33_41 ?_
                refine ⟨_, _, io, sg, nf, ny, tp, ⟨mm_Ev_up (by decide) (c_count_b (hk M T cs) hM io sg nh h3 hnh h hs), hV⟩, rfl⟩
            · skip
              refine h_callS (as := [.int (nI (10 + h)), .int (nI 10), .int (nI 39)]) (rest := []) (v := .int (nI 1)) rfl rfl iv_0_s84 (Or.inl rfl) na_0_13 rfl (show (0 : Nat) ≤ 8 by decide) dc_1_33_23 (mm_Ev_up (by decide : 1 ≤ 6) (by have h9 := k_in (hk M T cs) (nI (10 + h)) (nI 10) (nI 39); rw [show sp_in (nI (10 + h)) (nI 10) (nI 39) = nI 1 from sp_in_ok (by omega) (by omega) (by omega)] at h9; exact h9)) ?_
              refine r_ifeq (t := 42) (by decide) dc_1_33_26 (fun c_26 => ?_) (fun c_26 => ?_)
              · exact absurd c_26 (by decide)
              · skip
                refine r_aload_n rfl dc_1_33_29 ?_
                refine r_iload_n rfl dc_1_33_30 ?_
                refine r_bipush (v := nI 10) (by decide) dc_1_33_31 ?_
                refine r_irem (v := nI h) (by decide) ((q39 h hh).1.1) dc_1_33_33 ?_
                refine r_iload_n rfl dc_1_33_34 ?_
                refine r_bipush (v := nI 10) (by decide) dc_1_33_35 ?_
                refine r_idiv (v := nI 1) (by decide) ((q39 h hh).1.2) dc_1_33_37 ?_
                refine h_callv (t := cT e 0) (as := [.int (nI h), .int (nI 1)]) (rest := []) (v := .int ((-1))) (M1 := hk M T cs) rfl rfl iv_0_v327 (Or.inl rfl) na_1_183 (hF 0 (by decide)) ⟨by omega, by omega⟩ (show (0 : Nat) < 14 by decide) o_183 rfl (show (0 : Nat) ≤ 8 by decide) dc_1_33_38 (mm_Ev_up (by decide : 3 ≤ 6) (k_shS_n hV (nI h) (nI 1) (fun z => hs ((nI_ltI (by omega) (by omega)).mp z.2)))) ?_
                refine r_iret rfl dc_1_33_41 ?_
                refine ⟨_, _, io, sg, nf, ny, tp, ⟨mm_Ev_up (by decide) (c_count_n (hk M T cs) hM io sg nh h3 hnh _ (nI_out (lo := 0) (hi := 9) (Or.inr (by omega)) (by omega)) ⟨fun g => le_n (by omega) (by omega) (by omega) g.2, fun g => le_n (by omega) (by omega) (by omega) g.1, fun g => le_n (by omega) (by omega) (by omega) g.1⟩), hV⟩, rfl⟩
          · by_cases hs : h < nh
            · skip
              refine h_callS (as := [.int (nI (20 + h)), .int (nI 10), .int (nI 39)]) (rest := []) (v := .int (nI 1)) rfl rfl iv_0_s84 (Or.inl rfl) na_0_13 rfl (show (0 : Nat) ≤ 8 by decide) dc_1_33_23 (mm_Ev_up (by decide : 1 ≤ 6) (by have h9 := k_in (hk M T cs) (nI (20 + h)) (nI 10) (nI 39); rw [show sp_in (nI (20 + h)) (nI 10) (nI 39) = nI 1 from sp_in_ok (by omega) (by omega) (by omega)] at h9; exact h9)) ?_
              refine r_ifeq (t := 42) (by decide) dc_1_33_26 (fun c_26 => ?_) (fun c_26 => ?_)
              · exact absurd c_26 (by decide)
              · skip
                refine r_aload_n rfl dc_1_33_29 ?_
                refine r_iload_n rfl dc_1_33_30 ?_
                refine r_bipush (v := nI 10) (by decide) dc_1_33_31 ?_
                refine r_irem (v := nI h) (by decide) ((q39 h hh).2.1.1) dc_1_33_33 ?_
                refine r_iload_n rfl dc_1_33_34 ?_
                refine r_bipush (v := nI 10) (by decide) dc_1_33_35 ?_
                refine r_idiv (v := nI 2) (by decide) ((q39 h hh).2.1.2) dc_1_33_37 ?_
                refine h_callv (t := cT e 0) (as := [.int (nI h), .int (nI 2)]) (rest := []) (v := .int (sp_pin sg ns (nI h))) (M1 := hk M T cs) rfl rfl iv_0_v327 (Or.inl rfl) na_1_183 (hF 0 (by decide)) ⟨by omega, by omega⟩ (show (0 : Nat) < 14 by decide) o_183 rfl (show (0 : Nat) ≤ 8 by decide) dc_1_33_38 (mm_Ev_up (by decide : 5 ≤ 6) (k_shS_2 hV h hs)) ?_
                refine r_iret rfl dc_1_33_41 ?_
                refine ⟨_, _, io, sg, nf, ny, tp, ⟨mm_Ev_up (by decide) (c_count_p (hk M T cs) hM io sg ns h5 hns nh h3 hnh h hs), hV⟩, rfl⟩
            · skip
              refine h_callS (as := [.int (nI (20 + h)), .int (nI 10), .int (nI 39)]) (rest := []) (v := .int (nI 1)) rfl rfl iv_0_s84 (Or.inl rfl) na_0_13 rfl (show (0 : Nat) ≤ 8 by decide) dc_1_33_23 (mm_Ev_up (by decide : 1 ≤ 6) (by have h9 := k_in (hk M T cs) (nI (20 + h)) (nI 10) (nI 39); rw [show sp_in (nI (20 + h)) (nI 10) (nI 39) = nI 1 from sp_in_ok (by omega) (by omega) (by omega)] at h9; exact h9)) ?_
              refine r_ifeq (t := 42) (by decide) dc_1_33_26 (fun c_26 => ?_) (fun c_26 => ?_)
              · exact absurd c_26 (by decide)
              · skip
                refine r_aload_n rfl dc_1_33_29 ?_
                refine r_iload_n rfl dc_1_33_30 ?_
                refine r_bipush (v := nI 10) (by decide) dc_1_33_31 ?_
                refine r_irem (v := nI h) (by decide) ((q39 h hh).2.1.1) dc_1_33_33 ?_
                refine r_iload_n rfl dc_1_33_34 ?_
                refine r_bipush (v := nI 10) (by decide) dc_1_33_35 ?_
                refine r_idiv (v := nI 2) (by decide) ((q39 h hh).2.1.2) dc_1_33_37 ?_
                refine h_callv (t := cT e 0) (as := [.int (nI h), .int (nI 2)]) (rest := []) (v := .int ((-1))) (M1 := hk M T cs) rfl rfl iv_0_v327 (Or.inl rfl) na_1_183 (hF 0 (by decide)) ⟨by omega, by omega⟩ (show (0 : Nat) < 14 by decide) o_183 rfl (show (0 : Nat) ≤ 8 by decide) dc_1_33_38 (mm_Ev_up (by decide : 3 ≤ 6) (k_shS_n hV (nI h) (nI 2) (fun z => hs ((nI_ltI (by omega) (by omega)).mp z.2)))) ?_
                refine r_iret rfl dc_1_33_41 ?_
                refine ⟨_, _, io, sg, nf, ny, tp, ⟨mm_Ev_up (by decide) (c_count_n (hk M T cs) hM io sg nh h3 hnh _ (nI_out (lo := 0) (hi := 9) (Or.inr (by omega)) (by omega)) ⟨fun g => le_n (by omega) (by omega) (by omega) g.2, fun g => le_n (by omega) (by omega) (by omega) g.2, fun g => le_n (by omega) (by omega) (by omega) g.1⟩), hV⟩, rfl⟩
          · by_cases hs : h < nh
            · skip
              refine h_callS (as := [.int (nI (30 + h)), .int (nI 10), .int (nI 39)]) (rest := []) (v := .int (nI 1)) rfl rfl iv_0_s84 (Or.inl rfl) na_0_13 rfl (show (0 : Nat) ≤ 8 by decide) dc_1_33_23 (mm_Ev_up (by decide : 1 ≤ 6) (by have h9 := k_in (hk M T cs) (nI (30 + h)) (nI 10) (nI 39); rw [show sp_in (nI (30 + h)) (nI 10) (nI 39) = nI 1 from sp_in_ok (by omega) (by omega) (by omega)] at h9; exact h9)) ?_
              refine r_ifeq (t := 42) (by decide) dc_1_33_26 (fun c_26 => ?_) (fun c_26 => ?_)
              · exact absurd c_26 (by decide)
              · skip
                refine r_aload_n rfl dc_1_33_29 ?_
                refine r_iload_n rfl dc_1_33_30 ?_
                refine r_bipush (v := nI 10) (by decide) dc_1_33_31 ?_
                refine r_irem (v := nI h) (by decide) ((q39 h hh).2.2.1) dc_1_33_33 ?_
                refine r_iload_n rfl dc_1_33_34 ?_
                refine r_bipush (v := nI 10) (by decide) dc_1_33_35 ?_
                refine r_idiv (v := nI 3) (by decide) ((q39 h hh).2.2.2) dc_1_33_37 ?_
                refine h_callv (t := cT e 0) (as := [.int (nI h), .int (nI 3)]) (rest := []) (v := .int (nI (tN (sg 16 h)))) (M1 := hk M T cs) rfl rfl iv_0_v327 (Or.inl rfl) na_1_183 (hF 0 (by decide)) ⟨by omega, by omega⟩ (show (0 : Nat) < 14 by decide) o_183 rfl (show (0 : Nat) ≤ 8 by decide) dc_1_33_38 (mm_Ev_up (by decide : 5 ≤ 6) (k_shS_3 hV h hs)) ?_
                refine r_iret rfl dc_1_33_41 ?_
                have hr := c_count_c (hk M T cs) hM io sg nh h3 hnh h hs
                rw [(inN_tN (hRs h hs).2.2.2.2.2 (by decide)).1] at hr
                refine ⟨_, _, io, sg, nf, ny, tp, ⟨mm_Ev_up (by decide) (hr), hV⟩, rfl⟩
            · skip
              refine h_callS (as := [.int (nI (30 + h)), .int (nI 10), .int (nI 39)]) (rest := []) (v := .int (nI 1)) rfl rfl iv_0_s84 (Or.inl rfl) na_0_13 rfl (show (0 : Nat) ≤ 8 by decide) dc_1_33_23 (mm_Ev_up (by decide : 1 ≤ 6) (by have h9 := k_in (hk M T cs) (nI (30 + h)) (nI 10) (nI 39); rw [show sp_in (nI (30 + h)) (nI 10) (nI 39) = nI 1 from sp_in_ok (by omega) (by omega) (by omega)] at h9; exact h9)) ?_
              refine r_ifeq (t := 42) (by decide) dc_1_33_26 (fun c_26 => ?_) (fun c_26 => ?_)
              · exact absurd c_26 (by decide)
              · skip
                refine r_aload_n rfl dc_1_33_29 ?_
                refine r_iload_n rfl dc_1_33_30 ?_
                refine r_bipush (v := nI 10) (by decide) dc_1_33_31 ?_
                refine r_irem (v := nI h) (by decide) ((q39 h hh).2.2.1) dc_1_33_33 ?_
                refine r_iload_n rfl dc_1_33_34 ?_
                refine r_bipush (v := nI 10) (by decide) dc_1_33_35 ?_
                refine r_idiv (v := nI 3) (by decide) ((q39 h hh).2.2.2) dc_1_33_37 ?_
                refine h_callv (t := cT e 0) (as := [.int (nI h), .int (nI 3)]) (rest := []) (v := .int ((-1))) (M1 := hk M T cs) rfl rfl iv_0_v327 (Or.inl rfl) na_1_183 (hF 0 (by decide)) ⟨by omega, by omega⟩ (show (0 : Nat) < 14 by decide) o_183 rfl (show (0 : Nat) ≤ 8 by decide) dc_1_33_38 (mm_Ev_up (by decide : 3 ≤ 6) (k_shS_n hV (nI h) (nI 3) (fun z => hs ((nI_ltI (by omega) (by omega)).mp z.2)))) ?_
                refine r_iret rfl dc_1_33_41 ?_
                refine ⟨_, _, io, sg, nf, ny, tp, ⟨mm_Ev_up (by decide) (c_count_n (hk M T cs) hM io sg nh h3 hnh _ (nI_out (lo := 0) (hi := 9) (Or.inr (by omega)) (by omega)) ⟨fun g => le_n (by omega) (by omega) (by omega) g.2, fun g => le_n (by omega) (by omega) (by omega) g.2, fun g => le_n (by omega) (by omega) (by omega) g.2⟩), hV⟩, rfl⟩
        · skip
          refine h_callS (as := [.int y, .int (nI 10), .int (nI 39)]) (rest := []) (v := .int (nI 0)) rfl rfl iv_0_s84 (Or.inl rfl) na_0_13 rfl (show (0 : Nat) ≤ 8 by decide) dc_1_33_23 (mm_Ev_up (by decide : 1 ≤ 6) (by have h9 := k_in (hk M T cs) y (nI 10) (nI 39); rw [show sp_in y (nI 10) (nI 39) = nI 0 from if_neg h_23] at h9; exact h9)) ?_
          refine r_ifeq (t := 42) (by decide) dc_1_33_26 (fun c_26 => ?_) (fun c_26 => ?_)
          · skip
            refine r_iload_n rfl dc_1_33_42 ?_
            refine r_swOut (t := 147) (hw) (by decide) dc_1_33_43 ?_
            refine r_iconst (v := -1) (by decide) dc_1_33_147 ?_
            refine r_iret rfl dc_1_33_148 ?_
            refine ⟨_, _, io, sg, nf, ny, tp, ⟨mm_Ev_up (by decide) (c_count_n (hk M T cs) hM io sg nh h3 hnh y hw ⟨n_no (by have := n_out h_23 (by decide) (by decide); omega) (by omega) (by omega) (by omega), n_no (by have := n_out h_23 (by decide) (by decide); omega) (by omega) (by omega) (by omega), n_no (by have := n_out h_23 (by decide) (by decide); omega) (by omega) (by omega) (by omega)⟩), hV⟩, rfl⟩
          · exact absurd c_26 (by decide)
      · exact absurd c_7 (by decide)
  obtain ⟨z9, ⟨v, cs2, io2, sg2, nf2, ny2, tp2, p9, e9⟩, h9⟩ := hq9
  subst e9
  exact ⟨v, cs2, io2, sg2, nf2, ny2, tp2, p9, h9⟩
theorem st_count (y : Int32) : StpN 181 271 [.int y] := fun M T cs sg io e D nh nx ns nf ny tp cm w cn wc hV => by
  obtain ⟨v, cs2, io2, sg2, nf2, ny2, tp2, hp, h⟩ := s_count hV y
  exact ⟨v, cs2, io2, sg2, nf2, ny2, tp2, hp, mm_Ev_up (by decide) h⟩
set_option maxHeartbeats 4000000 in
theorem s_owed {M : mH} {T : Nat → mT} {cs sg : Nat → Nat → Int32} {io : Nat → Int32} {e : Nat → Nat} {D : Nat → Nat → Nat} {nh nx ns nf ny tp : Nat} {cm : Nat → Nat} {w : Nat → Nat → Nat} {cn : Nat → Nat} {wc : Nat → Nat → Nat} (hV : CV M T cs io sg e D nh nx ns nf ny tp cm w cn wc) (h : Int32) : ∃ (v : Value), ∃ (cs2 : Nat → Nat → Int32), ∃ (io2 : Nat → Int32), ∃ (sg2 : Nat → Nat → Int32), ∃ (nf2 : Nat), ∃ (ny2 : Nat), ∃ (tp2 : Nat), (mm_Ev 8 266 [.ref 100, .int h] (rf_mk (hk M T cs2) io sg) (some v, rf_mk (hk M T cs2) io2 sg2) ∧ CV M T cs2 io2 sg2 e D nh nx ns nf2 ny2 tp2 cm w cn wc) ∧ mm_Ev 8 174 [.ref 0, .int h] (hk M T cs) ((some v, hk M T cs2)) := by
  have hq9 : ∃ z, (fun r9 => ∃ (v : Value), ∃ (cs2 : Nat → Nat → Int32), ∃ (io2 : Nat → Int32), ∃ (sg2 : Nat → Nat → Int32), ∃ (nf2 : Nat), ∃ (ny2 : Nat), ∃ (tp2 : Nat), (mm_Ev 8 266 [.ref 100, .int h] (rf_mk (hk M T cs2) io sg) (some v, rf_mk (hk M T cs2) io2 sg2) ∧ CV M T cs2 io2 sg2 e D nh nx ns nf2 ny2 tp2 cm w cn wc) ∧ r9 = ((some v, hk M T cs2))) z ∧ mm_Ev 8 174 [.ref 0, .int h] (hk M T cs) z := by
    obtain ⟨⟨hM, hMs, hW⟩, hC, hT, hR, hJ⟩ := id hV
    obtain ⟨hF, ⟨hL0, hL1, hL2⟩, hSc, hAg, hSt⟩ := id hC
    obtain ⟨⟨⟨h3, hnh⟩, ⟨h4, hnx⟩, ⟨h5, hns⟩, ⟨h7, hnf⟩, ⟨h6, hny⟩, ⟨h23, htp⟩⟩, hRa, hRb, hRs, hRs2, hRs3, hRx, hCD, hRt, hRt2, hRf⟩ := id hR
    refine r_evQ (by decide +kernel) (show (2 : Nat) ≤ mm_nL 174 by decide +kernel) ?_
    show mm_Ru 7 (0, 8, false, prog_1_method_30_code, some .long) 0 [(0, .ref 0), (1, .int h)] [] (hk M T cs) (fun r9 => ∃ (v : Value), ∃ (cs2 : Nat → Nat → Int32), ∃ (io2 : Nat → Int32), ∃ (sg2 : Nat → Nat → Int32), ∃ (nf2 : Nat), ∃ (ny2 : Nat), ∃ (tp2 : Nat), (mm_Ev 8 266 [.ref 100, .int h] (rf_mk (hk M T cs2) io sg) (some v, rf_mk (hk M T cs2) io2 sg2) ∧ CV M T cs2 io2 sg2 e D nh nx ns nf2 ny2 tp2 cm w cn wc) ∧ r9 = ((some v, hk M T cs2)))
    refine r_lconst (v := 0) (by decide) dc_1_30_0 ?_
    refine r_lstore_n (ls' := [(2, .long 0), (0, .ref 0), (1, .int h)]) (by decide) rfl dc_1_30_1 ?_
    refine r_iconst (v := nI 0) (by decide) dc_1_30_2 ?_
    refine r_istore (ls' := [(4, .int (nI 0)), (2, .long 0), (0, .ref 0), (1, .int h)]) (by decide) rfl dc_1_30_3 ?_
    refine mm_cnt (P := fun m => ∀ (acc : Int64), (acc = sp_ow sg ns h m) → mm_Ru 7 (0, 8, false, prog_1_method_30_code, some .long) 5 [(4, .int (nI m)), (2, .long acc), (0, .ref 0), (1, .int h)] [] (hk M T cs) (fun r9 => ∃ (v : Value), ∃ (cs2 : Nat → Nat → Int32), ∃ (io2 : Nat → Int32), ∃ (sg2 : Nat → Nat → Int32), ∃ (nf2 : Nat), ∃ (ny2 : Nat), ∃ (tp2 : Nat), (mm_Ev 8 266 [.ref 100, .int h] (rf_mk (hk M T cs2) io sg) (some v, rf_mk (hk M T cs2) io2 sg2) ∧ CV M T cs2 io2 sg2 e D nh nx ns nf2 ny2 tp2 cm w cn wc) ∧ r9 = ((some v, hk M T cs2)))) nx ?_ ?_ 0 (by omega) 0 (rfl)
    · intro acc hi_m
      show mm_Ru 7 (0, 8, false, prog_1_method_30_code, some .long) 5 [(4, .int (nI nx)), (2, .long acc), (0, .ref 0), (1, .int h)] [] (hk M T cs) (fun r9 => ∃ (v : Value), ∃ (cs2 : Nat → Nat → Int32), ∃ (io2 : Nat → Int32), ∃ (sg2 : Nat → Nat → Int32), ∃ (nf2 : Nat), ∃ (ny2 : Nat), ∃ (tp2 : Nat), (mm_Ev 8 266 [.ref 100, .int h] (rf_mk (hk M T cs2) io sg) (some v, rf_mk (hk M T cs2) io2 sg2) ∧ CV M T cs2 io2 sg2 e D nh nx ns nf2 ny2 tp2 cm w cn wc) ∧ r9 = ((some v, hk M T cs2)))
      refine r_iload rfl dc_1_30_5 ?_
      refine r_aload_n rfl dc_1_30_7 ?_
      refine h_get (t := cT e 0) (v := .ref 26) fx_0_65 (hF 0 (by decide)) ⟨by omega, by omega⟩ (rfl) dc_1_30_8 ?_
      refine h_callv (t := cT e 26) (as := []) (rest := [.int (nI nx)]) (v := .int (nI nx)) (M1 := hk M T cs) rfl rfl iv_0_f113 (Or.inr (Or.inr rfl)) na_6_26 (hF 26 (by decide)) ⟨by omega, by omega⟩ (show (6 : Nat) < 14 by decide) o_26 rfl (show (1 : Nat) ≤ 8 by decide) dc_1_30_11 (mm_Ev_up (by decide : 1 ≤ 7) (k_sizeL hV.2.1.2.1.2.1)) ?_
      refine r_ncge (t := 88) (by omega) (by omega) (by decide) dc_1_30_16 (fun c_16 => ?_) (fun c_16 => ?_)
      · skip
        refine r_lload_n rfl dc_1_30_88 ?_
        refine r_lret rfl dc_1_30_89 ?_
        by_cases hs : 0 ≤ h ∧ h < nI nh
        · obtain ⟨n, hn, e⟩ := g_lt hs (by omega)
          subst e
          rw [hi_m]
          refine ⟨_, _, io, sg, nf, ny, tp, ⟨mm_Ev_up (by decide) (c_owed_ok (hk M T cs) hM io sg ns h5 hns nh h3 hnh nx h4 hnx n hn), hV⟩, rfl⟩
        · rw [hi_m, ow_0 (fun x hx => ?_)]
          · refine ⟨_, _, io, sg, nf, ny, tp, ⟨mm_Ev_up (by decide) (c_owed_no (hk M T cs) hM io sg h (fun g => hs (by rw [← h3]; exact g))), hV⟩, rfl⟩
          · obtain ⟨xa, xb, hxa, hxb, hxn, e27, e28⟩ := (hRx x hx).1
            exact ⟨fun z => hs (by rw [← z, e28]; exact ⟨show nI 0 ≤ nI xb from nI_le (Nat.zero_le _) (by omega), nI_lt hxb (by omega)⟩), fun z => hs (by rw [← z, e27]; exact ⟨show nI 0 ≤ nI xa from nI_le (Nat.zero_le _) (by omega), nI_lt hxa (by omega)⟩)⟩
      · omega
    · intro m h_m ih_m acc hi_m
      obtain ⟨xa, xb, hxa, hxb, hxn, e27, e28⟩ := (hRx m h_m).1
      have hne : ¬ sg 27 m = sg 28 m := fun z => hxn ((nI_eq (by omega) (by omega)).mp (e27.symm.trans (z.trans e28)))
      show mm_Ru 7 (0, 8, false, prog_1_method_30_code, some .long) 5 [(4, .int (nI m)), (2, .long acc), (0, .ref 0), (1, .int h)] [] (hk M T cs) (fun r9 => ∃ (v : Value), ∃ (cs2 : Nat → Nat → Int32), ∃ (io2 : Nat → Int32), ∃ (sg2 : Nat → Nat → Int32), ∃ (nf2 : Nat), ∃ (ny2 : Nat), ∃ (tp2 : Nat), (mm_Ev 8 266 [.ref 100, .int h] (rf_mk (hk M T cs2) io sg) (some v, rf_mk (hk M T cs2) io2 sg2) ∧ CV M T cs2 io2 sg2 e D nh nx ns nf2 ny2 tp2 cm w cn wc) ∧ r9 = ((some v, hk M T cs2)))
      refine r_iload rfl dc_1_30_5 ?_
      refine r_aload_n rfl dc_1_30_7 ?_
      refine h_get (t := cT e 0) (v := .ref 26) fx_0_65 (hF 0 (by decide)) ⟨by omega, by omega⟩ (rfl) dc_1_30_8 ?_
      refine h_callv (t := cT e 26) (as := []) (rest := [.int (nI m)]) (v := .int (nI nx)) (M1 := hk M T cs) rfl rfl iv_0_f113 (Or.inr (Or.inr rfl)) na_6_26 (hF 26 (by decide)) ⟨by omega, by omega⟩ (show (6 : Nat) < 14 by decide) o_26 rfl (show (1 : Nat) ≤ 8 by decide) dc_1_30_11 (mm_Ev_up (by decide : 1 ≤ 7) (k_sizeL hV.2.1.2.1.2.1)) ?_
      refine r_ncge (t := 88) (by omega) (by omega) (by decide) dc_1_30_16 (fun c_16 => ?_) (fun c_16 => ?_)
      · omega
      · skip
        refine r_aload_n rfl dc_1_30_19 ?_
        refine h_get (t := cT e 0) (v := .ref 26) fx_0_65 (hF 0 (by decide)) ⟨by omega, by omega⟩ (rfl) dc_1_30_20 ?_
        refine r_iload rfl dc_1_30_23 ?_
        refine h_callv (t := cT e 26) (as := [.int (nI m)]) (rest := []) (v := .ref (D 4 m)) (M1 := hk M T cs) rfl rfl iv_0_f227 (Or.inr (Or.inr rfl)) na_6_40 (hF 26 (by decide)) ⟨by omega, by omega⟩ (show (6 : Nat) < 14 by decide) o_40 rfl (show (0 : Nat) ≤ 8 by decide) dc_1_30_25 (mm_Ev_up (by decide : 3 ≤ 7) (k_getL hV.2.1.2.1.2.1 m (by omega))) ?_
        refine h_cast (t := (10, 0, rl [(9, D 6 m), (8, D 5 m)])) (c := 10) (hAg m (by omega)).1 (hAg m (by omega)).2.1 (show (10 : Nat) < 14 by decide) kr_0_152 rfl dc_1_30_30 ?_
        refine r_astore (ls' := [(5, .ref (D 4 m)), (4, .int (nI m)), (2, .long acc), (0, .ref 0), (1, .int h)]) (by decide) rfl dc_1_30_33 ?_
        refine r_aload rfl dc_1_30_35 ?_
        refine h_get (t := (10, 0, rl [(9, D 6 m), (8, D 5 m)])) (v := .int (sg 31 m)) fx_0_297 (hAg m (by omega)).1 (hAg m (by omega)).2.1 (show some (Value.int _) = _ from congrArg (fun z => some (Value.int z)) ((hV.2.1.2.2.2.1 m (by omega)).2.2.2.1.2.2.2.2.1)) dc_1_30_37 ?_
        refine r_i2l (v := (sg 31 m).toInt64) rfl dc_1_30_40 ?_
        refine r_aload_n rfl dc_1_30_41 ?_
        refine r_iload rfl dc_1_30_42 ?_
        refine h_callv (t := cT e 0) (as := [.int (nI m)]) (rest := [.long ((sg 31 m).toInt64)]) (v := .int (sp_bal sg ns m)) (M1 := hk M T cs) rfl rfl iv_0_v214 (Or.inl rfl) na_1_144 (hF 0 (by decide)) ⟨by omega, by omega⟩ (show (0 : Nat) < 14 by decide) o_144 rfl (show (2 : Nat) ≤ 8 by decide) dc_1_30_44 (mm_Ev_up (by decide : 6 ≤ 7) (k_balOf hV m h_m)) ?_
        refine r_i2l (v := (sp_bal sg ns m).toInt64) rfl dc_1_30_47 ?_
        refine r_lmul (v := ((sg 31 m).toInt64) * ((sp_bal sg ns m).toInt64)) rfl dc_1_30_48 ?_
        refine r_lstore (ls' := [(6, .long (((sg 31 m).toInt64) * ((sp_bal sg ns m).toInt64))), (5, .ref (D 4 m)), (4, .int (nI m)), (2, .long acc), (0, .ref 0), (1, .int h)]) (by decide) rfl dc_1_30_49 ?_
        refine r_aload rfl dc_1_30_51 ?_
        refine h_get (t := (10, 0, rl [(9, D 6 m), (8, D 5 m)])) (v := .int (sg 28 m)) fx_0_300 (hAg m (by omega)).1 (hAg m (by omega)).2.1 (show some (Value.int _) = _ from congrArg (fun z => some (Value.int z)) ((hV.2.1.2.2.2.1 m (by omega)).2.2.2.1.2.1)) dc_1_30_53 ?_
        refine r_iload_n rfl dc_1_30_56 ?_
        refine r_icne (t := 68) (by decide) dc_1_30_57 (fun c_57 => ?_) (fun c_57 => ?_)
        · skip
          refine r_aload rfl dc_1_30_68 ?_
          refine h_get (t := (10, 0, rl [(9, D 6 m), (8, D 5 m)])) (v := .int (sg 27 m)) fx_0_303 (hAg m (by omega)).1 (hAg m (by omega)).2.1 (show some (Value.int _) = _ from congrArg (fun z => some (Value.int z)) ((hV.2.1.2.2.2.1 m (by omega)).2.2.2.1.1)) dc_1_30_70 ?_
          refine r_iload_n rfl dc_1_30_73 ?_
          refine r_icne (t := 82) (by decide) dc_1_30_74 (fun c_74 => ?_) (fun c_74 => ?_)
          · skip
            refine r_iinc (n := 4) (k := 1) (x := nI m) (v := nI (m + 1)) (ls' := [(4, .int (nI (m + 1))), (6, .long (((sg 31 m).toInt64) * ((sp_bal sg ns m).toInt64))), (5, .ref (D 4 m)), (2, .long acc), (0, .ref 0), (1, .int h)]) rfl (nI_1 _) (by decide) rfl dc_1_30_82 ?_
            refine r_goto (t := 5) (by decide) dc_1_30_85 ?_
            refine r_ls [(4, .int (nI (m + 1))), (2, .long acc), (0, .ref 0), (1, .int h)] (mm_ndk_of [4, 2, 0, 1] rfl (by decide)) (mm_sub_cons rfl (mm_sub_cons rfl (mm_sub_cons rfl (mm_sub_cons rfl (mm_sub_nil _))))) ?_
            exact ih_m acc (by rw [sp_ow_S, if_neg c_57, if_neg c_74, hi_m, Int64.add_zero]; exact (Int64.sub_zero _).symm)
          · skip
            refine r_lload_n rfl dc_1_30_77 ?_
            refine r_lload rfl dc_1_30_78 ?_
            refine r_lsub (v := acc - (((sg 31 m).toInt64) * ((sp_bal sg ns m).toInt64))) rfl dc_1_30_80 ?_
            refine r_lstore_n (ls' := [(2, .long (acc - (((sg 31 m).toInt64) * ((sp_bal sg ns m).toInt64)))), (6, .long (((sg 31 m).toInt64) * ((sp_bal sg ns m).toInt64))), (5, .ref (D 4 m)), (4, .int (nI m)), (0, .ref 0), (1, .int h)]) (by decide) rfl dc_1_30_81 ?_
            refine r_iinc (n := 4) (k := 1) (x := nI m) (v := nI (m + 1)) (ls' := [(4, .int (nI (m + 1))), (2, .long (acc - (((sg 31 m).toInt64) * ((sp_bal sg ns m).toInt64)))), (6, .long (((sg 31 m).toInt64) * ((sp_bal sg ns m).toInt64))), (5, .ref (D 4 m)), (0, .ref 0), (1, .int h)]) rfl (nI_1 _) (by decide) rfl dc_1_30_82 ?_
            refine r_goto (t := 5) (by decide) dc_1_30_85 ?_
            refine r_ls [(4, .int (nI (m + 1))), (2, .long (acc - (((sg 31 m).toInt64) * ((sp_bal sg ns m).toInt64)))), (0, .ref 0), (1, .int h)] (mm_ndk_of [4, 2, 0, 1] rfl (by decide)) (mm_sub_cons rfl (mm_sub_cons rfl (mm_sub_cons rfl (mm_sub_cons rfl (mm_sub_nil _))))) ?_
            exact ih_m (acc - (((sg 31 m).toInt64) * ((sp_bal sg ns m).toInt64))) (by rw [sp_ow_S, if_neg c_57, if_pos c_74, hi_m, Int64.add_zero])
        · skip
          refine r_lload_n rfl dc_1_30_60 ?_
          refine r_lload rfl dc_1_30_61 ?_
          refine r_ladd (v := acc + (((sg 31 m).toInt64) * ((sp_bal sg ns m).toInt64))) rfl dc_1_30_63 ?_
          refine r_lstore_n (ls' := [(2, .long (acc + (((sg 31 m).toInt64) * ((sp_bal sg ns m).toInt64)))), (6, .long (((sg 31 m).toInt64) * ((sp_bal sg ns m).toInt64))), (5, .ref (D 4 m)), (4, .int (nI m)), (0, .ref 0), (1, .int h)]) (by decide) rfl dc_1_30_64 ?_
          refine r_goto (t := 82) (by decide) dc_1_30_65 ?_
          refine r_iinc (n := 4) (k := 1) (x := nI m) (v := nI (m + 1)) (ls' := [(4, .int (nI (m + 1))), (2, .long (acc + (((sg 31 m).toInt64) * ((sp_bal sg ns m).toInt64)))), (6, .long (((sg 31 m).toInt64) * ((sp_bal sg ns m).toInt64))), (5, .ref (D 4 m)), (0, .ref 0), (1, .int h)]) rfl (nI_1 _) (by decide) rfl dc_1_30_82 ?_
          refine r_goto (t := 5) (by decide) dc_1_30_85 ?_
          refine r_ls [(4, .int (nI (m + 1))), (2, .long (acc + (((sg 31 m).toInt64) * ((sp_bal sg ns m).toInt64)))), (0, .ref 0), (1, .int h)] (mm_ndk_of [4, 2, 0, 1] rfl (by decide)) (mm_sub_cons rfl (mm_sub_cons rfl (mm_sub_cons rfl (mm_sub_cons rfl (mm_sub_nil _))))) ?_
          exact ih_m (acc + (((sg 31 m).toInt64) * ((sp_bal sg ns m).toInt64))) (by rw [sp_ow_S, if_pos c_57, if_neg (fun z => hne (z.trans c_57.symm)), hi_m]; exact (Int64.sub_zero _).symm)
  obtain ⟨z9, ⟨v, cs2, io2, sg2, nf2, ny2, tp2, p9, e9⟩, h9⟩ := hq9
  subst e9
  exact ⟨v, cs2, io2, sg2, nf2, ny2, tp2, p9, h9⟩
theorem st_owed (h : Int32) : StpN 174 266 [.int h] := fun M T cs sg io e D nh nx ns nf ny tp cm w cn wc hV => by
  obtain ⟨v, cs2, io2, sg2, nf2, ny2, tp2, hp, h⟩ := s_owed hV h
  exact ⟨v, cs2, io2, sg2, nf2, ny2, tp2, hp, mm_Ev_up (by decide) h⟩
