/-! calls of the law: visa, meets, study, counts -/
theorem dc_1_22_0 : decode prog_1_method_22_code 0 = .ok (.aload_n 0, 1) := by decide +kernel
theorem dc_1_22_1 : decode prog_1_method_22_code 1 = .ok (.iload_n 1, 1) := by decide +kernel
theorem dc_1_22_2 : decode prog_1_method_22_code 2 = .ok (.invokevirtual 180, 3) := by decide +kernel
theorem dc_1_22_5 : decode prog_1_method_22_code 5 = .ok (.astore 4, 2) := by decide +kernel
theorem dc_1_22_7 : decode prog_1_method_22_code 7 = .ok (.aload_n 0, 1) := by decide +kernel
theorem dc_1_22_8 : decode prog_1_method_22_code 8 = .ok (.iload_n 2, 1) := by decide +kernel
theorem dc_1_22_9 : decode prog_1_method_22_code 9 = .ok (.invokevirtual 128, 3) := by decide +kernel
theorem dc_1_22_12 : decode prog_1_method_22_code 12 = .ok (.astore 5, 2) := by decide +kernel
theorem dc_1_22_14 : decode prog_1_method_22_code 14 = .ok (.aload 4, 2) := by decide +kernel
theorem dc_1_22_16 : decode prog_1_method_22_code 16 = .ok (.ifnull 17, 3) := by decide +kernel
theorem dc_1_22_19 : decode prog_1_method_22_code 19 = .ok (.aload 5, 2) := by decide +kernel
theorem dc_1_22_21 : decode prog_1_method_22_code 21 = .ok (.ifnull 12, 3) := by decide +kernel
theorem dc_1_22_24 : decode prog_1_method_22_code 24 = .ok (.iload_n 3, 1) := by decide +kernel
theorem dc_1_22_25 : decode prog_1_method_22_code 25 = .ok (.iconst 0, 1) := by decide +kernel
theorem dc_1_22_26 : decode prog_1_method_22_code 26 = .ok (.iconst 2, 1) := by decide +kernel
theorem dc_1_22_27 : decode prog_1_method_22_code 27 = .ok (.invokestatic 84, 3) := by decide +kernel
theorem dc_1_22_30 : decode prog_1_method_22_code 30 = .ok (.ifCond .ne 5, 3) := by decide +kernel
theorem dc_1_22_33 : decode prog_1_method_22_code 33 = .ok (.iconst (-1), 1) := by decide +kernel
theorem dc_1_22_34 : decode prog_1_method_22_code 34 = .ok (.ireturn, 1) := by decide +kernel
theorem dc_1_22_35 : decode prog_1_method_22_code 35 = .ok (.aload 5, 2) := by decide +kernel
theorem dc_1_22_37 : decode prog_1_method_22_code 37 = .ok (.aload 4, 2) := by decide +kernel
theorem dc_1_22_39 : decode prog_1_method_22_code 39 = .ok (.getfield 235, 3) := by decide +kernel
theorem dc_1_22_42 : decode prog_1_method_22_code 42 = .ok (.aload 4, 2) := by decide +kernel
theorem dc_1_22_44 : decode prog_1_method_22_code 44 = .ok (.aload 5, 2) := by decide +kernel
theorem dc_1_22_46 : decode prog_1_method_22_code 46 = .ok (.getfield 238, 3) := by decide +kernel
theorem dc_1_22_49 : decode prog_1_method_22_code 49 = .ok (.invokevirtual 241, 3) := by decide +kernel
theorem dc_1_22_52 : decode prog_1_method_22_code 52 = .ok (.invokevirtual 244, 3) := by decide +kernel
theorem dc_1_22_55 : decode prog_1_method_22_code 55 = .ok (.istore 6, 2) := by decide +kernel
theorem dc_1_22_57 : decode prog_1_method_22_code 57 = .ok (.iload_n 3, 1) := by decide +kernel
theorem dc_1_22_58 : decode prog_1_method_22_code 58 = .ok (.ifCond .ne 6, 3) := by decide +kernel
theorem dc_1_22_61 : decode prog_1_method_22_code 61 = .ok (.iload 6, 2) := by decide +kernel
theorem dc_1_22_63 : decode prog_1_method_22_code 63 = .ok (.ireturn, 1) := by decide +kernel
theorem dc_1_22_64 : decode prog_1_method_22_code 64 = .ok (.iload_n 3, 1) := by decide +kernel
theorem dc_1_22_65 : decode prog_1_method_22_code 65 = .ok (.iconst 1, 1) := by decide +kernel
theorem dc_1_22_66 : decode prog_1_method_22_code 66 = .ok (.if_icmp .ne 13, 3) := by decide +kernel
theorem dc_1_22_69 : decode prog_1_method_22_code 69 = .ok (.aload 5, 2) := by decide +kernel
theorem dc_1_22_71 : decode prog_1_method_22_code 71 = .ok (.iload 6, 2) := by decide +kernel
theorem dc_1_22_73 : decode prog_1_method_22_code 73 = .ok (.invokevirtual 248, 3) := by decide +kernel
theorem dc_1_22_76 : decode prog_1_method_22_code 76 = .ok (.goto 18, 3) := by decide +kernel
theorem dc_1_22_79 : decode prog_1_method_22_code 79 = .ok (.aload 4, 2) := by decide +kernel
theorem dc_1_22_81 : decode prog_1_method_22_code 81 = .ok (.getfield 235, 3) := by decide +kernel
theorem dc_1_22_84 : decode prog_1_method_22_code 84 = .ok (.aload 5, 2) := by decide +kernel
theorem dc_1_22_86 : decode prog_1_method_22_code 86 = .ok (.iload 6, 2) := by decide +kernel
theorem dc_1_22_88 : decode prog_1_method_22_code 88 = .ok (.invokevirtual 251, 3) := by decide +kernel
theorem dc_1_22_91 : decode prog_1_method_22_code 91 = .ok (.iconst (-1), 1) := by decide +kernel
theorem dc_1_22_92 : decode prog_1_method_22_code 92 = .ok (.ixor, 1) := by decide +kernel
theorem dc_1_22_93 : decode prog_1_method_22_code 93 = .ok (.iand, 1) := by decide +kernel
theorem dc_1_22_94 : decode prog_1_method_22_code 94 = .ok (.ireturn, 1) := by decide +kernel
theorem dc_1_25_0 : decode prog_1_method_25_code 0 = .ok (.aload_n 0, 1) := by decide +kernel
theorem dc_1_25_1 : decode prog_1_method_25_code 1 = .ok (.iload_n 1, 1) := by decide +kernel
theorem dc_1_25_2 : decode prog_1_method_25_code 2 = .ok (.invokevirtual 180, 3) := by decide +kernel
theorem dc_1_25_5 : decode prog_1_method_25_code 5 = .ok (.astore_n 3, 1) := by decide +kernel
theorem dc_1_25_6 : decode prog_1_method_25_code 6 = .ok (.aload_n 3, 1) := by decide +kernel
theorem dc_1_25_7 : decode prog_1_method_25_code 7 = .ok (.ifnull 10, 3) := by decide +kernel
theorem dc_1_25_10 : decode prog_1_method_25_code 10 = .ok (.iload_n 2, 1) := by decide +kernel
theorem dc_1_25_11 : decode prog_1_method_25_code 11 = .ok (.invokestatic 108, 3) := by decide +kernel
theorem dc_1_25_14 : decode prog_1_method_25_code 14 = .ok (.ifCond .ne 5, 3) := by decide +kernel
theorem dc_1_25_17 : decode prog_1_method_25_code 17 = .ok (.iconst (-1), 1) := by decide +kernel
theorem dc_1_25_18 : decode prog_1_method_25_code 18 = .ok (.ireturn, 1) := by decide +kernel
theorem dc_1_25_19 : decode prog_1_method_25_code 19 = .ok (.aload_n 0, 1) := by decide +kernel
theorem dc_1_25_20 : decode prog_1_method_25_code 20 = .ok (.aload_n 3, 1) := by decide +kernel
theorem dc_1_25_21 : decode prog_1_method_25_code 21 = .ok (.invokevirtual 261, 3) := by decide +kernel
theorem dc_1_25_24 : decode prog_1_method_25_code 24 = .ok (.invokevirtual 128, 3) := by decide +kernel
theorem dc_1_25_27 : decode prog_1_method_25_code 27 = .ok (.astore 4, 2) := by decide +kernel
theorem dc_1_25_29 : decode prog_1_method_25_code 29 = .ok (.aload_n 0, 1) := by decide +kernel
theorem dc_1_25_30 : decode prog_1_method_25_code 30 = .ok (.aload_n 3, 1) := by decide +kernel
theorem dc_1_25_31 : decode prog_1_method_25_code 31 = .ok (.getfield 264, 3) := by decide +kernel
theorem dc_1_25_34 : decode prog_1_method_25_code 34 = .ok (.invokevirtual 128, 3) := by decide +kernel
theorem dc_1_25_37 : decode prog_1_method_25_code 37 = .ok (.astore 5, 2) := by decide +kernel
theorem dc_1_25_39 : decode prog_1_method_25_code 39 = .ok (.aload 4, 2) := by decide +kernel
theorem dc_1_25_41 : decode prog_1_method_25_code 41 = .ok (.ifnull 8, 3) := by decide +kernel
theorem dc_1_25_44 : decode prog_1_method_25_code 44 = .ok (.aload 5, 2) := by decide +kernel
theorem dc_1_25_46 : decode prog_1_method_25_code 46 = .ok (.ifnonnull 5, 3) := by decide +kernel
theorem dc_1_25_49 : decode prog_1_method_25_code 49 = .ok (.iconst (-1), 1) := by decide +kernel
theorem dc_1_25_50 : decode prog_1_method_25_code 50 = .ok (.ireturn, 1) := by decide +kernel
theorem dc_1_25_51 : decode prog_1_method_25_code 51 = .ok (.aload 4, 2) := by decide +kernel
theorem dc_1_25_53 : decode prog_1_method_25_code 53 = .ok (.getfield 267, 3) := by decide +kernel
theorem dc_1_25_56 : decode prog_1_method_25_code 56 = .ok (.aload 5, 2) := by decide +kernel
theorem dc_1_25_58 : decode prog_1_method_25_code 58 = .ok (.getfield 267, 3) := by decide +kernel
theorem dc_1_25_61 : decode prog_1_method_25_code 61 = .ok (.if_icmp .ne 7, 3) := by decide +kernel
theorem dc_1_25_64 : decode prog_1_method_25_code 64 = .ok (.iconst 2, 1) := by decide +kernel
theorem dc_1_25_65 : decode prog_1_method_25_code 65 = .ok (.goto 29, 3) := by decide +kernel
theorem dc_1_25_68 : decode prog_1_method_25_code 68 = .ok (.aload_n 0, 1) := by decide +kernel
theorem dc_1_25_69 : decode prog_1_method_25_code 69 = .ok (.aload 4, 2) := by decide +kernel
theorem dc_1_25_71 : decode prog_1_method_25_code 71 = .ok (.aload_n 0, 1) := by decide +kernel
theorem dc_1_25_72 : decode prog_1_method_25_code 72 = .ok (.getfield 54, 3) := by decide +kernel
theorem dc_1_25_75 : decode prog_1_method_25_code 75 = .ok (.iload_n 1, 1) := by decide +kernel
theorem dc_1_25_76 : decode prog_1_method_25_code 76 = .ok (.iconst 0, 1) := by decide +kernel
theorem dc_1_25_77 : decode prog_1_method_25_code 77 = .ok (.iload_n 2, 1) := by decide +kernel
theorem dc_1_25_78 : decode prog_1_method_25_code 78 = .ok (.invokevirtual 258, 3) := by decide +kernel
theorem dc_1_25_81 : decode prog_1_method_25_code 81 = .ok (.aload_n 0, 1) := by decide +kernel
theorem dc_1_25_82 : decode prog_1_method_25_code 82 = .ok (.getfield 54, 3) := by decide +kernel
theorem dc_1_25_85 : decode prog_1_method_25_code 85 = .ok (.iload_n 1, 1) := by decide +kernel
theorem dc_1_25_86 : decode prog_1_method_25_code 86 = .ok (.iconst 1, 1) := by decide +kernel
theorem dc_1_25_87 : decode prog_1_method_25_code 87 = .ok (.iload_n 2, 1) := by decide +kernel
theorem dc_1_25_88 : decode prog_1_method_25_code 88 = .ok (.invokevirtual 258, 3) := by decide +kernel
theorem dc_1_25_91 : decode prog_1_method_25_code 91 = .ok (.invokevirtual 270, 3) := by decide +kernel
theorem dc_1_25_94 : decode prog_1_method_25_code 94 = .ok (.ireturn, 1) := by decide +kernel
theorem dc_1_27_0 : decode prog_1_method_27_code 0 = .ok (.aload_n 0, 1) := by decide +kernel
theorem dc_1_27_1 : decode prog_1_method_27_code 1 = .ok (.iload_n 1, 1) := by decide +kernel
theorem dc_1_27_2 : decode prog_1_method_27_code 2 = .ok (.invokevirtual 180, 3) := by decide +kernel
theorem dc_1_27_5 : decode prog_1_method_27_code 5 = .ok (.astore 4, 2) := by decide +kernel
theorem dc_1_27_7 : decode prog_1_method_27_code 7 = .ok (.aload 4, 2) := by decide +kernel
theorem dc_1_27_9 : decode prog_1_method_27_code 9 = .ok (.ifnull 19, 3) := by decide +kernel
theorem dc_1_27_12 : decode prog_1_method_27_code 12 = .ok (.iload_n 2, 1) := by decide +kernel
theorem dc_1_27_13 : decode prog_1_method_27_code 13 = .ok (.iconst 0, 1) := by decide +kernel
theorem dc_1_27_14 : decode prog_1_method_27_code 14 = .ok (.iconst 1, 1) := by decide +kernel
theorem dc_1_27_15 : decode prog_1_method_27_code 15 = .ok (.invokestatic 84, 3) := by decide +kernel
theorem dc_1_27_18 : decode prog_1_method_27_code 18 = .ok (.ifCond .eq 10, 3) := by decide +kernel
theorem dc_1_27_21 : decode prog_1_method_27_code 21 = .ok (.iload_n 3, 1) := by decide +kernel
theorem dc_1_27_22 : decode prog_1_method_27_code 22 = .ok (.invokestatic 108, 3) := by decide +kernel
theorem dc_1_27_25 : decode prog_1_method_27_code 25 = .ok (.ifCond .ne 5, 3) := by decide +kernel
theorem dc_1_27_28 : decode prog_1_method_27_code 28 = .ok (.iconst (-1), 1) := by decide +kernel
theorem dc_1_27_29 : decode prog_1_method_27_code 29 = .ok (.ireturn, 1) := by decide +kernel
theorem dc_1_27_30 : decode prog_1_method_27_code 30 = .ok (.aload_n 0, 1) := by decide +kernel
theorem dc_1_27_31 : decode prog_1_method_27_code 31 = .ok (.aload 4, 2) := by decide +kernel
theorem dc_1_27_33 : decode prog_1_method_27_code 33 = .ok (.invokevirtual 261, 3) := by decide +kernel
theorem dc_1_27_36 : decode prog_1_method_27_code 36 = .ok (.invokevirtual 128, 3) := by decide +kernel
theorem dc_1_27_39 : decode prog_1_method_27_code 39 = .ok (.astore 5, 2) := by decide +kernel
theorem dc_1_27_41 : decode prog_1_method_27_code 41 = .ok (.aload_n 0, 1) := by decide +kernel
theorem dc_1_27_42 : decode prog_1_method_27_code 42 = .ok (.aload 4, 2) := by decide +kernel
theorem dc_1_27_44 : decode prog_1_method_27_code 44 = .ok (.getfield 264, 3) := by decide +kernel
theorem dc_1_27_47 : decode prog_1_method_27_code 47 = .ok (.invokevirtual 128, 3) := by decide +kernel
theorem dc_1_27_50 : decode prog_1_method_27_code 50 = .ok (.astore 6, 2) := by decide +kernel
theorem dc_1_27_52 : decode prog_1_method_27_code 52 = .ok (.aload 5, 2) := by decide +kernel
theorem dc_1_27_54 : decode prog_1_method_27_code 54 = .ok (.ifnull 8, 3) := by decide +kernel
theorem dc_1_27_57 : decode prog_1_method_27_code 57 = .ok (.aload 6, 2) := by decide +kernel
theorem dc_1_27_59 : decode prog_1_method_27_code 59 = .ok (.ifnonnull 5, 3) := by decide +kernel
theorem dc_1_27_62 : decode prog_1_method_27_code 62 = .ok (.iconst (-1), 1) := by decide +kernel
theorem dc_1_27_63 : decode prog_1_method_27_code 63 = .ok (.ireturn, 1) := by decide +kernel
theorem dc_1_27_64 : decode prog_1_method_27_code 64 = .ok (.aload_n 0, 1) := by decide +kernel
theorem dc_1_27_65 : decode prog_1_method_27_code 65 = .ok (.iload_n 1, 1) := by decide +kernel
theorem dc_1_27_66 : decode prog_1_method_27_code 66 = .ok (.aload 5, 2) := by decide +kernel
theorem dc_1_27_68 : decode prog_1_method_27_code 68 = .ok (.iload_n 3, 1) := by decide +kernel
theorem dc_1_27_69 : decode prog_1_method_27_code 69 = .ok (.invokevirtual 278, 3) := by decide +kernel
theorem dc_1_27_72 : decode prog_1_method_27_code 72 = .ok (.istore 7, 2) := by decide +kernel
theorem dc_1_27_74 : decode prog_1_method_27_code 74 = .ok (.iload_n 2, 1) := by decide +kernel
theorem dc_1_27_75 : decode prog_1_method_27_code 75 = .ok (.iconst 1, 1) := by decide +kernel
theorem dc_1_27_76 : decode prog_1_method_27_code 76 = .ok (.if_icmp .ne 22, 3) := by decide +kernel
theorem dc_1_27_79 : decode prog_1_method_27_code 79 = .ok (.aload 5, 2) := by decide +kernel
theorem dc_1_27_81 : decode prog_1_method_27_code 81 = .ok (.aload 6, 2) := by decide +kernel
theorem dc_1_27_83 : decode prog_1_method_27_code 83 = .ok (.getfield 282, 3) := by decide +kernel
theorem dc_1_27_86 : decode prog_1_method_27_code 86 = .ok (.aload 5, 2) := by decide +kernel
theorem dc_1_27_88 : decode prog_1_method_27_code 88 = .ok (.invokevirtual 285, 3) := by decide +kernel
theorem dc_1_27_91 : decode prog_1_method_27_code 91 = .ok (.iload 7, 2) := by decide +kernel
theorem dc_1_27_93 : decode prog_1_method_27_code 93 = .ok (.isub, 1) := by decide +kernel
theorem dc_1_27_94 : decode prog_1_method_27_code 94 = .ok (.invokevirtual 288, 3) := by decide +kernel
theorem dc_1_27_97 : decode prog_1_method_27_code 97 = .ok (.ireturn, 1) := by decide +kernel
theorem dc_1_27_98 : decode prog_1_method_27_code 98 = .ok (.aload 5, 2) := by decide +kernel
theorem dc_1_27_100 : decode prog_1_method_27_code 100 = .ok (.aload 4, 2) := by decide +kernel
theorem dc_1_27_102 : decode prog_1_method_27_code 102 = .ok (.getfield 235, 3) := by decide +kernel
theorem dc_1_27_105 : decode prog_1_method_27_code 105 = .ok (.aload 4, 2) := by decide +kernel
theorem dc_1_27_107 : decode prog_1_method_27_code 107 = .ok (.aload 5, 2) := by decide +kernel
theorem dc_1_27_109 : decode prog_1_method_27_code 109 = .ok (.getfield 238, 3) := by decide +kernel
theorem dc_1_27_112 : decode prog_1_method_27_code 112 = .ok (.invokevirtual 241, 3) := by decide +kernel
theorem dc_1_27_115 : decode prog_1_method_27_code 115 = .ok (.invokevirtual 244, 3) := by decide +kernel
theorem dc_1_27_118 : decode prog_1_method_27_code 118 = .ok (.istore 8, 2) := by decide +kernel
theorem dc_1_27_120 : decode prog_1_method_27_code 120 = .ok (.aload 5, 2) := by decide +kernel
theorem dc_1_27_122 : decode prog_1_method_27_code 122 = .ok (.aload 5, 2) := by decide +kernel
theorem dc_1_27_124 : decode prog_1_method_27_code 124 = .ok (.iload 8, 2) := by decide +kernel
theorem dc_1_27_126 : decode prog_1_method_27_code 126 = .ok (.invokevirtual 248, 3) := by decide +kernel
theorem dc_1_27_129 : decode prog_1_method_27_code 129 = .ok (.iload 7, 2) := by decide +kernel
theorem dc_1_27_131 : decode prog_1_method_27_code 131 = .ok (.invokevirtual 288, 3) := by decide +kernel
theorem dc_1_27_134 : decode prog_1_method_27_code 134 = .ok (.ireturn, 1) := by decide +kernel
theorem dc_1_9_0 : decode prog_1_method_9_code 0 = .ok (.aload_n 0, 1) := by decide +kernel
theorem dc_1_9_1 : decode prog_1_method_9_code 1 = .ok (.iload_n 1, 1) := by decide +kernel
theorem dc_1_9_2 : decode prog_1_method_9_code 2 = .ok (.invokevirtual 157, 3) := by decide +kernel
theorem dc_1_9_5 : decode prog_1_method_9_code 5 = .ok (.astore 6, 2) := by decide +kernel
theorem dc_1_9_7 : decode prog_1_method_9_code 7 = .ok (.aload 6, 2) := by decide +kernel
theorem dc_1_9_9 : decode prog_1_method_9_code 9 = .ok (.ifnull 45, 3) := by decide +kernel
theorem dc_1_9_12 : decode prog_1_method_9_code 12 = .ok (.iload_n 2, 1) := by decide +kernel
theorem dc_1_9_13 : decode prog_1_method_9_code 13 = .ok (.iconst 0, 1) := by decide +kernel
theorem dc_1_9_14 : decode prog_1_method_9_code 14 = .ok (.bipush 100, 2) := by decide +kernel
theorem dc_1_9_16 : decode prog_1_method_9_code 16 = .ok (.invokestatic 84, 3) := by decide +kernel
theorem dc_1_9_19 : decode prog_1_method_9_code 19 = .ok (.ifCond .eq 35, 3) := by decide +kernel
theorem dc_1_9_22 : decode prog_1_method_9_code 22 = .ok (.iload_n 3, 1) := by decide +kernel
theorem dc_1_9_23 : decode prog_1_method_9_code 23 = .ok (.iconst 0, 1) := by decide +kernel
theorem dc_1_9_24 : decode prog_1_method_9_code 24 = .ok (.bipush 9, 2) := by decide +kernel
theorem dc_1_9_26 : decode prog_1_method_9_code 26 = .ok (.invokestatic 84, 3) := by decide +kernel
theorem dc_1_9_29 : decode prog_1_method_9_code 29 = .ok (.ifCond .eq 25, 3) := by decide +kernel
theorem dc_1_9_32 : decode prog_1_method_9_code 32 = .ok (.iload 4, 2) := by decide +kernel
theorem dc_1_9_34 : decode prog_1_method_9_code 34 = .ok (.iconst 0, 1) := by decide +kernel
theorem dc_1_9_35 : decode prog_1_method_9_code 35 = .ok (.bipush 99, 2) := by decide +kernel
theorem dc_1_9_37 : decode prog_1_method_9_code 37 = .ok (.invokestatic 84, 3) := by decide +kernel
theorem dc_1_9_40 : decode prog_1_method_9_code 40 = .ok (.ifCond .eq 14, 3) := by decide +kernel
theorem dc_1_9_43 : decode prog_1_method_9_code 43 = .ok (.iload 5, 2) := by decide +kernel
theorem dc_1_9_45 : decode prog_1_method_9_code 45 = .ok (.iconst 0, 1) := by decide +kernel
theorem dc_1_9_46 : decode prog_1_method_9_code 46 = .ok (.bipush 7, 2) := by decide +kernel
theorem dc_1_9_48 : decode prog_1_method_9_code 48 = .ok (.invokestatic 84, 3) := by decide +kernel
theorem dc_1_9_51 : decode prog_1_method_9_code 51 = .ok (.ifCond .ne 5, 3) := by decide +kernel
theorem dc_1_9_54 : decode prog_1_method_9_code 54 = .ok (.iconst (-1), 1) := by decide +kernel
theorem dc_1_9_55 : decode prog_1_method_9_code 55 = .ok (.ireturn, 1) := by decide +kernel
theorem dc_1_9_56 : decode prog_1_method_9_code 56 = .ok (.aload 6, 2) := by decide +kernel
theorem dc_1_9_58 : decode prog_1_method_9_code 58 = .ok (.iload_n 2, 1) := by decide +kernel
theorem dc_1_9_59 : decode prog_1_method_9_code 59 = .ok (.iload_n 3, 1) := by decide +kernel
theorem dc_1_9_60 : decode prog_1_method_9_code 60 = .ok (.iload 4, 2) := by decide +kernel
theorem dc_1_9_62 : decode prog_1_method_9_code 62 = .ok (.invokevirtual 161, 3) := by decide +kernel
theorem dc_1_9_65 : decode prog_1_method_9_code 65 = .ok (.iload 5, 2) := by decide +kernel
theorem dc_1_9_67 : decode prog_1_method_9_code 67 = .ok (.ishr, 1) := by decide +kernel
theorem dc_1_9_68 : decode prog_1_method_9_code 68 = .ok (.iconst 1, 1) := by decide +kernel
theorem dc_1_9_69 : decode prog_1_method_9_code 69 = .ok (.iand, 1) := by decide +kernel
theorem dc_1_9_70 : decode prog_1_method_9_code 70 = .ok (.ireturn, 1) := by decide +kernel
theorem iv_0_v244 : mm_iv 0 (.invokevirtual 244) = some (1, 149) := by decide +kernel
theorem iv_0_v248 : mm_iv 0 (.invokevirtual 248) = some (1, 152) := by decide +kernel
theorem iv_0_v251 : mm_iv 0 (.invokevirtual 251) = some (1, 154) := by decide +kernel
theorem iv_0_v270 : mm_iv 0 (.invokevirtual 270) = some (1, 161) := by decide +kernel
theorem iv_0_v278 : mm_iv 0 (.invokevirtual 278) = some (1, 167) := by decide +kernel
theorem iv_0_v285 : mm_iv 0 (.invokevirtual 285) = some (1, 168) := by decide +kernel
theorem iv_0_v288 : mm_iv 0 (.invokevirtual 288) = some (1, 169) := by decide +kernel
theorem o_149 : mm_o 149 = 9 := by decide +kernel
theorem o_161 : mm_o 161 = 0 := by decide +kernel
theorem o_167 : mm_o 167 = 0 := by decide +kernel
theorem o_169 : mm_o 169 = 9 := by decide +kernel
theorem na_1_149 : mm_nas 1 149 = 3 := by decide +kernel
theorem na_1_161 : mm_nas 1 161 = 4 := by decide +kernel
theorem na_1_167 : mm_nas 1 167 = 4 := by decide +kernel
theorem na_1_169 : mm_nas 1 169 = 3 := by decide +kernel
theorem nI_sb {a b : Nat} (h : b ≤ a) : nI a - nI b = nI (a - b) := by
  rw [show nI a = nI (a - b) + nI b by rw [nI_add, Nat.sub_add_cancel h]]
  exact Int32.add_sub_cancel _ _
theorem cn_int (a b : Nat) : ∀ n, cnP (fun j => a ≤ j ∧ j < b) n = min b n - a
  | 0 => by
    show 0 = min b 0 - a
    omega
  | n + 1 => by
    by_cases z : a ≤ n ∧ n < b
    · rw [cnP_t (P := fun j => a ≤ j ∧ j < b) z, cn_int a b n]
      omega
    · rw [cnP_f (P := fun j => a ≤ j ∧ j < b) z, cn_int a b n]
      omega
theorem fDy_ge {sg : Nat → Nat → Int32} {nf s : Nat} {t : Int32} {fr : Nat} (h : fr ≤ 360) : fr ≤ fDy sg nf s t fr := by
  unfold fDy
  split <;> omega
theorem dth_eq {sg : Nat → Nat → Int32} {nf s p fr tt t : Nat} (h : ∀ i, i < nf → sg 80 i = -1 ∨ inN (sg 80 i) 359) (h13 : sg 13 p = nI fr) (h14 : sg 14 p = nI tt) (hft : fr < tt) (htt : tt < 360) : sp_dth sg nf s p fr tt t = nI (dBh sg nf s (nI t) tt - fDy sg nf s (nI t) fr) := by
  unfold sp_dth
  have a1 := fDy_ge (sg := sg) (nf := nf) (s := s) (t := nI t) (fr := fr) (by omega)
  have a2 := dBh_le sg nf s (nI t) tt
  rw [sum_cn, cnP_c (Q := fun j => fDy sg nf s (nI t) fr - fr ≤ j ∧ j < dBh sg nf s (nI t) tt - fr) (fun j hj => ?_), cn_int]
  · refine congrArg nI ?_
    omega
  · rw [th_iff h h13 h14 hft htt (by omega)]
    omega
theorem hst_1 {sg : Nat → Nat → Int32} {s p : Nat} (h : sg 56 s = nI 1) (h7 : sg 57 s = nI p) : hst sg s = nI p := (if_pos h).trans h7
theorem hst_0 {sg : Nat → Nat → Int32} {s : Nat} (h : ¬ sg 56 s = nI 1) : hst sg s = -1 := if_neg h
theorem pl_of {sg : Nat → Nat → Int32} {nh nx s : Nat} (h : RVt sg nh nx s) (h1 : sg 56 s = nI 1) : ∃ x p, x < nx ∧ p < nh ∧ sg 58 s = nI x ∧ sg 57 s = nI p := by
  rcases h.2.2.2.2.2.2.2.2.2 with z | z
  · exact absurd h1 (fun y => z.1.elim (fun u => absurd (u.symm.trans y) (by decide)) (fun u => absurd (u.symm.trans y) (by decide)))
  · obtain ⟨-, x, p, a, b, c, d, -⟩ := z
    exact ⟨x, p, a, b, c, d⟩
theorem and_not (a b c : Int32) (h : b &&& a = c) : a &&& (b ^^^ -1) = a &&& (c ^^^ -1) := by
  subst h
  apply Int32.toBitVec_inj.mp
  apply BitVec.eq_of_getLsbD_eq
  intro i hi
  simp only [Int32.toBitVec_and, Int32.toBitVec_xor, BitVec.getLsbD_and, BitVec.getLsbD_xor]
  cases a.toBitVec.getLsbD i <;> cases b.toBitVec.getLsbD i <;> simp
theorem io5_o (io : Nat → Int32) (a b x y z : Int32) {k : Nat} (h : k < 73) : io5 io a b x y z k = io k := by
  unfold io5
  rw [up_o _ _ (by omega), up_o _ _ (by omega), up_o _ _ (by omega), up_o _ _ (by omega), up_o _ _ (by omega)]
set_option maxHeartbeats 4000000 in
theorem s_visa {M : mH} {T : Nat → mT} {cs sg : Nat → Nat → Int32} {io : Nat → Int32} {e : Nat → Nat} {D : Nat → Nat → Nat} {nh nx ns nf ny tp : Nat} {cm : Nat → Nat} {w : Nat → Nat → Nat} {cn : Nat → Nat} {wc : Nat → Nat → Nat} (hV : CV M T cs io sg e D nh nx ns nf ny tp cm w cn wc) (s t : Int32) : ∃ (v : Value), ∃ (cs2 : Nat → Nat → Int32), ∃ (io2 : Nat → Int32), ∃ (sg2 : Nat → Nat → Int32), ∃ (nf2 : Nat), ∃ (ny2 : Nat), ∃ (tp2 : Nat), (mm_Ev 8 259 [.ref 100, .int s, .int t] (rf_mk (hk M T cs2) io sg) (some v, rf_mk (hk M T cs2) io2 sg2) ∧ CV M T cs2 io2 sg2 e D nh nx ns nf2 ny2 tp2 cm w cn wc) ∧ mm_Ev 6 160 [.ref 0, .int s, .int t] (hk M T cs) ((some v, hk M T cs2)) := by
  have hq9 : ∃ z, (fun r9 => ∃ (v : Value), ∃ (cs2 : Nat → Nat → Int32), ∃ (io2 : Nat → Int32), ∃ (sg2 : Nat → Nat → Int32), ∃ (nf2 : Nat), ∃ (ny2 : Nat), ∃ (tp2 : Nat), (mm_Ev 8 259 [.ref 100, .int s, .int t] (rf_mk (hk M T cs2) io sg) (some v, rf_mk (hk M T cs2) io2 sg2) ∧ CV M T cs2 io2 sg2 e D nh nx ns nf2 ny2 tp2 cm w cn wc) ∧ r9 = ((some v, hk M T cs2))) z ∧ mm_Ev 6 160 [.ref 0, .int s, .int t] (hk M T cs) z := by
    obtain ⟨⟨hM, hMs, hW⟩, hC, hT, hR, hJ⟩ := id hV
    obtain ⟨hF, ⟨hL0, hL1, hL2⟩, hSc, hAg, hSt⟩ := id hC
    obtain ⟨⟨⟨h3, hnh⟩, ⟨h4, hnx⟩, ⟨h5, hns⟩, ⟨h7, hnf⟩, ⟨h6, hny⟩, ⟨h23, htp⟩⟩, hRa, hRb, hRs, hRs2, hRs3, hRx, hCD, hRt, hRt2, hRf⟩ := id hR
    refine r_evQ (by decide +kernel) (show (3 : Nat) ≤ mm_nL 160 by decide +kernel) ?_
    show mm_Ru 5 (0, 6, false, prog_1_method_25_code, some .int) 0 [(0, .ref 0), (1, .int s), (2, .int t)] [] (hk M T cs) (fun r9 => ∃ (v : Value), ∃ (cs2 : Nat → Nat → Int32), ∃ (io2 : Nat → Int32), ∃ (sg2 : Nat → Nat → Int32), ∃ (nf2 : Nat), ∃ (ny2 : Nat), ∃ (tp2 : Nat), (mm_Ev 8 259 [.ref 100, .int s, .int t] (rf_mk (hk M T cs2) io sg) (some v, rf_mk (hk M T cs2) io2 sg2) ∧ CV M T cs2 io2 sg2 e D nh nx ns nf2 ny2 tp2 cm w cn wc) ∧ r9 = ((some v, hk M T cs2)))
    refine r_aload_n rfl dc_1_25_0 ?_
    refine r_iload_n rfl dc_1_25_1 ?_
    by_cases h_2 : 0 ≤ s ∧ s < nI ns
    · skip
      obtain ⟨n_2, hn_2, e_2⟩ := g_lt h_2 (by omega)
      subst e_2
      refine h_callv (t := cT e 0) (as := [.int (nI n_2)]) (rest := []) (v := .ref (D 7 n_2)) (M1 := hk M T cs) rfl rfl iv_0_v180 (Or.inl rfl) na_1_102 (hF 0 (by decide)) ⟨by omega, by omega⟩ (show (0 : Nat) < 14 by decide) o_102 rfl (show (0 : Nat) ≤ 8 by decide) dc_1_25_2 (mm_Ev_up (by decide : 4 ≤ 5) (k_stAt_ok hV n_2 hn_2)) ?_
      refine r_astore_n (ls' := [(3, .ref (D 7 n_2)), (0, .ref 0), (1, .int (nI n_2)), (2, .int t)]) (by decide) rfl dc_1_25_5 ?_
      refine r_aload_n rfl dc_1_25_6 ?_
      refine r_ifnull dc_1_25_7 ?_
      refine r_iload_n rfl dc_1_25_10 ?_
      by_cases h_11 : nI 0 ≤ t ∧ t ≤ nI 359
      · skip
        obtain ⟨n_11, hn_11, e_11⟩ := g_nat2 h_11 (by omega) (by omega)
        subst e_11
        refine h_callS (as := [.int (nI n_11)]) (rest := []) (v := .int (nI 1)) rfl rfl iv_0_s108 (Or.inl rfl) na_0_25 rfl (show (0 : Nat) ≤ 8 by decide) dc_1_25_11 (mm_Ev_up (by decide : 2 ≤ 5) (by have h9 := k_isDay (hk M T cs) (nI n_11); rw [show sp_in (nI n_11) (nI 0) (nI 359) = nI 1 from sp_in_ok (by omega) (by omega) (by omega)] at h9; exact h9)) ?_
        refine r_ifne (t := 19) (by decide) dc_1_25_14 (fun c_14 => ?_) (fun c_14 => ?_)
        · skip
          obtain ⟨hm, hhm, e51⟩ := (hRt n_2 hn_2).1
          by_cases h56 : sg 56 n_2 = nI 1
          · skip
            obtain ⟨xx, p, hxx, hp, e58, e57⟩ := pl_of (hRt n_2 hn_2) h56
            obtain ⟨fr, tt, hft, htt, e13, e14⟩ := (hRs p hp).2.2.2.1
            refine r_aload_n rfl dc_1_25_19 ?_
            refine r_aload_n rfl dc_1_25_20 ?_
            refine h_callv (t := (11, 0, rl [(6, D 9 n_2), (5, D 8 n_2)])) (as := []) (rest := [.ref 0]) (v := .int (nI p)) (M1 := hk M T cs) rfl rfl iv_0_v261 (Or.inl rfl) na_1_118 (hSt n_2 (by omega)).1 (hSt n_2 (by omega)).2.1 (show (11 : Nat) < 14 by decide) o_118 rfl (show (1 : Nat) ≤ 8 by decide) dc_1_25_21 (by rw [← hst_1 h56 e57]; exact mm_Ev_up (by decide : 2 ≤ 5) (k_host M T cs sg D n_2 _ (hV.2.1.2.2.2.2 n_2 (by omega)) (inN_tN (hRt n_2 (by omega)).2.2.2.2.2.2.1 (by decide)).2)) ?_
            refine h_callv (t := cT e 0) (as := [.int (nI p)]) (rest := []) (v := .ref (D 0 p)) (M1 := hk M T cs) rfl rfl iv_0_v128 (Or.inl rfl) na_1_39 (hF 0 (by decide)) ⟨by omega, by omega⟩ (show (0 : Nat) < 14 by decide) o_39 rfl (show (0 : Nat) ≤ 8 by decide) dc_1_25_24 (mm_Ev_up (by decide : 4 ≤ 5) (k_scAt_ok hV p hp)) ?_
            refine r_astore (ls' := [(4, .ref (D 0 p)), (3, .ref (D 7 n_2)), (0, .ref 0), (1, .int (nI n_2)), (2, .int (nI n_11))]) (by decide) rfl dc_1_25_27 ?_
            refine r_aload_n rfl dc_1_25_29 ?_
            refine r_aload_n rfl dc_1_25_30 ?_
            refine h_get (t := (11, 0, rl [(6, D 9 n_2), (5, D 8 n_2)])) (v := .int (nI hm)) fx_0_264 (hSt n_2 (by omega)).1 (hSt n_2 (by omega)).2.1 (show some (Value.int _) = _ from congrArg (fun z => some (Value.int z)) (((hV.2.1.2.2.2.2 n_2 (by omega)).2.2.2.1.1).trans e51)) dc_1_25_31 ?_
            refine h_callv (t := cT e 0) (as := [.int (nI hm)]) (rest := []) (v := .ref (D 0 hm)) (M1 := hk M T cs) rfl rfl iv_0_v128 (Or.inl rfl) na_1_39 (hF 0 (by decide)) ⟨by omega, by omega⟩ (show (0 : Nat) < 14 by decide) o_39 rfl (show (0 : Nat) ≤ 8 by decide) dc_1_25_34 (mm_Ev_up (by decide : 4 ≤ 5) (k_scAt_ok hV hm hhm)) ?_
            refine r_astore (ls' := [(5, .ref (D 0 hm)), (4, .ref (D 0 p)), (3, .ref (D 7 n_2)), (0, .ref 0), (1, .int (nI n_2)), (2, .int (nI n_11))]) (by decide) rfl dc_1_25_37 ?_
            refine r_aload rfl dc_1_25_39 ?_
            refine r_ifnull dc_1_25_41 ?_
            refine r_aload rfl dc_1_25_44 ?_
            refine r_ifnonnull (t := 51) (by decide) dc_1_25_46 ?_
            refine r_aload rfl dc_1_25_51 ?_
            refine h_get (t := (9, 0, rl [(6, D 1 p)])) (v := .int (sg 9 p)) fx_0_267 (hSc p (by omega)).1 (hSc p (by omega)).2.1 (show some (Value.int _) = _ from congrArg (fun z => some (Value.int z)) ((hV.2.1.2.2.1 p (by omega)).2.2.1.1)) dc_1_25_53 ?_
            refine r_aload rfl dc_1_25_56 ?_
            refine h_get (t := (9, 0, rl [(6, D 1 hm)])) (v := .int (sg 9 hm)) fx_0_267 (hSc hm (by omega)).1 (hSc hm (by omega)).2.1 (show some (Value.int _) = _ from congrArg (fun z => some (Value.int z)) ((hV.2.1.2.2.1 hm (by omega)).2.2.1.1)) dc_1_25_58 ?_
            refine r_icne (t := 68) (by decide) dc_1_25_61 (fun c_61 => ?_) (fun c_61 => ?_)
            · skip
              refine r_aload_n rfl dc_1_25_68 ?_
              refine r_aload rfl dc_1_25_69 ?_
              refine r_aload_n rfl dc_1_25_71 ?_
              refine h_get (t := cT e 0) (v := .ref 20) fx_0_54 (hF 0 (by decide)) ⟨by omega, by omega⟩ (rfl) dc_1_25_72 ?_
              refine r_iload_n rfl dc_1_25_75 ?_
              refine r_iconst (v := nI 0) (by decide) dc_1_25_76 ?_
              refine r_iload_n rfl dc_1_25_77 ?_
              refine h_callv (t := cT e 20) (as := [.int (nI n_2), .int (nI 0), .int (nI n_11)]) (rest := [.ref (D 0 p), .ref 0]) (v := .int (sp_kn sg (nI n_2) (nI 0) (nI n_11) nf)) (M1 := hk M T cs) rfl rfl iv_0_v258 (Or.inl rfl) na_1_159 (hF 20 (by decide)) ⟨by omega, by omega⟩ (show (5 : Nat) < 14 by decide) o_159 rfl (show (2 : Nat) ≤ 8 by decide) dc_1_25_78 (mm_Ev_up (by decide : 2 ≤ 5) (k_dayOf M hM T e hF cs sg nf hT.2.2.2.2.1 hnf hT.2.2.2.2.2.2 (nI n_2) (nI 0) (nI n_11))) ?_
              refine r_aload_n rfl dc_1_25_81 ?_
              refine h_get (t := cT e 0) (v := .ref 20) fx_0_54 (hF 0 (by decide)) ⟨by omega, by omega⟩ (rfl) dc_1_25_82 ?_
              refine r_iload_n rfl dc_1_25_85 ?_
              refine r_iconst (v := nI 1) (by decide) dc_1_25_86 ?_
              refine r_iload_n rfl dc_1_25_87 ?_
              refine h_callv (t := cT e 20) (as := [.int (nI n_2), .int (nI 1), .int (nI n_11)]) (rest := [.int (sp_kn sg (nI n_2) (nI 0) (nI n_11) nf), .ref (D 0 p), .ref 0]) (v := .int (sp_kn sg (nI n_2) (nI 1) (nI n_11) nf)) (M1 := hk M T cs) rfl rfl iv_0_v258 (Or.inl rfl) na_1_159 (hF 20 (by decide)) ⟨by omega, by omega⟩ (show (5 : Nat) < 14 by decide) o_159 rfl (show (3 : Nat) ≤ 8 by decide) dc_1_25_88 (mm_Ev_up (by decide : 2 ≤ 5) (k_dayOf M hM T e hF cs sg nf hT.2.2.2.2.1 hnf hT.2.2.2.2.2.2 (nI n_2) (nI 1) (nI n_11))) ?_
              have q9 := inN_tN (hRs p hp).1 (by decide)
              obtain ⟨va, vb, hab, hb2, hva, hvb⟩ := hRa (tN (sg 9 p)) (by omega)
              refine h_callv (t := cT e 0) (as := [.ref (D 0 p), .int (sp_kn sg (nI n_2) (nI 0) (nI n_11) nf), .int (sp_kn sg (nI n_2) (nI 1) (nI n_11) nf)]) (rest := []) (v := .int (vIT (sp_kn sg (nI n_2) (nI 0) (nI n_11) nf) (sp_kn sg (nI n_2) (nI 1) (nI n_11) nf) fr va vb)) (M1 := hk M T cs) rfl rfl iv_0_v270 (Or.inl rfl) na_1_161 (hF 0 (by decide)) ⟨by omega, by omega⟩ (show (0 : Nat) < 14 by decide) o_161 rfl (show (0 : Nat) ≤ 8 by decide) dc_1_25_91 (mm_Ev_up (by decide : 2 ≤ 5) (k_visaT hV p fr tt hp e13 e14 hft htt (tN (sg 9 p)) va vb q9.1 (by omega) hva hvb hab hb2 _ _ (kn_in hRf (nI n_2) (nI 0) (nI n_11) nf (Nat.le_refl _)))) ?_
              refine r_iret rfl dc_1_25_94 ?_
              have hr := c_visa_ok (hk M T cs) hM io sg ns h5 hns nf h7 hnf n_2 p hm hn_2 h56 e57 (by omega) e51 (by omega) (tN (sg 9 p)) q9.1 (by omega) n_11 (by omega)
              unfold sp_visa at hr
              rw [if_neg c_61, e13, hva, hvb] at hr
              unfold vIT
              refine ⟨_, _, io, sg, nf, ny, tp, ⟨mm_Ev_up (by decide) (hr), hV⟩, rfl⟩
            · skip
              refine r_iconst (v := nI 2) (by decide) dc_1_25_64 ?_
              refine r_goto (t := 94) (by decide) dc_1_25_65 ?_
              refine r_iret rfl dc_1_25_94 ?_
              have q9 := inN_tN (hRs p hp).1 (by decide)
              have hr := c_visa_ok (hk M T cs) hM io sg ns h5 hns nf h7 hnf n_2 p hm hn_2 h56 e57 (by omega) e51 (by omega) (tN (sg 9 p)) q9.1 (by omega) n_11 (by omega)
              unfold sp_visa at hr
              rw [if_pos c_61] at hr
              refine ⟨_, _, io, sg, nf, ny, tp, ⟨mm_Ev_up (by decide) (hr), hV⟩, rfl⟩
          · skip
            refine r_aload_n rfl dc_1_25_19 ?_
            refine r_aload_n rfl dc_1_25_20 ?_
            refine h_callv (t := (11, 0, rl [(6, D 9 n_2), (5, D 8 n_2)])) (as := []) (rest := [.ref 0]) (v := .int ((-1))) (M1 := hk M T cs) rfl rfl iv_0_v261 (Or.inl rfl) na_1_118 (hSt n_2 (by omega)).1 (hSt n_2 (by omega)).2.1 (show (11 : Nat) < 14 by decide) o_118 rfl (show (1 : Nat) ≤ 8 by decide) dc_1_25_21 (by rw [← hst_0 h56]; exact mm_Ev_up (by decide : 2 ≤ 5) (k_host M T cs sg D n_2 _ (hV.2.1.2.2.2.2 n_2 (by omega)) (inN_tN (hRt n_2 (by omega)).2.2.2.2.2.2.1 (by decide)).2)) ?_
            refine h_callv (t := cT e 0) (as := [.int ((-1))]) (rest := []) (v := .null) (M1 := hk M T cs) rfl rfl iv_0_v128 (Or.inl rfl) na_1_39 (hF 0 (by decide)) ⟨by omega, by omega⟩ (show (0 : Nat) < 14 by decide) o_39 rfl (show (0 : Nat) ≤ 8 by decide) dc_1_25_24 (mm_Ev_up (by decide : 2 ≤ 5) (k_scAt_no hV (-1) (fun z => absurd z.1 (by decide)))) ?_
            refine r_astoreZ (ls' := [(4, .null), (3, .ref (D 7 n_2)), (0, .ref 0), (1, .int (nI n_2)), (2, .int (nI n_11))]) (by decide) rfl dc_1_25_27 ?_
            refine r_aload_n rfl dc_1_25_29 ?_
            refine r_aload_n rfl dc_1_25_30 ?_
            refine h_get (t := (11, 0, rl [(6, D 9 n_2), (5, D 8 n_2)])) (v := .int (nI hm)) fx_0_264 (hSt n_2 (by omega)).1 (hSt n_2 (by omega)).2.1 (show some (Value.int _) = _ from congrArg (fun z => some (Value.int z)) (((hV.2.1.2.2.2.2 n_2 (by omega)).2.2.2.1.1).trans e51)) dc_1_25_31 ?_
            refine h_callv (t := cT e 0) (as := [.int (nI hm)]) (rest := []) (v := .ref (D 0 hm)) (M1 := hk M T cs) rfl rfl iv_0_v128 (Or.inl rfl) na_1_39 (hF 0 (by decide)) ⟨by omega, by omega⟩ (show (0 : Nat) < 14 by decide) o_39 rfl (show (0 : Nat) ≤ 8 by decide) dc_1_25_34 (mm_Ev_up (by decide : 4 ≤ 5) (k_scAt_ok hV hm hhm)) ?_
            refine r_astore (ls' := [(5, .ref (D 0 hm)), (4, .null), (3, .ref (D 7 n_2)), (0, .ref 0), (1, .int (nI n_2)), (2, .int (nI n_11))]) (by decide) rfl dc_1_25_37 ?_
            refine r_aloadZ rfl dc_1_25_39 ?_
            refine r_ifnullZ (t := 49) (by decide) dc_1_25_41 ?_
            refine r_iconst (v := -1) (by decide) dc_1_25_49 ?_
            refine r_iret rfl dc_1_25_50 ?_
            refine ⟨_, _, io, sg, nf, ny, tp, ⟨mm_Ev_up (by decide) (c_visa_n2 (hk M T cs) hM io sg ns h5 hns n_2 _ hn_2 (fun g => h56 g.1)), hV⟩, rfl⟩
        · exact absurd c_14 (by decide)
      · skip
        refine h_callS (as := [.int t]) (rest := []) (v := .int (nI 0)) rfl rfl iv_0_s108 (Or.inl rfl) na_0_25 rfl (show (0 : Nat) ≤ 8 by decide) dc_1_25_11 (mm_Ev_up (by decide : 2 ≤ 5) (by have h9 := k_isDay (hk M T cs) t; rw [show sp_in t (nI 0) (nI 359) = nI 0 from if_neg h_11] at h9; exact h9)) ?_
        refine r_ifne (t := 19) (by decide) dc_1_25_14 (fun c_14 => ?_) (fun c_14 => ?_)
        · exact absurd c_14 (by decide)
        · skip
          refine r_iconst (v := -1) (by decide) dc_1_25_17 ?_
          refine r_iret rfl dc_1_25_18 ?_
          refine ⟨_, _, io, sg, nf, ny, tp, ⟨mm_Ev_up (by decide) (c_visa_n2 (hk M T cs) hM io sg ns h5 hns n_2 _ hn_2 (fun g => h_11 (g_day.mp g.2))), hV⟩, rfl⟩
    · skip
      refine h_callv (t := cT e 0) (as := [.int s]) (rest := []) (v := .null) (M1 := hk M T cs) rfl rfl iv_0_v180 (Or.inl rfl) na_1_102 (hF 0 (by decide)) ⟨by omega, by omega⟩ (show (0 : Nat) < 14 by decide) o_102 rfl (show (0 : Nat) ≤ 8 by decide) dc_1_25_2 (mm_Ev_up (by decide : 2 ≤ 5) (k_stAt_no hV s h_2)) ?_
      refine r_astore_nZ (ls' := [(3, .null), (0, .ref 0), (1, .int s), (2, .int t)]) (by decide) rfl dc_1_25_5 ?_
      refine r_aload_nZ rfl dc_1_25_6 ?_
      refine r_ifnullZ (t := 17) (by decide) dc_1_25_7 ?_
      refine r_iconst (v := -1) (by decide) dc_1_25_17 ?_
      refine r_iret rfl dc_1_25_18 ?_
      refine ⟨_, _, io, sg, nf, ny, tp, ⟨mm_Ev_up (by decide) (c_visa_no (hk M T cs) hM io sg _ _ (fun g => h_2 (by rw [← h5]; exact g))), hV⟩, rfl⟩
  obtain ⟨z9, ⟨v, cs2, io2, sg2, nf2, ny2, tp2, p9, e9⟩, h9⟩ := hq9
  subst e9
  exact ⟨v, cs2, io2, sg2, nf2, ny2, tp2, p9, h9⟩
theorem st_visa (s t : Int32) : StpN 160 259 [.int s, .int t] := fun M T cs sg io e D nh nx ns nf ny tp cm w cn wc hV => by
  obtain ⟨v, cs2, io2, sg2, nf2, ny2, tp2, hp, h⟩ := s_visa hV s t
  exact ⟨v, cs2, io2, sg2, nf2, ny2, tp2, hp, mm_Ev_up (by decide) h⟩
set_option maxHeartbeats 4000000 in
theorem s_meets {M : mH} {T : Nat → mT} {cs sg : Nat → Nat → Int32} {io : Nat → Int32} {e : Nat → Nat} {D : Nat → Nat → Nat} {nh nx ns nf ny tp : Nat} {cm : Nat → Nat} {w : Nat → Nat → Nat} {cn : Nat → Nat} {wc : Nat → Nat → Nat} (hV : CV M T cs io sg e D nh nx ns nf ny tp cm w cn wc) (x g t c u : Int32) : ∃ (v : Value), ∃ (cs2 : Nat → Nat → Int32), ∃ (io2 : Nat → Int32), ∃ (sg2 : Nat → Nat → Int32), ∃ (nf2 : Nat), ∃ (ny2 : Nat), ∃ (tp2 : Nat), (mm_Ev 8 211 [.ref 100, .int x, .int g, .int t, .int c, .int u] (rf_mk (hk M T cs2) io sg) (some v, rf_mk (hk M T cs2) io2 sg2) ∧ CV M T cs2 io2 sg2 e D nh nx ns nf2 ny2 tp2 cm w cn wc) ∧ mm_Ev 6 84 [.ref 0, .int x, .int g, .int t, .int c, .int u] (hk M T cs) ((some v, hk M T cs2)) := by
  have hq9 : ∃ z, (fun r9 => ∃ (v : Value), ∃ (cs2 : Nat → Nat → Int32), ∃ (io2 : Nat → Int32), ∃ (sg2 : Nat → Nat → Int32), ∃ (nf2 : Nat), ∃ (ny2 : Nat), ∃ (tp2 : Nat), (mm_Ev 8 211 [.ref 100, .int x, .int g, .int t, .int c, .int u] (rf_mk (hk M T cs2) io sg) (some v, rf_mk (hk M T cs2) io2 sg2) ∧ CV M T cs2 io2 sg2 e D nh nx ns nf2 ny2 tp2 cm w cn wc) ∧ r9 = ((some v, hk M T cs2))) z ∧ mm_Ev 6 84 [.ref 0, .int x, .int g, .int t, .int c, .int u] (hk M T cs) z := by
    obtain ⟨⟨hM, hMs, hW⟩, hC, hT, hR, hJ⟩ := id hV
    obtain ⟨hF, ⟨hL0, hL1, hL2⟩, hSc, hAg, hSt⟩ := id hC
    obtain ⟨⟨⟨h3, hnh⟩, ⟨h4, hnx⟩, ⟨h5, hns⟩, ⟨h7, hnf⟩, ⟨h6, hny⟩, ⟨h23, htp⟩⟩, hRa, hRb, hRs, hRs2, hRs3, hRx, hCD, hRt, hRt2, hRf⟩ := id hR
    refine r_evQ (by decide +kernel) (show (6 : Nat) ≤ mm_nL 84 by decide +kernel) ?_
    show mm_Ru 5 (0, 7, false, prog_1_method_9_code, some .int) 0 [(0, .ref 0), (1, .int x), (2, .int g), (3, .int t), (4, .int c), (5, .int u)] [] (hk M T cs) (fun r9 => ∃ (v : Value), ∃ (cs2 : Nat → Nat → Int32), ∃ (io2 : Nat → Int32), ∃ (sg2 : Nat → Nat → Int32), ∃ (nf2 : Nat), ∃ (ny2 : Nat), ∃ (tp2 : Nat), (mm_Ev 8 211 [.ref 100, .int x, .int g, .int t, .int c, .int u] (rf_mk (hk M T cs2) io sg) (some v, rf_mk (hk M T cs2) io2 sg2) ∧ CV M T cs2 io2 sg2 e D nh nx ns nf2 ny2 tp2 cm w cn wc) ∧ r9 = ((some v, hk M T cs2)))
    refine r_aload_n rfl dc_1_9_0 ?_
    refine r_iload_n rfl dc_1_9_1 ?_
    by_cases h_2 : 0 ≤ x ∧ x < nI nx
    · skip
      obtain ⟨n_2, hn_2, e_2⟩ := g_lt h_2 (by omega)
      subst e_2
      refine h_callv (t := cT e 0) (as := [.int (nI n_2)]) (rest := []) (v := .ref (D 4 n_2)) (M1 := hk M T cs) rfl rfl iv_0_v157 (Or.inl rfl) na_1_85 (hF 0 (by decide)) ⟨by omega, by omega⟩ (show (0 : Nat) < 14 by decide) o_85 rfl (show (0 : Nat) ≤ 8 by decide) dc_1_9_2 (mm_Ev_up (by decide : 4 ≤ 5) (k_agAt_ok hV n_2 hn_2)) ?_
      refine r_astore (ls' := [(6, .ref (D 4 n_2)), (0, .ref 0), (1, .int (nI n_2)), (2, .int g), (3, .int t), (4, .int c), (5, .int u)]) (by decide) rfl dc_1_9_5 ?_
      refine r_aload rfl dc_1_9_7 ?_
      refine r_ifnull dc_1_9_9 ?_
      refine r_iload_n rfl dc_1_9_12 ?_
      refine r_iconst (v := nI 0) (by decide) dc_1_9_13 ?_
      refine r_bipush (v := nI 100) (by decide) dc_1_9_14 ?_
      by_cases h_16 : nI 0 ≤ g ∧ g ≤ nI 100
      · skip
        obtain ⟨n_16, hn_16, e_16⟩ := g_nat2 h_16 (by omega) (by omega)
        subst e_16
        refine h_callS (as := [.int (nI n_16), .int (nI 0), .int (nI 100)]) (rest := []) (v := .int (nI 1)) rfl rfl iv_0_s84 (Or.inl rfl) na_0_13 rfl (show (0 : Nat) ≤ 8 by decide) dc_1_9_16 (mm_Ev_up (by decide : 1 ≤ 5) (by have h9 := k_in (hk M T cs) (nI n_16) (nI 0) (nI 100); rw [show sp_in (nI n_16) (nI 0) (nI 100) = nI 1 from sp_in_ok (by omega) (by omega) (by omega)] at h9; exact h9)) ?_
        refine r_ifeq (t := 54) (by decide) dc_1_9_19 (fun c_19 => ?_) (fun c_19 => ?_)
        · exact absurd c_19 (by decide)
        · skip
          refine r_iload_n rfl dc_1_9_22 ?_
          refine r_iconst (v := nI 0) (by decide) dc_1_9_23 ?_
          refine r_bipush (v := nI 9) (by decide) dc_1_9_24 ?_
          by_cases h_26 : nI 0 ≤ t ∧ t ≤ nI 9
          · skip
            obtain ⟨n_26, hn_26, e_26⟩ := g_nat2 h_26 (by omega) (by omega)
            subst e_26
            refine h_callS (as := [.int (nI n_26), .int (nI 0), .int (nI 9)]) (rest := []) (v := .int (nI 1)) rfl rfl iv_0_s84 (Or.inl rfl) na_0_13 rfl (show (0 : Nat) ≤ 8 by decide) dc_1_9_26 (mm_Ev_up (by decide : 1 ≤ 5) (by have h9 := k_in (hk M T cs) (nI n_26) (nI 0) (nI 9); rw [show sp_in (nI n_26) (nI 0) (nI 9) = nI 1 from sp_in_ok (by omega) (by omega) (by omega)] at h9; exact h9)) ?_
            refine r_ifeq (t := 54) (by decide) dc_1_9_29 (fun c_29 => ?_) (fun c_29 => ?_)
            · exact absurd c_29 (by decide)
            · skip
              refine r_iload rfl dc_1_9_32 ?_
              refine r_iconst (v := nI 0) (by decide) dc_1_9_34 ?_
              refine r_bipush (v := nI 99) (by decide) dc_1_9_35 ?_
              by_cases h_37 : nI 0 ≤ c ∧ c ≤ nI 99
              · skip
                obtain ⟨n_37, hn_37, e_37⟩ := g_nat2 h_37 (by omega) (by omega)
                subst e_37
                refine h_callS (as := [.int (nI n_37), .int (nI 0), .int (nI 99)]) (rest := []) (v := .int (nI 1)) rfl rfl iv_0_s84 (Or.inl rfl) na_0_13 rfl (show (0 : Nat) ≤ 8 by decide) dc_1_9_37 (mm_Ev_up (by decide : 1 ≤ 5) (by have h9 := k_in (hk M T cs) (nI n_37) (nI 0) (nI 99); rw [show sp_in (nI n_37) (nI 0) (nI 99) = nI 1 from sp_in_ok (by omega) (by omega) (by omega)] at h9; exact h9)) ?_
                refine r_ifeq (t := 54) (by decide) dc_1_9_40 (fun c_40 => ?_) (fun c_40 => ?_)
                · exact absurd c_40 (by decide)
                · skip
                  refine r_iload rfl dc_1_9_43 ?_
                  refine r_iconst (v := nI 0) (by decide) dc_1_9_45 ?_
                  refine r_bipush (v := nI 7) (by decide) dc_1_9_46 ?_
                  by_cases h_48 : nI 0 ≤ u ∧ u ≤ nI 7
                  · skip
                    obtain ⟨n_48, hn_48, e_48⟩ := g_nat2 h_48 (by omega) (by omega)
                    subst e_48
                    refine h_callS (as := [.int (nI n_48), .int (nI 0), .int (nI 7)]) (rest := []) (v := .int (nI 1)) rfl rfl iv_0_s84 (Or.inl rfl) na_0_13 rfl (show (0 : Nat) ≤ 8 by decide) dc_1_9_48 (mm_Ev_up (by decide : 1 ≤ 5) (by have h9 := k_in (hk M T cs) (nI n_48) (nI 0) (nI 7); rw [show sp_in (nI n_48) (nI 0) (nI 7) = nI 1 from sp_in_ok (by omega) (by omega) (by omega)] at h9; exact h9)) ?_
                    refine r_ifne (t := 56) (by decide) dc_1_9_51 (fun c_51 => ?_) (fun c_51 => ?_)
                    · skip
                      refine r_aload rfl dc_1_9_56 ?_
                      refine r_iload_n rfl dc_1_9_58 ?_
                      refine r_iload_n rfl dc_1_9_59 ?_
                      refine r_iload rfl dc_1_9_60 ?_
                      obtain ⟨q9, k9, ⟨hk9, hm9⟩, hev9⟩ := k_subj M T cs sg D n_2 _ _ (hAg n_2 hn_2) n_16 n_26 n_37 (by omega) (by omega) (by omega)
                      have hf9 : FrD D nx cs (wA cs (D 6 n_2) q9) := fun a h2 => wA_o _ _ (h2 n_2 hn_2)
                      have hbt := (bI_sh n_48 (by omega) k9 hk9).trans ((hm9 n_48 (by omega)).trans (pI_iff ((hRx n_2 hn_2).2.2.2.2.2.2.1 n_16 n_26 n_37 n_48)))
                      refine h_callv (t := (10, 0, rl [(9, D 6 n_2), (8, D 5 n_2)])) (as := [.int (nI n_16), .int (nI n_26), .int (nI n_37)]) (rest := []) (v := .int (nI k9)) (M1 := hk M T (wA cs (D 6 n_2) q9)) rfl rfl iv_0_v161 (Or.inl rfl) na_1_86 (hAg n_2 (by omega)).1 (hAg n_2 (by omega)).2.1 (show (10 : Nat) < 14 by decide) o_86 rfl (show (0 : Nat) ≤ 8 by decide) dc_1_9_62 (mm_Ev_up (by decide : 3 ≤ 5) (hev9)) ?_
                      refine r_iload rfl dc_1_9_65 ?_
                      refine r_ishr (v := (nI k9) >>> (nI n_48 &&& 31)) (rfl) dc_1_9_67 ?_
                      refine r_iconst (v := nI 1) (by decide) dc_1_9_68 ?_
                      refine r_iand (v := pI (sp_met (w n_2) (cm n_2) n_16 n_26 n_37 n_48)) (hbt) dc_1_9_69 ?_
                      refine r_iret rfl dc_1_9_70 ?_
                      obtain ⟨c1, c2, c3, c4, c5⟩ := hCD n_2 hn_2
                      obtain ⟨q, hq⟩ := c_meets_ok (hk M T (wA cs (D 6 n_2) q9)) hM io sg nx h4 hnx n_2 (cm n_2) (w n_2) hn_2 c1 c2 c3 (fun k hk => by have := c4 k hk; omega) c5.1 n_16 n_26 n_37 n_48 (by omega) (by omega) (by omega) (by omega)
                      refine ⟨_, _, io, (va_up sg 48 q), nf, ny, tp, ⟨mm_Ev_up (by decide) (hq), CV_sc hV (FrD_C hf9) (fun k h1 h2 => up_o sg q (by omega)) (fun k _ => rfl)⟩, rfl⟩
                    · exact absurd c_51 (by decide)
                  · skip
                    refine h_callS (as := [.int u, .int (nI 0), .int (nI 7)]) (rest := []) (v := .int (nI 0)) rfl rfl iv_0_s84 (Or.inl rfl) na_0_13 rfl (show (0 : Nat) ≤ 8 by decide) dc_1_9_48 (mm_Ev_up (by decide : 1 ≤ 5) (by have h9 := k_in (hk M T cs) u (nI 0) (nI 7); rw [show sp_in u (nI 0) (nI 7) = nI 0 from if_neg h_48] at h9; exact h9)) ?_
                    refine r_ifne (t := 56) (by decide) dc_1_9_51 (fun c_51 => ?_) (fun c_51 => ?_)
                    · exact absurd c_51 (by decide)
                    · skip
                      refine r_iconst (v := -1) (by decide) dc_1_9_54 ?_
                      refine r_iret rfl dc_1_9_55 ?_
                      refine ⟨_, _, io, sg, nf, ny, tp, ⟨mm_Ev_up (by decide) (c_meets_no (hk M T cs) hM io sg _ _ _ _ _ (fun g => h_48 (g.2.2.2.2))), hV⟩, rfl⟩
              · skip
                refine h_callS (as := [.int c, .int (nI 0), .int (nI 99)]) (rest := []) (v := .int (nI 0)) rfl rfl iv_0_s84 (Or.inl rfl) na_0_13 rfl (show (0 : Nat) ≤ 8 by decide) dc_1_9_37 (mm_Ev_up (by decide : 1 ≤ 5) (by have h9 := k_in (hk M T cs) c (nI 0) (nI 99); rw [show sp_in c (nI 0) (nI 99) = nI 0 from if_neg h_37] at h9; exact h9)) ?_
                refine r_ifeq (t := 54) (by decide) dc_1_9_40 (fun c_40 => ?_) (fun c_40 => ?_)
                · skip
                  refine r_iconst (v := -1) (by decide) dc_1_9_54 ?_
                  refine r_iret rfl dc_1_9_55 ?_
                  refine ⟨_, _, io, sg, nf, ny, tp, ⟨mm_Ev_up (by decide) (c_meets_no (hk M T cs) hM io sg _ _ _ _ _ (fun g => h_37 (g.2.2.2.1))), hV⟩, rfl⟩
                · exact absurd c_40 (by decide)
          · skip
            refine h_callS (as := [.int t, .int (nI 0), .int (nI 9)]) (rest := []) (v := .int (nI 0)) rfl rfl iv_0_s84 (Or.inl rfl) na_0_13 rfl (show (0 : Nat) ≤ 8 by decide) dc_1_9_26 (mm_Ev_up (by decide : 1 ≤ 5) (by have h9 := k_in (hk M T cs) t (nI 0) (nI 9); rw [show sp_in t (nI 0) (nI 9) = nI 0 from if_neg h_26] at h9; exact h9)) ?_
            refine r_ifeq (t := 54) (by decide) dc_1_9_29 (fun c_29 => ?_) (fun c_29 => ?_)
            · skip
              refine r_iconst (v := -1) (by decide) dc_1_9_54 ?_
              refine r_iret rfl dc_1_9_55 ?_
              refine ⟨_, _, io, sg, nf, ny, tp, ⟨mm_Ev_up (by decide) (c_meets_no (hk M T cs) hM io sg _ _ _ _ _ (fun g => h_26 (g.2.2.1))), hV⟩, rfl⟩
            · exact absurd c_29 (by decide)
      · skip
        refine h_callS (as := [.int g, .int (nI 0), .int (nI 100)]) (rest := []) (v := .int (nI 0)) rfl rfl iv_0_s84 (Or.inl rfl) na_0_13 rfl (show (0 : Nat) ≤ 8 by decide) dc_1_9_16 (mm_Ev_up (by decide : 1 ≤ 5) (by have h9 := k_in (hk M T cs) g (nI 0) (nI 100); rw [show sp_in g (nI 0) (nI 100) = nI 0 from if_neg h_16] at h9; exact h9)) ?_
        refine r_ifeq (t := 54) (by decide) dc_1_9_19 (fun c_19 => ?_) (fun c_19 => ?_)
        · skip
          refine r_iconst (v := -1) (by decide) dc_1_9_54 ?_
          refine r_iret rfl dc_1_9_55 ?_
          refine ⟨_, _, io, sg, nf, ny, tp, ⟨mm_Ev_up (by decide) (c_meets_no (hk M T cs) hM io sg _ _ _ _ _ (fun g => h_16 (g.2.1))), hV⟩, rfl⟩
        · exact absurd c_19 (by decide)
    · skip
      refine h_callv (t := cT e 0) (as := [.int x]) (rest := []) (v := .null) (M1 := hk M T cs) rfl rfl iv_0_v157 (Or.inl rfl) na_1_85 (hF 0 (by decide)) ⟨by omega, by omega⟩ (show (0 : Nat) < 14 by decide) o_85 rfl (show (0 : Nat) ≤ 8 by decide) dc_1_9_2 (mm_Ev_up (by decide : 2 ≤ 5) (k_agAt_no hV x h_2)) ?_
      refine r_astoreZ (ls' := [(6, .null), (0, .ref 0), (1, .int x), (2, .int g), (3, .int t), (4, .int c), (5, .int u)]) (by decide) rfl dc_1_9_5 ?_
      refine r_aloadZ rfl dc_1_9_7 ?_
      refine r_ifnullZ (t := 54) (by decide) dc_1_9_9 ?_
      refine r_iconst (v := -1) (by decide) dc_1_9_54 ?_
      refine r_iret rfl dc_1_9_55 ?_
      refine ⟨_, _, io, sg, nf, ny, tp, ⟨mm_Ev_up (by decide) (c_meets_no (hk M T cs) hM io sg _ _ _ _ _ (fun g => h_2 (by rw [← h4]; exact g.1))), hV⟩, rfl⟩
  obtain ⟨z9, ⟨v, cs2, io2, sg2, nf2, ny2, tp2, p9, e9⟩, h9⟩ := hq9
  subst e9
  exact ⟨v, cs2, io2, sg2, nf2, ny2, tp2, p9, h9⟩
theorem st_meets (x g t c u : Int32) : StpN 84 211 [.int x, .int g, .int t, .int c, .int u] := fun M T cs sg io e D nh nx ns nf ny tp cm w cn wc hV => by
  obtain ⟨v, cs2, io2, sg2, nf2, ny2, tp2, hp, h⟩ := s_meets hV x g t c u
  exact ⟨v, cs2, io2, sg2, nf2, ny2, tp2, hp, mm_Ev_up (by decide) h⟩
set_option maxHeartbeats 4000000 in
theorem s_study {M : mH} {T : Nat → mT} {cs sg : Nat → Nat → Int32} {io : Nat → Int32} {e : Nat → Nat} {D : Nat → Nat → Nat} {nh nx ns nf ny tp : Nat} {cm : Nat → Nat} {w : Nat → Nat → Nat} {cn : Nat → Nat} {wc : Nat → Nat → Nat} (hV : CV M T cs io sg e D nh nx ns nf ny tp cm w cn wc) (s h w9 : Int32) : ∃ (v : Value), ∃ (cs2 : Nat → Nat → Int32), ∃ (io2 : Nat → Int32), ∃ (sg2 : Nat → Nat → Int32), ∃ (nf2 : Nat), ∃ (ny2 : Nat), ∃ (tp2 : Nat), (mm_Ev 8 251 [.ref 100, .int s, .int h, .int w9] (rf_mk (hk M T cs2) io sg) (some v, rf_mk (hk M T cs2) io2 sg2) ∧ CV M T cs2 io2 sg2 e D nh nx ns nf2 ny2 tp2 cm w cn wc) ∧ mm_Ev 8 148 [.ref 0, .int s, .int h, .int w9] (hk M T cs) ((some v, hk M T cs2)) := by
  have hq9 : ∃ z, (fun r9 => ∃ (v : Value), ∃ (cs2 : Nat → Nat → Int32), ∃ (io2 : Nat → Int32), ∃ (sg2 : Nat → Nat → Int32), ∃ (nf2 : Nat), ∃ (ny2 : Nat), ∃ (tp2 : Nat), (mm_Ev 8 251 [.ref 100, .int s, .int h, .int w9] (rf_mk (hk M T cs2) io sg) (some v, rf_mk (hk M T cs2) io2 sg2) ∧ CV M T cs2 io2 sg2 e D nh nx ns nf2 ny2 tp2 cm w cn wc) ∧ r9 = ((some v, hk M T cs2))) z ∧ mm_Ev 8 148 [.ref 0, .int s, .int h, .int w9] (hk M T cs) z := by
    obtain ⟨⟨hM, hMs, hW⟩, hC, hT, hR, hJ⟩ := id hV
    obtain ⟨hF, ⟨hL0, hL1, hL2⟩, hSc, hAg, hSt⟩ := id hC
    obtain ⟨⟨⟨h3, hnh⟩, ⟨h4, hnx⟩, ⟨h5, hns⟩, ⟨h7, hnf⟩, ⟨h6, hny⟩, ⟨h23, htp⟩⟩, hRa, hRb, hRs, hRs2, hRs3, hRx, hCD, hRt, hRt2, hRf⟩ := id hR
    refine r_evQ (by decide +kernel) (show (4 : Nat) ≤ mm_nL 148 by decide +kernel) ?_
    show mm_Ru 7 (0, 7, false, prog_1_method_22_code, some .int) 0 [(0, .ref 0), (1, .int s), (2, .int h), (3, .int w9)] [] (hk M T cs) (fun r9 => ∃ (v : Value), ∃ (cs2 : Nat → Nat → Int32), ∃ (io2 : Nat → Int32), ∃ (sg2 : Nat → Nat → Int32), ∃ (nf2 : Nat), ∃ (ny2 : Nat), ∃ (tp2 : Nat), (mm_Ev 8 251 [.ref 100, .int s, .int h, .int w9] (rf_mk (hk M T cs2) io sg) (some v, rf_mk (hk M T cs2) io2 sg2) ∧ CV M T cs2 io2 sg2 e D nh nx ns nf2 ny2 tp2 cm w cn wc) ∧ r9 = ((some v, hk M T cs2)))
    refine r_aload_n rfl dc_1_22_0 ?_
    refine r_iload_n rfl dc_1_22_1 ?_
    by_cases h_2 : 0 ≤ s ∧ s < nI ns
    · skip
      obtain ⟨n_2, hn_2, e_2⟩ := g_lt h_2 (by omega)
      subst e_2
      refine h_callv (t := cT e 0) (as := [.int (nI n_2)]) (rest := []) (v := .ref (D 7 n_2)) (M1 := hk M T cs) rfl rfl iv_0_v180 (Or.inl rfl) na_1_102 (hF 0 (by decide)) ⟨by omega, by omega⟩ (show (0 : Nat) < 14 by decide) o_102 rfl (show (0 : Nat) ≤ 8 by decide) dc_1_22_2 (mm_Ev_up (by decide : 4 ≤ 7) (k_stAt_ok hV n_2 hn_2)) ?_
      refine r_astore (ls' := [(4, .ref (D 7 n_2)), (0, .ref 0), (1, .int (nI n_2)), (2, .int h), (3, .int w9)]) (by decide) rfl dc_1_22_5 ?_
      refine r_aload_n rfl dc_1_22_7 ?_
      refine r_iload_n rfl dc_1_22_8 ?_
      by_cases h_9 : 0 ≤ h ∧ h < nI nh
      · skip
        obtain ⟨n_9, hn_9, e_9⟩ := g_lt h_9 (by omega)
        subst e_9
        refine h_callv (t := cT e 0) (as := [.int (nI n_9)]) (rest := []) (v := .ref (D 0 n_9)) (M1 := hk M T cs) rfl rfl iv_0_v128 (Or.inl rfl) na_1_39 (hF 0 (by decide)) ⟨by omega, by omega⟩ (show (0 : Nat) < 14 by decide) o_39 rfl (show (0 : Nat) ≤ 8 by decide) dc_1_22_9 (mm_Ev_up (by decide : 4 ≤ 7) (k_scAt_ok hV n_9 hn_9)) ?_
        refine r_astore (ls' := [(5, .ref (D 0 n_9)), (4, .ref (D 7 n_2)), (0, .ref 0), (1, .int (nI n_2)), (2, .int (nI n_9)), (3, .int w9)]) (by decide) rfl dc_1_22_12 ?_
        refine r_aload rfl dc_1_22_14 ?_
        refine r_ifnull dc_1_22_16 ?_
        refine r_aload rfl dc_1_22_19 ?_
        refine r_ifnull dc_1_22_21 ?_
        refine r_iload_n rfl dc_1_22_24 ?_
        refine r_iconst (v := nI 0) (by decide) dc_1_22_25 ?_
        refine r_iconst (v := nI 2) (by decide) dc_1_22_26 ?_
        by_cases h_27 : nI 0 ≤ w9 ∧ w9 ≤ nI 2
        · skip
          obtain ⟨n_27, hn_27, e_27⟩ := g_nat2 h_27 (by omega) (by omega)
          subst e_27
          refine h_callS (as := [.int (nI n_27), .int (nI 0), .int (nI 2)]) (rest := []) (v := .int (nI 1)) rfl rfl iv_0_s84 (Or.inl rfl) na_0_13 rfl (show (0 : Nat) ≤ 8 by decide) dc_1_22_27 (mm_Ev_up (by decide : 1 ≤ 7) (by have h9 := k_in (hk M T cs) (nI n_27) (nI 0) (nI 2); rw [show sp_in (nI n_27) (nI 0) (nI 2) = nI 1 from sp_in_ok (by omega) (by omega) (by omega)] at h9; exact h9)) ?_
          refine r_ifne (t := 35) (by decide) dc_1_22_30 (fun c_30 => ?_) (fun c_30 => ?_)
          · skip
            have hscl := hn_9
            have q10 := inN_tN (hRs n_9 hscl).2.1 (by decide)
            have q16 := inN_tN (hRs n_9 hscl).2.2.2.2.2 (by decide)
            have q55 := inN_tN (hRt n_2 hn_2).2.2.2.2.1 (by decide)
            have q59 := inN_tN (hRt n_2 hn_2).2.2.2.2.2.2.1 (by decide)
            have hp6 : 2 ^ tN (sg 16 n_9) ≤ 64 := Nat.le_trans (Nat.pow_le_pow_right (by decide) q16.2) (by decide)
            have hp1 : 1 ≤ 2 ^ tN (sg 16 n_9) := Nat.one_le_two_pow
            refine r_aload rfl dc_1_22_35 ?_
            refine r_aload rfl dc_1_22_37 ?_
            refine h_get (t := (11, 0, rl [(6, D 9 n_2), (5, D 8 n_2)])) (v := .int (sg 55 n_2)) fx_0_235 (hSt n_2 (by omega)).1 (hSt n_2 (by omega)).2.1 (show some (Value.int _) = _ from congrArg (fun z => some (Value.int z)) ((hV.2.1.2.2.2.2 n_2 (by omega)).2.2.2.1.2.2.2.2.1)) dc_1_22_39 ?_
            refine r_aload rfl dc_1_22_42 ?_
            refine r_aload rfl dc_1_22_44 ?_
            refine h_get (t := (9, 0, rl [(6, D 1 n_9)])) (v := .int (nI (tN (sg 10 n_9)))) fx_0_238 (hSc n_9 (by omega)).1 (hSc n_9 (by omega)).2.1 (show some (Value.int _) = _ from congrArg (fun z => some (Value.int z)) (((hV.2.1.2.2.1 n_9 (by omega)).2.2.1.2.1).trans q10.1)) dc_1_22_46 ?_
            refine h_callv (t := (11, 0, rl [(6, D 9 n_2), (5, D 8 n_2)])) (as := [.int (nI (tN (sg 10 n_9)))]) (rest := [.int (sg 55 n_2), .ref (D 0 n_9)]) (v := .int (sp_lev sg n_2 (tN (sg 10 n_9)))) (M1 := hk M T cs) rfl rfl iv_0_v241 (Or.inl rfl) na_1_108 (hSt n_2 (by omega)).1 (hSt n_2 (by omega)).2.1 (show (11 : Nat) < 14 by decide) o_108 rfl (show (2 : Nat) ≤ 8 by decide) dc_1_22_49 (mm_Ev_up (by decide : 2 ≤ 7) (k_levelOf M T cs sg D n_2 _ (hSt n_2 hn_2) q59.2 (tN (sg 10 n_9)) (by omega) ((hRt n_2 hn_2).2.2.2.2.2.1 (tN (sg 10 n_9)) (by omega)))) ?_
            refine h_callv (t := (9, 0, rl [(6, D 1 n_9)])) (as := [.int (sg 55 n_2), .int (sp_lev sg n_2 (tN (sg 10 n_9)))]) (rest := []) (v := .int (nI (sp_bst sg n_2 n_9 (tN (sg 16 n_9)) (sp_lev sg n_2 (tN (sg 10 n_9))) (2 ^ tN (sg 16 n_9))))) (M1 := hk M T cs) rfl rfl iv_0_v244 (Or.inl rfl) na_1_149 (hSc n_9 (by omega)).1 (hSc n_9 (by omega)).2.1 (show (9 : Nat) < 14 by decide) o_149 rfl (show (0 : Nat) ≤ 8 by decide) dc_1_22_52 (mm_Ev_up (by decide : 6 ≤ 7) (k_bestSet M T cs sg D n_9 _ (hSc n_9 hscl) q16.2 n_2 _ q55.1 (by omega) _ _ (sh1 _ q16.2) hp6 hp1)) ?_
            refine r_istore (ls' := [(6, .int (nI (sp_bst sg n_2 n_9 (tN (sg 16 n_9)) (sp_lev sg n_2 (tN (sg 10 n_9))) (2 ^ tN (sg 16 n_9))))), (5, .ref (D 0 n_9)), (4, .ref (D 7 n_2)), (0, .ref 0), (1, .int (nI n_2)), (2, .int (nI n_9)), (3, .int (nI n_27))]) (by decide) rfl dc_1_22_55 ?_
            refine r_iload_n rfl dc_1_22_57 ?_
            refine r_nzne (t := 64) (by omega) (by decide) dc_1_22_58 (fun c_58 => ?_) (fun c_58 => ?_)
            · skip
              refine r_iload_n rfl dc_1_22_64 ?_
              refine r_iconst (v := nI 1) (by decide) dc_1_22_65 ?_
              refine r_ncne (t := 79) (by omega) (by omega) (by decide) dc_1_22_66 (fun c_66 => ?_) (fun c_66 => ?_)
              · skip
                refine r_aload rfl dc_1_22_79 ?_
                refine h_get (t := (11, 0, rl [(6, D 9 n_2), (5, D 8 n_2)])) (v := .int (sg 55 n_2)) fx_0_235 (hSt n_2 (by omega)).1 (hSt n_2 (by omega)).2.1 (show some (Value.int _) = _ from congrArg (fun z => some (Value.int z)) ((hV.2.1.2.2.2.2 n_2 (by omega)).2.2.2.1.2.2.2.2.1)) dc_1_22_81 ?_
                refine r_aload rfl dc_1_22_84 ?_
                refine r_iload rfl dc_1_22_86 ?_
                refine h_callv (t := (9, 0, rl [(6, D 1 n_9)])) (as := [.int (nI (sp_bst sg n_2 n_9 (tN (sg 16 n_9)) (sp_lev sg n_2 (tN (sg 10 n_9))) (2 ^ tN (sg 16 n_9))))]) (rest := [.int (sg 55 n_2)]) (v := .int (tpF sg n_9 (nI (sp_bst sg n_2 n_9 (tN (sg 16 n_9)) (sp_lev sg n_2 (tN (sg 10 n_9))) (2 ^ tN (sg 16 n_9)))) (tN (sg 16 n_9)))) (M1 := hk M T cs) rfl rfl iv_0_v251 (Or.inl rfl) na_1_154 (hSc n_9 (by omega)).1 (hSc n_9 (by omega)).2.1 (show (9 : Nat) < 14 by decide) o_154 rfl (show (1 : Nat) ≤ 8 by decide) dc_1_22_88 (mm_Ev_up (by decide : 4 ≤ 7) (k_topicsOf M T cs sg D n_9 _ (hSc n_9 hscl) q16.2 _)) ?_
                refine r_iconst (v := -1) (by decide) dc_1_22_91 ?_
                refine r_ixor (v := (tpF sg n_9 (nI (sp_bst sg n_2 n_9 (tN (sg 16 n_9)) (sp_lev sg n_2 (tN (sg 10 n_9))) (2 ^ tN (sg 16 n_9)))) (tN (sg 16 n_9))) ^^^ ((-1))) (rfl) dc_1_22_92 ?_
                refine r_iand (v := (sg 55 n_2) &&& ((tpF sg n_9 (nI (sp_bst sg n_2 n_9 (tN (sg 16 n_9)) (sp_lev sg n_2 (tN (sg 10 n_9))) (2 ^ tN (sg 16 n_9)))) (tN (sg 16 n_9))) ^^^ ((-1)))) (rfl) dc_1_22_93 ?_
                refine r_iret rfl dc_1_22_94 ?_
                obtain rfl : n_27 = 2 := by omega
                obtain ⟨a9, b9, hr⟩ := c_study_2 (hk M T cs) hM io sg ns h5 hns nh h3 hnh n_2 n_9 (tN (sg 10 n_9)) (tN (sg 16 n_9)) hn_2 hn_9 (by omega) (by omega) q10.1 (by omega) q16.1 q16.2 _ (sh1 _ q16.2) hp6 hp1
                rw [and_not _ _ _ (tpF_and sg n_2 n_9 (nI (sp_bst sg n_2 n_9 (tN (sg 16 n_9)) (sp_lev sg n_2 (tN (sg 10 n_9))) (2 ^ tN (sg 16 n_9)))) (tN (sg 16 n_9)))]
                refine ⟨_, _, _, sg, nf, ny, tp, ⟨mm_Ev_up (by decide) (hr), CV_sc hV (FrC_r D nx cs) (fun k h1 h2 => rfl) (fun k hk => io5_o io _ _ _ _ _ (by omega))⟩, rfl⟩
              · skip
                refine r_aload rfl dc_1_22_69 ?_
                refine r_iload rfl dc_1_22_71 ?_
                refine h_callv (t := (9, 0, rl [(6, D 1 n_9)])) (as := [.int (nI (sp_bst sg n_2 n_9 (tN (sg 16 n_9)) (sp_lev sg n_2 (tN (sg 10 n_9))) (2 ^ tN (sg 16 n_9))))]) (rest := []) (v := .int (sp_cr sg n_9 (nI (sp_bst sg n_2 n_9 (tN (sg 16 n_9)) (sp_lev sg n_2 (tN (sg 10 n_9))) (2 ^ tN (sg 16 n_9)))) (tN (sg 16 n_9)))) (M1 := hk M T cs) rfl rfl iv_0_v248 (Or.inl rfl) na_1_152 (hSc n_9 (by omega)).1 (hSc n_9 (by omega)).2.1 (show (9 : Nat) < 14 by decide) o_152 rfl (show (0 : Nat) ≤ 8 by decide) dc_1_22_73 (mm_Ev_up (by decide : 4 ≤ 7) (k_creditsOf M T cs sg D n_9 _ (hSc n_9 hscl) q16.2 _)) ?_
                refine r_goto (t := 94) (by decide) dc_1_22_76 ?_
                refine r_iret rfl dc_1_22_94 ?_
                obtain rfl : n_27 = 1 := by omega
                obtain ⟨a9, b9, hr⟩ := c_study_1 (hk M T cs) hM io sg ns h5 hns nh h3 hnh n_2 n_9 (tN (sg 10 n_9)) (tN (sg 16 n_9)) hn_2 hn_9 (by omega) (by omega) q10.1 (by omega) q16.1 q16.2 _ (sh1 _ q16.2) hp6 hp1
                refine ⟨_, _, _, sg, nf, ny, tp, ⟨mm_Ev_up (by decide) (hr), CV_sc hV (FrC_r D nx cs) (fun k h1 h2 => rfl) (fun k hk => io5_o io _ _ _ _ _ (by omega))⟩, rfl⟩
            · skip
              refine r_iload rfl dc_1_22_61 ?_
              refine r_iret rfl dc_1_22_63 ?_
              obtain rfl : n_27 = 0 := by omega
              obtain ⟨a9, b9, hr⟩ := c_study_0 (hk M T cs) hM io sg ns h5 hns nh h3 hnh n_2 n_9 (tN (sg 10 n_9)) (tN (sg 16 n_9)) hn_2 hn_9 (by omega) (by omega) q10.1 (by omega) q16.1 q16.2 _ (sh1 _ q16.2) hp6 hp1
              refine ⟨_, _, _, sg, nf, ny, tp, ⟨mm_Ev_up (by decide) (hr), CV_sc hV (FrC_r D nx cs) (fun k h1 h2 => rfl) (fun k hk => io5_o io _ _ _ _ _ (by omega))⟩, rfl⟩
          · exact absurd c_30 (by decide)
        · skip
          refine h_callS (as := [.int w9, .int (nI 0), .int (nI 2)]) (rest := []) (v := .int (nI 0)) rfl rfl iv_0_s84 (Or.inl rfl) na_0_13 rfl (show (0 : Nat) ≤ 8 by decide) dc_1_22_27 (mm_Ev_up (by decide : 1 ≤ 7) (by have h9 := k_in (hk M T cs) w9 (nI 0) (nI 2); rw [show sp_in w9 (nI 0) (nI 2) = nI 0 from if_neg h_27] at h9; exact h9)) ?_
          refine r_ifne (t := 35) (by decide) dc_1_22_30 (fun c_30 => ?_) (fun c_30 => ?_)
          · exact absurd c_30 (by decide)
          · skip
            refine r_iconst (v := -1) (by decide) dc_1_22_33 ?_
            refine r_iret rfl dc_1_22_34 ?_
            have hscl := hn_9
            have q10 := inN_tN (hRs n_9 hscl).2.1 (by decide)
            have q16 := inN_tN (hRs n_9 hscl).2.2.2.2.2 (by decide)
            have q55 := inN_tN (hRt n_2 hn_2).2.2.2.2.1 (by decide)
            have q59 := inN_tN (hRt n_2 hn_2).2.2.2.2.2.2.1 (by decide)
            have hp6 : 2 ^ tN (sg 16 n_9) ≤ 64 := Nat.le_trans (Nat.pow_le_pow_right (by decide) q16.2) (by decide)
            have hp1 : 1 ≤ 2 ^ tN (sg 16 n_9) := Nat.one_le_two_pow
            obtain ⟨a9, b9, hr⟩ := c_study_x (hk M T cs) hM io sg ns h5 hns nh h3 hnh n_2 n_9 (tN (sg 10 n_9)) (tN (sg 16 n_9)) hn_2 hn_9 (by omega) (by omega) q10.1 (by omega) q16.1 q16.2 _ (sh1 _ q16.2) hp6 hp1 w9 (n_out h_27 (by decide) (by decide))
            refine ⟨_, _, _, sg, nf, ny, tp, ⟨mm_Ev_up (by decide) (hr), CV_sc hV (FrC_r D nx cs) (fun k h1 h2 => rfl) (fun k hk => io5_o io _ _ _ _ _ (by omega))⟩, rfl⟩
      · skip
        refine h_callv (t := cT e 0) (as := [.int h]) (rest := []) (v := .null) (M1 := hk M T cs) rfl rfl iv_0_v128 (Or.inl rfl) na_1_39 (hF 0 (by decide)) ⟨by omega, by omega⟩ (show (0 : Nat) < 14 by decide) o_39 rfl (show (0 : Nat) ≤ 8 by decide) dc_1_22_9 (mm_Ev_up (by decide : 2 ≤ 7) (k_scAt_no hV h h_9)) ?_
        refine r_astoreZ (ls' := [(5, .null), (4, .ref (D 7 n_2)), (0, .ref 0), (1, .int (nI n_2)), (2, .int h), (3, .int w9)]) (by decide) rfl dc_1_22_12 ?_
        refine r_aload rfl dc_1_22_14 ?_
        refine r_ifnull dc_1_22_16 ?_
        refine r_aloadZ rfl dc_1_22_19 ?_
        refine r_ifnullZ (t := 33) (by decide) dc_1_22_21 ?_
        refine r_iconst (v := -1) (by decide) dc_1_22_33 ?_
        refine r_iret rfl dc_1_22_34 ?_
        refine ⟨_, _, io, sg, nf, ny, tp, ⟨mm_Ev_up (by decide) (c_study_no (hk M T cs) hM io sg _ _ _ (fun g => h_9 (by rw [← h3]; exact g.2))), hV⟩, rfl⟩
    · skip
      refine h_callv (t := cT e 0) (as := [.int s]) (rest := []) (v := .null) (M1 := hk M T cs) rfl rfl iv_0_v180 (Or.inl rfl) na_1_102 (hF 0 (by decide)) ⟨by omega, by omega⟩ (show (0 : Nat) < 14 by decide) o_102 rfl (show (0 : Nat) ≤ 8 by decide) dc_1_22_2 (mm_Ev_up (by decide : 2 ≤ 7) (k_stAt_no hV s h_2)) ?_
      refine r_astoreZ (ls' := [(4, .null), (0, .ref 0), (1, .int s), (2, .int h), (3, .int w9)]) (by decide) rfl dc_1_22_5 ?_
      refine r_aload_n rfl dc_1_22_7 ?_
      refine r_iload_n rfl dc_1_22_8 ?_
      by_cases h_9 : 0 ≤ h ∧ h < nI nh
      · skip
        obtain ⟨n_9, hn_9, e_9⟩ := g_lt h_9 (by omega)
        subst e_9
        refine h_callv (t := cT e 0) (as := [.int (nI n_9)]) (rest := []) (v := .ref (D 0 n_9)) (M1 := hk M T cs) rfl rfl iv_0_v128 (Or.inl rfl) na_1_39 (hF 0 (by decide)) ⟨by omega, by omega⟩ (show (0 : Nat) < 14 by decide) o_39 rfl (show (0 : Nat) ≤ 8 by decide) dc_1_22_9 (mm_Ev_up (by decide : 4 ≤ 7) (k_scAt_ok hV n_9 hn_9)) ?_
        refine r_astore (ls' := [(5, .ref (D 0 n_9)), (4, .null), (0, .ref 0), (1, .int s), (2, .int (nI n_9)), (3, .int w9)]) (by decide) rfl dc_1_22_12 ?_
        refine r_aloadZ rfl dc_1_22_14 ?_
        refine r_ifnullZ (t := 33) (by decide) dc_1_22_16 ?_
        refine r_iconst (v := -1) (by decide) dc_1_22_33 ?_
        refine r_iret rfl dc_1_22_34 ?_
        refine ⟨_, _, io, sg, nf, ny, tp, ⟨mm_Ev_up (by decide) (c_study_no (hk M T cs) hM io sg _ _ _ (fun g => h_2 (by rw [← h5]; exact g.1))), hV⟩, rfl⟩
      · skip
        refine h_callv (t := cT e 0) (as := [.int h]) (rest := []) (v := .null) (M1 := hk M T cs) rfl rfl iv_0_v128 (Or.inl rfl) na_1_39 (hF 0 (by decide)) ⟨by omega, by omega⟩ (show (0 : Nat) < 14 by decide) o_39 rfl (show (0 : Nat) ≤ 8 by decide) dc_1_22_9 (mm_Ev_up (by decide : 2 ≤ 7) (k_scAt_no hV h h_9)) ?_
        refine r_astoreZ (ls' := [(5, .null), (4, .null), (0, .ref 0), (1, .int s), (2, .int h), (3, .int w9)]) (by decide) rfl dc_1_22_12 ?_
        refine r_aloadZ rfl dc_1_22_14 ?_
        refine r_ifnullZ (t := 33) (by decide) dc_1_22_16 ?_
        refine r_iconst (v := -1) (by decide) dc_1_22_33 ?_
        refine r_iret rfl dc_1_22_34 ?_
        refine ⟨_, _, io, sg, nf, ny, tp, ⟨mm_Ev_up (by decide) (c_study_no (hk M T cs) hM io sg _ _ _ (fun g => h_2 (by rw [← h5]; exact g.1))), hV⟩, rfl⟩
  obtain ⟨z9, ⟨v, cs2, io2, sg2, nf2, ny2, tp2, p9, e9⟩, h9⟩ := hq9
  subst e9
  exact ⟨v, cs2, io2, sg2, nf2, ny2, tp2, p9, h9⟩
theorem st_study (s h w9 : Int32) : StpN 148 251 [.int s, .int h, .int w9] := fun M T cs sg io e D nh nx ns nf ny tp cm w cn wc hV => by
  obtain ⟨v, cs2, io2, sg2, nf2, ny2, tp2, hp, h⟩ := s_study hV s h w9
  exact ⟨v, cs2, io2, sg2, nf2, ny2, tp2, hp, mm_Ev_up (by decide) h⟩
set_option maxHeartbeats 4000000 in
theorem s_counts {M : mH} {T : Nat → mT} {cs sg : Nat → Nat → Int32} {io : Nat → Int32} {e : Nat → Nat} {D : Nat → Nat → Nat} {nh nx ns nf ny tp : Nat} {cm : Nat → Nat} {w : Nat → Nat → Nat} {cn : Nat → Nat} {wc : Nat → Nat → Nat} (hV : CV M T cs io sg e D nh nx ns nf ny tp cm w cn wc) (s w9 t : Int32) : ∃ (v : Value), ∃ (cs2 : Nat → Nat → Int32), ∃ (io2 : Nat → Int32), ∃ (sg2 : Nat → Nat → Int32), ∃ (nf2 : Nat), ∃ (ny2 : Nat), ∃ (tp2 : Nat), (mm_Ev 8 263 [.ref 100, .int s, .int w9, .int t] (rf_mk (hk M T cs2) io sg) (some v, rf_mk (hk M T cs2) io2 sg2) ∧ CV M T cs2 io2 sg2 e D nh nx ns nf2 ny2 tp2 cm w cn wc) ∧ mm_Ev 8 166 [.ref 0, .int s, .int w9, .int t] (hk M T cs) ((some v, hk M T cs2)) := by
  have hq9 : ∃ z, (fun r9 => ∃ (v : Value), ∃ (cs2 : Nat → Nat → Int32), ∃ (io2 : Nat → Int32), ∃ (sg2 : Nat → Nat → Int32), ∃ (nf2 : Nat), ∃ (ny2 : Nat), ∃ (tp2 : Nat), (mm_Ev 8 263 [.ref 100, .int s, .int w9, .int t] (rf_mk (hk M T cs2) io sg) (some v, rf_mk (hk M T cs2) io2 sg2) ∧ CV M T cs2 io2 sg2 e D nh nx ns nf2 ny2 tp2 cm w cn wc) ∧ r9 = ((some v, hk M T cs2))) z ∧ mm_Ev 8 166 [.ref 0, .int s, .int w9, .int t] (hk M T cs) z := by
    obtain ⟨⟨hM, hMs, hW⟩, hC, hT, hR, hJ⟩ := id hV
    obtain ⟨hF, ⟨hL0, hL1, hL2⟩, hSc, hAg, hSt⟩ := id hC
    obtain ⟨⟨⟨h3, hnh⟩, ⟨h4, hnx⟩, ⟨h5, hns⟩, ⟨h7, hnf⟩, ⟨h6, hny⟩, ⟨h23, htp⟩⟩, hRa, hRb, hRs, hRs2, hRs3, hRx, hCD, hRt, hRt2, hRf⟩ := id hR
    refine r_evQ (by decide +kernel) (show (4 : Nat) ≤ mm_nL 166 by decide +kernel) ?_
    show mm_Ru 7 (0, 9, false, prog_1_method_27_code, some .int) 0 [(0, .ref 0), (1, .int s), (2, .int w9), (3, .int t)] [] (hk M T cs) (fun r9 => ∃ (v : Value), ∃ (cs2 : Nat → Nat → Int32), ∃ (io2 : Nat → Int32), ∃ (sg2 : Nat → Nat → Int32), ∃ (nf2 : Nat), ∃ (ny2 : Nat), ∃ (tp2 : Nat), (mm_Ev 8 263 [.ref 100, .int s, .int w9, .int t] (rf_mk (hk M T cs2) io sg) (some v, rf_mk (hk M T cs2) io2 sg2) ∧ CV M T cs2 io2 sg2 e D nh nx ns nf2 ny2 tp2 cm w cn wc) ∧ r9 = ((some v, hk M T cs2)))
    refine r_aload_n rfl dc_1_27_0 ?_
    refine r_iload_n rfl dc_1_27_1 ?_
    by_cases h_2 : 0 ≤ s ∧ s < nI ns
    · skip
      obtain ⟨n_2, hn_2, e_2⟩ := g_lt h_2 (by omega)
      subst e_2
      refine h_callv (t := cT e 0) (as := [.int (nI n_2)]) (rest := []) (v := .ref (D 7 n_2)) (M1 := hk M T cs) rfl rfl iv_0_v180 (Or.inl rfl) na_1_102 (hF 0 (by decide)) ⟨by omega, by omega⟩ (show (0 : Nat) < 14 by decide) o_102 rfl (show (0 : Nat) ≤ 8 by decide) dc_1_27_2 (mm_Ev_up (by decide : 4 ≤ 7) (k_stAt_ok hV n_2 hn_2)) ?_
      refine r_astore (ls' := [(4, .ref (D 7 n_2)), (0, .ref 0), (1, .int (nI n_2)), (2, .int w9), (3, .int t)]) (by decide) rfl dc_1_27_5 ?_
      refine r_aload rfl dc_1_27_7 ?_
      refine r_ifnull dc_1_27_9 ?_
      refine r_iload_n rfl dc_1_27_12 ?_
      refine r_iconst (v := nI 0) (by decide) dc_1_27_13 ?_
      refine r_iconst (v := nI 1) (by decide) dc_1_27_14 ?_
      by_cases h_15 : nI 0 ≤ w9 ∧ w9 ≤ nI 1
      · skip
        obtain ⟨n_15, hn_15, e_15⟩ := g_nat2 h_15 (by omega) (by omega)
        subst e_15
        refine h_callS (as := [.int (nI n_15), .int (nI 0), .int (nI 1)]) (rest := []) (v := .int (nI 1)) rfl rfl iv_0_s84 (Or.inl rfl) na_0_13 rfl (show (0 : Nat) ≤ 8 by decide) dc_1_27_15 (mm_Ev_up (by decide : 1 ≤ 7) (by have h9 := k_in (hk M T cs) (nI n_15) (nI 0) (nI 1); rw [show sp_in (nI n_15) (nI 0) (nI 1) = nI 1 from sp_in_ok (by omega) (by omega) (by omega)] at h9; exact h9)) ?_
        refine r_ifeq (t := 28) (by decide) dc_1_27_18 (fun c_18 => ?_) (fun c_18 => ?_)
        · exact absurd c_18 (by decide)
        · skip
          refine r_iload_n rfl dc_1_27_21 ?_
          by_cases h_22 : nI 0 ≤ t ∧ t ≤ nI 359
          · skip
            obtain ⟨n_22, hn_22, e_22⟩ := g_nat2 h_22 (by omega) (by omega)
            subst e_22
            refine h_callS (as := [.int (nI n_22)]) (rest := []) (v := .int (nI 1)) rfl rfl iv_0_s108 (Or.inl rfl) na_0_25 rfl (show (0 : Nat) ≤ 8 by decide) dc_1_27_22 (mm_Ev_up (by decide : 2 ≤ 7) (by have h9 := k_isDay (hk M T cs) (nI n_22); rw [show sp_in (nI n_22) (nI 0) (nI 359) = nI 1 from sp_in_ok (by omega) (by omega) (by omega)] at h9; exact h9)) ?_
            refine r_ifne (t := 30) (by decide) dc_1_27_25 (fun c_25 => ?_) (fun c_25 => ?_)
            · skip
              obtain ⟨hm, hhm, e51⟩ := (hRt n_2 hn_2).1
              by_cases h56 : sg 56 n_2 = nI 1
              · skip
                obtain ⟨xx, p, hxx, hp, e58, e57⟩ := pl_of (hRt n_2 hn_2) h56
                obtain ⟨fr, tt, hft, htt, e13, e14⟩ := (hRs p hp).2.2.2.1
                refine r_aload_n rfl dc_1_27_30 ?_
                refine r_aload rfl dc_1_27_31 ?_
                refine h_callv (t := (11, 0, rl [(6, D 9 n_2), (5, D 8 n_2)])) (as := []) (rest := [.ref 0]) (v := .int (nI p)) (M1 := hk M T cs) rfl rfl iv_0_v261 (Or.inl rfl) na_1_118 (hSt n_2 (by omega)).1 (hSt n_2 (by omega)).2.1 (show (11 : Nat) < 14 by decide) o_118 rfl (show (1 : Nat) ≤ 8 by decide) dc_1_27_33 (by rw [← hst_1 h56 e57]; exact mm_Ev_up (by decide : 2 ≤ 7) (k_host M T cs sg D n_2 _ (hV.2.1.2.2.2.2 n_2 (by omega)) (inN_tN (hRt n_2 (by omega)).2.2.2.2.2.2.1 (by decide)).2)) ?_
                refine h_callv (t := cT e 0) (as := [.int (nI p)]) (rest := []) (v := .ref (D 0 p)) (M1 := hk M T cs) rfl rfl iv_0_v128 (Or.inl rfl) na_1_39 (hF 0 (by decide)) ⟨by omega, by omega⟩ (show (0 : Nat) < 14 by decide) o_39 rfl (show (0 : Nat) ≤ 8 by decide) dc_1_27_36 (mm_Ev_up (by decide : 4 ≤ 7) (k_scAt_ok hV p hp)) ?_
                refine r_astore (ls' := [(5, .ref (D 0 p)), (4, .ref (D 7 n_2)), (0, .ref 0), (1, .int (nI n_2)), (2, .int (nI n_15)), (3, .int (nI n_22))]) (by decide) rfl dc_1_27_39 ?_
                refine r_aload_n rfl dc_1_27_41 ?_
                refine r_aload rfl dc_1_27_42 ?_
                refine h_get (t := (11, 0, rl [(6, D 9 n_2), (5, D 8 n_2)])) (v := .int (nI hm)) fx_0_264 (hSt n_2 (by omega)).1 (hSt n_2 (by omega)).2.1 (show some (Value.int _) = _ from congrArg (fun z => some (Value.int z)) (((hV.2.1.2.2.2.2 n_2 (by omega)).2.2.2.1.1).trans e51)) dc_1_27_44 ?_
                refine h_callv (t := cT e 0) (as := [.int (nI hm)]) (rest := []) (v := .ref (D 0 hm)) (M1 := hk M T cs) rfl rfl iv_0_v128 (Or.inl rfl) na_1_39 (hF 0 (by decide)) ⟨by omega, by omega⟩ (show (0 : Nat) < 14 by decide) o_39 rfl (show (0 : Nat) ≤ 8 by decide) dc_1_27_47 (mm_Ev_up (by decide : 4 ≤ 7) (k_scAt_ok hV hm hhm)) ?_
                refine r_astore (ls' := [(6, .ref (D 0 hm)), (5, .ref (D 0 p)), (4, .ref (D 7 n_2)), (0, .ref 0), (1, .int (nI n_2)), (2, .int (nI n_15)), (3, .int (nI n_22))]) (by decide) rfl dc_1_27_50 ?_
                refine r_aload rfl dc_1_27_52 ?_
                refine r_ifnull dc_1_27_54 ?_
                refine r_aload rfl dc_1_27_57 ?_
                refine r_ifnonnull (t := 64) (by decide) dc_1_27_59 ?_
                refine r_aload_n rfl dc_1_27_64 ?_
                refine r_iload_n rfl dc_1_27_65 ?_
                refine r_aload rfl dc_1_27_66 ?_
                refine r_iload_n rfl dc_1_27_68 ?_
                have hscl := hp
                have q10 := inN_tN (hRs p hscl).2.1 (by decide)
                have q16 := inN_tN (hRs p hscl).2.2.2.2.2 (by decide)
                have q55 := inN_tN (hRt n_2 hn_2).2.2.2.2.1 (by decide)
                have q59 := inN_tN (hRt n_2 hn_2).2.2.2.2.2.2.1 (by decide)
                have hp6 : 2 ^ tN (sg 16 p) ≤ 64 := Nat.le_trans (Nat.pow_le_pow_right (by decide) q16.2) (by decide)
                have hp1 : 1 ≤ 2 ^ tN (sg 16 p) := Nat.one_le_two_pow
                have htd : sg 14 p - sg 13 p + nI 1 = nI (tt - fr + 1) := by rw [e13, e14, nI_sb (by omega), nI_add]
                have hdl := dBh_le sg nf n_2 (nI n_22) tt
                have hfg := fDy_ge (sg := sg) (nf := nf) (s := n_2) (t := nI n_22) (fr := fr) (by omega)
                refine h_callv (t := cT e 0) (as := [.int (nI n_2), .ref (D 0 p), .int (nI n_22)]) (rest := []) (v := .int (nI (dBh sg nf n_2 (nI n_22) tt - fDy sg nf n_2 (nI n_22) fr))) (M1 := hk M T cs) rfl rfl iv_0_v278 (Or.inl rfl) na_1_167 (hF 0 (by decide)) ⟨by omega, by omega⟩ (show (0 : Nat) < 14 by decide) o_167 rfl (show (0 : Nat) ≤ 8 by decide) dc_1_27_69 (mm_Ev_up (by decide : 4 ≤ 7) (k_days hV p fr tt hp e13 e14 hft htt n_2 (nI n_22))) ?_
                refine r_istore (ls' := [(7, .int (nI (dBh sg nf n_2 (nI n_22) tt - fDy sg nf n_2 (nI n_22) fr))), (6, .ref (D 0 hm)), (5, .ref (D 0 p)), (4, .ref (D 7 n_2)), (0, .ref 0), (1, .int (nI n_2)), (2, .int (nI n_15)), (3, .int (nI n_22))]) (by decide) rfl dc_1_27_72 ?_
                refine r_iload_n rfl dc_1_27_74 ?_
                refine r_iconst (v := nI 1) (by decide) dc_1_27_75 ?_
                refine r_ncne (t := 98) (by omega) (by omega) (by decide) dc_1_27_76 (fun c_76 => ?_) (fun c_76 => ?_)
                · skip
                  refine r_aload rfl dc_1_27_98 ?_
                  refine r_aload rfl dc_1_27_100 ?_
                  refine h_get (t := (11, 0, rl [(6, D 9 n_2), (5, D 8 n_2)])) (v := .int (sg 55 n_2)) fx_0_235 (hSt n_2 (by omega)).1 (hSt n_2 (by omega)).2.1 (show some (Value.int _) = _ from congrArg (fun z => some (Value.int z)) ((hV.2.1.2.2.2.2 n_2 (by omega)).2.2.2.1.2.2.2.2.1)) dc_1_27_102 ?_
                  refine r_aload rfl dc_1_27_105 ?_
                  refine r_aload rfl dc_1_27_107 ?_
                  refine h_get (t := (9, 0, rl [(6, D 1 p)])) (v := .int (nI (tN (sg 10 p)))) fx_0_238 (hSc p (by omega)).1 (hSc p (by omega)).2.1 (show some (Value.int _) = _ from congrArg (fun z => some (Value.int z)) (((hV.2.1.2.2.1 p (by omega)).2.2.1.2.1).trans q10.1)) dc_1_27_109 ?_
                  refine h_callv (t := (11, 0, rl [(6, D 9 n_2), (5, D 8 n_2)])) (as := [.int (nI (tN (sg 10 p)))]) (rest := [.int (sg 55 n_2), .ref (D 0 p)]) (v := .int (sp_lev sg n_2 (tN (sg 10 p)))) (M1 := hk M T cs) rfl rfl iv_0_v241 (Or.inl rfl) na_1_108 (hSt n_2 (by omega)).1 (hSt n_2 (by omega)).2.1 (show (11 : Nat) < 14 by decide) o_108 rfl (show (2 : Nat) ≤ 8 by decide) dc_1_27_112 (mm_Ev_up (by decide : 2 ≤ 7) (k_levelOf M T cs sg D n_2 _ (hSt n_2 hn_2) q59.2 (tN (sg 10 p)) (by omega) ((hRt n_2 hn_2).2.2.2.2.2.1 (tN (sg 10 p)) (by omega)))) ?_
                  refine h_callv (t := (9, 0, rl [(6, D 1 p)])) (as := [.int (sg 55 n_2), .int (sp_lev sg n_2 (tN (sg 10 p)))]) (rest := []) (v := .int (nI (sp_bst sg n_2 p (tN (sg 16 p)) (sp_lev sg n_2 (tN (sg 10 p))) (2 ^ tN (sg 16 p))))) (M1 := hk M T cs) rfl rfl iv_0_v244 (Or.inl rfl) na_1_149 (hSc p (by omega)).1 (hSc p (by omega)).2.1 (show (9 : Nat) < 14 by decide) o_149 rfl (show (0 : Nat) ≤ 8 by decide) dc_1_27_115 (mm_Ev_up (by decide : 6 ≤ 7) (k_bestSet M T cs sg D p _ (hSc p hscl) q16.2 n_2 _ q55.1 (by omega) _ _ (sh1 _ q16.2) hp6 hp1)) ?_
                  refine r_istore (ls' := [(8, .int (nI (sp_bst sg n_2 p (tN (sg 16 p)) (sp_lev sg n_2 (tN (sg 10 p))) (2 ^ tN (sg 16 p))))), (7, .int (nI (dBh sg nf n_2 (nI n_22) tt - fDy sg nf n_2 (nI n_22) fr))), (6, .ref (D 0 hm)), (5, .ref (D 0 p)), (4, .ref (D 7 n_2)), (0, .ref 0), (1, .int (nI n_2)), (2, .int (nI n_15)), (3, .int (nI n_22))]) (by decide) rfl dc_1_27_118 ?_
                  refine r_aload rfl dc_1_27_120 ?_
                  refine r_aload rfl dc_1_27_122 ?_
                  refine r_iload rfl dc_1_27_124 ?_
                  refine h_callv (t := (9, 0, rl [(6, D 1 p)])) (as := [.int (nI (sp_bst sg n_2 p (tN (sg 16 p)) (sp_lev sg n_2 (tN (sg 10 p))) (2 ^ tN (sg 16 p))))]) (rest := [.ref (D 0 p)]) (v := .int (sp_cr sg p (nI (sp_bst sg n_2 p (tN (sg 16 p)) (sp_lev sg n_2 (tN (sg 10 p))) (2 ^ tN (sg 16 p)))) (tN (sg 16 p)))) (M1 := hk M T cs) rfl rfl iv_0_v248 (Or.inl rfl) na_1_152 (hSc p (by omega)).1 (hSc p (by omega)).2.1 (show (9 : Nat) < 14 by decide) o_152 rfl (show (1 : Nat) ≤ 8 by decide) dc_1_27_126 (mm_Ev_up (by decide : 4 ≤ 7) (k_creditsOf M T cs sg D p _ (hSc p hscl) q16.2 _)) ?_
                  refine r_iload rfl dc_1_27_129 ?_
                  refine h_callv (t := (9, 0, rl [(6, D 1 p)])) (as := [.int (sp_cr sg p (nI (sp_bst sg n_2 p (tN (sg 16 p)) (sp_lev sg n_2 (tN (sg 10 p))) (2 ^ tN (sg 16 p)))) (tN (sg 16 p))), .int (nI (dBh sg nf n_2 (nI n_22) tt - fDy sg nf n_2 (nI n_22) fr))]) (rest := []) (v := .int ((sp_cr sg p (nI (sp_bst sg n_2 p (tN (sg 16 p)) (sp_lev sg n_2 (tN (sg 10 p))) (2 ^ tN (sg 16 p)))) (tN (sg 16 p))) * (nI (dBh sg nf n_2 (nI n_22) tt - fDy sg nf n_2 (nI n_22) fr)) / nI (tt - fr + 1))) (M1 := hk M T cs) rfl rfl iv_0_v288 (Or.inl rfl) na_1_169 (hSc p (by omega)).1 (hSc p (by omega)).2.1 (show (9 : Nat) < 14 by decide) o_169 rfl (show (0 : Nat) ≤ 8 by decide) dc_1_27_131 (mm_Ev_up (by decide : 2 ≤ 7) (k_partOf M T cs sg D p _ (hSc p hscl) q16.2 (tt - fr + 1) htd (by omega) (by omega) _ _)) ?_
                  refine r_iret rfl dc_1_27_134 ?_
                  obtain rfl : n_15 = 0 := by omega
                  obtain ⟨a9, b9, hr⟩ := c_counts_0 (hk M T cs) hM io sg ns h5 hns nf h7 hnf n_2 p hm (tN (sg 10 p)) (tN (sg 16 p)) _ fr tt hn_2 h56 e57 (by omega) e51 (by omega) q10.1 (by omega) q16.1 q16.2 (sh1 _ q16.2) hp6 hp1 e13 e14 hft htt n_22 (by omega)
                  rw [dth_eq hRf e13 e14 hft htt] at hr
                  refine ⟨_, _, _, sg, nf, ny, tp, ⟨mm_Ev_up (by decide) (hr), CV_sc hV (FrC_r D nx cs) (fun k h1 h2 => rfl) (fun k hk => io5_o io _ _ _ _ _ (by omega))⟩, rfl⟩
                · skip
                  refine r_aload rfl dc_1_27_79 ?_
                  refine r_aload rfl dc_1_27_81 ?_
                  refine h_get (t := (9, 0, rl [(6, D 1 hm)])) (v := .int (sg 15 hm)) fx_0_282 (hSc hm (by omega)).1 (hSc hm (by omega)).2.1 (show some (Value.int _) = _ from congrArg (fun z => some (Value.int z)) ((hV.2.1.2.2.1 hm (by omega)).2.2.1.2.2.2.2.1)) dc_1_27_83 ?_
                  refine r_aload rfl dc_1_27_86 ?_
                  refine h_callv (t := (9, 0, rl [(6, D 1 p)])) (as := []) (rest := [.int (sg 15 hm), .ref (D 0 p)]) (v := .int (nI (tt - fr + 1))) (M1 := hk M T cs) rfl rfl iv_0_v285 (Or.inl rfl) na_1_168 (hSc p (by omega)).1 (hSc p (by omega)).2.1 (show (9 : Nat) < 14 by decide) o_168 rfl (show (2 : Nat) ≤ 8 by decide) dc_1_27_88 (mm_Ev_up (by decide : 1 ≤ 7) (by rw [← htd]; exact k_termDays M T cs sg D p _ (hSc p hscl) q16.2)) ?_
                  refine r_iload rfl dc_1_27_91 ?_
                  refine r_isub (v := nI (tt - fr + 1) - nI (dBh sg nf n_2 (nI n_22) tt - fDy sg nf n_2 (nI n_22) fr)) (rfl) dc_1_27_93 ?_
                  refine h_callv (t := (9, 0, rl [(6, D 1 p)])) (as := [.int (sg 15 hm), .int (nI (tt - fr + 1) - nI (dBh sg nf n_2 (nI n_22) tt - fDy sg nf n_2 (nI n_22) fr))]) (rest := []) (v := .int ((sg 15 hm) * (nI (tt - fr + 1) - nI (dBh sg nf n_2 (nI n_22) tt - fDy sg nf n_2 (nI n_22) fr)) / nI (tt - fr + 1))) (M1 := hk M T cs) rfl rfl iv_0_v288 (Or.inl rfl) na_1_169 (hSc p (by omega)).1 (hSc p (by omega)).2.1 (show (9 : Nat) < 14 by decide) o_169 rfl (show (0 : Nat) ≤ 8 by decide) dc_1_27_94 (mm_Ev_up (by decide : 2 ≤ 7) (k_partOf M T cs sg D p _ (hSc p hscl) q16.2 (tt - fr + 1) htd (by omega) (by omega) _ _)) ?_
                  refine r_iret rfl dc_1_27_97 ?_
                  obtain rfl : n_15 = 1 := by omega
                  have hr := c_counts_1 (hk M T cs) hM io sg ns h5 hns nf h7 hnf n_2 p hm (tN (sg 10 p)) (tN (sg 16 p)) _ fr tt hn_2 h56 e57 (by omega) e51 (by omega) q10.1 (by omega) q16.1 q16.2 (sh1 _ q16.2) hp6 hp1 e13 e14 hft htt n_22 (by omega)
                  rw [dth_eq hRf e13 e14 hft htt] at hr
                  refine ⟨_, _, io, sg, nf, ny, tp, ⟨mm_Ev_up (by decide) (hr), hV⟩, rfl⟩
              · skip
                refine r_aload_n rfl dc_1_27_30 ?_
                refine r_aload rfl dc_1_27_31 ?_
                refine h_callv (t := (11, 0, rl [(6, D 9 n_2), (5, D 8 n_2)])) (as := []) (rest := [.ref 0]) (v := .int ((-1))) (M1 := hk M T cs) rfl rfl iv_0_v261 (Or.inl rfl) na_1_118 (hSt n_2 (by omega)).1 (hSt n_2 (by omega)).2.1 (show (11 : Nat) < 14 by decide) o_118 rfl (show (1 : Nat) ≤ 8 by decide) dc_1_27_33 (by rw [← hst_0 h56]; exact mm_Ev_up (by decide : 2 ≤ 7) (k_host M T cs sg D n_2 _ (hV.2.1.2.2.2.2 n_2 (by omega)) (inN_tN (hRt n_2 (by omega)).2.2.2.2.2.2.1 (by decide)).2)) ?_
                refine h_callv (t := cT e 0) (as := [.int ((-1))]) (rest := []) (v := .null) (M1 := hk M T cs) rfl rfl iv_0_v128 (Or.inl rfl) na_1_39 (hF 0 (by decide)) ⟨by omega, by omega⟩ (show (0 : Nat) < 14 by decide) o_39 rfl (show (0 : Nat) ≤ 8 by decide) dc_1_27_36 (mm_Ev_up (by decide : 2 ≤ 7) (k_scAt_no hV (-1) (fun z => absurd z.1 (by decide)))) ?_
                refine r_astoreZ (ls' := [(5, .null), (4, .ref (D 7 n_2)), (0, .ref 0), (1, .int (nI n_2)), (2, .int (nI n_15)), (3, .int (nI n_22))]) (by decide) rfl dc_1_27_39 ?_
                refine r_aload_n rfl dc_1_27_41 ?_
                refine r_aload rfl dc_1_27_42 ?_
                refine h_get (t := (11, 0, rl [(6, D 9 n_2), (5, D 8 n_2)])) (v := .int (nI hm)) fx_0_264 (hSt n_2 (by omega)).1 (hSt n_2 (by omega)).2.1 (show some (Value.int _) = _ from congrArg (fun z => some (Value.int z)) (((hV.2.1.2.2.2.2 n_2 (by omega)).2.2.2.1.1).trans e51)) dc_1_27_44 ?_
                refine h_callv (t := cT e 0) (as := [.int (nI hm)]) (rest := []) (v := .ref (D 0 hm)) (M1 := hk M T cs) rfl rfl iv_0_v128 (Or.inl rfl) na_1_39 (hF 0 (by decide)) ⟨by omega, by omega⟩ (show (0 : Nat) < 14 by decide) o_39 rfl (show (0 : Nat) ≤ 8 by decide) dc_1_27_47 (mm_Ev_up (by decide : 4 ≤ 7) (k_scAt_ok hV hm hhm)) ?_
                refine r_astore (ls' := [(6, .ref (D 0 hm)), (5, .null), (4, .ref (D 7 n_2)), (0, .ref 0), (1, .int (nI n_2)), (2, .int (nI n_15)), (3, .int (nI n_22))]) (by decide) rfl dc_1_27_50 ?_
                refine r_aloadZ rfl dc_1_27_52 ?_
                refine r_ifnullZ (t := 62) (by decide) dc_1_27_54 ?_
                refine r_iconst (v := -1) (by decide) dc_1_27_62 ?_
                refine r_iret rfl dc_1_27_63 ?_
                refine ⟨_, _, io, sg, nf, ny, tp, ⟨mm_Ev_up (by decide) (c_counts_n2 (hk M T cs) hM io sg ns h5 hns n_2 _ _ hn_2 (fun g => h56 g.1)), hV⟩, rfl⟩
            · exact absurd c_25 (by decide)
          · skip
            refine h_callS (as := [.int t]) (rest := []) (v := .int (nI 0)) rfl rfl iv_0_s108 (Or.inl rfl) na_0_25 rfl (show (0 : Nat) ≤ 8 by decide) dc_1_27_22 (mm_Ev_up (by decide : 2 ≤ 7) (by have h9 := k_isDay (hk M T cs) t; rw [show sp_in t (nI 0) (nI 359) = nI 0 from if_neg h_22] at h9; exact h9)) ?_
            refine r_ifne (t := 30) (by decide) dc_1_27_25 (fun c_25 => ?_) (fun c_25 => ?_)
            · exact absurd c_25 (by decide)
            · skip
              refine r_iconst (v := -1) (by decide) dc_1_27_28 ?_
              refine r_iret rfl dc_1_27_29 ?_
              refine ⟨_, _, io, sg, nf, ny, tp, ⟨mm_Ev_up (by decide) (c_counts_n2 (hk M T cs) hM io sg ns h5 hns n_2 _ _ hn_2 (fun g => h_22 (g_day.mp g.2.2))), hV⟩, rfl⟩
      · skip
        refine h_callS (as := [.int w9, .int (nI 0), .int (nI 1)]) (rest := []) (v := .int (nI 0)) rfl rfl iv_0_s84 (Or.inl rfl) na_0_13 rfl (show (0 : Nat) ≤ 8 by decide) dc_1_27_15 (mm_Ev_up (by decide : 1 ≤ 7) (by have h9 := k_in (hk M T cs) w9 (nI 0) (nI 1); rw [show sp_in w9 (nI 0) (nI 1) = nI 0 from if_neg h_15] at h9; exact h9)) ?_
        refine r_ifeq (t := 28) (by decide) dc_1_27_18 (fun c_18 => ?_) (fun c_18 => ?_)
        · skip
          refine r_iconst (v := -1) (by decide) dc_1_27_28 ?_
          refine r_iret rfl dc_1_27_29 ?_
          refine ⟨_, _, io, sg, nf, ny, tp, ⟨mm_Ev_up (by decide) (c_counts_n2 (hk M T cs) hM io sg ns h5 hns n_2 _ _ hn_2 (fun g => h_15 g.2.1)), hV⟩, rfl⟩
        · exact absurd c_18 (by decide)
    · skip
      refine h_callv (t := cT e 0) (as := [.int s]) (rest := []) (v := .null) (M1 := hk M T cs) rfl rfl iv_0_v180 (Or.inl rfl) na_1_102 (hF 0 (by decide)) ⟨by omega, by omega⟩ (show (0 : Nat) < 14 by decide) o_102 rfl (show (0 : Nat) ≤ 8 by decide) dc_1_27_2 (mm_Ev_up (by decide : 2 ≤ 7) (k_stAt_no hV s h_2)) ?_
      refine r_astoreZ (ls' := [(4, .null), (0, .ref 0), (1, .int s), (2, .int w9), (3, .int t)]) (by decide) rfl dc_1_27_5 ?_
      refine r_aloadZ rfl dc_1_27_7 ?_
      refine r_ifnullZ (t := 28) (by decide) dc_1_27_9 ?_
      refine r_iconst (v := -1) (by decide) dc_1_27_28 ?_
      refine r_iret rfl dc_1_27_29 ?_
      refine ⟨_, _, io, sg, nf, ny, tp, ⟨mm_Ev_up (by decide) (c_counts_no (hk M T cs) hM io sg _ _ _ (fun g => h_2 (by rw [← h5]; exact g))), hV⟩, rfl⟩
  obtain ⟨z9, ⟨v, cs2, io2, sg2, nf2, ny2, tp2, p9, e9⟩, h9⟩ := hq9
  subst e9
  exact ⟨v, cs2, io2, sg2, nf2, ny2, tp2, p9, h9⟩
theorem st_counts (s w9 t : Int32) : StpN 166 263 [.int s, .int w9, .int t] := fun M T cs sg io e D nh nx ns nf ny tp cm w cn wc hV => by
  obtain ⟨v, cs2, io2, sg2, nf2, ny2, tp2, hp, h⟩ := s_counts hV s w9 t
  exact ⟨v, cs2, io2, sg2, nf2, ny2, tp2, hp, mm_Ev_up (by decide) h⟩
