/-! the reference: course, cancel, fact, known, year, feed -/
theorem dc_14_13_0 : decode prog_14_method_13_code 0 = .ok (.iconst 3, 1) := by decide +kernel
theorem dc_14_13_1 : decode prog_14_method_13_code 1 = .ok (.istore_n 2, 1) := by decide +kernel
theorem dc_14_13_2 : decode prog_14_method_13_code 2 = .ok (.iload_n 2, 1) := by decide +kernel
theorem dc_14_13_3 : decode prog_14_method_13_code 3 = .ok (.ifCond .lt 35, 3) := by decide +kernel
theorem dc_14_13_6 : decode prog_14_method_13_code 6 = .ok (.aload_n 0, 1) := by decide +kernel
theorem dc_14_13_7 : decode prog_14_method_13_code 7 = .ok (.getfield 59, 3) := by decide +kernel
theorem dc_14_13_10 : decode prog_14_method_13_code 10 = .ok (.aload_n 0, 1) := by decide +kernel
theorem dc_14_13_11 : decode prog_14_method_13_code 11 = .ok (.getfield 209, 3) := by decide +kernel
theorem dc_14_13_14 : decode prog_14_method_13_code 14 = .ok (.iload_n 1, 1) := by decide +kernel
theorem dc_14_13_15 : decode prog_14_method_13_code 15 = .ok (.bipush 8, 2) := by decide +kernel
theorem dc_14_13_17 : decode prog_14_method_13_code 17 = .ok (.iload_n 2, 1) := by decide +kernel
theorem dc_14_13_18 : decode prog_14_method_13_code 18 = .ok (.imul, 1) := by decide +kernel
theorem dc_14_13_19 : decode prog_14_method_13_code 19 = .ok (.ishr, 1) := by decide +kernel
theorem dc_14_13_20 : decode prog_14_method_13_code 20 = .ok (.i2b, 1) := by decide +kernel
theorem dc_14_13_21 : decode prog_14_method_13_code 21 = .ok (.bastore, 1) := by decide +kernel
theorem dc_14_13_22 : decode prog_14_method_13_code 22 = .ok (.aload_n 0, 1) := by decide +kernel
theorem dc_14_13_23 : decode prog_14_method_13_code 23 = .ok (.aload_n 0, 1) := by decide +kernel
theorem dc_14_13_24 : decode prog_14_method_13_code 24 = .ok (.getfield 209, 3) := by decide +kernel
theorem dc_14_13_27 : decode prog_14_method_13_code 27 = .ok (.iconst 1, 1) := by decide +kernel
theorem dc_14_13_28 : decode prog_14_method_13_code 28 = .ok (.iadd, 1) := by decide +kernel
theorem dc_14_13_29 : decode prog_14_method_13_code 29 = .ok (.putfield 209, 3) := by decide +kernel
theorem dc_14_13_32 : decode prog_14_method_13_code 32 = .ok (.iinc 2 (-1), 3) := by decide +kernel
theorem dc_14_13_35 : decode prog_14_method_13_code 35 = .ok (.goto (-33), 3) := by decide +kernel
theorem dc_14_13_38 : decode prog_14_method_13_code 38 = .ok (.return_, 1) := by decide +kernel
theorem dc_14_14_0 : decode prog_14_method_14_code 0 = .ok (.aload_n 0, 1) := by decide +kernel
theorem dc_14_14_1 : decode prog_14_method_14_code 1 = .ok (.getfield 209, 3) := by decide +kernel
theorem dc_14_14_4 : decode prog_14_method_14_code 4 = .ok (.bipush 20, 2) := by decide +kernel
theorem dc_14_14_6 : decode prog_14_method_14_code 6 = .ok (.iadd, 1) := by decide +kernel
theorem dc_14_14_7 : decode prog_14_method_14_code 7 = .ok (.bipush 80, 2) := by decide +kernel
theorem dc_14_14_9 : decode prog_14_method_14_code 9 = .ok (.if_icmp .le 5, 3) := by decide +kernel
theorem dc_14_14_12 : decode prog_14_method_14_code 12 = .ok (.iconst (-1), 1) := by decide +kernel
theorem dc_14_14_13 : decode prog_14_method_14_code 13 = .ok (.ireturn, 1) := by decide +kernel
theorem dc_14_14_14 : decode prog_14_method_14_code 14 = .ok (.aload_n 0, 1) := by decide +kernel
theorem dc_14_14_15 : decode prog_14_method_14_code 15 = .ok (.iload_n 1, 1) := by decide +kernel
theorem dc_14_14_16 : decode prog_14_method_14_code 16 = .ok (.invokevirtual 212, 3) := by decide +kernel
theorem dc_14_14_19 : decode prog_14_method_14_code 19 = .ok (.aload_n 0, 1) := by decide +kernel
theorem dc_14_14_20 : decode prog_14_method_14_code 20 = .ok (.iload_n 2, 1) := by decide +kernel
theorem dc_14_14_21 : decode prog_14_method_14_code 21 = .ok (.invokevirtual 212, 3) := by decide +kernel
theorem dc_14_14_24 : decode prog_14_method_14_code 24 = .ok (.aload_n 0, 1) := by decide +kernel
theorem dc_14_14_25 : decode prog_14_method_14_code 25 = .ok (.iload_n 3, 1) := by decide +kernel
theorem dc_14_14_26 : decode prog_14_method_14_code 26 = .ok (.invokevirtual 212, 3) := by decide +kernel
theorem dc_14_14_29 : decode prog_14_method_14_code 29 = .ok (.aload_n 0, 1) := by decide +kernel
theorem dc_14_14_30 : decode prog_14_method_14_code 30 = .ok (.iload 4, 2) := by decide +kernel
theorem dc_14_14_32 : decode prog_14_method_14_code 32 = .ok (.invokevirtual 212, 3) := by decide +kernel
theorem dc_14_14_35 : decode prog_14_method_14_code 35 = .ok (.aload_n 0, 1) := by decide +kernel
theorem dc_14_14_36 : decode prog_14_method_14_code 36 = .ok (.iload 5, 2) := by decide +kernel
theorem dc_14_14_38 : decode prog_14_method_14_code 38 = .ok (.invokevirtual 212, 3) := by decide +kernel
theorem dc_14_14_41 : decode prog_14_method_14_code 41 = .ok (.aload_n 0, 1) := by decide +kernel
theorem dc_14_14_42 : decode prog_14_method_14_code 42 = .ok (.getfield 209, 3) := by decide +kernel
theorem dc_14_14_45 : decode prog_14_method_14_code 45 = .ok (.ireturn, 1) := by decide +kernel
theorem dc_14_63_0 : decode prog_14_method_63_code 0 = .ok (.aload_n 0, 1) := by decide +kernel
theorem dc_14_63_1 : decode prog_14_method_63_code 1 = .ok (.iload_n 1, 1) := by decide +kernel
theorem dc_14_63_2 : decode prog_14_method_63_code 2 = .ok (.invokevirtual 205, 3) := by decide +kernel
theorem dc_14_63_5 : decode prog_14_method_63_code 5 = .ok (.ifCond .eq 58, 3) := by decide +kernel
theorem dc_14_63_8 : decode prog_14_method_63_code 8 = .ok (.iload_n 2, 1) := by decide +kernel
theorem dc_14_63_9 : decode prog_14_method_63_code 9 = .ok (.iconst 0, 1) := by decide +kernel
theorem dc_14_63_10 : decode prog_14_method_63_code 10 = .ok (.sipush 4095, 3) := by decide +kernel
theorem dc_14_63_13 : decode prog_14_method_63_code 13 = .ok (.invokestatic 180, 3) := by decide +kernel
theorem dc_14_63_16 : decode prog_14_method_63_code 16 = .ok (.ifCond .eq 47, 3) := by decide +kernel
theorem dc_14_63_19 : decode prog_14_method_63_code 19 = .ok (.iload_n 3, 1) := by decide +kernel
theorem dc_14_63_20 : decode prog_14_method_63_code 20 = .ok (.iconst 1, 1) := by decide +kernel
theorem dc_14_63_21 : decode prog_14_method_63_code 21 = .ok (.bipush 9, 2) := by decide +kernel
theorem dc_14_63_23 : decode prog_14_method_63_code 23 = .ok (.invokestatic 180, 3) := by decide +kernel
theorem dc_14_63_26 : decode prog_14_method_63_code 26 = .ok (.ifCond .eq 37, 3) := by decide +kernel
theorem dc_14_63_29 : decode prog_14_method_63_code 29 = .ok (.iload 4, 2) := by decide +kernel
theorem dc_14_63_31 : decode prog_14_method_63_code 31 = .ok (.iconst 0, 1) := by decide +kernel
theorem dc_14_63_32 : decode prog_14_method_63_code 32 = .ok (.bipush 9, 2) := by decide +kernel
theorem dc_14_63_34 : decode prog_14_method_63_code 34 = .ok (.invokestatic 180, 3) := by decide +kernel
theorem dc_14_63_37 : decode prog_14_method_63_code 37 = .ok (.ifCond .eq 26, 3) := by decide +kernel
theorem dc_14_63_40 : decode prog_14_method_63_code 40 = .ok (.iload 5, 2) := by decide +kernel
theorem dc_14_63_42 : decode prog_14_method_63_code 42 = .ok (.iconst 0, 1) := by decide +kernel
theorem dc_14_63_43 : decode prog_14_method_63_code 43 = .ok (.ldc_w 391, 3) := by decide +kernel
theorem dc_14_63_46 : decode prog_14_method_63_code 46 = .ok (.invokestatic 180, 3) := by decide +kernel
theorem dc_14_63_49 : decode prog_14_method_63_code 49 = .ok (.ifCond .eq 14, 3) := by decide +kernel
theorem dc_14_63_52 : decode prog_14_method_63_code 52 = .ok (.aload_n 0, 1) := by decide +kernel
theorem dc_14_63_53 : decode prog_14_method_63_code 53 = .ok (.getfield 40, 3) := by decide +kernel
theorem dc_14_63_56 : decode prog_14_method_63_code 56 = .ok (.iload_n 1, 1) := by decide +kernel
theorem dc_14_63_57 : decode prog_14_method_63_code 57 = .ok (.iaload, 1) := by decide +kernel
theorem dc_14_63_58 : decode prog_14_method_63_code 58 = .ok (.bipush 6, 2) := by decide +kernel
theorem dc_14_63_60 : decode prog_14_method_63_code 60 = .ok (.if_icmp .ne 5, 3) := by decide +kernel
theorem dc_14_63_63 : decode prog_14_method_63_code 63 = .ok (.iconst (-1), 1) := by decide +kernel
theorem dc_14_63_64 : decode prog_14_method_63_code 64 = .ok (.ireturn, 1) := by decide +kernel
theorem dc_14_63_65 : decode prog_14_method_63_code 65 = .ok (.bipush 6, 2) := by decide +kernel
theorem dc_14_63_67 : decode prog_14_method_63_code 67 = .ok (.iload_n 1, 1) := by decide +kernel
theorem dc_14_63_68 : decode prog_14_method_63_code 68 = .ok (.imul, 1) := by decide +kernel
theorem dc_14_63_69 : decode prog_14_method_63_code 69 = .ok (.aload_n 0, 1) := by decide +kernel
theorem dc_14_63_70 : decode prog_14_method_63_code 70 = .ok (.getfield 40, 3) := by decide +kernel
theorem dc_14_63_73 : decode prog_14_method_63_code 73 = .ok (.iload_n 1, 1) := by decide +kernel
theorem dc_14_63_74 : decode prog_14_method_63_code 74 = .ok (.iaload, 1) := by decide +kernel
theorem dc_14_63_75 : decode prog_14_method_63_code 75 = .ok (.iadd, 1) := by decide +kernel
theorem dc_14_63_76 : decode prog_14_method_63_code 76 = .ok (.istore 6, 2) := by decide +kernel
theorem dc_14_63_78 : decode prog_14_method_63_code 78 = .ok (.aload_n 0, 1) := by decide +kernel
theorem dc_14_63_79 : decode prog_14_method_63_code 79 = .ok (.getfield 43, 3) := by decide +kernel
theorem dc_14_63_82 : decode prog_14_method_63_code 82 = .ok (.iload 6, 2) := by decide +kernel
theorem dc_14_63_84 : decode prog_14_method_63_code 84 = .ok (.iload_n 2, 1) := by decide +kernel
theorem dc_14_63_85 : decode prog_14_method_63_code 85 = .ok (.iastore, 1) := by decide +kernel
theorem dc_14_63_86 : decode prog_14_method_63_code 86 = .ok (.aload_n 0, 1) := by decide +kernel
theorem dc_14_63_87 : decode prog_14_method_63_code 87 = .ok (.getfield 46, 3) := by decide +kernel
theorem dc_14_63_90 : decode prog_14_method_63_code 90 = .ok (.iload 6, 2) := by decide +kernel
theorem dc_14_63_92 : decode prog_14_method_63_code 92 = .ok (.iload_n 3, 1) := by decide +kernel
theorem dc_14_63_93 : decode prog_14_method_63_code 93 = .ok (.iastore, 1) := by decide +kernel
theorem dc_14_63_94 : decode prog_14_method_63_code 94 = .ok (.aload_n 0, 1) := by decide +kernel
theorem dc_14_63_95 : decode prog_14_method_63_code 95 = .ok (.getfield 49, 3) := by decide +kernel
theorem dc_14_63_98 : decode prog_14_method_63_code 98 = .ok (.iload 6, 2) := by decide +kernel
theorem dc_14_63_100 : decode prog_14_method_63_code 100 = .ok (.iload 4, 2) := by decide +kernel
theorem dc_14_63_102 : decode prog_14_method_63_code 102 = .ok (.iastore, 1) := by decide +kernel
theorem dc_14_63_103 : decode prog_14_method_63_code 103 = .ok (.aload_n 0, 1) := by decide +kernel
theorem dc_14_63_104 : decode prog_14_method_63_code 104 = .ok (.getfield 52, 3) := by decide +kernel
theorem dc_14_63_107 : decode prog_14_method_63_code 107 = .ok (.iload 6, 2) := by decide +kernel
theorem dc_14_63_109 : decode prog_14_method_63_code 109 = .ok (.iload 5, 2) := by decide +kernel
theorem dc_14_63_111 : decode prog_14_method_63_code 111 = .ok (.iastore, 1) := by decide +kernel
theorem dc_14_63_112 : decode prog_14_method_63_code 112 = .ok (.aload_n 0, 1) := by decide +kernel
theorem dc_14_63_113 : decode prog_14_method_63_code 113 = .ok (.getfield 40, 3) := by decide +kernel
theorem dc_14_63_116 : decode prog_14_method_63_code 116 = .ok (.iload_n 1, 1) := by decide +kernel
theorem dc_14_63_117 : decode prog_14_method_63_code 117 = .ok (.aload_n 0, 1) := by decide +kernel
theorem dc_14_63_118 : decode prog_14_method_63_code 118 = .ok (.getfield 40, 3) := by decide +kernel
theorem dc_14_63_121 : decode prog_14_method_63_code 121 = .ok (.iload_n 1, 1) := by decide +kernel
theorem dc_14_63_122 : decode prog_14_method_63_code 122 = .ok (.iaload, 1) := by decide +kernel
theorem dc_14_63_123 : decode prog_14_method_63_code 123 = .ok (.iconst 1, 1) := by decide +kernel
theorem dc_14_63_124 : decode prog_14_method_63_code 124 = .ok (.iadd, 1) := by decide +kernel
theorem dc_14_63_125 : decode prog_14_method_63_code 125 = .ok (.iastore, 1) := by decide +kernel
theorem dc_14_63_126 : decode prog_14_method_63_code 126 = .ok (.aload_n 0, 1) := by decide +kernel
theorem dc_14_63_127 : decode prog_14_method_63_code 127 = .ok (.getfield 40, 3) := by decide +kernel
theorem dc_14_63_130 : decode prog_14_method_63_code 130 = .ok (.iload_n 1, 1) := by decide +kernel
theorem dc_14_63_131 : decode prog_14_method_63_code 131 = .ok (.iaload, 1) := by decide +kernel
theorem dc_14_63_132 : decode prog_14_method_63_code 132 = .ok (.iconst 1, 1) := by decide +kernel
theorem dc_14_63_133 : decode prog_14_method_63_code 133 = .ok (.isub, 1) := by decide +kernel
theorem dc_14_63_134 : decode prog_14_method_63_code 134 = .ok (.ireturn, 1) := by decide +kernel
theorem dc_14_64_0 : decode prog_14_method_64_code 0 = .ok (.aload_n 0, 1) := by decide +kernel
theorem dc_14_64_1 : decode prog_14_method_64_code 1 = .ok (.iload_n 1, 1) := by decide +kernel
theorem dc_14_64_2 : decode prog_14_method_64_code 2 = .ok (.invokevirtual 205, 3) := by decide +kernel
theorem dc_14_64_5 : decode prog_14_method_64_code 5 = .ok (.ifCond .eq 21, 3) := by decide +kernel
theorem dc_14_64_8 : decode prog_14_method_64_code 8 = .ok (.iload_n 2, 1) := by decide +kernel
theorem dc_14_64_9 : decode prog_14_method_64_code 9 = .ok (.ifCond .lt 17, 3) := by decide +kernel
theorem dc_14_64_12 : decode prog_14_method_64_code 12 = .ok (.iload_n 2, 1) := by decide +kernel
theorem dc_14_64_13 : decode prog_14_method_64_code 13 = .ok (.aload_n 0, 1) := by decide +kernel
theorem dc_14_64_14 : decode prog_14_method_64_code 14 = .ok (.getfield 40, 3) := by decide +kernel
theorem dc_14_64_17 : decode prog_14_method_64_code 17 = .ok (.iload_n 1, 1) := by decide +kernel
theorem dc_14_64_18 : decode prog_14_method_64_code 18 = .ok (.iaload, 1) := by decide +kernel
theorem dc_14_64_19 : decode prog_14_method_64_code 19 = .ok (.if_icmp .ge 7, 3) := by decide +kernel
theorem dc_14_64_22 : decode prog_14_method_64_code 22 = .ok (.iconst 1, 1) := by decide +kernel
theorem dc_14_64_23 : decode prog_14_method_64_code 23 = .ok (.goto 4, 3) := by decide +kernel
theorem dc_14_64_26 : decode prog_14_method_64_code 26 = .ok (.iconst 0, 1) := by decide +kernel
theorem dc_14_64_27 : decode prog_14_method_64_code 27 = .ok (.ireturn, 1) := by decide +kernel
theorem dc_14_65_0 : decode prog_14_method_65_code 0 = .ok (.aload_n 0, 1) := by decide +kernel
theorem dc_14_65_1 : decode prog_14_method_65_code 1 = .ok (.iload_n 1, 1) := by decide +kernel
theorem dc_14_65_2 : decode prog_14_method_65_code 2 = .ok (.iload_n 2, 1) := by decide +kernel
theorem dc_14_65_3 : decode prog_14_method_65_code 3 = .ok (.invokevirtual 392, 3) := by decide +kernel
theorem dc_14_65_6 : decode prog_14_method_65_code 6 = .ok (.ifCond .eq 18, 3) := by decide +kernel
theorem dc_14_65_9 : decode prog_14_method_65_code 9 = .ok (.aload_n 0, 1) := by decide +kernel
theorem dc_14_65_10 : decode prog_14_method_65_code 10 = .ok (.getfield 55, 3) := by decide +kernel
theorem dc_14_65_13 : decode prog_14_method_65_code 13 = .ok (.bipush 6, 2) := by decide +kernel
theorem dc_14_65_15 : decode prog_14_method_65_code 15 = .ok (.iload_n 1, 1) := by decide +kernel
theorem dc_14_65_16 : decode prog_14_method_65_code 16 = .ok (.imul, 1) := by decide +kernel
theorem dc_14_65_17 : decode prog_14_method_65_code 17 = .ok (.iload_n 2, 1) := by decide +kernel
theorem dc_14_65_18 : decode prog_14_method_65_code 18 = .ok (.iadd, 1) := by decide +kernel
theorem dc_14_65_19 : decode prog_14_method_65_code 19 = .ok (.baload, 1) := by decide +kernel
theorem dc_14_65_20 : decode prog_14_method_65_code 20 = .ok (.iload_n 3, 1) := by decide +kernel
theorem dc_14_65_21 : decode prog_14_method_65_code 21 = .ok (.if_icmp .ne 5, 3) := by decide +kernel
theorem dc_14_65_24 : decode prog_14_method_65_code 24 = .ok (.iconst 0, 1) := by decide +kernel
theorem dc_14_65_25 : decode prog_14_method_65_code 25 = .ok (.ireturn, 1) := by decide +kernel
theorem dc_14_65_26 : decode prog_14_method_65_code 26 = .ok (.aload_n 0, 1) := by decide +kernel
theorem dc_14_65_27 : decode prog_14_method_65_code 27 = .ok (.getfield 55, 3) := by decide +kernel
theorem dc_14_65_30 : decode prog_14_method_65_code 30 = .ok (.bipush 6, 2) := by decide +kernel
theorem dc_14_65_32 : decode prog_14_method_65_code 32 = .ok (.iload_n 1, 1) := by decide +kernel
theorem dc_14_65_33 : decode prog_14_method_65_code 33 = .ok (.imul, 1) := by decide +kernel
theorem dc_14_65_34 : decode prog_14_method_65_code 34 = .ok (.iload_n 2, 1) := by decide +kernel
theorem dc_14_65_35 : decode prog_14_method_65_code 35 = .ok (.iadd, 1) := by decide +kernel
theorem dc_14_65_36 : decode prog_14_method_65_code 36 = .ok (.iload_n 3, 1) := by decide +kernel
theorem dc_14_65_37 : decode prog_14_method_65_code 37 = .ok (.bastore, 1) := by decide +kernel
theorem dc_14_65_38 : decode prog_14_method_65_code 38 = .ok (.iconst 1, 1) := by decide +kernel
theorem dc_14_65_39 : decode prog_14_method_65_code 39 = .ok (.ireturn, 1) := by decide +kernel
theorem dc_14_72_0 : decode prog_14_method_72_code 0 = .ok (.aload_n 0, 1) := by decide +kernel
theorem dc_14_72_1 : decode prog_14_method_72_code 1 = .ok (.iload_n 1, 1) := by decide +kernel
theorem dc_14_72_2 : decode prog_14_method_72_code 2 = .ok (.invokevirtual 323, 3) := by decide +kernel
theorem dc_14_72_5 : decode prog_14_method_72_code 5 = .ok (.ifCond .eq 61, 3) := by decide +kernel
theorem dc_14_72_8 : decode prog_14_method_72_code 8 = .ok (.aload_n 0, 1) := by decide +kernel
theorem dc_14_72_9 : decode prog_14_method_72_code 9 = .ok (.getfield 123, 3) := by decide +kernel
theorem dc_14_72_12 : decode prog_14_method_72_code 12 = .ok (.iload_n 1, 1) := by decide +kernel
theorem dc_14_72_13 : decode prog_14_method_72_code 13 = .ok (.iaload, 1) := by decide +kernel
theorem dc_14_72_14 : decode prog_14_method_72_code 14 = .ok (.iconst 1, 1) := by decide +kernel
theorem dc_14_72_15 : decode prog_14_method_72_code 15 = .ok (.if_icmp .ne 51, 3) := by decide +kernel
theorem dc_14_72_18 : decode prog_14_method_72_code 18 = .ok (.iload_n 2, 1) := by decide +kernel
theorem dc_14_72_19 : decode prog_14_method_72_code 19 = .ok (.iconst 0, 1) := by decide +kernel
theorem dc_14_72_20 : decode prog_14_method_72_code 20 = .ok (.iconst 3, 1) := by decide +kernel
theorem dc_14_72_21 : decode prog_14_method_72_code 21 = .ok (.invokestatic 180, 3) := by decide +kernel
theorem dc_14_72_24 : decode prog_14_method_72_code 24 = .ok (.ifCond .eq 42, 3) := by decide +kernel
theorem dc_14_72_27 : decode prog_14_method_72_code 27 = .ok (.iload_n 3, 1) := by decide +kernel
theorem dc_14_72_28 : decode prog_14_method_72_code 28 = .ok (.iconst (-1), 1) := by decide +kernel
theorem dc_14_72_29 : decode prog_14_method_72_code 29 = .ok (.if_icmp .eq 10, 3) := by decide +kernel
theorem dc_14_72_32 : decode prog_14_method_72_code 32 = .ok (.iload_n 3, 1) := by decide +kernel
theorem dc_14_72_33 : decode prog_14_method_72_code 33 = .ok (.invokestatic 422, 3) := by decide +kernel
theorem dc_14_72_36 : decode prog_14_method_72_code 36 = .ok (.ifCond .eq 30, 3) := by decide +kernel
theorem dc_14_72_39 : decode prog_14_method_72_code 39 = .ok (.iload 4, 2) := by decide +kernel
theorem dc_14_72_41 : decode prog_14_method_72_code 41 = .ok (.invokestatic 422, 3) := by decide +kernel
theorem dc_14_72_44 : decode prog_14_method_72_code 44 = .ok (.ifCond .eq 22, 3) := by decide +kernel
theorem dc_14_72_47 : decode prog_14_method_72_code 47 = .ok (.iload 4, 2) := by decide +kernel
theorem dc_14_72_49 : decode prog_14_method_72_code 49 = .ok (.aload_n 0, 1) := by decide +kernel
theorem dc_14_72_50 : decode prog_14_method_72_code 50 = .ok (.getfield 425, 3) := by decide +kernel
theorem dc_14_72_53 : decode prog_14_method_72_code 53 = .ok (.if_icmp .lt 13, 3) := by decide +kernel
theorem dc_14_72_56 : decode prog_14_method_72_code 56 = .ok (.aload_n 0, 1) := by decide +kernel
theorem dc_14_72_57 : decode prog_14_method_72_code 57 = .ok (.getfield 419, 3) := by decide +kernel
theorem dc_14_72_60 : decode prog_14_method_72_code 60 = .ok (.sipush 200, 3) := by decide +kernel
theorem dc_14_72_63 : decode prog_14_method_72_code 63 = .ok (.if_icmp .ne 5, 3) := by decide +kernel
theorem dc_14_72_66 : decode prog_14_method_72_code 66 = .ok (.iconst 0, 1) := by decide +kernel
theorem dc_14_72_67 : decode prog_14_method_72_code 67 = .ok (.ireturn, 1) := by decide +kernel
theorem dc_14_72_68 : decode prog_14_method_72_code 68 = .ok (.aload_n 0, 1) := by decide +kernel
theorem dc_14_72_69 : decode prog_14_method_72_code 69 = .ok (.getfield 168, 3) := by decide +kernel
theorem dc_14_72_72 : decode prog_14_method_72_code 72 = .ok (.aload_n 0, 1) := by decide +kernel
theorem dc_14_72_73 : decode prog_14_method_72_code 73 = .ok (.getfield 419, 3) := by decide +kernel
theorem dc_14_72_76 : decode prog_14_method_72_code 76 = .ok (.iload_n 1, 1) := by decide +kernel
theorem dc_14_72_77 : decode prog_14_method_72_code 77 = .ok (.iastore, 1) := by decide +kernel
theorem dc_14_72_78 : decode prog_14_method_72_code 78 = .ok (.aload_n 0, 1) := by decide +kernel
theorem dc_14_72_79 : decode prog_14_method_72_code 79 = .ok (.getfield 171, 3) := by decide +kernel
theorem dc_14_72_82 : decode prog_14_method_72_code 82 = .ok (.aload_n 0, 1) := by decide +kernel
theorem dc_14_72_83 : decode prog_14_method_72_code 83 = .ok (.getfield 419, 3) := by decide +kernel
theorem dc_14_72_86 : decode prog_14_method_72_code 86 = .ok (.iload_n 2, 1) := by decide +kernel
theorem dc_14_72_87 : decode prog_14_method_72_code 87 = .ok (.iastore, 1) := by decide +kernel
theorem dc_14_72_88 : decode prog_14_method_72_code 88 = .ok (.aload_n 0, 1) := by decide +kernel
theorem dc_14_72_89 : decode prog_14_method_72_code 89 = .ok (.getfield 174, 3) := by decide +kernel
theorem dc_14_72_92 : decode prog_14_method_72_code 92 = .ok (.aload_n 0, 1) := by decide +kernel
theorem dc_14_72_93 : decode prog_14_method_72_code 93 = .ok (.getfield 419, 3) := by decide +kernel
theorem dc_14_72_96 : decode prog_14_method_72_code 96 = .ok (.iload_n 3, 1) := by decide +kernel
theorem dc_14_72_97 : decode prog_14_method_72_code 97 = .ok (.iastore, 1) := by decide +kernel
theorem dc_14_72_98 : decode prog_14_method_72_code 98 = .ok (.aload_n 0, 1) := by decide +kernel
theorem dc_14_72_99 : decode prog_14_method_72_code 99 = .ok (.getfield 177, 3) := by decide +kernel
theorem dc_14_72_102 : decode prog_14_method_72_code 102 = .ok (.aload_n 0, 1) := by decide +kernel
theorem dc_14_72_103 : decode prog_14_method_72_code 103 = .ok (.getfield 419, 3) := by decide +kernel
theorem dc_14_72_106 : decode prog_14_method_72_code 106 = .ok (.iload 4, 2) := by decide +kernel
theorem dc_14_72_108 : decode prog_14_method_72_code 108 = .ok (.iastore, 1) := by decide +kernel
theorem dc_14_72_109 : decode prog_14_method_72_code 109 = .ok (.aload_n 0, 1) := by decide +kernel
theorem dc_14_72_110 : decode prog_14_method_72_code 110 = .ok (.aload_n 0, 1) := by decide +kernel
theorem dc_14_72_111 : decode prog_14_method_72_code 111 = .ok (.getfield 419, 3) := by decide +kernel
theorem dc_14_72_114 : decode prog_14_method_72_code 114 = .ok (.iconst 1, 1) := by decide +kernel
theorem dc_14_72_115 : decode prog_14_method_72_code 115 = .ok (.iadd, 1) := by decide +kernel
theorem dc_14_72_116 : decode prog_14_method_72_code 116 = .ok (.putfield 419, 3) := by decide +kernel
theorem dc_14_72_119 : decode prog_14_method_72_code 119 = .ok (.aload_n 0, 1) := by decide +kernel
theorem dc_14_72_120 : decode prog_14_method_72_code 120 = .ok (.iload 4, 2) := by decide +kernel
theorem dc_14_72_122 : decode prog_14_method_72_code 122 = .ok (.putfield 425, 3) := by decide +kernel
theorem dc_14_72_125 : decode prog_14_method_72_code 125 = .ok (.iconst 1, 1) := by decide +kernel
theorem dc_14_72_126 : decode prog_14_method_72_code 126 = .ok (.ireturn, 1) := by decide +kernel
theorem dc_14_74_0 : decode prog_14_method_74_code 0 = .ok (.aload_n 0, 1) := by decide +kernel
theorem dc_14_74_1 : decode prog_14_method_74_code 1 = .ok (.iload_n 1, 1) := by decide +kernel
theorem dc_14_74_2 : decode prog_14_method_74_code 2 = .ok (.invokevirtual 323, 3) := by decide +kernel
theorem dc_14_74_5 : decode prog_14_method_74_code 5 = .ok (.ifCond .eq 29, 3) := by decide +kernel
theorem dc_14_74_8 : decode prog_14_method_74_code 8 = .ok (.iload_n 2, 1) := by decide +kernel
theorem dc_14_74_9 : decode prog_14_method_74_code 9 = .ok (.iconst 0, 1) := by decide +kernel
theorem dc_14_74_10 : decode prog_14_method_74_code 10 = .ok (.iconst 3, 1) := by decide +kernel
theorem dc_14_74_11 : decode prog_14_method_74_code 11 = .ok (.invokestatic 180, 3) := by decide +kernel
theorem dc_14_74_14 : decode prog_14_method_74_code 14 = .ok (.ifCond .eq 20, 3) := by decide +kernel
theorem dc_14_74_17 : decode prog_14_method_74_code 17 = .ok (.iload_n 3, 1) := by decide +kernel
theorem dc_14_74_18 : decode prog_14_method_74_code 18 = .ok (.invokestatic 422, 3) := by decide +kernel
theorem dc_14_74_21 : decode prog_14_method_74_code 21 = .ok (.ifCond .eq 13, 3) := by decide +kernel
theorem dc_14_74_24 : decode prog_14_method_74_code 24 = .ok (.aload_n 0, 1) := by decide +kernel
theorem dc_14_74_25 : decode prog_14_method_74_code 25 = .ok (.iload_n 1, 1) := by decide +kernel
theorem dc_14_74_26 : decode prog_14_method_74_code 26 = .ok (.iload_n 2, 1) := by decide +kernel
theorem dc_14_74_27 : decode prog_14_method_74_code 27 = .ok (.iload_n 3, 1) := by decide +kernel
theorem dc_14_74_28 : decode prog_14_method_74_code 28 = .ok (.invokevirtual 428, 3) := by decide +kernel
theorem dc_14_74_31 : decode prog_14_method_74_code 31 = .ok (.goto 4, 3) := by decide +kernel
theorem dc_14_74_34 : decode prog_14_method_74_code 34 = .ok (.iconst (-1), 1) := by decide +kernel
theorem dc_14_74_35 : decode prog_14_method_74_code 35 = .ok (.ireturn, 1) := by decide +kernel
theorem dc_14_81_0 : decode prog_14_method_81_code 0 = .ok (.aload_n 0, 1) := by decide +kernel
theorem dc_14_81_1 : decode prog_14_method_81_code 1 = .ok (.getfield 329, 3) := by decide +kernel
theorem dc_14_81_4 : decode prog_14_method_81_code 4 = .ok (.bipush 99, 2) := by decide +kernel
theorem dc_14_81_6 : decode prog_14_method_81_code 6 = .ok (.if_icmp .ne 5, 3) := by decide +kernel
theorem dc_14_81_9 : decode prog_14_method_81_code 9 = .ok (.iconst (-1), 1) := by decide +kernel
theorem dc_14_81_10 : decode prog_14_method_81_code 10 = .ok (.ireturn, 1) := by decide +kernel
theorem dc_14_81_11 : decode prog_14_method_81_code 11 = .ok (.iconst 0, 1) := by decide +kernel
theorem dc_14_81_12 : decode prog_14_method_81_code 12 = .ok (.istore_n 1, 1) := by decide +kernel
theorem dc_14_81_13 : decode prog_14_method_81_code 13 = .ok (.iload_n 1, 1) := by decide +kernel
theorem dc_14_81_14 : decode prog_14_method_81_code 14 = .ok (.aload_n 0, 1) := by decide +kernel
theorem dc_14_81_15 : decode prog_14_method_81_code 15 = .ok (.getfield 320, 3) := by decide +kernel
theorem dc_14_81_18 : decode prog_14_method_81_code 18 = .ok (.if_icmp .ge 46, 3) := by decide +kernel
theorem dc_14_81_21 : decode prog_14_method_81_code 21 = .ok (.aload_n 0, 1) := by decide +kernel
theorem dc_14_81_22 : decode prog_14_method_81_code 22 = .ok (.getfield 123, 3) := by decide +kernel
theorem dc_14_81_25 : decode prog_14_method_81_code 25 = .ok (.iload_n 1, 1) := by decide +kernel
theorem dc_14_81_26 : decode prog_14_method_81_code 26 = .ok (.iaload, 1) := by decide +kernel
theorem dc_14_81_27 : decode prog_14_method_81_code 27 = .ok (.iconst 1, 1) := by decide +kernel
theorem dc_14_81_28 : decode prog_14_method_81_code 28 = .ok (.if_icmp .ne 13, 3) := by decide +kernel
theorem dc_14_81_31 : decode prog_14_method_81_code 31 = .ok (.aload_n 0, 1) := by decide +kernel
theorem dc_14_81_32 : decode prog_14_method_81_code 32 = .ok (.getfield 123, 3) := by decide +kernel
theorem dc_14_81_35 : decode prog_14_method_81_code 35 = .ok (.iload_n 1, 1) := by decide +kernel
theorem dc_14_81_36 : decode prog_14_method_81_code 36 = .ok (.iconst 3, 1) := by decide +kernel
theorem dc_14_81_37 : decode prog_14_method_81_code 37 = .ok (.iastore, 1) := by decide +kernel
theorem dc_14_81_38 : decode prog_14_method_81_code 38 = .ok (.goto 20, 3) := by decide +kernel
theorem dc_14_81_41 : decode prog_14_method_81_code 41 = .ok (.aload_n 0, 1) := by decide +kernel
theorem dc_14_81_42 : decode prog_14_method_81_code 42 = .ok (.getfield 123, 3) := by decide +kernel
theorem dc_14_81_45 : decode prog_14_method_81_code 45 = .ok (.iload_n 1, 1) := by decide +kernel
theorem dc_14_81_46 : decode prog_14_method_81_code 46 = .ok (.iaload, 1) := by decide +kernel
theorem dc_14_81_47 : decode prog_14_method_81_code 47 = .ok (.iconst 2, 1) := by decide +kernel
theorem dc_14_81_48 : decode prog_14_method_81_code 48 = .ok (.if_icmp .ne 10, 3) := by decide +kernel
theorem dc_14_81_51 : decode prog_14_method_81_code 51 = .ok (.aload_n 0, 1) := by decide +kernel
theorem dc_14_81_52 : decode prog_14_method_81_code 52 = .ok (.getfield 123, 3) := by decide +kernel
theorem dc_14_81_55 : decode prog_14_method_81_code 55 = .ok (.iload_n 1, 1) := by decide +kernel
theorem dc_14_81_56 : decode prog_14_method_81_code 56 = .ok (.iconst 0, 1) := by decide +kernel
theorem dc_14_81_57 : decode prog_14_method_81_code 57 = .ok (.iastore, 1) := by decide +kernel
theorem dc_14_81_58 : decode prog_14_method_81_code 58 = .ok (.iinc 1 1, 3) := by decide +kernel
theorem dc_14_81_61 : decode prog_14_method_81_code 61 = .ok (.goto (-48), 3) := by decide +kernel
theorem dc_14_81_64 : decode prog_14_method_81_code 64 = .ok (.aload_n 0, 1) := by decide +kernel
theorem dc_14_81_65 : decode prog_14_method_81_code 65 = .ok (.iconst 0, 1) := by decide +kernel
theorem dc_14_81_66 : decode prog_14_method_81_code 66 = .ok (.putfield 419, 3) := by decide +kernel
theorem dc_14_81_69 : decode prog_14_method_81_code 69 = .ok (.aload_n 0, 1) := by decide +kernel
theorem dc_14_81_70 : decode prog_14_method_81_code 70 = .ok (.iconst 0, 1) := by decide +kernel
theorem dc_14_81_71 : decode prog_14_method_81_code 71 = .ok (.putfield 425, 3) := by decide +kernel
theorem dc_14_81_74 : decode prog_14_method_81_code 74 = .ok (.aload_n 0, 1) := by decide +kernel
theorem dc_14_81_75 : decode prog_14_method_81_code 75 = .ok (.aload_n 0, 1) := by decide +kernel
theorem dc_14_81_76 : decode prog_14_method_81_code 76 = .ok (.getfield 329, 3) := by decide +kernel
theorem dc_14_81_79 : decode prog_14_method_81_code 79 = .ok (.iconst 1, 1) := by decide +kernel
theorem dc_14_81_80 : decode prog_14_method_81_code 80 = .ok (.iadd, 1) := by decide +kernel
theorem dc_14_81_81 : decode prog_14_method_81_code 81 = .ok (.putfield 329, 3) := by decide +kernel
theorem dc_14_81_84 : decode prog_14_method_81_code 84 = .ok (.aload_n 0, 1) := by decide +kernel
theorem dc_14_81_85 : decode prog_14_method_81_code 85 = .ok (.getfield 329, 3) := by decide +kernel
theorem dc_14_81_88 : decode prog_14_method_81_code 88 = .ok (.ireturn, 1) := by decide +kernel
theorem iv_13_s422 : mm_iv 13 (.invokestatic 422) = some (0, 256) := by decide +kernel
theorem iv_13_v212 : mm_iv 13 (.invokevirtual 212) = some (1, 198) := by decide +kernel
theorem iv_13_v392 : mm_iv 13 (.invokevirtual 392) = some (1, 250) := by decide +kernel
theorem iv_13_v428 : mm_iv 13 (.invokevirtual 428) = some (1, 258) := by decide +kernel
theorem nr_13_391 : mm_nr 13 391 = some (nI 1048575) := by decide +kernel
theorem o_198 : mm_o 198 = 13 := by decide +kernel
theorem o_250 : mm_o 250 = 13 := by decide +kernel
theorem o_258 : mm_o 258 = 13 := by decide +kernel
theorem na_0_256 : mm_nas 0 256 = 1 := by decide +kernel
theorem na_1_198 : mm_nas 1 198 = 2 := by decide +kernel
theorem na_1_250 : mm_nas 1 250 = 3 := by decide +kernel
theorem na_1_258 : mm_nas 1 258 = 4 := by decide +kernel
def gd_course (io : Nat → Int32) (sg : Nat → Nat → Int32) (h a b c d : Int32) : Prop := (0 ≤ h ∧ h < io 3) ∧ (nI 0 ≤ a ∧ a ≤ nI 4095) ∧ (nI 1 ≤ b ∧ b ≤ nI 9) ∧ (nI 0 ≤ c ∧ c ≤ nI 9) ∧ (nI 0 ≤ d ∧ d ≤ nI 1048575)
set_option maxHeartbeats 4000000 in
theorem c_course_ok (M : mH) (hM : 157 ≤ M.1) (io : Nat → Int32) (sg : Nat → Nat → Int32) (nh : Nat) (h3 : io 3 = nI nh) (hnh : nh ≤ 8) (h a b c d : Nat) (hh : h < nh) (ha : a ≤ 4095) (hb1 : 1 ≤ b) (hb : b ≤ 9) (hc : c ≤ 9) (hd : d ≤ 1048575) (cm : Nat) (hcm : sg 16 h = nI cm) (hc6 : cm < 6) : mm_Ev 2 248 [.ref 100, .int (nI h), .int (nI a), .int (nI b), .int (nI c), .int (nI d)] (rf_mk M io sg) ((some (.int (nI cm)), rf_mk M io (va_up (va_up (va_up (va_up (va_up sg 17 (upd (sg 17) (6 * h + cm) (nI a))) 18 (upd (sg 18) (6 * h + cm) (nI b))) 19 (upd (sg 19) (6 * h + cm) (nI c))) 20 (upd (sg 20) (6 * h + cm) (nI d))) 16 (upd (sg 16) h (nI (cm + 1)))))) := by
  refine r_ev (by decide +kernel) (show (6 : Nat) ≤ mm_nL 248 by decide +kernel) ?_
  show mm_Ru 1 (13, 7, false, prog_14_method_63_code, some .int) 0 [(0, .ref 100), (1, .int (nI h)), (2, .int (nI a)), (3, .int (nI b)), (4, .int (nI c)), (5, .int (nI d))] [] (rf_mk M io sg) (fun r9 => r9 = ((some (.int (nI cm)), rf_mk M io (va_up (va_up (va_up (va_up (va_up sg 17 (upd (sg 17) (6 * h + cm) (nI a))) 18 (upd (sg 18) (6 * h + cm) (nI b))) 19 (upd (sg 19) (6 * h + cm) (nI c))) 20 (upd (sg 20) (6 * h + cm) (nI d))) 16 (upd (sg 16) h (nI (cm + 1)))))))
  refine r_aload_n rfl dc_14_63_0 ?_
  refine r_iload_n rfl dc_14_63_1 ?_
  refine q_calli (as := [.int (nI h)]) (rest := []) (v := .int (nI 1)) (M1 := rf_mk M io sg) iv_13_v205 na_1_196 o_196 hM rfl (show (0 : Nat) ≤ 8 by decide) dc_14_63_2 (c_isSchoolT M hM io sg nh h3 h (by omega) (by omega)) ?_
  refine r_ifeq (t := 63) (by decide) dc_14_63_5 (fun c_5 => ?_) (fun c_5 => ?_)
  · exact absurd c_5 (by decide)
  · skip
    refine r_iload_n rfl dc_14_63_8 ?_
    refine r_iconst (v := nI 0) (by decide) dc_14_63_9 ?_
    refine r_sipush (v := nI 4095) (by decide) dc_14_63_10 ?_
    refine q_calls (as := [.int (nI a), .int (nI 0), .int (nI 4095)]) (rest := []) (v := .int (nI 1)) iv_13_s180 na_0_187 rfl (show (0 : Nat) ≤ 8 by decide) dc_14_63_13 (c_inT _ a 0 4095 (by omega) (by omega) (by omega)) ?_
    refine r_ifeq (t := 63) (by decide) dc_14_63_16 (fun c_16 => ?_) (fun c_16 => ?_)
    · exact absurd c_16 (by decide)
    · skip
      refine r_iload_n rfl dc_14_63_19 ?_
      refine r_iconst (v := nI 1) (by decide) dc_14_63_20 ?_
      refine r_bipush (v := nI 9) (by decide) dc_14_63_21 ?_
      refine q_calls (as := [.int (nI b), .int (nI 1), .int (nI 9)]) (rest := []) (v := .int (nI 1)) iv_13_s180 na_0_187 rfl (show (0 : Nat) ≤ 8 by decide) dc_14_63_23 (c_inT _ b 1 9 (by omega) (by omega) (by omega)) ?_
      refine r_ifeq (t := 63) (by decide) dc_14_63_26 (fun c_26 => ?_) (fun c_26 => ?_)
      · exact absurd c_26 (by decide)
      · skip
        refine r_iload rfl dc_14_63_29 ?_
        refine r_iconst (v := nI 0) (by decide) dc_14_63_31 ?_
        refine r_bipush (v := nI 9) (by decide) dc_14_63_32 ?_
        refine q_calls (as := [.int (nI c), .int (nI 0), .int (nI 9)]) (rest := []) (v := .int (nI 1)) iv_13_s180 na_0_187 rfl (show (0 : Nat) ≤ 8 by decide) dc_14_63_34 (c_inT _ c 0 9 (by omega) (by omega) (by omega)) ?_
        refine r_ifeq (t := 63) (by decide) dc_14_63_37 (fun c_37 => ?_) (fun c_37 => ?_)
        · exact absurd c_37 (by decide)
        · skip
          refine r_iload rfl dc_14_63_40 ?_
          refine r_iconst (v := nI 0) (by decide) dc_14_63_42 ?_
          refine r_ldc_w (v := nI 1048575) nr_13_391 dc_14_63_43 ?_
          refine q_calls (as := [.int (nI d), .int (nI 0), .int (nI 1048575)]) (rest := []) (v := .int (nI 1)) iv_13_s180 na_0_187 rfl (show (0 : Nat) ≤ 8 by decide) dc_14_63_46 (c_inT _ d 0 1048575 (by omega) (by omega) (by omega)) ?_
          refine r_ifeq (t := 63) (by decide) dc_14_63_49 (fun c_49 => ?_) (fun c_49 => ?_)
          · exact absurd c_49 (by decide)
          · skip
            refine r_aload_n rfl dc_14_63_52 ?_
            refine q_get (v := .ref 111) rx_40 hM rfl dc_14_63_53 ?_
            refine r_iload_n rfl dc_14_63_56 ?_
            refine q_ild (e := h) (v := nI cm) (by decide) (by decide) hM rfl (show h < 8 by omega) (by omega) (hcm) dc_14_63_57 ?_
            refine r_bipush (v := nI 6) (by decide) dc_14_63_58 ?_
            refine r_ncne (t := 65) (by omega) (by omega) (by decide) dc_14_63_60 (fun c_60 => ?_) (fun c_60 => ?_)
            · skip
              refine r_bipush (v := nI 6) (by decide) dc_14_63_65 ?_
              refine r_iload_n rfl dc_14_63_67 ?_
              refine r_imul (v := nI (6 * h)) (pk_mul _ _) dc_14_63_68 ?_
              refine r_aload_n rfl dc_14_63_69 ?_
              refine q_get (v := .ref 111) rx_40 hM rfl dc_14_63_70 ?_
              refine r_iload_n rfl dc_14_63_73 ?_
              refine q_ild (e := h) (v := nI cm) (by decide) (by decide) hM rfl (show h < 8 by omega) (by omega) (hcm) dc_14_63_74 ?_
              refine r_iadd (v := nI (6 * h + cm)) (nI_add _ _) dc_14_63_75 ?_
              refine r_istore (ls' := [(6, .int (nI (6 * h + cm))), (0, .ref 100), (1, .int (nI h)), (2, .int (nI a)), (3, .int (nI b)), (4, .int (nI c)), (5, .int (nI d))]) (by decide) rfl dc_14_63_76 ?_
              refine r_aload_n rfl dc_14_63_78 ?_
              refine q_get (v := .ref 112) rx_43 hM rfl dc_14_63_79 ?_
              refine r_iload rfl dc_14_63_82 ?_
              refine r_iload_n rfl dc_14_63_84 ?_
              refine q_ist (e := 6 * h + cm) (k := 17) (by decide) (by decide) hM rfl rfl (show 6 * h + cm < 48 by omega) (by omega) dc_14_63_85 ?_
              refine r_aload_n rfl dc_14_63_86 ?_
              refine q_get (v := .ref 113) rx_46 hM rfl dc_14_63_87 ?_
              refine r_iload rfl dc_14_63_90 ?_
              refine r_iload_n rfl dc_14_63_92 ?_
              refine q_ist (e := 6 * h + cm) (k := 18) (by decide) (by decide) hM rfl rfl (show 6 * h + cm < 48 by omega) (by omega) dc_14_63_93 ?_
              refine r_aload_n rfl dc_14_63_94 ?_
              refine q_get (v := .ref 114) rx_49 hM rfl dc_14_63_95 ?_
              refine r_iload rfl dc_14_63_98 ?_
              refine r_iload rfl dc_14_63_100 ?_
              refine q_ist (e := 6 * h + cm) (k := 19) (by decide) (by decide) hM rfl rfl (show 6 * h + cm < 48 by omega) (by omega) dc_14_63_102 ?_
              refine r_aload_n rfl dc_14_63_103 ?_
              refine q_get (v := .ref 115) rx_52 hM rfl dc_14_63_104 ?_
              refine r_iload rfl dc_14_63_107 ?_
              refine r_iload rfl dc_14_63_109 ?_
              refine q_ist (e := 6 * h + cm) (k := 20) (by decide) (by decide) hM rfl rfl (show 6 * h + cm < 48 by omega) (by omega) dc_14_63_111 ?_
              refine r_aload_n rfl dc_14_63_112 ?_
              refine q_get (v := .ref 111) rx_40 hM rfl dc_14_63_113 ?_
              refine r_iload_n rfl dc_14_63_116 ?_
              refine r_aload_n rfl dc_14_63_117 ?_
              refine q_get (v := .ref 111) rx_40 hM rfl dc_14_63_118 ?_
              refine r_iload_n rfl dc_14_63_121 ?_
              refine q_ild (e := h) (v := nI cm) (by decide) (by decide) hM rfl (show h < 8 by omega) (by omega) (hcm) dc_14_63_122 ?_
              refine r_iconst (v := nI 1) (by decide) dc_14_63_123 ?_
              refine r_iadd (v := nI (cm + 1)) (nI_add _ _) dc_14_63_124 ?_
              refine q_ist (e := h) (k := 16) (by decide) (by decide) hM rfl rfl (show h < 8 by omega) (by omega) dc_14_63_125 ?_
              refine r_aload_n rfl dc_14_63_126 ?_
              refine q_get (v := .ref 111) rx_40 hM rfl dc_14_63_127 ?_
              refine r_iload_n rfl dc_14_63_130 ?_
              refine q_ild (e := h) (v := nI (cm + 1)) (by decide) (by decide) hM rfl (show h < 8 by omega) (by omega) (up_s _ _ _) dc_14_63_131 ?_
              refine r_iconst (v := nI 1) (by decide) dc_14_63_132 ?_
              refine r_isub (v := nI cm) ((pk_sub (by omega)).trans (congrArg nI (by omega))) dc_14_63_133 ?_
              exact r_iret rfl dc_14_63_134 (rfl)
            · omega
set_option maxHeartbeats 4000000 in
theorem c_course_n2 (M : mH) (hM : 157 ≤ M.1) (io : Nat → Int32) (sg : Nat → Nat → Int32) (nh : Nat) (h3 : io 3 = nI nh) (hnh : nh ≤ 8) (h a b c d : Nat) (hh : h < nh) (ha : a ≤ 4095) (hb1 : 1 ≤ b) (hb : b ≤ 9) (hc : c ≤ 9) (hd : d ≤ 1048575) (hcm : sg 16 h = nI 6) : mm_Ev 2 248 [.ref 100, .int (nI h), .int (nI a), .int (nI b), .int (nI c), .int (nI d)] (rf_mk M io sg) ((some (.int (-1)), rf_mk M io sg)) := by
  refine r_ev (by decide +kernel) (show (6 : Nat) ≤ mm_nL 248 by decide +kernel) ?_
  show mm_Ru 1 (13, 7, false, prog_14_method_63_code, some .int) 0 [(0, .ref 100), (1, .int (nI h)), (2, .int (nI a)), (3, .int (nI b)), (4, .int (nI c)), (5, .int (nI d))] [] (rf_mk M io sg) (fun r9 => r9 = ((some (.int (-1)), rf_mk M io sg)))
  refine r_aload_n rfl dc_14_63_0 ?_
  refine r_iload_n rfl dc_14_63_1 ?_
  refine q_calli (as := [.int (nI h)]) (rest := []) (v := .int (nI 1)) (M1 := rf_mk M io sg) iv_13_v205 na_1_196 o_196 hM rfl (show (0 : Nat) ≤ 8 by decide) dc_14_63_2 (c_isSchoolT M hM io sg nh h3 h (by omega) (by omega)) ?_
  refine r_ifeq (t := 63) (by decide) dc_14_63_5 (fun c_5 => ?_) (fun c_5 => ?_)
  · exact absurd c_5 (by decide)
  · skip
    refine r_iload_n rfl dc_14_63_8 ?_
    refine r_iconst (v := nI 0) (by decide) dc_14_63_9 ?_
    refine r_sipush (v := nI 4095) (by decide) dc_14_63_10 ?_
    refine q_calls (as := [.int (nI a), .int (nI 0), .int (nI 4095)]) (rest := []) (v := .int (nI 1)) iv_13_s180 na_0_187 rfl (show (0 : Nat) ≤ 8 by decide) dc_14_63_13 (c_inT _ a 0 4095 (by omega) (by omega) (by omega)) ?_
    refine r_ifeq (t := 63) (by decide) dc_14_63_16 (fun c_16 => ?_) (fun c_16 => ?_)
    · exact absurd c_16 (by decide)
    · skip
      refine r_iload_n rfl dc_14_63_19 ?_
      refine r_iconst (v := nI 1) (by decide) dc_14_63_20 ?_
      refine r_bipush (v := nI 9) (by decide) dc_14_63_21 ?_
      refine q_calls (as := [.int (nI b), .int (nI 1), .int (nI 9)]) (rest := []) (v := .int (nI 1)) iv_13_s180 na_0_187 rfl (show (0 : Nat) ≤ 8 by decide) dc_14_63_23 (c_inT _ b 1 9 (by omega) (by omega) (by omega)) ?_
      refine r_ifeq (t := 63) (by decide) dc_14_63_26 (fun c_26 => ?_) (fun c_26 => ?_)
      · exact absurd c_26 (by decide)
      · skip
        refine r_iload rfl dc_14_63_29 ?_
        refine r_iconst (v := nI 0) (by decide) dc_14_63_31 ?_
        refine r_bipush (v := nI 9) (by decide) dc_14_63_32 ?_
        refine q_calls (as := [.int (nI c), .int (nI 0), .int (nI 9)]) (rest := []) (v := .int (nI 1)) iv_13_s180 na_0_187 rfl (show (0 : Nat) ≤ 8 by decide) dc_14_63_34 (c_inT _ c 0 9 (by omega) (by omega) (by omega)) ?_
        refine r_ifeq (t := 63) (by decide) dc_14_63_37 (fun c_37 => ?_) (fun c_37 => ?_)
        · exact absurd c_37 (by decide)
        · skip
          refine r_iload rfl dc_14_63_40 ?_
          refine r_iconst (v := nI 0) (by decide) dc_14_63_42 ?_
          refine r_ldc_w (v := nI 1048575) nr_13_391 dc_14_63_43 ?_
          refine q_calls (as := [.int (nI d), .int (nI 0), .int (nI 1048575)]) (rest := []) (v := .int (nI 1)) iv_13_s180 na_0_187 rfl (show (0 : Nat) ≤ 8 by decide) dc_14_63_46 (c_inT _ d 0 1048575 (by omega) (by omega) (by omega)) ?_
          refine r_ifeq (t := 63) (by decide) dc_14_63_49 (fun c_49 => ?_) (fun c_49 => ?_)
          · exact absurd c_49 (by decide)
          · skip
            refine r_aload_n rfl dc_14_63_52 ?_
            refine q_get (v := .ref 111) rx_40 hM rfl dc_14_63_53 ?_
            refine r_iload_n rfl dc_14_63_56 ?_
            refine q_ild (e := h) (v := nI 6) (by decide) (by decide) hM rfl (show h < 8 by omega) (by omega) (hcm) dc_14_63_57 ?_
            refine r_bipush (v := nI 6) (by decide) dc_14_63_58 ?_
            refine r_ncne (t := 65) (by omega) (by omega) (by decide) dc_14_63_60 (fun c_60 => ?_) (fun c_60 => ?_)
            · omega
            · skip
              refine r_iconst (v := -1) (by decide) dc_14_63_63 ?_
              exact r_iret rfl dc_14_63_64 (rfl)
set_option maxHeartbeats 4000000 in
theorem c_course_no (M : mH) (hM : 157 ≤ M.1) (io : Nat → Int32) (sg : Nat → Nat → Int32) (h a b c d : Int32) (hno : ¬ gd_course io sg h a b c d) : mm_Ev 2 248 [.ref 100, .int h, .int a, .int b, .int c, .int d] (rf_mk M io sg) ((some (.int (-1)), rf_mk M io sg)) := by
  refine r_ev (by decide +kernel) (show (6 : Nat) ≤ mm_nL 248 by decide +kernel) ?_
  show mm_Ru 1 (13, 7, false, prog_14_method_63_code, some .int) 0 [(0, .ref 100), (1, .int h), (2, .int a), (3, .int b), (4, .int c), (5, .int d)] [] (rf_mk M io sg) (fun r9 => r9 = ((some (.int (-1)), rf_mk M io sg)))
  refine r_aload_n rfl dc_14_63_0 ?_
  refine r_iload_n rfl dc_14_63_1 ?_
  refine q_calli (as := [.int h]) (rest := []) (v := .int (sp_is h (io 3))) (M1 := rf_mk M io sg) iv_13_v205 na_1_196 o_196 hM rfl (show (0 : Nat) ≤ 8 by decide) dc_14_63_2 (c_isSchool M hM io sg h) ?_
  refine r_ifeq (t := 63) (by decide) dc_14_63_5 (fun c_5 => ?_) (fun c_5 => ?_)
  · skip
    refine r_iconst (v := -1) (by decide) dc_14_63_63 ?_
    exact r_iret rfl dc_14_63_64 (rfl)
  · skip
    refine r_iload_n rfl dc_14_63_8 ?_
    refine r_iconst (v := nI 0) (by decide) dc_14_63_9 ?_
    refine r_sipush (v := nI 4095) (by decide) dc_14_63_10 ?_
    refine q_calls (as := [.int a, .int (nI 0), .int (nI 4095)]) (rest := []) (v := .int (sp_in a (nI 0) (nI 4095))) iv_13_s180 na_0_187 rfl (show (0 : Nat) ≤ 8 by decide) dc_14_63_13 (c_in _ a (nI 0) (nI 4095)) ?_
    refine r_ifeq (t := 63) (by decide) dc_14_63_16 (fun c_16 => ?_) (fun c_16 => ?_)
    · skip
      refine r_iconst (v := -1) (by decide) dc_14_63_63 ?_
      exact r_iret rfl dc_14_63_64 (rfl)
    · skip
      refine r_iload_n rfl dc_14_63_19 ?_
      refine r_iconst (v := nI 1) (by decide) dc_14_63_20 ?_
      refine r_bipush (v := nI 9) (by decide) dc_14_63_21 ?_
      refine q_calls (as := [.int b, .int (nI 1), .int (nI 9)]) (rest := []) (v := .int (sp_in b (nI 1) (nI 9))) iv_13_s180 na_0_187 rfl (show (0 : Nat) ≤ 8 by decide) dc_14_63_23 (c_in _ b (nI 1) (nI 9)) ?_
      refine r_ifeq (t := 63) (by decide) dc_14_63_26 (fun c_26 => ?_) (fun c_26 => ?_)
      · skip
        refine r_iconst (v := -1) (by decide) dc_14_63_63 ?_
        exact r_iret rfl dc_14_63_64 (rfl)
      · skip
        refine r_iload rfl dc_14_63_29 ?_
        refine r_iconst (v := nI 0) (by decide) dc_14_63_31 ?_
        refine r_bipush (v := nI 9) (by decide) dc_14_63_32 ?_
        refine q_calls (as := [.int c, .int (nI 0), .int (nI 9)]) (rest := []) (v := .int (sp_in c (nI 0) (nI 9))) iv_13_s180 na_0_187 rfl (show (0 : Nat) ≤ 8 by decide) dc_14_63_34 (c_in _ c (nI 0) (nI 9)) ?_
        refine r_ifeq (t := 63) (by decide) dc_14_63_37 (fun c_37 => ?_) (fun c_37 => ?_)
        · skip
          refine r_iconst (v := -1) (by decide) dc_14_63_63 ?_
          exact r_iret rfl dc_14_63_64 (rfl)
        · skip
          refine r_iload rfl dc_14_63_40 ?_
          refine r_iconst (v := nI 0) (by decide) dc_14_63_42 ?_
          refine r_ldc_w (v := nI 1048575) nr_13_391 dc_14_63_43 ?_
          refine q_calls (as := [.int d, .int (nI 0), .int (nI 1048575)]) (rest := []) (v := .int (sp_in d (nI 0) (nI 1048575))) iv_13_s180 na_0_187 rfl (show (0 : Nat) ≤ 8 by decide) dc_14_63_46 (c_in _ d (nI 0) (nI 1048575)) ?_
          refine r_ifeq (t := 63) (by decide) dc_14_63_49 (fun c_49 => ?_) (fun c_49 => ?_)
          · skip
            refine r_iconst (v := -1) (by decide) dc_14_63_63 ?_
            exact r_iret rfl dc_14_63_64 (rfl)
          · skip
            exact absurd (⟨sp_is_ne c_5, sp_in_ne c_16, sp_in_ne c_26, sp_in_ne c_37, sp_in_ne c_49⟩) hno
set_option maxHeartbeats 4000000 in
theorem c_isCourse_ok (M : mH) (hM : 157 ≤ M.1) (io : Nat → Int32) (sg : Nat → Nat → Int32) (nh : Nat) (h3 : io 3 = nI nh) (hnh : nh ≤ 8) (h c : Nat) (hh : h < nh) (cm : Nat) (hcm : sg 16 h = nI cm) (hc : c < cm) (hc6 : cm ≤ 6) : mm_Ev 2 250 [.ref 100, .int (nI h), .int (nI c)] (rf_mk M io sg) ((some (.int (nI 1)), rf_mk M io sg)) := by
  refine r_ev (by decide +kernel) (show (3 : Nat) ≤ mm_nL 250 by decide +kernel) ?_
  show mm_Ru 1 (13, 3, false, prog_14_method_64_code, some .boolean) 0 [(0, .ref 100), (1, .int (nI h)), (2, .int (nI c))] [] (rf_mk M io sg) (fun r9 => r9 = ((some (.int (nI 1)), rf_mk M io sg)))
  refine r_aload_n rfl dc_14_64_0 ?_
  refine r_iload_n rfl dc_14_64_1 ?_
  refine q_calli (as := [.int (nI h)]) (rest := []) (v := .int (nI 1)) (M1 := rf_mk M io sg) iv_13_v205 na_1_196 o_196 hM rfl (show (0 : Nat) ≤ 8 by decide) dc_14_64_2 (c_isSchoolT M hM io sg nh h3 h (by omega) (by omega)) ?_
  refine r_ifeq (t := 26) (by decide) dc_14_64_5 (fun c_5 => ?_) (fun c_5 => ?_)
  · exact absurd c_5 (by decide)
  · skip
    refine r_iload_n rfl dc_14_64_8 ?_
    refine r_nzlt (t := 26) (by omega) (by decide) dc_14_64_9 ?_
    refine r_iload_n rfl dc_14_64_12 ?_
    refine r_aload_n rfl dc_14_64_13 ?_
    refine q_get (v := .ref 111) rx_40 hM rfl dc_14_64_14 ?_
    refine r_iload_n rfl dc_14_64_17 ?_
    refine q_ild (e := h) (v := nI cm) (by decide) (by decide) hM rfl (show h < 8 by omega) (by omega) (hcm) dc_14_64_18 ?_
    refine r_ncge (t := 26) (by omega) (by omega) (by decide) dc_14_64_19 (fun c_19 => ?_) (fun c_19 => ?_)
    · omega
    · skip
      refine r_iconst (v := nI 1) (by decide) dc_14_64_22 ?_
      refine r_goto (t := 27) (by decide) dc_14_64_23 ?_
      exact r_zret rfl (by decide) dc_14_64_27 (rfl)
set_option maxHeartbeats 4000000 in
theorem c_isCourse_n2 (M : mH) (hM : 157 ≤ M.1) (io : Nat → Int32) (sg : Nat → Nat → Int32) (nh : Nat) (h3 : io 3 = nI nh) (hnh : nh ≤ 8) (h : Nat) (c : Int32) (hh : h < nh) (hno : ¬ (0 ≤ c ∧ c < sg 16 h)) : mm_Ev 2 250 [.ref 100, .int (nI h), .int c] (rf_mk M io sg) ((some (.int (nI 0)), rf_mk M io sg)) := by
  refine r_ev (by decide +kernel) (show (3 : Nat) ≤ mm_nL 250 by decide +kernel) ?_
  show mm_Ru 1 (13, 3, false, prog_14_method_64_code, some .boolean) 0 [(0, .ref 100), (1, .int (nI h)), (2, .int c)] [] (rf_mk M io sg) (fun r9 => r9 = ((some (.int (nI 0)), rf_mk M io sg)))
  refine r_aload_n rfl dc_14_64_0 ?_
  refine r_iload_n rfl dc_14_64_1 ?_
  refine q_calli (as := [.int (nI h)]) (rest := []) (v := .int (nI 1)) (M1 := rf_mk M io sg) iv_13_v205 na_1_196 o_196 hM rfl (show (0 : Nat) ≤ 8 by decide) dc_14_64_2 (c_isSchoolT M hM io sg nh h3 h (by omega) (by omega)) ?_
  refine r_ifeq (t := 26) (by decide) dc_14_64_5 (fun c_5 => ?_) (fun c_5 => ?_)
  · exact absurd c_5 (by decide)
  · skip
    refine r_iload_n rfl dc_14_64_8 ?_
    refine r_iflt (t := 26) (by decide) dc_14_64_9 (fun c_9 => ?_) (fun c_9 => ?_)
    · skip
      refine r_iconst (v := nI 0) (by decide) dc_14_64_26 ?_
      exact r_zret rfl (by decide) dc_14_64_27 (rfl)
    · skip
      refine r_iload_n rfl dc_14_64_12 ?_
      refine r_aload_n rfl dc_14_64_13 ?_
      refine q_get (v := .ref 111) rx_40 hM rfl dc_14_64_14 ?_
      refine r_iload_n rfl dc_14_64_17 ?_
      refine q_ild (e := h) (v := sg 16 h) (by decide) (by decide) hM rfl (show h < 8 by omega) (by omega) (rfl) dc_14_64_18 ?_
      refine r_icge (t := 26) (by decide) dc_14_64_19 (fun c_19 => ?_) (fun c_19 => ?_)
      · skip
        refine r_iconst (v := nI 0) (by decide) dc_14_64_26 ?_
        exact r_zret rfl (by decide) dc_14_64_27 (rfl)
      · skip
        exact absurd (⟨Int32.not_lt.mp c_9, Int32.not_le.mp c_19⟩) hno
set_option maxHeartbeats 4000000 in
theorem c_isCourse_no (M : mH) (hM : 157 ≤ M.1) (io : Nat → Int32) (sg : Nat → Nat → Int32) (h c : Int32) (hno : ¬ (0 ≤ h ∧ h < io 3)) : mm_Ev 2 250 [.ref 100, .int h, .int c] (rf_mk M io sg) ((some (.int (nI 0)), rf_mk M io sg)) := by
  refine r_ev (by decide +kernel) (show (3 : Nat) ≤ mm_nL 250 by decide +kernel) ?_
  show mm_Ru 1 (13, 3, false, prog_14_method_64_code, some .boolean) 0 [(0, .ref 100), (1, .int h), (2, .int c)] [] (rf_mk M io sg) (fun r9 => r9 = ((some (.int (nI 0)), rf_mk M io sg)))
  refine r_aload_n rfl dc_14_64_0 ?_
  refine r_iload_n rfl dc_14_64_1 ?_
  refine q_calli (as := [.int h]) (rest := []) (v := .int (sp_is h (io 3))) (M1 := rf_mk M io sg) iv_13_v205 na_1_196 o_196 hM rfl (show (0 : Nat) ≤ 8 by decide) dc_14_64_2 (c_isSchool M hM io sg h) ?_
  refine r_ifeq (t := 26) (by decide) dc_14_64_5 (fun c_5 => ?_) (fun c_5 => ?_)
  · skip
    refine r_iconst (v := nI 0) (by decide) dc_14_64_26 ?_
    exact r_zret rfl (by decide) dc_14_64_27 (rfl)
  · skip
    exact absurd (sp_is_ne c_5) hno
set_option maxHeartbeats 4000000 in
theorem c_cancel_ok (M : mH) (hM : 157 ≤ M.1) (io : Nat → Int32) (sg : Nat → Nat → Int32) (nh : Nat) (h3 : io 3 = nI nh) (hnh : nh ≤ 8) (h c : Nat) (z : Int32) (hh : h < nh) (cm : Nat) (hcm : sg 16 h = nI cm) (hc : c < cm) (hc6 : cm ≤ 6) (hz : mm_na 2 z = z) (hq : ¬ sg 21 (6 * h + c) = z) : mm_Ev 3 249 [.ref 100, .int (nI h), .int (nI c), .int z] (rf_mk M io sg) ((some (.int (nI 1)), rf_mk M io (va_up sg 21 (upd (sg 21) (6 * h + c) z)))) := by
  refine r_ev (by decide +kernel) (show (4 : Nat) ≤ mm_nL 249 by decide +kernel) ?_
  show mm_Ru 2 (13, 4, false, prog_14_method_65_code, some .boolean) 0 [(0, .ref 100), (1, .int (nI h)), (2, .int (nI c)), (3, .int z)] [] (rf_mk M io sg) (fun r9 => r9 = ((some (.int (nI 1)), rf_mk M io (va_up sg 21 (upd (sg 21) (6 * h + c) z)))))
  refine r_aload_n rfl dc_14_65_0 ?_
  refine r_iload_n rfl dc_14_65_1 ?_
  refine r_iload_n rfl dc_14_65_2 ?_
  refine q_calli (as := [.int (nI h), .int (nI c)]) (rest := []) (v := .int (nI 1)) (M1 := rf_mk M io sg) iv_13_v392 na_1_250 o_250 hM rfl (show (0 : Nat) ≤ 8 by decide) dc_14_65_3 (c_isCourse_ok M hM io sg nh h3 hnh h c hh cm hcm hc hc6) ?_
  refine r_ifeq (t := 24) (by decide) dc_14_65_6 (fun c_6 => ?_) (fun c_6 => ?_)
  · exact absurd c_6 (by decide)
  · skip
    refine r_aload_n rfl dc_14_65_9 ?_
    refine q_get (v := .ref 116) rx_55 hM rfl dc_14_65_10 ?_
    refine r_bipush (v := nI 6) (by decide) dc_14_65_13 ?_
    refine r_iload_n rfl dc_14_65_15 ?_
    refine r_imul (v := nI (6 * h)) (pk_mul _ _) dc_14_65_16 ?_
    refine r_iload_n rfl dc_14_65_17 ?_
    refine r_iadd (v := nI (6 * h + c)) (nI_add _ _) dc_14_65_18 ?_
    refine q_bld (e := 6 * h + c) (v := sg 21 (6 * h + c)) (by decide) (by decide) hM rfl (show 6 * h + c < 48 by omega) (by omega) (rfl) dc_14_65_19 ?_
    refine r_iload_n rfl dc_14_65_20 ?_
    refine r_icne (t := 26) (by decide) dc_14_65_21 (fun c_21 => ?_) (fun c_21 => ?_)
    · skip
      refine r_aload_n rfl dc_14_65_26 ?_
      refine q_get (v := .ref 116) rx_55 hM rfl dc_14_65_27 ?_
      refine r_bipush (v := nI 6) (by decide) dc_14_65_30 ?_
      refine r_iload_n rfl dc_14_65_32 ?_
      refine r_imul (v := nI (6 * h)) (pk_mul _ _) dc_14_65_33 ?_
      refine r_iload_n rfl dc_14_65_34 ?_
      refine r_iadd (v := nI (6 * h + c)) (nI_add _ _) dc_14_65_35 ?_
      refine r_iload_n rfl dc_14_65_36 ?_
      refine q_bst (e := 6 * h + c) (k := 21) (u := 2) (w := z) (by decide) (by decide) hM rfl rfl rfl (hz) (show 6 * h + c < 48 by omega) (by omega) dc_14_65_37 ?_
      refine r_iconst (v := nI 1) (by decide) dc_14_65_38 ?_
      exact r_zret rfl (by decide) dc_14_65_39 (rfl)
    · exact absurd c_21 hq
set_option maxHeartbeats 4000000 in
theorem c_cancel_n3 (M : mH) (hM : 157 ≤ M.1) (io : Nat → Int32) (sg : Nat → Nat → Int32) (nh : Nat) (h3 : io 3 = nI nh) (hnh : nh ≤ 8) (h c : Nat) (z : Int32) (hh : h < nh) (cm : Nat) (hcm : sg 16 h = nI cm) (hc : c < cm) (hc6 : cm ≤ 6) (hz : mm_na 2 z = z) (hq : sg 21 (6 * h + c) = z) : mm_Ev 3 249 [.ref 100, .int (nI h), .int (nI c), .int z] (rf_mk M io sg) ((some (.int (nI 0)), rf_mk M io sg)) := by
  refine r_ev (by decide +kernel) (show (4 : Nat) ≤ mm_nL 249 by decide +kernel) ?_
  show mm_Ru 2 (13, 4, false, prog_14_method_65_code, some .boolean) 0 [(0, .ref 100), (1, .int (nI h)), (2, .int (nI c)), (3, .int z)] [] (rf_mk M io sg) (fun r9 => r9 = ((some (.int (nI 0)), rf_mk M io sg)))
  refine r_aload_n rfl dc_14_65_0 ?_
  refine r_iload_n rfl dc_14_65_1 ?_
  refine r_iload_n rfl dc_14_65_2 ?_
  refine q_calli (as := [.int (nI h), .int (nI c)]) (rest := []) (v := .int (nI 1)) (M1 := rf_mk M io sg) iv_13_v392 na_1_250 o_250 hM rfl (show (0 : Nat) ≤ 8 by decide) dc_14_65_3 (c_isCourse_ok M hM io sg nh h3 hnh h c hh cm hcm hc hc6) ?_
  refine r_ifeq (t := 24) (by decide) dc_14_65_6 (fun c_6 => ?_) (fun c_6 => ?_)
  · exact absurd c_6 (by decide)
  · skip
    refine r_aload_n rfl dc_14_65_9 ?_
    refine q_get (v := .ref 116) rx_55 hM rfl dc_14_65_10 ?_
    refine r_bipush (v := nI 6) (by decide) dc_14_65_13 ?_
    refine r_iload_n rfl dc_14_65_15 ?_
    refine r_imul (v := nI (6 * h)) (pk_mul _ _) dc_14_65_16 ?_
    refine r_iload_n rfl dc_14_65_17 ?_
    refine r_iadd (v := nI (6 * h + c)) (nI_add _ _) dc_14_65_18 ?_
    refine q_bld (e := 6 * h + c) (v := sg 21 (6 * h + c)) (by decide) (by decide) hM rfl (show 6 * h + c < 48 by omega) (by omega) (rfl) dc_14_65_19 ?_
    refine r_iload_n rfl dc_14_65_20 ?_
    refine r_icne (t := 26) (by decide) dc_14_65_21 (fun c_21 => ?_) (fun c_21 => ?_)
    · exact absurd hq c_21
    · skip
      refine r_iconst (v := nI 0) (by decide) dc_14_65_24 ?_
      exact r_zret rfl (by decide) dc_14_65_25 (rfl)
set_option maxHeartbeats 4000000 in
theorem c_cancel_n2 (M : mH) (hM : 157 ≤ M.1) (io : Nat → Int32) (sg : Nat → Nat → Int32) (nh : Nat) (h3 : io 3 = nI nh) (hnh : nh ≤ 8) (h : Nat) (c z : Int32) (hh : h < nh) (hno : ¬ (0 ≤ c ∧ c < sg 16 h)) : mm_Ev 3 249 [.ref 100, .int (nI h), .int c, .int z] (rf_mk M io sg) ((some (.int (nI 0)), rf_mk M io sg)) := by
  refine r_ev (by decide +kernel) (show (4 : Nat) ≤ mm_nL 249 by decide +kernel) ?_
  show mm_Ru 2 (13, 4, false, prog_14_method_65_code, some .boolean) 0 [(0, .ref 100), (1, .int (nI h)), (2, .int c), (3, .int z)] [] (rf_mk M io sg) (fun r9 => r9 = ((some (.int (nI 0)), rf_mk M io sg)))
  refine r_aload_n rfl dc_14_65_0 ?_
  refine r_iload_n rfl dc_14_65_1 ?_
  refine r_iload_n rfl dc_14_65_2 ?_
  refine q_calli (as := [.int (nI h), .int c]) (rest := []) (v := .int (nI 0)) (M1 := rf_mk M io sg) iv_13_v392 na_1_250 o_250 hM rfl (show (0 : Nat) ≤ 8 by decide) dc_14_65_3 (c_isCourse_n2 M hM io sg nh h3 hnh h c hh hno) ?_
  refine r_ifeq (t := 24) (by decide) dc_14_65_6 (fun c_6 => ?_) (fun c_6 => ?_)
  · skip
    refine r_iconst (v := nI 0) (by decide) dc_14_65_24 ?_
    exact r_zret rfl (by decide) dc_14_65_25 (rfl)
  · exact absurd c_6 (by decide)
set_option maxHeartbeats 4000000 in
theorem c_cancel_no (M : mH) (hM : 157 ≤ M.1) (io : Nat → Int32) (sg : Nat → Nat → Int32) (h c z : Int32) (hno : ¬ (0 ≤ h ∧ h < io 3)) : mm_Ev 3 249 [.ref 100, .int h, .int c, .int z] (rf_mk M io sg) ((some (.int (nI 0)), rf_mk M io sg)) := by
  refine r_ev (by decide +kernel) (show (4 : Nat) ≤ mm_nL 249 by decide +kernel) ?_
  show mm_Ru 2 (13, 4, false, prog_14_method_65_code, some .boolean) 0 [(0, .ref 100), (1, .int h), (2, .int c), (3, .int z)] [] (rf_mk M io sg) (fun r9 => r9 = ((some (.int (nI 0)), rf_mk M io sg)))
  refine r_aload_n rfl dc_14_65_0 ?_
  refine r_iload_n rfl dc_14_65_1 ?_
  refine r_iload_n rfl dc_14_65_2 ?_
  refine q_calli (as := [.int h, .int c]) (rest := []) (v := .int (nI 0)) (M1 := rf_mk M io sg) iv_13_v392 na_1_250 o_250 hM rfl (show (0 : Nat) ≤ 8 by decide) dc_14_65_3 (c_isCourse_no M hM io sg h c hno) ?_
  refine r_ifeq (t := 24) (by decide) dc_14_65_6 (fun c_6 => ?_) (fun c_6 => ?_)
  · skip
    refine r_iconst (v := nI 0) (by decide) dc_14_65_24 ?_
    exact r_zret rfl (by decide) dc_14_65_25 (rfl)
  · exact absurd c_6 (by decide)
def gd_fact (io : Nat → Int32) (sg : Nat → Nat → Int32) (s : Nat) (w d t : Int32) : Prop := sg 56 s = nI 1 ∧ (nI 0 ≤ w ∧ w ≤ nI 3) ∧ (d = -1 ∨ 0 ≤ d ∧ d < nI 360) ∧ (0 ≤ t ∧ t < nI 360) ∧ io 8 ≤ t ∧ ¬ io 7 = nI 200
set_option maxHeartbeats 4000000 in
theorem c_fact_ok (M : mH) (hM : 157 ≤ M.1) (io : Nat → Int32) (sg : Nat → Nat → Int32) (ns : Nat) (h5 : io 5 = nI ns) (hns : ns ≤ 16) (nf : Nat) (h7 : io 7 = nI nf) (hnf : nf ≤ 200) (s w t : Nat) (d : Int32) (hs : s < ns) (h1 : sg 56 s = nI 1) (hw : w < 4) (hd : d = -1 ∨ 0 ≤ d ∧ d < nI 360) (ht9 : t < 360) (ht : io 8 ≤ nI t) (hnf2 : nf < 200) : mm_Ev 2 255 [.ref 100, .int (nI s), .int (nI w), .int d, .int (nI t)] (rf_mk M io sg) ((some (.int (nI 1)), rf_mk M (va_up (va_up io 7 (nI (nf + 1))) 8 (nI t)) (va_up (va_up (va_up (va_up sg 78 (upd (sg 78) nf (nI s))) 79 (upd (sg 79) nf (nI w))) 80 (upd (sg 80) nf d)) 81 (upd (sg 81) nf (nI t))))) := by
  refine r_ev (by decide +kernel) (show (5 : Nat) ≤ mm_nL 255 by decide +kernel) ?_
  show mm_Ru 1 (13, 5, false, prog_14_method_72_code, some .boolean) 0 [(0, .ref 100), (1, .int (nI s)), (2, .int (nI w)), (3, .int d), (4, .int (nI t))] [] (rf_mk M io sg) (fun r9 => r9 = ((some (.int (nI 1)), rf_mk M (va_up (va_up io 7 (nI (nf + 1))) 8 (nI t)) (va_up (va_up (va_up (va_up sg 78 (upd (sg 78) nf (nI s))) 79 (upd (sg 79) nf (nI w))) 80 (upd (sg 80) nf d)) 81 (upd (sg 81) nf (nI t))))))
  refine r_aload_n rfl dc_14_72_0 ?_
  refine r_iload_n rfl dc_14_72_1 ?_
  refine q_calli (as := [.int (nI s)]) (rest := []) (v := .int (nI 1)) (M1 := rf_mk M io sg) iv_13_v323 na_1_222 o_222 hM rfl (show (0 : Nat) ≤ 8 by decide) dc_14_72_2 (c_isStudentT M hM io sg ns h5 s (by omega) (by omega)) ?_
  refine r_ifeq (t := 66) (by decide) dc_14_72_5 (fun c_5 => ?_) (fun c_5 => ?_)
  · exact absurd c_5 (by decide)
  · skip
    refine r_aload_n rfl dc_14_72_8 ?_
    refine q_get (v := .ref 138) rx_123 hM rfl dc_14_72_9 ?_
    refine r_iload_n rfl dc_14_72_12 ?_
    refine q_ild (e := s) (v := sg 56 s) (by decide) (by decide) hM rfl (show s < 16 by omega) (by omega) (rfl) dc_14_72_13 ?_
    refine r_iconst (v := nI 1) (by decide) dc_14_72_14 ?_
    refine r_icne (t := 66) (by decide) dc_14_72_15 (fun c_15 => ?_) (fun c_15 => ?_)
    · exact absurd h1 c_15
    · skip
      refine r_iload_n rfl dc_14_72_18 ?_
      refine r_iconst (v := nI 0) (by decide) dc_14_72_19 ?_
      refine r_iconst (v := nI 3) (by decide) dc_14_72_20 ?_
      refine q_calls (as := [.int (nI w), .int (nI 0), .int (nI 3)]) (rest := []) (v := .int (nI 1)) iv_13_s180 na_0_187 rfl (show (0 : Nat) ≤ 8 by decide) dc_14_72_21 (c_inT _ w 0 3 (by omega) (by omega) (by omega)) ?_
      refine r_ifeq (t := 66) (by decide) dc_14_72_24 (fun c_24 => ?_) (fun c_24 => ?_)
      · exact absurd c_24 (by decide)
      · skip
        refine r_iload_n rfl dc_14_72_27 ?_
        refine r_iconst (v := -1) (by decide) dc_14_72_28 ?_
        refine r_iceq (t := 39) (by decide) dc_14_72_29 (fun c_29 => ?_) (fun c_29 => ?_)
        · skip
          refine r_iload rfl dc_14_72_39 ?_
          refine q_calls (as := [.int (nI t)]) (rest := []) (v := .int (nI 1)) iv_13_s422 na_0_256 rfl (show (0 : Nat) ≤ 8 by decide) dc_14_72_41 (c_isDayT _ t (by omega)) ?_
          refine r_ifeq (t := 66) (by decide) dc_14_72_44 (fun c_44 => ?_) (fun c_44 => ?_)
          · exact absurd c_44 (by decide)
          · skip
            refine r_iload rfl dc_14_72_47 ?_
            refine r_aload_n rfl dc_14_72_49 ?_
            refine q_get (v := .int (io 8)) rx_425 hM rfl dc_14_72_50 ?_
            refine r_iclt (t := 66) (by decide) dc_14_72_53 (fun c_53 => ?_) (fun c_53 => ?_)
            · exact absurd c_53 (Int32.not_lt.mpr ht)
            · skip
              refine r_aload_n rfl dc_14_72_56 ?_
              refine q_get (v := .int (nI nf)) rx_419 hM (congrArg (fun z => some (Value.int z)) (h7)) dc_14_72_57 ?_
              refine r_sipush (v := nI 200) (by decide) dc_14_72_60 ?_
              refine r_ncne (t := 68) (by omega) (by omega) (by decide) dc_14_72_63 (fun c_63 => ?_) (fun c_63 => ?_)
              · skip
                refine r_aload_n rfl dc_14_72_68 ?_
                refine q_get (v := .ref 153) rx_168 hM rfl dc_14_72_69 ?_
                refine r_aload_n rfl dc_14_72_72 ?_
                refine q_get (v := .int (nI nf)) rx_419 hM (congrArg (fun z => some (Value.int z)) (h7)) dc_14_72_73 ?_
                refine r_iload_n rfl dc_14_72_76 ?_
                refine q_ist (e := nf) (k := 78) (by decide) (by decide) hM rfl rfl (show nf < 200 by omega) (by omega) dc_14_72_77 ?_
                refine r_aload_n rfl dc_14_72_78 ?_
                refine q_get (v := .ref 154) rx_171 hM rfl dc_14_72_79 ?_
                refine r_aload_n rfl dc_14_72_82 ?_
                refine q_get (v := .int (nI nf)) rx_419 hM (congrArg (fun z => some (Value.int z)) (h7)) dc_14_72_83 ?_
                refine r_iload_n rfl dc_14_72_86 ?_
                refine q_ist (e := nf) (k := 79) (by decide) (by decide) hM rfl rfl (show nf < 200 by omega) (by omega) dc_14_72_87 ?_
                refine r_aload_n rfl dc_14_72_88 ?_
                refine q_get (v := .ref 155) rx_174 hM rfl dc_14_72_89 ?_
                refine r_aload_n rfl dc_14_72_92 ?_
                refine q_get (v := .int (nI nf)) rx_419 hM (congrArg (fun z => some (Value.int z)) (h7)) dc_14_72_93 ?_
                refine r_iload_n rfl dc_14_72_96 ?_
                refine q_ist (e := nf) (k := 80) (by decide) (by decide) hM rfl rfl (show nf < 200 by omega) (by omega) dc_14_72_97 ?_
                refine r_aload_n rfl dc_14_72_98 ?_
                refine q_get (v := .ref 156) rx_177 hM rfl dc_14_72_99 ?_
                refine r_aload_n rfl dc_14_72_102 ?_
                refine q_get (v := .int (nI nf)) rx_419 hM (congrArg (fun z => some (Value.int z)) (h7)) dc_14_72_103 ?_
                refine r_iload rfl dc_14_72_106 ?_
                refine q_ist (e := nf) (k := 81) (by decide) (by decide) hM rfl rfl (show nf < 200 by omega) (by omega) dc_14_72_108 ?_
                refine r_aload_n rfl dc_14_72_109 ?_
                refine r_aload_n rfl dc_14_72_110 ?_
                refine q_get (v := .int (nI nf)) rx_419 hM (congrArg (fun z => some (Value.int z)) (h7)) dc_14_72_111 ?_
                refine r_iconst (v := nI 1) (by decide) dc_14_72_114 ?_
                refine r_iadd (v := nI (nf + 1)) (nI_add _ _) dc_14_72_115 ?_
                refine q_put rx_419 (by decide +kernel) (by decide +kernel) (by decide) (rs_7 _) hM dc_14_72_116 ?_
                refine r_aload_n rfl dc_14_72_119 ?_
                refine r_iload rfl dc_14_72_120 ?_
                refine q_put rx_425 (by decide +kernel) (by decide +kernel) (by decide) (rs_8 _) hM dc_14_72_122 ?_
                refine r_iconst (v := nI 1) (by decide) dc_14_72_125 ?_
                exact r_zret rfl (by decide) dc_14_72_126 (rfl)
              · omega
        · skip
          refine r_iload_n rfl dc_14_72_32 ?_
          refine q_calls (as := [.int d]) (rest := []) (v := .int (nI 1)) iv_13_s422 na_0_256 rfl (show (0 : Nat) ≤ 8 by decide) dc_14_72_33 ((show sp_is d (nI 360) = nI 1 from if_pos (hd.resolve_left c_29)) ▸ c_isDay _ d) ?_
          refine r_ifeq (t := 66) (by decide) dc_14_72_36 (fun c_36 => ?_) (fun c_36 => ?_)
          · exact absurd c_36 (by decide)
          · skip
            refine r_iload rfl dc_14_72_39 ?_
            refine q_calls (as := [.int (nI t)]) (rest := []) (v := .int (nI 1)) iv_13_s422 na_0_256 rfl (show (0 : Nat) ≤ 8 by decide) dc_14_72_41 (c_isDayT _ t (by omega)) ?_
            refine r_ifeq (t := 66) (by decide) dc_14_72_44 (fun c_44 => ?_) (fun c_44 => ?_)
            · exact absurd c_44 (by decide)
            · skip
              refine r_iload rfl dc_14_72_47 ?_
              refine r_aload_n rfl dc_14_72_49 ?_
              refine q_get (v := .int (io 8)) rx_425 hM rfl dc_14_72_50 ?_
              refine r_iclt (t := 66) (by decide) dc_14_72_53 (fun c_53 => ?_) (fun c_53 => ?_)
              · exact absurd c_53 (Int32.not_lt.mpr ht)
              · skip
                refine r_aload_n rfl dc_14_72_56 ?_
                refine q_get (v := .int (nI nf)) rx_419 hM (congrArg (fun z => some (Value.int z)) (h7)) dc_14_72_57 ?_
                refine r_sipush (v := nI 200) (by decide) dc_14_72_60 ?_
                refine r_ncne (t := 68) (by omega) (by omega) (by decide) dc_14_72_63 (fun c_63 => ?_) (fun c_63 => ?_)
                · skip
                  refine r_aload_n rfl dc_14_72_68 ?_
                  refine q_get (v := .ref 153) rx_168 hM rfl dc_14_72_69 ?_
                  refine r_aload_n rfl dc_14_72_72 ?_
                  refine q_get (v := .int (nI nf)) rx_419 hM (congrArg (fun z => some (Value.int z)) (h7)) dc_14_72_73 ?_
                  refine r_iload_n rfl dc_14_72_76 ?_
                  refine q_ist (e := nf) (k := 78) (by decide) (by decide) hM rfl rfl (show nf < 200 by omega) (by omega) dc_14_72_77 ?_
                  refine r_aload_n rfl dc_14_72_78 ?_
                  refine q_get (v := .ref 154) rx_171 hM rfl dc_14_72_79 ?_
                  refine r_aload_n rfl dc_14_72_82 ?_
                  refine q_get (v := .int (nI nf)) rx_419 hM (congrArg (fun z => some (Value.int z)) (h7)) dc_14_72_83 ?_
                  refine r_iload_n rfl dc_14_72_86 ?_
                  refine q_ist (e := nf) (k := 79) (by decide) (by decide) hM rfl rfl (show nf < 200 by omega) (by omega) dc_14_72_87 ?_
                  refine r_aload_n rfl dc_14_72_88 ?_
                  refine q_get (v := .ref 155) rx_174 hM rfl dc_14_72_89 ?_
                  refine r_aload_n rfl dc_14_72_92 ?_
                  refine q_get (v := .int (nI nf)) rx_419 hM (congrArg (fun z => some (Value.int z)) (h7)) dc_14_72_93 ?_
                  refine r_iload_n rfl dc_14_72_96 ?_
                  refine q_ist (e := nf) (k := 80) (by decide) (by decide) hM rfl rfl (show nf < 200 by omega) (by omega) dc_14_72_97 ?_
                  refine r_aload_n rfl dc_14_72_98 ?_
                  refine q_get (v := .ref 156) rx_177 hM rfl dc_14_72_99 ?_
                  refine r_aload_n rfl dc_14_72_102 ?_
                  refine q_get (v := .int (nI nf)) rx_419 hM (congrArg (fun z => some (Value.int z)) (h7)) dc_14_72_103 ?_
                  refine r_iload rfl dc_14_72_106 ?_
                  refine q_ist (e := nf) (k := 81) (by decide) (by decide) hM rfl rfl (show nf < 200 by omega) (by omega) dc_14_72_108 ?_
                  refine r_aload_n rfl dc_14_72_109 ?_
                  refine r_aload_n rfl dc_14_72_110 ?_
                  refine q_get (v := .int (nI nf)) rx_419 hM (congrArg (fun z => some (Value.int z)) (h7)) dc_14_72_111 ?_
                  refine r_iconst (v := nI 1) (by decide) dc_14_72_114 ?_
                  refine r_iadd (v := nI (nf + 1)) (nI_add _ _) dc_14_72_115 ?_
                  refine q_put rx_419 (by decide +kernel) (by decide +kernel) (by decide) (rs_7 _) hM dc_14_72_116 ?_
                  refine r_aload_n rfl dc_14_72_119 ?_
                  refine r_iload rfl dc_14_72_120 ?_
                  refine q_put rx_425 (by decide +kernel) (by decide +kernel) (by decide) (rs_8 _) hM dc_14_72_122 ?_
                  refine r_iconst (v := nI 1) (by decide) dc_14_72_125 ?_
                  exact r_zret rfl (by decide) dc_14_72_126 (rfl)
                · omega
set_option maxHeartbeats 4000000 in
theorem c_fact_n2 (M : mH) (hM : 157 ≤ M.1) (io : Nat → Int32) (sg : Nat → Nat → Int32) (ns : Nat) (h5 : io 5 = nI ns) (hns : ns ≤ 16) (s : Nat) (w d t : Int32) (hs : s < ns) (hno : ¬ gd_fact io sg s w d t) : mm_Ev 2 255 [.ref 100, .int (nI s), .int w, .int d, .int t] (rf_mk M io sg) ((some (.int (nI 0)), rf_mk M io sg)) := by
  refine r_ev (by decide +kernel) (show (5 : Nat) ≤ mm_nL 255 by decide +kernel) ?_
  show mm_Ru 1 (13, 5, false, prog_14_method_72_code, some .boolean) 0 [(0, .ref 100), (1, .int (nI s)), (2, .int w), (3, .int d), (4, .int t)] [] (rf_mk M io sg) (fun r9 => r9 = ((some (.int (nI 0)), rf_mk M io sg)))
  refine r_aload_n rfl dc_14_72_0 ?_
  refine r_iload_n rfl dc_14_72_1 ?_
  refine q_calli (as := [.int (nI s)]) (rest := []) (v := .int (nI 1)) (M1 := rf_mk M io sg) iv_13_v323 na_1_222 o_222 hM rfl (show (0 : Nat) ≤ 8 by decide) dc_14_72_2 (c_isStudentT M hM io sg ns h5 s (by omega) (by omega)) ?_
  refine r_ifeq (t := 66) (by decide) dc_14_72_5 (fun c_5 => ?_) (fun c_5 => ?_)
  · exact absurd c_5 (by decide)
  · skip
    refine r_aload_n rfl dc_14_72_8 ?_
    refine q_get (v := .ref 138) rx_123 hM rfl dc_14_72_9 ?_
    refine r_iload_n rfl dc_14_72_12 ?_
    refine q_ild (e := s) (v := sg 56 s) (by decide) (by decide) hM rfl (show s < 16 by omega) (by omega) (rfl) dc_14_72_13 ?_
    refine r_iconst (v := nI 1) (by decide) dc_14_72_14 ?_
    refine r_icne (t := 66) (by decide) dc_14_72_15 (fun c_15 => ?_) (fun c_15 => ?_)
    · skip
      refine r_iconst (v := nI 0) (by decide) dc_14_72_66 ?_
      exact r_zret rfl (by decide) dc_14_72_67 (rfl)
    · skip
      refine r_iload_n rfl dc_14_72_18 ?_
      refine r_iconst (v := nI 0) (by decide) dc_14_72_19 ?_
      refine r_iconst (v := nI 3) (by decide) dc_14_72_20 ?_
      refine q_calls (as := [.int w, .int (nI 0), .int (nI 3)]) (rest := []) (v := .int (sp_in w (nI 0) (nI 3))) iv_13_s180 na_0_187 rfl (show (0 : Nat) ≤ 8 by decide) dc_14_72_21 (c_in _ w (nI 0) (nI 3)) ?_
      refine r_ifeq (t := 66) (by decide) dc_14_72_24 (fun c_24 => ?_) (fun c_24 => ?_)
      · skip
        refine r_iconst (v := nI 0) (by decide) dc_14_72_66 ?_
        exact r_zret rfl (by decide) dc_14_72_67 (rfl)
      · skip
        refine r_iload_n rfl dc_14_72_27 ?_
        refine r_iconst (v := -1) (by decide) dc_14_72_28 ?_
        refine r_iceq (t := 39) (by decide) dc_14_72_29 (fun c_29 => ?_) (fun c_29 => ?_)
        · skip
          refine r_iload rfl dc_14_72_39 ?_
          refine q_calls (as := [.int t]) (rest := []) (v := .int (sp_is t (nI 360))) iv_13_s422 na_0_256 rfl (show (0 : Nat) ≤ 8 by decide) dc_14_72_41 (c_isDay _ t) ?_
          refine r_ifeq (t := 66) (by decide) dc_14_72_44 (fun c_44 => ?_) (fun c_44 => ?_)
          · skip
            refine r_iconst (v := nI 0) (by decide) dc_14_72_66 ?_
            exact r_zret rfl (by decide) dc_14_72_67 (rfl)
          · skip
            refine r_iload rfl dc_14_72_47 ?_
            refine r_aload_n rfl dc_14_72_49 ?_
            refine q_get (v := .int (io 8)) rx_425 hM rfl dc_14_72_50 ?_
            refine r_iclt (t := 66) (by decide) dc_14_72_53 (fun c_53 => ?_) (fun c_53 => ?_)
            · skip
              refine r_iconst (v := nI 0) (by decide) dc_14_72_66 ?_
              exact r_zret rfl (by decide) dc_14_72_67 (rfl)
            · skip
              refine r_aload_n rfl dc_14_72_56 ?_
              refine q_get (v := .int (io 7)) rx_419 hM rfl dc_14_72_57 ?_
              refine r_sipush (v := nI 200) (by decide) dc_14_72_60 ?_
              refine r_icne (t := 68) (by decide) dc_14_72_63 (fun c_63 => ?_) (fun c_63 => ?_)
              · skip
                exact absurd (⟨c_15, sp_in_ne c_24, Or.inl c_29, sp_is_ne c_44, Int32.not_lt.mp c_53, c_63⟩) hno
              · skip
                refine r_iconst (v := nI 0) (by decide) dc_14_72_66 ?_
                exact r_zret rfl (by decide) dc_14_72_67 (rfl)
        · skip
          refine r_iload_n rfl dc_14_72_32 ?_
          refine q_calls (as := [.int d]) (rest := []) (v := .int (sp_is d (nI 360))) iv_13_s422 na_0_256 rfl (show (0 : Nat) ≤ 8 by decide) dc_14_72_33 (c_isDay _ d) ?_
          refine r_ifeq (t := 66) (by decide) dc_14_72_36 (fun c_36 => ?_) (fun c_36 => ?_)
          · skip
            refine r_iconst (v := nI 0) (by decide) dc_14_72_66 ?_
            exact r_zret rfl (by decide) dc_14_72_67 (rfl)
          · skip
            refine r_iload rfl dc_14_72_39 ?_
            refine q_calls (as := [.int t]) (rest := []) (v := .int (sp_is t (nI 360))) iv_13_s422 na_0_256 rfl (show (0 : Nat) ≤ 8 by decide) dc_14_72_41 (c_isDay _ t) ?_
            refine r_ifeq (t := 66) (by decide) dc_14_72_44 (fun c_44 => ?_) (fun c_44 => ?_)
            · skip
              refine r_iconst (v := nI 0) (by decide) dc_14_72_66 ?_
              exact r_zret rfl (by decide) dc_14_72_67 (rfl)
            · skip
              refine r_iload rfl dc_14_72_47 ?_
              refine r_aload_n rfl dc_14_72_49 ?_
              refine q_get (v := .int (io 8)) rx_425 hM rfl dc_14_72_50 ?_
              refine r_iclt (t := 66) (by decide) dc_14_72_53 (fun c_53 => ?_) (fun c_53 => ?_)
              · skip
                refine r_iconst (v := nI 0) (by decide) dc_14_72_66 ?_
                exact r_zret rfl (by decide) dc_14_72_67 (rfl)
              · skip
                refine r_aload_n rfl dc_14_72_56 ?_
                refine q_get (v := .int (io 7)) rx_419 hM rfl dc_14_72_57 ?_
                refine r_sipush (v := nI 200) (by decide) dc_14_72_60 ?_
                refine r_icne (t := 68) (by decide) dc_14_72_63 (fun c_63 => ?_) (fun c_63 => ?_)
                · skip
                  exact absurd (⟨c_15, sp_in_ne c_24, Or.inr (sp_is_ne c_36), sp_is_ne c_44, Int32.not_lt.mp c_53, c_63⟩) hno
                · skip
                  refine r_iconst (v := nI 0) (by decide) dc_14_72_66 ?_
                  exact r_zret rfl (by decide) dc_14_72_67 (rfl)
set_option maxHeartbeats 4000000 in
theorem c_fact_no (M : mH) (hM : 157 ≤ M.1) (io : Nat → Int32) (sg : Nat → Nat → Int32) (s w d t : Int32) (hno : ¬ (0 ≤ s ∧ s < io 5)) : mm_Ev 2 255 [.ref 100, .int s, .int w, .int d, .int t] (rf_mk M io sg) ((some (.int (nI 0)), rf_mk M io sg)) := by
  refine r_ev (by decide +kernel) (show (5 : Nat) ≤ mm_nL 255 by decide +kernel) ?_
  show mm_Ru 1 (13, 5, false, prog_14_method_72_code, some .boolean) 0 [(0, .ref 100), (1, .int s), (2, .int w), (3, .int d), (4, .int t)] [] (rf_mk M io sg) (fun r9 => r9 = ((some (.int (nI 0)), rf_mk M io sg)))
  refine r_aload_n rfl dc_14_72_0 ?_
  refine r_iload_n rfl dc_14_72_1 ?_
  refine q_calli (as := [.int s]) (rest := []) (v := .int (sp_is s (io 5))) (M1 := rf_mk M io sg) iv_13_v323 na_1_222 o_222 hM rfl (show (0 : Nat) ≤ 8 by decide) dc_14_72_2 (c_isStudent M hM io sg s) ?_
  refine r_ifeq (t := 66) (by decide) dc_14_72_5 (fun c_5 => ?_) (fun c_5 => ?_)
  · skip
    refine r_iconst (v := nI 0) (by decide) dc_14_72_66 ?_
    exact r_zret rfl (by decide) dc_14_72_67 (rfl)
  · skip
    exact absurd (sp_is_ne c_5) hno
set_option maxHeartbeats 4000000 in
theorem c_known_ok (M : mH) (hM : 157 ≤ M.1) (io : Nat → Int32) (sg : Nat → Nat → Int32) (ns : Nat) (h5 : io 5 = nI ns) (hns : ns ≤ 16) (nf : Nat) (h7 : io 7 = nI nf) (hnf : nf ≤ 200) (s w t : Nat) (hs : s < ns) (hw : w < 4) (ht : t < 360) : mm_Ev 2 257 [.ref 100, .int (nI s), .int (nI w), .int (nI t)] (rf_mk M io sg) ((some (.int (sp_kn sg (nI s) (nI w) (nI t) nf)), rf_mk M io sg)) := by
  refine r_ev (by decide +kernel) (show (4 : Nat) ≤ mm_nL 257 by decide +kernel) ?_
  show mm_Ru 1 (13, 4, false, prog_14_method_74_code, some .int) 0 [(0, .ref 100), (1, .int (nI s)), (2, .int (nI w)), (3, .int (nI t))] [] (rf_mk M io sg) (fun r9 => r9 = ((some (.int (sp_kn sg (nI s) (nI w) (nI t) nf)), rf_mk M io sg)))
  refine r_aload_n rfl dc_14_74_0 ?_
  refine r_iload_n rfl dc_14_74_1 ?_
  refine q_calli (as := [.int (nI s)]) (rest := []) (v := .int (nI 1)) (M1 := rf_mk M io sg) iv_13_v323 na_1_222 o_222 hM rfl (show (0 : Nat) ≤ 8 by decide) dc_14_74_2 (c_isStudentT M hM io sg ns h5 s (by omega) (by omega)) ?_
  refine r_ifeq (t := 34) (by decide) dc_14_74_5 (fun c_5 => ?_) (fun c_5 => ?_)
  · exact absurd c_5 (by decide)
  · skip
    refine r_iload_n rfl dc_14_74_8 ?_
    refine r_iconst (v := nI 0) (by decide) dc_14_74_9 ?_
    refine r_iconst (v := nI 3) (by decide) dc_14_74_10 ?_
    refine q_calls (as := [.int (nI w), .int (nI 0), .int (nI 3)]) (rest := []) (v := .int (nI 1)) iv_13_s180 na_0_187 rfl (show (0 : Nat) ≤ 8 by decide) dc_14_74_11 (c_inT _ w 0 3 (by omega) (by omega) (by omega)) ?_
    refine r_ifeq (t := 34) (by decide) dc_14_74_14 (fun c_14 => ?_) (fun c_14 => ?_)
    · exact absurd c_14 (by decide)
    · skip
      refine r_iload_n rfl dc_14_74_17 ?_
      refine q_calls (as := [.int (nI t)]) (rest := []) (v := .int (nI 1)) iv_13_s422 na_0_256 rfl (show (0 : Nat) ≤ 8 by decide) dc_14_74_18 (c_isDayT _ t (by omega)) ?_
      refine r_ifeq (t := 34) (by decide) dc_14_74_21 (fun c_21 => ?_) (fun c_21 => ?_)
      · exact absurd c_21 (by decide)
      · skip
        refine r_aload_n rfl dc_14_74_24 ?_
        refine r_iload_n rfl dc_14_74_25 ?_
        refine r_iload_n rfl dc_14_74_26 ?_
        refine r_iload_n rfl dc_14_74_27 ?_
        refine q_calli (as := [.int (nI s), .int (nI w), .int (nI t)]) (rest := []) (v := .int (sp_kn sg (nI s) (nI w) (nI t) nf)) (M1 := rf_mk M io sg) iv_13_v428 na_1_258 o_258 hM rfl (show (0 : Nat) ≤ 8 by decide) dc_14_74_28 (c_knownOf M hM io sg nf h7 hnf (nI s) (nI w) (nI t)) ?_
        refine r_goto (t := 35) (by decide) dc_14_74_31 ?_
        exact r_iret rfl dc_14_74_35 (rfl)
set_option maxHeartbeats 4000000 in
theorem c_known_no (M : mH) (hM : 157 ≤ M.1) (io : Nat → Int32) (sg : Nat → Nat → Int32) (s w t : Int32) (hno : ¬ ((0 ≤ s ∧ s < io 5) ∧ (nI 0 ≤ w ∧ w ≤ nI 3) ∧ (0 ≤ t ∧ t < nI 360))) : mm_Ev 2 257 [.ref 100, .int s, .int w, .int t] (rf_mk M io sg) ((some (.int (-1)), rf_mk M io sg)) := by
  refine r_ev (by decide +kernel) (show (4 : Nat) ≤ mm_nL 257 by decide +kernel) ?_
  show mm_Ru 1 (13, 4, false, prog_14_method_74_code, some .int) 0 [(0, .ref 100), (1, .int s), (2, .int w), (3, .int t)] [] (rf_mk M io sg) (fun r9 => r9 = ((some (.int (-1)), rf_mk M io sg)))
  refine r_aload_n rfl dc_14_74_0 ?_
  refine r_iload_n rfl dc_14_74_1 ?_
  refine q_calli (as := [.int s]) (rest := []) (v := .int (sp_is s (io 5))) (M1 := rf_mk M io sg) iv_13_v323 na_1_222 o_222 hM rfl (show (0 : Nat) ≤ 8 by decide) dc_14_74_2 (c_isStudent M hM io sg s) ?_
  refine r_ifeq (t := 34) (by decide) dc_14_74_5 (fun c_5 => ?_) (fun c_5 => ?_)
  · skip
    refine r_iconst (v := -1) (by decide) dc_14_74_34 ?_
    exact r_iret rfl dc_14_74_35 (rfl)
  · skip
    refine r_iload_n rfl dc_14_74_8 ?_
    refine r_iconst (v := nI 0) (by decide) dc_14_74_9 ?_
    refine r_iconst (v := nI 3) (by decide) dc_14_74_10 ?_
    refine q_calls (as := [.int w, .int (nI 0), .int (nI 3)]) (rest := []) (v := .int (sp_in w (nI 0) (nI 3))) iv_13_s180 na_0_187 rfl (show (0 : Nat) ≤ 8 by decide) dc_14_74_11 (c_in _ w (nI 0) (nI 3)) ?_
    refine r_ifeq (t := 34) (by decide) dc_14_74_14 (fun c_14 => ?_) (fun c_14 => ?_)
    · skip
      refine r_iconst (v := -1) (by decide) dc_14_74_34 ?_
      exact r_iret rfl dc_14_74_35 (rfl)
    · skip
      refine r_iload_n rfl dc_14_74_17 ?_
      refine q_calls (as := [.int t]) (rest := []) (v := .int (sp_is t (nI 360))) iv_13_s422 na_0_256 rfl (show (0 : Nat) ≤ 8 by decide) dc_14_74_18 (c_isDay _ t) ?_
      refine r_ifeq (t := 34) (by decide) dc_14_74_21 (fun c_21 => ?_) (fun c_21 => ?_)
      · skip
        refine r_iconst (v := -1) (by decide) dc_14_74_34 ?_
        exact r_iret rfl dc_14_74_35 (rfl)
      · skip
        exact absurd (⟨sp_is_ne c_5, sp_in_ne c_14, sp_is_ne c_21⟩) hno
/-- a year ends for the first n STUDENTS -/
def sp_ye (f : Nat → Int32) : Nat → Nat → Int32
  | 0 => f
  | n + 1 => if f n = nI 1 then upd (sp_ye f n) n (nI 3) else if f n = nI 2 then upd (sp_ye f n) n (nI 0) else sp_ye f n
theorem sp_ye_S (f : Nat → Int32) (n : Nat) : sp_ye f (n + 1) = if f n = nI 1 then upd (sp_ye f n) n (nI 3) else if f n = nI 2 then upd (sp_ye f n) n (nI 0) else sp_ye f n := rfl
theorem sp_ye_hi (f : Nat → Int32) : ∀ n j, n ≤ j → sp_ye f n j = f j
  | 0, _, _ => rfl
  | n + 1, j, h => by
    unfold sp_ye
    split
    · rw [show upd (sp_ye f n) n (nI 3) j = sp_ye f n j from if_neg (by omega)]
      exact sp_ye_hi f n j (by omega)
    · split
      · rw [show upd (sp_ye f n) n (nI 0) j = sp_ye f n j from if_neg (by omega)]
        exact sp_ye_hi f n j (by omega)
      · exact sp_ye_hi f n j (by omega)
set_option maxHeartbeats 4000000 in
theorem c_year_ok (M : mH) (hM : 157 ≤ M.1) (io : Nat → Int32) (sg : Nat → Nat → Int32) (ns : Nat) (h5 : io 5 = nI ns) (hns : ns ≤ 16) (ny : Nat) (h6 : io 6 = nI ny) (hny : ny < 99) : mm_Ev 1 265 [.ref 100] (rf_mk M io (va_up sg 56 (sp_ye (sg 56) 0))) ((some (.int (nI (ny + 1))), rf_mk M (va_up (va_up (va_up io 7 (nI 0)) 8 (nI 0)) 6 (nI (ny + 1))) (va_up sg 56 (sp_ye (sg 56) ns)))) := by
  refine r_ev (by decide +kernel) (show (1 : Nat) ≤ mm_nL 265 by decide +kernel) ?_
  show mm_Ru 0 (13, 2, false, prog_14_method_81_code, some .int) 0 [(0, .ref 100)] [] (rf_mk M io (va_up sg 56 (sp_ye (sg 56) 0))) (fun r9 => r9 = ((some (.int (nI (ny + 1))), rf_mk M (va_up (va_up (va_up io 7 (nI 0)) 8 (nI 0)) 6 (nI (ny + 1))) (va_up sg 56 (sp_ye (sg 56) ns)))))
  refine r_aload_n rfl dc_14_81_0 ?_
  refine q_get (v := .int (nI ny)) rx_329 hM (congrArg (fun z => some (Value.int z)) (h6)) dc_14_81_1 ?_
  refine r_bipush (v := nI 99) (by decide) dc_14_81_4 ?_
  refine r_ncne (t := 11) (by omega) (by omega) (by decide) dc_14_81_6 (fun c_6 => ?_) (fun c_6 => ?_)
  · skip
    refine r_iconst (v := nI 0) (by decide) dc_14_81_11 ?_
    refine r_istore_n (ls' := [(1, .int (nI 0)), (0, .ref 100)]) (by decide) rfl dc_14_81_12 ?_
    refine mm_cnt (P := fun m => mm_Ru 0 (13, 2, false, prog_14_method_81_code, some .int) 13 [(1, .int (nI m)), (0, .ref 100)] [] (rf_mk M io (va_up sg 56 (sp_ye (sg 56) m))) (fun r9 => r9 = ((some (.int (nI (ny + 1))), rf_mk M (va_up (va_up (va_up io 7 (nI 0)) 8 (nI 0)) 6 (nI (ny + 1))) (va_up sg 56 (sp_ye (sg 56) ns)))))) ns ?_ ?_ 0 (by omega)
    · show mm_Ru 0 (13, 2, false, prog_14_method_81_code, some .int) 13 [(1, .int (nI ns)), (0, .ref 100)] [] (rf_mk M io (va_up sg 56 (sp_ye (sg 56) ns))) (fun r9 => r9 = ((some (.int (nI (ny + 1))), rf_mk M (va_up (va_up (va_up io 7 (nI 0)) 8 (nI 0)) 6 (nI (ny + 1))) (va_up sg 56 (sp_ye (sg 56) ns)))))
      refine r_iload_n rfl dc_14_81_13 ?_
      refine r_aload_n rfl dc_14_81_14 ?_
      refine q_get (v := .int (nI ns)) rx_320 hM (congrArg (fun z => some (Value.int z)) (h5)) dc_14_81_15 ?_
      refine r_ncge (t := 64) (by omega) (by omega) (by decide) dc_14_81_18 (fun c_18 => ?_) (fun c_18 => ?_)
      · skip
        refine r_aload_n rfl dc_14_81_64 ?_
        refine r_iconst (v := nI 0) (by decide) dc_14_81_65 ?_
        refine q_put rx_419 (by decide +kernel) (by decide +kernel) (by decide) (rs_7 _) hM dc_14_81_66 ?_
        refine r_aload_n rfl dc_14_81_69 ?_
        refine r_iconst (v := nI 0) (by decide) dc_14_81_70 ?_
        refine q_put rx_425 (by decide +kernel) (by decide +kernel) (by decide) (rs_8 _) hM dc_14_81_71 ?_
        refine r_aload_n rfl dc_14_81_74 ?_
        refine r_aload_n rfl dc_14_81_75 ?_
        refine q_get (v := .int (nI ny)) rx_329 hM (congrArg (fun z => some (Value.int z)) (h6)) dc_14_81_76 ?_
        refine r_iconst (v := nI 1) (by decide) dc_14_81_79 ?_
        refine r_iadd (v := nI (ny + 1)) (nI_add _ _) dc_14_81_80 ?_
        refine q_put rx_329 (by decide +kernel) (by decide +kernel) (by decide) (rs_6 _) hM dc_14_81_81 ?_
        refine r_aload_n rfl dc_14_81_84 ?_
        refine q_get (v := .int (nI (ny + 1))) rx_329 hM rfl dc_14_81_85 ?_
        exact r_iret rfl dc_14_81_88 (rfl)
      · omega
    · intro m h_m ih_m 
      show mm_Ru 0 (13, 2, false, prog_14_method_81_code, some .int) 13 [(1, .int (nI m)), (0, .ref 100)] [] (rf_mk M io (va_up sg 56 (sp_ye (sg 56) m))) (fun r9 => r9 = ((some (.int (nI (ny + 1))), rf_mk M (va_up (va_up (va_up io 7 (nI 0)) 8 (nI 0)) 6 (nI (ny + 1))) (va_up sg 56 (sp_ye (sg 56) ns)))))
      refine r_iload_n rfl dc_14_81_13 ?_
      refine r_aload_n rfl dc_14_81_14 ?_
      refine q_get (v := .int (nI ns)) rx_320 hM (congrArg (fun z => some (Value.int z)) (h5)) dc_14_81_15 ?_
      refine r_ncge (t := 64) (by omega) (by omega) (by decide) dc_14_81_18 (fun c_18 => ?_) (fun c_18 => ?_)
      · omega
      · skip
        refine r_aload_n rfl dc_14_81_21 ?_
        refine q_get (v := .ref 138) rx_123 hM rfl dc_14_81_22 ?_
        refine r_iload_n rfl dc_14_81_25 ?_
        refine q_ild (e := m) (v := (va_up sg 56 (sp_ye (sg 56) m)) 56 m) (by decide) (by decide) hM rfl (show m < 16 by omega) (by omega) (rfl) dc_14_81_26 ?_
        refine r_iconst (v := nI 1) (by decide) dc_14_81_27 ?_
        refine r_icne (t := 41) (by decide) dc_14_81_28 (fun c_28 => ?_) (fun c_28 => ?_)
        · skip
          refine r_aload_n rfl dc_14_81_41 ?_
          refine q_get (v := .ref 138) rx_123 hM rfl dc_14_81_42 ?_
          refine r_iload_n rfl dc_14_81_45 ?_
          refine q_ild (e := m) (v := (va_up sg 56 (sp_ye (sg 56) m)) 56 m) (by decide) (by decide) hM rfl (show m < 16 by omega) (by omega) (rfl) dc_14_81_46 ?_
          refine r_iconst (v := nI 2) (by decide) dc_14_81_47 ?_
          refine r_icne (t := 58) (by decide) dc_14_81_48 (fun c_48 => ?_) (fun c_48 => ?_)
          · skip
            refine r_iinc (x := nI m) (v := nI (m + 1)) (ls' := [(1, .int (nI (m + 1))), (0, .ref 100)]) rfl (nI_1 _) (by decide) rfl dc_14_81_58 ?_
            refine r_goto (t := 13) (by decide) dc_14_81_61 ?_
            rw [sp_ye_S, if_neg (fun q => c_28 ((sp_ye_hi (sg 56) m m (Nat.le_refl _)).trans q)), if_neg (fun q => c_48 ((sp_ye_hi (sg 56) m m (Nat.le_refl _)).trans q))] at ih_m
            exact ih_m
          · skip
            refine r_aload_n rfl dc_14_81_51 ?_
            refine q_get (v := .ref 138) rx_123 hM rfl dc_14_81_52 ?_
            refine r_iload_n rfl dc_14_81_55 ?_
            refine r_iconst (v := nI 0) (by decide) dc_14_81_56 ?_
            refine q_ist (e := m) (k := 56) (by decide) (by decide) hM rfl rfl (show m < 16 by omega) (by omega) dc_14_81_57 ?_
            refine r_iinc (x := nI m) (v := nI (m + 1)) (ls' := [(1, .int (nI (m + 1))), (0, .ref 100)]) rfl (nI_1 _) (by decide) rfl dc_14_81_58 ?_
            refine r_goto (t := 13) (by decide) dc_14_81_61 ?_
            rw [sp_ye_S, if_neg (fun q => c_28 ((sp_ye_hi (sg 56) m m (Nat.le_refl _)).trans q)), if_pos ((sp_ye_hi (sg 56) m m (Nat.le_refl _)).symm.trans c_48), ← bx_uu sg 56 (sp_ye (sg 56) m)] at ih_m
            exact ih_m
        · skip
          refine r_aload_n rfl dc_14_81_31 ?_
          refine q_get (v := .ref 138) rx_123 hM rfl dc_14_81_32 ?_
          refine r_iload_n rfl dc_14_81_35 ?_
          refine r_iconst (v := nI 3) (by decide) dc_14_81_36 ?_
          refine q_ist (e := m) (k := 56) (by decide) (by decide) hM rfl rfl (show m < 16 by omega) (by omega) dc_14_81_37 ?_
          refine r_goto (t := 58) (by decide) dc_14_81_38 ?_
          refine r_iinc (x := nI m) (v := nI (m + 1)) (ls' := [(1, .int (nI (m + 1))), (0, .ref 100)]) rfl (nI_1 _) (by decide) rfl dc_14_81_58 ?_
          refine r_goto (t := 13) (by decide) dc_14_81_61 ?_
          rw [sp_ye_S, if_pos ((sp_ye_hi (sg 56) m m (Nat.le_refl _)).symm.trans c_28), ← bx_uu sg 56 (sp_ye (sg 56) m)] at ih_m
          exact ih_m
  · omega
set_option maxHeartbeats 4000000 in
theorem c_year_no (M : mH) (hM : 157 ≤ M.1) (io : Nat → Int32) (sg : Nat → Nat → Int32) (h6 : io 6 = nI 99) : mm_Ev 1 265 [.ref 100] (rf_mk M io sg) ((some (.int (-1)), rf_mk M io sg)) := by
  refine r_ev (by decide +kernel) (show (1 : Nat) ≤ mm_nL 265 by decide +kernel) ?_
  show mm_Ru 0 (13, 2, false, prog_14_method_81_code, some .int) 0 [(0, .ref 100)] [] (rf_mk M io sg) (fun r9 => r9 = ((some (.int (-1)), rf_mk M io sg)))
  refine r_aload_n rfl dc_14_81_0 ?_
  refine q_get (v := .int (nI 99)) rx_329 hM (congrArg (fun z => some (Value.int z)) (h6)) dc_14_81_1 ?_
  refine r_bipush (v := nI 99) (by decide) dc_14_81_4 ?_
  refine r_ncne (t := 11) (by omega) (by omega) (by decide) dc_14_81_6 (fun c_6 => ?_) (fun c_6 => ?_)
  · omega
  · skip
    refine r_iconst (v := -1) (by decide) dc_14_81_9 ?_
    exact r_iret rfl dc_14_81_10 (rfl)
def sp_by (v : Int32) (k : Nat) : Int32 := (v >>> (nI (8 * (3 - k)) &&& 31)).toInt8.toInt32
/-- the first n bytes of v, put down from t on -/
def sp_ty (f : Nat → Int32) (t : Nat) (v : Int32) : Nat → Nat → Int32
  | 0 => f
  | n + 1 => upd (sp_ty f t v n) (t + n) (sp_by v n)
theorem sp_ty_S (f : Nat → Int32) (t : Nat) (v : Int32) (n : Nat) : sp_ty f t v (n + 1) = upd (sp_ty f t v n) (t + n) (sp_by v n) := rfl
theorem na1_8 (x : Int32) : mm_na 1 x.toInt8.toInt32 = x.toInt8.toInt32 := by show x.toInt8.toInt32.toInt8.toInt32 = _; simp
theorem va_up_up {α : Type} (f : Nat → α) (k : Nat) (a b : α) : va_up (va_up f k a) k b = va_up f k b := by
  funext j
  unfold va_up
  split
  · rfl
  · rfl
set_option maxHeartbeats 4000000 in
theorem c_types_ (M : mH) (hM : 157 ≤ M.1) (io : Nat → Int32) (sg : Nat → Nat → Int32) (t : Nat) (v : Int32) (h23 : io 23 = nI t) (ht : t + 4 ≤ 80) : mm_Ev 1 198 [.ref 100, .int v] (rf_mk M io sg) ((none, rf_mk M (va_up (va_up (va_up (va_up io 23 (nI (t + 1))) 23 (nI (t + 2))) 23 (nI (t + 3))) 23 (nI (t + 4))) (va_up (va_up (va_up (va_up sg 22 (sp_ty (sg 22) t v 1)) 22 (sp_ty (sg 22) t v 2)) 22 (sp_ty (sg 22) t v 3)) 22 (sp_ty (sg 22) t v 4)))) := by
  refine r_ev (by decide +kernel) (show (2 : Nat) ≤ mm_nL 198 by decide +kernel) ?_
  show mm_Ru 0 (13, 3, false, prog_14_method_13_code, none) 0 [(0, .ref 100), (1, .int v)] [] (rf_mk M io sg) (fun r9 => r9 = ((none, rf_mk M (va_up (va_up (va_up (va_up io 23 (nI (t + 1))) 23 (nI (t + 2))) 23 (nI (t + 3))) 23 (nI (t + 4))) (va_up (va_up (va_up (va_up sg 22 (sp_ty (sg 22) t v 1)) 22 (sp_ty (sg 22) t v 2)) 22 (sp_ty (sg 22) t v 3)) 22 (sp_ty (sg 22) t v 4)))))
  refine r_iconst (v := nI 3) (by decide) dc_14_13_0 ?_
  refine r_istore_n (ls' := [(2, .int (nI 3)), (0, .ref 100), (1, .int v)]) (by decide) rfl dc_14_13_1 ?_
  refine r_iload_n rfl dc_14_13_2 ?_
  refine r_iflt (t := 38) (by decide) dc_14_13_3 (fun c_3 => ?_) (fun c_3 => ?_)
  · exact absurd c_3 (by decide)
  · skip
    refine r_aload_n rfl dc_14_13_6 ?_
    refine q_get (v := .ref 117) rx_59 hM rfl dc_14_13_7 ?_
    refine r_aload_n rfl dc_14_13_10 ?_
    refine q_get (v := .int (nI t)) rx_209 hM (congrArg (fun z => some (Value.int z)) h23) dc_14_13_11 ?_
    refine r_iload_n rfl dc_14_13_14 ?_
    refine r_bipush (v := nI 8) (by decide) dc_14_13_15 ?_
    refine r_iload_n rfl dc_14_13_17 ?_
    refine r_imul (v := nI 24) (by decide) dc_14_13_18 ?_
    refine r_ishr (v := v >>> (nI 24 &&& 31)) (rfl) dc_14_13_19 ?_
    refine r_i2b (v := sp_by v 0) rfl dc_14_13_20 ?_
    refine q_bst (e := t) (k := 22) (u := 1) (w := sp_by v 0) (by decide) (by decide) hM rfl rfl rfl (na1_8 _) (show t < 80 by omega) (by omega) dc_14_13_21 ?_
    refine r_aload_n rfl dc_14_13_22 ?_
    refine r_aload_n rfl dc_14_13_23 ?_
    refine q_get (v := .int (nI t)) rx_209 hM (congrArg (fun z => some (Value.int z)) h23) dc_14_13_24 ?_
    refine r_iconst (v := nI 1) (by decide) dc_14_13_27 ?_
    refine r_iadd (v := nI (t + 1)) (nI_add _ 1) dc_14_13_28 ?_
    refine q_put rx_209 (by decide +kernel) (by decide +kernel) (by decide) (rs_23 _) hM dc_14_13_29 ?_
    refine r_iinc (x := nI 3) (v := nI 2) (ls' := [(2, .int (nI 2)), (0, .ref 100), (1, .int v)]) rfl (by decide) (by decide) rfl dc_14_13_32 ?_
    refine r_goto (t := 2) (by decide) dc_14_13_35 ?_
    refine r_iload_n rfl dc_14_13_2 ?_
    refine r_iflt (t := 38) (by decide) dc_14_13_3 (fun c_3 => ?_) (fun c_3 => ?_)
    · exact absurd c_3 (by decide)
    · skip
      refine r_aload_n rfl dc_14_13_6 ?_
      refine q_get (v := .ref 117) rx_59 hM rfl dc_14_13_7 ?_
      refine r_aload_n rfl dc_14_13_10 ?_
      refine q_get (v := .int (nI (t + 1))) rx_209 hM (rfl) dc_14_13_11 ?_
      refine r_iload_n rfl dc_14_13_14 ?_
      refine r_bipush (v := nI 8) (by decide) dc_14_13_15 ?_
      refine r_iload_n rfl dc_14_13_17 ?_
      refine r_imul (v := nI 16) (by decide) dc_14_13_18 ?_
      refine r_ishr (v := v >>> (nI 16 &&& 31)) (rfl) dc_14_13_19 ?_
      refine r_i2b (v := sp_by v 1) rfl dc_14_13_20 ?_
      refine q_bst (e := t + 1) (k := 22) (u := 1) (w := sp_by v 1) (by decide) (by decide) hM rfl rfl rfl (na1_8 _) (show t + 1 < 80 by omega) (by omega) dc_14_13_21 ?_
      refine r_aload_n rfl dc_14_13_22 ?_
      refine r_aload_n rfl dc_14_13_23 ?_
      refine q_get (v := .int (nI (t + 1))) rx_209 hM (rfl) dc_14_13_24 ?_
      refine r_iconst (v := nI 1) (by decide) dc_14_13_27 ?_
      refine r_iadd (v := nI (t + 2)) (nI_add _ 1) dc_14_13_28 ?_
      refine q_put rx_209 (by decide +kernel) (by decide +kernel) (by decide) (rs_23 _) hM dc_14_13_29 ?_
      refine r_iinc (x := nI 2) (v := nI 1) (ls' := [(2, .int (nI 1)), (0, .ref 100), (1, .int v)]) rfl (by decide) (by decide) rfl dc_14_13_32 ?_
      refine r_goto (t := 2) (by decide) dc_14_13_35 ?_
      refine r_iload_n rfl dc_14_13_2 ?_
      refine r_iflt (t := 38) (by decide) dc_14_13_3 (fun c_3 => ?_) (fun c_3 => ?_)
      · exact absurd c_3 (by decide)
      · skip
        refine r_aload_n rfl dc_14_13_6 ?_
        refine q_get (v := .ref 117) rx_59 hM rfl dc_14_13_7 ?_
        refine r_aload_n rfl dc_14_13_10 ?_
        refine q_get (v := .int (nI (t + 2))) rx_209 hM (rfl) dc_14_13_11 ?_
        refine r_iload_n rfl dc_14_13_14 ?_
        refine r_bipush (v := nI 8) (by decide) dc_14_13_15 ?_
        refine r_iload_n rfl dc_14_13_17 ?_
        refine r_imul (v := nI 8) (by decide) dc_14_13_18 ?_
        refine r_ishr (v := v >>> (nI 8 &&& 31)) (rfl) dc_14_13_19 ?_
        refine r_i2b (v := sp_by v 2) rfl dc_14_13_20 ?_
        refine q_bst (e := t + 2) (k := 22) (u := 1) (w := sp_by v 2) (by decide) (by decide) hM rfl rfl rfl (na1_8 _) (show t + 2 < 80 by omega) (by omega) dc_14_13_21 ?_
        refine r_aload_n rfl dc_14_13_22 ?_
        refine r_aload_n rfl dc_14_13_23 ?_
        refine q_get (v := .int (nI (t + 2))) rx_209 hM (rfl) dc_14_13_24 ?_
        refine r_iconst (v := nI 1) (by decide) dc_14_13_27 ?_
        refine r_iadd (v := nI (t + 3)) (nI_add _ 1) dc_14_13_28 ?_
        refine q_put rx_209 (by decide +kernel) (by decide +kernel) (by decide) (rs_23 _) hM dc_14_13_29 ?_
        refine r_iinc (x := nI 1) (v := nI 0) (ls' := [(2, .int (nI 0)), (0, .ref 100), (1, .int v)]) rfl (by decide) (by decide) rfl dc_14_13_32 ?_
        refine r_goto (t := 2) (by decide) dc_14_13_35 ?_
        refine r_iload_n rfl dc_14_13_2 ?_
        refine r_iflt (t := 38) (by decide) dc_14_13_3 (fun c_3 => ?_) (fun c_3 => ?_)
        · exact absurd c_3 (by decide)
        · skip
          refine r_aload_n rfl dc_14_13_6 ?_
          refine q_get (v := .ref 117) rx_59 hM rfl dc_14_13_7 ?_
          refine r_aload_n rfl dc_14_13_10 ?_
          refine q_get (v := .int (nI (t + 3))) rx_209 hM (rfl) dc_14_13_11 ?_
          refine r_iload_n rfl dc_14_13_14 ?_
          refine r_bipush (v := nI 8) (by decide) dc_14_13_15 ?_
          refine r_iload_n rfl dc_14_13_17 ?_
          refine r_imul (v := nI 0) (by decide) dc_14_13_18 ?_
          refine r_ishr (v := v >>> (nI 0 &&& 31)) (rfl) dc_14_13_19 ?_
          refine r_i2b (v := sp_by v 3) rfl dc_14_13_20 ?_
          refine q_bst (e := t + 3) (k := 22) (u := 1) (w := sp_by v 3) (by decide) (by decide) hM rfl rfl rfl (na1_8 _) (show t + 3 < 80 by omega) (by omega) dc_14_13_21 ?_
          refine r_aload_n rfl dc_14_13_22 ?_
          refine r_aload_n rfl dc_14_13_23 ?_
          refine q_get (v := .int (nI (t + 3))) rx_209 hM (rfl) dc_14_13_24 ?_
          refine r_iconst (v := nI 1) (by decide) dc_14_13_27 ?_
          refine r_iadd (v := nI (t + 4)) (nI_add _ 1) dc_14_13_28 ?_
          refine q_put rx_209 (by decide +kernel) (by decide +kernel) (by decide) (rs_23 _) hM dc_14_13_29 ?_
          refine r_iinc (x := nI 0) (v := nI 0 + (-1)) (ls' := [(2, .int (nI 0 + (-1))), (0, .ref 100), (1, .int v)]) rfl (rfl) (by decide) rfl dc_14_13_32 ?_
          refine r_goto (t := 2) (by decide) dc_14_13_35 ?_
          refine r_iload_n rfl dc_14_13_2 ?_
          refine r_iflt (t := 38) (by decide) dc_14_13_3 (fun c_3 => ?_) (fun c_3 => ?_)
          · skip
            exact r_vret rfl dc_14_13_38 (rfl)
          · exact absurd (by decide) c_3
theorem c_types (M : mH) (hM : 157 ≤ M.1) (io : Nat → Int32) (sg : Nat → Nat → Int32) (t : Nat) (v : Int32) (h23 : io 23 = nI t) (ht : t + 4 ≤ 80) : mm_Ev 1 198 [.ref 100, .int v] (rf_mk M io sg) (none, rf_mk M (va_up io 23 (nI (t + 4))) (va_up sg 22 (sp_ty (sg 22) t v 4))) := by
  have h := c_types_ M hM io sg t v h23 ht
  simp only [va_up_up] at h
  exact h
theorem rf_mk_c {M : mH} {io io2 : Nat → Int32} {sg sg2 : Nat → Nat → Int32} (h1 : io = io2) (h2 : sg = sg2) : rf_mk M io sg = rf_mk M io2 sg2 := by rw [h1, h2]
def sp_fe (f : Nat → Int32) (t : Nat) (a b c d e : Int32) : Nat → Int32 := sp_ty (sp_ty (sp_ty (sp_ty (sp_ty f t a 4) (t + 4) b 4) (t + 8) c 4) (t + 12) d 4) (t + 16) e 4
set_option maxHeartbeats 4000000 in
theorem c_feed_ok (M : mH) (hM : 157 ≤ M.1) (io : Nat → Int32) (sg : Nat → Nat → Int32) (t : Nat) (a b c d e : Int32) (h23 : io 23 = nI t) (ht : t + 20 ≤ 80) : mm_Ev 2 197 [.ref 100, .int a, .int b, .int c, .int d, .int e] (rf_mk M io sg) ((some (.int (nI (t + 20))), rf_mk M (va_up io 23 (nI (t + 20))) (va_up sg 22 (sp_fe (sg 22) t a b c d e)))) := by
  refine r_ev (by decide +kernel) (show (6 : Nat) ≤ mm_nL 197 by decide +kernel) ?_
  show mm_Ru 1 (13, 6, false, prog_14_method_14_code, some .int) 0 [(0, .ref 100), (1, .int a), (2, .int b), (3, .int c), (4, .int d), (5, .int e)] [] (rf_mk M io sg) (fun r9 => r9 = ((some (.int (nI (t + 20))), rf_mk M (va_up io 23 (nI (t + 20))) (va_up sg 22 (sp_fe (sg 22) t a b c d e)))))
  refine r_aload_n rfl dc_14_14_0 ?_
  refine q_get (v := .int (nI t)) rx_209 hM (congrArg (fun z => some (Value.int z)) (h23)) dc_14_14_1 ?_
  refine r_bipush (v := nI 20) (by decide) dc_14_14_4 ?_
  refine r_iadd (v := nI (t + 20)) (nI_add _ _) dc_14_14_6 ?_
  refine r_bipush (v := nI 80) (by decide) dc_14_14_7 ?_
  refine r_ncle (t := 14) (by omega) (by omega) (by decide) dc_14_14_9 (fun c_9 => ?_) (fun c_9 => ?_)
  · skip
    refine r_aload_n rfl dc_14_14_14 ?_
    refine r_iload_n rfl dc_14_14_15 ?_
    refine q_callv (as := [.int a]) (rest := []) (M1 := rf_mk M (va_up io 23 (nI (t + 4))) (va_up sg 22 (sp_ty (sg 22) t a 4))) iv_13_v212 na_1_198 o_198 hM rfl (show (0 : Nat) ≤ 8 by decide) dc_14_14_16 (c_types M hM io sg t a h23 (by omega)) ?_
    refine r_aload_n rfl dc_14_14_19 ?_
    refine r_iload_n rfl dc_14_14_20 ?_
    refine q_callv (as := [.int b]) (rest := []) (M1 := rf_mk M (va_up io 23 (nI (t + 8))) (va_up sg 22 (sp_ty (sp_ty (sg 22) t a 4) (t + 4) b 4))) iv_13_v212 na_1_198 o_198 hM rfl (show (0 : Nat) ≤ 8 by decide) dc_14_14_21 ((congrArg (fun z => mm_Ev 1 198 _ _ (none, z)) (rf_mk_c (va_up_up io 23 _ _) (va_up_up sg 22 _ _))).mp (c_types M hM (va_up io 23 (nI (t + 4))) (va_up sg 22 (sp_ty (sg 22) t a 4)) (t + 4) b rfl (by omega))) ?_
    refine r_aload_n rfl dc_14_14_24 ?_
    refine r_iload_n rfl dc_14_14_25 ?_
    refine q_callv (as := [.int c]) (rest := []) (M1 := rf_mk M (va_up io 23 (nI (t + 12))) (va_up sg 22 (sp_ty (sp_ty (sp_ty (sg 22) t a 4) (t + 4) b 4) (t + 8) c 4))) iv_13_v212 na_1_198 o_198 hM rfl (show (0 : Nat) ≤ 8 by decide) dc_14_14_26 ((congrArg (fun z => mm_Ev 1 198 _ _ (none, z)) (rf_mk_c (va_up_up io 23 _ _) (va_up_up sg 22 _ _))).mp (c_types M hM (va_up io 23 (nI (t + 8))) (va_up sg 22 (sp_ty (sp_ty (sg 22) t a 4) (t + 4) b 4)) (t + 8) c rfl (by omega))) ?_
    refine r_aload_n rfl dc_14_14_29 ?_
    refine r_iload rfl dc_14_14_30 ?_
    refine q_callv (as := [.int d]) (rest := []) (M1 := rf_mk M (va_up io 23 (nI (t + 16))) (va_up sg 22 (sp_ty (sp_ty (sp_ty (sp_ty (sg 22) t a 4) (t + 4) b 4) (t + 8) c 4) (t + 12) d 4))) iv_13_v212 na_1_198 o_198 hM rfl (show (0 : Nat) ≤ 8 by decide) dc_14_14_32 ((congrArg (fun z => mm_Ev 1 198 _ _ (none, z)) (rf_mk_c (va_up_up io 23 _ _) (va_up_up sg 22 _ _))).mp (c_types M hM (va_up io 23 (nI (t + 12))) (va_up sg 22 (sp_ty (sp_ty (sp_ty (sg 22) t a 4) (t + 4) b 4) (t + 8) c 4)) (t + 12) d rfl (by omega))) ?_
    refine r_aload_n rfl dc_14_14_35 ?_
    refine r_iload rfl dc_14_14_36 ?_
    refine q_callv (as := [.int e]) (rest := []) (M1 := rf_mk M (va_up io 23 (nI (t + 20))) (va_up sg 22 (sp_ty (sp_ty (sp_ty (sp_ty (sp_ty (sg 22) t a 4) (t + 4) b 4) (t + 8) c 4) (t + 12) d 4) (t + 16) e 4))) iv_13_v212 na_1_198 o_198 hM rfl (show (0 : Nat) ≤ 8 by decide) dc_14_14_38 ((congrArg (fun z => mm_Ev 1 198 _ _ (none, z)) (rf_mk_c (va_up_up io 23 _ _) (va_up_up sg 22 _ _))).mp (c_types M hM (va_up io 23 (nI (t + 16))) (va_up sg 22 (sp_ty (sp_ty (sp_ty (sp_ty (sg 22) t a 4) (t + 4) b 4) (t + 8) c 4) (t + 12) d 4)) (t + 16) e rfl (by omega))) ?_
    refine r_aload_n rfl dc_14_14_41 ?_
    refine q_get (v := .int (nI (t + 20))) rx_209 hM rfl dc_14_14_42 ?_
    exact r_iret rfl dc_14_14_45 (rfl)
  · omega
set_option maxHeartbeats 4000000 in
theorem c_feed_no (M : mH) (hM : 157 ≤ M.1) (io : Nat → Int32) (sg : Nat → Nat → Int32) (t : Nat) (a b c d e : Int32) (h23 : io 23 = nI t) (ht : t ≤ 80) (ht2 : 80 < t + 20) : mm_Ev 2 197 [.ref 100, .int a, .int b, .int c, .int d, .int e] (rf_mk M io sg) ((some (.int (-1)), rf_mk M io sg)) := by
  refine r_ev (by decide +kernel) (show (6 : Nat) ≤ mm_nL 197 by decide +kernel) ?_
  show mm_Ru 1 (13, 6, false, prog_14_method_14_code, some .int) 0 [(0, .ref 100), (1, .int a), (2, .int b), (3, .int c), (4, .int d), (5, .int e)] [] (rf_mk M io sg) (fun r9 => r9 = ((some (.int (-1)), rf_mk M io sg)))
  refine r_aload_n rfl dc_14_14_0 ?_
  refine q_get (v := .int (nI t)) rx_209 hM (congrArg (fun z => some (Value.int z)) (h23)) dc_14_14_1 ?_
  refine r_bipush (v := nI 20) (by decide) dc_14_14_4 ?_
  refine r_iadd (v := nI (t + 20)) (nI_add _ _) dc_14_14_6 ?_
  refine r_bipush (v := nI 80) (by decide) dc_14_14_7 ?_
  refine r_ncle (t := 14) (by omega) (by omega) (by decide) dc_14_14_9 (fun c_9 => ?_) (fun c_9 => ?_)
  · omega
  · skip
    refine r_iconst (v := -1) (by decide) dc_14_14_12 ?_
    exact r_iret rfl dc_14_14_13 (rfl)
