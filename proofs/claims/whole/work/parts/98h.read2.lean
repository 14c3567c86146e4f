/-! the reader, raw -/
theorem dc_12_10_0 : decode prog_12_method_10_code 0 = .ok (.aload_n 0, 1) := by decide +kernel
theorem dc_12_10_1 : decode prog_12_method_10_code 1 = .ok (.getfield 31, 3) := by decide +kernel
theorem dc_12_10_4 : decode prog_12_method_10_code 4 = .ok (.ifCond .eq 5, 3) := by decide +kernel
theorem dc_12_10_7 : decode prog_12_method_10_code 7 = .ok (.iconst 0, 1) := by decide +kernel
theorem dc_12_10_8 : decode prog_12_method_10_code 8 = .ok (.ireturn, 1) := by decide +kernel
theorem dc_12_10_9 : decode prog_12_method_10_code 9 = .ok (.aload_n 0, 1) := by decide +kernel
theorem dc_12_10_10 : decode prog_12_method_10_code 10 = .ok (.getfield 28, 3) := by decide +kernel
theorem dc_12_10_13 : decode prog_12_method_10_code 13 = .ok (.istore_n 3, 1) := by decide +kernel
theorem dc_12_10_14 : decode prog_12_method_10_code 14 = .ok (.iconst 0, 1) := by decide +kernel
theorem dc_12_10_15 : decode prog_12_method_10_code 15 = .ok (.istore 4, 2) := by decide +kernel
theorem dc_12_10_17 : decode prog_12_method_10_code 17 = .ok (.aload_n 0, 1) := by decide +kernel
theorem dc_12_10_18 : decode prog_12_method_10_code 18 = .ok (.getfield 28, 3) := by decide +kernel
theorem dc_12_10_21 : decode prog_12_method_10_code 21 = .ok (.aload_n 0, 1) := by decide +kernel
theorem dc_12_10_22 : decode prog_12_method_10_code 22 = .ok (.getfield 24, 3) := by decide +kernel
theorem dc_12_10_25 : decode prog_12_method_10_code 25 = .ok (.if_icmp .ge 55, 3) := by decide +kernel
theorem dc_12_10_28 : decode prog_12_method_10_code 28 = .ok (.aload_n 0, 1) := by decide +kernel
theorem dc_12_10_29 : decode prog_12_method_10_code 29 = .ok (.getfield 28, 3) := by decide +kernel
theorem dc_12_10_32 : decode prog_12_method_10_code 32 = .ok (.iload_n 3, 1) := by decide +kernel
theorem dc_12_10_33 : decode prog_12_method_10_code 33 = .ok (.isub, 1) := by decide +kernel
theorem dc_12_10_34 : decode prog_12_method_10_code 34 = .ok (.iconst 4, 1) := by decide +kernel
theorem dc_12_10_35 : decode prog_12_method_10_code 35 = .ok (.if_icmp .ge 45, 3) := by decide +kernel
theorem dc_12_10_38 : decode prog_12_method_10_code 38 = .ok (.aload_n 0, 1) := by decide +kernel
theorem dc_12_10_39 : decode prog_12_method_10_code 39 = .ok (.invokevirtual 71, 3) := by decide +kernel
theorem dc_12_10_42 : decode prog_12_method_10_code 42 = .ok (.bipush 48, 2) := by decide +kernel
theorem dc_12_10_44 : decode prog_12_method_10_code 44 = .ok (.bipush 57, 2) := by decide +kernel
theorem dc_12_10_46 : decode prog_12_method_10_code 46 = .ok (.invokestatic 116, 3) := by decide +kernel
theorem dc_12_10_49 : decode prog_12_method_10_code 49 = .ok (.ifCond .eq 31, 3) := by decide +kernel
theorem dc_12_10_52 : decode prog_12_method_10_code 52 = .ok (.bipush 10, 2) := by decide +kernel
theorem dc_12_10_54 : decode prog_12_method_10_code 54 = .ok (.iload 4, 2) := by decide +kernel
theorem dc_12_10_56 : decode prog_12_method_10_code 56 = .ok (.imul, 1) := by decide +kernel
theorem dc_12_10_57 : decode prog_12_method_10_code 57 = .ok (.aload_n 0, 1) := by decide +kernel
theorem dc_12_10_58 : decode prog_12_method_10_code 58 = .ok (.invokevirtual 71, 3) := by decide +kernel
theorem dc_12_10_61 : decode prog_12_method_10_code 61 = .ok (.iadd, 1) := by decide +kernel
theorem dc_12_10_62 : decode prog_12_method_10_code 62 = .ok (.bipush 48, 2) := by decide +kernel
theorem dc_12_10_64 : decode prog_12_method_10_code 64 = .ok (.isub, 1) := by decide +kernel
theorem dc_12_10_65 : decode prog_12_method_10_code 65 = .ok (.istore 4, 2) := by decide +kernel
theorem dc_12_10_67 : decode prog_12_method_10_code 67 = .ok (.aload_n 0, 1) := by decide +kernel
theorem dc_12_10_68 : decode prog_12_method_10_code 68 = .ok (.dup, 1) := by decide +kernel
theorem dc_12_10_69 : decode prog_12_method_10_code 69 = .ok (.getfield 28, 3) := by decide +kernel
theorem dc_12_10_72 : decode prog_12_method_10_code 72 = .ok (.iconst 1, 1) := by decide +kernel
theorem dc_12_10_73 : decode prog_12_method_10_code 73 = .ok (.iadd, 1) := by decide +kernel
theorem dc_12_10_74 : decode prog_12_method_10_code 74 = .ok (.putfield 28, 3) := by decide +kernel
theorem dc_12_10_77 : decode prog_12_method_10_code 77 = .ok (.goto (-60), 3) := by decide +kernel
theorem dc_12_10_80 : decode prog_12_method_10_code 80 = .ok (.aload_n 0, 1) := by decide +kernel
theorem dc_12_10_81 : decode prog_12_method_10_code 81 = .ok (.getfield 28, 3) := by decide +kernel
theorem dc_12_10_84 : decode prog_12_method_10_code 84 = .ok (.iload_n 3, 1) := by decide +kernel
theorem dc_12_10_85 : decode prog_12_method_10_code 85 = .ok (.if_icmp .eq 17, 3) := by decide +kernel
theorem dc_12_10_88 : decode prog_12_method_10_code 88 = .ok (.aload_n 0, 1) := by decide +kernel
theorem dc_12_10_89 : decode prog_12_method_10_code 89 = .ok (.invokevirtual 71, 3) := by decide +kernel
theorem dc_12_10_92 : decode prog_12_method_10_code 92 = .ok (.bipush 48, 2) := by decide +kernel
theorem dc_12_10_94 : decode prog_12_method_10_code 94 = .ok (.bipush 57, 2) := by decide +kernel
theorem dc_12_10_96 : decode prog_12_method_10_code 96 = .ok (.invokestatic 116, 3) := by decide +kernel
theorem dc_12_10_99 : decode prog_12_method_10_code 99 = .ok (.ifCond .eq 15, 3) := by decide +kernel
theorem dc_12_10_102 : decode prog_12_method_10_code 102 = .ok (.aload_n 0, 1) := by decide +kernel
theorem dc_12_10_103 : decode prog_12_method_10_code 103 = .ok (.iconst 1, 1) := by decide +kernel
theorem dc_12_10_104 : decode prog_12_method_10_code 104 = .ok (.aload_n 0, 1) := by decide +kernel
theorem dc_12_10_105 : decode prog_12_method_10_code 105 = .ok (.getfield 28, 3) := by decide +kernel
theorem dc_12_10_108 : decode prog_12_method_10_code 108 = .ok (.invokevirtual 91, 3) := by decide +kernel
theorem dc_12_10_111 : decode prog_12_method_10_code 111 = .ok (.goto 19, 3) := by decide +kernel
theorem dc_12_10_114 : decode prog_12_method_10_code 114 = .ok (.iload 4, 2) := by decide +kernel
theorem dc_12_10_116 : decode prog_12_method_10_code 116 = .ok (.iload_n 1, 1) := by decide +kernel
theorem dc_12_10_117 : decode prog_12_method_10_code 117 = .ok (.iload_n 2, 1) := by decide +kernel
theorem dc_12_10_118 : decode prog_12_method_10_code 118 = .ok (.invokestatic 116, 3) := by decide +kernel
theorem dc_12_10_121 : decode prog_12_method_10_code 121 = .ok (.ifCond .ne 9, 3) := by decide +kernel
theorem dc_12_10_124 : decode prog_12_method_10_code 124 = .ok (.aload_n 0, 1) := by decide +kernel
theorem dc_12_10_125 : decode prog_12_method_10_code 125 = .ok (.iconst 2, 1) := by decide +kernel
theorem dc_12_10_126 : decode prog_12_method_10_code 126 = .ok (.iload_n 3, 1) := by decide +kernel
theorem dc_12_10_127 : decode prog_12_method_10_code 127 = .ok (.invokevirtual 91, 3) := by decide +kernel
theorem dc_12_10_130 : decode prog_12_method_10_code 130 = .ok (.iload 4, 2) := by decide +kernel
theorem dc_12_10_132 : decode prog_12_method_10_code 132 = .ok (.ireturn, 1) := by decide +kernel
theorem dc_12_13_0 : decode prog_12_method_13_code 0 = .ok (.aload_n 0, 1) := by decide +kernel
theorem dc_12_13_1 : decode prog_12_method_13_code 1 = .ok (.invokevirtual 71, 3) := by decide +kernel
theorem dc_12_13_4 : decode prog_12_method_13_code 4 = .ok (.istore_n 2, 1) := by decide +kernel
theorem dc_12_13_5 : decode prog_12_method_13_code 5 = .ok (.iload_n 2, 1) := by decide +kernel
theorem dc_12_13_6 : decode prog_12_method_13_code 6 = .ok (.iconst (-1), 1) := by decide +kernel
theorem dc_12_13_7 : decode prog_12_method_13_code 7 = .ok (.if_icmp .ne 7, 3) := by decide +kernel
theorem dc_12_13_10 : decode prog_12_method_13_code 10 = .ok (.iconst (-1), 1) := by decide +kernel
theorem dc_12_13_11 : decode prog_12_method_13_code 11 = .ok (.goto 9, 3) := by decide +kernel
theorem dc_12_13_14 : decode prog_12_method_13_code 14 = .ok (.aload_n 1, 1) := by decide +kernel
theorem dc_12_13_15 : decode prog_12_method_13_code 15 = .ok (.iload_n 2, 1) := by decide +kernel
theorem dc_12_13_16 : decode prog_12_method_13_code 16 = .ok (.i2c, 1) := by decide +kernel
theorem dc_12_13_17 : decode prog_12_method_13_code 17 = .ok (.invokevirtual 120, 3) := by decide +kernel
theorem dc_12_13_20 : decode prog_12_method_13_code 20 = .ok (.istore_n 3, 1) := by decide +kernel
theorem dc_12_13_21 : decode prog_12_method_13_code 21 = .ok (.aload_n 0, 1) := by decide +kernel
theorem dc_12_13_22 : decode prog_12_method_13_code 22 = .ok (.getfield 31, 3) := by decide +kernel
theorem dc_12_13_25 : decode prog_12_method_13_code 25 = .ok (.ifCond .ne 16, 3) := by decide +kernel
theorem dc_12_13_28 : decode prog_12_method_13_code 28 = .ok (.iload_n 3, 1) := by decide +kernel
theorem dc_12_13_29 : decode prog_12_method_13_code 29 = .ok (.ifCond .ge 12, 3) := by decide +kernel
theorem dc_12_13_32 : decode prog_12_method_13_code 32 = .ok (.aload_n 0, 1) := by decide +kernel
theorem dc_12_13_33 : decode prog_12_method_13_code 33 = .ok (.iconst 1, 1) := by decide +kernel
theorem dc_12_13_34 : decode prog_12_method_13_code 34 = .ok (.aload_n 0, 1) := by decide +kernel
theorem dc_12_13_35 : decode prog_12_method_13_code 35 = .ok (.getfield 28, 3) := by decide +kernel
theorem dc_12_13_38 : decode prog_12_method_13_code 38 = .ok (.invokevirtual 91, 3) := by decide +kernel
theorem dc_12_13_41 : decode prog_12_method_13_code 41 = .ok (.aload_n 0, 1) := by decide +kernel
theorem dc_12_13_42 : decode prog_12_method_13_code 42 = .ok (.dup, 1) := by decide +kernel
theorem dc_12_13_43 : decode prog_12_method_13_code 43 = .ok (.getfield 28, 3) := by decide +kernel
theorem dc_12_13_46 : decode prog_12_method_13_code 46 = .ok (.iconst 1, 1) := by decide +kernel
theorem dc_12_13_47 : decode prog_12_method_13_code 47 = .ok (.iadd, 1) := by decide +kernel
theorem dc_12_13_48 : decode prog_12_method_13_code 48 = .ok (.putfield 28, 3) := by decide +kernel
theorem dc_12_13_51 : decode prog_12_method_13_code 51 = .ok (.iload_n 3, 1) := by decide +kernel
theorem dc_12_13_52 : decode prog_12_method_13_code 52 = .ok (.ireturn, 1) := by decide +kernel
theorem dc_12_5_0 : decode prog_12_method_5_code 0 = .ok (.iload_n 1, 1) := by decide +kernel
theorem dc_12_5_1 : decode prog_12_method_5_code 1 = .ok (.bipush 6, 2) := by decide +kernel
theorem dc_12_5_3 : decode prog_12_method_5_code 3 = .ok (.if_icmp .lt 13, 3) := by decide +kernel
theorem dc_12_5_6 : decode prog_12_method_5_code 6 = .ok (.aload_n 0, 1) := by decide +kernel
theorem dc_12_5_7 : decode prog_12_method_5_code 7 = .ok (.iconst 3, 1) := by decide +kernel
theorem dc_12_5_8 : decode prog_12_method_5_code 8 = .ok (.aload_n 0, 1) := by decide +kernel
theorem dc_12_5_9 : decode prog_12_method_5_code 9 = .ok (.getfield 28, 3) := by decide +kernel
theorem dc_12_5_12 : decode prog_12_method_5_code 12 = .ok (.invokevirtual 91, 3) := by decide +kernel
theorem dc_12_5_15 : decode prog_12_method_5_code 15 = .ok (.return_, 1) := by decide +kernel
theorem dc_12_5_16 : decode prog_12_method_5_code 16 = .ok (.aload_n 0, 1) := by decide +kernel
theorem dc_12_5_17 : decode prog_12_method_5_code 17 = .ok (.bipush 40, 2) := by decide +kernel
theorem dc_12_5_19 : decode prog_12_method_5_code 19 = .ok (.invokevirtual 58, 3) := by decide +kernel
theorem dc_12_5_22 : decode prog_12_method_5_code 22 = .ok (.aload_n 0, 1) := by decide +kernel
theorem dc_12_5_23 : decode prog_12_method_5_code 23 = .ok (.iload_n 1, 1) := by decide +kernel
theorem dc_12_5_24 : decode prog_12_method_5_code 24 = .ok (.iconst 1, 1) := by decide +kernel
theorem dc_12_5_25 : decode prog_12_method_5_code 25 = .ok (.iadd, 1) := by decide +kernel
theorem dc_12_5_26 : decode prog_12_method_5_code 26 = .ok (.invokevirtual 95, 3) := by decide +kernel
theorem dc_12_5_29 : decode prog_12_method_5_code 29 = .ok (.aload_n 0, 1) := by decide +kernel
theorem dc_12_5_30 : decode prog_12_method_5_code 30 = .ok (.bipush 41, 2) := by decide +kernel
theorem dc_12_5_32 : decode prog_12_method_5_code 32 = .ok (.invokevirtual 58, 3) := by decide +kernel
theorem dc_12_5_35 : decode prog_12_method_5_code 35 = .ok (.return_, 1) := by decide +kernel
theorem dc_12_6_0 : decode prog_12_method_6_code 0 = .ok (.aload_n 0, 1) := by decide +kernel
theorem dc_12_6_1 : decode prog_12_method_6_code 1 = .ok (.iload_n 1, 1) := by decide +kernel
theorem dc_12_6_2 : decode prog_12_method_6_code 2 = .ok (.invokevirtual 98, 3) := by decide +kernel
theorem dc_12_6_5 : decode prog_12_method_6_code 5 = .ok (.iconst 0, 1) := by decide +kernel
theorem dc_12_6_6 : decode prog_12_method_6_code 6 = .ok (.istore_n 2, 1) := by decide +kernel
theorem dc_12_6_7 : decode prog_12_method_6_code 7 = .ok (.iload_n 2, 1) := by decide +kernel
theorem dc_12_6_8 : decode prog_12_method_6_code 8 = .ok (.bipush 60, 2) := by decide +kernel
theorem dc_12_6_10 : decode prog_12_method_6_code 10 = .ok (.if_icmp .ge 46, 3) := by decide +kernel
theorem dc_12_6_13 : decode prog_12_method_6_code 13 = .ok (.aload_n 0, 1) := by decide +kernel
theorem dc_12_6_14 : decode prog_12_method_6_code 14 = .ok (.getfield 31, 3) := by decide +kernel
theorem dc_12_6_17 : decode prog_12_method_6_code 17 = .ok (.ifCond .ne 39, 3) := by decide +kernel
theorem dc_12_6_20 : decode prog_12_method_6_code 20 = .ok (.aload_n 0, 1) := by decide +kernel
theorem dc_12_6_21 : decode prog_12_method_6_code 21 = .ok (.invokevirtual 71, 3) := by decide +kernel
theorem dc_12_6_24 : decode prog_12_method_6_code 24 = .ok (.bipush 124, 2) := by decide +kernel
theorem dc_12_6_26 : decode prog_12_method_6_code 26 = .ok (.if_icmp .ne 30, 3) := by decide +kernel
theorem dc_12_6_29 : decode prog_12_method_6_code 29 = .ok (.aload_n 0, 1) := by decide +kernel
theorem dc_12_6_30 : decode prog_12_method_6_code 30 = .ok (.dup, 1) := by decide +kernel
theorem dc_12_6_31 : decode prog_12_method_6_code 31 = .ok (.getfield 28, 3) := by decide +kernel
theorem dc_12_6_34 : decode prog_12_method_6_code 34 = .ok (.iconst 1, 1) := by decide +kernel
theorem dc_12_6_35 : decode prog_12_method_6_code 35 = .ok (.iadd, 1) := by decide +kernel
theorem dc_12_6_36 : decode prog_12_method_6_code 36 = .ok (.putfield 28, 3) := by decide +kernel
theorem dc_12_6_39 : decode prog_12_method_6_code 39 = .ok (.aload_n 0, 1) := by decide +kernel
theorem dc_12_6_40 : decode prog_12_method_6_code 40 = .ok (.iload_n 1, 1) := by decide +kernel
theorem dc_12_6_41 : decode prog_12_method_6_code 41 = .ok (.invokevirtual 98, 3) := by decide +kernel
theorem dc_12_6_44 : decode prog_12_method_6_code 44 = .ok (.aload_n 0, 1) := by decide +kernel
theorem dc_12_6_45 : decode prog_12_method_6_code 45 = .ok (.bipush (-3), 2) := by decide +kernel
theorem dc_12_6_47 : decode prog_12_method_6_code 47 = .ok (.invokevirtual 79, 3) := by decide +kernel
theorem dc_12_6_50 : decode prog_12_method_6_code 50 = .ok (.iinc 2 1, 3) := by decide +kernel
theorem dc_12_6_53 : decode prog_12_method_6_code 53 = .ok (.goto (-46), 3) := by decide +kernel
theorem dc_12_6_56 : decode prog_12_method_6_code 56 = .ok (.return_, 1) := by decide +kernel
theorem dc_12_7_0 : decode prog_12_method_7_code 0 = .ok (.aload_n 0, 1) := by decide +kernel
theorem dc_12_7_1 : decode prog_12_method_7_code 1 = .ok (.iload_n 1, 1) := by decide +kernel
theorem dc_12_7_2 : decode prog_12_method_7_code 2 = .ok (.invokevirtual 101, 3) := by decide +kernel
theorem dc_12_7_5 : decode prog_12_method_7_code 5 = .ok (.iconst 0, 1) := by decide +kernel
theorem dc_12_7_6 : decode prog_12_method_7_code 6 = .ok (.istore_n 2, 1) := by decide +kernel
theorem dc_12_7_7 : decode prog_12_method_7_code 7 = .ok (.iload_n 2, 1) := by decide +kernel
theorem dc_12_7_8 : decode prog_12_method_7_code 8 = .ok (.bipush 60, 2) := by decide +kernel
theorem dc_12_7_10 : decode prog_12_method_7_code 10 = .ok (.if_icmp .ge 46, 3) := by decide +kernel
theorem dc_12_7_13 : decode prog_12_method_7_code 13 = .ok (.aload_n 0, 1) := by decide +kernel
theorem dc_12_7_14 : decode prog_12_method_7_code 14 = .ok (.getfield 31, 3) := by decide +kernel
theorem dc_12_7_17 : decode prog_12_method_7_code 17 = .ok (.ifCond .ne 39, 3) := by decide +kernel
theorem dc_12_7_20 : decode prog_12_method_7_code 20 = .ok (.aload_n 0, 1) := by decide +kernel
theorem dc_12_7_21 : decode prog_12_method_7_code 21 = .ok (.invokevirtual 71, 3) := by decide +kernel
theorem dc_12_7_24 : decode prog_12_method_7_code 24 = .ok (.bipush 38, 2) := by decide +kernel
theorem dc_12_7_26 : decode prog_12_method_7_code 26 = .ok (.if_icmp .ne 30, 3) := by decide +kernel
theorem dc_12_7_29 : decode prog_12_method_7_code 29 = .ok (.aload_n 0, 1) := by decide +kernel
theorem dc_12_7_30 : decode prog_12_method_7_code 30 = .ok (.dup, 1) := by decide +kernel
theorem dc_12_7_31 : decode prog_12_method_7_code 31 = .ok (.getfield 28, 3) := by decide +kernel
theorem dc_12_7_34 : decode prog_12_method_7_code 34 = .ok (.iconst 1, 1) := by decide +kernel
theorem dc_12_7_35 : decode prog_12_method_7_code 35 = .ok (.iadd, 1) := by decide +kernel
theorem dc_12_7_36 : decode prog_12_method_7_code 36 = .ok (.putfield 28, 3) := by decide +kernel
theorem dc_12_7_39 : decode prog_12_method_7_code 39 = .ok (.aload_n 0, 1) := by decide +kernel
theorem dc_12_7_40 : decode prog_12_method_7_code 40 = .ok (.iload_n 1, 1) := by decide +kernel
theorem dc_12_7_41 : decode prog_12_method_7_code 41 = .ok (.invokevirtual 101, 3) := by decide +kernel
theorem dc_12_7_44 : decode prog_12_method_7_code 44 = .ok (.aload_n 0, 1) := by decide +kernel
theorem dc_12_7_45 : decode prog_12_method_7_code 45 = .ok (.bipush (-2), 2) := by decide +kernel
theorem dc_12_7_47 : decode prog_12_method_7_code 47 = .ok (.invokevirtual 79, 3) := by decide +kernel
theorem dc_12_7_50 : decode prog_12_method_7_code 50 = .ok (.iinc 2 1, 3) := by decide +kernel
theorem dc_12_7_53 : decode prog_12_method_7_code 53 = .ok (.goto (-46), 3) := by decide +kernel
theorem dc_12_7_56 : decode prog_12_method_7_code 56 = .ok (.return_, 1) := by decide +kernel
theorem dc_12_8_0 : decode prog_12_method_8_code 0 = .ok (.iconst 0, 1) := by decide +kernel
theorem dc_12_8_1 : decode prog_12_method_8_code 1 = .ok (.istore_n 2, 1) := by decide +kernel
theorem dc_12_8_2 : decode prog_12_method_8_code 2 = .ok (.iconst 0, 1) := by decide +kernel
theorem dc_12_8_3 : decode prog_12_method_8_code 3 = .ok (.istore_n 3, 1) := by decide +kernel
theorem dc_12_8_4 : decode prog_12_method_8_code 4 = .ok (.iload_n 3, 1) := by decide +kernel
theorem dc_12_8_5 : decode prog_12_method_8_code 5 = .ok (.bipush 60, 2) := by decide +kernel
theorem dc_12_8_7 : decode prog_12_method_8_code 7 = .ok (.if_icmp .ge 45, 3) := by decide +kernel
theorem dc_12_8_10 : decode prog_12_method_8_code 10 = .ok (.aload_n 0, 1) := by decide +kernel
theorem dc_12_8_11 : decode prog_12_method_8_code 11 = .ok (.getfield 31, 3) := by decide +kernel
theorem dc_12_8_14 : decode prog_12_method_8_code 14 = .ok (.ifCond .ne 38, 3) := by decide +kernel
theorem dc_12_8_17 : decode prog_12_method_8_code 17 = .ok (.aload_n 0, 1) := by decide +kernel
theorem dc_12_8_18 : decode prog_12_method_8_code 18 = .ok (.invokevirtual 71, 3) := by decide +kernel
theorem dc_12_8_21 : decode prog_12_method_8_code 21 = .ok (.bipush 33, 2) := by decide +kernel
theorem dc_12_8_23 : decode prog_12_method_8_code 23 = .ok (.if_icmp .ne 29, 3) := by decide +kernel
theorem dc_12_8_26 : decode prog_12_method_8_code 26 = .ok (.aload_n 0, 1) := by decide +kernel
theorem dc_12_8_27 : decode prog_12_method_8_code 27 = .ok (.dup, 1) := by decide +kernel
theorem dc_12_8_28 : decode prog_12_method_8_code 28 = .ok (.getfield 28, 3) := by decide +kernel
theorem dc_12_8_31 : decode prog_12_method_8_code 31 = .ok (.iconst 1, 1) := by decide +kernel
theorem dc_12_8_32 : decode prog_12_method_8_code 32 = .ok (.iadd, 1) := by decide +kernel
theorem dc_12_8_33 : decode prog_12_method_8_code 33 = .ok (.putfield 28, 3) := by decide +kernel
theorem dc_12_8_36 : decode prog_12_method_8_code 36 = .ok (.iload_n 2, 1) := by decide +kernel
theorem dc_12_8_37 : decode prog_12_method_8_code 37 = .ok (.ifCond .ne 7, 3) := by decide +kernel
theorem dc_12_8_40 : decode prog_12_method_8_code 40 = .ok (.iconst 1, 1) := by decide +kernel
theorem dc_12_8_41 : decode prog_12_method_8_code 41 = .ok (.goto 4, 3) := by decide +kernel
theorem dc_12_8_44 : decode prog_12_method_8_code 44 = .ok (.iconst 0, 1) := by decide +kernel
theorem dc_12_8_45 : decode prog_12_method_8_code 45 = .ok (.istore_n 2, 1) := by decide +kernel
theorem dc_12_8_46 : decode prog_12_method_8_code 46 = .ok (.iinc 3 1, 3) := by decide +kernel
theorem dc_12_8_49 : decode prog_12_method_8_code 49 = .ok (.goto (-45), 3) := by decide +kernel
theorem dc_12_8_52 : decode prog_12_method_8_code 52 = .ok (.aload_n 0, 1) := by decide +kernel
theorem dc_12_8_53 : decode prog_12_method_8_code 53 = .ok (.invokevirtual 71, 3) := by decide +kernel
theorem dc_12_8_56 : decode prog_12_method_8_code 56 = .ok (.bipush 40, 2) := by decide +kernel
theorem dc_12_8_58 : decode prog_12_method_8_code 58 = .ok (.if_icmp .ne 11, 3) := by decide +kernel
theorem dc_12_8_61 : decode prog_12_method_8_code 61 = .ok (.aload_n 0, 1) := by decide +kernel
theorem dc_12_8_62 : decode prog_12_method_8_code 62 = .ok (.iload_n 1, 1) := by decide +kernel
theorem dc_12_8_63 : decode prog_12_method_8_code 63 = .ok (.invokevirtual 75, 3) := by decide +kernel
theorem dc_12_8_66 : decode prog_12_method_8_code 66 = .ok (.goto 7, 3) := by decide +kernel
theorem dc_12_8_69 : decode prog_12_method_8_code 69 = .ok (.aload_n 0, 1) := by decide +kernel
theorem dc_12_8_70 : decode prog_12_method_8_code 70 = .ok (.invokevirtual 104, 3) := by decide +kernel
theorem dc_12_8_73 : decode prog_12_method_8_code 73 = .ok (.iload_n 2, 1) := by decide +kernel
theorem dc_12_8_74 : decode prog_12_method_8_code 74 = .ok (.ifCond .eq 8, 3) := by decide +kernel
theorem dc_12_8_77 : decode prog_12_method_8_code 77 = .ok (.aload_n 0, 1) := by decide +kernel
theorem dc_12_8_78 : decode prog_12_method_8_code 78 = .ok (.iconst (-1), 1) := by decide +kernel
theorem dc_12_8_79 : decode prog_12_method_8_code 79 = .ok (.invokevirtual 79, 3) := by decide +kernel
theorem dc_12_8_82 : decode prog_12_method_8_code 82 = .ok (.return_, 1) := by decide +kernel
theorem dc_12_9_0 : decode prog_12_method_9_code 0 = .ok (.aload_n 0, 1) := by decide +kernel
theorem dc_12_9_1 : decode prog_12_method_9_code 1 = .ok (.ldc 107, 2) := by decide +kernel
theorem dc_12_9_3 : decode prog_12_method_9_code 3 = .ok (.invokevirtual 84, 3) := by decide +kernel
theorem dc_12_9_6 : decode prog_12_method_9_code 6 = .ok (.istore_n 1, 1) := by decide +kernel
theorem dc_12_9_7 : decode prog_12_method_9_code 7 = .ok (.aload_n 0, 1) := by decide +kernel
theorem dc_12_9_8 : decode prog_12_method_9_code 8 = .ok (.ldc 109, 2) := by decide +kernel
theorem dc_12_9_10 : decode prog_12_method_9_code 10 = .ok (.invokevirtual 84, 3) := by decide +kernel
theorem dc_12_9_13 : decode prog_12_method_9_code 13 = .ok (.istore_n 2, 1) := by decide +kernel
theorem dc_12_9_14 : decode prog_12_method_9_code 14 = .ok (.aload_n 0, 1) := by decide +kernel
theorem dc_12_9_15 : decode prog_12_method_9_code 15 = .ok (.iconst 0, 1) := by decide +kernel
theorem dc_12_9_16 : decode prog_12_method_9_code 16 = .ok (.sipush 9999, 3) := by decide +kernel
theorem dc_12_9_19 : decode prog_12_method_9_code 19 = .ok (.invokevirtual 88, 3) := by decide +kernel
theorem dc_12_9_22 : decode prog_12_method_9_code 22 = .ok (.istore_n 3, 1) := by decide +kernel
theorem dc_12_9_23 : decode prog_12_method_9_code 23 = .ok (.aload_n 0, 1) := by decide +kernel
theorem dc_12_9_24 : decode prog_12_method_9_code 24 = .ok (.iload_n 1, 1) := by decide +kernel
theorem dc_12_9_25 : decode prog_12_method_9_code 25 = .ok (.ldc 109, 2) := by decide +kernel
theorem dc_12_9_27 : decode prog_12_method_9_code 27 = .ok (.invokevirtual 111, 3) := by decide +kernel
theorem dc_12_9_30 : decode prog_12_method_9_code 30 = .ok (.imul, 1) := by decide +kernel
theorem dc_12_9_31 : decode prog_12_method_9_code 31 = .ok (.iload_n 2, 1) := by decide +kernel
theorem dc_12_9_32 : decode prog_12_method_9_code 32 = .ok (.iadd, 1) := by decide +kernel
theorem dc_12_9_33 : decode prog_12_method_9_code 33 = .ok (.sipush 10000, 3) := by decide +kernel
theorem dc_12_9_36 : decode prog_12_method_9_code 36 = .ok (.imul, 1) := by decide +kernel
theorem dc_12_9_37 : decode prog_12_method_9_code 37 = .ok (.iload_n 3, 1) := by decide +kernel
theorem dc_12_9_38 : decode prog_12_method_9_code 38 = .ok (.iadd, 1) := by decide +kernel
theorem dc_12_9_39 : decode prog_12_method_9_code 39 = .ok (.invokevirtual 79, 3) := by decide +kernel
theorem dc_12_9_42 : decode prog_12_method_9_code 42 = .ok (.return_, 1) := by decide +kernel
theorem iv_3_s116 : mm_iv 3 (.invokestatic 116) = some (3, 13) := by decide +kernel
theorem iv_3_v101 : mm_iv 3 (.invokevirtual 101) = some (1, 56) := by decide +kernel
theorem iv_3_v104 : mm_iv 3 (.invokevirtual 104) = some (1, 57) := by decide +kernel
theorem iv_3_v111 : mm_iv 3 (.invokevirtual 111) = some (1, 62) := by decide +kernel
theorem iv_3_v120 : mm_iv 3 (.invokevirtual 120) = some (1, 59) := by decide +kernel
theorem iv_3_v58 : mm_iv 3 (.invokevirtual 58) = some (1, 53) := by decide +kernel
theorem iv_3_v75 : mm_iv 3 (.invokevirtual 75) = some (1, 51) := by decide +kernel
theorem iv_3_v79 : mm_iv 3 (.invokevirtual 79) = some (1, 80) := by decide +kernel
theorem iv_3_v84 : mm_iv 3 (.invokevirtual 84) = some (1, 58) := by decide +kernel
theorem iv_3_v88 : mm_iv 3 (.invokevirtual 88) = some (1, 79) := by decide +kernel
theorem iv_3_v95 : mm_iv 3 (.invokevirtual 95) = some (1, 54) := by decide +kernel
theorem iv_3_v98 : mm_iv 3 (.invokevirtual 98) = some (1, 55) := by decide +kernel
theorem o_51 : mm_o 51 = 3 := by decide +kernel
theorem o_53 : mm_o 53 = 3 := by decide +kernel
theorem o_54 : mm_o 54 = 3 := by decide +kernel
theorem o_55 : mm_o 55 = 3 := by decide +kernel
theorem o_56 : mm_o 56 = 3 := by decide +kernel
theorem o_57 : mm_o 57 = 3 := by decide +kernel
theorem o_58 : mm_o 58 = 3 := by decide +kernel
theorem o_59 : mm_o 59 = 22 := by decide +kernel
theorem o_79 : mm_o 79 = 3 := by decide +kernel
theorem o_80 : mm_o 80 = 3 := by decide +kernel
theorem na_1_51 : mm_nas 1 51 = 2 := by decide +kernel
theorem na_1_53 : mm_nas 1 53 = 2 := by decide +kernel
theorem na_1_54 : mm_nas 1 54 = 2 := by decide +kernel
theorem na_1_55 : mm_nas 1 55 = 2 := by decide +kernel
theorem na_1_56 : mm_nas 1 56 = 2 := by decide +kernel
theorem na_1_57 : mm_nas 1 57 = 1 := by decide +kernel
theorem na_1_58 : mm_nas 1 58 = 2 := by decide +kernel
theorem na_1_59 : mm_nas 1 59 = 2 := by decide +kernel
theorem na_1_79 : mm_nas 1 79 = 3 := by decide +kernel
theorem na_1_80 : mm_nas 1 80 = 2 := by decide +kernel
/-- the reader's state: place, fault, codeCount, codes -/
abbrev rS : Type := Int32 × Int32 × Int32 × (Nat → Int32)
def RS (cs : Nat → Nat → Int32) (s : rS) : Nat → Nat → Int32 := fun a k => if a = 12 ∧ k = 2 then s.1 else if a = 12 ∧ k = 3 then s.2.1 else if a = 12 ∧ k = 5 then s.2.2.1 else if a = 14 then s.2.2.2 k else cs a k
def RdH (M : mH) (T : Nat → mT) (cs : Nat → Nat → Int32) (sz : Nat) : Prop := 157 ≤ M.1 ∧ M.1 ≤ 1000000 ∧ (∀ j, 2 ≤ j → j < 8 → M.2.2 (1000000 + j) = mm_hs 0 (fun _ => 0) j) ∧ T 12 = (3, 0, rl [(0, 11), (4, 14)]) ∧ T 11 = (20, 80, fun _ => none) ∧ T 14 = (20, 60, fun _ => none) ∧ cs 12 1 = nI sz ∧ sz ≤ 60 ∧ (∀ j, j < 80 → ∃ v, v < 256 ∧ cs 11 j = nI v)
theorem RS_2 (cs : Nat → Nat → Int32) (s : rS) (v : Int32) : w1 (RS cs s) 12 2 v = RS cs (v, s.2) := by
  funext a k
  unfold w1 RS
  by_cases h : a = 12 ∧ k = 2
  · rw [if_pos h, if_pos h]
  · rw [if_neg h, if_neg h, if_neg h]
theorem RS_3 (cs : Nat → Nat → Int32) (s : rS) (v : Int32) : w1 (RS cs s) 12 3 v = RS cs (s.1, v, s.2.2) := by
  funext a k
  unfold w1 RS
  by_cases h : a = 12 ∧ k = 3
  · rw [if_pos h, if_neg (by omega), if_pos h]
  · rw [if_neg h, if_neg h]
    by_cases h2 : a = 12 ∧ k = 2
    · rw [if_pos h2, if_pos h2]
    · rw [if_neg h2, if_neg h2, if_neg h]
theorem RS_5 (cs : Nat → Nat → Int32) (s : rS) (v : Int32) : w1 (RS cs s) 12 5 v = RS cs (s.1, s.2.1, v, s.2.2.2) := by
  funext a k
  unfold w1 RS
  by_cases h : a = 12 ∧ k = 5
  · rw [if_pos h, if_neg (by omega), if_neg (by omega), if_pos h]
  · rw [if_neg h, if_neg h]
    by_cases h2 : a = 12 ∧ k = 2
    · rw [if_pos h2, if_pos h2]
    · rw [if_neg h2, if_neg h2]
      by_cases h3 : a = 12 ∧ k = 3
      · rw [if_pos h3, if_pos h3]
      · rw [if_neg h3, if_neg h3, if_neg h]
theorem RS_14 (cs : Nat → Nat → Int32) (s : rS) (i : Nat) (v : Int32) : w1 (RS cs s) 14 i v = RS cs (s.1, s.2.1, s.2.2.1, upd s.2.2.2 i v) := by
  funext a k
  unfold w1 RS
  by_cases h : a = 14
  · subst h
    show (if 14 = 14 ∧ k = i then v else s.2.2.2 k) = (if k = i then v else s.2.2.2 k)
    by_cases h2 : k = i
    · rw [if_pos ⟨rfl, h2⟩, if_pos h2]
    · rw [if_neg (fun z => h2 z.2), if_neg h2]
  · rw [if_neg (fun z => h z.1), if_neg h, if_neg h]
def pkx (b : Nat → Int32) (sz : Nat) (x : Int32) : Int32 := if x < 0 then -1 else if nI sz ≤ x then -1 else b (tN x)
def fal (s : rS) (k q : Int32) : rS := if s.2.1 = 0 then (s.1, -100 * k - q, s.2.2) else s
def adv (s : rS) : rS := (s.1 + nI 1, s.2)
def exq (b : Nat → Int32) (sz : Nat) (g : Int32) (s : rS) : rS := adv (if s.2.1 = 0 then (if pkx b sz s.1 = g then s else fal s (nI 1) s.1) else s)
def ptx (s : rS) (c : Int32) : rS := if s.2.1 = 0 then (if s.2.2.1 < 0 then s else if nI 60 ≤ s.2.2.1 then s else (s.1, s.2.1, s.2.2.1 + nI 1, upd s.2.2.2 (tN s.2.2.1) c)) else s
def fdx (F : Nat → Int32) (n : Nat) (g : Int32) : Int32 := if g = -1 then -1 else sp_at F (g.toInt8.toInt32) n
def eox (F : Nat → Int32) (n : Nat) (b : Nat → Int32) (sz : Nat) (s : rS) : rS := adv (if s.2.1 = 0 then (if 0 ≤ fdx F n (pkx b sz s.1) then s else fal s (nI 1) s.1) else s)
def dlx (b : Nat → Int32) (sz : Nat) : Nat → Int32 → Int32 → Int32 × Int32
  | 0, x, v => (x, v)
  | k + 1, x, v => if nI sz ≤ x then (x, v) else if sp_in (pkx b sz x) (nI 48) (nI 57) = 0 then (x, v) else dlx b sz k (x + nI 1) (nI 10 * v + pkx b sz x - nI 48)
def rnx (b : Nat → Int32) (sz : Nat) (lo hi : Int32) (s : rS) : Int32 × rS := if s.2.1 = 0 then ((dlx b sz 4 s.1 (nI 0)).2, if (dlx b sz 4 s.1 (nI 0)).1 = s.1 then fal ((dlx b sz 4 s.1 (nI 0)).1, s.2) (nI 1) (dlx b sz 4 s.1 (nI 0)).1 else if sp_in (pkx b sz (dlx b sz 4 s.1 (nI 0)).1) (nI 48) (nI 57) = 0 then (if sp_in (dlx b sz 4 s.1 (nI 0)).2 lo hi = 0 then fal ((dlx b sz 4 s.1 (nI 0)).1, s.2) (nI 2) s.1 else ((dlx b sz 4 s.1 (nI 0)).1, s.2)) else fal ((dlx b sz 4 s.1 (nI 0)).1, s.2) (nI 1) (dlx b sz 4 s.1 (nI 0)).1) else (nI 0, s)
def tF (i : Nat) : Nat → Int32 := fun j => (mm_bB.getD i []).getD j 0
def cmx (b : Nat → Int32) (sz : Nat) (s : rS) : rS := ptx (rnx b sz (nI 0) (nI 9999) (eox (tF 1) 3 b sz (eox (tF 0) 4 b sz s))).2 ((fdx (tF 0) 4 (pkx b sz s.1) * nI 3 + fdx (tF 1) 3 (pkx b sz (eox (tF 0) 4 b sz s).1)) * nI 10000 + (rnx b sz (nI 0) (nI 9999) (eox (tF 1) 3 b sz (eox (tF 0) 4 b sz s))).1)
def lpx (b : Nat → Int32) (sz : Nat) (g c : Int32) (F : rS → rS) : Nat → rS → rS
  | 0, s => s
  | k + 1, s => if s.2.1 = 0 then (if pkx b sz s.1 = g then lpx b sz g c F k (ptx (F (adv s)) c) else s) else s
def nlx (b : Nat → Int32) (sz : Nat) : Nat → rS → Int32 → rS × Int32
  | 0, s, i => (s, i)
  | k + 1, s, i => if s.2.1 = 0 then (if pkx b sz s.1 = nI 33 then nlx b sz k (adv s) (if i = 0 then nI 1 else nI 0) else (s, i)) else (s, i)
def fcx (b : Nat → Int32) (sz : Nat) (B : rS → rS) (s : rS) : rS := if (nlx b sz 60 s (nI 0)).2 = 0 then (if pkx b sz (nlx b sz 60 s (nI 0)).1.1 = nI 40 then B (nlx b sz 60 s (nI 0)).1 else cmx b sz (nlx b sz 60 s (nI 0)).1) else ptx (if pkx b sz (nlx b sz 60 s (nI 0)).1.1 = nI 40 then B (nlx b sz 60 s (nI 0)).1 else cmx b sz (nlx b sz 60 s (nI 0)).1) (-1)
def tmx (b : Nat → Int32) (sz : Nat) (F : rS → rS) (s : rS) : rS := lpx b sz (nI 38) (-2) F 60 (F s)
def xpx (b : Nat → Int32) (sz : Nat) (F : rS → rS) (s : rS) : rS := lpx b sz (nI 124) (-3) (tmx b sz F) 60 (tmx b sz F s)
def brx (b : Nat → Int32) (sz : Nat) : Nat → rS → rS
  | 0, s => fal s (nI 3) s.1
  | k + 1, s => exq b sz (nI 41) (xpx b sz (fcx b sz (brx b sz k)) (exq b sz (nI 40) s))
theorem pkx_n {b : Nat → Int32} {sz p : Nat} (hsz : sz < 2 ^ 31) (hp : p < 2 ^ 31) : pkx b sz (nI p) = if p < sz then b p else -1 := by
  unfold pkx
  rw [if_neg (nI_pos hp)]
  by_cases h : p < sz
  · rw [if_neg (fun z => absurd ((nI_leI hsz hp).mp z) (by omega)), if_pos h, tN_nI hp]
  · rw [if_pos ((nI_leI hsz hp).mpr (by omega)), if_neg h]
theorem nn_n {x : Int32} (h : ¬ x < 0) : ∃ p, x = nI p ∧ p < 2 ^ 31 := by
  obtain ⟨n, h1, h2⟩ := g_nat2 (v := x) (a := 0) (b := 2147483647) ⟨Int32.not_lt.mp h, by have := Int32.le_maxValue x; exact this⟩ (by decide) (by decide)
  exact ⟨n, h2, by omega⟩
set_option maxHeartbeats 4000000 in
theorem k_pk0 {M : mH} {T : Nat → mT} {cs : Nat → Nat → Int32} {sz : Nat} (hH : RdH M T cs sz) (s : rS) (p : Nat) (hp : s.1 = nI p) (hp2 : p < 2 ^ 31) : mm_Ev 1 50 [.ref 12] (hk M T (RS cs s)) ((some (.int (pkx (cs 11) sz s.1)), hk M T (RS cs s))) := by
  obtain ⟨hM, hM9, hs, hT2, hT1, hT4, he, hsz, hby⟩ := id hH
  refine r_ev (by decide +kernel) (show (1 : Nat) ≤ mm_nL 50 by decide +kernel) ?_
  show mm_Ru 0 (3, 1, false, prog_12_method_11_code, some .int) 0 [(0, .ref 12)] [] (hk M T (RS cs s)) (fun r9 => r9 = ((some (.int (pkx (cs 11) sz s.1)), hk M T (RS cs s))))
  refine r_aload_n rfl dc_12_11_0 ?_
  refine h_get (t := (3, 0, rl [(0, 11), (4, 14)])) (v := .int (nI p)) fx_3_28 hT2 ⟨by omega, by omega⟩ (show some (Value.int _) = _ from congrArg (fun z => some (Value.int z)) (hp)) dc_12_11_1 ?_
  refine r_nzlt (t := 42) (by omega) (by decide) dc_12_11_4 ?_
  refine r_aload_n rfl dc_12_11_7 ?_
  refine h_get (t := (3, 0, rl [(0, 11), (4, 14)])) (v := .int (nI p)) fx_3_28 hT2 ⟨by omega, by omega⟩ (show some (Value.int _) = _ from congrArg (fun z => some (Value.int z)) (hp)) dc_12_11_8 ?_
  refine r_aload_n rfl dc_12_11_11 ?_
  refine h_get (t := (3, 0, rl [(0, 11), (4, 14)])) (v := .int (nI sz)) fx_3_24 hT2 ⟨by omega, by omega⟩ (show some (Value.int _) = _ from congrArg (fun z => some (Value.int z)) (he)) dc_12_11_12 ?_
  refine r_ncge (t := 42) (by omega) (by omega) (by decide) dc_12_11_15 (fun c_15 => ?_) (fun c_15 => ?_)
  · skip
    refine r_iconst (v := -1) (by decide) dc_12_11_42 ?_
    refine r_iret rfl dc_12_11_43 ?_
    show _ = (some (Value.int (pkx (cs 11) sz s.1)), _)
    rw [hp, pkx_n (by omega) hp2, if_neg (by omega)]
  · skip
    refine r_aload_n rfl dc_12_11_18 ?_
    refine h_get (t := (3, 0, rl [(0, 11), (4, 14)])) (v := .int (nI p)) fx_3_28 hT2 ⟨by omega, by omega⟩ (show some (Value.int _) = _ from congrArg (fun z => some (Value.int z)) (hp)) dc_12_11_19 ?_
    refine r_aload_n rfl dc_12_11_22 ?_
    refine h_get (t := (3, 0, rl [(0, 11), (4, 14)])) (v := .ref 11) fx_3_9 hT2 ⟨by omega, by omega⟩ (rfl) dc_12_11_23 ?_
    refine h_len (c := 20) (n := 80) hT1 (Or.inl rfl) ⟨by omega, by omega⟩ dc_12_11_26 ?_
    refine r_ncge (t := 42) (by omega) (by omega) (by decide) dc_12_11_27 (fun c_27 => ?_) (fun c_27 => ?_)
    · omega
    · skip
      refine r_aload_n rfl dc_12_11_30 ?_
      refine h_get (t := (3, 0, rl [(0, 11), (4, 14)])) (v := .ref 11) fx_3_9 hT2 ⟨by omega, by omega⟩ (rfl) dc_12_11_31 ?_
      refine r_aload_n rfl dc_12_11_34 ?_
      refine h_get (t := (3, 0, rl [(0, 11), (4, 14)])) (v := .int (nI p)) fx_3_28 hT2 ⟨by omega, by omega⟩ (show some (Value.int _) = _ from congrArg (fun z => some (Value.int z)) (hp)) dc_12_11_35 ?_
      refine h_ild (n := 80) (e := p) (v := cs 11 p) hT1 ⟨by omega, by omega⟩ (show p < 80 by omega) (by omega) (rfl) dc_12_11_38 ?_
      refine r_goto (t := 43) (by decide) dc_12_11_39 ?_
      refine r_iret rfl dc_12_11_43 ?_
      show _ = (some (Value.int (pkx (cs 11) sz s.1)), _)
      rw [hp, pkx_n (by omega) hp2, if_pos (by omega)]
set_option maxHeartbeats 4000000 in
theorem k_pk1 {M : mH} {T : Nat → mT} {cs : Nat → Nat → Int32} {sz : Nat} (hH : RdH M T cs sz) (s : rS) (hx : s.1 < 0) : mm_Ev 1 50 [.ref 12] (hk M T (RS cs s)) ((some (.int (pkx (cs 11) sz s.1)), hk M T (RS cs s))) := by
  obtain ⟨hM, hM9, hs, hT2, hT1, hT4, he, hsz, hby⟩ := id hH
  refine r_ev (by decide +kernel) (show (1 : Nat) ≤ mm_nL 50 by decide +kernel) ?_
  show mm_Ru 0 (3, 1, false, prog_12_method_11_code, some .int) 0 [(0, .ref 12)] [] (hk M T (RS cs s)) (fun r9 => r9 = ((some (.int (pkx (cs 11) sz s.1)), hk M T (RS cs s))))
  refine r_aload_n rfl dc_12_11_0 ?_
  refine h_get (t := (3, 0, rl [(0, 11), (4, 14)])) (v := .int s.1) fx_3_28 hT2 ⟨by omega, by omega⟩ (rfl) dc_12_11_1 ?_
  refine r_iflt (t := 42) (by decide) dc_12_11_4 (fun c_4 => ?_) (fun c_4 => ?_)
  · skip
    refine r_iconst (v := -1) (by decide) dc_12_11_42 ?_
    refine r_iret rfl dc_12_11_43 ?_
    rw [show pkx (cs 11) sz s.1 = -1 from if_pos hx]
  · exact absurd hx c_4
theorem k_pk {M : mH} {T : Nat → mT} {cs : Nat → Nat → Int32} {sz : Nat} (hH : RdH M T cs sz) (s : rS) : mm_Ev 1 50 [.ref 12] (hk M T (RS cs s)) (some (.int (pkx (cs 11) sz s.1)), hk M T (RS cs s)) := by
  by_cases h : s.1 < 0
  · exact k_pk1 hH s h
  · obtain ⟨p, h1, h2⟩ := nn_n h
    exact k_pk0 hH s p h1 h2
set_option maxHeartbeats 4000000 in
theorem k_flx {M : mH} {T : Nat → mT} {cs : Nat → Nat → Int32} {sz : Nat} (hH : RdH M T cs sz) (s : rS) (k q : Int32) : mm_Ev 1 52 [.ref 12, .int k, .int q] (hk M T (RS cs s)) ((none, hk M T (RS cs (fal s k q)))) := by
  obtain ⟨hM, hM9, hs, hT2, hT1, hT4, he, hsz, hby⟩ := id hH
  refine r_ev (by decide +kernel) (show (3 : Nat) ≤ mm_nL 52 by decide +kernel) ?_
  show mm_Ru 0 (3, 3, false, prog_12_method_14_code, none) 0 [(0, .ref 12), (1, .int k), (2, .int q)] [] (hk M T (RS cs s)) (fun r9 => r9 = ((none, hk M T (RS cs (fal s k q)))))
  refine r_aload_n rfl dc_12_14_0 ?_
  refine h_get (t := (3, 0, rl [(0, 11), (4, 14)])) (v := .int s.2.1) fx_3_31 hT2 ⟨by omega, by omega⟩ (rfl) dc_12_14_1 ?_
  refine r_ifne (t := 17) (by decide) dc_12_14_4 (fun c_4 => ?_) (fun c_4 => ?_)
  · skip
    refine r_vret rfl dc_12_14_17 ?_
    rw [show fal s k q = s from if_neg c_4]
  · skip
    refine r_aload_n rfl dc_12_14_7 ?_
    refine r_bipush (v := -100) (by decide) dc_12_14_8 ?_
    refine r_iload_n rfl dc_12_14_10 ?_
    refine r_imul (v := ((-100)) * k) (rfl) dc_12_14_11 ?_
    refine r_iload_n rfl dc_12_14_12 ?_
    refine r_isub (v := (((-100)) * k) - q) (rfl) dc_12_14_13 ?_
    refine h_pint (t := (3, 0, rl [(0, 11), (4, 14)])) fx_3_31 hT2 ⟨by omega, by omega⟩ (Or.inl fn_3_3) ty_3_3 (pi_3_3 _ _ _ _) dc_12_14_14 ?_
    rw [RS_3]
    refine r_vret rfl dc_12_14_17 ?_
    rw [show fal s k q = (s.1, -100 * k - q, s.2.2) from if_pos c_4]
set_option maxHeartbeats 4000000 in
theorem k_exx {M : mH} {T : Nat → mT} {cs : Nat → Nat → Int32} {sz : Nat} (hH : RdH M T cs sz) (s : rS) (g : Int32) : mm_Ev 2 53 [.ref 12, .int g] (hk M T (RS cs s)) ((none, hk M T (RS cs (exq (cs 11) sz g s)))) := by
  obtain ⟨hM, hM9, hs, hT2, hT1, hT4, he, hsz, hby⟩ := id hH
  refine r_ev (by decide +kernel) (show (2 : Nat) ≤ mm_nL 53 by decide +kernel) ?_
  show mm_Ru 1 (3, 2, false, prog_12_method_12_code, none) 0 [(0, .ref 12), (1, .int g)] [] (hk M T (RS cs s)) (fun r9 => r9 = ((none, hk M T (RS cs (exq (cs 11) sz g s)))))
  refine r_aload_n rfl dc_12_12_0 ?_
  refine h_get (t := (3, 0, rl [(0, 11), (4, 14)])) (v := .int s.2.1) fx_3_31 hT2 ⟨by omega, by omega⟩ (rfl) dc_12_12_1 ?_
  refine r_ifne (t := 24) (by decide) dc_12_12_4 (fun c_4 => ?_) (fun c_4 => ?_)
  · skip
    refine r_aload_n rfl dc_12_12_24 ?_
    refine r_dup rfl dc_12_12_25 ?_
    refine h_get (t := (3, 0, rl [(0, 11), (4, 14)])) (v := .int s.1) fx_3_28 hT2 ⟨by omega, by omega⟩ (rfl) dc_12_12_26 ?_
    refine r_iconst (v := nI 1) (by decide) dc_12_12_29 ?_
    refine r_iadd (v := s.1 + (nI 1)) (rfl) dc_12_12_30 ?_
    refine h_pint (t := (3, 0, rl [(0, 11), (4, 14)])) fx_3_28 hT2 ⟨by omega, by omega⟩ (Or.inl fn_3_2) ty_3_2 (pi_3_2 _ _ _ _) dc_12_12_31 ?_
    rw [RS_2]
    show mm_Ru 1 (3, 2, false, prog_12_method_12_code, none) 34 [(0, .ref 12), (1, .int g)] [] (hk M T (RS cs (adv s))) (fun r9 => r9 = ((none, hk M T (RS cs (exq (cs 11) sz g s)))))
    refine r_vret rfl dc_12_12_34 ?_
    unfold exq
    rw [if_neg c_4]
  · skip
    refine r_aload_n rfl dc_12_12_7 ?_
    refine h_callv (t := (3, 0, rl [(0, 11), (4, 14)])) (as := []) (rest := []) (v := .int (pkx (cs 11) sz s.1)) (M1 := hk M T (RS cs s)) rfl rfl iv_3_v71 (Or.inl rfl) na_1_50 hT2 ⟨by omega, by omega⟩ (show (3 : Nat) < 14 by decide) o_50 rfl (show (0 : Nat) ≤ 8 by decide) dc_12_12_8 (mm_Ev_up (by decide : 1 ≤ 1) (k_pk hH s)) ?_
    refine r_iload_n rfl dc_12_12_11 ?_
    refine r_iceq (t := 24) (by decide) dc_12_12_12 (fun c_12 => ?_) (fun c_12 => ?_)
    · skip
      refine r_aload_n rfl dc_12_12_24 ?_
      refine r_dup rfl dc_12_12_25 ?_
      refine h_get (t := (3, 0, rl [(0, 11), (4, 14)])) (v := .int s.1) fx_3_28 hT2 ⟨by omega, by omega⟩ (rfl) dc_12_12_26 ?_
      refine r_iconst (v := nI 1) (by decide) dc_12_12_29 ?_
      refine r_iadd (v := s.1 + (nI 1)) (rfl) dc_12_12_30 ?_
      refine h_pint (t := (3, 0, rl [(0, 11), (4, 14)])) fx_3_28 hT2 ⟨by omega, by omega⟩ (Or.inl fn_3_2) ty_3_2 (pi_3_2 _ _ _ _) dc_12_12_31 ?_
      rw [RS_2]
      show mm_Ru 1 (3, 2, false, prog_12_method_12_code, none) 34 [(0, .ref 12), (1, .int g)] [] (hk M T (RS cs (adv s))) (fun r9 => r9 = ((none, hk M T (RS cs (exq (cs 11) sz g s)))))
      refine r_vret rfl dc_12_12_34 ?_
      unfold exq
      rw [if_pos c_4, if_pos c_12]
    · skip
      refine r_aload_n rfl dc_12_12_15 ?_
      refine r_iconst (v := nI 1) (by decide) dc_12_12_16 ?_
      refine r_aload_n rfl dc_12_12_17 ?_
      refine h_get (t := (3, 0, rl [(0, 11), (4, 14)])) (v := .int s.1) fx_3_28 hT2 ⟨by omega, by omega⟩ (rfl) dc_12_12_18 ?_
      refine h_call0 (t := (3, 0, rl [(0, 11), (4, 14)])) (as := [.int (nI 1), .int s.1]) (rest := []) (M1 := hk M T (RS cs (fal s (nI 1) s.1))) rfl rfl iv_3_v91 (Or.inl rfl) na_1_52 hT2 ⟨by omega, by omega⟩ (show (3 : Nat) < 14 by decide) o_52 rfl (show (0 : Nat) ≤ 8 by decide) dc_12_12_21 (mm_Ev_up (by decide : 1 ≤ 1) (k_flx hH s (nI 1) s.1)) ?_
      refine r_aload_n rfl dc_12_12_24 ?_
      refine r_dup rfl dc_12_12_25 ?_
      refine h_get (t := (3, 0, rl [(0, 11), (4, 14)])) (v := .int ((fal s (nI 1) s.1).1)) fx_3_28 hT2 ⟨by omega, by omega⟩ (rfl) dc_12_12_26 ?_
      refine r_iconst (v := nI 1) (by decide) dc_12_12_29 ?_
      refine r_iadd (v := ((fal s (nI 1) s.1).1) + (nI 1)) (rfl) dc_12_12_30 ?_
      refine h_pint (t := (3, 0, rl [(0, 11), (4, 14)])) fx_3_28 hT2 ⟨by omega, by omega⟩ (Or.inl fn_3_2) ty_3_2 (pi_3_2 _ _ _ _) dc_12_12_31 ?_
      rw [RS_2]
      show mm_Ru 1 (3, 2, false, prog_12_method_12_code, none) 34 [(0, .ref 12), (1, .int g)] [] (hk M T (RS cs (adv (fal s (nI 1) s.1)))) (fun r9 => r9 = ((none, hk M T (RS cs (exq (cs 11) sz g s)))))
      refine r_vret rfl dc_12_12_34 ?_
      unfold exq
      rw [if_pos c_4, if_neg c_12]
set_option maxHeartbeats 4000000 in
theorem k_ptx {M : mH} {T : Nat → mT} {cs : Nat → Nat → Int32} {sz : Nat} (hH : RdH M T cs sz) (s : rS) (c : Int32) : mm_Ev 1 80 [.ref 12, .int c] (hk M T (RS cs s)) ((none, hk M T (RS cs (ptx s c)))) := by
  obtain ⟨hM, hM9, hs, hT2, hT1, hT4, he, hsz, hby⟩ := id hH
  refine r_ev (by decide +kernel) (show (2 : Nat) ≤ mm_nL 80 by decide +kernel) ?_
  show mm_Ru 0 (3, 2, false, prog_12_method_15_code, none) 0 [(0, .ref 12), (1, .int c)] [] (hk M T (RS cs s)) (fun r9 => r9 = ((none, hk M T (RS cs (ptx s c)))))
  refine r_aload_n rfl dc_12_15_0 ?_
  refine h_get (t := (3, 0, rl [(0, 11), (4, 14)])) (v := .int s.2.1) fx_3_31 hT2 ⟨by omega, by omega⟩ (rfl) dc_12_15_1 ?_
  refine r_ifne (t := 43) (by decide) dc_12_15_4 (fun c_4 => ?_) (fun c_4 => ?_)
  · skip
    refine r_vret rfl dc_12_15_43 ?_
    rw [show ptx s c = s from if_neg c_4]
  · skip
    refine r_aload_n rfl dc_12_15_7 ?_
    refine h_get (t := (3, 0, rl [(0, 11), (4, 14)])) (v := .int s.2.2.1) fx_3_34 hT2 ⟨by omega, by omega⟩ (rfl) dc_12_15_8 ?_
    refine r_iflt (t := 43) (by decide) dc_12_15_11 (fun c_11 => ?_) (fun c_11 => ?_)
    · skip
      refine r_vret rfl dc_12_15_43 ?_
      rw [show ptx s c = s from (if_pos c_4).trans (if_pos c_11)]
    · skip
      refine r_aload_n rfl dc_12_15_14 ?_
      refine h_get (t := (3, 0, rl [(0, 11), (4, 14)])) (v := .int s.2.2.1) fx_3_34 hT2 ⟨by omega, by omega⟩ (rfl) dc_12_15_15 ?_
      refine r_bipush (v := nI 60) (by decide) dc_12_15_18 ?_
      refine r_icge (t := 43) (by decide) dc_12_15_20 (fun c_20 => ?_) (fun c_20 => ?_)
      · skip
        refine r_vret rfl dc_12_15_43 ?_
        rw [show ptx s c = s from (if_pos c_4).trans ((if_neg c_11).trans (if_pos c_20))]
      · skip
        obtain ⟨n9, hn9, hn8⟩ := nn_n c_11
        have hn7 : n9 < 60 := by
          rw [hn9] at c_20
          exact Nat.lt_of_not_le (fun z => c_20 ((nI_leI (by decide) hn8).mpr z))
        refine r_aload_n rfl dc_12_15_23 ?_
        refine h_get (t := (3, 0, rl [(0, 11), (4, 14)])) (v := .ref 14) fx_3_15 hT2 ⟨by omega, by omega⟩ (rfl) dc_12_15_24 ?_
        refine r_aload_n rfl dc_12_15_27 ?_
        refine h_get (t := (3, 0, rl [(0, 11), (4, 14)])) (v := .int (nI n9)) fx_3_34 hT2 ⟨by omega, by omega⟩ (show some (Value.int _) = _ from congrArg (fun z => some (Value.int z)) (hn9)) dc_12_15_28 ?_
        refine r_iload_n rfl dc_12_15_31 ?_
        refine h_ist (n := 60) (e := n9) hT4 ⟨by omega, by omega⟩ (show n9 < 60 by omega) (by omega) dc_12_15_32 ?_
        rw [RS_14]
        refine r_aload_n rfl dc_12_15_33 ?_
        refine r_dup rfl dc_12_15_34 ?_
        refine h_get (t := (3, 0, rl [(0, 11), (4, 14)])) (v := .int (((s.1, s.2.1, s.2.2.1, upd s.2.2.2 n9 c)).2.2.1)) fx_3_34 hT2 ⟨by omega, by omega⟩ (rfl) dc_12_15_35 ?_
        refine r_iconst (v := nI 1) (by decide) dc_12_15_38 ?_
        refine r_iadd (v := (((s.1, s.2.1, s.2.2.1, upd s.2.2.2 n9 c)).2.2.1) + (nI 1)) (rfl) dc_12_15_39 ?_
        refine h_pint (t := (3, 0, rl [(0, 11), (4, 14)])) fx_3_34 hT2 ⟨by omega, by omega⟩ (Or.inl fn_3_5) ty_3_5 (pi_3_5 _ _ _ _) dc_12_15_40 ?_
        rw [RS_5]
        refine r_vret rfl dc_12_15_43 ?_
        rw [show ptx s c = _ from (if_pos c_4).trans ((if_neg c_11).trans (if_neg c_20)), show tN s.2.2.1 = n9 by rw [hn9, tN_nI hn8]]
theorem dlx_e {b : Nat → Int32} {sz : Nat} {x : Int32} (h : nI sz ≤ x) : ∀ (k : Nat) (v : Int32), dlx b sz k x v = (x, v)
  | 0, _ => rfl
  | k + 1, _ => if_pos h
theorem dlx_d {b : Nat → Int32} {sz : Nat} {x : Int32} (h : sp_in (pkx b sz x) (nI 48) (nI 57) = 0) : ∀ (k : Nat) (v : Int32), dlx b sz k x v = (x, v)
  | 0, _ => rfl
  | k + 1, _ => by
    by_cases h1 : nI sz ≤ x
    · exact if_pos h1
    · exact (if_neg h1).trans (if_pos h)
theorem dlx_s {b : Nat → Int32} {sz : Nat} {x : Int32} (h1 : ¬ nI sz ≤ x) (h2 : ¬ sp_in (pkx b sz x) (nI 48) (nI 57) = 0) {m : Nat} (hm : m < 4) (v : Int32) : dlx b sz (4 - m) x v = dlx b sz (4 - (m + 1)) (x + nI 1) (nI 10 * v + pkx b sz x - nI 48) := by
  rw [show 4 - m = (4 - (m + 1)) + 1 by omega]
  exact (if_neg h1).trans (if_neg h2)
theorem i_sb (x y : Int32) (m : Nat) (h : x - y = nI m) : x + nI 1 - y = nI (m + 1) := by
  rw [← nI_add, ← h, Int32.sub_eq_add_neg, Int32.sub_eq_add_neg, Int32.add_assoc, Int32.add_assoc, Int32.add_comm (nI 1)]
set_option maxHeartbeats 4000000 in
theorem k_rnx {M : mH} {T : Nat → mT} {cs : Nat → Nat → Int32} {sz : Nat} (hH : RdH M T cs sz) (s : rS) (lo hi : Int32) : mm_Ev 2 79 [.ref 12, .int lo, .int hi] (hk M T (RS cs s)) ((some (.int (rnx (cs 11) sz lo hi s).1), hk M T (RS cs (rnx (cs 11) sz lo hi s).2))) := by
  obtain ⟨hM, hM9, hs, hT2, hT1, hT4, he, hsz, hby⟩ := id hH
  refine r_ev (by decide +kernel) (show (3 : Nat) ≤ mm_nL 79 by decide +kernel) ?_
  show mm_Ru 1 (3, 5, false, prog_12_method_10_code, some .int) 0 [(0, .ref 12), (1, .int lo), (2, .int hi)] [] (hk M T (RS cs s)) (fun r9 => r9 = ((some (.int (rnx (cs 11) sz lo hi s).1), hk M T (RS cs (rnx (cs 11) sz lo hi s).2))))
  refine r_aload_n rfl dc_12_10_0 ?_
  refine h_get (t := (3, 0, rl [(0, 11), (4, 14)])) (v := .int s.2.1) fx_3_31 hT2 ⟨by omega, by omega⟩ (rfl) dc_12_10_1 ?_
  refine r_ifeq (t := 9) (by decide) dc_12_10_4 (fun c_4 => ?_) (fun c_4 => ?_)
  · skip
    refine r_aload_n rfl dc_12_10_9 ?_
    refine h_get (t := (3, 0, rl [(0, 11), (4, 14)])) (v := .int s.1) fx_3_28 hT2 ⟨by omega, by omega⟩ (rfl) dc_12_10_10 ?_
    refine r_istore_n (ls' := [(3, .int s.1), (0, .ref 12), (1, .int lo), (2, .int hi)]) (by decide) rfl dc_12_10_13 ?_
    refine r_iconst (v := nI 0) (by decide) dc_12_10_14 ?_
    refine r_istore (ls' := [(4, .int (nI 0)), (3, .int s.1), (0, .ref 12), (1, .int lo), (2, .int hi)]) (by decide) rfl dc_12_10_15 ?_
    refine mm_cnt (P := fun m => ∀ (v : Int32), ∀ (x : Int32), (x - s.1 = nI m ∧ dlx (cs 11) sz (4 - m) x v = dlx (cs 11) sz 4 s.1 (nI 0)) → mm_Ru 1 (3, 5, false, prog_12_method_10_code, some .int) 17 [(4, .int v), (3, .int s.1), (0, .ref 12), (1, .int lo), (2, .int hi)] [] (hk M T (RS cs (x, s.2))) (fun r9 => r9 = ((some (.int (rnx (cs 11) sz lo hi s).1), hk M T (RS cs (rnx (cs 11) sz lo hi s).2))))) 4 ?_ ?_ 0 (by omega) (nI 0) s.1 (⟨Int32.sub_self _, rfl⟩)
    · intro v x hi_m
      show mm_Ru 1 (3, 5, false, prog_12_method_10_code, some .int) 17 [(4, .int v), (3, .int s.1), (0, .ref 12), (1, .int lo), (2, .int hi)] [] (hk M T (RS cs (x, s.2))) (fun r9 => r9 = ((some (.int (rnx (cs 11) sz lo hi s).1), hk M T (RS cs (rnx (cs 11) sz lo hi s).2))))
      refine r_aload_n rfl dc_12_10_17 ?_
      refine h_get (t := (3, 0, rl [(0, 11), (4, 14)])) (v := .int ((x, s.2).1)) fx_3_28 hT2 ⟨by omega, by omega⟩ (rfl) dc_12_10_18 ?_
      refine r_aload_n rfl dc_12_10_21 ?_
      refine h_get (t := (3, 0, rl [(0, 11), (4, 14)])) (v := .int (nI sz)) fx_3_24 hT2 ⟨by omega, by omega⟩ (show some (Value.int _) = _ from congrArg (fun z => some (Value.int z)) (he)) dc_12_10_22 ?_
      refine r_icge (t := 80) (by decide) dc_12_10_25 (fun c_25 => ?_) (fun c_25 => ?_)
      · skip
        have hd9 : dlx (cs 11) sz 4 s.1 (nI 0) = (x, v) := hi_m.2.symm.trans (dlx_e c_25 _ _)
        refine r_aload_n rfl dc_12_10_80 ?_
        refine h_get (t := (3, 0, rl [(0, 11), (4, 14)])) (v := .int ((x, s.2).1)) fx_3_28 hT2 ⟨by omega, by omega⟩ (rfl) dc_12_10_81 ?_
        refine r_iload_n rfl dc_12_10_84 ?_
        refine r_iceq (t := 102) (by decide) dc_12_10_85 (fun c_85 => ?_) (fun c_85 => ?_)
        · skip
          refine r_aload_n rfl dc_12_10_102 ?_
          refine r_iconst (v := nI 1) (by decide) dc_12_10_103 ?_
          refine r_aload_n rfl dc_12_10_104 ?_
          refine h_get (t := (3, 0, rl [(0, 11), (4, 14)])) (v := .int ((x, s.2).1)) fx_3_28 hT2 ⟨by omega, by omega⟩ (rfl) dc_12_10_105 ?_
          refine h_call0 (t := (3, 0, rl [(0, 11), (4, 14)])) (as := [.int (nI 1), .int ((x, s.2).1)]) (rest := []) (M1 := hk M T (RS cs (fal (x, s.2) (nI 1) ((x, s.2).1)))) rfl rfl iv_3_v91 (Or.inl rfl) na_1_52 hT2 ⟨by omega, by omega⟩ (show (3 : Nat) < 14 by decide) o_52 rfl (show (0 : Nat) ≤ 8 by decide) dc_12_10_108 (mm_Ev_up (by decide : 1 ≤ 1) (k_flx hH (x, s.2) (nI 1) ((x, s.2).1))) ?_
          refine r_goto (t := 130) (by decide) dc_12_10_111 ?_
          refine r_iload rfl dc_12_10_130 ?_
          refine r_iret rfl dc_12_10_132 ?_
          unfold rnx
          rw [if_pos c_4, hd9]
          rw [show (if (x, v).1 = s.1 then _ else _ : rS) = _ from if_pos c_85]
        · skip
          refine r_aload_n rfl dc_12_10_88 ?_
          refine h_callv (t := (3, 0, rl [(0, 11), (4, 14)])) (as := []) (rest := []) (v := .int (pkx (cs 11) sz (x, s.2).1)) (M1 := hk M T (RS cs (x, s.2))) rfl rfl iv_3_v71 (Or.inl rfl) na_1_50 hT2 ⟨by omega, by omega⟩ (show (3 : Nat) < 14 by decide) o_50 rfl (show (0 : Nat) ≤ 8 by decide) dc_12_10_89 (mm_Ev_up (by decide : 1 ≤ 1) (k_pk hH (x, s.2))) ?_
          refine r_bipush (v := nI 48) (by decide) dc_12_10_92 ?_
          refine r_bipush (v := nI 57) (by decide) dc_12_10_94 ?_
          refine h_callS (as := [.int (pkx (cs 11) sz (x, s.2).1), .int (nI 48), .int (nI 57)]) (rest := []) (v := .int (sp_in (pkx (cs 11) sz (x, s.2).1) (nI 48) (nI 57))) rfl rfl iv_3_s116 (Or.inr rfl) na_3_13 rfl (show (0 : Nat) ≤ 8 by decide) dc_12_10_96 (mm_Ev_up (by decide : 1 ≤ 1) (k_in _ (pkx (cs 11) sz (x, s.2).1) (nI 48) (nI 57))) ?_
          refine r_ifeq (t := 114) (by decide) dc_12_10_99 (fun c_99 => ?_) (fun c_99 => ?_)
          · skip
            refine r_iload rfl dc_12_10_114 ?_
            refine r_iload_n rfl dc_12_10_116 ?_
            refine r_iload_n rfl dc_12_10_117 ?_
            refine h_callS (as := [.int v, .int lo, .int hi]) (rest := []) (v := .int (sp_in v lo hi)) rfl rfl iv_3_s116 (Or.inr rfl) na_3_13 rfl (show (0 : Nat) ≤ 8 by decide) dc_12_10_118 (mm_Ev_up (by decide : 1 ≤ 1) (k_in _ v lo hi)) ?_
            refine r_ifne (t := 130) (by decide) dc_12_10_121 (fun c_121 => ?_) (fun c_121 => ?_)
            · skip
              refine r_iload rfl dc_12_10_130 ?_
              refine r_iret rfl dc_12_10_132 ?_
              unfold rnx
              rw [if_pos c_4, hd9]
              rw [show (if (x, v).1 = s.1 then _ else _ : rS) = _ from if_neg c_85]
              rw [show (if sp_in (pkx (cs 11) sz (x, v).1) (nI 48) (nI 57) = 0 then _ else _ : rS) = _ from if_pos c_99]
              rw [show (if sp_in (x, v).2 lo hi = 0 then _ else _ : rS) = _ from if_neg c_121]
            · skip
              refine r_aload_n rfl dc_12_10_124 ?_
              refine r_iconst (v := nI 2) (by decide) dc_12_10_125 ?_
              refine r_iload_n rfl dc_12_10_126 ?_
              refine h_call0 (t := (3, 0, rl [(0, 11), (4, 14)])) (as := [.int (nI 2), .int s.1]) (rest := []) (M1 := hk M T (RS cs (fal (x, s.2) (nI 2) s.1))) rfl rfl iv_3_v91 (Or.inl rfl) na_1_52 hT2 ⟨by omega, by omega⟩ (show (3 : Nat) < 14 by decide) o_52 rfl (show (0 : Nat) ≤ 8 by decide) dc_12_10_127 (mm_Ev_up (by decide : 1 ≤ 1) (k_flx hH (x, s.2) (nI 2) s.1)) ?_
              refine r_iload rfl dc_12_10_130 ?_
              refine r_iret rfl dc_12_10_132 ?_
              unfold rnx
              rw [if_pos c_4, hd9]
              rw [show (if (x, v).1 = s.1 then _ else _ : rS) = _ from if_neg c_85]
              rw [show (if sp_in (pkx (cs 11) sz (x, v).1) (nI 48) (nI 57) = 0 then _ else _ : rS) = _ from if_pos c_99]
              rw [show (if sp_in (x, v).2 lo hi = 0 then _ else _ : rS) = _ from if_pos c_121]
          · skip
            refine r_aload_n rfl dc_12_10_102 ?_
            refine r_iconst (v := nI 1) (by decide) dc_12_10_103 ?_
            refine r_aload_n rfl dc_12_10_104 ?_
            refine h_get (t := (3, 0, rl [(0, 11), (4, 14)])) (v := .int ((x, s.2).1)) fx_3_28 hT2 ⟨by omega, by omega⟩ (rfl) dc_12_10_105 ?_
            refine h_call0 (t := (3, 0, rl [(0, 11), (4, 14)])) (as := [.int (nI 1), .int ((x, s.2).1)]) (rest := []) (M1 := hk M T (RS cs (fal (x, s.2) (nI 1) ((x, s.2).1)))) rfl rfl iv_3_v91 (Or.inl rfl) na_1_52 hT2 ⟨by omega, by omega⟩ (show (3 : Nat) < 14 by decide) o_52 rfl (show (0 : Nat) ≤ 8 by decide) dc_12_10_108 (mm_Ev_up (by decide : 1 ≤ 1) (k_flx hH (x, s.2) (nI 1) ((x, s.2).1))) ?_
            refine r_goto (t := 130) (by decide) dc_12_10_111 ?_
            refine r_iload rfl dc_12_10_130 ?_
            refine r_iret rfl dc_12_10_132 ?_
            unfold rnx
            rw [if_pos c_4, hd9]
            rw [show (if (x, v).1 = s.1 then _ else _ : rS) = _ from if_neg c_85]
            rw [show (if sp_in (pkx (cs 11) sz (x, v).1) (nI 48) (nI 57) = 0 then _ else _ : rS) = _ from if_neg c_99]
      · skip
        refine r_aload_n rfl dc_12_10_28 ?_
        refine h_get (t := (3, 0, rl [(0, 11), (4, 14)])) (v := .int ((x, s.2).1)) fx_3_28 hT2 ⟨by omega, by omega⟩ (rfl) dc_12_10_29 ?_
        refine r_iload_n rfl dc_12_10_32 ?_
        refine r_isub (v := nI 4) (hi_m.1) dc_12_10_33 ?_
        refine r_iconst (v := nI 4) (by decide) dc_12_10_34 ?_
        refine r_ncge (t := 80) (by omega) (by omega) (by decide) dc_12_10_35 (fun c_35 => ?_) (fun c_35 => ?_)
        · skip
          have hd9 : dlx (cs 11) sz 4 s.1 (nI 0) = (x, v) := hi_m.2.symm.trans (rfl)
          refine r_aload_n rfl dc_12_10_80 ?_
          refine h_get (t := (3, 0, rl [(0, 11), (4, 14)])) (v := .int ((x, s.2).1)) fx_3_28 hT2 ⟨by omega, by omega⟩ (rfl) dc_12_10_81 ?_
          refine r_iload_n rfl dc_12_10_84 ?_
          refine r_iceq (t := 102) (by decide) dc_12_10_85 (fun c_85 => ?_) (fun c_85 => ?_)
          · skip
            refine r_aload_n rfl dc_12_10_102 ?_
            refine r_iconst (v := nI 1) (by decide) dc_12_10_103 ?_
            refine r_aload_n rfl dc_12_10_104 ?_
            refine h_get (t := (3, 0, rl [(0, 11), (4, 14)])) (v := .int ((x, s.2).1)) fx_3_28 hT2 ⟨by omega, by omega⟩ (rfl) dc_12_10_105 ?_
            refine h_call0 (t := (3, 0, rl [(0, 11), (4, 14)])) (as := [.int (nI 1), .int ((x, s.2).1)]) (rest := []) (M1 := hk M T (RS cs (fal (x, s.2) (nI 1) ((x, s.2).1)))) rfl rfl iv_3_v91 (Or.inl rfl) na_1_52 hT2 ⟨by omega, by omega⟩ (show (3 : Nat) < 14 by decide) o_52 rfl (show (0 : Nat) ≤ 8 by decide) dc_12_10_108 (mm_Ev_up (by decide : 1 ≤ 1) (k_flx hH (x, s.2) (nI 1) ((x, s.2).1))) ?_
            refine r_goto (t := 130) (by decide) dc_12_10_111 ?_
            refine r_iload rfl dc_12_10_130 ?_
            refine r_iret rfl dc_12_10_132 ?_
            unfold rnx
            rw [if_pos c_4, hd9]
            rw [show (if (x, v).1 = s.1 then _ else _ : rS) = _ from if_pos c_85]
          · skip
            refine r_aload_n rfl dc_12_10_88 ?_
            refine h_callv (t := (3, 0, rl [(0, 11), (4, 14)])) (as := []) (rest := []) (v := .int (pkx (cs 11) sz (x, s.2).1)) (M1 := hk M T (RS cs (x, s.2))) rfl rfl iv_3_v71 (Or.inl rfl) na_1_50 hT2 ⟨by omega, by omega⟩ (show (3 : Nat) < 14 by decide) o_50 rfl (show (0 : Nat) ≤ 8 by decide) dc_12_10_89 (mm_Ev_up (by decide : 1 ≤ 1) (k_pk hH (x, s.2))) ?_
            refine r_bipush (v := nI 48) (by decide) dc_12_10_92 ?_
            refine r_bipush (v := nI 57) (by decide) dc_12_10_94 ?_
            refine h_callS (as := [.int (pkx (cs 11) sz (x, s.2).1), .int (nI 48), .int (nI 57)]) (rest := []) (v := .int (sp_in (pkx (cs 11) sz (x, s.2).1) (nI 48) (nI 57))) rfl rfl iv_3_s116 (Or.inr rfl) na_3_13 rfl (show (0 : Nat) ≤ 8 by decide) dc_12_10_96 (mm_Ev_up (by decide : 1 ≤ 1) (k_in _ (pkx (cs 11) sz (x, s.2).1) (nI 48) (nI 57))) ?_
            refine r_ifeq (t := 114) (by decide) dc_12_10_99 (fun c_99 => ?_) (fun c_99 => ?_)
            · skip
              refine r_iload rfl dc_12_10_114 ?_
              refine r_iload_n rfl dc_12_10_116 ?_
              refine r_iload_n rfl dc_12_10_117 ?_
              refine h_callS (as := [.int v, .int lo, .int hi]) (rest := []) (v := .int (sp_in v lo hi)) rfl rfl iv_3_s116 (Or.inr rfl) na_3_13 rfl (show (0 : Nat) ≤ 8 by decide) dc_12_10_118 (mm_Ev_up (by decide : 1 ≤ 1) (k_in _ v lo hi)) ?_
              refine r_ifne (t := 130) (by decide) dc_12_10_121 (fun c_121 => ?_) (fun c_121 => ?_)
              · skip
                refine r_iload rfl dc_12_10_130 ?_
                refine r_iret rfl dc_12_10_132 ?_
                unfold rnx
                rw [if_pos c_4, hd9]
                rw [show (if (x, v).1 = s.1 then _ else _ : rS) = _ from if_neg c_85]
                rw [show (if sp_in (pkx (cs 11) sz (x, v).1) (nI 48) (nI 57) = 0 then _ else _ : rS) = _ from if_pos c_99]
                rw [show (if sp_in (x, v).2 lo hi = 0 then _ else _ : rS) = _ from if_neg c_121]
              · skip
                refine r_aload_n rfl dc_12_10_124 ?_
                refine r_iconst (v := nI 2) (by decide) dc_12_10_125 ?_
                refine r_iload_n rfl dc_12_10_126 ?_
                refine h_call0 (t := (3, 0, rl [(0, 11), (4, 14)])) (as := [.int (nI 2), .int s.1]) (rest := []) (M1 := hk M T (RS cs (fal (x, s.2) (nI 2) s.1))) rfl rfl iv_3_v91 (Or.inl rfl) na_1_52 hT2 ⟨by omega, by omega⟩ (show (3 : Nat) < 14 by decide) o_52 rfl (show (0 : Nat) ≤ 8 by decide) dc_12_10_127 (mm_Ev_up (by decide : 1 ≤ 1) (k_flx hH (x, s.2) (nI 2) s.1)) ?_
                refine r_iload rfl dc_12_10_130 ?_
                refine r_iret rfl dc_12_10_132 ?_
                unfold rnx
                rw [if_pos c_4, hd9]
                rw [show (if (x, v).1 = s.1 then _ else _ : rS) = _ from if_neg c_85]
                rw [show (if sp_in (pkx (cs 11) sz (x, v).1) (nI 48) (nI 57) = 0 then _ else _ : rS) = _ from if_pos c_99]
                rw [show (if sp_in (x, v).2 lo hi = 0 then _ else _ : rS) = _ from if_pos c_121]
            · skip
              refine r_aload_n rfl dc_12_10_102 ?_
              refine r_iconst (v := nI 1) (by decide) dc_12_10_103 ?_
              refine r_aload_n rfl dc_12_10_104 ?_
              refine h_get (t := (3, 0, rl [(0, 11), (4, 14)])) (v := .int ((x, s.2).1)) fx_3_28 hT2 ⟨by omega, by omega⟩ (rfl) dc_12_10_105 ?_
              refine h_call0 (t := (3, 0, rl [(0, 11), (4, 14)])) (as := [.int (nI 1), .int ((x, s.2).1)]) (rest := []) (M1 := hk M T (RS cs (fal (x, s.2) (nI 1) ((x, s.2).1)))) rfl rfl iv_3_v91 (Or.inl rfl) na_1_52 hT2 ⟨by omega, by omega⟩ (show (3 : Nat) < 14 by decide) o_52 rfl (show (0 : Nat) ≤ 8 by decide) dc_12_10_108 (mm_Ev_up (by decide : 1 ≤ 1) (k_flx hH (x, s.2) (nI 1) ((x, s.2).1))) ?_
              refine r_goto (t := 130) (by decide) dc_12_10_111 ?_
              refine r_iload rfl dc_12_10_130 ?_
              refine r_iret rfl dc_12_10_132 ?_
              unfold rnx
              rw [if_pos c_4, hd9]
              rw [show (if (x, v).1 = s.1 then _ else _ : rS) = _ from if_neg c_85]
              rw [show (if sp_in (pkx (cs 11) sz (x, v).1) (nI 48) (nI 57) = 0 then _ else _ : rS) = _ from if_neg c_99]
        · omega
    · intro m h_m ih_m v x hi_m
      show mm_Ru 1 (3, 5, false, prog_12_method_10_code, some .int) 17 [(4, .int v), (3, .int s.1), (0, .ref 12), (1, .int lo), (2, .int hi)] [] (hk M T (RS cs (x, s.2))) (fun r9 => r9 = ((some (.int (rnx (cs 11) sz lo hi s).1), hk M T (RS cs (rnx (cs 11) sz lo hi s).2))))
      refine r_aload_n rfl dc_12_10_17 ?_
      refine h_get (t := (3, 0, rl [(0, 11), (4, 14)])) (v := .int ((x, s.2).1)) fx_3_28 hT2 ⟨by omega, by omega⟩ (rfl) dc_12_10_18 ?_
      refine r_aload_n rfl dc_12_10_21 ?_
      refine h_get (t := (3, 0, rl [(0, 11), (4, 14)])) (v := .int (nI sz)) fx_3_24 hT2 ⟨by omega, by omega⟩ (show some (Value.int _) = _ from congrArg (fun z => some (Value.int z)) (he)) dc_12_10_22 ?_
      refine r_icge (t := 80) (by decide) dc_12_10_25 (fun c_25 => ?_) (fun c_25 => ?_)
      · skip
        have hd9 : dlx (cs 11) sz 4 s.1 (nI 0) = (x, v) := hi_m.2.symm.trans (dlx_e c_25 _ _)
        refine r_aload_n rfl dc_12_10_80 ?_
        refine h_get (t := (3, 0, rl [(0, 11), (4, 14)])) (v := .int ((x, s.2).1)) fx_3_28 hT2 ⟨by omega, by omega⟩ (rfl) dc_12_10_81 ?_
        refine r_iload_n rfl dc_12_10_84 ?_
        refine r_iceq (t := 102) (by decide) dc_12_10_85 (fun c_85 => ?_) (fun c_85 => ?_)
        · skip
          refine r_aload_n rfl dc_12_10_102 ?_
          refine r_iconst (v := nI 1) (by decide) dc_12_10_103 ?_
          refine r_aload_n rfl dc_12_10_104 ?_
          refine h_get (t := (3, 0, rl [(0, 11), (4, 14)])) (v := .int ((x, s.2).1)) fx_3_28 hT2 ⟨by omega, by omega⟩ (rfl) dc_12_10_105 ?_
          refine h_call0 (t := (3, 0, rl [(0, 11), (4, 14)])) (as := [.int (nI 1), .int ((x, s.2).1)]) (rest := []) (M1 := hk M T (RS cs (fal (x, s.2) (nI 1) ((x, s.2).1)))) rfl rfl iv_3_v91 (Or.inl rfl) na_1_52 hT2 ⟨by omega, by omega⟩ (show (3 : Nat) < 14 by decide) o_52 rfl (show (0 : Nat) ≤ 8 by decide) dc_12_10_108 (mm_Ev_up (by decide : 1 ≤ 1) (k_flx hH (x, s.2) (nI 1) ((x, s.2).1))) ?_
          refine r_goto (t := 130) (by decide) dc_12_10_111 ?_
          refine r_iload rfl dc_12_10_130 ?_
          refine r_iret rfl dc_12_10_132 ?_
          unfold rnx
          rw [if_pos c_4, hd9]
          rw [show (if (x, v).1 = s.1 then _ else _ : rS) = _ from if_pos c_85]
        · skip
          refine r_aload_n rfl dc_12_10_88 ?_
          refine h_callv (t := (3, 0, rl [(0, 11), (4, 14)])) (as := []) (rest := []) (v := .int (pkx (cs 11) sz (x, s.2).1)) (M1 := hk M T (RS cs (x, s.2))) rfl rfl iv_3_v71 (Or.inl rfl) na_1_50 hT2 ⟨by omega, by omega⟩ (show (3 : Nat) < 14 by decide) o_50 rfl (show (0 : Nat) ≤ 8 by decide) dc_12_10_89 (mm_Ev_up (by decide : 1 ≤ 1) (k_pk hH (x, s.2))) ?_
          refine r_bipush (v := nI 48) (by decide) dc_12_10_92 ?_
          refine r_bipush (v := nI 57) (by decide) dc_12_10_94 ?_
          refine h_callS (as := [.int (pkx (cs 11) sz (x, s.2).1), .int (nI 48), .int (nI 57)]) (rest := []) (v := .int (sp_in (pkx (cs 11) sz (x, s.2).1) (nI 48) (nI 57))) rfl rfl iv_3_s116 (Or.inr rfl) na_3_13 rfl (show (0 : Nat) ≤ 8 by decide) dc_12_10_96 (mm_Ev_up (by decide : 1 ≤ 1) (k_in _ (pkx (cs 11) sz (x, s.2).1) (nI 48) (nI 57))) ?_
          refine r_ifeq (t := 114) (by decide) dc_12_10_99 (fun c_99 => ?_) (fun c_99 => ?_)
          · skip
            refine r_iload rfl dc_12_10_114 ?_
            refine r_iload_n rfl dc_12_10_116 ?_
            refine r_iload_n rfl dc_12_10_117 ?_
            refine h_callS (as := [.int v, .int lo, .int hi]) (rest := []) (v := .int (sp_in v lo hi)) rfl rfl iv_3_s116 (Or.inr rfl) na_3_13 rfl (show (0 : Nat) ≤ 8 by decide) dc_12_10_118 (mm_Ev_up (by decide : 1 ≤ 1) (k_in _ v lo hi)) ?_
            refine r_ifne (t := 130) (by decide) dc_12_10_121 (fun c_121 => ?_) (fun c_121 => ?_)
            · skip
              refine r_iload rfl dc_12_10_130 ?_
              refine r_iret rfl dc_12_10_132 ?_
              unfold rnx
              rw [if_pos c_4, hd9]
              rw [show (if (x, v).1 = s.1 then _ else _ : rS) = _ from if_neg c_85]
              rw [show (if sp_in (pkx (cs 11) sz (x, v).1) (nI 48) (nI 57) = 0 then _ else _ : rS) = _ from if_pos c_99]
              rw [show (if sp_in (x, v).2 lo hi = 0 then _ else _ : rS) = _ from if_neg c_121]
            · skip
              refine r_aload_n rfl dc_12_10_124 ?_
              refine r_iconst (v := nI 2) (by decide) dc_12_10_125 ?_
              refine r_iload_n rfl dc_12_10_126 ?_
              refine h_call0 (t := (3, 0, rl [(0, 11), (4, 14)])) (as := [.int (nI 2), .int s.1]) (rest := []) (M1 := hk M T (RS cs (fal (x, s.2) (nI 2) s.1))) rfl rfl iv_3_v91 (Or.inl rfl) na_1_52 hT2 ⟨by omega, by omega⟩ (show (3 : Nat) < 14 by decide) o_52 rfl (show (0 : Nat) ≤ 8 by decide) dc_12_10_127 (mm_Ev_up (by decide : 1 ≤ 1) (k_flx hH (x, s.2) (nI 2) s.1)) ?_
              refine r_iload rfl dc_12_10_130 ?_
              refine r_iret rfl dc_12_10_132 ?_
              unfold rnx
              rw [if_pos c_4, hd9]
              rw [show (if (x, v).1 = s.1 then _ else _ : rS) = _ from if_neg c_85]
              rw [show (if sp_in (pkx (cs 11) sz (x, v).1) (nI 48) (nI 57) = 0 then _ else _ : rS) = _ from if_pos c_99]
              rw [show (if sp_in (x, v).2 lo hi = 0 then _ else _ : rS) = _ from if_pos c_121]
          · skip
            refine r_aload_n rfl dc_12_10_102 ?_
            refine r_iconst (v := nI 1) (by decide) dc_12_10_103 ?_
            refine r_aload_n rfl dc_12_10_104 ?_
            refine h_get (t := (3, 0, rl [(0, 11), (4, 14)])) (v := .int ((x, s.2).1)) fx_3_28 hT2 ⟨by omega, by omega⟩ (rfl) dc_12_10_105 ?_
            refine h_call0 (t := (3, 0, rl [(0, 11), (4, 14)])) (as := [.int (nI 1), .int ((x, s.2).1)]) (rest := []) (M1 := hk M T (RS cs (fal (x, s.2) (nI 1) ((x, s.2).1)))) rfl rfl iv_3_v91 (Or.inl rfl) na_1_52 hT2 ⟨by omega, by omega⟩ (show (3 : Nat) < 14 by decide) o_52 rfl (show (0 : Nat) ≤ 8 by decide) dc_12_10_108 (mm_Ev_up (by decide : 1 ≤ 1) (k_flx hH (x, s.2) (nI 1) ((x, s.2).1))) ?_
            refine r_goto (t := 130) (by decide) dc_12_10_111 ?_
            refine r_iload rfl dc_12_10_130 ?_
            refine r_iret rfl dc_12_10_132 ?_
            unfold rnx
            rw [if_pos c_4, hd9]
            rw [show (if (x, v).1 = s.1 then _ else _ : rS) = _ from if_neg c_85]
            rw [show (if sp_in (pkx (cs 11) sz (x, v).1) (nI 48) (nI 57) = 0 then _ else _ : rS) = _ from if_neg c_99]
      · skip
        refine r_aload_n rfl dc_12_10_28 ?_
        refine h_get (t := (3, 0, rl [(0, 11), (4, 14)])) (v := .int ((x, s.2).1)) fx_3_28 hT2 ⟨by omega, by omega⟩ (rfl) dc_12_10_29 ?_
        refine r_iload_n rfl dc_12_10_32 ?_
        refine r_isub (v := nI m) (hi_m.1) dc_12_10_33 ?_
        refine r_iconst (v := nI 4) (by decide) dc_12_10_34 ?_
        refine r_ncge (t := 80) (by omega) (by omega) (by decide) dc_12_10_35 (fun c_35 => ?_) (fun c_35 => ?_)
        · omega
        · skip
          refine r_aload_n rfl dc_12_10_38 ?_
          refine h_callv (t := (3, 0, rl [(0, 11), (4, 14)])) (as := []) (rest := []) (v := .int (pkx (cs 11) sz (x, s.2).1)) (M1 := hk M T (RS cs (x, s.2))) rfl rfl iv_3_v71 (Or.inl rfl) na_1_50 hT2 ⟨by omega, by omega⟩ (show (3 : Nat) < 14 by decide) o_50 rfl (show (0 : Nat) ≤ 8 by decide) dc_12_10_39 (mm_Ev_up (by decide : 1 ≤ 1) (k_pk hH (x, s.2))) ?_
          refine r_bipush (v := nI 48) (by decide) dc_12_10_42 ?_
          refine r_bipush (v := nI 57) (by decide) dc_12_10_44 ?_
          refine h_callS (as := [.int (pkx (cs 11) sz (x, s.2).1), .int (nI 48), .int (nI 57)]) (rest := []) (v := .int (sp_in (pkx (cs 11) sz (x, s.2).1) (nI 48) (nI 57))) rfl rfl iv_3_s116 (Or.inr rfl) na_3_13 rfl (show (0 : Nat) ≤ 8 by decide) dc_12_10_46 (mm_Ev_up (by decide : 1 ≤ 1) (k_in _ (pkx (cs 11) sz (x, s.2).1) (nI 48) (nI 57))) ?_
          refine r_ifeq (t := 80) (by decide) dc_12_10_49 (fun c_49 => ?_) (fun c_49 => ?_)
          · skip
            have hd9 : dlx (cs 11) sz 4 s.1 (nI 0) = (x, v) := hi_m.2.symm.trans (dlx_d c_49 _ _)
            refine r_aload_n rfl dc_12_10_80 ?_
            refine h_get (t := (3, 0, rl [(0, 11), (4, 14)])) (v := .int ((x, s.2).1)) fx_3_28 hT2 ⟨by omega, by omega⟩ (rfl) dc_12_10_81 ?_
            refine r_iload_n rfl dc_12_10_84 ?_
            refine r_iceq (t := 102) (by decide) dc_12_10_85 (fun c_85 => ?_) (fun c_85 => ?_)
            · skip
              refine r_aload_n rfl dc_12_10_102 ?_
              refine r_iconst (v := nI 1) (by decide) dc_12_10_103 ?_
              refine r_aload_n rfl dc_12_10_104 ?_
              refine h_get (t := (3, 0, rl [(0, 11), (4, 14)])) (v := .int ((x, s.2).1)) fx_3_28 hT2 ⟨by omega, by omega⟩ (rfl) dc_12_10_105 ?_
              refine h_call0 (t := (3, 0, rl [(0, 11), (4, 14)])) (as := [.int (nI 1), .int ((x, s.2).1)]) (rest := []) (M1 := hk M T (RS cs (fal (x, s.2) (nI 1) ((x, s.2).1)))) rfl rfl iv_3_v91 (Or.inl rfl) na_1_52 hT2 ⟨by omega, by omega⟩ (show (3 : Nat) < 14 by decide) o_52 rfl (show (0 : Nat) ≤ 8 by decide) dc_12_10_108 (mm_Ev_up (by decide : 1 ≤ 1) (k_flx hH (x, s.2) (nI 1) ((x, s.2).1))) ?_
              refine r_goto (t := 130) (by decide) dc_12_10_111 ?_
              refine r_iload rfl dc_12_10_130 ?_
              refine r_iret rfl dc_12_10_132 ?_
              unfold rnx
              rw [if_pos c_4, hd9]
              rw [show (if (x, v).1 = s.1 then _ else _ : rS) = _ from if_pos c_85]
            · skip
              refine r_aload_n rfl dc_12_10_88 ?_
              refine h_callv (t := (3, 0, rl [(0, 11), (4, 14)])) (as := []) (rest := []) (v := .int (pkx (cs 11) sz (x, s.2).1)) (M1 := hk M T (RS cs (x, s.2))) rfl rfl iv_3_v71 (Or.inl rfl) na_1_50 hT2 ⟨by omega, by omega⟩ (show (3 : Nat) < 14 by decide) o_50 rfl (show (0 : Nat) ≤ 8 by decide) dc_12_10_89 (mm_Ev_up (by decide : 1 ≤ 1) (k_pk hH (x, s.2))) ?_
              refine r_bipush (v := nI 48) (by decide) dc_12_10_92 ?_
              refine r_bipush (v := nI 57) (by decide) dc_12_10_94 ?_
              refine h_callS (as := [.int (pkx (cs 11) sz (x, s.2).1), .int (nI 48), .int (nI 57)]) (rest := []) (v := .int (sp_in (pkx (cs 11) sz (x, s.2).1) (nI 48) (nI 57))) rfl rfl iv_3_s116 (Or.inr rfl) na_3_13 rfl (show (0 : Nat) ≤ 8 by decide) dc_12_10_96 (mm_Ev_up (by decide : 1 ≤ 1) (k_in _ (pkx (cs 11) sz (x, s.2).1) (nI 48) (nI 57))) ?_
              refine r_ifeq (t := 114) (by decide) dc_12_10_99 (fun c_99 => ?_) (fun c_99 => ?_)
              · skip
                refine r_iload rfl dc_12_10_114 ?_
                refine r_iload_n rfl dc_12_10_116 ?_
                refine r_iload_n rfl dc_12_10_117 ?_
                refine h_callS (as := [.int v, .int lo, .int hi]) (rest := []) (v := .int (sp_in v lo hi)) rfl rfl iv_3_s116 (Or.inr rfl) na_3_13 rfl (show (0 : Nat) ≤ 8 by decide) dc_12_10_118 (mm_Ev_up (by decide : 1 ≤ 1) (k_in _ v lo hi)) ?_
                refine r_ifne (t := 130) (by decide) dc_12_10_121 (fun c_121 => ?_) (fun c_121 => ?_)
                · skip
                  refine r_iload rfl dc_12_10_130 ?_
                  refine r_iret rfl dc_12_10_132 ?_
                  unfold rnx
                  rw [if_pos c_4, hd9]
                  rw [show (if (x, v).1 = s.1 then _ else _ : rS) = _ from if_neg c_85]
                  rw [show (if sp_in (pkx (cs 11) sz (x, v).1) (nI 48) (nI 57) = 0 then _ else _ : rS) = _ from if_pos c_99]
                  rw [show (if sp_in (x, v).2 lo hi = 0 then _ else _ : rS) = _ from if_neg c_121]
                · skip
                  refine r_aload_n rfl dc_12_10_124 ?_
                  refine r_iconst (v := nI 2) (by decide) dc_12_10_125 ?_
                  refine r_iload_n rfl dc_12_10_126 ?_
                  refine h_call0 (t := (3, 0, rl [(0, 11), (4, 14)])) (as := [.int (nI 2), .int s.1]) (rest := []) (M1 := hk M T (RS cs (fal (x, s.2) (nI 2) s.1))) rfl rfl iv_3_v91 (Or.inl rfl) na_1_52 hT2 ⟨by omega, by omega⟩ (show (3 : Nat) < 14 by decide) o_52 rfl (show (0 : Nat) ≤ 8 by decide) dc_12_10_127 (mm_Ev_up (by decide : 1 ≤ 1) (k_flx hH (x, s.2) (nI 2) s.1)) ?_
                  refine r_iload rfl dc_12_10_130 ?_
                  refine r_iret rfl dc_12_10_132 ?_
                  unfold rnx
                  rw [if_pos c_4, hd9]
                  rw [show (if (x, v).1 = s.1 then _ else _ : rS) = _ from if_neg c_85]
                  rw [show (if sp_in (pkx (cs 11) sz (x, v).1) (nI 48) (nI 57) = 0 then _ else _ : rS) = _ from if_pos c_99]
                  rw [show (if sp_in (x, v).2 lo hi = 0 then _ else _ : rS) = _ from if_pos c_121]
              · skip
                refine r_aload_n rfl dc_12_10_102 ?_
                refine r_iconst (v := nI 1) (by decide) dc_12_10_103 ?_
                refine r_aload_n rfl dc_12_10_104 ?_
                refine h_get (t := (3, 0, rl [(0, 11), (4, 14)])) (v := .int ((x, s.2).1)) fx_3_28 hT2 ⟨by omega, by omega⟩ (rfl) dc_12_10_105 ?_
                refine h_call0 (t := (3, 0, rl [(0, 11), (4, 14)])) (as := [.int (nI 1), .int ((x, s.2).1)]) (rest := []) (M1 := hk M T (RS cs (fal (x, s.2) (nI 1) ((x, s.2).1)))) rfl rfl iv_3_v91 (Or.inl rfl) na_1_52 hT2 ⟨by omega, by omega⟩ (show (3 : Nat) < 14 by decide) o_52 rfl (show (0 : Nat) ≤ 8 by decide) dc_12_10_108 (mm_Ev_up (by decide : 1 ≤ 1) (k_flx hH (x, s.2) (nI 1) ((x, s.2).1))) ?_
                refine r_goto (t := 130) (by decide) dc_12_10_111 ?_
                refine r_iload rfl dc_12_10_130 ?_
                refine r_iret rfl dc_12_10_132 ?_
                unfold rnx
                rw [if_pos c_4, hd9]
                rw [show (if (x, v).1 = s.1 then _ else _ : rS) = _ from if_neg c_85]
                rw [show (if sp_in (pkx (cs 11) sz (x, v).1) (nI 48) (nI 57) = 0 then _ else _ : rS) = _ from if_neg c_99]
          · skip
            refine r_bipush (v := nI 10) (by decide) dc_12_10_52 ?_
            refine r_iload rfl dc_12_10_54 ?_
            refine r_imul (v := (nI 10) * v) (rfl) dc_12_10_56 ?_
            refine r_aload_n rfl dc_12_10_57 ?_
            refine h_callv (t := (3, 0, rl [(0, 11), (4, 14)])) (as := []) (rest := [.int ((nI 10) * v)]) (v := .int (pkx (cs 11) sz (x, s.2).1)) (M1 := hk M T (RS cs (x, s.2))) rfl rfl iv_3_v71 (Or.inl rfl) na_1_50 hT2 ⟨by omega, by omega⟩ (show (3 : Nat) < 14 by decide) o_50 rfl (show (1 : Nat) ≤ 8 by decide) dc_12_10_58 (mm_Ev_up (by decide : 1 ≤ 1) (k_pk hH (x, s.2))) ?_
            refine r_iadd (v := ((nI 10) * v) + (pkx (cs 11) sz (x, s.2).1)) (rfl) dc_12_10_61 ?_
            refine r_bipush (v := nI 48) (by decide) dc_12_10_62 ?_
            refine r_isub (v := (((nI 10) * v) + (pkx (cs 11) sz (x, s.2).1)) - (nI 48)) (rfl) dc_12_10_64 ?_
            refine r_istore (ls' := [(4, .int ((((nI 10) * v) + (pkx (cs 11) sz (x, s.2).1)) - (nI 48))), (3, .int s.1), (0, .ref 12), (1, .int lo), (2, .int hi)]) (by decide) rfl dc_12_10_65 ?_
            refine r_aload_n rfl dc_12_10_67 ?_
            refine r_dup rfl dc_12_10_68 ?_
            refine h_get (t := (3, 0, rl [(0, 11), (4, 14)])) (v := .int ((x, s.2).1)) fx_3_28 hT2 ⟨by omega, by omega⟩ (rfl) dc_12_10_69 ?_
            refine r_iconst (v := nI 1) (by decide) dc_12_10_72 ?_
            refine r_iadd (v := ((x, s.2).1) + (nI 1)) (rfl) dc_12_10_73 ?_
            refine h_pint (t := (3, 0, rl [(0, 11), (4, 14)])) fx_3_28 hT2 ⟨by omega, by omega⟩ (Or.inl fn_3_2) ty_3_2 (pi_3_2 _ _ _ _) dc_12_10_74 ?_
            rw [RS_2]
            show mm_Ru 1 (3, 5, false, prog_12_method_10_code, some .int) 77 [(4, .int ((((nI 10) * v) + (pkx (cs 11) sz (x, s.2).1)) - (nI 48))), (3, .int s.1), (0, .ref 12), (1, .int lo), (2, .int hi)] [] (hk M T (RS cs (adv (x, s.2)))) (fun r9 => r9 = ((some (.int (rnx (cs 11) sz lo hi s).1), hk M T (RS cs (rnx (cs 11) sz lo hi s).2))))
            refine r_goto (t := 17) (by decide) dc_12_10_77 ?_
            exact ih_m ((((nI 10) * v) + (pkx (cs 11) sz (x, s.2).1)) - (nI 48)) (x + nI 1) (⟨i_sb x s.1 m hi_m.1, (dlx_s c_25 c_49 h_m v).symm.trans hi_m.2⟩)
  · skip
    refine r_iconst (v := nI 0) (by decide) dc_12_10_7 ?_
    refine r_iret rfl dc_12_10_8 ?_
    rw [show rnx (cs 11) sz lo hi s = (nI 0, s) from if_neg c_4]
theorem hk_hi (M : mH) (T : Nat → mT) (cs : Nat → Nat → Int32) {a : Nat} (h : M.1 ≤ a) : (hk M T cs).2.2 a = M.2.2 a := if_neg (fun z => absurd z.1 (by omega))
theorem fd_m {F : Nat → Int32} {n : Nat} {g : Int32} (h : g = -1) : -1 = fdx F n g := (if_pos h).symm
theorem pk_by {M : mH} {T : Nat → mT} {cs : Nat → Nat → Int32} {sz : Nat} (hH : RdH M T cs sz) {x : Int32} (h : ¬ pkx (cs 11) sz x = -1) : ∃ v, v < 256 ∧ pkx (cs 11) sz x = nI v := by
  obtain ⟨hM, hM9, hs, hT2, hT1, hT4, he, hsz, hby⟩ := id hH
  by_cases h1 : x < 0
  · exact absurd (if_pos h1) h
  · obtain ⟨p, h2, h3⟩ := nn_n h1
    subst h2
    rw [pkx_n (by omega) h3] at h ⊢
    by_cases h4 : p < sz
    · rw [if_pos h4] at h ⊢
      exact hby p (by omega)
    · exact absurd (if_neg h4) h
theorem i_2c : ∀ v, v < 256 → ((nI v).toUInt32 % 65536).toInt32 = nI v := by decide +kernel
theorem i_nm {v : Nat} (h : v < 256) : ¬ nI v = -1 := nI_nm1 (by omega)
set_option maxHeartbeats 4000000 in
theorem k_eox {M : mH} {T : Nat → mT} {cs : Nat → Nat → Int32} {sz : Nat} (hH : RdH M T cs sz) (s : rS) {a b n : Nat} {F : Nat → Int32} (ha : 1000002 ≤ a ∧ a ≤ 1000004) (hb : 1000005 ≤ b ∧ b ≤ 1000007) (hS : M.2.2 a = .inr (22, [.ref b, .int 0])) (hB : M.2.2 b = .inl (1, n, .inl F)) (hn : n ≤ 4) (hn0 : 0 < n) : mm_Ev 5 58 [.ref 12, .ref a] (hk M T (RS cs s)) ((some (.int (fdx F n (pkx (cs 11) sz s.1))), hk M T (RS cs (eox F n (cs 11) sz s)))) := by
  obtain ⟨hM, hM9, hs, hT2, hT1, hT4, he, hsz, hby⟩ := id hH
  refine r_ev (by decide +kernel) (show (2 : Nat) ≤ mm_nL 58 by decide +kernel) ?_
  show mm_Ru 4 (3, 4, false, prog_12_method_13_code, some .int) 0 [(0, .ref 12), (1, .ref a)] [] (hk M T (RS cs s)) (fun r9 => r9 = ((some (.int (fdx F n (pkx (cs 11) sz s.1))), hk M T (RS cs (eox F n (cs 11) sz s)))))
  refine r_aload_n rfl dc_12_13_0 ?_
  refine h_callv (t := (3, 0, rl [(0, 11), (4, 14)])) (as := []) (rest := []) (v := .int (pkx (cs 11) sz s.1)) (M1 := hk M T (RS cs s)) rfl rfl iv_3_v71 (Or.inl rfl) na_1_50 hT2 ⟨by omega, by omega⟩ (show (3 : Nat) < 14 by decide) o_50 rfl (show (0 : Nat) ≤ 8 by decide) dc_12_13_1 (mm_Ev_up (by decide : 1 ≤ 4) (k_pk hH s)) ?_
  refine r_istore_n (ls' := [(2, .int (pkx (cs 11) sz s.1)), (0, .ref 12), (1, .ref a)]) (by decide) rfl dc_12_13_4 ?_
  refine r_iload_n rfl dc_12_13_5 ?_
  refine r_iconst (v := -1) (by decide) dc_12_13_6 ?_
  refine r_icne (t := 14) (by decide) dc_12_13_7 (fun c_7 => ?_) (fun c_7 => ?_)
  · skip
    obtain ⟨v9, hv9, hv8⟩ := pk_by hH c_7
    refine r_aload_n rfl dc_12_13_14 ?_
    refine r_iload_n rfl dc_12_13_15 ?_
    refine r_i2c (v := nI v9) (by rw [hv8]; exact i_2c v9 hv9) dc_12_13_16 ?_
    refine x_call (as := [.int (nI v9)]) (rest := []) (v := .int (fdx F n (pkx (cs 11) sz s.1))) (M1 := hk M T (RS cs s)) iv_3_v120 na_1_59 o_59 ⟨by omega, by omega⟩ ((hk_hi M T _ (by omega)).trans hS) rfl (show (0 : Nat) ≤ 8 by decide) dc_12_13_17 (mm_Ev_up (by decide : 4 ≤ 4) (by have h9 := x_ix1 (hk M T (RS cs s)) a b n F ha hb ((hk_hi M T _ (by omega)).trans hS) ((hk_hi M T _ (by omega)).trans hB) hn hn0 v9 hv9; rw [show sp_at F ((nI v9).toInt8.toInt32) n = fdx F n (pkx (cs 11) sz s.1) by rw [hv8]; exact (if_neg (i_nm hv9)).symm] at h9; exact h9)) ?_
    refine r_istore_n (ls' := [(3, .int (fdx F n (pkx (cs 11) sz s.1))), (2, .int (pkx (cs 11) sz s.1)), (0, .ref 12), (1, .ref a)]) (by decide) rfl dc_12_13_20 ?_
    refine r_aload_n rfl dc_12_13_21 ?_
    refine h_get (t := (3, 0, rl [(0, 11), (4, 14)])) (v := .int s.2.1) fx_3_31 hT2 ⟨by omega, by omega⟩ (rfl) dc_12_13_22 ?_
    refine r_ifne (t := 41) (by decide) dc_12_13_25 (fun c_25 => ?_) (fun c_25 => ?_)
    · skip
      refine r_aload_n rfl dc_12_13_41 ?_
      refine r_dup rfl dc_12_13_42 ?_
      refine h_get (t := (3, 0, rl [(0, 11), (4, 14)])) (v := .int s.1) fx_3_28 hT2 ⟨by omega, by omega⟩ (rfl) dc_12_13_43 ?_
      refine r_iconst (v := nI 1) (by decide) dc_12_13_46 ?_
      refine r_iadd (v := s.1 + (nI 1)) (rfl) dc_12_13_47 ?_
      refine h_pint (t := (3, 0, rl [(0, 11), (4, 14)])) fx_3_28 hT2 ⟨by omega, by omega⟩ (Or.inl fn_3_2) ty_3_2 (pi_3_2 _ _ _ _) dc_12_13_48 ?_
      rw [RS_2]
      show mm_Ru 4 (3, 4, false, prog_12_method_13_code, some .int) 51 [(3, .int (fdx F n (pkx (cs 11) sz s.1))), (2, .int (pkx (cs 11) sz s.1)), (0, .ref 12), (1, .ref a)] [] (hk M T (RS cs (adv s))) (fun r9 => r9 = ((some (.int (fdx F n (pkx (cs 11) sz s.1))), hk M T (RS cs (eox F n (cs 11) sz s)))))
      refine r_iload_n rfl dc_12_13_51 ?_
      refine r_iret rfl dc_12_13_52 ?_
      unfold eox
      rw [if_neg c_25]
    · skip
      refine r_iload_n rfl dc_12_13_28 ?_
      refine r_ifge (t := 41) (by decide) dc_12_13_29 (fun c_29 => ?_) (fun c_29 => ?_)
      · skip
        refine r_aload_n rfl dc_12_13_41 ?_
        refine r_dup rfl dc_12_13_42 ?_
        refine h_get (t := (3, 0, rl [(0, 11), (4, 14)])) (v := .int s.1) fx_3_28 hT2 ⟨by omega, by omega⟩ (rfl) dc_12_13_43 ?_
        refine r_iconst (v := nI 1) (by decide) dc_12_13_46 ?_
        refine r_iadd (v := s.1 + (nI 1)) (rfl) dc_12_13_47 ?_
        refine h_pint (t := (3, 0, rl [(0, 11), (4, 14)])) fx_3_28 hT2 ⟨by omega, by omega⟩ (Or.inl fn_3_2) ty_3_2 (pi_3_2 _ _ _ _) dc_12_13_48 ?_
        rw [RS_2]
        show mm_Ru 4 (3, 4, false, prog_12_method_13_code, some .int) 51 [(3, .int (fdx F n (pkx (cs 11) sz s.1))), (2, .int (pkx (cs 11) sz s.1)), (0, .ref 12), (1, .ref a)] [] (hk M T (RS cs (adv s))) (fun r9 => r9 = ((some (.int (fdx F n (pkx (cs 11) sz s.1))), hk M T (RS cs (eox F n (cs 11) sz s)))))
        refine r_iload_n rfl dc_12_13_51 ?_
        refine r_iret rfl dc_12_13_52 ?_
        unfold eox
        rw [if_pos c_25, if_pos c_29]
      · skip
        refine r_aload_n rfl dc_12_13_32 ?_
        refine r_iconst (v := nI 1) (by decide) dc_12_13_33 ?_
        refine r_aload_n rfl dc_12_13_34 ?_
        refine h_get (t := (3, 0, rl [(0, 11), (4, 14)])) (v := .int s.1) fx_3_28 hT2 ⟨by omega, by omega⟩ (rfl) dc_12_13_35 ?_
        refine h_call0 (t := (3, 0, rl [(0, 11), (4, 14)])) (as := [.int (nI 1), .int s.1]) (rest := []) (M1 := hk M T (RS cs (fal s (nI 1) s.1))) rfl rfl iv_3_v91 (Or.inl rfl) na_1_52 hT2 ⟨by omega, by omega⟩ (show (3 : Nat) < 14 by decide) o_52 rfl (show (0 : Nat) ≤ 8 by decide) dc_12_13_38 (mm_Ev_up (by decide : 1 ≤ 4) (k_flx hH s (nI 1) s.1)) ?_
        refine r_aload_n rfl dc_12_13_41 ?_
        refine r_dup rfl dc_12_13_42 ?_
        refine h_get (t := (3, 0, rl [(0, 11), (4, 14)])) (v := .int ((fal s (nI 1) s.1).1)) fx_3_28 hT2 ⟨by omega, by omega⟩ (rfl) dc_12_13_43 ?_
        refine r_iconst (v := nI 1) (by decide) dc_12_13_46 ?_
        refine r_iadd (v := ((fal s (nI 1) s.1).1) + (nI 1)) (rfl) dc_12_13_47 ?_
        refine h_pint (t := (3, 0, rl [(0, 11), (4, 14)])) fx_3_28 hT2 ⟨by omega, by omega⟩ (Or.inl fn_3_2) ty_3_2 (pi_3_2 _ _ _ _) dc_12_13_48 ?_
        rw [RS_2]
        show mm_Ru 4 (3, 4, false, prog_12_method_13_code, some .int) 51 [(3, .int (fdx F n (pkx (cs 11) sz s.1))), (2, .int (pkx (cs 11) sz s.1)), (0, .ref 12), (1, .ref a)] [] (hk M T (RS cs (adv (fal s (nI 1) s.1)))) (fun r9 => r9 = ((some (.int (fdx F n (pkx (cs 11) sz s.1))), hk M T (RS cs (eox F n (cs 11) sz s)))))
        refine r_iload_n rfl dc_12_13_51 ?_
        refine r_iret rfl dc_12_13_52 ?_
        unfold eox
        rw [if_pos c_25, if_neg c_29]
  · skip
    refine r_iconst (v := fdx F n (pkx (cs 11) sz s.1)) ((by decide : Int32.ofInt (-1) = -1).trans (fd_m c_7)) dc_12_13_10 ?_
    refine r_goto (t := 20) (by decide) dc_12_13_11 ?_
    refine r_istore_n (ls' := [(3, .int (fdx F n (pkx (cs 11) sz s.1))), (2, .int (pkx (cs 11) sz s.1)), (0, .ref 12), (1, .ref a)]) (by decide) rfl dc_12_13_20 ?_
    refine r_aload_n rfl dc_12_13_21 ?_
    refine h_get (t := (3, 0, rl [(0, 11), (4, 14)])) (v := .int s.2.1) fx_3_31 hT2 ⟨by omega, by omega⟩ (rfl) dc_12_13_22 ?_
    refine r_ifne (t := 41) (by decide) dc_12_13_25 (fun c_25 => ?_) (fun c_25 => ?_)
    · skip
      refine r_aload_n rfl dc_12_13_41 ?_
      refine r_dup rfl dc_12_13_42 ?_
      refine h_get (t := (3, 0, rl [(0, 11), (4, 14)])) (v := .int s.1) fx_3_28 hT2 ⟨by omega, by omega⟩ (rfl) dc_12_13_43 ?_
      refine r_iconst (v := nI 1) (by decide) dc_12_13_46 ?_
      refine r_iadd (v := s.1 + (nI 1)) (rfl) dc_12_13_47 ?_
      refine h_pint (t := (3, 0, rl [(0, 11), (4, 14)])) fx_3_28 hT2 ⟨by omega, by omega⟩ (Or.inl fn_3_2) ty_3_2 (pi_3_2 _ _ _ _) dc_12_13_48 ?_
      rw [RS_2]
      show mm_Ru 4 (3, 4, false, prog_12_method_13_code, some .int) 51 [(3, .int (fdx F n (pkx (cs 11) sz s.1))), (2, .int (pkx (cs 11) sz s.1)), (0, .ref 12), (1, .ref a)] [] (hk M T (RS cs (adv s))) (fun r9 => r9 = ((some (.int (fdx F n (pkx (cs 11) sz s.1))), hk M T (RS cs (eox F n (cs 11) sz s)))))
      refine r_iload_n rfl dc_12_13_51 ?_
      refine r_iret rfl dc_12_13_52 ?_
      unfold eox
      rw [if_neg c_25]
    · skip
      refine r_iload_n rfl dc_12_13_28 ?_
      refine r_ifge (t := 41) (by decide) dc_12_13_29 (fun c_29 => ?_) (fun c_29 => ?_)
      · skip
        refine r_aload_n rfl dc_12_13_41 ?_
        refine r_dup rfl dc_12_13_42 ?_
        refine h_get (t := (3, 0, rl [(0, 11), (4, 14)])) (v := .int s.1) fx_3_28 hT2 ⟨by omega, by omega⟩ (rfl) dc_12_13_43 ?_
        refine r_iconst (v := nI 1) (by decide) dc_12_13_46 ?_
        refine r_iadd (v := s.1 + (nI 1)) (rfl) dc_12_13_47 ?_
        refine h_pint (t := (3, 0, rl [(0, 11), (4, 14)])) fx_3_28 hT2 ⟨by omega, by omega⟩ (Or.inl fn_3_2) ty_3_2 (pi_3_2 _ _ _ _) dc_12_13_48 ?_
        rw [RS_2]
        show mm_Ru 4 (3, 4, false, prog_12_method_13_code, some .int) 51 [(3, .int (fdx F n (pkx (cs 11) sz s.1))), (2, .int (pkx (cs 11) sz s.1)), (0, .ref 12), (1, .ref a)] [] (hk M T (RS cs (adv s))) (fun r9 => r9 = ((some (.int (fdx F n (pkx (cs 11) sz s.1))), hk M T (RS cs (eox F n (cs 11) sz s)))))
        refine r_iload_n rfl dc_12_13_51 ?_
        refine r_iret rfl dc_12_13_52 ?_
        unfold eox
        rw [if_pos c_25, if_pos c_29]
      · skip
        refine r_aload_n rfl dc_12_13_32 ?_
        refine r_iconst (v := nI 1) (by decide) dc_12_13_33 ?_
        refine r_aload_n rfl dc_12_13_34 ?_
        refine h_get (t := (3, 0, rl [(0, 11), (4, 14)])) (v := .int s.1) fx_3_28 hT2 ⟨by omega, by omega⟩ (rfl) dc_12_13_35 ?_
        refine h_call0 (t := (3, 0, rl [(0, 11), (4, 14)])) (as := [.int (nI 1), .int s.1]) (rest := []) (M1 := hk M T (RS cs (fal s (nI 1) s.1))) rfl rfl iv_3_v91 (Or.inl rfl) na_1_52 hT2 ⟨by omega, by omega⟩ (show (3 : Nat) < 14 by decide) o_52 rfl (show (0 : Nat) ≤ 8 by decide) dc_12_13_38 (mm_Ev_up (by decide : 1 ≤ 4) (k_flx hH s (nI 1) s.1)) ?_
        refine r_aload_n rfl dc_12_13_41 ?_
        refine r_dup rfl dc_12_13_42 ?_
        refine h_get (t := (3, 0, rl [(0, 11), (4, 14)])) (v := .int ((fal s (nI 1) s.1).1)) fx_3_28 hT2 ⟨by omega, by omega⟩ (rfl) dc_12_13_43 ?_
        refine r_iconst (v := nI 1) (by decide) dc_12_13_46 ?_
        refine r_iadd (v := ((fal s (nI 1) s.1).1) + (nI 1)) (rfl) dc_12_13_47 ?_
        refine h_pint (t := (3, 0, rl [(0, 11), (4, 14)])) fx_3_28 hT2 ⟨by omega, by omega⟩ (Or.inl fn_3_2) ty_3_2 (pi_3_2 _ _ _ _) dc_12_13_48 ?_
        rw [RS_2]
        show mm_Ru 4 (3, 4, false, prog_12_method_13_code, some .int) 51 [(3, .int (fdx F n (pkx (cs 11) sz s.1))), (2, .int (pkx (cs 11) sz s.1)), (0, .ref 12), (1, .ref a)] [] (hk M T (RS cs (adv (fal s (nI 1) s.1)))) (fun r9 => r9 = ((some (.int (fdx F n (pkx (cs 11) sz s.1))), hk M T (RS cs (eox F n (cs 11) sz s)))))
        refine r_iload_n rfl dc_12_13_51 ?_
        refine r_iret rfl dc_12_13_52 ?_
        unfold eox
        rw [if_pos c_25, if_neg c_29]
set_option maxHeartbeats 4000000 in
theorem k_cmx {M : mH} {T : Nat → mT} {cs : Nat → Nat → Int32} {sz : Nat} (hH : RdH M T cs sz) (s : rS) : mm_Ev 6 57 [.ref 12] (hk M T (RS cs s)) ((none, hk M T (RS cs (cmx (cs 11) sz s)))) := by
  obtain ⟨hM, hM9, hs, hT2, hT1, hT4, he, hsz, hby⟩ := id hH
  refine r_ev (by decide +kernel) (show (1 : Nat) ≤ mm_nL 57 by decide +kernel) ?_
  show mm_Ru 5 (3, 4, false, prog_12_method_9_code, none) 0 [(0, .ref 12)] [] (hk M T (RS cs s)) (fun r9 => r9 = ((none, hk M T (RS cs (cmx (cs 11) sz s)))))
  refine r_aload_n rfl dc_12_9_0 ?_
  refine r_ldcA (a := 1000002) (by decide +kernel) (by decide +kernel) dc_12_9_1 ?_
  refine h_callv (t := (3, 0, rl [(0, 11), (4, 14)])) (as := [.ref 1000002]) (rest := []) (v := .int (fdx (tF 0) 4 (pkx (cs 11) sz s.1))) (M1 := hk M T (RS cs (eox (tF 0) 4 (cs 11) sz s))) rfl rfl iv_3_v84 (Or.inl rfl) na_1_58 hT2 ⟨by omega, by omega⟩ (show (3 : Nat) < 14 by decide) o_58 rfl (show (0 : Nat) ≤ 8 by decide) dc_12_9_3 (mm_Ev_up (by decide : 5 ≤ 5) (k_eox hH s (F := tF 0) (by decide) (by decide) (hs 2 (by decide) (by decide)) (hs 5 (by decide) (by decide)) (by decide) (by decide))) ?_
  refine r_istore_n (ls' := [(1, .int (fdx (tF 0) 4 (pkx (cs 11) sz s.1))), (0, .ref 12)]) (by decide) rfl dc_12_9_6 ?_
  refine r_aload_n rfl dc_12_9_7 ?_
  refine r_ldcA (a := 1000003) (by decide +kernel) (by decide +kernel) dc_12_9_8 ?_
  refine h_callv (t := (3, 0, rl [(0, 11), (4, 14)])) (as := [.ref 1000003]) (rest := []) (v := .int (fdx (tF 1) 3 (pkx (cs 11) sz (eox (tF 0) 4 (cs 11) sz s).1))) (M1 := hk M T (RS cs (eox (tF 1) 3 (cs 11) sz (eox (tF 0) 4 (cs 11) sz s)))) rfl rfl iv_3_v84 (Or.inl rfl) na_1_58 hT2 ⟨by omega, by omega⟩ (show (3 : Nat) < 14 by decide) o_58 rfl (show (0 : Nat) ≤ 8 by decide) dc_12_9_10 (mm_Ev_up (by decide : 5 ≤ 5) (k_eox hH (eox (tF 0) 4 (cs 11) sz s) (F := tF 1) (by decide) (by decide) (hs 3 (by decide) (by decide)) (hs 6 (by decide) (by decide)) (by decide) (by decide))) ?_
  refine r_istore_n (ls' := [(2, .int (fdx (tF 1) 3 (pkx (cs 11) sz (eox (tF 0) 4 (cs 11) sz s).1))), (1, .int (fdx (tF 0) 4 (pkx (cs 11) sz s.1))), (0, .ref 12)]) (by decide) rfl dc_12_9_13 ?_
  refine r_aload_n rfl dc_12_9_14 ?_
  refine r_iconst (v := nI 0) (by decide) dc_12_9_15 ?_
  refine r_sipush (v := nI 9999) (by decide) dc_12_9_16 ?_
  refine h_callv (t := (3, 0, rl [(0, 11), (4, 14)])) (as := [.int (nI 0), .int (nI 9999)]) (rest := []) (v := .int ((rnx (cs 11) sz (nI 0) (nI 9999) (eox (tF 1) 3 (cs 11) sz (eox (tF 0) 4 (cs 11) sz s))).1)) (M1 := hk M T (RS cs ((rnx (cs 11) sz (nI 0) (nI 9999) (eox (tF 1) 3 (cs 11) sz (eox (tF 0) 4 (cs 11) sz s))).2))) rfl rfl iv_3_v88 (Or.inl rfl) na_1_79 hT2 ⟨by omega, by omega⟩ (show (3 : Nat) < 14 by decide) o_79 rfl (show (0 : Nat) ≤ 8 by decide) dc_12_9_19 (mm_Ev_up (by decide : 2 ≤ 5) (k_rnx hH (eox (tF 1) 3 (cs 11) sz (eox (tF 0) 4 (cs 11) sz s)) (nI 0) (nI 9999))) ?_
  refine r_istore_n (ls' := [(3, .int ((rnx (cs 11) sz (nI 0) (nI 9999) (eox (tF 1) 3 (cs 11) sz (eox (tF 0) 4 (cs 11) sz s))).1)), (2, .int (fdx (tF 1) 3 (pkx (cs 11) sz (eox (tF 0) 4 (cs 11) sz s).1))), (1, .int (fdx (tF 0) 4 (pkx (cs 11) sz s.1))), (0, .ref 12)]) (by decide) rfl dc_12_9_22 ?_
  refine r_aload_n rfl dc_12_9_23 ?_
  refine r_iload_n rfl dc_12_9_24 ?_
  refine r_ldcA (a := 1000003) (by decide +kernel) (by decide +kernel) dc_12_9_25 ?_
  refine x_call (as := []) (rest := [.int (fdx (tF 0) 4 (pkx (cs 11) sz s.1)), .ref 12]) (v := .int (nI 3)) (M1 := hk M T (RS cs ((rnx (cs 11) sz (nI 0) (nI 9999) (eox (tF 1) 3 (cs 11) sz (eox (tF 0) 4 (cs 11) sz s))).2))) iv_3_v111 na_1_62 o_62 (by decide) ((hk_hi M T _ (by omega)).trans (hs 3 (by decide) (by decide))) rfl (show (2 : Nat) ≤ 8 by decide) dc_12_9_27 (mm_Ev_up (by decide : 2 ≤ 5) (x_slen (hk M T (RS cs ((rnx (cs 11) sz (nI 0) (nI 9999) (eox (tF 1) 3 (cs 11) sz (eox (tF 0) 4 (cs 11) sz s))).2))) 1000003 1000006 3 (tF 1) (by decide) (by decide) ((hk_hi M T _ (by omega)).trans (hs 3 (by decide) (by decide))) ((hk_hi M T _ (by omega)).trans (hs 6 (by decide) (by decide))) (by decide))) ?_
  refine r_imul (v := (fdx (tF 0) 4 (pkx (cs 11) sz s.1)) * (nI 3)) (rfl) dc_12_9_30 ?_
  refine r_iload_n rfl dc_12_9_31 ?_
  refine r_iadd (v := ((fdx (tF 0) 4 (pkx (cs 11) sz s.1)) * (nI 3)) + (fdx (tF 1) 3 (pkx (cs 11) sz (eox (tF 0) 4 (cs 11) sz s).1))) (rfl) dc_12_9_32 ?_
  refine r_sipush (v := nI 10000) (by decide) dc_12_9_33 ?_
  refine r_imul (v := (((fdx (tF 0) 4 (pkx (cs 11) sz s.1)) * (nI 3)) + (fdx (tF 1) 3 (pkx (cs 11) sz (eox (tF 0) 4 (cs 11) sz s).1))) * (nI 10000)) (rfl) dc_12_9_36 ?_
  refine r_iload_n rfl dc_12_9_37 ?_
  refine r_iadd (v := ((((fdx (tF 0) 4 (pkx (cs 11) sz s.1)) * (nI 3)) + (fdx (tF 1) 3 (pkx (cs 11) sz (eox (tF 0) 4 (cs 11) sz s).1))) * (nI 10000)) + ((rnx (cs 11) sz (nI 0) (nI 9999) (eox (tF 1) 3 (cs 11) sz (eox (tF 0) 4 (cs 11) sz s))).1)) (rfl) dc_12_9_38 ?_
  refine h_call0 (t := (3, 0, rl [(0, 11), (4, 14)])) (as := [.int (((((fdx (tF 0) 4 (pkx (cs 11) sz s.1)) * (nI 3)) + (fdx (tF 1) 3 (pkx (cs 11) sz (eox (tF 0) 4 (cs 11) sz s).1))) * (nI 10000)) + ((rnx (cs 11) sz (nI 0) (nI 9999) (eox (tF 1) 3 (cs 11) sz (eox (tF 0) 4 (cs 11) sz s))).1))]) (rest := []) (M1 := hk M T (RS cs (ptx ((rnx (cs 11) sz (nI 0) (nI 9999) (eox (tF 1) 3 (cs 11) sz (eox (tF 0) 4 (cs 11) sz s))).2) (((((fdx (tF 0) 4 (pkx (cs 11) sz s.1)) * (nI 3)) + (fdx (tF 1) 3 (pkx (cs 11) sz (eox (tF 0) 4 (cs 11) sz s).1))) * (nI 10000)) + ((rnx (cs 11) sz (nI 0) (nI 9999) (eox (tF 1) 3 (cs 11) sz (eox (tF 0) 4 (cs 11) sz s))).1))))) rfl rfl iv_3_v79 (Or.inl rfl) na_1_80 hT2 ⟨by omega, by omega⟩ (show (3 : Nat) < 14 by decide) o_80 rfl (show (0 : Nat) ≤ 8 by decide) dc_12_9_39 (mm_Ev_up (by decide : 1 ≤ 5) (k_ptx hH ((rnx (cs 11) sz (nI 0) (nI 9999) (eox (tF 1) 3 (cs 11) sz (eox (tF 0) 4 (cs 11) sz s))).2) (((((fdx (tF 0) 4 (pkx (cs 11) sz s.1)) * (nI 3)) + (fdx (tF 1) 3 (pkx (cs 11) sz (eox (tF 0) 4 (cs 11) sz s).1))) * (nI 10000)) + ((rnx (cs 11) sz (nI 0) (nI 9999) (eox (tF 1) 3 (cs 11) sz (eox (tF 0) 4 (cs 11) sz s))).1)))) ?_
  exact r_vret rfl dc_12_9_42 (rfl)
theorem lpx_y {b : Nat → Int32} {sz : Nat} {g c : Int32} {F : rS → rS} {m : Nat} {t : rS} (h1 : t.2.1 = 0) (h2 : pkx b sz t.1 = g) (hm : m < 60) : lpx b sz g c F (60 - m) t = lpx b sz g c F (60 - (m + 1)) (ptx (F (adv t)) c) := by
  rw [show 60 - m = (60 - (m + 1)) + 1 by omega]
  exact (if_pos h1).trans (if_pos h2)
theorem lpx_f {b : Nat → Int32} {sz : Nat} {g c : Int32} {F : rS → rS} {t : rS} (h1 : ¬ t.2.1 = 0) : ∀ k, lpx b sz g c F k t = t
  | 0 => rfl
  | _ + 1 => if_neg h1
theorem lpx_n {b : Nat → Int32} {sz : Nat} {g c : Int32} {F : rS → rS} {t : rS} (h2 : ¬ pkx b sz t.1 = g) : ∀ k, lpx b sz g c F k t = t
  | 0 => rfl
  | k + 1 => by
    by_cases h1 : t.2.1 = 0
    · exact (if_pos h1).trans (if_neg h2)
    · exact if_neg h1
theorem nlx_y {b : Nat → Int32} {sz : Nat} {m : Nat} {t : rS} {i : Int32} (h1 : t.2.1 = 0) (h2 : pkx b sz t.1 = nI 33) (hm : m < 60) : nlx b sz (60 - m) t i = nlx b sz (60 - (m + 1)) (adv t) (if i = 0 then nI 1 else nI 0) := by
  rw [show 60 - m = (60 - (m + 1)) + 1 by omega]
  exact (if_pos h1).trans (if_pos h2)
theorem nlx_f {b : Nat → Int32} {sz : Nat} {t : rS} {i : Int32} (h1 : ¬ t.2.1 = 0) : ∀ k, nlx b sz k t i = (t, i)
  | 0 => rfl
  | _ + 1 => if_neg h1
theorem nlx_n {b : Nat → Int32} {sz : Nat} {t : rS} {i : Int32} (h2 : ¬ pkx b sz t.1 = nI 33) : ∀ k, nlx b sz k t i = (t, i)
  | 0 => rfl
  | k + 1 => by
    by_cases h1 : t.2.1 = 0
    · exact (if_pos h1).trans (if_neg h2)
    · exact if_neg h1
set_option maxHeartbeats 4000000 in
theorem k_tmx {M : mH} {T : Nat → mT} {cs : Nat → Nat → Int32} {sz : Nat} (hH : RdH M T cs sz) (d o : Nat) (hd : 6 ≤ d) (B : rS → rS) (hB : ∀ s, mm_Ev d 56 [.ref 12, .int (nI o)] (hk M T (RS cs s)) (none, hk M T (RS cs (B s)))) (s : rS) : mm_Ev (d + 1) 55 [.ref 12, .int (nI o)] (hk M T (RS cs s)) ((none, hk M T (RS cs (tmx (cs 11) sz B s)))) := by
  obtain ⟨hM, hM9, hs, hT2, hT1, hT4, he, hsz, hby⟩ := id hH
  refine r_ev (by decide +kernel) (show (2 : Nat) ≤ mm_nL 55 by decide +kernel) ?_
  show mm_Ru d (3, 3, false, prog_12_method_7_code, none) 0 [(0, .ref 12), (1, .int (nI o))] [] (hk M T (RS cs s)) (fun r9 => r9 = ((none, hk M T (RS cs (tmx (cs 11) sz B s)))))
  refine r_aload_n rfl dc_12_7_0 ?_
  refine r_iload_n rfl dc_12_7_1 ?_
  refine h_call0 (t := (3, 0, rl [(0, 11), (4, 14)])) (as := [.int (nI o)]) (rest := []) (M1 := hk M T (RS cs (B s))) rfl rfl iv_3_v101 (Or.inl rfl) na_1_56 hT2 ⟨by omega, by omega⟩ (show (3 : Nat) < 14 by decide) o_56 rfl (show (0 : Nat) ≤ 8 by decide) dc_12_7_2 (hB s) ?_
  refine r_iconst (v := nI 0) (by decide) dc_12_7_5 ?_
  refine r_istore_n (ls' := [(2, .int (nI 0)), (0, .ref 12), (1, .int (nI o))]) (by decide) rfl dc_12_7_6 ?_
  refine mm_cnt (P := fun m => ∀ (t : rS), (lpx (cs 11) sz (nI 38) (-2) B (60 - m) t = tmx (cs 11) sz B s) → mm_Ru d (3, 3, false, prog_12_method_7_code, none) 7 [(2, .int (nI m)), (0, .ref 12), (1, .int (nI o))] [] (hk M T (RS cs t)) (fun r9 => r9 = ((none, hk M T (RS cs (tmx (cs 11) sz B s)))))) 60 ?_ ?_ 0 (by omega) (B s) (rfl)
  · intro t hi_m
    show mm_Ru d (3, 3, false, prog_12_method_7_code, none) 7 [(2, .int (nI 60)), (0, .ref 12), (1, .int (nI o))] [] (hk M T (RS cs t)) (fun r9 => r9 = ((none, hk M T (RS cs (tmx (cs 11) sz B s)))))
    refine r_iload_n rfl dc_12_7_7 ?_
    refine r_bipush (v := nI 60) (by decide) dc_12_7_8 ?_
    refine r_ncge (t := 56) (by omega) (by omega) (by decide) dc_12_7_10 (fun c_10 => ?_) (fun c_10 => ?_)
    · skip
      refine r_vret rfl dc_12_7_56 ?_
      exact congrArg (fun z => (none, hk M T (RS cs z))) hi_m
    · omega
  · intro m h_m ih_m t hi_m
    show mm_Ru d (3, 3, false, prog_12_method_7_code, none) 7 [(2, .int (nI m)), (0, .ref 12), (1, .int (nI o))] [] (hk M T (RS cs t)) (fun r9 => r9 = ((none, hk M T (RS cs (tmx (cs 11) sz B s)))))
    refine r_iload_n rfl dc_12_7_7 ?_
    refine r_bipush (v := nI 60) (by decide) dc_12_7_8 ?_
    refine r_ncge (t := 56) (by omega) (by omega) (by decide) dc_12_7_10 (fun c_10 => ?_) (fun c_10 => ?_)
    · omega
    · skip
      refine r_aload_n rfl dc_12_7_13 ?_
      refine h_get (t := (3, 0, rl [(0, 11), (4, 14)])) (v := .int t.2.1) fx_3_31 hT2 ⟨by omega, by omega⟩ (rfl) dc_12_7_14 ?_
      refine r_ifne (t := 56) (by decide) dc_12_7_17 (fun c_17 => ?_) (fun c_17 => ?_)
      · skip
        refine r_vret rfl dc_12_7_56 ?_
        exact congrArg (fun z => (none, hk M T (RS cs z))) ((lpx_f c_17 _ : lpx (cs 11) sz (nI 38) (-2) B _ t = t).symm.trans hi_m)
      · skip
        refine r_aload_n rfl dc_12_7_20 ?_
        refine h_callv (t := (3, 0, rl [(0, 11), (4, 14)])) (as := []) (rest := []) (v := .int (pkx (cs 11) sz t.1)) (M1 := hk M T (RS cs t)) rfl rfl iv_3_v71 (Or.inl rfl) na_1_50 hT2 ⟨by omega, by omega⟩ (show (3 : Nat) < 14 by decide) o_50 rfl (show (0 : Nat) ≤ 8 by decide) dc_12_7_21 (mm_Ev_up (by omega : 1 ≤ d) (k_pk hH t)) ?_
        refine r_bipush (v := nI 38) (by decide) dc_12_7_24 ?_
        refine r_icne (t := 56) (by decide) dc_12_7_26 (fun c_26 => ?_) (fun c_26 => ?_)
        · skip
          refine r_vret rfl dc_12_7_56 ?_
          exact congrArg (fun z => (none, hk M T (RS cs z))) ((lpx_n c_26 _ : lpx (cs 11) sz (nI 38) (-2) B _ t = t).symm.trans hi_m)
        · skip
          refine r_aload_n rfl dc_12_7_29 ?_
          refine r_dup rfl dc_12_7_30 ?_
          refine h_get (t := (3, 0, rl [(0, 11), (4, 14)])) (v := .int t.1) fx_3_28 hT2 ⟨by omega, by omega⟩ (rfl) dc_12_7_31 ?_
          refine r_iconst (v := nI 1) (by decide) dc_12_7_34 ?_
          refine r_iadd (v := t.1 + (nI 1)) (rfl) dc_12_7_35 ?_
          refine h_pint (t := (3, 0, rl [(0, 11), (4, 14)])) fx_3_28 hT2 ⟨by omega, by omega⟩ (Or.inl fn_3_2) ty_3_2 (pi_3_2 _ _ _ _) dc_12_7_36 ?_
          rw [RS_2]
          show mm_Ru d (3, 3, false, prog_12_method_7_code, none) 39 [(2, .int (nI m)), (0, .ref 12), (1, .int (nI o))] [] (hk M T (RS cs (adv t))) (fun r9 => r9 = ((none, hk M T (RS cs (tmx (cs 11) sz B s)))))
          refine r_aload_n rfl dc_12_7_39 ?_
          refine r_iload_n rfl dc_12_7_40 ?_
          refine h_call0 (t := (3, 0, rl [(0, 11), (4, 14)])) (as := [.int (nI o)]) (rest := []) (M1 := hk M T (RS cs (B (adv t)))) rfl rfl iv_3_v101 (Or.inl rfl) na_1_56 hT2 ⟨by omega, by omega⟩ (show (3 : Nat) < 14 by decide) o_56 rfl (show (0 : Nat) ≤ 8 by decide) dc_12_7_41 (hB (adv t)) ?_
          refine r_aload_n rfl dc_12_7_44 ?_
          refine r_bipush (v := -2) (by decide) dc_12_7_45 ?_
          refine h_call0 (t := (3, 0, rl [(0, 11), (4, 14)])) (as := [.int ((-2))]) (rest := []) (M1 := hk M T (RS cs (ptx (B (adv t)) ((-2))))) rfl rfl iv_3_v79 (Or.inl rfl) na_1_80 hT2 ⟨by omega, by omega⟩ (show (3 : Nat) < 14 by decide) o_80 rfl (show (0 : Nat) ≤ 8 by decide) dc_12_7_47 (mm_Ev_up (by omega : 1 ≤ d) (k_ptx hH (B (adv t)) ((-2)))) ?_
          refine r_iinc (n := 2) (k := 1) (x := nI m) (v := nI (m + 1)) (ls' := [(2, .int (nI (m + 1))), (0, .ref 12), (1, .int (nI o))]) rfl (nI_1 _) (by decide) rfl dc_12_7_50 ?_
          refine r_goto (t := 7) (by decide) dc_12_7_53 ?_
          exact ih_m (ptx (B (adv t)) ((-2))) ((lpx_y c_17 c_26 h_m).symm.trans hi_m)
set_option maxHeartbeats 4000000 in
theorem k_xp0 {M : mH} {T : Nat → mT} {cs : Nat → Nat → Int32} {sz : Nat} (hH : RdH M T cs sz) (d o : Nat) (hd : 6 ≤ d) (B : rS → rS) (hB : ∀ s, mm_Ev d 55 [.ref 12, .int (nI o)] (hk M T (RS cs s)) (none, hk M T (RS cs (B s)))) (s : rS) : mm_Ev (d + 1) 54 [.ref 12, .int (nI o)] (hk M T (RS cs s)) ((none, hk M T (RS cs ((fun s => lpx (cs 11) sz (nI 124) (-3) B 60 (B s)) s)))) := by
  obtain ⟨hM, hM9, hs, hT2, hT1, hT4, he, hsz, hby⟩ := id hH
  refine r_ev (by decide +kernel) (show (2 : Nat) ≤ mm_nL 54 by decide +kernel) ?_
  show mm_Ru d (3, 3, false, prog_12_method_6_code, none) 0 [(0, .ref 12), (1, .int (nI o))] [] (hk M T (RS cs s)) (fun r9 => r9 = ((none, hk M T (RS cs ((fun s => lpx (cs 11) sz (nI 124) (-3) B 60 (B s)) s)))))
  refine r_aload_n rfl dc_12_6_0 ?_
  refine r_iload_n rfl dc_12_6_1 ?_
  refine h_call0 (t := (3, 0, rl [(0, 11), (4, 14)])) (as := [.int (nI o)]) (rest := []) (M1 := hk M T (RS cs (B s))) rfl rfl iv_3_v98 (Or.inl rfl) na_1_55 hT2 ⟨by omega, by omega⟩ (show (3 : Nat) < 14 by decide) o_55 rfl (show (0 : Nat) ≤ 8 by decide) dc_12_6_2 (hB s) ?_
  refine r_iconst (v := nI 0) (by decide) dc_12_6_5 ?_
  refine r_istore_n (ls' := [(2, .int (nI 0)), (0, .ref 12), (1, .int (nI o))]) (by decide) rfl dc_12_6_6 ?_
  refine mm_cnt (P := fun m => ∀ (t : rS), (lpx (cs 11) sz (nI 124) (-3) B (60 - m) t = (fun s => lpx (cs 11) sz (nI 124) (-3) B 60 (B s)) s) → mm_Ru d (3, 3, false, prog_12_method_6_code, none) 7 [(2, .int (nI m)), (0, .ref 12), (1, .int (nI o))] [] (hk M T (RS cs t)) (fun r9 => r9 = ((none, hk M T (RS cs ((fun s => lpx (cs 11) sz (nI 124) (-3) B 60 (B s)) s)))))) 60 ?_ ?_ 0 (by omega) (B s) (rfl)
  · intro t hi_m
    show mm_Ru d (3, 3, false, prog_12_method_6_code, none) 7 [(2, .int (nI 60)), (0, .ref 12), (1, .int (nI o))] [] (hk M T (RS cs t)) (fun r9 => r9 = ((none, hk M T (RS cs ((fun s => lpx (cs 11) sz (nI 124) (-3) B 60 (B s)) s)))))
    refine r_iload_n rfl dc_12_6_7 ?_
    refine r_bipush (v := nI 60) (by decide) dc_12_6_8 ?_
    refine r_ncge (t := 56) (by omega) (by omega) (by decide) dc_12_6_10 (fun c_10 => ?_) (fun c_10 => ?_)
    · skip
      refine r_vret rfl dc_12_6_56 ?_
      exact congrArg (fun z => (none, hk M T (RS cs z))) hi_m
    · omega
  · intro m h_m ih_m t hi_m
    show mm_Ru d (3, 3, false, prog_12_method_6_code, none) 7 [(2, .int (nI m)), (0, .ref 12), (1, .int (nI o))] [] (hk M T (RS cs t)) (fun r9 => r9 = ((none, hk M T (RS cs ((fun s => lpx (cs 11) sz (nI 124) (-3) B 60 (B s)) s)))))
    refine r_iload_n rfl dc_12_6_7 ?_
    refine r_bipush (v := nI 60) (by decide) dc_12_6_8 ?_
    refine r_ncge (t := 56) (by omega) (by omega) (by decide) dc_12_6_10 (fun c_10 => ?_) (fun c_10 => ?_)
    · omega
    · skip
      refine r_aload_n rfl dc_12_6_13 ?_
      refine h_get (t := (3, 0, rl [(0, 11), (4, 14)])) (v := .int t.2.1) fx_3_31 hT2 ⟨by omega, by omega⟩ (rfl) dc_12_6_14 ?_
      refine r_ifne (t := 56) (by decide) dc_12_6_17 (fun c_17 => ?_) (fun c_17 => ?_)
      · skip
        refine r_vret rfl dc_12_6_56 ?_
        exact congrArg (fun z => (none, hk M T (RS cs z))) ((lpx_f c_17 _ : lpx (cs 11) sz (nI 124) (-3) B _ t = t).symm.trans hi_m)
      · skip
        refine r_aload_n rfl dc_12_6_20 ?_
        refine h_callv (t := (3, 0, rl [(0, 11), (4, 14)])) (as := []) (rest := []) (v := .int (pkx (cs 11) sz t.1)) (M1 := hk M T (RS cs t)) rfl rfl iv_3_v71 (Or.inl rfl) na_1_50 hT2 ⟨by omega, by omega⟩ (show (3 : Nat) < 14 by decide) o_50 rfl (show (0 : Nat) ≤ 8 by decide) dc_12_6_21 (mm_Ev_up (by omega : 1 ≤ d) (k_pk hH t)) ?_
        refine r_bipush (v := nI 124) (by decide) dc_12_6_24 ?_
        refine r_icne (t := 56) (by decide) dc_12_6_26 (fun c_26 => ?_) (fun c_26 => ?_)
        · skip
          refine r_vret rfl dc_12_6_56 ?_
          exact congrArg (fun z => (none, hk M T (RS cs z))) ((lpx_n c_26 _ : lpx (cs 11) sz (nI 124) (-3) B _ t = t).symm.trans hi_m)
        · skip
          refine r_aload_n rfl dc_12_6_29 ?_
          refine r_dup rfl dc_12_6_30 ?_
          refine h_get (t := (3, 0, rl [(0, 11), (4, 14)])) (v := .int t.1) fx_3_28 hT2 ⟨by omega, by omega⟩ (rfl) dc_12_6_31 ?_
          refine r_iconst (v := nI 1) (by decide) dc_12_6_34 ?_
          refine r_iadd (v := t.1 + (nI 1)) (rfl) dc_12_6_35 ?_
          refine h_pint (t := (3, 0, rl [(0, 11), (4, 14)])) fx_3_28 hT2 ⟨by omega, by omega⟩ (Or.inl fn_3_2) ty_3_2 (pi_3_2 _ _ _ _) dc_12_6_36 ?_
          rw [RS_2]
          show mm_Ru d (3, 3, false, prog_12_method_6_code, none) 39 [(2, .int (nI m)), (0, .ref 12), (1, .int (nI o))] [] (hk M T (RS cs (adv t))) (fun r9 => r9 = ((none, hk M T (RS cs ((fun s => lpx (cs 11) sz (nI 124) (-3) B 60 (B s)) s)))))
          refine r_aload_n rfl dc_12_6_39 ?_
          refine r_iload_n rfl dc_12_6_40 ?_
          refine h_call0 (t := (3, 0, rl [(0, 11), (4, 14)])) (as := [.int (nI o)]) (rest := []) (M1 := hk M T (RS cs (B (adv t)))) rfl rfl iv_3_v98 (Or.inl rfl) na_1_55 hT2 ⟨by omega, by omega⟩ (show (3 : Nat) < 14 by decide) o_55 rfl (show (0 : Nat) ≤ 8 by decide) dc_12_6_41 (hB (adv t)) ?_
          refine r_aload_n rfl dc_12_6_44 ?_
          refine r_bipush (v := -3) (by decide) dc_12_6_45 ?_
          refine h_call0 (t := (3, 0, rl [(0, 11), (4, 14)])) (as := [.int ((-3))]) (rest := []) (M1 := hk M T (RS cs (ptx (B (adv t)) ((-3))))) rfl rfl iv_3_v79 (Or.inl rfl) na_1_80 hT2 ⟨by omega, by omega⟩ (show (3 : Nat) < 14 by decide) o_80 rfl (show (0 : Nat) ≤ 8 by decide) dc_12_6_47 (mm_Ev_up (by omega : 1 ≤ d) (k_ptx hH (B (adv t)) ((-3)))) ?_
          refine r_iinc (n := 2) (k := 1) (x := nI m) (v := nI (m + 1)) (ls' := [(2, .int (nI (m + 1))), (0, .ref 12), (1, .int (nI o))]) rfl (nI_1 _) (by decide) rfl dc_12_6_50 ?_
          refine r_goto (t := 7) (by decide) dc_12_6_53 ?_
          exact ih_m (ptx (B (adv t)) ((-3))) ((lpx_y c_17 c_26 h_m).symm.trans hi_m)
set_option maxHeartbeats 4000000 in
theorem k_fcx {M : mH} {T : Nat → mT} {cs : Nat → Nat → Int32} {sz : Nat} (hH : RdH M T cs sz) (d o : Nat) (hd : 6 ≤ d) (B : rS → rS) (hB : ∀ s, mm_Ev d 51 [.ref 12, .int (nI o)] (hk M T (RS cs s)) (none, hk M T (RS cs (B s)))) (s : rS) : mm_Ev (d + 1) 56 [.ref 12, .int (nI o)] (hk M T (RS cs s)) ((none, hk M T (RS cs (fcx (cs 11) sz B s)))) := by
  obtain ⟨hM, hM9, hs, hT2, hT1, hT4, he, hsz, hby⟩ := id hH
  refine r_ev (by decide +kernel) (show (2 : Nat) ≤ mm_nL 56 by decide +kernel) ?_
  show mm_Ru d (3, 4, false, prog_12_method_8_code, none) 0 [(0, .ref 12), (1, .int (nI o))] [] (hk M T (RS cs s)) (fun r9 => r9 = ((none, hk M T (RS cs (fcx (cs 11) sz B s)))))
  refine r_iconst (v := nI 0) (by decide) dc_12_8_0 ?_
  refine r_istore_n (ls' := [(2, .int (nI 0)), (0, .ref 12), (1, .int (nI o))]) (by decide) rfl dc_12_8_1 ?_
  refine r_iconst (v := nI 0) (by decide) dc_12_8_2 ?_
  refine r_istore_n (ls' := [(3, .int (nI 0)), (2, .int (nI 0)), (0, .ref 12), (1, .int (nI o))]) (by decide) rfl dc_12_8_3 ?_
  refine mm_cnt (P := fun m => ∀ (i : Int32), ∀ (t : rS), (nlx (cs 11) sz (60 - m) t i = nlx (cs 11) sz 60 s (nI 0)) → mm_Ru d (3, 4, false, prog_12_method_8_code, none) 4 [(3, .int (nI m)), (2, .int i), (0, .ref 12), (1, .int (nI o))] [] (hk M T (RS cs t)) (fun r9 => r9 = ((none, hk M T (RS cs (fcx (cs 11) sz B s)))))) 60 ?_ ?_ 0 (by omega) (nI 0) s (rfl)
  · intro i t hi_m
    show mm_Ru d (3, 4, false, prog_12_method_8_code, none) 4 [(3, .int (nI 60)), (2, .int i), (0, .ref 12), (1, .int (nI o))] [] (hk M T (RS cs t)) (fun r9 => r9 = ((none, hk M T (RS cs (fcx (cs 11) sz B s)))))
    refine r_iload_n rfl dc_12_8_4 ?_
    refine r_bipush (v := nI 60) (by decide) dc_12_8_5 ?_
    refine r_ncge (t := 52) (by omega) (by omega) (by decide) dc_12_8_7 (fun c_7 => ?_) (fun c_7 => ?_)
    · skip
      have hd9 : nlx (cs 11) sz 60 s (nI 0) = (t, i) := hi_m.symm.trans (rfl)
      refine r_aload_n rfl dc_12_8_52 ?_
      refine h_callv (t := (3, 0, rl [(0, 11), (4, 14)])) (as := []) (rest := []) (v := .int (pkx (cs 11) sz t.1)) (M1 := hk M T (RS cs t)) rfl rfl iv_3_v71 (Or.inl rfl) na_1_50 hT2 ⟨by omega, by omega⟩ (show (3 : Nat) < 14 by decide) o_50 rfl (show (0 : Nat) ≤ 8 by decide) dc_12_8_53 (mm_Ev_up (by omega : 1 ≤ d) (k_pk hH t)) ?_
      refine r_bipush (v := nI 40) (by decide) dc_12_8_56 ?_
      refine r_icne (t := 69) (by decide) dc_12_8_58 (fun c_58 => ?_) (fun c_58 => ?_)
      · skip
        refine r_aload_n rfl dc_12_8_69 ?_
        refine h_call0 (t := (3, 0, rl [(0, 11), (4, 14)])) (as := []) (rest := []) (M1 := hk M T (RS cs (cmx (cs 11) sz t))) rfl rfl iv_3_v104 (Or.inl rfl) na_1_57 hT2 ⟨by omega, by omega⟩ (show (3 : Nat) < 14 by decide) o_57 rfl (show (0 : Nat) ≤ 8 by decide) dc_12_8_70 (mm_Ev_up (by omega : 6 ≤ d) (k_cmx hH t)) ?_
        refine r_iload_n rfl dc_12_8_73 ?_
        refine r_ifeq (t := 82) (by decide) dc_12_8_74 (fun c_74 => ?_) (fun c_74 => ?_)
        · skip
          refine r_vret rfl dc_12_8_82 ?_
          unfold fcx
          rw [hd9]
          rw [show (if (t, i).2 = 0 then _ else _ : rS) = _ from if_pos c_74, show (if pkx (cs 11) sz (t, i).1.1 = nI 40 then _ else _ : rS) = _ from if_neg c_58]
        · skip
          refine r_aload_n rfl dc_12_8_77 ?_
          refine r_iconst (v := -1) (by decide) dc_12_8_78 ?_
          refine h_call0 (t := (3, 0, rl [(0, 11), (4, 14)])) (as := [.int ((-1))]) (rest := []) (M1 := hk M T (RS cs (ptx (cmx (cs 11) sz t) ((-1))))) rfl rfl iv_3_v79 (Or.inl rfl) na_1_80 hT2 ⟨by omega, by omega⟩ (show (3 : Nat) < 14 by decide) o_80 rfl (show (0 : Nat) ≤ 8 by decide) dc_12_8_79 (mm_Ev_up (by omega : 1 ≤ d) (k_ptx hH (cmx (cs 11) sz t) ((-1)))) ?_
          refine r_vret rfl dc_12_8_82 ?_
          unfold fcx
          rw [hd9]
          rw [show (if (t, i).2 = 0 then _ else _ : rS) = _ from if_neg c_74, show (if pkx (cs 11) sz (t, i).1.1 = nI 40 then _ else _ : rS) = _ from if_neg c_58]
      · skip
        refine r_aload_n rfl dc_12_8_61 ?_
        refine r_iload_n rfl dc_12_8_62 ?_
        refine h_call0 (t := (3, 0, rl [(0, 11), (4, 14)])) (as := [.int (nI o)]) (rest := []) (M1 := hk M T (RS cs (B t))) rfl rfl iv_3_v75 (Or.inl rfl) na_1_51 hT2 ⟨by omega, by omega⟩ (show (3 : Nat) < 14 by decide) o_51 rfl (show (0 : Nat) ≤ 8 by decide) dc_12_8_63 (hB t) ?_
        refine r_goto (t := 73) (by decide) dc_12_8_66 ?_
        refine r_iload_n rfl dc_12_8_73 ?_
        refine r_ifeq (t := 82) (by decide) dc_12_8_74 (fun c_74 => ?_) (fun c_74 => ?_)
        · skip
          refine r_vret rfl dc_12_8_82 ?_
          unfold fcx
          rw [hd9]
          rw [show (if (t, i).2 = 0 then _ else _ : rS) = _ from if_pos c_74, show (if pkx (cs 11) sz (t, i).1.1 = nI 40 then _ else _ : rS) = _ from if_pos c_58]
        · skip
          refine r_aload_n rfl dc_12_8_77 ?_
          refine r_iconst (v := -1) (by decide) dc_12_8_78 ?_
          refine h_call0 (t := (3, 0, rl [(0, 11), (4, 14)])) (as := [.int ((-1))]) (rest := []) (M1 := hk M T (RS cs (ptx (B t) ((-1))))) rfl rfl iv_3_v79 (Or.inl rfl) na_1_80 hT2 ⟨by omega, by omega⟩ (show (3 : Nat) < 14 by decide) o_80 rfl (show (0 : Nat) ≤ 8 by decide) dc_12_8_79 (mm_Ev_up (by omega : 1 ≤ d) (k_ptx hH (B t) ((-1)))) ?_
          refine r_vret rfl dc_12_8_82 ?_
          unfold fcx
          rw [hd9]
          rw [show (if (t, i).2 = 0 then _ else _ : rS) = _ from if_neg c_74, show (if pkx (cs 11) sz (t, i).1.1 = nI 40 then _ else _ : rS) = _ from if_pos c_58]
    · omega
  · intro m h_m ih_m i t hi_m
    show mm_Ru d (3, 4, false, prog_12_method_8_code, none) 4 [(3, .int (nI m)), (2, .int i), (0, .ref 12), (1, .int (nI o))] [] (hk M T (RS cs t)) (fun r9 => r9 = ((none, hk M T (RS cs (fcx (cs 11) sz B s)))))
    refine r_iload_n rfl dc_12_8_4 ?_
    refine r_bipush (v := nI 60) (by decide) dc_12_8_5 ?_
    refine r_ncge (t := 52) (by omega) (by omega) (by decide) dc_12_8_7 (fun c_7 => ?_) (fun c_7 => ?_)
    · omega
    · skip
      refine r_aload_n rfl dc_12_8_10 ?_
      refine h_get (t := (3, 0, rl [(0, 11), (4, 14)])) (v := .int t.2.1) fx_3_31 hT2 ⟨by omega, by omega⟩ (rfl) dc_12_8_11 ?_
      refine r_ifne (t := 52) (by decide) dc_12_8_14 (fun c_14 => ?_) (fun c_14 => ?_)
      · skip
        have hd9 : nlx (cs 11) sz 60 s (nI 0) = (t, i) := hi_m.symm.trans (nlx_f c_14 _)
        refine r_aload_n rfl dc_12_8_52 ?_
        refine h_callv (t := (3, 0, rl [(0, 11), (4, 14)])) (as := []) (rest := []) (v := .int (pkx (cs 11) sz t.1)) (M1 := hk M T (RS cs t)) rfl rfl iv_3_v71 (Or.inl rfl) na_1_50 hT2 ⟨by omega, by omega⟩ (show (3 : Nat) < 14 by decide) o_50 rfl (show (0 : Nat) ≤ 8 by decide) dc_12_8_53 (mm_Ev_up (by omega : 1 ≤ d) (k_pk hH t)) ?_
        refine r_bipush (v := nI 40) (by decide) dc_12_8_56 ?_
        refine r_icne (t := 69) (by decide) dc_12_8_58 (fun c_58 => ?_) (fun c_58 => ?_)
        · skip
          refine r_aload_n rfl dc_12_8_69 ?_
          refine h_call0 (t := (3, 0, rl [(0, 11), (4, 14)])) (as := []) (rest := []) (M1 := hk M T (RS cs (cmx (cs 11) sz t))) rfl rfl iv_3_v104 (Or.inl rfl) na_1_57 hT2 ⟨by omega, by omega⟩ (show (3 : Nat) < 14 by decide) o_57 rfl (show (0 : Nat) ≤ 8 by decide) dc_12_8_70 (mm_Ev_up (by omega : 6 ≤ d) (k_cmx hH t)) ?_
          refine r_iload_n rfl dc_12_8_73 ?_
          refine r_ifeq (t := 82) (by decide) dc_12_8_74 (fun c_74 => ?_) (fun c_74 => ?_)
          · skip
            refine r_vret rfl dc_12_8_82 ?_
            unfold fcx
            rw [hd9]
            rw [show (if (t, i).2 = 0 then _ else _ : rS) = _ from if_pos c_74, show (if pkx (cs 11) sz (t, i).1.1 = nI 40 then _ else _ : rS) = _ from if_neg c_58]
          · skip
            refine r_aload_n rfl dc_12_8_77 ?_
            refine r_iconst (v := -1) (by decide) dc_12_8_78 ?_
            refine h_call0 (t := (3, 0, rl [(0, 11), (4, 14)])) (as := [.int ((-1))]) (rest := []) (M1 := hk M T (RS cs (ptx (cmx (cs 11) sz t) ((-1))))) rfl rfl iv_3_v79 (Or.inl rfl) na_1_80 hT2 ⟨by omega, by omega⟩ (show (3 : Nat) < 14 by decide) o_80 rfl (show (0 : Nat) ≤ 8 by decide) dc_12_8_79 (mm_Ev_up (by omega : 1 ≤ d) (k_ptx hH (cmx (cs 11) sz t) ((-1)))) ?_
            refine r_vret rfl dc_12_8_82 ?_
            unfold fcx
            rw [hd9]
            rw [show (if (t, i).2 = 0 then _ else _ : rS) = _ from if_neg c_74, show (if pkx (cs 11) sz (t, i).1.1 = nI 40 then _ else _ : rS) = _ from if_neg c_58]
        · skip
          refine r_aload_n rfl dc_12_8_61 ?_
          refine r_iload_n rfl dc_12_8_62 ?_
          refine h_call0 (t := (3, 0, rl [(0, 11), (4, 14)])) (as := [.int (nI o)]) (rest := []) (M1 := hk M T (RS cs (B t))) rfl rfl iv_3_v75 (Or.inl rfl) na_1_51 hT2 ⟨by omega, by omega⟩ (show (3 : Nat) < 14 by decide) o_51 rfl (show (0 : Nat) ≤ 8 by decide) dc_12_8_63 (hB t) ?_
          refine r_goto (t := 73) (by decide) dc_12_8_66 ?_
          refine r_iload_n rfl dc_12_8_73 ?_
          refine r_ifeq (t := 82) (by decide) dc_12_8_74 (fun c_74 => ?_) (fun c_74 => ?_)
          · skip
            refine r_vret rfl dc_12_8_82 ?_
            unfold fcx
            rw [hd9]
            rw [show (if (t, i).2 = 0 then _ else _ : rS) = _ from if_pos c_74, show (if pkx (cs 11) sz (t, i).1.1 = nI 40 then _ else _ : rS) = _ from if_pos c_58]
          · skip
            refine r_aload_n rfl dc_12_8_77 ?_
            refine r_iconst (v := -1) (by decide) dc_12_8_78 ?_
            refine h_call0 (t := (3, 0, rl [(0, 11), (4, 14)])) (as := [.int ((-1))]) (rest := []) (M1 := hk M T (RS cs (ptx (B t) ((-1))))) rfl rfl iv_3_v79 (Or.inl rfl) na_1_80 hT2 ⟨by omega, by omega⟩ (show (3 : Nat) < 14 by decide) o_80 rfl (show (0 : Nat) ≤ 8 by decide) dc_12_8_79 (mm_Ev_up (by omega : 1 ≤ d) (k_ptx hH (B t) ((-1)))) ?_
            refine r_vret rfl dc_12_8_82 ?_
            unfold fcx
            rw [hd9]
            rw [show (if (t, i).2 = 0 then _ else _ : rS) = _ from if_neg c_74, show (if pkx (cs 11) sz (t, i).1.1 = nI 40 then _ else _ : rS) = _ from if_pos c_58]
      · skip
        refine r_aload_n rfl dc_12_8_17 ?_
        refine h_callv (t := (3, 0, rl [(0, 11), (4, 14)])) (as := []) (rest := []) (v := .int (pkx (cs 11) sz t.1)) (M1 := hk M T (RS cs t)) rfl rfl iv_3_v71 (Or.inl rfl) na_1_50 hT2 ⟨by omega, by omega⟩ (show (3 : Nat) < 14 by decide) o_50 rfl (show (0 : Nat) ≤ 8 by decide) dc_12_8_18 (mm_Ev_up (by omega : 1 ≤ d) (k_pk hH t)) ?_
        refine r_bipush (v := nI 33) (by decide) dc_12_8_21 ?_
        refine r_icne (t := 52) (by decide) dc_12_8_23 (fun c_23 => ?_) (fun c_23 => ?_)
        · skip
          have hd9 : nlx (cs 11) sz 60 s (nI 0) = (t, i) := hi_m.symm.trans (nlx_n c_23 _)
          refine r_aload_n rfl dc_12_8_52 ?_
          refine h_callv (t := (3, 0, rl [(0, 11), (4, 14)])) (as := []) (rest := []) (v := .int (pkx (cs 11) sz t.1)) (M1 := hk M T (RS cs t)) rfl rfl iv_3_v71 (Or.inl rfl) na_1_50 hT2 ⟨by omega, by omega⟩ (show (3 : Nat) < 14 by decide) o_50 rfl (show (0 : Nat) ≤ 8 by decide) dc_12_8_53 (mm_Ev_up (by omega : 1 ≤ d) (k_pk hH t)) ?_
          refine r_bipush (v := nI 40) (by decide) dc_12_8_56 ?_
          refine r_icne (t := 69) (by decide) dc_12_8_58 (fun c_58 => ?_) (fun c_58 => ?_)
          · skip
            refine r_aload_n rfl dc_12_8_69 ?_
            refine h_call0 (t := (3, 0, rl [(0, 11), (4, 14)])) (as := []) (rest := []) (M1 := hk M T (RS cs (cmx (cs 11) sz t))) rfl rfl iv_3_v104 (Or.inl rfl) na_1_57 hT2 ⟨by omega, by omega⟩ (show (3 : Nat) < 14 by decide) o_57 rfl (show (0 : Nat) ≤ 8 by decide) dc_12_8_70 (mm_Ev_up (by omega : 6 ≤ d) (k_cmx hH t)) ?_
            refine r_iload_n rfl dc_12_8_73 ?_
            refine r_ifeq (t := 82) (by decide) dc_12_8_74 (fun c_74 => ?_) (fun c_74 => ?_)
            · skip
              refine r_vret rfl dc_12_8_82 ?_
              unfold fcx
              rw [hd9]
              rw [show (if (t, i).2 = 0 then _ else _ : rS) = _ from if_pos c_74, show (if pkx (cs 11) sz (t, i).1.1 = nI 40 then _ else _ : rS) = _ from if_neg c_58]
            · skip
              refine r_aload_n rfl dc_12_8_77 ?_
              refine r_iconst (v := -1) (by decide) dc_12_8_78 ?_
              refine h_call0 (t := (3, 0, rl [(0, 11), (4, 14)])) (as := [.int ((-1))]) (rest := []) (M1 := hk M T (RS cs (ptx (cmx (cs 11) sz t) ((-1))))) rfl rfl iv_3_v79 (Or.inl rfl) na_1_80 hT2 ⟨by omega, by omega⟩ (show (3 : Nat) < 14 by decide) o_80 rfl (show (0 : Nat) ≤ 8 by decide) dc_12_8_79 (mm_Ev_up (by omega : 1 ≤ d) (k_ptx hH (cmx (cs 11) sz t) ((-1)))) ?_
              refine r_vret rfl dc_12_8_82 ?_
              unfold fcx
              rw [hd9]
              rw [show (if (t, i).2 = 0 then _ else _ : rS) = _ from if_neg c_74, show (if pkx (cs 11) sz (t, i).1.1 = nI 40 then _ else _ : rS) = _ from if_neg c_58]
          · skip
            refine r_aload_n rfl dc_12_8_61 ?_
            refine r_iload_n rfl dc_12_8_62 ?_
            refine h_call0 (t := (3, 0, rl [(0, 11), (4, 14)])) (as := [.int (nI o)]) (rest := []) (M1 := hk M T (RS cs (B t))) rfl rfl iv_3_v75 (Or.inl rfl) na_1_51 hT2 ⟨by omega, by omega⟩ (show (3 : Nat) < 14 by decide) o_51 rfl (show (0 : Nat) ≤ 8 by decide) dc_12_8_63 (hB t) ?_
            refine r_goto (t := 73) (by decide) dc_12_8_66 ?_
            refine r_iload_n rfl dc_12_8_73 ?_
            refine r_ifeq (t := 82) (by decide) dc_12_8_74 (fun c_74 => ?_) (fun c_74 => ?_)
            · skip
              refine r_vret rfl dc_12_8_82 ?_
              unfold fcx
              rw [hd9]
              rw [show (if (t, i).2 = 0 then _ else _ : rS) = _ from if_pos c_74, show (if pkx (cs 11) sz (t, i).1.1 = nI 40 then _ else _ : rS) = _ from if_pos c_58]
            · skip
              refine r_aload_n rfl dc_12_8_77 ?_
              refine r_iconst (v := -1) (by decide) dc_12_8_78 ?_
              refine h_call0 (t := (3, 0, rl [(0, 11), (4, 14)])) (as := [.int ((-1))]) (rest := []) (M1 := hk M T (RS cs (ptx (B t) ((-1))))) rfl rfl iv_3_v79 (Or.inl rfl) na_1_80 hT2 ⟨by omega, by omega⟩ (show (3 : Nat) < 14 by decide) o_80 rfl (show (0 : Nat) ≤ 8 by decide) dc_12_8_79 (mm_Ev_up (by omega : 1 ≤ d) (k_ptx hH (B t) ((-1)))) ?_
              refine r_vret rfl dc_12_8_82 ?_
              unfold fcx
              rw [hd9]
              rw [show (if (t, i).2 = 0 then _ else _ : rS) = _ from if_neg c_74, show (if pkx (cs 11) sz (t, i).1.1 = nI 40 then _ else _ : rS) = _ from if_pos c_58]
        · skip
          refine r_aload_n rfl dc_12_8_26 ?_
          refine r_dup rfl dc_12_8_27 ?_
          refine h_get (t := (3, 0, rl [(0, 11), (4, 14)])) (v := .int t.1) fx_3_28 hT2 ⟨by omega, by omega⟩ (rfl) dc_12_8_28 ?_
          refine r_iconst (v := nI 1) (by decide) dc_12_8_31 ?_
          refine r_iadd (v := t.1 + (nI 1)) (rfl) dc_12_8_32 ?_
          refine h_pint (t := (3, 0, rl [(0, 11), (4, 14)])) fx_3_28 hT2 ⟨by omega, by omega⟩ (Or.inl fn_3_2) ty_3_2 (pi_3_2 _ _ _ _) dc_12_8_33 ?_
          rw [RS_2]
          show mm_Ru d (3, 4, false, prog_12_method_8_code, none) 36 [(3, .int (nI m)), (2, .int i), (0, .ref 12), (1, .int (nI o))] [] (hk M T (RS cs (adv t))) (fun r9 => r9 = ((none, hk M T (RS cs (fcx (cs 11) sz B s)))))
          refine r_iload_n rfl dc_12_8_36 ?_
          refine r_ifne (t := 44) (by decide) dc_12_8_37 (fun c_37 => ?_) (fun c_37 => ?_)
          · skip
            refine r_iconst (v := nI 0) (by decide) dc_12_8_44 ?_
            refine r_istore_n (ls' := [(2, .int (nI 0)), (3, .int (nI m)), (0, .ref 12), (1, .int (nI o))]) (by decide) rfl dc_12_8_45 ?_
            refine r_iinc (n := 3) (k := 1) (x := nI m) (v := nI (m + 1)) (ls' := [(3, .int (nI (m + 1))), (2, .int (nI 0)), (0, .ref 12), (1, .int (nI o))]) rfl (nI_1 _) (by decide) rfl dc_12_8_46 ?_
            refine r_goto (t := 4) (by decide) dc_12_8_49 ?_
            exact ih_m (nI 0) (adv t) (by have h9 := nlx_y c_14 c_23 h_m (i := i); rw [if_neg c_37] at h9; exact h9.symm.trans hi_m)
          · skip
            refine r_iconst (v := nI 1) (by decide) dc_12_8_40 ?_
            refine r_goto (t := 45) (by decide) dc_12_8_41 ?_
            refine r_istore_n (ls' := [(2, .int (nI 1)), (3, .int (nI m)), (0, .ref 12), (1, .int (nI o))]) (by decide) rfl dc_12_8_45 ?_
            refine r_iinc (n := 3) (k := 1) (x := nI m) (v := nI (m + 1)) (ls' := [(3, .int (nI (m + 1))), (2, .int (nI 1)), (0, .ref 12), (1, .int (nI o))]) rfl (nI_1 _) (by decide) rfl dc_12_8_46 ?_
            refine r_goto (t := 4) (by decide) dc_12_8_49 ?_
            exact ih_m (nI 1) (adv t) (by have h9 := nlx_y c_14 c_23 h_m (i := i); rw [if_pos c_37] at h9; exact h9.symm.trans hi_m)
set_option maxHeartbeats 4000000 in
theorem k_br0 {M : mH} {T : Nat → mT} {cs : Nat → Nat → Int32} {sz : Nat} (hH : RdH M T cs sz) (s : rS) : mm_Ev 2 51 [.ref 12, .int (nI 6)] (hk M T (RS cs s)) ((none, hk M T (RS cs (fal s (nI 3) s.1)))) := by
  obtain ⟨hM, hM9, hs, hT2, hT1, hT4, he, hsz, hby⟩ := id hH
  refine r_ev (by decide +kernel) (show (2 : Nat) ≤ mm_nL 51 by decide +kernel) ?_
  show mm_Ru 1 (3, 2, false, prog_12_method_5_code, none) 0 [(0, .ref 12), (1, .int (nI 6))] [] (hk M T (RS cs s)) (fun r9 => r9 = ((none, hk M T (RS cs (fal s (nI 3) s.1)))))
  refine r_iload_n rfl dc_12_5_0 ?_
  refine r_bipush (v := nI 6) (by decide) dc_12_5_1 ?_
  refine r_nclt (t := 16) (by omega) (by omega) (by decide) dc_12_5_3 (fun c_3 => ?_) (fun c_3 => ?_)
  · omega
  · skip
    refine r_aload_n rfl dc_12_5_6 ?_
    refine r_iconst (v := nI 3) (by decide) dc_12_5_7 ?_
    refine r_aload_n rfl dc_12_5_8 ?_
    refine h_get (t := (3, 0, rl [(0, 11), (4, 14)])) (v := .int s.1) fx_3_28 hT2 ⟨by omega, by omega⟩ (rfl) dc_12_5_9 ?_
    refine h_call0 (t := (3, 0, rl [(0, 11), (4, 14)])) (as := [.int (nI 3), .int s.1]) (rest := []) (M1 := hk M T (RS cs (fal s (nI 3) s.1))) rfl rfl iv_3_v91 (Or.inl rfl) na_1_52 hT2 ⟨by omega, by omega⟩ (show (3 : Nat) < 14 by decide) o_52 rfl (show (0 : Nat) ≤ 8 by decide) dc_12_5_12 (mm_Ev_up (by decide : 1 ≤ 1) (k_flx hH s (nI 3) s.1)) ?_
    exact r_vret rfl dc_12_5_15 (rfl)
set_option maxHeartbeats 4000000 in
theorem k_br1 {M : mH} {T : Nat → mT} {cs : Nat → Nat → Int32} {sz : Nat} (hH : RdH M T cs sz) (d o : Nat) (hd : 6 ≤ d) (B : rS → rS) (hB : ∀ s, mm_Ev d 54 [.ref 12, .int (nI (o + 1))] (hk M T (RS cs s)) (none, hk M T (RS cs (B s)))) (s : rS) (ho : o < 6) : mm_Ev (d + 1) 51 [.ref 12, .int (nI o)] (hk M T (RS cs s)) ((none, hk M T (RS cs (exq (cs 11) sz (nI 41) (B (exq (cs 11) sz (nI 40) s)))))) := by
  obtain ⟨hM, hM9, hs, hT2, hT1, hT4, he, hsz, hby⟩ := id hH
  refine r_ev (by decide +kernel) (show (2 : Nat) ≤ mm_nL 51 by decide +kernel) ?_
  show mm_Ru d (3, 2, false, prog_12_method_5_code, none) 0 [(0, .ref 12), (1, .int (nI o))] [] (hk M T (RS cs s)) (fun r9 => r9 = ((none, hk M T (RS cs (exq (cs 11) sz (nI 41) (B (exq (cs 11) sz (nI 40) s)))))))
  refine r_iload_n rfl dc_12_5_0 ?_
  refine r_bipush (v := nI 6) (by decide) dc_12_5_1 ?_
  refine r_nclt (t := 16) (by omega) (by omega) (by decide) dc_12_5_3 (fun c_3 => ?_) (fun c_3 => ?_)
  · skip
    refine r_aload_n rfl dc_12_5_16 ?_
    refine r_bipush (v := nI 40) (by decide) dc_12_5_17 ?_
    refine h_call0 (t := (3, 0, rl [(0, 11), (4, 14)])) (as := [.int (nI 40)]) (rest := []) (M1 := hk M T (RS cs (exq (cs 11) sz (nI 40) s))) rfl rfl iv_3_v58 (Or.inl rfl) na_1_53 hT2 ⟨by omega, by omega⟩ (show (3 : Nat) < 14 by decide) o_53 rfl (show (0 : Nat) ≤ 8 by decide) dc_12_5_19 (mm_Ev_up (by omega : 2 ≤ d) (k_exx hH s (nI 40))) ?_
    refine r_aload_n rfl dc_12_5_22 ?_
    refine r_iload_n rfl dc_12_5_23 ?_
    refine r_iconst (v := nI 1) (by decide) dc_12_5_24 ?_
    refine r_iadd (v := nI (o + 1)) (nI_add _ _) dc_12_5_25 ?_
    refine h_call0 (t := (3, 0, rl [(0, 11), (4, 14)])) (as := [.int (nI (o + 1))]) (rest := []) (M1 := hk M T (RS cs (B (exq (cs 11) sz (nI 40) s)))) rfl rfl iv_3_v95 (Or.inl rfl) na_1_54 hT2 ⟨by omega, by omega⟩ (show (3 : Nat) < 14 by decide) o_54 rfl (show (0 : Nat) ≤ 8 by decide) dc_12_5_26 (hB (exq (cs 11) sz (nI 40) s)) ?_
    refine r_aload_n rfl dc_12_5_29 ?_
    refine r_bipush (v := nI 41) (by decide) dc_12_5_30 ?_
    refine h_call0 (t := (3, 0, rl [(0, 11), (4, 14)])) (as := [.int (nI 41)]) (rest := []) (M1 := hk M T (RS cs (exq (cs 11) sz (nI 41) (B (exq (cs 11) sz (nI 40) s))))) rfl rfl iv_3_v58 (Or.inl rfl) na_1_53 hT2 ⟨by omega, by omega⟩ (show (3 : Nat) < 14 by decide) o_53 rfl (show (0 : Nat) ≤ 8 by decide) dc_12_5_32 (mm_Ev_up (by omega : 2 ≤ d) (k_exx hH (B (exq (cs 11) sz (nI 40) s)) (nI 41))) ?_
    exact r_vret rfl dc_12_5_35 (rfl)
  · omega
theorem k_brx {M : mH} {T : Nat → mT} {cs : Nat → Nat → Int32} {sz : Nat} (hH : RdH M T cs sz) : ∀ (k o : Nat), o + k = 6 → ∀ (s : rS), mm_Ev (6 + 4 * k) 51 [.ref 12, .int (nI o)] (hk M T (RS cs s)) (none, hk M T (RS cs (brx (cs 11) sz k s)))
  | 0, o, h, s => by
    rw [show o = 6 by omega]
    exact mm_Ev_up (by decide) (k_br0 hH s)
  | k + 1, o, h, s => by
    have h1 := k_fcx hH (6 + 4 * k) (o + 1) (by omega) (brx (cs 11) sz k) (k_brx hH k (o + 1) (by omega))
    have h2 := k_tmx hH (6 + 4 * k + 1) (o + 1) (by omega) _ h1
    have h3 := k_xp0 hH (6 + 4 * k + 1 + 1) (o + 1) (by omega) _ h2
    have h4 := k_br1 hH (6 + 4 * k + 1 + 1 + 1) o (by omega) _ h3 s (by omega)
    exact mm_Ev_up (by omega) h4
