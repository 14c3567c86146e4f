/-! the reference: visa, there, counts, crowded -/
theorem dc_14_75_0 : decode prog_14_method_75_code 0 = .ok (.aload_n 0, 1) := by decide +kernel
theorem dc_14_75_1 : decode prog_14_method_75_code 1 = .ok (.iload_n 1, 1) := by decide +kernel
theorem dc_14_75_2 : decode prog_14_method_75_code 2 = .ok (.invokevirtual 323, 3) := by decide +kernel
theorem dc_14_75_5 : decode prog_14_method_75_code 5 = .ok (.ifCond .eq 20, 3) := by decide +kernel
theorem dc_14_75_8 : decode prog_14_method_75_code 8 = .ok (.aload_n 0, 1) := by decide +kernel
theorem dc_14_75_9 : decode prog_14_method_75_code 9 = .ok (.getfield 123, 3) := by decide +kernel
theorem dc_14_75_12 : decode prog_14_method_75_code 12 = .ok (.iload_n 1, 1) := by decide +kernel
theorem dc_14_75_13 : decode prog_14_method_75_code 13 = .ok (.iaload, 1) := by decide +kernel
theorem dc_14_75_14 : decode prog_14_method_75_code 14 = .ok (.iconst 1, 1) := by decide +kernel
theorem dc_14_75_15 : decode prog_14_method_75_code 15 = .ok (.if_icmp .ne 10, 3) := by decide +kernel
theorem dc_14_75_18 : decode prog_14_method_75_code 18 = .ok (.iload_n 2, 1) := by decide +kernel
theorem dc_14_75_19 : decode prog_14_method_75_code 19 = .ok (.invokestatic 422, 3) := by decide +kernel
theorem dc_14_75_22 : decode prog_14_method_75_code 22 = .ok (.ifCond .ne 5, 3) := by decide +kernel
theorem dc_14_75_25 : decode prog_14_method_75_code 25 = .ok (.iconst (-1), 1) := by decide +kernel
theorem dc_14_75_26 : decode prog_14_method_75_code 26 = .ok (.ireturn, 1) := by decide +kernel
theorem dc_14_75_27 : decode prog_14_method_75_code 27 = .ok (.aload_n 0, 1) := by decide +kernel
theorem dc_14_75_28 : decode prog_14_method_75_code 28 = .ok (.getfield 126, 3) := by decide +kernel
theorem dc_14_75_31 : decode prog_14_method_75_code 31 = .ok (.iload_n 1, 1) := by decide +kernel
theorem dc_14_75_32 : decode prog_14_method_75_code 32 = .ok (.iaload, 1) := by decide +kernel
theorem dc_14_75_33 : decode prog_14_method_75_code 33 = .ok (.istore_n 3, 1) := by decide +kernel
theorem dc_14_75_34 : decode prog_14_method_75_code 34 = .ok (.aload_n 0, 1) := by decide +kernel
theorem dc_14_75_35 : decode prog_14_method_75_code 35 = .ok (.getfield 19, 3) := by decide +kernel
theorem dc_14_75_38 : decode prog_14_method_75_code 38 = .ok (.iload_n 3, 1) := by decide +kernel
theorem dc_14_75_39 : decode prog_14_method_75_code 39 = .ok (.iaload, 1) := by decide +kernel
theorem dc_14_75_40 : decode prog_14_method_75_code 40 = .ok (.aload_n 0, 1) := by decide +kernel
theorem dc_14_75_41 : decode prog_14_method_75_code 41 = .ok (.getfield 19, 3) := by decide +kernel
theorem dc_14_75_44 : decode prog_14_method_75_code 44 = .ok (.aload_n 0, 1) := by decide +kernel
theorem dc_14_75_45 : decode prog_14_method_75_code 45 = .ok (.getfield 108, 3) := by decide +kernel
theorem dc_14_75_48 : decode prog_14_method_75_code 48 = .ok (.iload_n 1, 1) := by decide +kernel
theorem dc_14_75_49 : decode prog_14_method_75_code 49 = .ok (.iaload, 1) := by decide +kernel
theorem dc_14_75_50 : decode prog_14_method_75_code 50 = .ok (.iaload, 1) := by decide +kernel
theorem dc_14_75_51 : decode prog_14_method_75_code 51 = .ok (.if_icmp .ne 5, 3) := by decide +kernel
theorem dc_14_75_54 : decode prog_14_method_75_code 54 = .ok (.iconst 2, 1) := by decide +kernel
theorem dc_14_75_55 : decode prog_14_method_75_code 55 = .ok (.ireturn, 1) := by decide +kernel
theorem dc_14_75_56 : decode prog_14_method_75_code 56 = .ok (.aload_n 0, 1) := by decide +kernel
theorem dc_14_75_57 : decode prog_14_method_75_code 57 = .ok (.iload_n 1, 1) := by decide +kernel
theorem dc_14_75_58 : decode prog_14_method_75_code 58 = .ok (.iconst 1, 1) := by decide +kernel
theorem dc_14_75_59 : decode prog_14_method_75_code 59 = .ok (.iload_n 2, 1) := by decide +kernel
theorem dc_14_75_60 : decode prog_14_method_75_code 60 = .ok (.invokevirtual 428, 3) := by decide +kernel
theorem dc_14_75_63 : decode prog_14_method_75_code 63 = .ok (.istore 4, 2) := by decide +kernel
theorem dc_14_75_65 : decode prog_14_method_75_code 65 = .ok (.iload 4, 2) := by decide +kernel
theorem dc_14_75_67 : decode prog_14_method_75_code 67 = .ok (.iconst (-1), 1) := by decide +kernel
theorem dc_14_75_68 : decode prog_14_method_75_code 68 = .ok (.if_icmp .eq 20, 3) := by decide +kernel
theorem dc_14_75_71 : decode prog_14_method_75_code 71 = .ok (.iload 4, 2) := by decide +kernel
theorem dc_14_75_73 : decode prog_14_method_75_code 73 = .ok (.aload_n 0, 1) := by decide +kernel
theorem dc_14_75_74 : decode prog_14_method_75_code 74 = .ok (.getfield 31, 3) := by decide +kernel
theorem dc_14_75_77 : decode prog_14_method_75_code 77 = .ok (.iload_n 3, 1) := by decide +kernel
theorem dc_14_75_78 : decode prog_14_method_75_code 78 = .ok (.iaload, 1) := by decide +kernel
theorem dc_14_75_79 : decode prog_14_method_75_code 79 = .ok (.if_icmp .gt 7, 3) := by decide +kernel
theorem dc_14_75_82 : decode prog_14_method_75_code 82 = .ok (.iconst 2, 1) := by decide +kernel
theorem dc_14_75_83 : decode prog_14_method_75_code 83 = .ok (.goto 4, 3) := by decide +kernel
theorem dc_14_75_86 : decode prog_14_method_75_code 86 = .ok (.iconst 0, 1) := by decide +kernel
theorem dc_14_75_87 : decode prog_14_method_75_code 87 = .ok (.ireturn, 1) := by decide +kernel
theorem dc_14_75_88 : decode prog_14_method_75_code 88 = .ok (.aload_n 0, 1) := by decide +kernel
theorem dc_14_75_89 : decode prog_14_method_75_code 89 = .ok (.iload_n 1, 1) := by decide +kernel
theorem dc_14_75_90 : decode prog_14_method_75_code 90 = .ok (.iconst 0, 1) := by decide +kernel
theorem dc_14_75_91 : decode prog_14_method_75_code 91 = .ok (.iload_n 2, 1) := by decide +kernel
theorem dc_14_75_92 : decode prog_14_method_75_code 92 = .ok (.invokevirtual 428, 3) := by decide +kernel
theorem dc_14_75_95 : decode prog_14_method_75_code 95 = .ok (.istore 5, 2) := by decide +kernel
theorem dc_14_75_97 : decode prog_14_method_75_code 97 = .ok (.iload 5, 2) := by decide +kernel
theorem dc_14_75_99 : decode prog_14_method_75_code 99 = .ok (.iconst (-1), 1) := by decide +kernel
theorem dc_14_75_100 : decode prog_14_method_75_code 100 = .ok (.if_icmp .ne 5, 3) := by decide +kernel
theorem dc_14_75_103 : decode prog_14_method_75_code 103 = .ok (.iconst 0, 1) := by decide +kernel
theorem dc_14_75_104 : decode prog_14_method_75_code 104 = .ok (.ireturn, 1) := by decide +kernel
theorem dc_14_75_105 : decode prog_14_method_75_code 105 = .ok (.iload 5, 2) := by decide +kernel
theorem dc_14_75_107 : decode prog_14_method_75_code 107 = .ok (.aload_n 0, 1) := by decide +kernel
theorem dc_14_75_108 : decode prog_14_method_75_code 108 = .ok (.getfield 13, 3) := by decide +kernel
theorem dc_14_75_111 : decode prog_14_method_75_code 111 = .ok (.aload_n 0, 1) := by decide +kernel
theorem dc_14_75_112 : decode prog_14_method_75_code 112 = .ok (.getfield 19, 3) := by decide +kernel
theorem dc_14_75_115 : decode prog_14_method_75_code 115 = .ok (.iload_n 3, 1) := by decide +kernel
theorem dc_14_75_116 : decode prog_14_method_75_code 116 = .ok (.iaload, 1) := by decide +kernel
theorem dc_14_75_117 : decode prog_14_method_75_code 117 = .ok (.iaload, 1) := by decide +kernel
theorem dc_14_75_118 : decode prog_14_method_75_code 118 = .ok (.iadd, 1) := by decide +kernel
theorem dc_14_75_119 : decode prog_14_method_75_code 119 = .ok (.aload_n 0, 1) := by decide +kernel
theorem dc_14_75_120 : decode prog_14_method_75_code 120 = .ok (.getfield 31, 3) := by decide +kernel
theorem dc_14_75_123 : decode prog_14_method_75_code 123 = .ok (.iload_n 3, 1) := by decide +kernel
theorem dc_14_75_124 : decode prog_14_method_75_code 124 = .ok (.iaload, 1) := by decide +kernel
theorem dc_14_75_125 : decode prog_14_method_75_code 125 = .ok (.if_icmp .gt 5, 3) := by decide +kernel
theorem dc_14_75_128 : decode prog_14_method_75_code 128 = .ok (.iconst 2, 1) := by decide +kernel
theorem dc_14_75_129 : decode prog_14_method_75_code 129 = .ok (.ireturn, 1) := by decide +kernel
theorem dc_14_75_130 : decode prog_14_method_75_code 130 = .ok (.iload 5, 2) := by decide +kernel
theorem dc_14_75_132 : decode prog_14_method_75_code 132 = .ok (.aload_n 0, 1) := by decide +kernel
theorem dc_14_75_133 : decode prog_14_method_75_code 133 = .ok (.getfield 7, 3) := by decide +kernel
theorem dc_14_75_136 : decode prog_14_method_75_code 136 = .ok (.aload_n 0, 1) := by decide +kernel
theorem dc_14_75_137 : decode prog_14_method_75_code 137 = .ok (.getfield 19, 3) := by decide +kernel
theorem dc_14_75_140 : decode prog_14_method_75_code 140 = .ok (.iload_n 3, 1) := by decide +kernel
theorem dc_14_75_141 : decode prog_14_method_75_code 141 = .ok (.iaload, 1) := by decide +kernel
theorem dc_14_75_142 : decode prog_14_method_75_code 142 = .ok (.iaload, 1) := by decide +kernel
theorem dc_14_75_143 : decode prog_14_method_75_code 143 = .ok (.iadd, 1) := by decide +kernel
theorem dc_14_75_144 : decode prog_14_method_75_code 144 = .ok (.aload_n 0, 1) := by decide +kernel
theorem dc_14_75_145 : decode prog_14_method_75_code 145 = .ok (.getfield 31, 3) := by decide +kernel
theorem dc_14_75_148 : decode prog_14_method_75_code 148 = .ok (.iload_n 3, 1) := by decide +kernel
theorem dc_14_75_149 : decode prog_14_method_75_code 149 = .ok (.iaload, 1) := by decide +kernel
theorem dc_14_75_150 : decode prog_14_method_75_code 150 = .ok (.if_icmp .le 7, 3) := by decide +kernel
theorem dc_14_75_153 : decode prog_14_method_75_code 153 = .ok (.iconst 0, 1) := by decide +kernel
theorem dc_14_75_154 : decode prog_14_method_75_code 154 = .ok (.goto 4, 3) := by decide +kernel
theorem dc_14_75_157 : decode prog_14_method_75_code 157 = .ok (.iconst 1, 1) := by decide +kernel
theorem dc_14_75_158 : decode prog_14_method_75_code 158 = .ok (.ireturn, 1) := by decide +kernel
theorem dc_14_76_0 : decode prog_14_method_76_code 0 = .ok (.aload_n 0, 1) := by decide +kernel
theorem dc_14_76_1 : decode prog_14_method_76_code 1 = .ok (.getfield 126, 3) := by decide +kernel
theorem dc_14_76_4 : decode prog_14_method_76_code 4 = .ok (.iload_n 1, 1) := by decide +kernel
theorem dc_14_76_5 : decode prog_14_method_76_code 5 = .ok (.iaload, 1) := by decide +kernel
theorem dc_14_76_6 : decode prog_14_method_76_code 6 = .ok (.istore 4, 2) := by decide +kernel
theorem dc_14_76_8 : decode prog_14_method_76_code 8 = .ok (.aload_n 0, 1) := by decide +kernel
theorem dc_14_76_9 : decode prog_14_method_76_code 9 = .ok (.getfield 123, 3) := by decide +kernel
theorem dc_14_76_12 : decode prog_14_method_76_code 12 = .ok (.iload_n 1, 1) := by decide +kernel
theorem dc_14_76_13 : decode prog_14_method_76_code 13 = .ok (.iaload, 1) := by decide +kernel
theorem dc_14_76_14 : decode prog_14_method_76_code 14 = .ok (.iconst 1, 1) := by decide +kernel
theorem dc_14_76_15 : decode prog_14_method_76_code 15 = .ok (.if_icmp .ne 25, 3) := by decide +kernel
theorem dc_14_76_18 : decode prog_14_method_76_code 18 = .ok (.iload_n 2, 1) := by decide +kernel
theorem dc_14_76_19 : decode prog_14_method_76_code 19 = .ok (.aload_n 0, 1) := by decide +kernel
theorem dc_14_76_20 : decode prog_14_method_76_code 20 = .ok (.getfield 31, 3) := by decide +kernel
theorem dc_14_76_23 : decode prog_14_method_76_code 23 = .ok (.iload 4, 2) := by decide +kernel
theorem dc_14_76_25 : decode prog_14_method_76_code 25 = .ok (.iaload, 1) := by decide +kernel
theorem dc_14_76_26 : decode prog_14_method_76_code 26 = .ok (.if_icmp .lt 14, 3) := by decide +kernel
theorem dc_14_76_29 : decode prog_14_method_76_code 29 = .ok (.iload_n 2, 1) := by decide +kernel
theorem dc_14_76_30 : decode prog_14_method_76_code 30 = .ok (.aload_n 0, 1) := by decide +kernel
theorem dc_14_76_31 : decode prog_14_method_76_code 31 = .ok (.getfield 34, 3) := by decide +kernel
theorem dc_14_76_34 : decode prog_14_method_76_code 34 = .ok (.iload 4, 2) := by decide +kernel
theorem dc_14_76_36 : decode prog_14_method_76_code 36 = .ok (.iaload, 1) := by decide +kernel
theorem dc_14_76_37 : decode prog_14_method_76_code 37 = .ok (.if_icmp .le 5, 3) := by decide +kernel
theorem dc_14_76_40 : decode prog_14_method_76_code 40 = .ok (.iconst 0, 1) := by decide +kernel
theorem dc_14_76_41 : decode prog_14_method_76_code 41 = .ok (.ireturn, 1) := by decide +kernel
theorem dc_14_76_42 : decode prog_14_method_76_code 42 = .ok (.aload_n 0, 1) := by decide +kernel
theorem dc_14_76_43 : decode prog_14_method_76_code 43 = .ok (.iload_n 1, 1) := by decide +kernel
theorem dc_14_76_44 : decode prog_14_method_76_code 44 = .ok (.iconst 2, 1) := by decide +kernel
theorem dc_14_76_45 : decode prog_14_method_76_code 45 = .ok (.iload_n 3, 1) := by decide +kernel
theorem dc_14_76_46 : decode prog_14_method_76_code 46 = .ok (.invokevirtual 428, 3) := by decide +kernel
theorem dc_14_76_49 : decode prog_14_method_76_code 49 = .ok (.istore 5, 2) := by decide +kernel
theorem dc_14_76_51 : decode prog_14_method_76_code 51 = .ok (.aload_n 0, 1) := by decide +kernel
theorem dc_14_76_52 : decode prog_14_method_76_code 52 = .ok (.iload_n 1, 1) := by decide +kernel
theorem dc_14_76_53 : decode prog_14_method_76_code 53 = .ok (.iconst 3, 1) := by decide +kernel
theorem dc_14_76_54 : decode prog_14_method_76_code 54 = .ok (.iload_n 3, 1) := by decide +kernel
theorem dc_14_76_55 : decode prog_14_method_76_code 55 = .ok (.invokevirtual 428, 3) := by decide +kernel
theorem dc_14_76_58 : decode prog_14_method_76_code 58 = .ok (.istore 6, 2) := by decide +kernel
theorem dc_14_76_60 : decode prog_14_method_76_code 60 = .ok (.iload 5, 2) := by decide +kernel
theorem dc_14_76_62 : decode prog_14_method_76_code 62 = .ok (.iconst (-1), 1) := by decide +kernel
theorem dc_14_76_63 : decode prog_14_method_76_code 63 = .ok (.if_icmp .eq 25, 3) := by decide +kernel
theorem dc_14_76_66 : decode prog_14_method_76_code 66 = .ok (.iload 5, 2) := by decide +kernel
theorem dc_14_76_68 : decode prog_14_method_76_code 68 = .ok (.iload_n 2, 1) := by decide +kernel
theorem dc_14_76_69 : decode prog_14_method_76_code 69 = .ok (.if_icmp .gt 19, 3) := by decide +kernel
theorem dc_14_76_72 : decode prog_14_method_76_code 72 = .ok (.iload 6, 2) := by decide +kernel
theorem dc_14_76_74 : decode prog_14_method_76_code 74 = .ok (.iconst (-1), 1) := by decide +kernel
theorem dc_14_76_75 : decode prog_14_method_76_code 75 = .ok (.if_icmp .eq 9, 3) := by decide +kernel
theorem dc_14_76_78 : decode prog_14_method_76_code 78 = .ok (.iload 6, 2) := by decide +kernel
theorem dc_14_76_80 : decode prog_14_method_76_code 80 = .ok (.iload_n 2, 1) := by decide +kernel
theorem dc_14_76_81 : decode prog_14_method_76_code 81 = .ok (.if_icmp .le 7, 3) := by decide +kernel
theorem dc_14_76_84 : decode prog_14_method_76_code 84 = .ok (.iconst 1, 1) := by decide +kernel
theorem dc_14_76_85 : decode prog_14_method_76_code 85 = .ok (.goto 4, 3) := by decide +kernel
theorem dc_14_76_88 : decode prog_14_method_76_code 88 = .ok (.iconst 0, 1) := by decide +kernel
theorem dc_14_76_89 : decode prog_14_method_76_code 89 = .ok (.ireturn, 1) := by decide +kernel
theorem dc_14_77_0 : decode prog_14_method_77_code 0 = .ok (.iconst 0, 1) := by decide +kernel
theorem dc_14_77_1 : decode prog_14_method_77_code 1 = .ok (.istore 4, 2) := by decide +kernel
theorem dc_14_77_3 : decode prog_14_method_77_code 3 = .ok (.iconst 0, 1) := by decide +kernel
theorem dc_14_77_4 : decode prog_14_method_77_code 4 = .ok (.istore 5, 2) := by decide +kernel
theorem dc_14_77_6 : decode prog_14_method_77_code 6 = .ok (.iload 5, 2) := by decide +kernel
theorem dc_14_77_8 : decode prog_14_method_77_code 8 = .ok (.aload_n 0, 1) := by decide +kernel
theorem dc_14_77_9 : decode prog_14_method_77_code 9 = .ok (.getfield 320, 3) := by decide +kernel
theorem dc_14_77_12 : decode prog_14_method_77_code 12 = .ok (.if_icmp .ge 52, 3) := by decide +kernel
theorem dc_14_77_15 : decode prog_14_method_77_code 15 = .ok (.iload 4, 2) := by decide +kernel
theorem dc_14_77_17 : decode prog_14_method_77_code 17 = .ok (.aload_n 0, 1) := by decide +kernel
theorem dc_14_77_18 : decode prog_14_method_77_code 18 = .ok (.getfield 123, 3) := by decide +kernel
theorem dc_14_77_21 : decode prog_14_method_77_code 21 = .ok (.iload 5, 2) := by decide +kernel
theorem dc_14_77_23 : decode prog_14_method_77_code 23 = .ok (.iaload, 1) := by decide +kernel
theorem dc_14_77_24 : decode prog_14_method_77_code 24 = .ok (.iconst 1, 1) := by decide +kernel
theorem dc_14_77_25 : decode prog_14_method_77_code 25 = .ok (.if_icmp .ne 29, 3) := by decide +kernel
theorem dc_14_77_28 : decode prog_14_method_77_code 28 = .ok (.aload_n 0, 1) := by decide +kernel
theorem dc_14_77_29 : decode prog_14_method_77_code 29 = .ok (.getfield 126, 3) := by decide +kernel
theorem dc_14_77_32 : decode prog_14_method_77_code 32 = .ok (.iload 5, 2) := by decide +kernel
theorem dc_14_77_34 : decode prog_14_method_77_code 34 = .ok (.iaload, 1) := by decide +kernel
theorem dc_14_77_35 : decode prog_14_method_77_code 35 = .ok (.iload_n 1, 1) := by decide +kernel
theorem dc_14_77_36 : decode prog_14_method_77_code 36 = .ok (.if_icmp .ne 18, 3) := by decide +kernel
theorem dc_14_77_39 : decode prog_14_method_77_code 39 = .ok (.aload_n 0, 1) := by decide +kernel
theorem dc_14_77_40 : decode prog_14_method_77_code 40 = .ok (.iload 5, 2) := by decide +kernel
theorem dc_14_77_42 : decode prog_14_method_77_code 42 = .ok (.iload_n 2, 1) := by decide +kernel
theorem dc_14_77_43 : decode prog_14_method_77_code 43 = .ok (.iload_n 3, 1) := by decide +kernel
theorem dc_14_77_44 : decode prog_14_method_77_code 44 = .ok (.invokevirtual 431, 3) := by decide +kernel
theorem dc_14_77_47 : decode prog_14_method_77_code 47 = .ok (.ifCond .eq 7, 3) := by decide +kernel
theorem dc_14_77_50 : decode prog_14_method_77_code 50 = .ok (.iconst 1, 1) := by decide +kernel
theorem dc_14_77_51 : decode prog_14_method_77_code 51 = .ok (.goto 4, 3) := by decide +kernel
theorem dc_14_77_54 : decode prog_14_method_77_code 54 = .ok (.iconst 0, 1) := by decide +kernel
theorem dc_14_77_55 : decode prog_14_method_77_code 55 = .ok (.iadd, 1) := by decide +kernel
theorem dc_14_77_56 : decode prog_14_method_77_code 56 = .ok (.istore 4, 2) := by decide +kernel
theorem dc_14_77_58 : decode prog_14_method_77_code 58 = .ok (.iinc 5 1, 3) := by decide +kernel
theorem dc_14_77_61 : decode prog_14_method_77_code 61 = .ok (.goto (-55), 3) := by decide +kernel
theorem dc_14_77_64 : decode prog_14_method_77_code 64 = .ok (.iload 4, 2) := by decide +kernel
theorem dc_14_77_66 : decode prog_14_method_77_code 66 = .ok (.ireturn, 1) := by decide +kernel
theorem dc_14_78_0 : decode prog_14_method_78_code 0 = .ok (.aload_n 0, 1) := by decide +kernel
theorem dc_14_78_1 : decode prog_14_method_78_code 1 = .ok (.iload_n 1, 1) := by decide +kernel
theorem dc_14_78_2 : decode prog_14_method_78_code 2 = .ok (.invokevirtual 205, 3) := by decide +kernel
theorem dc_14_78_5 : decode prog_14_method_78_code 5 = .ok (.ifCond .eq 27, 3) := by decide +kernel
theorem dc_14_78_8 : decode prog_14_method_78_code 8 = .ok (.iload_n 2, 1) := by decide +kernel
theorem dc_14_78_9 : decode prog_14_method_78_code 9 = .ok (.invokestatic 422, 3) := by decide +kernel
theorem dc_14_78_12 : decode prog_14_method_78_code 12 = .ok (.ifCond .eq 20, 3) := by decide +kernel
theorem dc_14_78_15 : decode prog_14_method_78_code 15 = .ok (.iload_n 3, 1) := by decide +kernel
theorem dc_14_78_16 : decode prog_14_method_78_code 16 = .ok (.invokestatic 422, 3) := by decide +kernel
theorem dc_14_78_19 : decode prog_14_method_78_code 19 = .ok (.ifCond .eq 13, 3) := by decide +kernel
theorem dc_14_78_22 : decode prog_14_method_78_code 22 = .ok (.aload_n 0, 1) := by decide +kernel
theorem dc_14_78_23 : decode prog_14_method_78_code 23 = .ok (.iload_n 1, 1) := by decide +kernel
theorem dc_14_78_24 : decode prog_14_method_78_code 24 = .ok (.iload_n 2, 1) := by decide +kernel
theorem dc_14_78_25 : decode prog_14_method_78_code 25 = .ok (.iload_n 3, 1) := by decide +kernel
theorem dc_14_78_26 : decode prog_14_method_78_code 26 = .ok (.invokevirtual 434, 3) := by decide +kernel
theorem dc_14_78_29 : decode prog_14_method_78_code 29 = .ok (.goto 4, 3) := by decide +kernel
theorem dc_14_78_32 : decode prog_14_method_78_code 32 = .ok (.iconst (-1), 1) := by decide +kernel
theorem dc_14_78_33 : decode prog_14_method_78_code 33 = .ok (.ireturn, 1) := by decide +kernel
theorem dc_14_79_0 : decode prog_14_method_79_code 0 = .ok (.aload_n 0, 1) := by decide +kernel
theorem dc_14_79_1 : decode prog_14_method_79_code 1 = .ok (.iload_n 1, 1) := by decide +kernel
theorem dc_14_79_2 : decode prog_14_method_79_code 2 = .ok (.invokevirtual 323, 3) := by decide +kernel
theorem dc_14_79_5 : decode prog_14_method_79_code 5 = .ok (.ifCond .eq 29, 3) := by decide +kernel
theorem dc_14_79_8 : decode prog_14_method_79_code 8 = .ok (.aload_n 0, 1) := by decide +kernel
theorem dc_14_79_9 : decode prog_14_method_79_code 9 = .ok (.getfield 123, 3) := by decide +kernel
theorem dc_14_79_12 : decode prog_14_method_79_code 12 = .ok (.iload_n 1, 1) := by decide +kernel
theorem dc_14_79_13 : decode prog_14_method_79_code 13 = .ok (.iaload, 1) := by decide +kernel
theorem dc_14_79_14 : decode prog_14_method_79_code 14 = .ok (.iconst 1, 1) := by decide +kernel
theorem dc_14_79_15 : decode prog_14_method_79_code 15 = .ok (.if_icmp .ne 19, 3) := by decide +kernel
theorem dc_14_79_18 : decode prog_14_method_79_code 18 = .ok (.iload_n 2, 1) := by decide +kernel
theorem dc_14_79_19 : decode prog_14_method_79_code 19 = .ok (.iconst 0, 1) := by decide +kernel
theorem dc_14_79_20 : decode prog_14_method_79_code 20 = .ok (.iconst 1, 1) := by decide +kernel
theorem dc_14_79_21 : decode prog_14_method_79_code 21 = .ok (.invokestatic 180, 3) := by decide +kernel
theorem dc_14_79_24 : decode prog_14_method_79_code 24 = .ok (.ifCond .eq 10, 3) := by decide +kernel
theorem dc_14_79_27 : decode prog_14_method_79_code 27 = .ok (.iload_n 3, 1) := by decide +kernel
theorem dc_14_79_28 : decode prog_14_method_79_code 28 = .ok (.invokestatic 422, 3) := by decide +kernel
theorem dc_14_79_31 : decode prog_14_method_79_code 31 = .ok (.ifCond .ne 5, 3) := by decide +kernel
theorem dc_14_79_34 : decode prog_14_method_79_code 34 = .ok (.iconst (-1), 1) := by decide +kernel
theorem dc_14_79_35 : decode prog_14_method_79_code 35 = .ok (.ireturn, 1) := by decide +kernel
theorem dc_14_79_36 : decode prog_14_method_79_code 36 = .ok (.aload_n 0, 1) := by decide +kernel
theorem dc_14_79_37 : decode prog_14_method_79_code 37 = .ok (.getfield 126, 3) := by decide +kernel
theorem dc_14_79_40 : decode prog_14_method_79_code 40 = .ok (.iload_n 1, 1) := by decide +kernel
theorem dc_14_79_41 : decode prog_14_method_79_code 41 = .ok (.iaload, 1) := by decide +kernel
theorem dc_14_79_42 : decode prog_14_method_79_code 42 = .ok (.istore 4, 2) := by decide +kernel
theorem dc_14_79_44 : decode prog_14_method_79_code 44 = .ok (.aload_n 0, 1) := by decide +kernel
theorem dc_14_79_45 : decode prog_14_method_79_code 45 = .ok (.getfield 34, 3) := by decide +kernel
theorem dc_14_79_48 : decode prog_14_method_79_code 48 = .ok (.iload 4, 2) := by decide +kernel
theorem dc_14_79_50 : decode prog_14_method_79_code 50 = .ok (.iaload, 1) := by decide +kernel
theorem dc_14_79_51 : decode prog_14_method_79_code 51 = .ok (.aload_n 0, 1) := by decide +kernel
theorem dc_14_79_52 : decode prog_14_method_79_code 52 = .ok (.getfield 31, 3) := by decide +kernel
theorem dc_14_79_55 : decode prog_14_method_79_code 55 = .ok (.iload 4, 2) := by decide +kernel
theorem dc_14_79_57 : decode prog_14_method_79_code 57 = .ok (.iaload, 1) := by decide +kernel
theorem dc_14_79_58 : decode prog_14_method_79_code 58 = .ok (.isub, 1) := by decide +kernel
theorem dc_14_79_59 : decode prog_14_method_79_code 59 = .ok (.iconst 1, 1) := by decide +kernel
theorem dc_14_79_60 : decode prog_14_method_79_code 60 = .ok (.iadd, 1) := by decide +kernel
theorem dc_14_79_61 : decode prog_14_method_79_code 61 = .ok (.istore 5, 2) := by decide +kernel
theorem dc_14_79_63 : decode prog_14_method_79_code 63 = .ok (.iconst 0, 1) := by decide +kernel
theorem dc_14_79_64 : decode prog_14_method_79_code 64 = .ok (.istore 6, 2) := by decide +kernel
theorem dc_14_79_66 : decode prog_14_method_79_code 66 = .ok (.aload_n 0, 1) := by decide +kernel
theorem dc_14_79_67 : decode prog_14_method_79_code 67 = .ok (.getfield 31, 3) := by decide +kernel
theorem dc_14_79_70 : decode prog_14_method_79_code 70 = .ok (.iload 4, 2) := by decide +kernel
theorem dc_14_79_72 : decode prog_14_method_79_code 72 = .ok (.iaload, 1) := by decide +kernel
theorem dc_14_79_73 : decode prog_14_method_79_code 73 = .ok (.istore 7, 2) := by decide +kernel
theorem dc_14_79_75 : decode prog_14_method_79_code 75 = .ok (.iload 7, 2) := by decide +kernel
theorem dc_14_79_77 : decode prog_14_method_79_code 77 = .ok (.aload_n 0, 1) := by decide +kernel
theorem dc_14_79_78 : decode prog_14_method_79_code 78 = .ok (.getfield 34, 3) := by decide +kernel
theorem dc_14_79_81 : decode prog_14_method_79_code 81 = .ok (.iload 4, 2) := by decide +kernel
theorem dc_14_79_83 : decode prog_14_method_79_code 83 = .ok (.iaload, 1) := by decide +kernel
theorem dc_14_79_84 : decode prog_14_method_79_code 84 = .ok (.if_icmp .gt 30, 3) := by decide +kernel
theorem dc_14_79_87 : decode prog_14_method_79_code 87 = .ok (.iload 6, 2) := by decide +kernel
theorem dc_14_79_89 : decode prog_14_method_79_code 89 = .ok (.aload_n 0, 1) := by decide +kernel
theorem dc_14_79_90 : decode prog_14_method_79_code 90 = .ok (.iload_n 1, 1) := by decide +kernel
theorem dc_14_79_91 : decode prog_14_method_79_code 91 = .ok (.iload 7, 2) := by decide +kernel
theorem dc_14_79_93 : decode prog_14_method_79_code 93 = .ok (.iload_n 3, 1) := by decide +kernel
theorem dc_14_79_94 : decode prog_14_method_79_code 94 = .ok (.invokevirtual 431, 3) := by decide +kernel
theorem dc_14_79_97 : decode prog_14_method_79_code 97 = .ok (.ifCond .eq 7, 3) := by decide +kernel
theorem dc_14_79_100 : decode prog_14_method_79_code 100 = .ok (.iconst 1, 1) := by decide +kernel
theorem dc_14_79_101 : decode prog_14_method_79_code 101 = .ok (.goto 4, 3) := by decide +kernel
theorem dc_14_79_104 : decode prog_14_method_79_code 104 = .ok (.iconst 0, 1) := by decide +kernel
theorem dc_14_79_105 : decode prog_14_method_79_code 105 = .ok (.iadd, 1) := by decide +kernel
theorem dc_14_79_106 : decode prog_14_method_79_code 106 = .ok (.istore 6, 2) := by decide +kernel
theorem dc_14_79_108 : decode prog_14_method_79_code 108 = .ok (.iinc 7 1, 3) := by decide +kernel
theorem dc_14_79_111 : decode prog_14_method_79_code 111 = .ok (.goto (-36), 3) := by decide +kernel
theorem dc_14_79_114 : decode prog_14_method_79_code 114 = .ok (.iload_n 2, 1) := by decide +kernel
theorem dc_14_79_115 : decode prog_14_method_79_code 115 = .ok (.iconst 1, 1) := by decide +kernel
theorem dc_14_79_116 : decode prog_14_method_79_code 116 = .ok (.if_icmp .ne 24, 3) := by decide +kernel
theorem dc_14_79_119 : decode prog_14_method_79_code 119 = .ok (.aload_n 0, 1) := by decide +kernel
theorem dc_14_79_120 : decode prog_14_method_79_code 120 = .ok (.getfield 37, 3) := by decide +kernel
theorem dc_14_79_123 : decode prog_14_method_79_code 123 = .ok (.aload_n 0, 1) := by decide +kernel
theorem dc_14_79_124 : decode prog_14_method_79_code 124 = .ok (.getfield 108, 3) := by decide +kernel
theorem dc_14_79_127 : decode prog_14_method_79_code 127 = .ok (.iload_n 1, 1) := by decide +kernel
theorem dc_14_79_128 : decode prog_14_method_79_code 128 = .ok (.iaload, 1) := by decide +kernel
theorem dc_14_79_129 : decode prog_14_method_79_code 129 = .ok (.iaload, 1) := by decide +kernel
theorem dc_14_79_130 : decode prog_14_method_79_code 130 = .ok (.iload 5, 2) := by decide +kernel
theorem dc_14_79_132 : decode prog_14_method_79_code 132 = .ok (.iload 6, 2) := by decide +kernel
theorem dc_14_79_134 : decode prog_14_method_79_code 134 = .ok (.isub, 1) := by decide +kernel
theorem dc_14_79_135 : decode prog_14_method_79_code 135 = .ok (.imul, 1) := by decide +kernel
theorem dc_14_79_136 : decode prog_14_method_79_code 136 = .ok (.iload 5, 2) := by decide +kernel
theorem dc_14_79_138 : decode prog_14_method_79_code 138 = .ok (.idiv, 1) := by decide +kernel
theorem dc_14_79_139 : decode prog_14_method_79_code 139 = .ok (.ireturn, 1) := by decide +kernel
theorem dc_14_79_140 : decode prog_14_method_79_code 140 = .ok (.aload_n 0, 1) := by decide +kernel
theorem dc_14_79_141 : decode prog_14_method_79_code 141 = .ok (.iload_n 1, 1) := by decide +kernel
theorem dc_14_79_142 : decode prog_14_method_79_code 142 = .ok (.iload 4, 2) := by decide +kernel
theorem dc_14_79_144 : decode prog_14_method_79_code 144 = .ok (.invokevirtual 416, 3) := by decide +kernel
theorem dc_14_79_147 : decode prog_14_method_79_code 147 = .ok (.aload_n 0, 1) := by decide +kernel
theorem dc_14_79_148 : decode prog_14_method_79_code 148 = .ok (.getfield 404, 3) := by decide +kernel
theorem dc_14_79_151 : decode prog_14_method_79_code 151 = .ok (.iload 6, 2) := by decide +kernel
theorem dc_14_79_153 : decode prog_14_method_79_code 153 = .ok (.imul, 1) := by decide +kernel
theorem dc_14_79_154 : decode prog_14_method_79_code 154 = .ok (.iload 5, 2) := by decide +kernel
theorem dc_14_79_156 : decode prog_14_method_79_code 156 = .ok (.idiv, 1) := by decide +kernel
theorem dc_14_79_157 : decode prog_14_method_79_code 157 = .ok (.ireturn, 1) := by decide +kernel
theorem dc_14_80_0 : decode prog_14_method_80_code 0 = .ok (.aload_n 0, 1) := by decide +kernel
theorem dc_14_80_1 : decode prog_14_method_80_code 1 = .ok (.iload_n 1, 1) := by decide +kernel
theorem dc_14_80_2 : decode prog_14_method_80_code 2 = .ok (.invokevirtual 205, 3) := by decide +kernel
theorem dc_14_80_5 : decode prog_14_method_80_code 5 = .ok (.ifCond .eq 10, 3) := by decide +kernel
theorem dc_14_80_8 : decode prog_14_method_80_code 8 = .ok (.iload_n 2, 1) := by decide +kernel
theorem dc_14_80_9 : decode prog_14_method_80_code 9 = .ok (.invokestatic 422, 3) := by decide +kernel
theorem dc_14_80_12 : decode prog_14_method_80_code 12 = .ok (.ifCond .ne 5, 3) := by decide +kernel
theorem dc_14_80_15 : decode prog_14_method_80_code 15 = .ok (.iconst (-1), 1) := by decide +kernel
theorem dc_14_80_16 : decode prog_14_method_80_code 16 = .ok (.ireturn, 1) := by decide +kernel
theorem dc_14_80_17 : decode prog_14_method_80_code 17 = .ok (.iconst 0, 1) := by decide +kernel
theorem dc_14_80_18 : decode prog_14_method_80_code 18 = .ok (.istore_n 3, 1) := by decide +kernel
theorem dc_14_80_19 : decode prog_14_method_80_code 19 = .ok (.iload_n 3, 1) := by decide +kernel
theorem dc_14_80_20 : decode prog_14_method_80_code 20 = .ok (.sipush 360, 3) := by decide +kernel
theorem dc_14_80_23 : decode prog_14_method_80_code 23 = .ok (.if_icmp .ge 27, 3) := by decide +kernel
theorem dc_14_80_26 : decode prog_14_method_80_code 26 = .ok (.aload_n 0, 1) := by decide +kernel
theorem dc_14_80_27 : decode prog_14_method_80_code 27 = .ok (.iload_n 1, 1) := by decide +kernel
theorem dc_14_80_28 : decode prog_14_method_80_code 28 = .ok (.iload_n 3, 1) := by decide +kernel
theorem dc_14_80_29 : decode prog_14_method_80_code 29 = .ok (.iload_n 2, 1) := by decide +kernel
theorem dc_14_80_30 : decode prog_14_method_80_code 30 = .ok (.invokevirtual 434, 3) := by decide +kernel
theorem dc_14_80_33 : decode prog_14_method_80_code 33 = .ok (.aload_n 0, 1) := by decide +kernel
theorem dc_14_80_34 : decode prog_14_method_80_code 34 = .ok (.getfield 25, 3) := by decide +kernel
theorem dc_14_80_37 : decode prog_14_method_80_code 37 = .ok (.iload_n 1, 1) := by decide +kernel
theorem dc_14_80_38 : decode prog_14_method_80_code 38 = .ok (.iaload, 1) := by decide +kernel
theorem dc_14_80_39 : decode prog_14_method_80_code 39 = .ok (.if_icmp .le 5, 3) := by decide +kernel
theorem dc_14_80_42 : decode prog_14_method_80_code 42 = .ok (.iload_n 3, 1) := by decide +kernel
theorem dc_14_80_43 : decode prog_14_method_80_code 43 = .ok (.ireturn, 1) := by decide +kernel
theorem dc_14_80_44 : decode prog_14_method_80_code 44 = .ok (.iinc 3 1, 3) := by decide +kernel
theorem dc_14_80_47 : decode prog_14_method_80_code 47 = .ok (.goto (-28), 3) := by decide +kernel
theorem dc_14_80_50 : decode prog_14_method_80_code 50 = .ok (.iconst (-1), 1) := by decide +kernel
theorem dc_14_80_51 : decode prog_14_method_80_code 51 = .ok (.ireturn, 1) := by decide +kernel
theorem iv_13_v431 : mm_iv 13 (.invokevirtual 431) = some (1, 262) := by decide +kernel
theorem iv_13_v434 : mm_iv 13 (.invokevirtual 434) = some (1, 261) := by decide +kernel
theorem o_261 : mm_o 261 = 13 := by decide +kernel
theorem o_262 : mm_o 262 = 13 := by decide +kernel
theorem na_1_261 : mm_nas 1 261 = 4 := by decide +kernel
theorem na_1_262 : mm_nas 1 262 = 4 := by decide +kernel
theorem sp_add {f : Nat → Int32} {n : Nat} {acc v : Int32} (h : acc = sp_sum f n) (e : f n = v) : acc + v = sp_sum f (n + 1) := by rw [h, ← e]; rfl
def sp_visa (sg : Nat → Nat → Int32) (nf p hm lp : Nat) (s t : Int32) : Int32 := if sg 9 p = sg 9 hm then nI 2 else if ¬ sp_kn sg s (nI 1) t nf = -1 then (if sp_kn sg s (nI 1) t nf ≤ sg 13 p then nI 2 else nI 0) else if sp_kn sg s (nI 0) t nf = -1 then nI 0 else if sp_kn sg s (nI 0) t nf + sg 1 lp ≤ sg 13 p then nI 2 else if sg 13 p < sp_kn sg s (nI 0) t nf + sg 0 lp then nI 0 else nI 1
set_option maxHeartbeats 4000000 in
theorem c_visa_ok (M : mH) (hM : 157 ≤ M.1) (io : Nat → Int32) (sg : Nat → Nat → Int32) (ns : Nat) (h5 : io 5 = nI ns) (hns : ns ≤ 16) (nf : Nat) (h7 : io 7 = nI nf) (hnf : nf ≤ 200) (s p hm : Nat) (hs : s < ns) (h56 : sg 56 s = nI 1) (h57 : sg 57 s = nI p) (hp : p < 8) (h51 : sg 51 s = nI hm) (hhm : hm < 8) (lp : Nat) (hlp : sg 9 p = nI lp) (hl4 : lp < 4) (t : Nat) (ht : t < 360) : mm_Ev 2 259 [.ref 100, .int (nI s), .int (nI t)] (rf_mk M io sg) ((some (.int (sp_visa sg nf p hm lp (nI s) (nI t))), rf_mk M io sg)) := by
  refine r_ev (by decide +kernel) (show (3 : Nat) ≤ mm_nL 259 by decide +kernel) ?_
  show mm_Ru 1 (13, 6, false, prog_14_method_75_code, some .int) 0 [(0, .ref 100), (1, .int (nI s)), (2, .int (nI t))] [] (rf_mk M io sg) (fun r9 => r9 = ((some (.int (sp_visa sg nf p hm lp (nI s) (nI t))), rf_mk M io sg)))
  refine r_aload_n rfl dc_14_75_0 ?_
  refine r_iload_n rfl dc_14_75_1 ?_
  refine q_calli (as := [.int (nI s)]) (rest := []) (v := .int (nI 1)) (M1 := rf_mk M io sg) iv_13_v323 na_1_222 o_222 hM rfl (show (0 : Nat) ≤ 8 by decide) dc_14_75_2 (c_isStudentT M hM io sg ns h5 s (by omega) (by omega)) ?_
  refine r_ifeq (t := 25) (by decide) dc_14_75_5 (fun c_5 => ?_) (fun c_5 => ?_)
  · exact absurd c_5 (by decide)
  · skip
    refine r_aload_n rfl dc_14_75_8 ?_
    refine q_get (v := .ref 138) rx_123 hM rfl dc_14_75_9 ?_
    refine r_iload_n rfl dc_14_75_12 ?_
    refine q_ild (e := s) (v := sg 56 s) (by decide) (by decide) hM rfl (show s < 16 by omega) (by omega) (rfl) dc_14_75_13 ?_
    refine r_iconst (v := nI 1) (by decide) dc_14_75_14 ?_
    refine r_icne (t := 25) (by decide) dc_14_75_15 (fun c_15 => ?_) (fun c_15 => ?_)
    · exact absurd h56 c_15
    · skip
      refine r_iload_n rfl dc_14_75_18 ?_
      refine q_calls (as := [.int (nI t)]) (rest := []) (v := .int (nI 1)) iv_13_s422 na_0_256 rfl (show (0 : Nat) ≤ 8 by decide) dc_14_75_19 (c_isDayT _ t (by omega)) ?_
      refine r_ifne (t := 27) (by decide) dc_14_75_22 (fun c_22 => ?_) (fun c_22 => ?_)
      · skip
        refine r_aload_n rfl dc_14_75_27 ?_
        refine q_get (v := .ref 139) rx_126 hM rfl dc_14_75_28 ?_
        refine r_iload_n rfl dc_14_75_31 ?_
        refine q_ild (e := s) (v := nI p) (by decide) (by decide) hM rfl (show s < 16 by omega) (by omega) (h57) dc_14_75_32 ?_
        refine r_istore_n (ls' := [(3, .int (nI p)), (0, .ref 100), (1, .int (nI s)), (2, .int (nI t))]) (by decide) rfl dc_14_75_33 ?_
        refine r_aload_n rfl dc_14_75_34 ?_
        refine q_get (v := .ref 104) rx_19 hM rfl dc_14_75_35 ?_
        refine r_iload_n rfl dc_14_75_38 ?_
        refine q_ild (e := p) (v := sg 9 p) (by decide) (by decide) hM rfl (show p < 8 by omega) (by omega) (rfl) dc_14_75_39 ?_
        refine r_aload_n rfl dc_14_75_40 ?_
        refine q_get (v := .ref 104) rx_19 hM rfl dc_14_75_41 ?_
        refine r_aload_n rfl dc_14_75_44 ?_
        refine q_get (v := .ref 133) rx_108 hM rfl dc_14_75_45 ?_
        refine r_iload_n rfl dc_14_75_48 ?_
        refine q_ild (e := s) (v := nI hm) (by decide) (by decide) hM rfl (show s < 16 by omega) (by omega) (h51) dc_14_75_49 ?_
        refine q_ild (e := hm) (v := sg 9 hm) (by decide) (by decide) hM rfl (show hm < 8 by omega) (by omega) (rfl) dc_14_75_50 ?_
        refine r_icne (t := 56) (by decide) dc_14_75_51 (fun c_51 => ?_) (fun c_51 => ?_)
        · skip
          refine r_aload_n rfl dc_14_75_56 ?_
          refine r_iload_n rfl dc_14_75_57 ?_
          refine r_iconst (v := nI 1) (by decide) dc_14_75_58 ?_
          refine r_iload_n rfl dc_14_75_59 ?_
          refine q_calli (as := [.int (nI s), .int (nI 1), .int (nI t)]) (rest := []) (v := .int (sp_kn sg (nI s) (nI 1) (nI t) nf)) (M1 := rf_mk M io sg) iv_13_v428 na_1_258 o_258 hM rfl (show (0 : Nat) ≤ 8 by decide) dc_14_75_60 (c_knownOf M hM io sg nf h7 hnf (nI s) (nI 1) (nI t)) ?_
          refine r_istore (ls' := [(4, .int (sp_kn sg (nI s) (nI 1) (nI t) nf)), (3, .int (nI p)), (0, .ref 100), (1, .int (nI s)), (2, .int (nI t))]) (by decide) rfl dc_14_75_63 ?_
          refine r_iload rfl dc_14_75_65 ?_
          refine r_iconst (v := -1) (by decide) dc_14_75_67 ?_
          refine r_iceq (t := 88) (by decide) dc_14_75_68 (fun c_68 => ?_) (fun c_68 => ?_)
          · skip
            refine r_aload_n rfl dc_14_75_88 ?_
            refine r_iload_n rfl dc_14_75_89 ?_
            refine r_iconst (v := nI 0) (by decide) dc_14_75_90 ?_
            refine r_iload_n rfl dc_14_75_91 ?_
            refine q_calli (as := [.int (nI s), .int (nI 0), .int (nI t)]) (rest := []) (v := .int (sp_kn sg (nI s) (nI 0) (nI t) nf)) (M1 := rf_mk M io sg) iv_13_v428 na_1_258 o_258 hM rfl (show (0 : Nat) ≤ 8 by decide) dc_14_75_92 (c_knownOf M hM io sg nf h7 hnf (nI s) (nI 0) (nI t)) ?_
            refine r_istore (ls' := [(5, .int (sp_kn sg (nI s) (nI 0) (nI t) nf)), (4, .int (sp_kn sg (nI s) (nI 1) (nI t) nf)), (3, .int (nI p)), (0, .ref 100), (1, .int (nI s)), (2, .int (nI t))]) (by decide) rfl dc_14_75_95 ?_
            refine r_iload rfl dc_14_75_97 ?_
            refine r_iconst (v := -1) (by decide) dc_14_75_99 ?_
            refine r_icne (t := 105) (by decide) dc_14_75_100 (fun c_100 => ?_) (fun c_100 => ?_)
            · skip
              refine r_iload rfl dc_14_75_105 ?_
              refine r_aload_n rfl dc_14_75_107 ?_
              refine q_get (v := .ref 102) rx_13 hM rfl dc_14_75_108 ?_
              refine r_aload_n rfl dc_14_75_111 ?_
              refine q_get (v := .ref 104) rx_19 hM rfl dc_14_75_112 ?_
              refine r_iload_n rfl dc_14_75_115 ?_
              refine q_ild (e := p) (v := nI lp) (by decide) (by decide) hM rfl (show p < 8 by omega) (by omega) (hlp) dc_14_75_116 ?_
              refine q_ild (e := lp) (v := sg 1 lp) (by decide) (by decide) hM rfl (show lp < 4 by omega) (by omega) (rfl) dc_14_75_117 ?_
              refine r_iadd (v := (sp_kn sg (nI s) (nI 0) (nI t) nf) + (sg 1 lp)) (rfl) dc_14_75_118 ?_
              refine r_aload_n rfl dc_14_75_119 ?_
              refine q_get (v := .ref 108) rx_31 hM rfl dc_14_75_120 ?_
              refine r_iload_n rfl dc_14_75_123 ?_
              refine q_ild (e := p) (v := sg 13 p) (by decide) (by decide) hM rfl (show p < 8 by omega) (by omega) (rfl) dc_14_75_124 ?_
              refine r_icgt (t := 130) (by decide) dc_14_75_125 (fun c_125 => ?_) (fun c_125 => ?_)
              · skip
                refine r_iload rfl dc_14_75_130 ?_
                refine r_aload_n rfl dc_14_75_132 ?_
                refine q_get (v := .ref 101) rx_7 hM rfl dc_14_75_133 ?_
                refine r_aload_n rfl dc_14_75_136 ?_
                refine q_get (v := .ref 104) rx_19 hM rfl dc_14_75_137 ?_
                refine r_iload_n rfl dc_14_75_140 ?_
                refine q_ild (e := p) (v := nI lp) (by decide) (by decide) hM rfl (show p < 8 by omega) (by omega) (hlp) dc_14_75_141 ?_
                refine q_ild (e := lp) (v := sg 0 lp) (by decide) (by decide) hM rfl (show lp < 4 by omega) (by omega) (rfl) dc_14_75_142 ?_
                refine r_iadd (v := (sp_kn sg (nI s) (nI 0) (nI t) nf) + (sg 0 lp)) (rfl) dc_14_75_143 ?_
                refine r_aload_n rfl dc_14_75_144 ?_
                refine q_get (v := .ref 108) rx_31 hM rfl dc_14_75_145 ?_
                refine r_iload_n rfl dc_14_75_148 ?_
                refine q_ild (e := p) (v := sg 13 p) (by decide) (by decide) hM rfl (show p < 8 by omega) (by omega) (rfl) dc_14_75_149 ?_
                refine r_icle (t := 157) (by decide) dc_14_75_150 (fun c_150 => ?_) (fun c_150 => ?_)
                · skip
                  refine r_iconst (v := nI 1) (by decide) dc_14_75_157 ?_
                  refine r_iret rfl dc_14_75_158 ?_
                  unfold sp_visa
                  rw [if_neg c_51, if_neg (fun q => q c_68), if_neg c_100, if_neg (Int32.not_le.mpr c_125), if_neg (Int32.not_lt.mpr c_150)]
                · skip
                  refine r_iconst (v := nI 0) (by decide) dc_14_75_153 ?_
                  refine r_goto (t := 158) (by decide) dc_14_75_154 ?_
                  refine r_iret rfl dc_14_75_158 ?_
                  unfold sp_visa
                  rw [if_neg c_51, if_neg (fun q => q c_68), if_neg c_100, if_neg (Int32.not_le.mpr c_125), if_pos (Int32.not_le.mp c_150)]
              · skip
                refine r_iconst (v := nI 2) (by decide) dc_14_75_128 ?_
                refine r_iret rfl dc_14_75_129 ?_
                unfold sp_visa
                rw [if_neg c_51, if_neg (fun q => q c_68), if_neg c_100, if_pos (Int32.not_lt.mp c_125)]
            · skip
              refine r_iconst (v := nI 0) (by decide) dc_14_75_103 ?_
              refine r_iret rfl dc_14_75_104 ?_
              unfold sp_visa
              rw [if_neg c_51, if_neg (fun q => q c_68), if_pos c_100]
          · skip
            refine r_iload rfl dc_14_75_71 ?_
            refine r_aload_n rfl dc_14_75_73 ?_
            refine q_get (v := .ref 108) rx_31 hM rfl dc_14_75_74 ?_
            refine r_iload_n rfl dc_14_75_77 ?_
            refine q_ild (e := p) (v := sg 13 p) (by decide) (by decide) hM rfl (show p < 8 by omega) (by omega) (rfl) dc_14_75_78 ?_
            refine r_icgt (t := 86) (by decide) dc_14_75_79 (fun c_79 => ?_) (fun c_79 => ?_)
            · skip
              refine r_iconst (v := nI 0) (by decide) dc_14_75_86 ?_
              refine r_iret rfl dc_14_75_87 ?_
              unfold sp_visa
              rw [if_neg c_51, if_pos c_68, if_neg (Int32.not_le.mpr c_79)]
            · skip
              refine r_iconst (v := nI 2) (by decide) dc_14_75_82 ?_
              refine r_goto (t := 87) (by decide) dc_14_75_83 ?_
              refine r_iret rfl dc_14_75_87 ?_
              unfold sp_visa
              rw [if_neg c_51, if_pos c_68, if_pos (Int32.not_lt.mp c_79)]
        · skip
          refine r_iconst (v := nI 2) (by decide) dc_14_75_54 ?_
          refine r_iret rfl dc_14_75_55 ?_
          unfold sp_visa
          rw [if_pos c_51]
      · exact absurd c_22 (by decide)
set_option maxHeartbeats 4000000 in
theorem c_visa_n2 (M : mH) (hM : 157 ≤ M.1) (io : Nat → Int32) (sg : Nat → Nat → Int32) (ns : Nat) (h5 : io 5 = nI ns) (hns : ns ≤ 16) (s : Nat) (t : Int32) (hs : s < ns) (hno : ¬ (sg 56 s = nI 1 ∧ (0 ≤ t ∧ t < nI 360))) : mm_Ev 2 259 [.ref 100, .int (nI s), .int t] (rf_mk M io sg) ((some (.int (-1)), rf_mk M io sg)) := by
  refine r_ev (by decide +kernel) (show (3 : Nat) ≤ mm_nL 259 by decide +kernel) ?_
  show mm_Ru 1 (13, 6, false, prog_14_method_75_code, some .int) 0 [(0, .ref 100), (1, .int (nI s)), (2, .int t)] [] (rf_mk M io sg) (fun r9 => r9 = ((some (.int (-1)), rf_mk M io sg)))
  refine r_aload_n rfl dc_14_75_0 ?_
  refine r_iload_n rfl dc_14_75_1 ?_
  refine q_calli (as := [.int (nI s)]) (rest := []) (v := .int (nI 1)) (M1 := rf_mk M io sg) iv_13_v323 na_1_222 o_222 hM rfl (show (0 : Nat) ≤ 8 by decide) dc_14_75_2 (c_isStudentT M hM io sg ns h5 s (by omega) (by omega)) ?_
  refine r_ifeq (t := 25) (by decide) dc_14_75_5 (fun c_5 => ?_) (fun c_5 => ?_)
  · exact absurd c_5 (by decide)
  · skip
    refine r_aload_n rfl dc_14_75_8 ?_
    refine q_get (v := .ref 138) rx_123 hM rfl dc_14_75_9 ?_
    refine r_iload_n rfl dc_14_75_12 ?_
    refine q_ild (e := s) (v := sg 56 s) (by decide) (by decide) hM rfl (show s < 16 by omega) (by omega) (rfl) dc_14_75_13 ?_
    refine r_iconst (v := nI 1) (by decide) dc_14_75_14 ?_
    refine r_icne (t := 25) (by decide) dc_14_75_15 (fun c_15 => ?_) (fun c_15 => ?_)
    · skip
      refine r_iconst (v := -1) (by decide) dc_14_75_25 ?_
      exact r_iret rfl dc_14_75_26 (rfl)
    · skip
      refine r_iload_n rfl dc_14_75_18 ?_
      refine q_calls (as := [.int t]) (rest := []) (v := .int (sp_is t (nI 360))) iv_13_s422 na_0_256 rfl (show (0 : Nat) ≤ 8 by decide) dc_14_75_19 (c_isDay _ t) ?_
      refine r_ifne (t := 27) (by decide) dc_14_75_22 (fun c_22 => ?_) (fun c_22 => ?_)
      · skip
        exact absurd (⟨c_15, sp_is_ne c_22⟩) hno
      · skip
        refine r_iconst (v := -1) (by decide) dc_14_75_25 ?_
        exact r_iret rfl dc_14_75_26 (rfl)
set_option maxHeartbeats 4000000 in
theorem c_visa_no (M : mH) (hM : 157 ≤ M.1) (io : Nat → Int32) (sg : Nat → Nat → Int32) (s t : Int32) (hno : ¬ (0 ≤ s ∧ s < io 5)) : mm_Ev 2 259 [.ref 100, .int s, .int t] (rf_mk M io sg) ((some (.int (-1)), rf_mk M io sg)) := by
  refine r_ev (by decide +kernel) (show (3 : Nat) ≤ mm_nL 259 by decide +kernel) ?_
  show mm_Ru 1 (13, 6, false, prog_14_method_75_code, some .int) 0 [(0, .ref 100), (1, .int s), (2, .int t)] [] (rf_mk M io sg) (fun r9 => r9 = ((some (.int (-1)), rf_mk M io sg)))
  refine r_aload_n rfl dc_14_75_0 ?_
  refine r_iload_n rfl dc_14_75_1 ?_
  refine q_calli (as := [.int s]) (rest := []) (v := .int (sp_is s (io 5))) (M1 := rf_mk M io sg) iv_13_v323 na_1_222 o_222 hM rfl (show (0 : Nat) ≤ 8 by decide) dc_14_75_2 (c_isStudent M hM io sg s) ?_
  refine r_ifeq (t := 25) (by decide) dc_14_75_5 (fun c_5 => ?_) (fun c_5 => ?_)
  · skip
    refine r_iconst (v := -1) (by decide) dc_14_75_25 ?_
    exact r_iret rfl dc_14_75_26 (rfl)
  · skip
    exact absurd (sp_is_ne c_5) hno
def sp_th (sg : Nat → Nat → Int32) (nf p : Nat) (s d t : Int32) : Prop := sg 13 p ≤ d ∧ d ≤ sg 14 p ∧ ¬ sp_kn sg s (nI 2) t nf = -1 ∧ sp_kn sg s (nI 2) t nf ≤ d ∧ (sp_kn sg s (nI 3) t nf = -1 ∨ d < sp_kn sg s (nI 3) t nf)
set_option maxHeartbeats 4000000 in
theorem c_isThere (M : mH) (hM : 157 ≤ M.1) (io : Nat → Int32) (sg : Nat → Nat → Int32) (nf : Nat) (h7 : io 7 = nI nf) (hnf : nf ≤ 200) (s p : Nat) (hs : s < 16) (h56 : sg 56 s = nI 1) (h57 : sg 57 s = nI p) (hp : p < 8) (d t : Int32) : mm_Ev 2 262 [.ref 100, .int (nI s), .int d, .int t] (rf_mk M io sg) ((some (.int (pI (sp_th sg nf p (nI s) d t))), rf_mk M io sg)) := by
  refine r_ev (by decide +kernel) (show (4 : Nat) ≤ mm_nL 262 by decide +kernel) ?_
  show mm_Ru 1 (13, 7, false, prog_14_method_76_code, some .boolean) 0 [(0, .ref 100), (1, .int (nI s)), (2, .int d), (3, .int t)] [] (rf_mk M io sg) (fun r9 => r9 = ((some (.int (pI (sp_th sg nf p (nI s) d t))), rf_mk M io sg)))
  refine r_aload_n rfl dc_14_76_0 ?_
  refine q_get (v := .ref 139) rx_126 hM rfl dc_14_76_1 ?_
  refine r_iload_n rfl dc_14_76_4 ?_
  refine q_ild (e := s) (v := nI p) (by decide) (by decide) hM rfl (show s < 16 by omega) (by omega) (h57) dc_14_76_5 ?_
  refine r_istore (ls' := [(4, .int (nI p)), (0, .ref 100), (1, .int (nI s)), (2, .int d), (3, .int t)]) (by decide) rfl dc_14_76_6 ?_
  refine r_aload_n rfl dc_14_76_8 ?_
  refine q_get (v := .ref 138) rx_123 hM rfl dc_14_76_9 ?_
  refine r_iload_n rfl dc_14_76_12 ?_
  refine q_ild (e := s) (v := sg 56 s) (by decide) (by decide) hM rfl (show s < 16 by omega) (by omega) (rfl) dc_14_76_13 ?_
  refine r_iconst (v := nI 1) (by decide) dc_14_76_14 ?_
  refine r_icne (t := 40) (by decide) dc_14_76_15 (fun c_15 => ?_) (fun c_15 => ?_)
  · exact absurd h56 c_15
  · skip
    refine r_iload_n rfl dc_14_76_18 ?_
    refine r_aload_n rfl dc_14_76_19 ?_
    refine q_get (v := .ref 108) rx_31 hM rfl dc_14_76_20 ?_
    refine r_iload rfl dc_14_76_23 ?_
    refine q_ild (e := p) (v := sg 13 p) (by decide) (by decide) hM rfl (show p < 8 by omega) (by omega) (rfl) dc_14_76_25 ?_
    refine r_iclt (t := 40) (by decide) dc_14_76_26 (fun c_26 => ?_) (fun c_26 => ?_)
    · skip
      refine r_iconst (v := nI 0) (by decide) dc_14_76_40 ?_
      refine r_zret rfl (by decide) dc_14_76_41 ?_
      rw [pI_f (fun q => absurd c_26 (Int32.not_lt.mpr q.1))]
    · skip
      refine r_iload_n rfl dc_14_76_29 ?_
      refine r_aload_n rfl dc_14_76_30 ?_
      refine q_get (v := .ref 109) rx_34 hM rfl dc_14_76_31 ?_
      refine r_iload rfl dc_14_76_34 ?_
      refine q_ild (e := p) (v := sg 14 p) (by decide) (by decide) hM rfl (show p < 8 by omega) (by omega) (rfl) dc_14_76_36 ?_
      refine r_icle (t := 42) (by decide) dc_14_76_37 (fun c_37 => ?_) (fun c_37 => ?_)
      · skip
        refine r_aload_n rfl dc_14_76_42 ?_
        refine r_iload_n rfl dc_14_76_43 ?_
        refine r_iconst (v := nI 2) (by decide) dc_14_76_44 ?_
        refine r_iload_n rfl dc_14_76_45 ?_
        refine q_calli (as := [.int (nI s), .int (nI 2), .int t]) (rest := []) (v := .int (sp_kn sg (nI s) (nI 2) t nf)) (M1 := rf_mk M io sg) iv_13_v428 na_1_258 o_258 hM rfl (show (0 : Nat) ≤ 8 by decide) dc_14_76_46 (c_knownOf M hM io sg nf h7 hnf (nI s) (nI 2) t) ?_
        refine r_istore (ls' := [(5, .int (sp_kn sg (nI s) (nI 2) t nf)), (4, .int (nI p)), (0, .ref 100), (1, .int (nI s)), (2, .int d), (3, .int t)]) (by decide) rfl dc_14_76_49 ?_
        refine r_aload_n rfl dc_14_76_51 ?_
        refine r_iload_n rfl dc_14_76_52 ?_
        refine r_iconst (v := nI 3) (by decide) dc_14_76_53 ?_
        refine r_iload_n rfl dc_14_76_54 ?_
        refine q_calli (as := [.int (nI s), .int (nI 3), .int t]) (rest := []) (v := .int (sp_kn sg (nI s) (nI 3) t nf)) (M1 := rf_mk M io sg) iv_13_v428 na_1_258 o_258 hM rfl (show (0 : Nat) ≤ 8 by decide) dc_14_76_55 (c_knownOf M hM io sg nf h7 hnf (nI s) (nI 3) t) ?_
        refine r_istore (ls' := [(6, .int (sp_kn sg (nI s) (nI 3) t nf)), (5, .int (sp_kn sg (nI s) (nI 2) t nf)), (4, .int (nI p)), (0, .ref 100), (1, .int (nI s)), (2, .int d), (3, .int t)]) (by decide) rfl dc_14_76_58 ?_
        refine r_iload rfl dc_14_76_60 ?_
        refine r_iconst (v := -1) (by decide) dc_14_76_62 ?_
        refine r_iceq (t := 88) (by decide) dc_14_76_63 (fun c_63 => ?_) (fun c_63 => ?_)
        · skip
          refine r_iconst (v := nI 0) (by decide) dc_14_76_88 ?_
          refine r_zret rfl (by decide) dc_14_76_89 ?_
          rw [pI_f (fun q => q.2.2.1 c_63)]
        · skip
          refine r_iload rfl dc_14_76_66 ?_
          refine r_iload_n rfl dc_14_76_68 ?_
          refine r_icgt (t := 88) (by decide) dc_14_76_69 (fun c_69 => ?_) (fun c_69 => ?_)
          · skip
            refine r_iconst (v := nI 0) (by decide) dc_14_76_88 ?_
            refine r_zret rfl (by decide) dc_14_76_89 ?_
            rw [pI_f (fun q => absurd c_69 (Int32.not_lt.mpr q.2.2.2.1))]
          · skip
            refine r_iload rfl dc_14_76_72 ?_
            refine r_iconst (v := -1) (by decide) dc_14_76_74 ?_
            refine r_iceq (t := 84) (by decide) dc_14_76_75 (fun c_75 => ?_) (fun c_75 => ?_)
            · skip
              refine r_iconst (v := nI 1) (by decide) dc_14_76_84 ?_
              refine r_goto (t := 89) (by decide) dc_14_76_85 ?_
              refine r_zret rfl (by decide) dc_14_76_89 ?_
              rw [pI_t ⟨Int32.not_lt.mp c_26, c_37, c_63, Int32.not_lt.mp c_69, Or.inl c_75⟩]
            · skip
              refine r_iload rfl dc_14_76_78 ?_
              refine r_iload_n rfl dc_14_76_80 ?_
              refine r_icle (t := 88) (by decide) dc_14_76_81 (fun c_81 => ?_) (fun c_81 => ?_)
              · skip
                refine r_iconst (v := nI 0) (by decide) dc_14_76_88 ?_
                refine r_zret rfl (by decide) dc_14_76_89 ?_
                rw [pI_f (fun q => q.2.2.2.2.elim c_75 (fun z => absurd c_81 (Int32.not_le.mpr z)))]
              · skip
                refine r_iconst (v := nI 1) (by decide) dc_14_76_84 ?_
                refine r_goto (t := 89) (by decide) dc_14_76_85 ?_
                refine r_zret rfl (by decide) dc_14_76_89 ?_
                rw [pI_t ⟨Int32.not_lt.mp c_26, c_37, c_63, Int32.not_lt.mp c_69, Or.inr (Int32.not_le.mp c_81)⟩]
      · skip
        refine r_iconst (v := nI 0) (by decide) dc_14_76_40 ?_
        refine r_zret rfl (by decide) dc_14_76_41 ?_
        rw [pI_f (fun q => c_37 q.2.1)]
noncomputable def sp_ton (sg : Nat → Nat → Int32) (nf ns h : Nat) (d t : Int32) : Int32 := sp_sum (fun s => pI (sg 56 s = nI 1 ∧ sg 57 s = nI h ∧ sp_th sg nf h (nI s) d t)) ns
set_option maxHeartbeats 4000000 in
theorem c_thereOn (M : mH) (hM : 157 ≤ M.1) (io : Nat → Int32) (sg : Nat → Nat → Int32) (ns : Nat) (h5 : io 5 = nI ns) (hns : ns ≤ 16) (nf : Nat) (h7 : io 7 = nI nf) (hnf : nf ≤ 200) (h : Nat) (hh : h < 8) (d t : Int32) : mm_Ev 3 261 [.ref 100, .int (nI h), .int d, .int t] (rf_mk M io sg) ((some (.int (sp_ton sg nf ns h d t)), rf_mk M io sg)) := by
  refine r_ev (by decide +kernel) (show (4 : Nat) ≤ mm_nL 261 by decide +kernel) ?_
  show mm_Ru 2 (13, 6, false, prog_14_method_77_code, some .int) 0 [(0, .ref 100), (1, .int (nI h)), (2, .int d), (3, .int t)] [] (rf_mk M io sg) (fun r9 => r9 = ((some (.int (sp_ton sg nf ns h d t)), rf_mk M io sg)))
  refine r_iconst (v := nI 0) (by decide) dc_14_77_0 ?_
  refine r_istore (ls' := [(4, .int (nI 0)), (0, .ref 100), (1, .int (nI h)), (2, .int d), (3, .int t)]) (by decide) rfl dc_14_77_1 ?_
  refine r_iconst (v := nI 0) (by decide) dc_14_77_3 ?_
  refine r_istore (ls' := [(5, .int (nI 0)), (4, .int (nI 0)), (0, .ref 100), (1, .int (nI h)), (2, .int d), (3, .int t)]) (by decide) rfl dc_14_77_4 ?_
  refine mm_cnt (P := fun m => ∀ (acc : Int32), (acc = sp_sum (fun s => pI (sg 56 s = nI 1 ∧ sg 57 s = nI h ∧ sp_th sg nf h (nI s) d t)) m) → mm_Ru 2 (13, 6, false, prog_14_method_77_code, some .int) 6 [(5, .int (nI m)), (4, .int acc), (0, .ref 100), (1, .int (nI h)), (2, .int d), (3, .int t)] [] (rf_mk M io sg) (fun r9 => r9 = ((some (.int (sp_ton sg nf ns h d t)), rf_mk M io sg)))) ns ?_ ?_ 0 (by omega) (nI 0) (rfl)
  · intro acc hi_m
    show mm_Ru 2 (13, 6, false, prog_14_method_77_code, some .int) 6 [(5, .int (nI ns)), (4, .int acc), (0, .ref 100), (1, .int (nI h)), (2, .int d), (3, .int t)] [] (rf_mk M io sg) (fun r9 => r9 = ((some (.int (sp_ton sg nf ns h d t)), rf_mk M io sg)))
    refine r_iload rfl dc_14_77_6 ?_
    refine r_aload_n rfl dc_14_77_8 ?_
    refine q_get (v := .int (nI ns)) rx_320 hM (congrArg (fun z => some (Value.int z)) (h5)) dc_14_77_9 ?_
    refine r_ncge (t := 64) (by omega) (by omega) (by decide) dc_14_77_12 (fun c_12 => ?_) (fun c_12 => ?_)
    · skip
      refine r_iload rfl dc_14_77_64 ?_
      refine r_iret rfl dc_14_77_66 ?_
      rw [hi_m]
      rfl
    · omega
  · intro m h_m ih_m acc hi_m
    show mm_Ru 2 (13, 6, false, prog_14_method_77_code, some .int) 6 [(5, .int (nI m)), (4, .int acc), (0, .ref 100), (1, .int (nI h)), (2, .int d), (3, .int t)] [] (rf_mk M io sg) (fun r9 => r9 = ((some (.int (sp_ton sg nf ns h d t)), rf_mk M io sg)))
    refine r_iload rfl dc_14_77_6 ?_
    refine r_aload_n rfl dc_14_77_8 ?_
    refine q_get (v := .int (nI ns)) rx_320 hM (congrArg (fun z => some (Value.int z)) (h5)) dc_14_77_9 ?_
    refine r_ncge (t := 64) (by omega) (by omega) (by decide) dc_14_77_12 (fun c_12 => ?_) (fun c_12 => ?_)
    · omega
    · skip
      refine r_iload rfl dc_14_77_15 ?_
      refine r_aload_n rfl dc_14_77_17 ?_
      refine q_get (v := .ref 138) rx_123 hM rfl dc_14_77_18 ?_
      refine r_iload rfl dc_14_77_21 ?_
      refine q_ild (e := m) (v := sg 56 m) (by decide) (by decide) hM rfl (show m < 16 by omega) (by omega) (rfl) dc_14_77_23 ?_
      refine r_iconst (v := nI 1) (by decide) dc_14_77_24 ?_
      refine r_icne (t := 54) (by decide) dc_14_77_25 (fun c_25 => ?_) (fun c_25 => ?_)
      · skip
        refine r_iconst (v := nI 0) (by decide) dc_14_77_54 ?_
        refine r_iadd (v := acc + (nI 0)) (rfl) dc_14_77_55 ?_
        refine r_istore (ls' := [(4, .int (acc + (nI 0))), (5, .int (nI m)), (0, .ref 100), (1, .int (nI h)), (2, .int d), (3, .int t)]) (by decide) rfl dc_14_77_56 ?_
        refine r_iinc (x := nI m) (v := nI (m + 1)) (ls' := [(5, .int (nI (m + 1))), (4, .int (acc + (nI 0))), (0, .ref 100), (1, .int (nI h)), (2, .int d), (3, .int t)]) rfl (nI_1 _) (by decide) rfl dc_14_77_58 ?_
        refine r_goto (t := 6) (by decide) dc_14_77_61 ?_
        exact ih_m (acc + (nI 0)) (sp_add hi_m (pI_f (fun q => c_25 q.1)))
      · skip
        refine r_aload_n rfl dc_14_77_28 ?_
        refine q_get (v := .ref 139) rx_126 hM rfl dc_14_77_29 ?_
        refine r_iload rfl dc_14_77_32 ?_
        refine q_ild (e := m) (v := sg 57 m) (by decide) (by decide) hM rfl (show m < 16 by omega) (by omega) (rfl) dc_14_77_34 ?_
        refine r_iload_n rfl dc_14_77_35 ?_
        refine r_icne (t := 54) (by decide) dc_14_77_36 (fun c_36 => ?_) (fun c_36 => ?_)
        · skip
          refine r_iconst (v := nI 0) (by decide) dc_14_77_54 ?_
          refine r_iadd (v := acc + (nI 0)) (rfl) dc_14_77_55 ?_
          refine r_istore (ls' := [(4, .int (acc + (nI 0))), (5, .int (nI m)), (0, .ref 100), (1, .int (nI h)), (2, .int d), (3, .int t)]) (by decide) rfl dc_14_77_56 ?_
          refine r_iinc (x := nI m) (v := nI (m + 1)) (ls' := [(5, .int (nI (m + 1))), (4, .int (acc + (nI 0))), (0, .ref 100), (1, .int (nI h)), (2, .int d), (3, .int t)]) rfl (nI_1 _) (by decide) rfl dc_14_77_58 ?_
          refine r_goto (t := 6) (by decide) dc_14_77_61 ?_
          exact ih_m (acc + (nI 0)) (sp_add hi_m (pI_f (fun q => c_36 q.2.1)))
        · skip
          refine r_aload_n rfl dc_14_77_39 ?_
          refine r_iload rfl dc_14_77_40 ?_
          refine r_iload_n rfl dc_14_77_42 ?_
          refine r_iload_n rfl dc_14_77_43 ?_
          refine q_calli (as := [.int (nI m), .int d, .int t]) (rest := [.int acc]) (v := .int (pI (sp_th sg nf h (nI m) d t))) (M1 := rf_mk M io sg) iv_13_v431 na_1_262 o_262 hM rfl (show (1 : Nat) ≤ 8 by decide) dc_14_77_44 (c_isThere M hM io sg nf h7 hnf m h (by omega) c_25 c_36 hh d t) ?_
          refine r_ifeq (t := 54) (by decide) dc_14_77_47 (fun c_47 => ?_) (fun c_47 => ?_)
          · skip
            refine r_iconst (v := nI 0) (by decide) dc_14_77_54 ?_
            refine r_iadd (v := acc + (nI 0)) (rfl) dc_14_77_55 ?_
            refine r_istore (ls' := [(4, .int (acc + (nI 0))), (5, .int (nI m)), (0, .ref 100), (1, .int (nI h)), (2, .int d), (3, .int t)]) (by decide) rfl dc_14_77_56 ?_
            refine r_iinc (x := nI m) (v := nI (m + 1)) (ls' := [(5, .int (nI (m + 1))), (4, .int (acc + (nI 0))), (0, .ref 100), (1, .int (nI h)), (2, .int d), (3, .int t)]) rfl (nI_1 _) (by decide) rfl dc_14_77_58 ?_
            refine r_goto (t := 6) (by decide) dc_14_77_61 ?_
            exact ih_m (acc + (nI 0)) (sp_add hi_m (pI_f (fun q => pI_eq0 c_47 q.2.2)))
          · skip
            refine r_iconst (v := nI 1) (by decide) dc_14_77_50 ?_
            refine r_goto (t := 55) (by decide) dc_14_77_51 ?_
            refine r_iadd (v := acc + (nI 1)) (rfl) dc_14_77_55 ?_
            refine r_istore (ls' := [(4, .int (acc + (nI 1))), (5, .int (nI m)), (0, .ref 100), (1, .int (nI h)), (2, .int d), (3, .int t)]) (by decide) rfl dc_14_77_56 ?_
            refine r_iinc (x := nI m) (v := nI (m + 1)) (ls' := [(5, .int (nI (m + 1))), (4, .int (acc + (nI 1))), (0, .ref 100), (1, .int (nI h)), (2, .int d), (3, .int t)]) rfl (nI_1 _) (by decide) rfl dc_14_77_58 ?_
            refine r_goto (t := 6) (by decide) dc_14_77_61 ?_
            exact ih_m (acc + (nI 1)) (sp_add hi_m (pI_t ⟨c_25, c_36, pI_ne c_47⟩))
set_option maxHeartbeats 4000000 in
theorem c_there_ok (M : mH) (hM : 157 ≤ M.1) (io : Nat → Int32) (sg : Nat → Nat → Int32) (ns : Nat) (h5 : io 5 = nI ns) (hns : ns ≤ 16) (nh : Nat) (h3 : io 3 = nI nh) (hnh : nh ≤ 8) (nf : Nat) (h7 : io 7 = nI nf) (hnf : nf ≤ 200) (h d t : Nat) (hh : h < nh) (hd : d < 360) (ht : t < 360) : mm_Ev 4 260 [.ref 100, .int (nI h), .int (nI d), .int (nI t)] (rf_mk M io sg) ((some (.int (sp_ton sg nf ns h (nI d) (nI t))), rf_mk M io sg)) := by
  refine r_ev (by decide +kernel) (show (4 : Nat) ≤ mm_nL 260 by decide +kernel) ?_
  show mm_Ru 3 (13, 4, false, prog_14_method_78_code, some .int) 0 [(0, .ref 100), (1, .int (nI h)), (2, .int (nI d)), (3, .int (nI t))] [] (rf_mk M io sg) (fun r9 => r9 = ((some (.int (sp_ton sg nf ns h (nI d) (nI t))), rf_mk M io sg)))
  refine r_aload_n rfl dc_14_78_0 ?_
  refine r_iload_n rfl dc_14_78_1 ?_
  refine q_calli (as := [.int (nI h)]) (rest := []) (v := .int (nI 1)) (M1 := rf_mk M io sg) iv_13_v205 na_1_196 o_196 hM rfl (show (0 : Nat) ≤ 8 by decide) dc_14_78_2 (mm_Ev_up (by decide : 1 ≤ 3) (c_isSchoolT M hM io sg nh h3 h (by omega) (by omega))) ?_
  refine r_ifeq (t := 32) (by decide) dc_14_78_5 (fun c_5 => ?_) (fun c_5 => ?_)
  · exact absurd c_5 (by decide)
  · skip
    refine r_iload_n rfl dc_14_78_8 ?_
    refine q_calls (as := [.int (nI d)]) (rest := []) (v := .int (nI 1)) iv_13_s422 na_0_256 rfl (show (0 : Nat) ≤ 8 by decide) dc_14_78_9 (mm_Ev_up (by decide : 1 ≤ 3) (c_isDayT _ d (by omega))) ?_
    refine r_ifeq (t := 32) (by decide) dc_14_78_12 (fun c_12 => ?_) (fun c_12 => ?_)
    · exact absurd c_12 (by decide)
    · skip
      refine r_iload_n rfl dc_14_78_15 ?_
      refine q_calls (as := [.int (nI t)]) (rest := []) (v := .int (nI 1)) iv_13_s422 na_0_256 rfl (show (0 : Nat) ≤ 8 by decide) dc_14_78_16 (mm_Ev_up (by decide : 1 ≤ 3) (c_isDayT _ t (by omega))) ?_
      refine r_ifeq (t := 32) (by decide) dc_14_78_19 (fun c_19 => ?_) (fun c_19 => ?_)
      · exact absurd c_19 (by decide)
      · skip
        refine r_aload_n rfl dc_14_78_22 ?_
        refine r_iload_n rfl dc_14_78_23 ?_
        refine r_iload_n rfl dc_14_78_24 ?_
        refine r_iload_n rfl dc_14_78_25 ?_
        refine q_calli (as := [.int (nI h), .int (nI d), .int (nI t)]) (rest := []) (v := .int (sp_ton sg nf ns h (nI d) (nI t))) (M1 := rf_mk M io sg) iv_13_v434 na_1_261 o_261 hM rfl (show (0 : Nat) ≤ 8 by decide) dc_14_78_26 (c_thereOn M hM io sg ns h5 hns nf h7 hnf h (by omega) (nI d) (nI t)) ?_
        refine r_goto (t := 33) (by decide) dc_14_78_29 ?_
        exact r_iret rfl dc_14_78_33 (rfl)
set_option maxHeartbeats 4000000 in
theorem c_there_no (M : mH) (hM : 157 ≤ M.1) (io : Nat → Int32) (sg : Nat → Nat → Int32) (h d t : Int32) (hno : ¬ ((0 ≤ h ∧ h < io 3) ∧ (0 ≤ d ∧ d < nI 360) ∧ (0 ≤ t ∧ t < nI 360))) : mm_Ev 2 260 [.ref 100, .int h, .int d, .int t] (rf_mk M io sg) ((some (.int (-1)), rf_mk M io sg)) := by
  refine r_ev (by decide +kernel) (show (4 : Nat) ≤ mm_nL 260 by decide +kernel) ?_
  show mm_Ru 1 (13, 4, false, prog_14_method_78_code, some .int) 0 [(0, .ref 100), (1, .int h), (2, .int d), (3, .int t)] [] (rf_mk M io sg) (fun r9 => r9 = ((some (.int (-1)), rf_mk M io sg)))
  refine r_aload_n rfl dc_14_78_0 ?_
  refine r_iload_n rfl dc_14_78_1 ?_
  refine q_calli (as := [.int h]) (rest := []) (v := .int (sp_is h (io 3))) (M1 := rf_mk M io sg) iv_13_v205 na_1_196 o_196 hM rfl (show (0 : Nat) ≤ 8 by decide) dc_14_78_2 (c_isSchool M hM io sg h) ?_
  refine r_ifeq (t := 32) (by decide) dc_14_78_5 (fun c_5 => ?_) (fun c_5 => ?_)
  · skip
    refine r_iconst (v := -1) (by decide) dc_14_78_32 ?_
    exact r_iret rfl dc_14_78_33 (rfl)
  · skip
    refine r_iload_n rfl dc_14_78_8 ?_
    refine q_calls (as := [.int d]) (rest := []) (v := .int (sp_is d (nI 360))) iv_13_s422 na_0_256 rfl (show (0 : Nat) ≤ 8 by decide) dc_14_78_9 (c_isDay _ d) ?_
    refine r_ifeq (t := 32) (by decide) dc_14_78_12 (fun c_12 => ?_) (fun c_12 => ?_)
    · skip
      refine r_iconst (v := -1) (by decide) dc_14_78_32 ?_
      exact r_iret rfl dc_14_78_33 (rfl)
    · skip
      refine r_iload_n rfl dc_14_78_15 ?_
      refine q_calls (as := [.int t]) (rest := []) (v := .int (sp_is t (nI 360))) iv_13_s422 na_0_256 rfl (show (0 : Nat) ≤ 8 by decide) dc_14_78_16 (c_isDay _ t) ?_
      refine r_ifeq (t := 32) (by decide) dc_14_78_19 (fun c_19 => ?_) (fun c_19 => ?_)
      · skip
        refine r_iconst (v := -1) (by decide) dc_14_78_32 ?_
        exact r_iret rfl dc_14_78_33 (rfl)
      · skip
        exact absurd (⟨sp_is_ne c_5, sp_is_ne c_12, sp_is_ne c_19⟩) hno
/-- the first place below n that has p -/
noncomputable def sp_fst (p : Nat → Prop) : Nat → Int32
  | 0 => -1
  | n + 1 => @ite _ (∃ j, j < n ∧ p j) (Classical.propDecidable _) (sp_fst p n) (@ite _ (p n) (Classical.propDecidable _) (nI n) (-1))
theorem sp_fst_no {p : Nat → Prop} : ∀ {n : Nat}, (∀ i, i < n → ¬ p i) → sp_fst p n = -1
  | 0, _ => rfl
  | n + 1, h => (if_neg (fun q => q.elim (fun j z => h j (by omega) z.2))).trans (if_neg (h n (by omega)))
theorem sp_fst_yes {p : Nat → Prop} {i : Nat} (hi : ∀ j, j < i → ¬ p j) (h : p i) : ∀ {n : Nat}, i < n → sp_fst p n = nI i
  | n + 1, h2 => by
    by_cases q : i = n
    · subst q
      exact (if_neg (fun q => q.elim (fun j z => hi j z.1 z.2))).trans (if_pos h)
    · exact (if_pos ⟨i, by omega, h⟩).trans (sp_fst_yes hi h (by omega))
set_option maxHeartbeats 4000000 in
theorem c_crowded_ok (M : mH) (hM : 157 ≤ M.1) (io : Nat → Int32) (sg : Nat → Nat → Int32) (ns : Nat) (h5 : io 5 = nI ns) (hns : ns ≤ 16) (nh : Nat) (h3 : io 3 = nI nh) (hnh : nh ≤ 8) (nf : Nat) (h7 : io 7 = nI nf) (hnf : nf ≤ 200) (h t : Nat) (hh : h < nh) (ht : t < 360) : mm_Ev 4 264 [.ref 100, .int (nI h), .int (nI t)] (rf_mk M io sg) ((some (.int (sp_fst (fun d => sg 11 h < sp_ton sg nf ns h (nI d) (nI t)) 360)), rf_mk M io sg)) := by
  refine r_ev (by decide +kernel) (show (3 : Nat) ≤ mm_nL 264 by decide +kernel) ?_
  show mm_Ru 3 (13, 4, false, prog_14_method_80_code, some .int) 0 [(0, .ref 100), (1, .int (nI h)), (2, .int (nI t))] [] (rf_mk M io sg) (fun r9 => r9 = ((some (.int (sp_fst (fun d => sg 11 h < sp_ton sg nf ns h (nI d) (nI t)) 360)), rf_mk M io sg)))
  refine r_aload_n rfl dc_14_80_0 ?_
  refine r_iload_n rfl dc_14_80_1 ?_
  refine q_calli (as := [.int (nI h)]) (rest := []) (v := .int (nI 1)) (M1 := rf_mk M io sg) iv_13_v205 na_1_196 o_196 hM rfl (show (0 : Nat) ≤ 8 by decide) dc_14_80_2 (mm_Ev_up (by decide : 1 ≤ 3) (c_isSchoolT M hM io sg nh h3 h (by omega) (by omega))) ?_
  refine r_ifeq (t := 15) (by decide) dc_14_80_5 (fun c_5 => ?_) (fun c_5 => ?_)
  · exact absurd c_5 (by decide)
  · skip
    refine r_iload_n rfl dc_14_80_8 ?_
    refine q_calls (as := [.int (nI t)]) (rest := []) (v := .int (nI 1)) iv_13_s422 na_0_256 rfl (show (0 : Nat) ≤ 8 by decide) dc_14_80_9 (mm_Ev_up (by decide : 1 ≤ 3) (c_isDayT _ t (by omega))) ?_
    refine r_ifne (t := 17) (by decide) dc_14_80_12 (fun c_12 => ?_) (fun c_12 => ?_)
    · skip
      refine r_iconst (v := nI 0) (by decide) dc_14_80_17 ?_
      refine r_istore_n (ls' := [(3, .int (nI 0)), (0, .ref 100), (1, .int (nI h)), (2, .int (nI t))]) (by decide) rfl dc_14_80_18 ?_
      refine mm_cnt (P := fun m => (∀ j, j < m → ¬ sg 11 h < sp_ton sg nf ns h (nI j) (nI t)) → mm_Ru 3 (13, 4, false, prog_14_method_80_code, some .int) 19 [(3, .int (nI m)), (0, .ref 100), (1, .int (nI h)), (2, .int (nI t))] [] (rf_mk M io sg) (fun r9 => r9 = ((some (.int (sp_fst (fun d => sg 11 h < sp_ton sg nf ns h (nI d) (nI t)) 360)), rf_mk M io sg)))) 360 ?_ ?_ 0 (by omega) (fun j hj => absurd hj (Nat.not_lt_zero j))
      · intro  hi_m
        show mm_Ru 3 (13, 4, false, prog_14_method_80_code, some .int) 19 [(3, .int (nI 360)), (0, .ref 100), (1, .int (nI h)), (2, .int (nI t))] [] (rf_mk M io sg) (fun r9 => r9 = ((some (.int (sp_fst (fun d => sg 11 h < sp_ton sg nf ns h (nI d) (nI t)) 360)), rf_mk M io sg)))
        refine r_iload_n rfl dc_14_80_19 ?_
        refine r_sipush (v := nI 360) (by decide) dc_14_80_20 ?_
        refine r_ncge (t := 50) (by omega) (by omega) (by decide) dc_14_80_23 (fun c_23 => ?_) (fun c_23 => ?_)
        · skip
          refine r_iconst (v := -1) (by decide) dc_14_80_50 ?_
          refine r_iret rfl dc_14_80_51 ?_
          rw [sp_fst_no hi_m]
        · omega
      · intro m h_m ih_m  hi_m
        show mm_Ru 3 (13, 4, false, prog_14_method_80_code, some .int) 19 [(3, .int (nI m)), (0, .ref 100), (1, .int (nI h)), (2, .int (nI t))] [] (rf_mk M io sg) (fun r9 => r9 = ((some (.int (sp_fst (fun d => sg 11 h < sp_ton sg nf ns h (nI d) (nI t)) 360)), rf_mk M io sg)))
        refine r_iload_n rfl dc_14_80_19 ?_
        refine r_sipush (v := nI 360) (by decide) dc_14_80_20 ?_
        refine r_ncge (t := 50) (by omega) (by omega) (by decide) dc_14_80_23 (fun c_23 => ?_) (fun c_23 => ?_)
        · omega
        · skip
          refine r_aload_n rfl dc_14_80_26 ?_
          refine r_iload_n rfl dc_14_80_27 ?_
          refine r_iload_n rfl dc_14_80_28 ?_
          refine r_iload_n rfl dc_14_80_29 ?_
          refine q_calli (as := [.int (nI h), .int (nI m), .int (nI t)]) (rest := []) (v := .int (sp_ton sg nf ns h (nI m) (nI t))) (M1 := rf_mk M io sg) iv_13_v434 na_1_261 o_261 hM rfl (show (0 : Nat) ≤ 8 by decide) dc_14_80_30 (c_thereOn M hM io sg ns h5 hns nf h7 hnf h (by omega) (nI m) (nI t)) ?_
          refine r_aload_n rfl dc_14_80_33 ?_
          refine q_get (v := .ref 106) rx_25 hM rfl dc_14_80_34 ?_
          refine r_iload_n rfl dc_14_80_37 ?_
          refine q_ild (e := h) (v := sg 11 h) (by decide) (by decide) hM rfl (show h < 8 by omega) (by omega) (rfl) dc_14_80_38 ?_
          refine r_icle (t := 44) (by decide) dc_14_80_39 (fun c_39 => ?_) (fun c_39 => ?_)
          · skip
            refine r_iinc (x := nI m) (v := nI (m + 1)) (ls' := [(3, .int (nI (m + 1))), (0, .ref 100), (1, .int (nI h)), (2, .int (nI t))]) rfl (nI_1 _) (by decide) rfl dc_14_80_44 ?_
            refine r_goto (t := 19) (by decide) dc_14_80_47 ?_
            exact ih_m (fun j hj => if q : j = m then q ▸ Int32.not_lt.mpr c_39 else hi_m j (by omega))
          · skip
            refine r_iload_n rfl dc_14_80_42 ?_
            refine r_iret rfl dc_14_80_43 ?_
            rw [sp_fst_yes hi_m (Int32.not_le.mp c_39) h_m]
    · exact absurd c_12 (by decide)
set_option maxHeartbeats 4000000 in
theorem c_crowded_no (M : mH) (hM : 157 ≤ M.1) (io : Nat → Int32) (sg : Nat → Nat → Int32) (h t : Int32) (hno : ¬ ((0 ≤ h ∧ h < io 3) ∧ (0 ≤ t ∧ t < nI 360))) : mm_Ev 2 264 [.ref 100, .int h, .int t] (rf_mk M io sg) ((some (.int (-1)), rf_mk M io sg)) := by
  refine r_ev (by decide +kernel) (show (3 : Nat) ≤ mm_nL 264 by decide +kernel) ?_
  show mm_Ru 1 (13, 4, false, prog_14_method_80_code, some .int) 0 [(0, .ref 100), (1, .int h), (2, .int t)] [] (rf_mk M io sg) (fun r9 => r9 = ((some (.int (-1)), rf_mk M io sg)))
  refine r_aload_n rfl dc_14_80_0 ?_
  refine r_iload_n rfl dc_14_80_1 ?_
  refine q_calli (as := [.int h]) (rest := []) (v := .int (sp_is h (io 3))) (M1 := rf_mk M io sg) iv_13_v205 na_1_196 o_196 hM rfl (show (0 : Nat) ≤ 8 by decide) dc_14_80_2 (c_isSchool M hM io sg h) ?_
  refine r_ifeq (t := 15) (by decide) dc_14_80_5 (fun c_5 => ?_) (fun c_5 => ?_)
  · skip
    refine r_iconst (v := -1) (by decide) dc_14_80_15 ?_
    exact r_iret rfl dc_14_80_16 (rfl)
  · skip
    refine r_iload_n rfl dc_14_80_8 ?_
    refine q_calls (as := [.int t]) (rest := []) (v := .int (sp_is t (nI 360))) iv_13_s422 na_0_256 rfl (show (0 : Nat) ≤ 8 by decide) dc_14_80_9 (c_isDay _ t) ?_
    refine r_ifne (t := 17) (by decide) dc_14_80_12 (fun c_12 => ?_) (fun c_12 => ?_)
    · skip
      exact absurd (⟨sp_is_ne c_5, sp_is_ne c_12⟩) hno
    · skip
      refine r_iconst (v := -1) (by decide) dc_14_80_15 ?_
      exact r_iret rfl dc_14_80_16 (rfl)
noncomputable def sp_dth (sg : Nat → Nat → Int32) (nf s p fr tt t : Nat) : Int32 := sp_sum (fun j => pI (sp_th sg nf p (nI s) (nI (fr + j)) (nI t))) (tt + 1 - fr)
set_option maxHeartbeats 4000000 in
theorem c_counts_1 (M : mH) (hM : 157 ≤ M.1) (io : Nat → Int32) (sg : Nat → Nat → Int32) (ns : Nat) (h5 : io 5 = nI ns) (hns : ns ≤ 16) (nf : Nat) (h7 : io 7 = nI nf) (hnf : nf ≤ 200) (s p hm tg cm ne fr tt : Nat) (hs : s < ns) (h56 : sg 56 s = nI 1) (h57 : sg 57 s = nI p) (hp : p < 8) (h51 : sg 51 s = nI hm) (hhm : hm < 8) (htg : sg 10 p = nI tg) (htg4 : tg < 4) (hcm : sg 16 p = nI cm) (hc6 : cm ≤ 6) (hne : nI 1 <<< (nI cm &&& 31) = nI ne) (hn64 : ne ≤ 64) (hn1 : 1 ≤ ne) (h13 : sg 13 p = nI fr) (h14 : sg 14 p = nI tt) (hft : fr < tt) (htt : tt < 360) (t : Nat) (ht : t < 360) : mm_Ev 4 263 [.ref 100, .int (nI s), .int (nI 1), .int (nI t)] (rf_mk M io sg) ((some (.int (sg 15 hm * (nI (tt - fr + 1) - sp_dth sg nf s p fr tt t) / nI (tt - fr + 1))), rf_mk M io sg)) := by
  refine r_ev (by decide +kernel) (show (4 : Nat) ≤ mm_nL 263 by decide +kernel) ?_
  show mm_Ru 3 (13, 8, false, prog_14_method_79_code, some .int) 0 [(0, .ref 100), (1, .int (nI s)), (2, .int (nI 1)), (3, .int (nI t))] [] (rf_mk M io sg) (fun r9 => r9 = ((some (.int (sg 15 hm * (nI (tt - fr + 1) - sp_dth sg nf s p fr tt t) / nI (tt - fr + 1))), rf_mk M io sg)))
  refine r_aload_n rfl dc_14_79_0 ?_
  refine r_iload_n rfl dc_14_79_1 ?_
  refine q_calli (as := [.int (nI s)]) (rest := []) (v := .int (nI 1)) (M1 := rf_mk M io sg) iv_13_v323 na_1_222 o_222 hM rfl (show (0 : Nat) ≤ 8 by decide) dc_14_79_2 (mm_Ev_up (by decide : 1 ≤ 3) (c_isStudentT M hM io sg ns h5 s (by omega) (by omega))) ?_
  refine r_ifeq (t := 34) (by decide) dc_14_79_5 (fun c_5 => ?_) (fun c_5 => ?_)
  · exact absurd c_5 (by decide)
  · skip
    refine r_aload_n rfl dc_14_79_8 ?_
    refine q_get (v := .ref 138) rx_123 hM rfl dc_14_79_9 ?_
    refine r_iload_n rfl dc_14_79_12 ?_
    refine q_ild (e := s) (v := sg 56 s) (by decide) (by decide) hM rfl (show s < 16 by omega) (by omega) (rfl) dc_14_79_13 ?_
    refine r_iconst (v := nI 1) (by decide) dc_14_79_14 ?_
    refine r_icne (t := 34) (by decide) dc_14_79_15 (fun c_15 => ?_) (fun c_15 => ?_)
    · exact absurd h56 c_15
    · skip
      refine r_iload_n rfl dc_14_79_18 ?_
      refine r_iconst (v := nI 0) (by decide) dc_14_79_19 ?_
      refine r_iconst (v := nI 1) (by decide) dc_14_79_20 ?_
      refine q_calls (as := [.int (nI 1), .int (nI 0), .int (nI 1)]) (rest := []) (v := .int (nI 1)) iv_13_s180 na_0_187 rfl (show (0 : Nat) ≤ 8 by decide) dc_14_79_21 (mm_Ev_up (by decide : 1 ≤ 3) (c_inT _ 1 0 1 (by omega) (by omega) (by omega))) ?_
      refine r_ifeq (t := 34) (by decide) dc_14_79_24 (fun c_24 => ?_) (fun c_24 => ?_)
      · exact absurd c_24 (by decide)
      · skip
        refine r_iload_n rfl dc_14_79_27 ?_
        refine q_calls (as := [.int (nI t)]) (rest := []) (v := .int (nI 1)) iv_13_s422 na_0_256 rfl (show (0 : Nat) ≤ 8 by decide) dc_14_79_28 (mm_Ev_up (by decide : 1 ≤ 3) (c_isDayT _ t (by omega))) ?_
        refine r_ifne (t := 36) (by decide) dc_14_79_31 (fun c_31 => ?_) (fun c_31 => ?_)
        · skip
          refine r_aload_n rfl dc_14_79_36 ?_
          refine q_get (v := .ref 139) rx_126 hM rfl dc_14_79_37 ?_
          refine r_iload_n rfl dc_14_79_40 ?_
          refine q_ild (e := s) (v := nI p) (by decide) (by decide) hM rfl (show s < 16 by omega) (by omega) (h57) dc_14_79_41 ?_
          refine r_istore (ls' := [(4, .int (nI p)), (0, .ref 100), (1, .int (nI s)), (2, .int (nI 1)), (3, .int (nI t))]) (by decide) rfl dc_14_79_42 ?_
          refine r_aload_n rfl dc_14_79_44 ?_
          refine q_get (v := .ref 109) rx_34 hM rfl dc_14_79_45 ?_
          refine r_iload rfl dc_14_79_48 ?_
          refine q_ild (e := p) (v := nI tt) (by decide) (by decide) hM rfl (show p < 8 by omega) (by omega) (h14) dc_14_79_50 ?_
          refine r_aload_n rfl dc_14_79_51 ?_
          refine q_get (v := .ref 108) rx_31 hM rfl dc_14_79_52 ?_
          refine r_iload rfl dc_14_79_55 ?_
          refine q_ild (e := p) (v := nI fr) (by decide) (by decide) hM rfl (show p < 8 by omega) (by omega) (h13) dc_14_79_57 ?_
          refine r_isub (v := nI (tt - fr)) (pk_sub (by omega)) dc_14_79_58 ?_
          refine r_iconst (v := nI 1) (by decide) dc_14_79_59 ?_
          refine r_iadd (v := nI (tt - fr + 1)) (nI_add _ _) dc_14_79_60 ?_
          refine r_istore (ls' := [(5, .int (nI (tt - fr + 1))), (4, .int (nI p)), (0, .ref 100), (1, .int (nI s)), (2, .int (nI 1)), (3, .int (nI t))]) (by decide) rfl dc_14_79_61 ?_
          refine r_iconst (v := nI 0) (by decide) dc_14_79_63 ?_
          refine r_istore (ls' := [(6, .int (nI 0)), (5, .int (nI (tt - fr + 1))), (4, .int (nI p)), (0, .ref 100), (1, .int (nI s)), (2, .int (nI 1)), (3, .int (nI t))]) (by decide) rfl dc_14_79_64 ?_
          refine r_aload_n rfl dc_14_79_66 ?_
          refine q_get (v := .ref 108) rx_31 hM rfl dc_14_79_67 ?_
          refine r_iload rfl dc_14_79_70 ?_
          refine q_ild (e := p) (v := nI fr) (by decide) (by decide) hM rfl (show p < 8 by omega) (by omega) (h13) dc_14_79_72 ?_
          refine r_istore (ls' := [(7, .int (nI fr)), (6, .int (nI 0)), (5, .int (nI (tt - fr + 1))), (4, .int (nI p)), (0, .ref 100), (1, .int (nI s)), (2, .int (nI 1)), (3, .int (nI t))]) (by decide) rfl dc_14_79_73 ?_
          refine mm_cnt (P := fun m => ∀ (acc : Int32), (acc = sp_sum (fun j => pI (sp_th sg nf p (nI s) (nI (fr + j)) (nI t))) (m - fr) ∧ fr ≤ m) → mm_Ru 3 (13, 8, false, prog_14_method_79_code, some .int) 75 [(7, .int (nI m)), (6, .int acc), (5, .int (nI (tt - fr + 1))), (4, .int (nI p)), (0, .ref 100), (1, .int (nI s)), (2, .int (nI 1)), (3, .int (nI t))] [] (rf_mk M io sg) (fun r9 => r9 = ((some (.int (sg 15 hm * (nI (tt - fr + 1) - sp_dth sg nf s p fr tt t) / nI (tt - fr + 1))), rf_mk M io sg)))) (tt + 1) ?_ ?_ fr (by omega) (nI 0) (⟨by rw [Nat.sub_self]; rfl, Nat.le_refl _⟩)
          · intro acc hi_m
            show mm_Ru 3 (13, 8, false, prog_14_method_79_code, some .int) 75 [(7, .int (nI (tt + 1))), (6, .int acc), (5, .int (nI (tt - fr + 1))), (4, .int (nI p)), (0, .ref 100), (1, .int (nI s)), (2, .int (nI 1)), (3, .int (nI t))] [] (rf_mk M io sg) (fun r9 => r9 = ((some (.int (sg 15 hm * (nI (tt - fr + 1) - sp_dth sg nf s p fr tt t) / nI (tt - fr + 1))), rf_mk M io sg)))
            refine r_iload rfl dc_14_79_75 ?_
            refine r_aload_n rfl dc_14_79_77 ?_
            refine q_get (v := .ref 109) rx_34 hM rfl dc_14_79_78 ?_
            refine r_iload rfl dc_14_79_81 ?_
            refine q_ild (e := p) (v := nI tt) (by decide) (by decide) hM rfl (show p < 8 by omega) (by omega) (h14) dc_14_79_83 ?_
            refine r_ncgt (t := 114) (by omega) (by omega) (by decide) dc_14_79_84 (fun c_84 => ?_) (fun c_84 => ?_)
            · skip
              refine r_iload_n rfl dc_14_79_114 ?_
              refine r_iconst (v := nI 1) (by decide) dc_14_79_115 ?_
              refine r_ncne (t := 140) (by omega) (by omega) (by decide) dc_14_79_116 (fun c_116 => ?_) (fun c_116 => ?_)
              · omega
              · skip
                refine r_aload_n rfl dc_14_79_119 ?_
                refine q_get (v := .ref 110) rx_37 hM rfl dc_14_79_120 ?_
                refine r_aload_n rfl dc_14_79_123 ?_
                refine q_get (v := .ref 133) rx_108 hM rfl dc_14_79_124 ?_
                refine r_iload_n rfl dc_14_79_127 ?_
                refine q_ild (e := s) (v := nI hm) (by decide) (by decide) hM rfl (show s < 16 by omega) (by omega) (h51) dc_14_79_128 ?_
                refine q_ild (e := hm) (v := sg 15 hm) (by decide) (by decide) hM rfl (show hm < 8 by omega) (by omega) (rfl) dc_14_79_129 ?_
                refine r_iload rfl dc_14_79_130 ?_
                refine r_iload rfl dc_14_79_132 ?_
                refine r_isub (v := (nI (tt - fr + 1)) - acc) (rfl) dc_14_79_134 ?_
                refine r_imul (v := (sg 15 hm) * ((nI (tt - fr + 1)) - acc)) (rfl) dc_14_79_135 ?_
                refine r_iload rfl dc_14_79_136 ?_
                refine r_idiv (v := sg 15 hm * (nI (tt - fr + 1) - acc) / nI (tt - fr + 1)) (nI_ne0 (by omega) (by omega)) (rfl) dc_14_79_138 ?_
                refine r_iret rfl dc_14_79_139 ?_
                rw [hi_m.1]
                rfl
            · omega
          · intro m h_m ih_m acc hi_m
            show mm_Ru 3 (13, 8, false, prog_14_method_79_code, some .int) 75 [(7, .int (nI m)), (6, .int acc), (5, .int (nI (tt - fr + 1))), (4, .int (nI p)), (0, .ref 100), (1, .int (nI s)), (2, .int (nI 1)), (3, .int (nI t))] [] (rf_mk M io sg) (fun r9 => r9 = ((some (.int (sg 15 hm * (nI (tt - fr + 1) - sp_dth sg nf s p fr tt t) / nI (tt - fr + 1))), rf_mk M io sg)))
            refine r_iload rfl dc_14_79_75 ?_
            refine r_aload_n rfl dc_14_79_77 ?_
            refine q_get (v := .ref 109) rx_34 hM rfl dc_14_79_78 ?_
            refine r_iload rfl dc_14_79_81 ?_
            refine q_ild (e := p) (v := nI tt) (by decide) (by decide) hM rfl (show p < 8 by omega) (by omega) (h14) dc_14_79_83 ?_
            refine r_ncgt (t := 114) (by omega) (by omega) (by decide) dc_14_79_84 (fun c_84 => ?_) (fun c_84 => ?_)
            · omega
            · skip
              refine r_iload rfl dc_14_79_87 ?_
              refine r_aload_n rfl dc_14_79_89 ?_
              refine r_iload_n rfl dc_14_79_90 ?_
              refine r_iload rfl dc_14_79_91 ?_
              refine r_iload_n rfl dc_14_79_93 ?_
              refine q_calli (as := [.int (nI s), .int (nI m), .int (nI t)]) (rest := [.int acc]) (v := .int (pI (sp_th sg nf p (nI s) (nI m) (nI t)))) (M1 := rf_mk M io sg) iv_13_v431 na_1_262 o_262 hM rfl (show (1 : Nat) ≤ 8 by decide) dc_14_79_94 (mm_Ev_up (by decide : 2 ≤ 3) (c_isThere M hM io sg nf h7 hnf s p (by omega) h56 h57 hp (nI m) (nI t))) ?_
              refine r_ifeq (t := 104) (by decide) dc_14_79_97 (fun c_97 => ?_) (fun c_97 => ?_)
              · skip
                refine r_iconst (v := nI 0) (by decide) dc_14_79_104 ?_
                refine r_iadd (v := acc + (nI 0)) (rfl) dc_14_79_105 ?_
                refine r_istore (ls' := [(6, .int (acc + (nI 0))), (7, .int (nI m)), (5, .int (nI (tt - fr + 1))), (4, .int (nI p)), (0, .ref 100), (1, .int (nI s)), (2, .int (nI 1)), (3, .int (nI t))]) (by decide) rfl dc_14_79_106 ?_
                refine r_iinc (x := nI m) (v := nI (m + 1)) (ls' := [(7, .int (nI (m + 1))), (6, .int (acc + (nI 0))), (5, .int (nI (tt - fr + 1))), (4, .int (nI p)), (0, .ref 100), (1, .int (nI s)), (2, .int (nI 1)), (3, .int (nI t))]) rfl (nI_1 _) (by decide) rfl dc_14_79_108 ?_
                refine r_goto (t := 75) (by decide) dc_14_79_111 ?_
                exact ih_m (acc + (nI 0)) (⟨(show m + 1 - fr = (m - fr) + 1 by omega) ▸ sp_add hi_m.1 (by show pI (sp_th sg nf p (nI s) (nI (fr + (m - fr))) (nI t)) = _; rw [show fr + (m - fr) = m by omega]; exact pI_f (pI_eq0 c_97)), by omega⟩)
              · skip
                refine r_iconst (v := nI 1) (by decide) dc_14_79_100 ?_
                refine r_goto (t := 105) (by decide) dc_14_79_101 ?_
                refine r_iadd (v := acc + (nI 1)) (rfl) dc_14_79_105 ?_
                refine r_istore (ls' := [(6, .int (acc + (nI 1))), (7, .int (nI m)), (5, .int (nI (tt - fr + 1))), (4, .int (nI p)), (0, .ref 100), (1, .int (nI s)), (2, .int (nI 1)), (3, .int (nI t))]) (by decide) rfl dc_14_79_106 ?_
                refine r_iinc (x := nI m) (v := nI (m + 1)) (ls' := [(7, .int (nI (m + 1))), (6, .int (acc + (nI 1))), (5, .int (nI (tt - fr + 1))), (4, .int (nI p)), (0, .ref 100), (1, .int (nI s)), (2, .int (nI 1)), (3, .int (nI t))]) rfl (nI_1 _) (by decide) rfl dc_14_79_108 ?_
                refine r_goto (t := 75) (by decide) dc_14_79_111 ?_
                exact ih_m (acc + (nI 1)) (⟨(show m + 1 - fr = (m - fr) + 1 by omega) ▸ sp_add hi_m.1 (by show pI (sp_th sg nf p (nI s) (nI (fr + (m - fr))) (nI t)) = _; rw [show fr + (m - fr) = m by omega]; exact pI_t (pI_ne c_97)), by omega⟩)
        · exact absurd c_31 (by decide)
set_option maxHeartbeats 4000000 in
theorem c_counts_0 (M : mH) (hM : 157 ≤ M.1) (io : Nat → Int32) (sg : Nat → Nat → Int32) (ns : Nat) (h5 : io 5 = nI ns) (hns : ns ≤ 16) (nf : Nat) (h7 : io 7 = nI nf) (hnf : nf ≤ 200) (s p hm tg cm ne fr tt : Nat) (hs : s < ns) (h56 : sg 56 s = nI 1) (h57 : sg 57 s = nI p) (hp : p < 8) (h51 : sg 51 s = nI hm) (hhm : hm < 8) (htg : sg 10 p = nI tg) (htg4 : tg < 4) (hcm : sg 16 p = nI cm) (hc6 : cm ≤ 6) (hne : nI 1 <<< (nI cm &&& 31) = nI ne) (hn64 : ne ≤ 64) (hn1 : 1 ≤ ne) (h13 : sg 13 p = nI fr) (h14 : sg 14 p = nI tt) (hft : fr < tt) (htt : tt < 360) (t : Nat) (ht : t < 360) : ∃ (a : Int32), ∃ (b : Int32), mm_Ev 4 263 [.ref 100, .int (nI s), .int (nI 0), .int (nI t)] (rf_mk M io sg) ((some (.int (sp_cr sg p (nI (sp_bst sg s p cm (sp_lev sg s tg) ne)) cm * sp_dth sg nf s p fr tt t / nI (tt - fr + 1))), rf_mk M (io5 io a b (nI (sp_bst sg s p cm (sp_lev sg s tg) ne)) (sp_cr sg p (nI (sp_bst sg s p cm (sp_lev sg s tg) ne)) cm) (sp_tp sg s p (nI (sp_bst sg s p cm (sp_lev sg s tg) ne)) cm)) sg)) := by
  have hq9 : ∃ z, (fun r9 => ∃ (a : Int32), ∃ (b : Int32), r9 = ((some (.int (sp_cr sg p (nI (sp_bst sg s p cm (sp_lev sg s tg) ne)) cm * sp_dth sg nf s p fr tt t / nI (tt - fr + 1))), rf_mk M (io5 io a b (nI (sp_bst sg s p cm (sp_lev sg s tg) ne)) (sp_cr sg p (nI (sp_bst sg s p cm (sp_lev sg s tg) ne)) cm) (sp_tp sg s p (nI (sp_bst sg s p cm (sp_lev sg s tg) ne)) cm)) sg))) z ∧ mm_Ev 4 263 [.ref 100, .int (nI s), .int (nI 0), .int (nI t)] (rf_mk M io sg) z := by
    refine r_evQ (by decide +kernel) (show (4 : Nat) ≤ mm_nL 263 by decide +kernel) ?_
    show mm_Ru 3 (13, 8, false, prog_14_method_79_code, some .int) 0 [(0, .ref 100), (1, .int (nI s)), (2, .int (nI 0)), (3, .int (nI t))] [] (rf_mk M io sg) (fun r9 => ∃ (a : Int32), ∃ (b : Int32), r9 = ((some (.int (sp_cr sg p (nI (sp_bst sg s p cm (sp_lev sg s tg) ne)) cm * sp_dth sg nf s p fr tt t / nI (tt - fr + 1))), rf_mk M (io5 io a b (nI (sp_bst sg s p cm (sp_lev sg s tg) ne)) (sp_cr sg p (nI (sp_bst sg s p cm (sp_lev sg s tg) ne)) cm) (sp_tp sg s p (nI (sp_bst sg s p cm (sp_lev sg s tg) ne)) cm)) sg)))
    refine r_aload_n rfl dc_14_79_0 ?_
    refine r_iload_n rfl dc_14_79_1 ?_
    refine q_calli (as := [.int (nI s)]) (rest := []) (v := .int (nI 1)) (M1 := rf_mk M io sg) iv_13_v323 na_1_222 o_222 hM rfl (show (0 : Nat) ≤ 8 by decide) dc_14_79_2 (mm_Ev_up (by decide : 1 ≤ 3) (c_isStudentT M hM io sg ns h5 s (by omega) (by omega))) ?_
    refine r_ifeq (t := 34) (by decide) dc_14_79_5 (fun c_5 => ?_) (fun c_5 => ?_)
    · exact absurd c_5 (by decide)
    · skip
      refine r_aload_n rfl dc_14_79_8 ?_
      refine q_get (v := .ref 138) rx_123 hM rfl dc_14_79_9 ?_
      refine r_iload_n rfl dc_14_79_12 ?_
      refine q_ild (e := s) (v := sg 56 s) (by decide) (by decide) hM rfl (show s < 16 by omega) (by omega) (rfl) dc_14_79_13 ?_
      refine r_iconst (v := nI 1) (by decide) dc_14_79_14 ?_
      refine r_icne (t := 34) (by decide) dc_14_79_15 (fun c_15 => ?_) (fun c_15 => ?_)
      · exact absurd h56 c_15
      · skip
        refine r_iload_n rfl dc_14_79_18 ?_
        refine r_iconst (v := nI 0) (by decide) dc_14_79_19 ?_
        refine r_iconst (v := nI 1) (by decide) dc_14_79_20 ?_
        refine q_calls (as := [.int (nI 0), .int (nI 0), .int (nI 1)]) (rest := []) (v := .int (nI 1)) iv_13_s180 na_0_187 rfl (show (0 : Nat) ≤ 8 by decide) dc_14_79_21 (mm_Ev_up (by decide : 1 ≤ 3) (c_inT _ 0 0 1 (by omega) (by omega) (by omega))) ?_
        refine r_ifeq (t := 34) (by decide) dc_14_79_24 (fun c_24 => ?_) (fun c_24 => ?_)
        · exact absurd c_24 (by decide)
        · skip
          refine r_iload_n rfl dc_14_79_27 ?_
          refine q_calls (as := [.int (nI t)]) (rest := []) (v := .int (nI 1)) iv_13_s422 na_0_256 rfl (show (0 : Nat) ≤ 8 by decide) dc_14_79_28 (mm_Ev_up (by decide : 1 ≤ 3) (c_isDayT _ t (by omega))) ?_
          refine r_ifne (t := 36) (by decide) dc_14_79_31 (fun c_31 => ?_) (fun c_31 => ?_)
          · skip
            refine r_aload_n rfl dc_14_79_36 ?_
            refine q_get (v := .ref 139) rx_126 hM rfl dc_14_79_37 ?_
            refine r_iload_n rfl dc_14_79_40 ?_
            refine q_ild (e := s) (v := nI p) (by decide) (by decide) hM rfl (show s < 16 by omega) (by omega) (h57) dc_14_79_41 ?_
            refine r_istore (ls' := [(4, .int (nI p)), (0, .ref 100), (1, .int (nI s)), (2, .int (nI 0)), (3, .int (nI t))]) (by decide) rfl dc_14_79_42 ?_
            refine r_aload_n rfl dc_14_79_44 ?_
            refine q_get (v := .ref 109) rx_34 hM rfl dc_14_79_45 ?_
            refine r_iload rfl dc_14_79_48 ?_
            refine q_ild (e := p) (v := nI tt) (by decide) (by decide) hM rfl (show p < 8 by omega) (by omega) (h14) dc_14_79_50 ?_
            refine r_aload_n rfl dc_14_79_51 ?_
            refine q_get (v := .ref 108) rx_31 hM rfl dc_14_79_52 ?_
            refine r_iload rfl dc_14_79_55 ?_
            refine q_ild (e := p) (v := nI fr) (by decide) (by decide) hM rfl (show p < 8 by omega) (by omega) (h13) dc_14_79_57 ?_
            refine r_isub (v := nI (tt - fr)) (pk_sub (by omega)) dc_14_79_58 ?_
            refine r_iconst (v := nI 1) (by decide) dc_14_79_59 ?_
            refine r_iadd (v := nI (tt - fr + 1)) (nI_add _ _) dc_14_79_60 ?_
            refine r_istore (ls' := [(5, .int (nI (tt - fr + 1))), (4, .int (nI p)), (0, .ref 100), (1, .int (nI s)), (2, .int (nI 0)), (3, .int (nI t))]) (by decide) rfl dc_14_79_61 ?_
            refine r_iconst (v := nI 0) (by decide) dc_14_79_63 ?_
            refine r_istore (ls' := [(6, .int (nI 0)), (5, .int (nI (tt - fr + 1))), (4, .int (nI p)), (0, .ref 100), (1, .int (nI s)), (2, .int (nI 0)), (3, .int (nI t))]) (by decide) rfl dc_14_79_64 ?_
            refine r_aload_n rfl dc_14_79_66 ?_
            refine q_get (v := .ref 108) rx_31 hM rfl dc_14_79_67 ?_
            refine r_iload rfl dc_14_79_70 ?_
            refine q_ild (e := p) (v := nI fr) (by decide) (by decide) hM rfl (show p < 8 by omega) (by omega) (h13) dc_14_79_72 ?_
            refine r_istore (ls' := [(7, .int (nI fr)), (6, .int (nI 0)), (5, .int (nI (tt - fr + 1))), (4, .int (nI p)), (0, .ref 100), (1, .int (nI s)), (2, .int (nI 0)), (3, .int (nI t))]) (by decide) rfl dc_14_79_73 ?_
            refine mm_cnt (P := fun m => ∀ (acc : Int32), (acc = sp_sum (fun j => pI (sp_th sg nf p (nI s) (nI (fr + j)) (nI t))) (m - fr) ∧ fr ≤ m) → mm_Ru 3 (13, 8, false, prog_14_method_79_code, some .int) 75 [(7, .int (nI m)), (6, .int acc), (5, .int (nI (tt - fr + 1))), (4, .int (nI p)), (0, .ref 100), (1, .int (nI s)), (2, .int (nI 0)), (3, .int (nI t))] [] (rf_mk M io sg) (fun r9 => ∃ (a : Int32), ∃ (b : Int32), r9 = ((some (.int (sp_cr sg p (nI (sp_bst sg s p cm (sp_lev sg s tg) ne)) cm * sp_dth sg nf s p fr tt t / nI (tt - fr + 1))), rf_mk M (io5 io a b (nI (sp_bst sg s p cm (sp_lev sg s tg) ne)) (sp_cr sg p (nI (sp_bst sg s p cm (sp_lev sg s tg) ne)) cm) (sp_tp sg s p (nI (sp_bst sg s p cm (sp_lev sg s tg) ne)) cm)) sg)))) (tt + 1) ?_ ?_ fr (by omega) (nI 0) (⟨by rw [Nat.sub_self]; rfl, Nat.le_refl _⟩)
            · intro acc hi_m
              show mm_Ru 3 (13, 8, false, prog_14_method_79_code, some .int) 75 [(7, .int (nI (tt + 1))), (6, .int acc), (5, .int (nI (tt - fr + 1))), (4, .int (nI p)), (0, .ref 100), (1, .int (nI s)), (2, .int (nI 0)), (3, .int (nI t))] [] (rf_mk M io sg) (fun r9 => ∃ (a : Int32), ∃ (b : Int32), r9 = ((some (.int (sp_cr sg p (nI (sp_bst sg s p cm (sp_lev sg s tg) ne)) cm * sp_dth sg nf s p fr tt t / nI (tt - fr + 1))), rf_mk M (io5 io a b (nI (sp_bst sg s p cm (sp_lev sg s tg) ne)) (sp_cr sg p (nI (sp_bst sg s p cm (sp_lev sg s tg) ne)) cm) (sp_tp sg s p (nI (sp_bst sg s p cm (sp_lev sg s tg) ne)) cm)) sg)))
              refine r_iload rfl dc_14_79_75 ?_
              refine r_aload_n rfl dc_14_79_77 ?_
              refine q_get (v := .ref 109) rx_34 hM rfl dc_14_79_78 ?_
              refine r_iload rfl dc_14_79_81 ?_
              refine q_ild (e := p) (v := nI tt) (by decide) (by decide) hM rfl (show p < 8 by omega) (by omega) (h14) dc_14_79_83 ?_
              refine r_ncgt (t := 114) (by omega) (by omega) (by decide) dc_14_79_84 (fun c_84 => ?_) (fun c_84 => ?_)
              · skip
                refine r_iload_n rfl dc_14_79_114 ?_
                refine r_iconst (v := nI 1) (by decide) dc_14_79_115 ?_
                refine r_ncne (t := 140) (by omega) (by omega) (by decide) dc_14_79_116 (fun c_116 => ?_) (fun c_116 => ?_)
                · skip
                  refine r_aload_n rfl dc_14_79_140 ?_
                  refine r_iload_n rfl dc_14_79_141 ?_
                  refine r_iload rfl dc_14_79_142 ?_
                  obtain ⟨a9, b9, hst⟩ := c_studies M hM io sg s p tg cm (by omega) hp htg htg4 hcm hc6 ne hne hn64 hn1
                  refine q_callv (as := [.int (nI s), .int (nI p)]) (rest := []) (M1 := rf_mk M (io5 io a9 b9 (nI (sp_bst sg s p cm (sp_lev sg s tg) ne)) (sp_cr sg p (nI (sp_bst sg s p cm (sp_lev sg s tg) ne)) cm) (sp_tp sg s p (nI (sp_bst sg s p cm (sp_lev sg s tg) ne)) cm)) sg) iv_13_v416 na_1_252 o_252 hM rfl (show (0 : Nat) ≤ 8 by decide) dc_14_79_144 (hst) ?_
                  refine r_aload_n rfl dc_14_79_147 ?_
                  refine q_get (v := .int (sp_cr sg p (nI (sp_bst sg s p cm (sp_lev sg s tg) ne)) cm)) rx_404 hM rfl dc_14_79_148 ?_
                  refine r_iload rfl dc_14_79_151 ?_
                  refine r_imul (v := (sp_cr sg p (nI (sp_bst sg s p cm (sp_lev sg s tg) ne)) cm) * acc) (rfl) dc_14_79_153 ?_
                  refine r_iload rfl dc_14_79_154 ?_
                  refine r_idiv (v := sp_cr sg p (nI (sp_bst sg s p cm (sp_lev sg s tg) ne)) cm * acc / nI (tt - fr + 1)) (nI_ne0 (by omega) (by omega)) (rfl) dc_14_79_156 ?_
                  refine r_iret rfl dc_14_79_157 ?_
                  rw [hi_m.1]
                  exact ⟨a9, b9, rfl⟩
                · omega
              · omega
            · intro m h_m ih_m acc hi_m
              show mm_Ru 3 (13, 8, false, prog_14_method_79_code, some .int) 75 [(7, .int (nI m)), (6, .int acc), (5, .int (nI (tt - fr + 1))), (4, .int (nI p)), (0, .ref 100), (1, .int (nI s)), (2, .int (nI 0)), (3, .int (nI t))] [] (rf_mk M io sg) (fun r9 => ∃ (a : Int32), ∃ (b : Int32), r9 = ((some (.int (sp_cr sg p (nI (sp_bst sg s p cm (sp_lev sg s tg) ne)) cm * sp_dth sg nf s p fr tt t / nI (tt - fr + 1))), rf_mk M (io5 io a b (nI (sp_bst sg s p cm (sp_lev sg s tg) ne)) (sp_cr sg p (nI (sp_bst sg s p cm (sp_lev sg s tg) ne)) cm) (sp_tp sg s p (nI (sp_bst sg s p cm (sp_lev sg s tg) ne)) cm)) sg)))
              refine r_iload rfl dc_14_79_75 ?_
              refine r_aload_n rfl dc_14_79_77 ?_
              refine q_get (v := .ref 109) rx_34 hM rfl dc_14_79_78 ?_
              refine r_iload rfl dc_14_79_81 ?_
              refine q_ild (e := p) (v := nI tt) (by decide) (by decide) hM rfl (show p < 8 by omega) (by omega) (h14) dc_14_79_83 ?_
              refine r_ncgt (t := 114) (by omega) (by omega) (by decide) dc_14_79_84 (fun c_84 => ?_) (fun c_84 => ?_)
              · omega
              · skip
                refine r_iload rfl dc_14_79_87 ?_
                refine r_aload_n rfl dc_14_79_89 ?_
                refine r_iload_n rfl dc_14_79_90 ?_
                refine r_iload rfl dc_14_79_91 ?_
                refine r_iload_n rfl dc_14_79_93 ?_
                refine q_calli (as := [.int (nI s), .int (nI m), .int (nI t)]) (rest := [.int acc]) (v := .int (pI (sp_th sg nf p (nI s) (nI m) (nI t)))) (M1 := rf_mk M io sg) iv_13_v431 na_1_262 o_262 hM rfl (show (1 : Nat) ≤ 8 by decide) dc_14_79_94 (mm_Ev_up (by decide : 2 ≤ 3) (c_isThere M hM io sg nf h7 hnf s p (by omega) h56 h57 hp (nI m) (nI t))) ?_
                refine r_ifeq (t := 104) (by decide) dc_14_79_97 (fun c_97 => ?_) (fun c_97 => ?_)
                · skip
                  refine r_iconst (v := nI 0) (by decide) dc_14_79_104 ?_
                  refine r_iadd (v := acc + (nI 0)) (rfl) dc_14_79_105 ?_
                  refine r_istore (ls' := [(6, .int (acc + (nI 0))), (7, .int (nI m)), (5, .int (nI (tt - fr + 1))), (4, .int (nI p)), (0, .ref 100), (1, .int (nI s)), (2, .int (nI 0)), (3, .int (nI t))]) (by decide) rfl dc_14_79_106 ?_
                  refine r_iinc (x := nI m) (v := nI (m + 1)) (ls' := [(7, .int (nI (m + 1))), (6, .int (acc + (nI 0))), (5, .int (nI (tt - fr + 1))), (4, .int (nI p)), (0, .ref 100), (1, .int (nI s)), (2, .int (nI 0)), (3, .int (nI t))]) rfl (nI_1 _) (by decide) rfl dc_14_79_108 ?_
                  refine r_goto (t := 75) (by decide) dc_14_79_111 ?_
                  exact ih_m (acc + (nI 0)) (⟨(show m + 1 - fr = (m - fr) + 1 by omega) ▸ sp_add hi_m.1 (by show pI (sp_th sg nf p (nI s) (nI (fr + (m - fr))) (nI t)) = _; rw [show fr + (m - fr) = m by omega]; exact pI_f (pI_eq0 c_97)), by omega⟩)
                · skip
                  refine r_iconst (v := nI 1) (by decide) dc_14_79_100 ?_
                  refine r_goto (t := 105) (by decide) dc_14_79_101 ?_
                  refine r_iadd (v := acc + (nI 1)) (rfl) dc_14_79_105 ?_
                  refine r_istore (ls' := [(6, .int (acc + (nI 1))), (7, .int (nI m)), (5, .int (nI (tt - fr + 1))), (4, .int (nI p)), (0, .ref 100), (1, .int (nI s)), (2, .int (nI 0)), (3, .int (nI t))]) (by decide) rfl dc_14_79_106 ?_
                  refine r_iinc (x := nI m) (v := nI (m + 1)) (ls' := [(7, .int (nI (m + 1))), (6, .int (acc + (nI 1))), (5, .int (nI (tt - fr + 1))), (4, .int (nI p)), (0, .ref 100), (1, .int (nI s)), (2, .int (nI 0)), (3, .int (nI t))]) rfl (nI_1 _) (by decide) rfl dc_14_79_108 ?_
                  refine r_goto (t := 75) (by decide) dc_14_79_111 ?_
                  exact ih_m (acc + (nI 1)) (⟨(show m + 1 - fr = (m - fr) + 1 by omega) ▸ sp_add hi_m.1 (by show pI (sp_th sg nf p (nI s) (nI (fr + (m - fr))) (nI t)) = _; rw [show fr + (m - fr) = m by omega]; exact pI_t (pI_ne c_97)), by omega⟩)
          · exact absurd c_31 (by decide)
  obtain ⟨z9, ⟨a, b, e9⟩, h9⟩ := hq9
  subst e9
  exact ⟨a, b, h9⟩
set_option maxHeartbeats 4000000 in
theorem c_counts_n2 (M : mH) (hM : 157 ≤ M.1) (io : Nat → Int32) (sg : Nat → Nat → Int32) (ns : Nat) (h5 : io 5 = nI ns) (hns : ns ≤ 16) (s : Nat) (w t : Int32) (hs : s < ns) (hno : ¬ (sg 56 s = nI 1 ∧ (nI 0 ≤ w ∧ w ≤ nI 1) ∧ (0 ≤ t ∧ t < nI 360))) : mm_Ev 2 263 [.ref 100, .int (nI s), .int w, .int t] (rf_mk M io sg) ((some (.int (-1)), rf_mk M io sg)) := by
  refine r_ev (by decide +kernel) (show (4 : Nat) ≤ mm_nL 263 by decide +kernel) ?_
  show mm_Ru 1 (13, 8, false, prog_14_method_79_code, some .int) 0 [(0, .ref 100), (1, .int (nI s)), (2, .int w), (3, .int t)] [] (rf_mk M io sg) (fun r9 => r9 = ((some (.int (-1)), rf_mk M io sg)))
  refine r_aload_n rfl dc_14_79_0 ?_
  refine r_iload_n rfl dc_14_79_1 ?_
  refine q_calli (as := [.int (nI s)]) (rest := []) (v := .int (nI 1)) (M1 := rf_mk M io sg) iv_13_v323 na_1_222 o_222 hM rfl (show (0 : Nat) ≤ 8 by decide) dc_14_79_2 (c_isStudentT M hM io sg ns h5 s (by omega) (by omega)) ?_
  refine r_ifeq (t := 34) (by decide) dc_14_79_5 (fun c_5 => ?_) (fun c_5 => ?_)
  · exact absurd c_5 (by decide)
  · skip
    refine r_aload_n rfl dc_14_79_8 ?_
    refine q_get (v := .ref 138) rx_123 hM rfl dc_14_79_9 ?_
    refine r_iload_n rfl dc_14_79_12 ?_
    refine q_ild (e := s) (v := sg 56 s) (by decide) (by decide) hM rfl (show s < 16 by omega) (by omega) (rfl) dc_14_79_13 ?_
    refine r_iconst (v := nI 1) (by decide) dc_14_79_14 ?_
    refine r_icne (t := 34) (by decide) dc_14_79_15 (fun c_15 => ?_) (fun c_15 => ?_)
    · skip
      refine r_iconst (v := -1) (by decide) dc_14_79_34 ?_
      exact r_iret rfl dc_14_79_35 (rfl)
    · skip
      refine r_iload_n rfl dc_14_79_18 ?_
      refine r_iconst (v := nI 0) (by decide) dc_14_79_19 ?_
      refine r_iconst (v := nI 1) (by decide) dc_14_79_20 ?_
      refine q_calls (as := [.int w, .int (nI 0), .int (nI 1)]) (rest := []) (v := .int (sp_in w (nI 0) (nI 1))) iv_13_s180 na_0_187 rfl (show (0 : Nat) ≤ 8 by decide) dc_14_79_21 (c_in _ w (nI 0) (nI 1)) ?_
      refine r_ifeq (t := 34) (by decide) dc_14_79_24 (fun c_24 => ?_) (fun c_24 => ?_)
      · skip
        refine r_iconst (v := -1) (by decide) dc_14_79_34 ?_
        exact r_iret rfl dc_14_79_35 (rfl)
      · skip
        refine r_iload_n rfl dc_14_79_27 ?_
        refine q_calls (as := [.int t]) (rest := []) (v := .int (sp_is t (nI 360))) iv_13_s422 na_0_256 rfl (show (0 : Nat) ≤ 8 by decide) dc_14_79_28 (c_isDay _ t) ?_
        refine r_ifne (t := 36) (by decide) dc_14_79_31 (fun c_31 => ?_) (fun c_31 => ?_)
        · skip
          exact absurd (⟨c_15, sp_in_ne c_24, sp_is_ne c_31⟩) hno
        · skip
          refine r_iconst (v := -1) (by decide) dc_14_79_34 ?_
          exact r_iret rfl dc_14_79_35 (rfl)
set_option maxHeartbeats 4000000 in
theorem c_counts_no (M : mH) (hM : 157 ≤ M.1) (io : Nat → Int32) (sg : Nat → Nat → Int32) (s w t : Int32) (hno : ¬ (0 ≤ s ∧ s < io 5)) : mm_Ev 2 263 [.ref 100, .int s, .int w, .int t] (rf_mk M io sg) ((some (.int (-1)), rf_mk M io sg)) := by
  refine r_ev (by decide +kernel) (show (4 : Nat) ≤ mm_nL 263 by decide +kernel) ?_
  show mm_Ru 1 (13, 8, false, prog_14_method_79_code, some .int) 0 [(0, .ref 100), (1, .int s), (2, .int w), (3, .int t)] [] (rf_mk M io sg) (fun r9 => r9 = ((some (.int (-1)), rf_mk M io sg)))
  refine r_aload_n rfl dc_14_79_0 ?_
  refine r_iload_n rfl dc_14_79_1 ?_
  refine q_calli (as := [.int s]) (rest := []) (v := .int (sp_is s (io 5))) (M1 := rf_mk M io sg) iv_13_v323 na_1_222 o_222 hM rfl (show (0 : Nat) ≤ 8 by decide) dc_14_79_2 (c_isStudent M hM io sg s) ?_
  refine r_ifeq (t := 34) (by decide) dc_14_79_5 (fun c_5 => ?_) (fun c_5 => ?_)
  · skip
    refine r_iconst (v := -1) (by decide) dc_14_79_34 ?_
    exact r_iret rfl dc_14_79_35 (rfl)
  · skip
    exact absurd (sp_is_ne c_5) hno
