/-! the reference: student, level, wish, balance, out -/
theorem dc_14_37_0 : decode prog_14_method_37_code 0 = .ok (.aload_n 0, 1) := by decide +kernel
theorem dc_14_37_1 : decode prog_14_method_37_code 1 = .ok (.iload_n 1, 1) := by decide +kernel
theorem dc_14_37_2 : decode prog_14_method_37_code 2 = .ok (.invokevirtual 205, 3) := by decide +kernel
theorem dc_14_37_5 : decode prog_14_method_37_code 5 = .ok (.ifCond .eq 55, 3) := by decide +kernel
theorem dc_14_37_8 : decode prog_14_method_37_code 8 = .ok (.iload_n 2, 1) := by decide +kernel
theorem dc_14_37_9 : decode prog_14_method_37_code 9 = .ok (.iconst 0, 1) := by decide +kernel
theorem dc_14_37_10 : decode prog_14_method_37_code 10 = .ok (.bipush 7, 2) := by decide +kernel
theorem dc_14_37_12 : decode prog_14_method_37_code 12 = .ok (.invokestatic 180, 3) := by decide +kernel
theorem dc_14_37_15 : decode prog_14_method_37_code 15 = .ok (.ifCond .eq 45, 3) := by decide +kernel
theorem dc_14_37_18 : decode prog_14_method_37_code 18 = .ok (.iload_n 3, 1) := by decide +kernel
theorem dc_14_37_19 : decode prog_14_method_37_code 19 = .ok (.iconst 0, 1) := by decide +kernel
theorem dc_14_37_20 : decode prog_14_method_37_code 20 = .ok (.bipush 100, 2) := by decide +kernel
theorem dc_14_37_22 : decode prog_14_method_37_code 22 = .ok (.invokestatic 180, 3) := by decide +kernel
theorem dc_14_37_25 : decode prog_14_method_37_code 25 = .ok (.ifCond .eq 35, 3) := by decide +kernel
theorem dc_14_37_28 : decode prog_14_method_37_code 28 = .ok (.iload 4, 2) := by decide +kernel
theorem dc_14_37_30 : decode prog_14_method_37_code 30 = .ok (.iconst 0, 1) := by decide +kernel
theorem dc_14_37_31 : decode prog_14_method_37_code 31 = .ok (.bipush 99, 2) := by decide +kernel
theorem dc_14_37_33 : decode prog_14_method_37_code 33 = .ok (.invokestatic 180, 3) := by decide +kernel
theorem dc_14_37_36 : decode prog_14_method_37_code 36 = .ok (.ifCond .eq 24, 3) := by decide +kernel
theorem dc_14_37_39 : decode prog_14_method_37_code 39 = .ok (.iload 5, 2) := by decide +kernel
theorem dc_14_37_41 : decode prog_14_method_37_code 41 = .ok (.iconst 0, 1) := by decide +kernel
theorem dc_14_37_42 : decode prog_14_method_37_code 42 = .ok (.sipush 4095, 3) := by decide +kernel
theorem dc_14_37_45 : decode prog_14_method_37_code 45 = .ok (.invokestatic 180, 3) := by decide +kernel
theorem dc_14_37_48 : decode prog_14_method_37_code 48 = .ok (.ifCond .eq 12, 3) := by decide +kernel
theorem dc_14_37_51 : decode prog_14_method_37_code 51 = .ok (.aload_n 0, 1) := by decide +kernel
theorem dc_14_37_52 : decode prog_14_method_37_code 52 = .ok (.getfield 320, 3) := by decide +kernel
theorem dc_14_37_55 : decode prog_14_method_37_code 55 = .ok (.bipush 16, 2) := by decide +kernel
theorem dc_14_37_57 : decode prog_14_method_37_code 57 = .ok (.if_icmp .ne 5, 3) := by decide +kernel
theorem dc_14_37_60 : decode prog_14_method_37_code 60 = .ok (.iconst (-1), 1) := by decide +kernel
theorem dc_14_37_61 : decode prog_14_method_37_code 61 = .ok (.ireturn, 1) := by decide +kernel
theorem dc_14_37_62 : decode prog_14_method_37_code 62 = .ok (.aload_n 0, 1) := by decide +kernel
theorem dc_14_37_63 : decode prog_14_method_37_code 63 = .ok (.getfield 108, 3) := by decide +kernel
theorem dc_14_37_66 : decode prog_14_method_37_code 66 = .ok (.aload_n 0, 1) := by decide +kernel
theorem dc_14_37_67 : decode prog_14_method_37_code 67 = .ok (.getfield 320, 3) := by decide +kernel
theorem dc_14_37_70 : decode prog_14_method_37_code 70 = .ok (.iload_n 1, 1) := by decide +kernel
theorem dc_14_37_71 : decode prog_14_method_37_code 71 = .ok (.iastore, 1) := by decide +kernel
theorem dc_14_37_72 : decode prog_14_method_37_code 72 = .ok (.aload_n 0, 1) := by decide +kernel
theorem dc_14_37_73 : decode prog_14_method_37_code 73 = .ok (.getfield 111, 3) := by decide +kernel
theorem dc_14_37_76 : decode prog_14_method_37_code 76 = .ok (.aload_n 0, 1) := by decide +kernel
theorem dc_14_37_77 : decode prog_14_method_37_code 77 = .ok (.getfield 320, 3) := by decide +kernel
theorem dc_14_37_80 : decode prog_14_method_37_code 80 = .ok (.iload_n 2, 1) := by decide +kernel
theorem dc_14_37_81 : decode prog_14_method_37_code 81 = .ok (.iastore, 1) := by decide +kernel
theorem dc_14_37_82 : decode prog_14_method_37_code 82 = .ok (.aload_n 0, 1) := by decide +kernel
theorem dc_14_37_83 : decode prog_14_method_37_code 83 = .ok (.getfield 114, 3) := by decide +kernel
theorem dc_14_37_86 : decode prog_14_method_37_code 86 = .ok (.aload_n 0, 1) := by decide +kernel
theorem dc_14_37_87 : decode prog_14_method_37_code 87 = .ok (.getfield 320, 3) := by decide +kernel
theorem dc_14_37_90 : decode prog_14_method_37_code 90 = .ok (.iload_n 3, 1) := by decide +kernel
theorem dc_14_37_91 : decode prog_14_method_37_code 91 = .ok (.iastore, 1) := by decide +kernel
theorem dc_14_37_92 : decode prog_14_method_37_code 92 = .ok (.aload_n 0, 1) := by decide +kernel
theorem dc_14_37_93 : decode prog_14_method_37_code 93 = .ok (.getfield 117, 3) := by decide +kernel
theorem dc_14_37_96 : decode prog_14_method_37_code 96 = .ok (.aload_n 0, 1) := by decide +kernel
theorem dc_14_37_97 : decode prog_14_method_37_code 97 = .ok (.getfield 320, 3) := by decide +kernel
theorem dc_14_37_100 : decode prog_14_method_37_code 100 = .ok (.iload 4, 2) := by decide +kernel
theorem dc_14_37_102 : decode prog_14_method_37_code 102 = .ok (.iastore, 1) := by decide +kernel
theorem dc_14_37_103 : decode prog_14_method_37_code 103 = .ok (.aload_n 0, 1) := by decide +kernel
theorem dc_14_37_104 : decode prog_14_method_37_code 104 = .ok (.getfield 120, 3) := by decide +kernel
theorem dc_14_37_107 : decode prog_14_method_37_code 107 = .ok (.aload_n 0, 1) := by decide +kernel
theorem dc_14_37_108 : decode prog_14_method_37_code 108 = .ok (.getfield 320, 3) := by decide +kernel
theorem dc_14_37_111 : decode prog_14_method_37_code 111 = .ok (.iload 5, 2) := by decide +kernel
theorem dc_14_37_113 : decode prog_14_method_37_code 113 = .ok (.iastore, 1) := by decide +kernel
theorem dc_14_37_114 : decode prog_14_method_37_code 114 = .ok (.aload_n 0, 1) := by decide +kernel
theorem dc_14_37_115 : decode prog_14_method_37_code 115 = .ok (.getfield 123, 3) := by decide +kernel
theorem dc_14_37_118 : decode prog_14_method_37_code 118 = .ok (.aload_n 0, 1) := by decide +kernel
theorem dc_14_37_119 : decode prog_14_method_37_code 119 = .ok (.getfield 320, 3) := by decide +kernel
theorem dc_14_37_122 : decode prog_14_method_37_code 122 = .ok (.iconst 0, 1) := by decide +kernel
theorem dc_14_37_123 : decode prog_14_method_37_code 123 = .ok (.iastore, 1) := by decide +kernel
theorem dc_14_37_124 : decode prog_14_method_37_code 124 = .ok (.aload_n 0, 1) := by decide +kernel
theorem dc_14_37_125 : decode prog_14_method_37_code 125 = .ok (.getfield 126, 3) := by decide +kernel
theorem dc_14_37_128 : decode prog_14_method_37_code 128 = .ok (.aload_n 0, 1) := by decide +kernel
theorem dc_14_37_129 : decode prog_14_method_37_code 129 = .ok (.getfield 320, 3) := by decide +kernel
theorem dc_14_37_132 : decode prog_14_method_37_code 132 = .ok (.iconst (-1), 1) := by decide +kernel
theorem dc_14_37_133 : decode prog_14_method_37_code 133 = .ok (.iastore, 1) := by decide +kernel
theorem dc_14_37_134 : decode prog_14_method_37_code 134 = .ok (.aload_n 0, 1) := by decide +kernel
theorem dc_14_37_135 : decode prog_14_method_37_code 135 = .ok (.getfield 129, 3) := by decide +kernel
theorem dc_14_37_138 : decode prog_14_method_37_code 138 = .ok (.aload_n 0, 1) := by decide +kernel
theorem dc_14_37_139 : decode prog_14_method_37_code 139 = .ok (.getfield 320, 3) := by decide +kernel
theorem dc_14_37_142 : decode prog_14_method_37_code 142 = .ok (.iconst (-1), 1) := by decide +kernel
theorem dc_14_37_143 : decode prog_14_method_37_code 143 = .ok (.iastore, 1) := by decide +kernel
theorem dc_14_37_144 : decode prog_14_method_37_code 144 = .ok (.iconst 0, 1) := by decide +kernel
theorem dc_14_37_145 : decode prog_14_method_37_code 145 = .ok (.istore 6, 2) := by decide +kernel
theorem dc_14_37_147 : decode prog_14_method_37_code 147 = .ok (.iload 6, 2) := by decide +kernel
theorem dc_14_37_149 : decode prog_14_method_37_code 149 = .ok (.iconst 4, 1) := by decide +kernel
theorem dc_14_37_150 : decode prog_14_method_37_code 150 = .ok (.if_icmp .ge 24, 3) := by decide +kernel
theorem dc_14_37_153 : decode prog_14_method_37_code 153 = .ok (.aload_n 0, 1) := by decide +kernel
theorem dc_14_37_154 : decode prog_14_method_37_code 154 = .ok (.getfield 138, 3) := by decide +kernel
theorem dc_14_37_157 : decode prog_14_method_37_code 157 = .ok (.iconst 4, 1) := by decide +kernel
theorem dc_14_37_158 : decode prog_14_method_37_code 158 = .ok (.aload_n 0, 1) := by decide +kernel
theorem dc_14_37_159 : decode prog_14_method_37_code 159 = .ok (.getfield 320, 3) := by decide +kernel
theorem dc_14_37_162 : decode prog_14_method_37_code 162 = .ok (.imul, 1) := by decide +kernel
theorem dc_14_37_163 : decode prog_14_method_37_code 163 = .ok (.iload 6, 2) := by decide +kernel
theorem dc_14_37_165 : decode prog_14_method_37_code 165 = .ok (.iadd, 1) := by decide +kernel
theorem dc_14_37_166 : decode prog_14_method_37_code 166 = .ok (.iconst (-1), 1) := by decide +kernel
theorem dc_14_37_167 : decode prog_14_method_37_code 167 = .ok (.iastore, 1) := by decide +kernel
theorem dc_14_37_168 : decode prog_14_method_37_code 168 = .ok (.iinc 6 1, 3) := by decide +kernel
theorem dc_14_37_171 : decode prog_14_method_37_code 171 = .ok (.goto (-24), 3) := by decide +kernel
theorem dc_14_37_174 : decode prog_14_method_37_code 174 = .ok (.aload_n 0, 1) := by decide +kernel
theorem dc_14_37_175 : decode prog_14_method_37_code 175 = .ok (.aload_n 0, 1) := by decide +kernel
theorem dc_14_37_176 : decode prog_14_method_37_code 176 = .ok (.getfield 320, 3) := by decide +kernel
theorem dc_14_37_179 : decode prog_14_method_37_code 179 = .ok (.iconst 1, 1) := by decide +kernel
theorem dc_14_37_180 : decode prog_14_method_37_code 180 = .ok (.iadd, 1) := by decide +kernel
theorem dc_14_37_181 : decode prog_14_method_37_code 181 = .ok (.putfield 320, 3) := by decide +kernel
theorem dc_14_37_184 : decode prog_14_method_37_code 184 = .ok (.aload_n 0, 1) := by decide +kernel
theorem dc_14_37_185 : decode prog_14_method_37_code 185 = .ok (.getfield 320, 3) := by decide +kernel
theorem dc_14_37_188 : decode prog_14_method_37_code 188 = .ok (.iconst 1, 1) := by decide +kernel
theorem dc_14_37_189 : decode prog_14_method_37_code 189 = .ok (.isub, 1) := by decide +kernel
theorem dc_14_37_190 : decode prog_14_method_37_code 190 = .ok (.ireturn, 1) := by decide +kernel
theorem dc_14_38_0 : decode prog_14_method_38_code 0 = .ok (.aload_n 0, 1) := by decide +kernel
theorem dc_14_38_1 : decode prog_14_method_38_code 1 = .ok (.iload_n 1, 1) := by decide +kernel
theorem dc_14_38_2 : decode prog_14_method_38_code 2 = .ok (.invokevirtual 323, 3) := by decide +kernel
theorem dc_14_38_5 : decode prog_14_method_38_code 5 = .ok (.ifCond .eq 22, 3) := by decide +kernel
theorem dc_14_38_8 : decode prog_14_method_38_code 8 = .ok (.iload_n 2, 1) := by decide +kernel
theorem dc_14_38_9 : decode prog_14_method_38_code 9 = .ok (.iconst 0, 1) := by decide +kernel
theorem dc_14_38_10 : decode prog_14_method_38_code 10 = .ok (.iconst 3, 1) := by decide +kernel
theorem dc_14_38_11 : decode prog_14_method_38_code 11 = .ok (.invokestatic 180, 3) := by decide +kernel
theorem dc_14_38_14 : decode prog_14_method_38_code 14 = .ok (.ifCond .eq 13, 3) := by decide +kernel
theorem dc_14_38_17 : decode prog_14_method_38_code 17 = .ok (.iload_n 3, 1) := by decide +kernel
theorem dc_14_38_18 : decode prog_14_method_38_code 18 = .ok (.iconst (-1), 1) := by decide +kernel
theorem dc_14_38_19 : decode prog_14_method_38_code 19 = .ok (.bipush 9, 2) := by decide +kernel
theorem dc_14_38_21 : decode prog_14_method_38_code 21 = .ok (.invokestatic 180, 3) := by decide +kernel
theorem dc_14_38_24 : decode prog_14_method_38_code 24 = .ok (.ifCond .ne 5, 3) := by decide +kernel
theorem dc_14_38_27 : decode prog_14_method_38_code 27 = .ok (.iconst 0, 1) := by decide +kernel
theorem dc_14_38_28 : decode prog_14_method_38_code 28 = .ok (.ireturn, 1) := by decide +kernel
theorem dc_14_38_29 : decode prog_14_method_38_code 29 = .ok (.aload_n 0, 1) := by decide +kernel
theorem dc_14_38_30 : decode prog_14_method_38_code 30 = .ok (.getfield 138, 3) := by decide +kernel
theorem dc_14_38_33 : decode prog_14_method_38_code 33 = .ok (.iconst 4, 1) := by decide +kernel
theorem dc_14_38_34 : decode prog_14_method_38_code 34 = .ok (.iload_n 1, 1) := by decide +kernel
theorem dc_14_38_35 : decode prog_14_method_38_code 35 = .ok (.imul, 1) := by decide +kernel
theorem dc_14_38_36 : decode prog_14_method_38_code 36 = .ok (.iload_n 2, 1) := by decide +kernel
theorem dc_14_38_37 : decode prog_14_method_38_code 37 = .ok (.iadd, 1) := by decide +kernel
theorem dc_14_38_38 : decode prog_14_method_38_code 38 = .ok (.iload_n 3, 1) := by decide +kernel
theorem dc_14_38_39 : decode prog_14_method_38_code 39 = .ok (.iastore, 1) := by decide +kernel
theorem dc_14_38_40 : decode prog_14_method_38_code 40 = .ok (.iconst 1, 1) := by decide +kernel
theorem dc_14_38_41 : decode prog_14_method_38_code 41 = .ok (.ireturn, 1) := by decide +kernel
theorem dc_14_40_0 : decode prog_14_method_40_code 0 = .ok (.iconst 0, 1) := by decide +kernel
theorem dc_14_40_1 : decode prog_14_method_40_code 1 = .ok (.istore_n 3, 1) := by decide +kernel
theorem dc_14_40_2 : decode prog_14_method_40_code 2 = .ok (.iload_n 3, 1) := by decide +kernel
theorem dc_14_40_3 : decode prog_14_method_40_code 3 = .ok (.aload_n 0, 1) := by decide +kernel
theorem dc_14_40_4 : decode prog_14_method_40_code 4 = .ok (.getfield 132, 3) := by decide +kernel
theorem dc_14_40_7 : decode prog_14_method_40_code 7 = .ok (.iload_n 1, 1) := by decide +kernel
theorem dc_14_40_8 : decode prog_14_method_40_code 8 = .ok (.iaload, 1) := by decide +kernel
theorem dc_14_40_9 : decode prog_14_method_40_code 9 = .ok (.if_icmp .ge 25, 3) := by decide +kernel
theorem dc_14_40_12 : decode prog_14_method_40_code 12 = .ok (.aload_n 0, 1) := by decide +kernel
theorem dc_14_40_13 : decode prog_14_method_40_code 13 = .ok (.getfield 135, 3) := by decide +kernel
theorem dc_14_40_16 : decode prog_14_method_40_code 16 = .ok (.iconst 4, 1) := by decide +kernel
theorem dc_14_40_17 : decode prog_14_method_40_code 17 = .ok (.iload_n 1, 1) := by decide +kernel
theorem dc_14_40_18 : decode prog_14_method_40_code 18 = .ok (.imul, 1) := by decide +kernel
theorem dc_14_40_19 : decode prog_14_method_40_code 19 = .ok (.iload_n 3, 1) := by decide +kernel
theorem dc_14_40_20 : decode prog_14_method_40_code 20 = .ok (.iadd, 1) := by decide +kernel
theorem dc_14_40_21 : decode prog_14_method_40_code 21 = .ok (.iaload, 1) := by decide +kernel
theorem dc_14_40_22 : decode prog_14_method_40_code 22 = .ok (.iload_n 2, 1) := by decide +kernel
theorem dc_14_40_23 : decode prog_14_method_40_code 23 = .ok (.if_icmp .ne 5, 3) := by decide +kernel
theorem dc_14_40_26 : decode prog_14_method_40_code 26 = .ok (.iload_n 3, 1) := by decide +kernel
theorem dc_14_40_27 : decode prog_14_method_40_code 27 = .ok (.ireturn, 1) := by decide +kernel
theorem dc_14_40_28 : decode prog_14_method_40_code 28 = .ok (.iinc 3 1, 3) := by decide +kernel
theorem dc_14_40_31 : decode prog_14_method_40_code 31 = .ok (.goto (-29), 3) := by decide +kernel
theorem dc_14_40_34 : decode prog_14_method_40_code 34 = .ok (.iconst (-1), 1) := by decide +kernel
theorem dc_14_40_35 : decode prog_14_method_40_code 35 = .ok (.ireturn, 1) := by decide +kernel
theorem dc_14_41_0 : decode prog_14_method_41_code 0 = .ok (.aload_n 0, 1) := by decide +kernel
theorem dc_14_41_1 : decode prog_14_method_41_code 1 = .ok (.iload_n 1, 1) := by decide +kernel
theorem dc_14_41_2 : decode prog_14_method_41_code 2 = .ok (.invokevirtual 323, 3) := by decide +kernel
theorem dc_14_41_5 : decode prog_14_method_41_code 5 = .ok (.ifCond .eq 50, 3) := by decide +kernel
theorem dc_14_41_8 : decode prog_14_method_41_code 8 = .ok (.aload_n 0, 1) := by decide +kernel
theorem dc_14_41_9 : decode prog_14_method_41_code 9 = .ok (.iload_n 2, 1) := by decide +kernel
theorem dc_14_41_10 : decode prog_14_method_41_code 10 = .ok (.invokevirtual 205, 3) := by decide +kernel
theorem dc_14_41_13 : decode prog_14_method_41_code 13 = .ok (.ifCond .eq 42, 3) := by decide +kernel
theorem dc_14_41_16 : decode prog_14_method_41_code 16 = .ok (.aload_n 0, 1) := by decide +kernel
theorem dc_14_41_17 : decode prog_14_method_41_code 17 = .ok (.getfield 108, 3) := by decide +kernel
theorem dc_14_41_20 : decode prog_14_method_41_code 20 = .ok (.iload_n 1, 1) := by decide +kernel
theorem dc_14_41_21 : decode prog_14_method_41_code 21 = .ok (.iaload, 1) := by decide +kernel
theorem dc_14_41_22 : decode prog_14_method_41_code 22 = .ok (.iload_n 2, 1) := by decide +kernel
theorem dc_14_41_23 : decode prog_14_method_41_code 23 = .ok (.if_icmp .eq 32, 3) := by decide +kernel
theorem dc_14_41_26 : decode prog_14_method_41_code 26 = .ok (.aload_n 0, 1) := by decide +kernel
theorem dc_14_41_27 : decode prog_14_method_41_code 27 = .ok (.iload_n 1, 1) := by decide +kernel
theorem dc_14_41_28 : decode prog_14_method_41_code 28 = .ok (.iload_n 2, 1) := by decide +kernel
theorem dc_14_41_29 : decode prog_14_method_41_code 29 = .ok (.invokevirtual 326, 3) := by decide +kernel
theorem dc_14_41_32 : decode prog_14_method_41_code 32 = .ok (.iconst (-1), 1) := by decide +kernel
theorem dc_14_41_33 : decode prog_14_method_41_code 33 = .ok (.if_icmp .ne 22, 3) := by decide +kernel
theorem dc_14_41_36 : decode prog_14_method_41_code 36 = .ok (.aload_n 0, 1) := by decide +kernel
theorem dc_14_41_37 : decode prog_14_method_41_code 37 = .ok (.getfield 132, 3) := by decide +kernel
theorem dc_14_41_40 : decode prog_14_method_41_code 40 = .ok (.iload_n 1, 1) := by decide +kernel
theorem dc_14_41_41 : decode prog_14_method_41_code 41 = .ok (.iaload, 1) := by decide +kernel
theorem dc_14_41_42 : decode prog_14_method_41_code 42 = .ok (.iconst 4, 1) := by decide +kernel
theorem dc_14_41_43 : decode prog_14_method_41_code 43 = .ok (.if_icmp .eq 12, 3) := by decide +kernel
theorem dc_14_41_46 : decode prog_14_method_41_code 46 = .ok (.aload_n 0, 1) := by decide +kernel
theorem dc_14_41_47 : decode prog_14_method_41_code 47 = .ok (.getfield 123, 3) := by decide +kernel
theorem dc_14_41_50 : decode prog_14_method_41_code 50 = .ok (.iload_n 1, 1) := by decide +kernel
theorem dc_14_41_51 : decode prog_14_method_41_code 51 = .ok (.iaload, 1) := by decide +kernel
theorem dc_14_41_52 : decode prog_14_method_41_code 52 = .ok (.ifCond .eq 5, 3) := by decide +kernel
theorem dc_14_41_55 : decode prog_14_method_41_code 55 = .ok (.iconst 0, 1) := by decide +kernel
theorem dc_14_41_56 : decode prog_14_method_41_code 56 = .ok (.ireturn, 1) := by decide +kernel
theorem dc_14_41_57 : decode prog_14_method_41_code 57 = .ok (.aload_n 0, 1) := by decide +kernel
theorem dc_14_41_58 : decode prog_14_method_41_code 58 = .ok (.getfield 135, 3) := by decide +kernel
theorem dc_14_41_61 : decode prog_14_method_41_code 61 = .ok (.iconst 4, 1) := by decide +kernel
theorem dc_14_41_62 : decode prog_14_method_41_code 62 = .ok (.iload_n 1, 1) := by decide +kernel
theorem dc_14_41_63 : decode prog_14_method_41_code 63 = .ok (.imul, 1) := by decide +kernel
theorem dc_14_41_64 : decode prog_14_method_41_code 64 = .ok (.aload_n 0, 1) := by decide +kernel
theorem dc_14_41_65 : decode prog_14_method_41_code 65 = .ok (.getfield 132, 3) := by decide +kernel
theorem dc_14_41_68 : decode prog_14_method_41_code 68 = .ok (.iload_n 1, 1) := by decide +kernel
theorem dc_14_41_69 : decode prog_14_method_41_code 69 = .ok (.iaload, 1) := by decide +kernel
theorem dc_14_41_70 : decode prog_14_method_41_code 70 = .ok (.iadd, 1) := by decide +kernel
theorem dc_14_41_71 : decode prog_14_method_41_code 71 = .ok (.iload_n 2, 1) := by decide +kernel
theorem dc_14_41_72 : decode prog_14_method_41_code 72 = .ok (.iastore, 1) := by decide +kernel
theorem dc_14_41_73 : decode prog_14_method_41_code 73 = .ok (.aload_n 0, 1) := by decide +kernel
theorem dc_14_41_74 : decode prog_14_method_41_code 74 = .ok (.getfield 132, 3) := by decide +kernel
theorem dc_14_41_77 : decode prog_14_method_41_code 77 = .ok (.iload_n 1, 1) := by decide +kernel
theorem dc_14_41_78 : decode prog_14_method_41_code 78 = .ok (.aload_n 0, 1) := by decide +kernel
theorem dc_14_41_79 : decode prog_14_method_41_code 79 = .ok (.getfield 132, 3) := by decide +kernel
theorem dc_14_41_82 : decode prog_14_method_41_code 82 = .ok (.iload_n 1, 1) := by decide +kernel
theorem dc_14_41_83 : decode prog_14_method_41_code 83 = .ok (.iaload, 1) := by decide +kernel
theorem dc_14_41_84 : decode prog_14_method_41_code 84 = .ok (.iconst 1, 1) := by decide +kernel
theorem dc_14_41_85 : decode prog_14_method_41_code 85 = .ok (.iadd, 1) := by decide +kernel
theorem dc_14_41_86 : decode prog_14_method_41_code 86 = .ok (.iastore, 1) := by decide +kernel
theorem dc_14_41_87 : decode prog_14_method_41_code 87 = .ok (.iconst 1, 1) := by decide +kernel
theorem dc_14_41_88 : decode prog_14_method_41_code 88 = .ok (.ireturn, 1) := by decide +kernel
theorem dc_14_50_0 : decode prog_14_method_50_code 0 = .ok (.aload_n 0, 1) := by decide +kernel
theorem dc_14_50_1 : decode prog_14_method_50_code 1 = .ok (.iload_n 1, 1) := by decide +kernel
theorem dc_14_50_2 : decode prog_14_method_50_code 2 = .ok (.invokevirtual 296, 3) := by decide +kernel
theorem dc_14_50_5 : decode prog_14_method_50_code 5 = .ok (.ifCond .eq 11, 3) := by decide +kernel
theorem dc_14_50_8 : decode prog_14_method_50_code 8 = .ok (.aload_n 0, 1) := by decide +kernel
theorem dc_14_50_9 : decode prog_14_method_50_code 9 = .ok (.iload_n 1, 1) := by decide +kernel
theorem dc_14_50_10 : decode prog_14_method_50_code 10 = .ok (.invokevirtual 341, 3) := by decide +kernel
theorem dc_14_50_13 : decode prog_14_method_50_code 13 = .ok (.goto 4, 3) := by decide +kernel
theorem dc_14_50_16 : decode prog_14_method_50_code 16 = .ok (.iconst 0, 1) := by decide +kernel
theorem dc_14_50_17 : decode prog_14_method_50_code 17 = .ok (.ireturn, 1) := by decide +kernel
theorem dc_14_62_0 : decode prog_14_method_62_code 0 = .ok (.aload_n 0, 1) := by decide +kernel
theorem dc_14_62_1 : decode prog_14_method_62_code 1 = .ok (.iload_n 1, 1) := by decide +kernel
theorem dc_14_62_2 : decode prog_14_method_62_code 2 = .ok (.invokevirtual 323, 3) := by decide +kernel
theorem dc_14_62_5 : decode prog_14_method_62_code 5 = .ok (.ifCond .eq 22, 3) := by decide +kernel
theorem dc_14_62_8 : decode prog_14_method_62_code 8 = .ok (.aload_n 0, 1) := by decide +kernel
theorem dc_14_62_9 : decode prog_14_method_62_code 9 = .ok (.getfield 123, 3) := by decide +kernel
theorem dc_14_62_12 : decode prog_14_method_62_code 12 = .ok (.iload_n 1, 1) := by decide +kernel
theorem dc_14_62_13 : decode prog_14_method_62_code 13 = .ok (.iaload, 1) := by decide +kernel
theorem dc_14_62_14 : decode prog_14_method_62_code 14 = .ok (.iconst 1, 1) := by decide +kernel
theorem dc_14_62_15 : decode prog_14_method_62_code 15 = .ok (.if_icmp .eq 14, 3) := by decide +kernel
theorem dc_14_62_18 : decode prog_14_method_62_code 18 = .ok (.aload_n 0, 1) := by decide +kernel
theorem dc_14_62_19 : decode prog_14_method_62_code 19 = .ok (.getfield 123, 3) := by decide +kernel
theorem dc_14_62_22 : decode prog_14_method_62_code 22 = .ok (.iload_n 1, 1) := by decide +kernel
theorem dc_14_62_23 : decode prog_14_method_62_code 23 = .ok (.iaload, 1) := by decide +kernel
theorem dc_14_62_24 : decode prog_14_method_62_code 24 = .ok (.ifCond .eq 5, 3) := by decide +kernel
theorem dc_14_62_27 : decode prog_14_method_62_code 27 = .ok (.iconst 0, 1) := by decide +kernel
theorem dc_14_62_28 : decode prog_14_method_62_code 28 = .ok (.ireturn, 1) := by decide +kernel
theorem dc_14_62_29 : decode prog_14_method_62_code 29 = .ok (.aload_n 0, 1) := by decide +kernel
theorem dc_14_62_30 : decode prog_14_method_62_code 30 = .ok (.getfield 123, 3) := by decide +kernel
theorem dc_14_62_33 : decode prog_14_method_62_code 33 = .ok (.iload_n 1, 1) := by decide +kernel
theorem dc_14_62_34 : decode prog_14_method_62_code 34 = .ok (.iconst 2, 1) := by decide +kernel
theorem dc_14_62_35 : decode prog_14_method_62_code 35 = .ok (.iastore, 1) := by decide +kernel
theorem dc_14_62_36 : decode prog_14_method_62_code 36 = .ok (.aload_n 0, 1) := by decide +kernel
theorem dc_14_62_37 : decode prog_14_method_62_code 37 = .ok (.getfield 126, 3) := by decide +kernel
theorem dc_14_62_40 : decode prog_14_method_62_code 40 = .ok (.iload_n 1, 1) := by decide +kernel
theorem dc_14_62_41 : decode prog_14_method_62_code 41 = .ok (.iconst (-1), 1) := by decide +kernel
theorem dc_14_62_42 : decode prog_14_method_62_code 42 = .ok (.iastore, 1) := by decide +kernel
theorem dc_14_62_43 : decode prog_14_method_62_code 43 = .ok (.aload_n 0, 1) := by decide +kernel
theorem dc_14_62_44 : decode prog_14_method_62_code 44 = .ok (.getfield 129, 3) := by decide +kernel
theorem dc_14_62_47 : decode prog_14_method_62_code 47 = .ok (.iload_n 1, 1) := by decide +kernel
theorem dc_14_62_48 : decode prog_14_method_62_code 48 = .ok (.iconst (-1), 1) := by decide +kernel
theorem dc_14_62_49 : decode prog_14_method_62_code 49 = .ok (.iastore, 1) := by decide +kernel
theorem dc_14_62_50 : decode prog_14_method_62_code 50 = .ok (.aload_n 0, 1) := by decide +kernel
theorem dc_14_62_51 : decode prog_14_method_62_code 51 = .ok (.iload_n 1, 1) := by decide +kernel
theorem dc_14_62_52 : decode prog_14_method_62_code 52 = .ok (.invokevirtual 381, 3) := by decide +kernel
theorem dc_14_62_55 : decode prog_14_method_62_code 55 = .ok (.iconst 1, 1) := by decide +kernel
theorem dc_14_62_56 : decode prog_14_method_62_code 56 = .ok (.ireturn, 1) := by decide +kernel
theorem iv_13_v296 : mm_iv 13 (.invokevirtual 296) = some (1, 212) := by decide +kernel
theorem iv_13_v323 : mm_iv 13 (.invokevirtual 323) = some (1, 222) := by decide +kernel
theorem iv_13_v326 : mm_iv 13 (.invokevirtual 326) = some (1, 224) := by decide +kernel
theorem iv_13_v341 : mm_iv 13 (.invokevirtual 341) = some (1, 231) := by decide +kernel
theorem iv_13_v381 : mm_iv 13 (.invokevirtual 381) = some (1, 245) := by decide +kernel
theorem o_212 : mm_o 212 = 13 := by decide +kernel
theorem o_222 : mm_o 222 = 13 := by decide +kernel
theorem o_224 : mm_o 224 = 13 := by decide +kernel
theorem o_231 : mm_o 231 = 13 := by decide +kernel
theorem o_245 : mm_o 245 = 13 := by decide +kernel
theorem na_1_212 : mm_nas 1 212 = 2 := by decide +kernel
theorem na_1_222 : mm_nas 1 222 = 2 := by decide +kernel
theorem na_1_224 : mm_nas 1 224 = 3 := by decide +kernel
theorem na_1_231 : mm_nas 1 231 = 2 := by decide +kernel
theorem na_1_245 : mm_nas 1 245 = 2 := by decide +kernel
theorem up_s (f : Nat → Int32) (i : Nat) (v : Int32) : upd f i v i = v := if_pos rfl
theorem sp_in_ok {a lo hi : Nat} (h1 : lo ≤ a) (h2 : a ≤ hi) (hb : hi < 2 ^ 31) : sp_in (nI a) (nI lo) (nI hi) = nI 1 := if_pos ⟨nI_le h1 (by omega), nI_le h2 hb⟩
def gd_student (io : Nat → Int32) (h a b c d : Int32) : Prop := (0 ≤ h ∧ h < io 3) ∧ (nI 0 ≤ a ∧ a ≤ nI 7) ∧ (nI 0 ≤ b ∧ b ≤ nI 100) ∧ (nI 0 ≤ c ∧ c ≤ nI 99) ∧ (nI 0 ≤ d ∧ d ≤ nI 4095) ∧ ¬ io 5 = nI 16
def sp_fill (f : Nat → Int32) (at_ : Nat) (v : Int32) : Nat → Nat → Int32
  | 0 => f
  | n + 1 => upd (sp_fill f at_ v n) (at_ + n) v
theorem sp_fill_S (f : Nat → Int32) (at_ : Nat) (v : Int32) (n : Nat) : sp_fill f at_ v (n + 1) = upd (sp_fill f at_ v n) (at_ + n) v := rfl
def sg_student (sg : Nat → Nat → Int32) (ns : Nat) (h a b c d : Int32) : Nat → Nat → Int32 := va_up (va_up (va_up (va_up (va_up (va_up (va_up (va_up (va_up sg 51 (upd (sg 51) ns h)) 52 (upd (sg 52) ns a)) 53 (upd (sg 53) ns b)) 54 (upd (sg 54) ns c)) 55 (upd (sg 55) ns d)) 56 (upd (sg 56) ns (nI 0))) 57 (upd (sg 57) ns (-1))) 58 (upd (sg 58) ns (-1))) 61 (sp_fill (sg 61) (4 * ns) (-1) 4)
set_option maxHeartbeats 4000000 in
theorem c_student_ok (M : mH) (hM : 157 ≤ M.1) (io : Nat → Int32) (sg : Nat → Nat → Int32) (nh : Nat) (h3 : io 3 = nI nh) (hnh : nh ≤ 8) (ns : Nat) (h5 : io 5 = nI ns) (hns : ns ≤ 16) (hs16 : ns < 16) (h a b c d : Nat) (hh : h < nh) (ha : a < 8) (hb : b ≤ 100) (hc : c ≤ 99) (hd : d ≤ 4095) : mm_Ev 2 220 [.ref 100, .int (nI h), .int (nI a), .int (nI b), .int (nI c), .int (nI d)] (rf_mk M io sg) ((some (.int (nI ns)), rf_mk M (va_up io 5 (nI (ns + 1))) (sg_student sg ns (nI h) (nI a) (nI b) (nI c) (nI d)))) := by
  refine r_ev (by decide +kernel) (show (6 : Nat) ≤ mm_nL 220 by decide +kernel) ?_
  show mm_Ru 1 (13, 7, false, prog_14_method_37_code, some .int) 0 [(0, .ref 100), (1, .int (nI h)), (2, .int (nI a)), (3, .int (nI b)), (4, .int (nI c)), (5, .int (nI d))] [] (rf_mk M io sg) (fun z => z = ((some (.int (nI ns)), rf_mk M (va_up io 5 (nI (ns + 1))) (sg_student sg ns (nI h) (nI a) (nI b) (nI c) (nI d)))))
  refine r_aload_n rfl dc_14_37_0 ?_
  refine r_iload_n rfl dc_14_37_1 ?_
  refine q_calli (as := [.int (nI h)]) (rest := []) (v := .int (nI 1)) (M1 := rf_mk M io sg) iv_13_v205 na_1_196 o_196 hM rfl (show (0 : Nat) ≤ 8 by decide) dc_14_37_2 (c_isSchoolT M hM io sg nh h3 h (by omega) (by omega)) ?_
  refine r_ifeq (t := 60) (by decide) dc_14_37_5 (fun c_5 => ?_) (fun c_5 => ?_)
  · exact absurd c_5 (by decide)
  · skip
    refine r_iload_n rfl dc_14_37_8 ?_
    refine r_iconst (v := nI 0) (by decide) dc_14_37_9 ?_
    refine r_bipush (v := nI 7) (by decide) dc_14_37_10 ?_
    refine q_calls (as := [.int (nI a), .int (nI 0), .int (nI 7)]) (rest := []) (v := .int (nI 1)) iv_13_s180 na_0_187 rfl (show (0 : Nat) ≤ 8 by decide) dc_14_37_12 (c_inT _ a 0 7 (by omega) (by omega) (by omega)) ?_
    refine r_ifeq (t := 60) (by decide) dc_14_37_15 (fun c_15 => ?_) (fun c_15 => ?_)
    · exact absurd c_15 (by decide)
    · skip
      refine r_iload_n rfl dc_14_37_18 ?_
      refine r_iconst (v := nI 0) (by decide) dc_14_37_19 ?_
      refine r_bipush (v := nI 100) (by decide) dc_14_37_20 ?_
      refine q_calls (as := [.int (nI b), .int (nI 0), .int (nI 100)]) (rest := []) (v := .int (nI 1)) iv_13_s180 na_0_187 rfl (show (0 : Nat) ≤ 8 by decide) dc_14_37_22 (c_inT _ b 0 100 (by omega) (by omega) (by omega)) ?_
      refine r_ifeq (t := 60) (by decide) dc_14_37_25 (fun c_25 => ?_) (fun c_25 => ?_)
      · exact absurd c_25 (by decide)
      · skip
        refine r_iload rfl dc_14_37_28 ?_
        refine r_iconst (v := nI 0) (by decide) dc_14_37_30 ?_
        refine r_bipush (v := nI 99) (by decide) dc_14_37_31 ?_
        refine q_calls (as := [.int (nI c), .int (nI 0), .int (nI 99)]) (rest := []) (v := .int (nI 1)) iv_13_s180 na_0_187 rfl (show (0 : Nat) ≤ 8 by decide) dc_14_37_33 (c_inT _ c 0 99 (by omega) (by omega) (by omega)) ?_
        refine r_ifeq (t := 60) (by decide) dc_14_37_36 (fun c_36 => ?_) (fun c_36 => ?_)
        · exact absurd c_36 (by decide)
        · skip
          refine r_iload rfl dc_14_37_39 ?_
          refine r_iconst (v := nI 0) (by decide) dc_14_37_41 ?_
          refine r_sipush (v := nI 4095) (by decide) dc_14_37_42 ?_
          refine q_calls (as := [.int (nI d), .int (nI 0), .int (nI 4095)]) (rest := []) (v := .int (nI 1)) iv_13_s180 na_0_187 rfl (show (0 : Nat) ≤ 8 by decide) dc_14_37_45 (c_inT _ d 0 4095 (by omega) (by omega) (by omega)) ?_
          refine r_ifeq (t := 60) (by decide) dc_14_37_48 (fun c_48 => ?_) (fun c_48 => ?_)
          · exact absurd c_48 (by decide)
          · skip
            refine r_aload_n rfl dc_14_37_51 ?_
            refine q_get (v := .int (nI ns)) rx_320 hM (congrArg (fun z => some (Value.int z)) (h5)) dc_14_37_52 ?_
            refine r_bipush (v := nI 16) (by decide) dc_14_37_55 ?_
            refine r_ncne (t := 62) (by omega) (by omega) (by decide) dc_14_37_57 (fun c_57 => ?_) (fun c_57 => ?_)
            · skip
              refine r_aload_n rfl dc_14_37_62 ?_
              refine q_get (v := .ref 133) rx_108 hM rfl dc_14_37_63 ?_
              refine r_aload_n rfl dc_14_37_66 ?_
              refine q_get (v := .int (nI ns)) rx_320 hM (congrArg (fun z => some (Value.int z)) (h5)) dc_14_37_67 ?_
              refine r_iload_n rfl dc_14_37_70 ?_
              refine q_ist (e := ns) (k := 51) (by decide) (by decide) hM rfl rfl (show ns < 16 by omega) (by omega) dc_14_37_71 ?_
              refine r_aload_n rfl dc_14_37_72 ?_
              refine q_get (v := .ref 134) rx_111 hM rfl dc_14_37_73 ?_
              refine r_aload_n rfl dc_14_37_76 ?_
              refine q_get (v := .int (nI ns)) rx_320 hM (congrArg (fun z => some (Value.int z)) (h5)) dc_14_37_77 ?_
              refine r_iload_n rfl dc_14_37_80 ?_
              refine q_ist (e := ns) (k := 52) (by decide) (by decide) hM rfl rfl (show ns < 16 by omega) (by omega) dc_14_37_81 ?_
              refine r_aload_n rfl dc_14_37_82 ?_
              refine q_get (v := .ref 135) rx_114 hM rfl dc_14_37_83 ?_
              refine r_aload_n rfl dc_14_37_86 ?_
              refine q_get (v := .int (nI ns)) rx_320 hM (congrArg (fun z => some (Value.int z)) (h5)) dc_14_37_87 ?_
              refine r_iload_n rfl dc_14_37_90 ?_
              refine q_ist (e := ns) (k := 53) (by decide) (by decide) hM rfl rfl (show ns < 16 by omega) (by omega) dc_14_37_91 ?_
              refine r_aload_n rfl dc_14_37_92 ?_
              refine q_get (v := .ref 136) rx_117 hM rfl dc_14_37_93 ?_
              refine r_aload_n rfl dc_14_37_96 ?_
              refine q_get (v := .int (nI ns)) rx_320 hM (congrArg (fun z => some (Value.int z)) (h5)) dc_14_37_97 ?_
              refine r_iload rfl dc_14_37_100 ?_
              refine q_ist (e := ns) (k := 54) (by decide) (by decide) hM rfl rfl (show ns < 16 by omega) (by omega) dc_14_37_102 ?_
              refine r_aload_n rfl dc_14_37_103 ?_
              refine q_get (v := .ref 137) rx_120 hM rfl dc_14_37_104 ?_
              refine r_aload_n rfl dc_14_37_107 ?_
              refine q_get (v := .int (nI ns)) rx_320 hM (congrArg (fun z => some (Value.int z)) (h5)) dc_14_37_108 ?_
              refine r_iload rfl dc_14_37_111 ?_
              refine q_ist (e := ns) (k := 55) (by decide) (by decide) hM rfl rfl (show ns < 16 by omega) (by omega) dc_14_37_113 ?_
              refine r_aload_n rfl dc_14_37_114 ?_
              refine q_get (v := .ref 138) rx_123 hM rfl dc_14_37_115 ?_
              refine r_aload_n rfl dc_14_37_118 ?_
              refine q_get (v := .int (nI ns)) rx_320 hM (congrArg (fun z => some (Value.int z)) (h5)) dc_14_37_119 ?_
              refine r_iconst (v := nI 0) (by decide) dc_14_37_122 ?_
              refine q_ist (e := ns) (k := 56) (by decide) (by decide) hM rfl rfl (show ns < 16 by omega) (by omega) dc_14_37_123 ?_
              refine r_aload_n rfl dc_14_37_124 ?_
              refine q_get (v := .ref 139) rx_126 hM rfl dc_14_37_125 ?_
              refine r_aload_n rfl dc_14_37_128 ?_
              refine q_get (v := .int (nI ns)) rx_320 hM (congrArg (fun z => some (Value.int z)) (h5)) dc_14_37_129 ?_
              refine r_iconst (v := -1) (by decide) dc_14_37_132 ?_
              refine q_ist (e := ns) (k := 57) (by decide) (by decide) hM rfl rfl (show ns < 16 by omega) (by omega) dc_14_37_133 ?_
              refine r_aload_n rfl dc_14_37_134 ?_
              refine q_get (v := .ref 140) rx_129 hM rfl dc_14_37_135 ?_
              refine r_aload_n rfl dc_14_37_138 ?_
              refine q_get (v := .int (nI ns)) rx_320 hM (congrArg (fun z => some (Value.int z)) (h5)) dc_14_37_139 ?_
              refine r_iconst (v := -1) (by decide) dc_14_37_142 ?_
              refine q_ist (e := ns) (k := 58) (by decide) (by decide) hM rfl rfl (show ns < 16 by omega) (by omega) dc_14_37_143 ?_
              refine r_iconst (v := nI 0) (by decide) dc_14_37_144 ?_
              refine r_istore (ls' := [(6, .int (nI 0)), (0, .ref 100), (1, .int (nI h)), (2, .int (nI a)), (3, .int (nI b)), (4, .int (nI c)), (5, .int (nI d))]) (by decide) rfl dc_14_37_145 ?_
              have e61 : va_up (va_up (va_up (va_up (va_up (va_up (va_up (va_up (va_up sg 51 (upd (sg 51) ns (nI h))) 52 (upd ((va_up sg 51 (upd (sg 51) ns (nI h))) 52) ns (nI a))) 53 (upd ((va_up (va_up sg 51 (upd (sg 51) ns (nI h))) 52 (upd ((va_up sg 51 (upd (sg 51) ns (nI h))) 52) ns (nI a))) 53) ns (nI b))) 54 (upd ((va_up (va_up (va_up sg 51 (upd (sg 51) ns (nI h))) 52 (upd ((va_up sg 51 (upd (sg 51) ns (nI h))) 52) ns (nI a))) 53 (upd ((va_up (va_up sg 51 (upd (sg 51) ns (nI h))) 52 (upd ((va_up sg 51 (upd (sg 51) ns (nI h))) 52) ns (nI a))) 53) ns (nI b))) 54) ns (nI c))) 55 (upd ((va_up (va_up (va_up (va_up sg 51 (upd (sg 51) ns (nI h))) 52 (upd ((va_up sg 51 (upd (sg 51) ns (nI h))) 52) ns (nI a))) 53 (upd ((va_up (va_up sg 51 (upd (sg 51) ns (nI h))) 52 (upd ((va_up sg 51 (upd (sg 51) ns (nI h))) 52) ns (nI a))) 53) ns (nI b))) 54 (upd ((va_up (va_up (va_up sg 51 (upd (sg 51) ns (nI h))) 52 (upd ((va_up sg 51 (upd (sg 51) ns (nI h))) 52) ns (nI a))) 53 (upd ((va_up (va_up sg 51 (upd (sg 51) ns (nI h))) 52 (upd ((va_up sg 51 (upd (sg 51) ns (nI h))) 52) ns (nI a))) 53) ns (nI b))) 54) ns (nI c))) 55) ns (nI d))) 56 (upd ((va_up (va_up (va_up (va_up (va_up sg 51 (upd (sg 51) ns (nI h))) 52 (upd ((va_up sg 51 (upd (sg 51) ns (nI h))) 52) ns (nI a))) 53 (upd ((va_up (va_up sg 51 (upd (sg 51) ns (nI h))) 52 (upd ((va_up sg 51 (upd (sg 51) ns (nI h))) 52) ns (nI a))) 53) ns (nI b))) 54 (upd ((va_up (va_up (va_up sg 51 (upd (sg 51) ns (nI h))) 52 (upd ((va_up sg 51 (upd (sg 51) ns (nI h))) 52) ns (nI a))) 53 (upd ((va_up (va_up sg 51 (upd (sg 51) ns (nI h))) 52 (upd ((va_up sg 51 (upd (sg 51) ns (nI h))) 52) ns (nI a))) 53) ns (nI b))) 54) ns (nI c))) 55 (upd ((va_up (va_up (va_up (va_up sg 51 (upd (sg 51) ns (nI h))) 52 (upd ((va_up sg 51 (upd (sg 51) ns (nI h))) 52) ns (nI a))) 53 (upd ((va_up (va_up sg 51 (upd (sg 51) ns (nI h))) 52 (upd ((va_up sg 51 (upd (sg 51) ns (nI h))) 52) ns (nI a))) 53) ns (nI b))) 54 (upd ((va_up (va_up (va_up sg 51 (upd (sg 51) ns (nI h))) 52 (upd ((va_up sg 51 (upd (sg 51) ns (nI h))) 52) ns (nI a))) 53 (upd ((va_up (va_up sg 51 (upd (sg 51) ns (nI h))) 52 (upd ((va_up sg 51 (upd (sg 51) ns (nI h))) 52) ns (nI a))) 53) ns (nI b))) 54) ns (nI c))) 55) ns (nI d))) 56) ns (nI 0))) 57 (upd ((va_up (va_up (va_up (va_up (va_up (va_up sg 51 (upd (sg 51) ns (nI h))) 52 (upd ((va_up sg 51 (upd (sg 51) ns (nI h))) 52) ns (nI a))) 53 (upd ((va_up (va_up sg 51 (upd (sg 51) ns (nI h))) 52 (upd ((va_up sg 51 (upd (sg 51) ns (nI h))) 52) ns (nI a))) 53) ns (nI b))) 54 (upd ((va_up (va_up (va_up sg 51 (upd (sg 51) ns (nI h))) 52 (upd ((va_up sg 51 (upd (sg 51) ns (nI h))) 52) ns (nI a))) 53 (upd ((va_up (va_up sg 51 (upd (sg 51) ns (nI h))) 52 (upd ((va_up sg 51 (upd (sg 51) ns (nI h))) 52) ns (nI a))) 53) ns (nI b))) 54) ns (nI c))) 55 (upd ((va_up (va_up (va_up (va_up sg 51 (upd (sg 51) ns (nI h))) 52 (upd ((va_up sg 51 (upd (sg 51) ns (nI h))) 52) ns (nI a))) 53 (upd ((va_up (va_up sg 51 (upd (sg 51) ns (nI h))) 52 (upd ((va_up sg 51 (upd (sg 51) ns (nI h))) 52) ns (nI a))) 53) ns (nI b))) 54 (upd ((va_up (va_up (va_up sg 51 (upd (sg 51) ns (nI h))) 52 (upd ((va_up sg 51 (upd (sg 51) ns (nI h))) 52) ns (nI a))) 53 (upd ((va_up (va_up sg 51 (upd (sg 51) ns (nI h))) 52 (upd ((va_up sg 51 (upd (sg 51) ns (nI h))) 52) ns (nI a))) 53) ns (nI b))) 54) ns (nI c))) 55) ns (nI d))) 56 (upd ((va_up (va_up (va_up (va_up (va_up sg 51 (upd (sg 51) ns (nI h))) 52 (upd ((va_up sg 51 (upd (sg 51) ns (nI h))) 52) ns (nI a))) 53 (upd ((va_up (va_up sg 51 (upd (sg 51) ns (nI h))) 52 (upd ((va_up sg 51 (upd (sg 51) ns (nI h))) 52) ns (nI a))) 53) ns (nI b))) 54 (upd ((va_up (va_up (va_up sg 51 (upd (sg 51) ns (nI h))) 52 (upd ((va_up sg 51 (upd (sg 51) ns (nI h))) 52) ns (nI a))) 53 (upd ((va_up (va_up sg 51 (upd (sg 51) ns (nI h))) 52 (upd ((va_up sg 51 (upd (sg 51) ns (nI h))) 52) ns (nI a))) 53) ns (nI b))) 54) ns (nI c))) 55 (upd ((va_up (va_up (va_up (va_up sg 51 (upd (sg 51) ns (nI h))) 52 (upd ((va_up sg 51 (upd (sg 51) ns (nI h))) 52) ns (nI a))) 53 (upd ((va_up (va_up sg 51 (upd (sg 51) ns (nI h))) 52 (upd ((va_up sg 51 (upd (sg 51) ns (nI h))) 52) ns (nI a))) 53) ns (nI b))) 54 (upd ((va_up (va_up (va_up sg 51 (upd (sg 51) ns (nI h))) 52 (upd ((va_up sg 51 (upd (sg 51) ns (nI h))) 52) ns (nI a))) 53 (upd ((va_up (va_up sg 51 (upd (sg 51) ns (nI h))) 52 (upd ((va_up sg 51 (upd (sg 51) ns (nI h))) 52) ns (nI a))) 53) ns (nI b))) 54) ns (nI c))) 55) ns (nI d))) 56) ns (nI 0))) 57) ns ((-1)))) 58 (upd ((va_up (va_up (va_up (va_up (va_up (va_up (va_up sg 51 (upd (sg 51) ns (nI h))) 52 (upd ((va_up sg 51 (upd (sg 51) ns (nI h))) 52) ns (nI a))) 53 (upd ((va_up (va_up sg 51 (upd (sg 51) ns (nI h))) 52 (upd ((va_up sg 51 (upd (sg 51) ns (nI h))) 52) ns (nI a))) 53) ns (nI b))) 54 (upd ((va_up (va_up (va_up sg 51 (upd (sg 51) ns (nI h))) 52 (upd ((va_up sg 51 (upd (sg 51) ns (nI h))) 52) ns (nI a))) 53 (upd ((va_up (va_up sg 51 (upd (sg 51) ns (nI h))) 52 (upd ((va_up sg 51 (upd (sg 51) ns (nI h))) 52) ns (nI a))) 53) ns (nI b))) 54) ns (nI c))) 55 (upd ((va_up (va_up (va_up (va_up sg 51 (upd (sg 51) ns (nI h))) 52 (upd ((va_up sg 51 (upd (sg 51) ns (nI h))) 52) ns (nI a))) 53 (upd ((va_up (va_up sg 51 (upd (sg 51) ns (nI h))) 52 (upd ((va_up sg 51 (upd (sg 51) ns (nI h))) 52) ns (nI a))) 53) ns (nI b))) 54 (upd ((va_up (va_up (va_up sg 51 (upd (sg 51) ns (nI h))) 52 (upd ((va_up sg 51 (upd (sg 51) ns (nI h))) 52) ns (nI a))) 53 (upd ((va_up (va_up sg 51 (upd (sg 51) ns (nI h))) 52 (upd ((va_up sg 51 (upd (sg 51) ns (nI h))) 52) ns (nI a))) 53) ns (nI b))) 54) ns (nI c))) 55) ns (nI d))) 56 (upd ((va_up (va_up (va_up (va_up (va_up sg 51 (upd (sg 51) ns (nI h))) 52 (upd ((va_up sg 51 (upd (sg 51) ns (nI h))) 52) ns (nI a))) 53 (upd ((va_up (va_up sg 51 (upd (sg 51) ns (nI h))) 52 (upd ((va_up sg 51 (upd (sg 51) ns (nI h))) 52) ns (nI a))) 53) ns (nI b))) 54 (upd ((va_up (va_up (va_up sg 51 (upd (sg 51) ns (nI h))) 52 (upd ((va_up sg 51 (upd (sg 51) ns (nI h))) 52) ns (nI a))) 53 (upd ((va_up (va_up sg 51 (upd (sg 51) ns (nI h))) 52 (upd ((va_up sg 51 (upd (sg 51) ns (nI h))) 52) ns (nI a))) 53) ns (nI b))) 54) ns (nI c))) 55 (upd ((va_up (va_up (va_up (va_up sg 51 (upd (sg 51) ns (nI h))) 52 (upd ((va_up sg 51 (upd (sg 51) ns (nI h))) 52) ns (nI a))) 53 (upd ((va_up (va_up sg 51 (upd (sg 51) ns (nI h))) 52 (upd ((va_up sg 51 (upd (sg 51) ns (nI h))) 52) ns (nI a))) 53) ns (nI b))) 54 (upd ((va_up (va_up (va_up sg 51 (upd (sg 51) ns (nI h))) 52 (upd ((va_up sg 51 (upd (sg 51) ns (nI h))) 52) ns (nI a))) 53 (upd ((va_up (va_up sg 51 (upd (sg 51) ns (nI h))) 52 (upd ((va_up sg 51 (upd (sg 51) ns (nI h))) 52) ns (nI a))) 53) ns (nI b))) 54) ns (nI c))) 55) ns (nI d))) 56) ns (nI 0))) 57 (upd ((va_up (va_up (va_up (va_up (va_up (va_up sg 51 (upd (sg 51) ns (nI h))) 52 (upd ((va_up sg 51 (upd (sg 51) ns (nI h))) 52) ns (nI a))) 53 (upd ((va_up (va_up sg 51 (upd (sg 51) ns (nI h))) 52 (upd ((va_up sg 51 (upd (sg 51) ns (nI h))) 52) ns (nI a))) 53) ns (nI b))) 54 (upd ((va_up (va_up (va_up sg 51 (upd (sg 51) ns (nI h))) 52 (upd ((va_up sg 51 (upd (sg 51) ns (nI h))) 52) ns (nI a))) 53 (upd ((va_up (va_up sg 51 (upd (sg 51) ns (nI h))) 52 (upd ((va_up sg 51 (upd (sg 51) ns (nI h))) 52) ns (nI a))) 53) ns (nI b))) 54) ns (nI c))) 55 (upd ((va_up (va_up (va_up (va_up sg 51 (upd (sg 51) ns (nI h))) 52 (upd ((va_up sg 51 (upd (sg 51) ns (nI h))) 52) ns (nI a))) 53 (upd ((va_up (va_up sg 51 (upd (sg 51) ns (nI h))) 52 (upd ((va_up sg 51 (upd (sg 51) ns (nI h))) 52) ns (nI a))) 53) ns (nI b))) 54 (upd ((va_up (va_up (va_up sg 51 (upd (sg 51) ns (nI h))) 52 (upd ((va_up sg 51 (upd (sg 51) ns (nI h))) 52) ns (nI a))) 53 (upd ((va_up (va_up sg 51 (upd (sg 51) ns (nI h))) 52 (upd ((va_up sg 51 (upd (sg 51) ns (nI h))) 52) ns (nI a))) 53) ns (nI b))) 54) ns (nI c))) 55) ns (nI d))) 56 (upd ((va_up (va_up (va_up (va_up (va_up sg 51 (upd (sg 51) ns (nI h))) 52 (upd ((va_up sg 51 (upd (sg 51) ns (nI h))) 52) ns (nI a))) 53 (upd ((va_up (va_up sg 51 (upd (sg 51) ns (nI h))) 52 (upd ((va_up sg 51 (upd (sg 51) ns (nI h))) 52) ns (nI a))) 53) ns (nI b))) 54 (upd ((va_up (va_up (va_up sg 51 (upd (sg 51) ns (nI h))) 52 (upd ((va_up sg 51 (upd (sg 51) ns (nI h))) 52) ns (nI a))) 53 (upd ((va_up (va_up sg 51 (upd (sg 51) ns (nI h))) 52 (upd ((va_up sg 51 (upd (sg 51) ns (nI h))) 52) ns (nI a))) 53) ns (nI b))) 54) ns (nI c))) 55 (upd ((va_up (va_up (va_up (va_up sg 51 (upd (sg 51) ns (nI h))) 52 (upd ((va_up sg 51 (upd (sg 51) ns (nI h))) 52) ns (nI a))) 53 (upd ((va_up (va_up sg 51 (upd (sg 51) ns (nI h))) 52 (upd ((va_up sg 51 (upd (sg 51) ns (nI h))) 52) ns (nI a))) 53) ns (nI b))) 54 (upd ((va_up (va_up (va_up sg 51 (upd (sg 51) ns (nI h))) 52 (upd ((va_up sg 51 (upd (sg 51) ns (nI h))) 52) ns (nI a))) 53 (upd ((va_up (va_up sg 51 (upd (sg 51) ns (nI h))) 52 (upd ((va_up sg 51 (upd (sg 51) ns (nI h))) 52) ns (nI a))) 53) ns (nI b))) 54) ns (nI c))) 55) ns (nI d))) 56) ns (nI 0))) 57) ns ((-1)))) 58) ns ((-1)))) 61 (sp_fill (sg 61) (4 * ns) (-1) 0) = va_up (va_up (va_up (va_up (va_up (va_up (va_up (va_up sg 51 (upd (sg 51) ns (nI h))) 52 (upd ((va_up sg 51 (upd (sg 51) ns (nI h))) 52) ns (nI a))) 53 (upd ((va_up (va_up sg 51 (upd (sg 51) ns (nI h))) 52 (upd ((va_up sg 51 (upd (sg 51) ns (nI h))) 52) ns (nI a))) 53) ns (nI b))) 54 (upd ((va_up (va_up (va_up sg 51 (upd (sg 51) ns (nI h))) 52 (upd ((va_up sg 51 (upd (sg 51) ns (nI h))) 52) ns (nI a))) 53 (upd ((va_up (va_up sg 51 (upd (sg 51) ns (nI h))) 52 (upd ((va_up sg 51 (upd (sg 51) ns (nI h))) 52) ns (nI a))) 53) ns (nI b))) 54) ns (nI c))) 55 (upd ((va_up (va_up (va_up (va_up sg 51 (upd (sg 51) ns (nI h))) 52 (upd ((va_up sg 51 (upd (sg 51) ns (nI h))) 52) ns (nI a))) 53 (upd ((va_up (va_up sg 51 (upd (sg 51) ns (nI h))) 52 (upd ((va_up sg 51 (upd (sg 51) ns (nI h))) 52) ns (nI a))) 53) ns (nI b))) 54 (upd ((va_up (va_up (va_up sg 51 (upd (sg 51) ns (nI h))) 52 (upd ((va_up sg 51 (upd (sg 51) ns (nI h))) 52) ns (nI a))) 53 (upd ((va_up (va_up sg 51 (upd (sg 51) ns (nI h))) 52 (upd ((va_up sg 51 (upd (sg 51) ns (nI h))) 52) ns (nI a))) 53) ns (nI b))) 54) ns (nI c))) 55) ns (nI d))) 56 (upd ((va_up (va_up (va_up (va_up (va_up sg 51 (upd (sg 51) ns (nI h))) 52 (upd ((va_up sg 51 (upd (sg 51) ns (nI h))) 52) ns (nI a))) 53 (upd ((va_up (va_up sg 51 (upd (sg 51) ns (nI h))) 52 (upd ((va_up sg 51 (upd (sg 51) ns (nI h))) 52) ns (nI a))) 53) ns (nI b))) 54 (upd ((va_up (va_up (va_up sg 51 (upd (sg 51) ns (nI h))) 52 (upd ((va_up sg 51 (upd (sg 51) ns (nI h))) 52) ns (nI a))) 53 (upd ((va_up (va_up sg 51 (upd (sg 51) ns (nI h))) 52 (upd ((va_up sg 51 (upd (sg 51) ns (nI h))) 52) ns (nI a))) 53) ns (nI b))) 54) ns (nI c))) 55 (upd ((va_up (va_up (va_up (va_up sg 51 (upd (sg 51) ns (nI h))) 52 (upd ((va_up sg 51 (upd (sg 51) ns (nI h))) 52) ns (nI a))) 53 (upd ((va_up (va_up sg 51 (upd (sg 51) ns (nI h))) 52 (upd ((va_up sg 51 (upd (sg 51) ns (nI h))) 52) ns (nI a))) 53) ns (nI b))) 54 (upd ((va_up (va_up (va_up sg 51 (upd (sg 51) ns (nI h))) 52 (upd ((va_up sg 51 (upd (sg 51) ns (nI h))) 52) ns (nI a))) 53 (upd ((va_up (va_up sg 51 (upd (sg 51) ns (nI h))) 52 (upd ((va_up sg 51 (upd (sg 51) ns (nI h))) 52) ns (nI a))) 53) ns (nI b))) 54) ns (nI c))) 55) ns (nI d))) 56) ns (nI 0))) 57 (upd ((va_up (va_up (va_up (va_up (va_up (va_up sg 51 (upd (sg 51) ns (nI h))) 52 (upd ((va_up sg 51 (upd (sg 51) ns (nI h))) 52) ns (nI a))) 53 (upd ((va_up (va_up sg 51 (upd (sg 51) ns (nI h))) 52 (upd ((va_up sg 51 (upd (sg 51) ns (nI h))) 52) ns (nI a))) 53) ns (nI b))) 54 (upd ((va_up (va_up (va_up sg 51 (upd (sg 51) ns (nI h))) 52 (upd ((va_up sg 51 (upd (sg 51) ns (nI h))) 52) ns (nI a))) 53 (upd ((va_up (va_up sg 51 (upd (sg 51) ns (nI h))) 52 (upd ((va_up sg 51 (upd (sg 51) ns (nI h))) 52) ns (nI a))) 53) ns (nI b))) 54) ns (nI c))) 55 (upd ((va_up (va_up (va_up (va_up sg 51 (upd (sg 51) ns (nI h))) 52 (upd ((va_up sg 51 (upd (sg 51) ns (nI h))) 52) ns (nI a))) 53 (upd ((va_up (va_up sg 51 (upd (sg 51) ns (nI h))) 52 (upd ((va_up sg 51 (upd (sg 51) ns (nI h))) 52) ns (nI a))) 53) ns (nI b))) 54 (upd ((va_up (va_up (va_up sg 51 (upd (sg 51) ns (nI h))) 52 (upd ((va_up sg 51 (upd (sg 51) ns (nI h))) 52) ns (nI a))) 53 (upd ((va_up (va_up sg 51 (upd (sg 51) ns (nI h))) 52 (upd ((va_up sg 51 (upd (sg 51) ns (nI h))) 52) ns (nI a))) 53) ns (nI b))) 54) ns (nI c))) 55) ns (nI d))) 56 (upd ((va_up (va_up (va_up (va_up (va_up sg 51 (upd (sg 51) ns (nI h))) 52 (upd ((va_up sg 51 (upd (sg 51) ns (nI h))) 52) ns (nI a))) 53 (upd ((va_up (va_up sg 51 (upd (sg 51) ns (nI h))) 52 (upd ((va_up sg 51 (upd (sg 51) ns (nI h))) 52) ns (nI a))) 53) ns (nI b))) 54 (upd ((va_up (va_up (va_up sg 51 (upd (sg 51) ns (nI h))) 52 (upd ((va_up sg 51 (upd (sg 51) ns (nI h))) 52) ns (nI a))) 53 (upd ((va_up (va_up sg 51 (upd (sg 51) ns (nI h))) 52 (upd ((va_up sg 51 (upd (sg 51) ns (nI h))) 52) ns (nI a))) 53) ns (nI b))) 54) ns (nI c))) 55 (upd ((va_up (va_up (va_up (va_up sg 51 (upd (sg 51) ns (nI h))) 52 (upd ((va_up sg 51 (upd (sg 51) ns (nI h))) 52) ns (nI a))) 53 (upd ((va_up (va_up sg 51 (upd (sg 51) ns (nI h))) 52 (upd ((va_up sg 51 (upd (sg 51) ns (nI h))) 52) ns (nI a))) 53) ns (nI b))) 54 (upd ((va_up (va_up (va_up sg 51 (upd (sg 51) ns (nI h))) 52 (upd ((va_up sg 51 (upd (sg 51) ns (nI h))) 52) ns (nI a))) 53 (upd ((va_up (va_up sg 51 (upd (sg 51) ns (nI h))) 52 (upd ((va_up sg 51 (upd (sg 51) ns (nI h))) 52) ns (nI a))) 53) ns (nI b))) 54) ns (nI c))) 55) ns (nI d))) 56) ns (nI 0))) 57) ns ((-1)))) 58 (upd ((va_up (va_up (va_up (va_up (va_up (va_up (va_up sg 51 (upd (sg 51) ns (nI h))) 52 (upd ((va_up sg 51 (upd (sg 51) ns (nI h))) 52) ns (nI a))) 53 (upd ((va_up (va_up sg 51 (upd (sg 51) ns (nI h))) 52 (upd ((va_up sg 51 (upd (sg 51) ns (nI h))) 52) ns (nI a))) 53) ns (nI b))) 54 (upd ((va_up (va_up (va_up sg 51 (upd (sg 51) ns (nI h))) 52 (upd ((va_up sg 51 (upd (sg 51) ns (nI h))) 52) ns (nI a))) 53 (upd ((va_up (va_up sg 51 (upd (sg 51) ns (nI h))) 52 (upd ((va_up sg 51 (upd (sg 51) ns (nI h))) 52) ns (nI a))) 53) ns (nI b))) 54) ns (nI c))) 55 (upd ((va_up (va_up (va_up (va_up sg 51 (upd (sg 51) ns (nI h))) 52 (upd ((va_up sg 51 (upd (sg 51) ns (nI h))) 52) ns (nI a))) 53 (upd ((va_up (va_up sg 51 (upd (sg 51) ns (nI h))) 52 (upd ((va_up sg 51 (upd (sg 51) ns (nI h))) 52) ns (nI a))) 53) ns (nI b))) 54 (upd ((va_up (va_up (va_up sg 51 (upd (sg 51) ns (nI h))) 52 (upd ((va_up sg 51 (upd (sg 51) ns (nI h))) 52) ns (nI a))) 53 (upd ((va_up (va_up sg 51 (upd (sg 51) ns (nI h))) 52 (upd ((va_up sg 51 (upd (sg 51) ns (nI h))) 52) ns (nI a))) 53) ns (nI b))) 54) ns (nI c))) 55) ns (nI d))) 56 (upd ((va_up (va_up (va_up (va_up (va_up sg 51 (upd (sg 51) ns (nI h))) 52 (upd ((va_up sg 51 (upd (sg 51) ns (nI h))) 52) ns (nI a))) 53 (upd ((va_up (va_up sg 51 (upd (sg 51) ns (nI h))) 52 (upd ((va_up sg 51 (upd (sg 51) ns (nI h))) 52) ns (nI a))) 53) ns (nI b))) 54 (upd ((va_up (va_up (va_up sg 51 (upd (sg 51) ns (nI h))) 52 (upd ((va_up sg 51 (upd (sg 51) ns (nI h))) 52) ns (nI a))) 53 (upd ((va_up (va_up sg 51 (upd (sg 51) ns (nI h))) 52 (upd ((va_up sg 51 (upd (sg 51) ns (nI h))) 52) ns (nI a))) 53) ns (nI b))) 54) ns (nI c))) 55 (upd ((va_up (va_up (va_up (va_up sg 51 (upd (sg 51) ns (nI h))) 52 (upd ((va_up sg 51 (upd (sg 51) ns (nI h))) 52) ns (nI a))) 53 (upd ((va_up (va_up sg 51 (upd (sg 51) ns (nI h))) 52 (upd ((va_up sg 51 (upd (sg 51) ns (nI h))) 52) ns (nI a))) 53) ns (nI b))) 54 (upd ((va_up (va_up (va_up sg 51 (upd (sg 51) ns (nI h))) 52 (upd ((va_up sg 51 (upd (sg 51) ns (nI h))) 52) ns (nI a))) 53 (upd ((va_up (va_up sg 51 (upd (sg 51) ns (nI h))) 52 (upd ((va_up sg 51 (upd (sg 51) ns (nI h))) 52) ns (nI a))) 53) ns (nI b))) 54) ns (nI c))) 55) ns (nI d))) 56) ns (nI 0))) 57 (upd ((va_up (va_up (va_up (va_up (va_up (va_up sg 51 (upd (sg 51) ns (nI h))) 52 (upd ((va_up sg 51 (upd (sg 51) ns (nI h))) 52) ns (nI a))) 53 (upd ((va_up (va_up sg 51 (upd (sg 51) ns (nI h))) 52 (upd ((va_up sg 51 (upd (sg 51) ns (nI h))) 52) ns (nI a))) 53) ns (nI b))) 54 (upd ((va_up (va_up (va_up sg 51 (upd (sg 51) ns (nI h))) 52 (upd ((va_up sg 51 (upd (sg 51) ns (nI h))) 52) ns (nI a))) 53 (upd ((va_up (va_up sg 51 (upd (sg 51) ns (nI h))) 52 (upd ((va_up sg 51 (upd (sg 51) ns (nI h))) 52) ns (nI a))) 53) ns (nI b))) 54) ns (nI c))) 55 (upd ((va_up (va_up (va_up (va_up sg 51 (upd (sg 51) ns (nI h))) 52 (upd ((va_up sg 51 (upd (sg 51) ns (nI h))) 52) ns (nI a))) 53 (upd ((va_up (va_up sg 51 (upd (sg 51) ns (nI h))) 52 (upd ((va_up sg 51 (upd (sg 51) ns (nI h))) 52) ns (nI a))) 53) ns (nI b))) 54 (upd ((va_up (va_up (va_up sg 51 (upd (sg 51) ns (nI h))) 52 (upd ((va_up sg 51 (upd (sg 51) ns (nI h))) 52) ns (nI a))) 53 (upd ((va_up (va_up sg 51 (upd (sg 51) ns (nI h))) 52 (upd ((va_up sg 51 (upd (sg 51) ns (nI h))) 52) ns (nI a))) 53) ns (nI b))) 54) ns (nI c))) 55) ns (nI d))) 56 (upd ((va_up (va_up (va_up (va_up (va_up sg 51 (upd (sg 51) ns (nI h))) 52 (upd ((va_up sg 51 (upd (sg 51) ns (nI h))) 52) ns (nI a))) 53 (upd ((va_up (va_up sg 51 (upd (sg 51) ns (nI h))) 52 (upd ((va_up sg 51 (upd (sg 51) ns (nI h))) 52) ns (nI a))) 53) ns (nI b))) 54 (upd ((va_up (va_up (va_up sg 51 (upd (sg 51) ns (nI h))) 52 (upd ((va_up sg 51 (upd (sg 51) ns (nI h))) 52) ns (nI a))) 53 (upd ((va_up (va_up sg 51 (upd (sg 51) ns (nI h))) 52 (upd ((va_up sg 51 (upd (sg 51) ns (nI h))) 52) ns (nI a))) 53) ns (nI b))) 54) ns (nI c))) 55 (upd ((va_up (va_up (va_up (va_up sg 51 (upd (sg 51) ns (nI h))) 52 (upd ((va_up sg 51 (upd (sg 51) ns (nI h))) 52) ns (nI a))) 53 (upd ((va_up (va_up sg 51 (upd (sg 51) ns (nI h))) 52 (upd ((va_up sg 51 (upd (sg 51) ns (nI h))) 52) ns (nI a))) 53) ns (nI b))) 54 (upd ((va_up (va_up (va_up sg 51 (upd (sg 51) ns (nI h))) 52 (upd ((va_up sg 51 (upd (sg 51) ns (nI h))) 52) ns (nI a))) 53 (upd ((va_up (va_up sg 51 (upd (sg 51) ns (nI h))) 52 (upd ((va_up sg 51 (upd (sg 51) ns (nI h))) 52) ns (nI a))) 53) ns (nI b))) 54) ns (nI c))) 55) ns (nI d))) 56) ns (nI 0))) 57) ns ((-1)))) 58) ns ((-1))) := va_up_id (va_up (va_up (va_up (va_up (va_up (va_up (va_up (va_up sg 51 (upd (sg 51) ns (nI h))) 52 (upd ((va_up sg 51 (upd (sg 51) ns (nI h))) 52) ns (nI a))) 53 (upd ((va_up (va_up sg 51 (upd (sg 51) ns (nI h))) 52 (upd ((va_up sg 51 (upd (sg 51) ns (nI h))) 52) ns (nI a))) 53) ns (nI b))) 54 (upd ((va_up (va_up (va_up sg 51 (upd (sg 51) ns (nI h))) 52 (upd ((va_up sg 51 (upd (sg 51) ns (nI h))) 52) ns (nI a))) 53 (upd ((va_up (va_up sg 51 (upd (sg 51) ns (nI h))) 52 (upd ((va_up sg 51 (upd (sg 51) ns (nI h))) 52) ns (nI a))) 53) ns (nI b))) 54) ns (nI c))) 55 (upd ((va_up (va_up (va_up (va_up sg 51 (upd (sg 51) ns (nI h))) 52 (upd ((va_up sg 51 (upd (sg 51) ns (nI h))) 52) ns (nI a))) 53 (upd ((va_up (va_up sg 51 (upd (sg 51) ns (nI h))) 52 (upd ((va_up sg 51 (upd (sg 51) ns (nI h))) 52) ns (nI a))) 53) ns (nI b))) 54 (upd ((va_up (va_up (va_up sg 51 (upd (sg 51) ns (nI h))) 52 (upd ((va_up sg 51 (upd (sg 51) ns (nI h))) 52) ns (nI a))) 53 (upd ((va_up (va_up sg 51 (upd (sg 51) ns (nI h))) 52 (upd ((va_up sg 51 (upd (sg 51) ns (nI h))) 52) ns (nI a))) 53) ns (nI b))) 54) ns (nI c))) 55) ns (nI d))) 56 (upd ((va_up (va_up (va_up (va_up (va_up sg 51 (upd (sg 51) ns (nI h))) 52 (upd ((va_up sg 51 (upd (sg 51) ns (nI h))) 52) ns (nI a))) 53 (upd ((va_up (va_up sg 51 (upd (sg 51) ns (nI h))) 52 (upd ((va_up sg 51 (upd (sg 51) ns (nI h))) 52) ns (nI a))) 53) ns (nI b))) 54 (upd ((va_up (va_up (va_up sg 51 (upd (sg 51) ns (nI h))) 52 (upd ((va_up sg 51 (upd (sg 51) ns (nI h))) 52) ns (nI a))) 53 (upd ((va_up (va_up sg 51 (upd (sg 51) ns (nI h))) 52 (upd ((va_up sg 51 (upd (sg 51) ns (nI h))) 52) ns (nI a))) 53) ns (nI b))) 54) ns (nI c))) 55 (upd ((va_up (va_up (va_up (va_up sg 51 (upd (sg 51) ns (nI h))) 52 (upd ((va_up sg 51 (upd (sg 51) ns (nI h))) 52) ns (nI a))) 53 (upd ((va_up (va_up sg 51 (upd (sg 51) ns (nI h))) 52 (upd ((va_up sg 51 (upd (sg 51) ns (nI h))) 52) ns (nI a))) 53) ns (nI b))) 54 (upd ((va_up (va_up (va_up sg 51 (upd (sg 51) ns (nI h))) 52 (upd ((va_up sg 51 (upd (sg 51) ns (nI h))) 52) ns (nI a))) 53 (upd ((va_up (va_up sg 51 (upd (sg 51) ns (nI h))) 52 (upd ((va_up sg 51 (upd (sg 51) ns (nI h))) 52) ns (nI a))) 53) ns (nI b))) 54) ns (nI c))) 55) ns (nI d))) 56) ns (nI 0))) 57 (upd ((va_up (va_up (va_up (va_up (va_up (va_up sg 51 (upd (sg 51) ns (nI h))) 52 (upd ((va_up sg 51 (upd (sg 51) ns (nI h))) 52) ns (nI a))) 53 (upd ((va_up (va_up sg 51 (upd (sg 51) ns (nI h))) 52 (upd ((va_up sg 51 (upd (sg 51) ns (nI h))) 52) ns (nI a))) 53) ns (nI b))) 54 (upd ((va_up (va_up (va_up sg 51 (upd (sg 51) ns (nI h))) 52 (upd ((va_up sg 51 (upd (sg 51) ns (nI h))) 52) ns (nI a))) 53 (upd ((va_up (va_up sg 51 (upd (sg 51) ns (nI h))) 52 (upd ((va_up sg 51 (upd (sg 51) ns (nI h))) 52) ns (nI a))) 53) ns (nI b))) 54) ns (nI c))) 55 (upd ((va_up (va_up (va_up (va_up sg 51 (upd (sg 51) ns (nI h))) 52 (upd ((va_up sg 51 (upd (sg 51) ns (nI h))) 52) ns (nI a))) 53 (upd ((va_up (va_up sg 51 (upd (sg 51) ns (nI h))) 52 (upd ((va_up sg 51 (upd (sg 51) ns (nI h))) 52) ns (nI a))) 53) ns (nI b))) 54 (upd ((va_up (va_up (va_up sg 51 (upd (sg 51) ns (nI h))) 52 (upd ((va_up sg 51 (upd (sg 51) ns (nI h))) 52) ns (nI a))) 53 (upd ((va_up (va_up sg 51 (upd (sg 51) ns (nI h))) 52 (upd ((va_up sg 51 (upd (sg 51) ns (nI h))) 52) ns (nI a))) 53) ns (nI b))) 54) ns (nI c))) 55) ns (nI d))) 56 (upd ((va_up (va_up (va_up (va_up (va_up sg 51 (upd (sg 51) ns (nI h))) 52 (upd ((va_up sg 51 (upd (sg 51) ns (nI h))) 52) ns (nI a))) 53 (upd ((va_up (va_up sg 51 (upd (sg 51) ns (nI h))) 52 (upd ((va_up sg 51 (upd (sg 51) ns (nI h))) 52) ns (nI a))) 53) ns (nI b))) 54 (upd ((va_up (va_up (va_up sg 51 (upd (sg 51) ns (nI h))) 52 (upd ((va_up sg 51 (upd (sg 51) ns (nI h))) 52) ns (nI a))) 53 (upd ((va_up (va_up sg 51 (upd (sg 51) ns (nI h))) 52 (upd ((va_up sg 51 (upd (sg 51) ns (nI h))) 52) ns (nI a))) 53) ns (nI b))) 54) ns (nI c))) 55 (upd ((va_up (va_up (va_up (va_up sg 51 (upd (sg 51) ns (nI h))) 52 (upd ((va_up sg 51 (upd (sg 51) ns (nI h))) 52) ns (nI a))) 53 (upd ((va_up (va_up sg 51 (upd (sg 51) ns (nI h))) 52 (upd ((va_up sg 51 (upd (sg 51) ns (nI h))) 52) ns (nI a))) 53) ns (nI b))) 54 (upd ((va_up (va_up (va_up sg 51 (upd (sg 51) ns (nI h))) 52 (upd ((va_up sg 51 (upd (sg 51) ns (nI h))) 52) ns (nI a))) 53 (upd ((va_up (va_up sg 51 (upd (sg 51) ns (nI h))) 52 (upd ((va_up sg 51 (upd (sg 51) ns (nI h))) 52) ns (nI a))) 53) ns (nI b))) 54) ns (nI c))) 55) ns (nI d))) 56) ns (nI 0))) 57) ns ((-1)))) 58 (upd ((va_up (va_up (va_up (va_up (va_up (va_up (va_up sg 51 (upd (sg 51) ns (nI h))) 52 (upd ((va_up sg 51 (upd (sg 51) ns (nI h))) 52) ns (nI a))) 53 (upd ((va_up (va_up sg 51 (upd (sg 51) ns (nI h))) 52 (upd ((va_up sg 51 (upd (sg 51) ns (nI h))) 52) ns (nI a))) 53) ns (nI b))) 54 (upd ((va_up (va_up (va_up sg 51 (upd (sg 51) ns (nI h))) 52 (upd ((va_up sg 51 (upd (sg 51) ns (nI h))) 52) ns (nI a))) 53 (upd ((va_up (va_up sg 51 (upd (sg 51) ns (nI h))) 52 (upd ((va_up sg 51 (upd (sg 51) ns (nI h))) 52) ns (nI a))) 53) ns (nI b))) 54) ns (nI c))) 55 (upd ((va_up (va_up (va_up (va_up sg 51 (upd (sg 51) ns (nI h))) 52 (upd ((va_up sg 51 (upd (sg 51) ns (nI h))) 52) ns (nI a))) 53 (upd ((va_up (va_up sg 51 (upd (sg 51) ns (nI h))) 52 (upd ((va_up sg 51 (upd (sg 51) ns (nI h))) 52) ns (nI a))) 53) ns (nI b))) 54 (upd ((va_up (va_up (va_up sg 51 (upd (sg 51) ns (nI h))) 52 (upd ((va_up sg 51 (upd (sg 51) ns (nI h))) 52) ns (nI a))) 53 (upd ((va_up (va_up sg 51 (upd (sg 51) ns (nI h))) 52 (upd ((va_up sg 51 (upd (sg 51) ns (nI h))) 52) ns (nI a))) 53) ns (nI b))) 54) ns (nI c))) 55) ns (nI d))) 56 (upd ((va_up (va_up (va_up (va_up (va_up sg 51 (upd (sg 51) ns (nI h))) 52 (upd ((va_up sg 51 (upd (sg 51) ns (nI h))) 52) ns (nI a))) 53 (upd ((va_up (va_up sg 51 (upd (sg 51) ns (nI h))) 52 (upd ((va_up sg 51 (upd (sg 51) ns (nI h))) 52) ns (nI a))) 53) ns (nI b))) 54 (upd ((va_up (va_up (va_up sg 51 (upd (sg 51) ns (nI h))) 52 (upd ((va_up sg 51 (upd (sg 51) ns (nI h))) 52) ns (nI a))) 53 (upd ((va_up (va_up sg 51 (upd (sg 51) ns (nI h))) 52 (upd ((va_up sg 51 (upd (sg 51) ns (nI h))) 52) ns (nI a))) 53) ns (nI b))) 54) ns (nI c))) 55 (upd ((va_up (va_up (va_up (va_up sg 51 (upd (sg 51) ns (nI h))) 52 (upd ((va_up sg 51 (upd (sg 51) ns (nI h))) 52) ns (nI a))) 53 (upd ((va_up (va_up sg 51 (upd (sg 51) ns (nI h))) 52 (upd ((va_up sg 51 (upd (sg 51) ns (nI h))) 52) ns (nI a))) 53) ns (nI b))) 54 (upd ((va_up (va_up (va_up sg 51 (upd (sg 51) ns (nI h))) 52 (upd ((va_up sg 51 (upd (sg 51) ns (nI h))) 52) ns (nI a))) 53 (upd ((va_up (va_up sg 51 (upd (sg 51) ns (nI h))) 52 (upd ((va_up sg 51 (upd (sg 51) ns (nI h))) 52) ns (nI a))) 53) ns (nI b))) 54) ns (nI c))) 55) ns (nI d))) 56) ns (nI 0))) 57 (upd ((va_up (va_up (va_up (va_up (va_up (va_up sg 51 (upd (sg 51) ns (nI h))) 52 (upd ((va_up sg 51 (upd (sg 51) ns (nI h))) 52) ns (nI a))) 53 (upd ((va_up (va_up sg 51 (upd (sg 51) ns (nI h))) 52 (upd ((va_up sg 51 (upd (sg 51) ns (nI h))) 52) ns (nI a))) 53) ns (nI b))) 54 (upd ((va_up (va_up (va_up sg 51 (upd (sg 51) ns (nI h))) 52 (upd ((va_up sg 51 (upd (sg 51) ns (nI h))) 52) ns (nI a))) 53 (upd ((va_up (va_up sg 51 (upd (sg 51) ns (nI h))) 52 (upd ((va_up sg 51 (upd (sg 51) ns (nI h))) 52) ns (nI a))) 53) ns (nI b))) 54) ns (nI c))) 55 (upd ((va_up (va_up (va_up (va_up sg 51 (upd (sg 51) ns (nI h))) 52 (upd ((va_up sg 51 (upd (sg 51) ns (nI h))) 52) ns (nI a))) 53 (upd ((va_up (va_up sg 51 (upd (sg 51) ns (nI h))) 52 (upd ((va_up sg 51 (upd (sg 51) ns (nI h))) 52) ns (nI a))) 53) ns (nI b))) 54 (upd ((va_up (va_up (va_up sg 51 (upd (sg 51) ns (nI h))) 52 (upd ((va_up sg 51 (upd (sg 51) ns (nI h))) 52) ns (nI a))) 53 (upd ((va_up (va_up sg 51 (upd (sg 51) ns (nI h))) 52 (upd ((va_up sg 51 (upd (sg 51) ns (nI h))) 52) ns (nI a))) 53) ns (nI b))) 54) ns (nI c))) 55) ns (nI d))) 56 (upd ((va_up (va_up (va_up (va_up (va_up sg 51 (upd (sg 51) ns (nI h))) 52 (upd ((va_up sg 51 (upd (sg 51) ns (nI h))) 52) ns (nI a))) 53 (upd ((va_up (va_up sg 51 (upd (sg 51) ns (nI h))) 52 (upd ((va_up sg 51 (upd (sg 51) ns (nI h))) 52) ns (nI a))) 53) ns (nI b))) 54 (upd ((va_up (va_up (va_up sg 51 (upd (sg 51) ns (nI h))) 52 (upd ((va_up sg 51 (upd (sg 51) ns (nI h))) 52) ns (nI a))) 53 (upd ((va_up (va_up sg 51 (upd (sg 51) ns (nI h))) 52 (upd ((va_up sg 51 (upd (sg 51) ns (nI h))) 52) ns (nI a))) 53) ns (nI b))) 54) ns (nI c))) 55 (upd ((va_up (va_up (va_up (va_up sg 51 (upd (sg 51) ns (nI h))) 52 (upd ((va_up sg 51 (upd (sg 51) ns (nI h))) 52) ns (nI a))) 53 (upd ((va_up (va_up sg 51 (upd (sg 51) ns (nI h))) 52 (upd ((va_up sg 51 (upd (sg 51) ns (nI h))) 52) ns (nI a))) 53) ns (nI b))) 54 (upd ((va_up (va_up (va_up sg 51 (upd (sg 51) ns (nI h))) 52 (upd ((va_up sg 51 (upd (sg 51) ns (nI h))) 52) ns (nI a))) 53 (upd ((va_up (va_up sg 51 (upd (sg 51) ns (nI h))) 52 (upd ((va_up sg 51 (upd (sg 51) ns (nI h))) 52) ns (nI a))) 53) ns (nI b))) 54) ns (nI c))) 55) ns (nI d))) 56) ns (nI 0))) 57) ns ((-1)))) 58) ns ((-1)))) 61
              rw [← e61]
              refine r_ls [(6, .int (nI 0)), (0, .ref 100)] (mm_ndk_of [6, 0] rfl (by decide)) (mm_sub_cons rfl (mm_sub_cons rfl (mm_sub_nil _))) ?_
              refine mm_cnt (P := fun m => mm_Ru 1 (13, 7, false, prog_14_method_37_code, some .int) 147 [(6, .int (nI m)), (0, .ref 100)] [] (rf_mk M io (va_up (va_up (va_up (va_up (va_up (va_up (va_up (va_up (va_up sg 51 (upd (sg 51) ns (nI h))) 52 (upd ((va_up sg 51 (upd (sg 51) ns (nI h))) 52) ns (nI a))) 53 (upd ((va_up (va_up sg 51 (upd (sg 51) ns (nI h))) 52 (upd ((va_up sg 51 (upd (sg 51) ns (nI h))) 52) ns (nI a))) 53) ns (nI b))) 54 (upd ((va_up (va_up (va_up sg 51 (upd (sg 51) ns (nI h))) 52 (upd ((va_up sg 51 (upd (sg 51) ns (nI h))) 52) ns (nI a))) 53 (upd ((va_up (va_up sg 51 (upd (sg 51) ns (nI h))) 52 (upd ((va_up sg 51 (upd (sg 51) ns (nI h))) 52) ns (nI a))) 53) ns (nI b))) 54) ns (nI c))) 55 (upd ((va_up (va_up (va_up (va_up sg 51 (upd (sg 51) ns (nI h))) 52 (upd ((va_up sg 51 (upd (sg 51) ns (nI h))) 52) ns (nI a))) 53 (upd ((va_up (va_up sg 51 (upd (sg 51) ns (nI h))) 52 (upd ((va_up sg 51 (upd (sg 51) ns (nI h))) 52) ns (nI a))) 53) ns (nI b))) 54 (upd ((va_up (va_up (va_up sg 51 (upd (sg 51) ns (nI h))) 52 (upd ((va_up sg 51 (upd (sg 51) ns (nI h))) 52) ns (nI a))) 53 (upd ((va_up (va_up sg 51 (upd (sg 51) ns (nI h))) 52 (upd ((va_up sg 51 (upd (sg 51) ns (nI h))) 52) ns (nI a))) 53) ns (nI b))) 54) ns (nI c))) 55) ns (nI d))) 56 (upd ((va_up (va_up (va_up (va_up (va_up sg 51 (upd (sg 51) ns (nI h))) 52 (upd ((va_up sg 51 (upd (sg 51) ns (nI h))) 52) ns (nI a))) 53 (upd ((va_up (va_up sg 51 (upd (sg 51) ns (nI h))) 52 (upd ((va_up sg 51 (upd (sg 51) ns (nI h))) 52) ns (nI a))) 53) ns (nI b))) 54 (upd ((va_up (va_up (va_up sg 51 (upd (sg 51) ns (nI h))) 52 (upd ((va_up sg 51 (upd (sg 51) ns (nI h))) 52) ns (nI a))) 53 (upd ((va_up (va_up sg 51 (upd (sg 51) ns (nI h))) 52 (upd ((va_up sg 51 (upd (sg 51) ns (nI h))) 52) ns (nI a))) 53) ns (nI b))) 54) ns (nI c))) 55 (upd ((va_up (va_up (va_up (va_up sg 51 (upd (sg 51) ns (nI h))) 52 (upd ((va_up sg 51 (upd (sg 51) ns (nI h))) 52) ns (nI a))) 53 (upd ((va_up (va_up sg 51 (upd (sg 51) ns (nI h))) 52 (upd ((va_up sg 51 (upd (sg 51) ns (nI h))) 52) ns (nI a))) 53) ns (nI b))) 54 (upd ((va_up (va_up (va_up sg 51 (upd (sg 51) ns (nI h))) 52 (upd ((va_up sg 51 (upd (sg 51) ns (nI h))) 52) ns (nI a))) 53 (upd ((va_up (va_up sg 51 (upd (sg 51) ns (nI h))) 52 (upd ((va_up sg 51 (upd (sg 51) ns (nI h))) 52) ns (nI a))) 53) ns (nI b))) 54) ns (nI c))) 55) ns (nI d))) 56) ns (nI 0))) 57 (upd ((va_up (va_up (va_up (va_up (va_up (va_up sg 51 (upd (sg 51) ns (nI h))) 52 (upd ((va_up sg 51 (upd (sg 51) ns (nI h))) 52) ns (nI a))) 53 (upd ((va_up (va_up sg 51 (upd (sg 51) ns (nI h))) 52 (upd ((va_up sg 51 (upd (sg 51) ns (nI h))) 52) ns (nI a))) 53) ns (nI b))) 54 (upd ((va_up (va_up (va_up sg 51 (upd (sg 51) ns (nI h))) 52 (upd ((va_up sg 51 (upd (sg 51) ns (nI h))) 52) ns (nI a))) 53 (upd ((va_up (va_up sg 51 (upd (sg 51) ns (nI h))) 52 (upd ((va_up sg 51 (upd (sg 51) ns (nI h))) 52) ns (nI a))) 53) ns (nI b))) 54) ns (nI c))) 55 (upd ((va_up (va_up (va_up (va_up sg 51 (upd (sg 51) ns (nI h))) 52 (upd ((va_up sg 51 (upd (sg 51) ns (nI h))) 52) ns (nI a))) 53 (upd ((va_up (va_up sg 51 (upd (sg 51) ns (nI h))) 52 (upd ((va_up sg 51 (upd (sg 51) ns (nI h))) 52) ns (nI a))) 53) ns (nI b))) 54 (upd ((va_up (va_up (va_up sg 51 (upd (sg 51) ns (nI h))) 52 (upd ((va_up sg 51 (upd (sg 51) ns (nI h))) 52) ns (nI a))) 53 (upd ((va_up (va_up sg 51 (upd (sg 51) ns (nI h))) 52 (upd ((va_up sg 51 (upd (sg 51) ns (nI h))) 52) ns (nI a))) 53) ns (nI b))) 54) ns (nI c))) 55) ns (nI d))) 56 (upd ((va_up (va_up (va_up (va_up (va_up sg 51 (upd (sg 51) ns (nI h))) 52 (upd ((va_up sg 51 (upd (sg 51) ns (nI h))) 52) ns (nI a))) 53 (upd ((va_up (va_up sg 51 (upd (sg 51) ns (nI h))) 52 (upd ((va_up sg 51 (upd (sg 51) ns (nI h))) 52) ns (nI a))) 53) ns (nI b))) 54 (upd ((va_up (va_up (va_up sg 51 (upd (sg 51) ns (nI h))) 52 (upd ((va_up sg 51 (upd (sg 51) ns (nI h))) 52) ns (nI a))) 53 (upd ((va_up (va_up sg 51 (upd (sg 51) ns (nI h))) 52 (upd ((va_up sg 51 (upd (sg 51) ns (nI h))) 52) ns (nI a))) 53) ns (nI b))) 54) ns (nI c))) 55 (upd ((va_up (va_up (va_up (va_up sg 51 (upd (sg 51) ns (nI h))) 52 (upd ((va_up sg 51 (upd (sg 51) ns (nI h))) 52) ns (nI a))) 53 (upd ((va_up (va_up sg 51 (upd (sg 51) ns (nI h))) 52 (upd ((va_up sg 51 (upd (sg 51) ns (nI h))) 52) ns (nI a))) 53) ns (nI b))) 54 (upd ((va_up (va_up (va_up sg 51 (upd (sg 51) ns (nI h))) 52 (upd ((va_up sg 51 (upd (sg 51) ns (nI h))) 52) ns (nI a))) 53 (upd ((va_up (va_up sg 51 (upd (sg 51) ns (nI h))) 52 (upd ((va_up sg 51 (upd (sg 51) ns (nI h))) 52) ns (nI a))) 53) ns (nI b))) 54) ns (nI c))) 55) ns (nI d))) 56) ns (nI 0))) 57) ns ((-1)))) 58 (upd ((va_up (va_up (va_up (va_up (va_up (va_up (va_up sg 51 (upd (sg 51) ns (nI h))) 52 (upd ((va_up sg 51 (upd (sg 51) ns (nI h))) 52) ns (nI a))) 53 (upd ((va_up (va_up sg 51 (upd (sg 51) ns (nI h))) 52 (upd ((va_up sg 51 (upd (sg 51) ns (nI h))) 52) ns (nI a))) 53) ns (nI b))) 54 (upd ((va_up (va_up (va_up sg 51 (upd (sg 51) ns (nI h))) 52 (upd ((va_up sg 51 (upd (sg 51) ns (nI h))) 52) ns (nI a))) 53 (upd ((va_up (va_up sg 51 (upd (sg 51) ns (nI h))) 52 (upd ((va_up sg 51 (upd (sg 51) ns (nI h))) 52) ns (nI a))) 53) ns (nI b))) 54) ns (nI c))) 55 (upd ((va_up (va_up (va_up (va_up sg 51 (upd (sg 51) ns (nI h))) 52 (upd ((va_up sg 51 (upd (sg 51) ns (nI h))) 52) ns (nI a))) 53 (upd ((va_up (va_up sg 51 (upd (sg 51) ns (nI h))) 52 (upd ((va_up sg 51 (upd (sg 51) ns (nI h))) 52) ns (nI a))) 53) ns (nI b))) 54 (upd ((va_up (va_up (va_up sg 51 (upd (sg 51) ns (nI h))) 52 (upd ((va_up sg 51 (upd (sg 51) ns (nI h))) 52) ns (nI a))) 53 (upd ((va_up (va_up sg 51 (upd (sg 51) ns (nI h))) 52 (upd ((va_up sg 51 (upd (sg 51) ns (nI h))) 52) ns (nI a))) 53) ns (nI b))) 54) ns (nI c))) 55) ns (nI d))) 56 (upd ((va_up (va_up (va_up (va_up (va_up sg 51 (upd (sg 51) ns (nI h))) 52 (upd ((va_up sg 51 (upd (sg 51) ns (nI h))) 52) ns (nI a))) 53 (upd ((va_up (va_up sg 51 (upd (sg 51) ns (nI h))) 52 (upd ((va_up sg 51 (upd (sg 51) ns (nI h))) 52) ns (nI a))) 53) ns (nI b))) 54 (upd ((va_up (va_up (va_up sg 51 (upd (sg 51) ns (nI h))) 52 (upd ((va_up sg 51 (upd (sg 51) ns (nI h))) 52) ns (nI a))) 53 (upd ((va_up (va_up sg 51 (upd (sg 51) ns (nI h))) 52 (upd ((va_up sg 51 (upd (sg 51) ns (nI h))) 52) ns (nI a))) 53) ns (nI b))) 54) ns (nI c))) 55 (upd ((va_up (va_up (va_up (va_up sg 51 (upd (sg 51) ns (nI h))) 52 (upd ((va_up sg 51 (upd (sg 51) ns (nI h))) 52) ns (nI a))) 53 (upd ((va_up (va_up sg 51 (upd (sg 51) ns (nI h))) 52 (upd ((va_up sg 51 (upd (sg 51) ns (nI h))) 52) ns (nI a))) 53) ns (nI b))) 54 (upd ((va_up (va_up (va_up sg 51 (upd (sg 51) ns (nI h))) 52 (upd ((va_up sg 51 (upd (sg 51) ns (nI h))) 52) ns (nI a))) 53 (upd ((va_up (va_up sg 51 (upd (sg 51) ns (nI h))) 52 (upd ((va_up sg 51 (upd (sg 51) ns (nI h))) 52) ns (nI a))) 53) ns (nI b))) 54) ns (nI c))) 55) ns (nI d))) 56) ns (nI 0))) 57 (upd ((va_up (va_up (va_up (va_up (va_up (va_up sg 51 (upd (sg 51) ns (nI h))) 52 (upd ((va_up sg 51 (upd (sg 51) ns (nI h))) 52) ns (nI a))) 53 (upd ((va_up (va_up sg 51 (upd (sg 51) ns (nI h))) 52 (upd ((va_up sg 51 (upd (sg 51) ns (nI h))) 52) ns (nI a))) 53) ns (nI b))) 54 (upd ((va_up (va_up (va_up sg 51 (upd (sg 51) ns (nI h))) 52 (upd ((va_up sg 51 (upd (sg 51) ns (nI h))) 52) ns (nI a))) 53 (upd ((va_up (va_up sg 51 (upd (sg 51) ns (nI h))) 52 (upd ((va_up sg 51 (upd (sg 51) ns (nI h))) 52) ns (nI a))) 53) ns (nI b))) 54) ns (nI c))) 55 (upd ((va_up (va_up (va_up (va_up sg 51 (upd (sg 51) ns (nI h))) 52 (upd ((va_up sg 51 (upd (sg 51) ns (nI h))) 52) ns (nI a))) 53 (upd ((va_up (va_up sg 51 (upd (sg 51) ns (nI h))) 52 (upd ((va_up sg 51 (upd (sg 51) ns (nI h))) 52) ns (nI a))) 53) ns (nI b))) 54 (upd ((va_up (va_up (va_up sg 51 (upd (sg 51) ns (nI h))) 52 (upd ((va_up sg 51 (upd (sg 51) ns (nI h))) 52) ns (nI a))) 53 (upd ((va_up (va_up sg 51 (upd (sg 51) ns (nI h))) 52 (upd ((va_up sg 51 (upd (sg 51) ns (nI h))) 52) ns (nI a))) 53) ns (nI b))) 54) ns (nI c))) 55) ns (nI d))) 56 (upd ((va_up (va_up (va_up (va_up (va_up sg 51 (upd (sg 51) ns (nI h))) 52 (upd ((va_up sg 51 (upd (sg 51) ns (nI h))) 52) ns (nI a))) 53 (upd ((va_up (va_up sg 51 (upd (sg 51) ns (nI h))) 52 (upd ((va_up sg 51 (upd (sg 51) ns (nI h))) 52) ns (nI a))) 53) ns (nI b))) 54 (upd ((va_up (va_up (va_up sg 51 (upd (sg 51) ns (nI h))) 52 (upd ((va_up sg 51 (upd (sg 51) ns (nI h))) 52) ns (nI a))) 53 (upd ((va_up (va_up sg 51 (upd (sg 51) ns (nI h))) 52 (upd ((va_up sg 51 (upd (sg 51) ns (nI h))) 52) ns (nI a))) 53) ns (nI b))) 54) ns (nI c))) 55 (upd ((va_up (va_up (va_up (va_up sg 51 (upd (sg 51) ns (nI h))) 52 (upd ((va_up sg 51 (upd (sg 51) ns (nI h))) 52) ns (nI a))) 53 (upd ((va_up (va_up sg 51 (upd (sg 51) ns (nI h))) 52 (upd ((va_up sg 51 (upd (sg 51) ns (nI h))) 52) ns (nI a))) 53) ns (nI b))) 54 (upd ((va_up (va_up (va_up sg 51 (upd (sg 51) ns (nI h))) 52 (upd ((va_up sg 51 (upd (sg 51) ns (nI h))) 52) ns (nI a))) 53 (upd ((va_up (va_up sg 51 (upd (sg 51) ns (nI h))) 52 (upd ((va_up sg 51 (upd (sg 51) ns (nI h))) 52) ns (nI a))) 53) ns (nI b))) 54) ns (nI c))) 55) ns (nI d))) 56) ns (nI 0))) 57) ns ((-1)))) 58) ns ((-1)))) 61 (sp_fill (sg 61) (4 * ns) (-1) m))) (fun z => z = ((some (.int (nI ns)), rf_mk M (va_up io 5 (nI (ns + 1))) (sg_student sg ns (nI h) (nI a) (nI b) (nI c) (nI d)))))) 4 ?_ ?_ 0 (by omega)
              · show mm_Ru 1 (13, 7, false, prog_14_method_37_code, some .int) 147 [(6, .int (nI 4)), (0, .ref 100)] [] (rf_mk M io (va_up (va_up (va_up (va_up (va_up (va_up (va_up (va_up (va_up sg 51 (upd (sg 51) ns (nI h))) 52 (upd ((va_up sg 51 (upd (sg 51) ns (nI h))) 52) ns (nI a))) 53 (upd ((va_up (va_up sg 51 (upd (sg 51) ns (nI h))) 52 (upd ((va_up sg 51 (upd (sg 51) ns (nI h))) 52) ns (nI a))) 53) ns (nI b))) 54 (upd ((va_up (va_up (va_up sg 51 (upd (sg 51) ns (nI h))) 52 (upd ((va_up sg 51 (upd (sg 51) ns (nI h))) 52) ns (nI a))) 53 (upd ((va_up (va_up sg 51 (upd (sg 51) ns (nI h))) 52 (upd ((va_up sg 51 (upd (sg 51) ns (nI h))) 52) ns (nI a))) 53) ns (nI b))) 54) ns (nI c))) 55 (upd ((va_up (va_up (va_up (va_up sg 51 (upd (sg 51) ns (nI h))) 52 (upd ((va_up sg 51 (upd (sg 51) ns (nI h))) 52) ns (nI a))) 53 (upd ((va_up (va_up sg 51 (upd (sg 51) ns (nI h))) 52 (upd ((va_up sg 51 (upd (sg 51) ns (nI h))) 52) ns (nI a))) 53) ns (nI b))) 54 (upd ((va_up (va_up (va_up sg 51 (upd (sg 51) ns (nI h))) 52 (upd ((va_up sg 51 (upd (sg 51) ns (nI h))) 52) ns (nI a))) 53 (upd ((va_up (va_up sg 51 (upd (sg 51) ns (nI h))) 52 (upd ((va_up sg 51 (upd (sg 51) ns (nI h))) 52) ns (nI a))) 53) ns (nI b))) 54) ns (nI c))) 55) ns (nI d))) 56 (upd ((va_up (va_up (va_up (va_up (va_up sg 51 (upd (sg 51) ns (nI h))) 52 (upd ((va_up sg 51 (upd (sg 51) ns (nI h))) 52) ns (nI a))) 53 (upd ((va_up (va_up sg 51 (upd (sg 51) ns (nI h))) 52 (upd ((va_up sg 51 (upd (sg 51) ns (nI h))) 52) ns (nI a))) 53) ns (nI b))) 54 (upd ((va_up (va_up (va_up sg 51 (upd (sg 51) ns (nI h))) 52 (upd ((va_up sg 51 (upd (sg 51) ns (nI h))) 52) ns (nI a))) 53 (upd ((va_up (va_up sg 51 (upd (sg 51) ns (nI h))) 52 (upd ((va_up sg 51 (upd (sg 51) ns (nI h))) 52) ns (nI a))) 53) ns (nI b))) 54) ns (nI c))) 55 (upd ((va_up (va_up (va_up (va_up sg 51 (upd (sg 51) ns (nI h))) 52 (upd ((va_up sg 51 (upd (sg 51) ns (nI h))) 52) ns (nI a))) 53 (upd ((va_up (va_up sg 51 (upd (sg 51) ns (nI h))) 52 (upd ((va_up sg 51 (upd (sg 51) ns (nI h))) 52) ns (nI a))) 53) ns (nI b))) 54 (upd ((va_up (va_up (va_up sg 51 (upd (sg 51) ns (nI h))) 52 (upd ((va_up sg 51 (upd (sg 51) ns (nI h))) 52) ns (nI a))) 53 (upd ((va_up (va_up sg 51 (upd (sg 51) ns (nI h))) 52 (upd ((va_up sg 51 (upd (sg 51) ns (nI h))) 52) ns (nI a))) 53) ns (nI b))) 54) ns (nI c))) 55) ns (nI d))) 56) ns (nI 0))) 57 (upd ((va_up (va_up (va_up (va_up (va_up (va_up sg 51 (upd (sg 51) ns (nI h))) 52 (upd ((va_up sg 51 (upd (sg 51) ns (nI h))) 52) ns (nI a))) 53 (upd ((va_up (va_up sg 51 (upd (sg 51) ns (nI h))) 52 (upd ((va_up sg 51 (upd (sg 51) ns (nI h))) 52) ns (nI a))) 53) ns (nI b))) 54 (upd ((va_up (va_up (va_up sg 51 (upd (sg 51) ns (nI h))) 52 (upd ((va_up sg 51 (upd (sg 51) ns (nI h))) 52) ns (nI a))) 53 (upd ((va_up (va_up sg 51 (upd (sg 51) ns (nI h))) 52 (upd ((va_up sg 51 (upd (sg 51) ns (nI h))) 52) ns (nI a))) 53) ns (nI b))) 54) ns (nI c))) 55 (upd ((va_up (va_up (va_up (va_up sg 51 (upd (sg 51) ns (nI h))) 52 (upd ((va_up sg 51 (upd (sg 51) ns (nI h))) 52) ns (nI a))) 53 (upd ((va_up (va_up sg 51 (upd (sg 51) ns (nI h))) 52 (upd ((va_up sg 51 (upd (sg 51) ns (nI h))) 52) ns (nI a))) 53) ns (nI b))) 54 (upd ((va_up (va_up (va_up sg 51 (upd (sg 51) ns (nI h))) 52 (upd ((va_up sg 51 (upd (sg 51) ns (nI h))) 52) ns (nI a))) 53 (upd ((va_up (va_up sg 51 (upd (sg 51) ns (nI h))) 52 (upd ((va_up sg 51 (upd (sg 51) ns (nI h))) 52) ns (nI a))) 53) ns (nI b))) 54) ns (nI c))) 55) ns (nI d))) 56 (upd ((va_up (va_up (va_up (va_up (va_up sg 51 (upd (sg 51) ns (nI h))) 52 (upd ((va_up sg 51 (upd (sg 51) ns (nI h))) 52) ns (nI a))) 53 (upd ((va_up (va_up sg 51 (upd (sg 51) ns (nI h))) 52 (upd ((va_up sg 51 (upd (sg 51) ns (nI h))) 52) ns (nI a))) 53) ns (nI b))) 54 (upd ((va_up (va_up (va_up sg 51 (upd (sg 51) ns (nI h))) 52 (upd ((va_up sg 51 (upd (sg 51) ns (nI h))) 52) ns (nI a))) 53 (upd ((va_up (va_up sg 51 (upd (sg 51) ns (nI h))) 52 (upd ((va_up sg 51 (upd (sg 51) ns (nI h))) 52) ns (nI a))) 53) ns (nI b))) 54) ns (nI c))) 55 (upd ((va_up (va_up (va_up (va_up sg 51 (upd (sg 51) ns (nI h))) 52 (upd ((va_up sg 51 (upd (sg 51) ns (nI h))) 52) ns (nI a))) 53 (upd ((va_up (va_up sg 51 (upd (sg 51) ns (nI h))) 52 (upd ((va_up sg 51 (upd (sg 51) ns (nI h))) 52) ns (nI a))) 53) ns (nI b))) 54 (upd ((va_up (va_up (va_up sg 51 (upd (sg 51) ns (nI h))) 52 (upd ((va_up sg 51 (upd (sg 51) ns (nI h))) 52) ns (nI a))) 53 (upd ((va_up (va_up sg 51 (upd (sg 51) ns (nI h))) 52 (upd ((va_up sg 51 (upd (sg 51) ns (nI h))) 52) ns (nI a))) 53) ns (nI b))) 54) ns (nI c))) 55) ns (nI d))) 56) ns (nI 0))) 57) ns ((-1)))) 58 (upd ((va_up (va_up (va_up (va_up (va_up (va_up (va_up sg 51 (upd (sg 51) ns (nI h))) 52 (upd ((va_up sg 51 (upd (sg 51) ns (nI h))) 52) ns (nI a))) 53 (upd ((va_up (va_up sg 51 (upd (sg 51) ns (nI h))) 52 (upd ((va_up sg 51 (upd (sg 51) ns (nI h))) 52) ns (nI a))) 53) ns (nI b))) 54 (upd ((va_up (va_up (va_up sg 51 (upd (sg 51) ns (nI h))) 52 (upd ((va_up sg 51 (upd (sg 51) ns (nI h))) 52) ns (nI a))) 53 (upd ((va_up (va_up sg 51 (upd (sg 51) ns (nI h))) 52 (upd ((va_up sg 51 (upd (sg 51) ns (nI h))) 52) ns (nI a))) 53) ns (nI b))) 54) ns (nI c))) 55 (upd ((va_up (va_up (va_up (va_up sg 51 (upd (sg 51) ns (nI h))) 52 (upd ((va_up sg 51 (upd (sg 51) ns (nI h))) 52) ns (nI a))) 53 (upd ((va_up (va_up sg 51 (upd (sg 51) ns (nI h))) 52 (upd ((va_up sg 51 (upd (sg 51) ns (nI h))) 52) ns (nI a))) 53) ns (nI b))) 54 (upd ((va_up (va_up (va_up sg 51 (upd (sg 51) ns (nI h))) 52 (upd ((va_up sg 51 (upd (sg 51) ns (nI h))) 52) ns (nI a))) 53 (upd ((va_up (va_up sg 51 (upd (sg 51) ns (nI h))) 52 (upd ((va_up sg 51 (upd (sg 51) ns (nI h))) 52) ns (nI a))) 53) ns (nI b))) 54) ns (nI c))) 55) ns (nI d))) 56 (upd ((va_up (va_up (va_up (va_up (va_up sg 51 (upd (sg 51) ns (nI h))) 52 (upd ((va_up sg 51 (upd (sg 51) ns (nI h))) 52) ns (nI a))) 53 (upd ((va_up (va_up sg 51 (upd (sg 51) ns (nI h))) 52 (upd ((va_up sg 51 (upd (sg 51) ns (nI h))) 52) ns (nI a))) 53) ns (nI b))) 54 (upd ((va_up (va_up (va_up sg 51 (upd (sg 51) ns (nI h))) 52 (upd ((va_up sg 51 (upd (sg 51) ns (nI h))) 52) ns (nI a))) 53 (upd ((va_up (va_up sg 51 (upd (sg 51) ns (nI h))) 52 (upd ((va_up sg 51 (upd (sg 51) ns (nI h))) 52) ns (nI a))) 53) ns (nI b))) 54) ns (nI c))) 55 (upd ((va_up (va_up (va_up (va_up sg 51 (upd (sg 51) ns (nI h))) 52 (upd ((va_up sg 51 (upd (sg 51) ns (nI h))) 52) ns (nI a))) 53 (upd ((va_up (va_up sg 51 (upd (sg 51) ns (nI h))) 52 (upd ((va_up sg 51 (upd (sg 51) ns (nI h))) 52) ns (nI a))) 53) ns (nI b))) 54 (upd ((va_up (va_up (va_up sg 51 (upd (sg 51) ns (nI h))) 52 (upd ((va_up sg 51 (upd (sg 51) ns (nI h))) 52) ns (nI a))) 53 (upd ((va_up (va_up sg 51 (upd (sg 51) ns (nI h))) 52 (upd ((va_up sg 51 (upd (sg 51) ns (nI h))) 52) ns (nI a))) 53) ns (nI b))) 54) ns (nI c))) 55) ns (nI d))) 56) ns (nI 0))) 57 (upd ((va_up (va_up (va_up (va_up (va_up (va_up sg 51 (upd (sg 51) ns (nI h))) 52 (upd ((va_up sg 51 (upd (sg 51) ns (nI h))) 52) ns (nI a))) 53 (upd ((va_up (va_up sg 51 (upd (sg 51) ns (nI h))) 52 (upd ((va_up sg 51 (upd (sg 51) ns (nI h))) 52) ns (nI a))) 53) ns (nI b))) 54 (upd ((va_up (va_up (va_up sg 51 (upd (sg 51) ns (nI h))) 52 (upd ((va_up sg 51 (upd (sg 51) ns (nI h))) 52) ns (nI a))) 53 (upd ((va_up (va_up sg 51 (upd (sg 51) ns (nI h))) 52 (upd ((va_up sg 51 (upd (sg 51) ns (nI h))) 52) ns (nI a))) 53) ns (nI b))) 54) ns (nI c))) 55 (upd ((va_up (va_up (va_up (va_up sg 51 (upd (sg 51) ns (nI h))) 52 (upd ((va_up sg 51 (upd (sg 51) ns (nI h))) 52) ns (nI a))) 53 (upd ((va_up (va_up sg 51 (upd (sg 51) ns (nI h))) 52 (upd ((va_up sg 51 (upd (sg 51) ns (nI h))) 52) ns (nI a))) 53) ns (nI b))) 54 (upd ((va_up (va_up (va_up sg 51 (upd (sg 51) ns (nI h))) 52 (upd ((va_up sg 51 (upd (sg 51) ns (nI h))) 52) ns (nI a))) 53 (upd ((va_up (va_up sg 51 (upd (sg 51) ns (nI h))) 52 (upd ((va_up sg 51 (upd (sg 51) ns (nI h))) 52) ns (nI a))) 53) ns (nI b))) 54) ns (nI c))) 55) ns (nI d))) 56 (upd ((va_up (va_up (va_up (va_up (va_up sg 51 (upd (sg 51) ns (nI h))) 52 (upd ((va_up sg 51 (upd (sg 51) ns (nI h))) 52) ns (nI a))) 53 (upd ((va_up (va_up sg 51 (upd (sg 51) ns (nI h))) 52 (upd ((va_up sg 51 (upd (sg 51) ns (nI h))) 52) ns (nI a))) 53) ns (nI b))) 54 (upd ((va_up (va_up (va_up sg 51 (upd (sg 51) ns (nI h))) 52 (upd ((va_up sg 51 (upd (sg 51) ns (nI h))) 52) ns (nI a))) 53 (upd ((va_up (va_up sg 51 (upd (sg 51) ns (nI h))) 52 (upd ((va_up sg 51 (upd (sg 51) ns (nI h))) 52) ns (nI a))) 53) ns (nI b))) 54) ns (nI c))) 55 (upd ((va_up (va_up (va_up (va_up sg 51 (upd (sg 51) ns (nI h))) 52 (upd ((va_up sg 51 (upd (sg 51) ns (nI h))) 52) ns (nI a))) 53 (upd ((va_up (va_up sg 51 (upd (sg 51) ns (nI h))) 52 (upd ((va_up sg 51 (upd (sg 51) ns (nI h))) 52) ns (nI a))) 53) ns (nI b))) 54 (upd ((va_up (va_up (va_up sg 51 (upd (sg 51) ns (nI h))) 52 (upd ((va_up sg 51 (upd (sg 51) ns (nI h))) 52) ns (nI a))) 53 (upd ((va_up (va_up sg 51 (upd (sg 51) ns (nI h))) 52 (upd ((va_up sg 51 (upd (sg 51) ns (nI h))) 52) ns (nI a))) 53) ns (nI b))) 54) ns (nI c))) 55) ns (nI d))) 56) ns (nI 0))) 57) ns ((-1)))) 58) ns ((-1)))) 61 (sp_fill (sg 61) (4 * ns) (-1) 4))) (fun z => z = ((some (.int (nI ns)), rf_mk M (va_up io 5 (nI (ns + 1))) (sg_student sg ns (nI h) (nI a) (nI b) (nI c) (nI d)))))
                refine r_iload rfl dc_14_37_147 ?_
                refine r_iconst (v := nI 4) (by decide) dc_14_37_149 ?_
                refine r_ncge (t := 174) (by omega) (by omega) (by decide) dc_14_37_150 (fun c_150 => ?_) (fun c_150 => ?_)
                · skip
                  refine r_aload_n rfl dc_14_37_174 ?_
                  refine r_aload_n rfl dc_14_37_175 ?_
                  refine q_get (v := .int (nI ns)) rx_320 hM (congrArg (fun z => some (Value.int z)) (h5)) dc_14_37_176 ?_
                  refine r_iconst (v := nI 1) (by decide) dc_14_37_179 ?_
                  refine r_iadd (v := nI (ns + 1)) (nI_add _ _) dc_14_37_180 ?_
                  refine q_put rx_320 (by decide +kernel) (by decide +kernel) (by decide) (rs_5 _) hM dc_14_37_181 ?_
                  refine r_aload_n rfl dc_14_37_184 ?_
                  refine q_get (v := .int (nI (ns + 1))) rx_320 hM rfl dc_14_37_185 ?_
                  refine r_iconst (v := nI 1) (by decide) dc_14_37_188 ?_
                  refine r_isub (v := nI ns) ((pk_sub (by omega)).trans (congrArg nI (by omega))) dc_14_37_189 ?_
                  exact r_iret rfl dc_14_37_190 (rfl)
                · omega
              · intro m h_m ih_m 
                show mm_Ru 1 (13, 7, false, prog_14_method_37_code, some .int) 147 [(6, .int (nI m)), (0, .ref 100)] [] (rf_mk M io (va_up (va_up (va_up (va_up (va_up (va_up (va_up (va_up (va_up sg 51 (upd (sg 51) ns (nI h))) 52 (upd ((va_up sg 51 (upd (sg 51) ns (nI h))) 52) ns (nI a))) 53 (upd ((va_up (va_up sg 51 (upd (sg 51) ns (nI h))) 52 (upd ((va_up sg 51 (upd (sg 51) ns (nI h))) 52) ns (nI a))) 53) ns (nI b))) 54 (upd ((va_up (va_up (va_up sg 51 (upd (sg 51) ns (nI h))) 52 (upd ((va_up sg 51 (upd (sg 51) ns (nI h))) 52) ns (nI a))) 53 (upd ((va_up (va_up sg 51 (upd (sg 51) ns (nI h))) 52 (upd ((va_up sg 51 (upd (sg 51) ns (nI h))) 52) ns (nI a))) 53) ns (nI b))) 54) ns (nI c))) 55 (upd ((va_up (va_up (va_up (va_up sg 51 (upd (sg 51) ns (nI h))) 52 (upd ((va_up sg 51 (upd (sg 51) ns (nI h))) 52) ns (nI a))) 53 (upd ((va_up (va_up sg 51 (upd (sg 51) ns (nI h))) 52 (upd ((va_up sg 51 (upd (sg 51) ns (nI h))) 52) ns (nI a))) 53) ns (nI b))) 54 (upd ((va_up (va_up (va_up sg 51 (upd (sg 51) ns (nI h))) 52 (upd ((va_up sg 51 (upd (sg 51) ns (nI h))) 52) ns (nI a))) 53 (upd ((va_up (va_up sg 51 (upd (sg 51) ns (nI h))) 52 (upd ((va_up sg 51 (upd (sg 51) ns (nI h))) 52) ns (nI a))) 53) ns (nI b))) 54) ns (nI c))) 55) ns (nI d))) 56 (upd ((va_up (va_up (va_up (va_up (va_up sg 51 (upd (sg 51) ns (nI h))) 52 (upd ((va_up sg 51 (upd (sg 51) ns (nI h))) 52) ns (nI a))) 53 (upd ((va_up (va_up sg 51 (upd (sg 51) ns (nI h))) 52 (upd ((va_up sg 51 (upd (sg 51) ns (nI h))) 52) ns (nI a))) 53) ns (nI b))) 54 (upd ((va_up (va_up (va_up sg 51 (upd (sg 51) ns (nI h))) 52 (upd ((va_up sg 51 (upd (sg 51) ns (nI h))) 52) ns (nI a))) 53 (upd ((va_up (va_up sg 51 (upd (sg 51) ns (nI h))) 52 (upd ((va_up sg 51 (upd (sg 51) ns (nI h))) 52) ns (nI a))) 53) ns (nI b))) 54) ns (nI c))) 55 (upd ((va_up (va_up (va_up (va_up sg 51 (upd (sg 51) ns (nI h))) 52 (upd ((va_up sg 51 (upd (sg 51) ns (nI h))) 52) ns (nI a))) 53 (upd ((va_up (va_up sg 51 (upd (sg 51) ns (nI h))) 52 (upd ((va_up sg 51 (upd (sg 51) ns (nI h))) 52) ns (nI a))) 53) ns (nI b))) 54 (upd ((va_up (va_up (va_up sg 51 (upd (sg 51) ns (nI h))) 52 (upd ((va_up sg 51 (upd (sg 51) ns (nI h))) 52) ns (nI a))) 53 (upd ((va_up (va_up sg 51 (upd (sg 51) ns (nI h))) 52 (upd ((va_up sg 51 (upd (sg 51) ns (nI h))) 52) ns (nI a))) 53) ns (nI b))) 54) ns (nI c))) 55) ns (nI d))) 56) ns (nI 0))) 57 (upd ((va_up (va_up (va_up (va_up (va_up (va_up sg 51 (upd (sg 51) ns (nI h))) 52 (upd ((va_up sg 51 (upd (sg 51) ns (nI h))) 52) ns (nI a))) 53 (upd ((va_up (va_up sg 51 (upd (sg 51) ns (nI h))) 52 (upd ((va_up sg 51 (upd (sg 51) ns (nI h))) 52) ns (nI a))) 53) ns (nI b))) 54 (upd ((va_up (va_up (va_up sg 51 (upd (sg 51) ns (nI h))) 52 (upd ((va_up sg 51 (upd (sg 51) ns (nI h))) 52) ns (nI a))) 53 (upd ((va_up (va_up sg 51 (upd (sg 51) ns (nI h))) 52 (upd ((va_up sg 51 (upd (sg 51) ns (nI h))) 52) ns (nI a))) 53) ns (nI b))) 54) ns (nI c))) 55 (upd ((va_up (va_up (va_up (va_up sg 51 (upd (sg 51) ns (nI h))) 52 (upd ((va_up sg 51 (upd (sg 51) ns (nI h))) 52) ns (nI a))) 53 (upd ((va_up (va_up sg 51 (upd (sg 51) ns (nI h))) 52 (upd ((va_up sg 51 (upd (sg 51) ns (nI h))) 52) ns (nI a))) 53) ns (nI b))) 54 (upd ((va_up (va_up (va_up sg 51 (upd (sg 51) ns (nI h))) 52 (upd ((va_up sg 51 (upd (sg 51) ns (nI h))) 52) ns (nI a))) 53 (upd ((va_up (va_up sg 51 (upd (sg 51) ns (nI h))) 52 (upd ((va_up sg 51 (upd (sg 51) ns (nI h))) 52) ns (nI a))) 53) ns (nI b))) 54) ns (nI c))) 55) ns (nI d))) 56 (upd ((va_up (va_up (va_up (va_up (va_up sg 51 (upd (sg 51) ns (nI h))) 52 (upd ((va_up sg 51 (upd (sg 51) ns (nI h))) 52) ns (nI a))) 53 (upd ((va_up (va_up sg 51 (upd (sg 51) ns (nI h))) 52 (upd ((va_up sg 51 (upd (sg 51) ns (nI h))) 52) ns (nI a))) 53) ns (nI b))) 54 (upd ((va_up (va_up (va_up sg 51 (upd (sg 51) ns (nI h))) 52 (upd ((va_up sg 51 (upd (sg 51) ns (nI h))) 52) ns (nI a))) 53 (upd ((va_up (va_up sg 51 (upd (sg 51) ns (nI h))) 52 (upd ((va_up sg 51 (upd (sg 51) ns (nI h))) 52) ns (nI a))) 53) ns (nI b))) 54) ns (nI c))) 55 (upd ((va_up (va_up (va_up (va_up sg 51 (upd (sg 51) ns (nI h))) 52 (upd ((va_up sg 51 (upd (sg 51) ns (nI h))) 52) ns (nI a))) 53 (upd ((va_up (va_up sg 51 (upd (sg 51) ns (nI h))) 52 (upd ((va_up sg 51 (upd (sg 51) ns (nI h))) 52) ns (nI a))) 53) ns (nI b))) 54 (upd ((va_up (va_up (va_up sg 51 (upd (sg 51) ns (nI h))) 52 (upd ((va_up sg 51 (upd (sg 51) ns (nI h))) 52) ns (nI a))) 53 (upd ((va_up (va_up sg 51 (upd (sg 51) ns (nI h))) 52 (upd ((va_up sg 51 (upd (sg 51) ns (nI h))) 52) ns (nI a))) 53) ns (nI b))) 54) ns (nI c))) 55) ns (nI d))) 56) ns (nI 0))) 57) ns ((-1)))) 58 (upd ((va_up (va_up (va_up (va_up (va_up (va_up (va_up sg 51 (upd (sg 51) ns (nI h))) 52 (upd ((va_up sg 51 (upd (sg 51) ns (nI h))) 52) ns (nI a))) 53 (upd ((va_up (va_up sg 51 (upd (sg 51) ns (nI h))) 52 (upd ((va_up sg 51 (upd (sg 51) ns (nI h))) 52) ns (nI a))) 53) ns (nI b))) 54 (upd ((va_up (va_up (va_up sg 51 (upd (sg 51) ns (nI h))) 52 (upd ((va_up sg 51 (upd (sg 51) ns (nI h))) 52) ns (nI a))) 53 (upd ((va_up (va_up sg 51 (upd (sg 51) ns (nI h))) 52 (upd ((va_up sg 51 (upd (sg 51) ns (nI h))) 52) ns (nI a))) 53) ns (nI b))) 54) ns (nI c))) 55 (upd ((va_up (va_up (va_up (va_up sg 51 (upd (sg 51) ns (nI h))) 52 (upd ((va_up sg 51 (upd (sg 51) ns (nI h))) 52) ns (nI a))) 53 (upd ((va_up (va_up sg 51 (upd (sg 51) ns (nI h))) 52 (upd ((va_up sg 51 (upd (sg 51) ns (nI h))) 52) ns (nI a))) 53) ns (nI b))) 54 (upd ((va_up (va_up (va_up sg 51 (upd (sg 51) ns (nI h))) 52 (upd ((va_up sg 51 (upd (sg 51) ns (nI h))) 52) ns (nI a))) 53 (upd ((va_up (va_up sg 51 (upd (sg 51) ns (nI h))) 52 (upd ((va_up sg 51 (upd (sg 51) ns (nI h))) 52) ns (nI a))) 53) ns (nI b))) 54) ns (nI c))) 55) ns (nI d))) 56 (upd ((va_up (va_up (va_up (va_up (va_up sg 51 (upd (sg 51) ns (nI h))) 52 (upd ((va_up sg 51 (upd (sg 51) ns (nI h))) 52) ns (nI a))) 53 (upd ((va_up (va_up sg 51 (upd (sg 51) ns (nI h))) 52 (upd ((va_up sg 51 (upd (sg 51) ns (nI h))) 52) ns (nI a))) 53) ns (nI b))) 54 (upd ((va_up (va_up (va_up sg 51 (upd (sg 51) ns (nI h))) 52 (upd ((va_up sg 51 (upd (sg 51) ns (nI h))) 52) ns (nI a))) 53 (upd ((va_up (va_up sg 51 (upd (sg 51) ns (nI h))) 52 (upd ((va_up sg 51 (upd (sg 51) ns (nI h))) 52) ns (nI a))) 53) ns (nI b))) 54) ns (nI c))) 55 (upd ((va_up (va_up (va_up (va_up sg 51 (upd (sg 51) ns (nI h))) 52 (upd ((va_up sg 51 (upd (sg 51) ns (nI h))) 52) ns (nI a))) 53 (upd ((va_up (va_up sg 51 (upd (sg 51) ns (nI h))) 52 (upd ((va_up sg 51 (upd (sg 51) ns (nI h))) 52) ns (nI a))) 53) ns (nI b))) 54 (upd ((va_up (va_up (va_up sg 51 (upd (sg 51) ns (nI h))) 52 (upd ((va_up sg 51 (upd (sg 51) ns (nI h))) 52) ns (nI a))) 53 (upd ((va_up (va_up sg 51 (upd (sg 51) ns (nI h))) 52 (upd ((va_up sg 51 (upd (sg 51) ns (nI h))) 52) ns (nI a))) 53) ns (nI b))) 54) ns (nI c))) 55) ns (nI d))) 56) ns (nI 0))) 57 (upd ((va_up (va_up (va_up (va_up (va_up (va_up sg 51 (upd (sg 51) ns (nI h))) 52 (upd ((va_up sg 51 (upd (sg 51) ns (nI h))) 52) ns (nI a))) 53 (upd ((va_up (va_up sg 51 (upd (sg 51) ns (nI h))) 52 (upd ((va_up sg 51 (upd (sg 51) ns (nI h))) 52) ns (nI a))) 53) ns (nI b))) 54 (upd ((va_up (va_up (va_up sg 51 (upd (sg 51) ns (nI h))) 52 (upd ((va_up sg 51 (upd (sg 51) ns (nI h))) 52) ns (nI a))) 53 (upd ((va_up (va_up sg 51 (upd (sg 51) ns (nI h))) 52 (upd ((va_up sg 51 (upd (sg 51) ns (nI h))) 52) ns (nI a))) 53) ns (nI b))) 54) ns (nI c))) 55 (upd ((va_up (va_up (va_up (va_up sg 51 (upd (sg 51) ns (nI h))) 52 (upd ((va_up sg 51 (upd (sg 51) ns (nI h))) 52) ns (nI a))) 53 (upd ((va_up (va_up sg 51 (upd (sg 51) ns (nI h))) 52 (upd ((va_up sg 51 (upd (sg 51) ns (nI h))) 52) ns (nI a))) 53) ns (nI b))) 54 (upd ((va_up (va_up (va_up sg 51 (upd (sg 51) ns (nI h))) 52 (upd ((va_up sg 51 (upd (sg 51) ns (nI h))) 52) ns (nI a))) 53 (upd ((va_up (va_up sg 51 (upd (sg 51) ns (nI h))) 52 (upd ((va_up sg 51 (upd (sg 51) ns (nI h))) 52) ns (nI a))) 53) ns (nI b))) 54) ns (nI c))) 55) ns (nI d))) 56 (upd ((va_up (va_up (va_up (va_up (va_up sg 51 (upd (sg 51) ns (nI h))) 52 (upd ((va_up sg 51 (upd (sg 51) ns (nI h))) 52) ns (nI a))) 53 (upd ((va_up (va_up sg 51 (upd (sg 51) ns (nI h))) 52 (upd ((va_up sg 51 (upd (sg 51) ns (nI h))) 52) ns (nI a))) 53) ns (nI b))) 54 (upd ((va_up (va_up (va_up sg 51 (upd (sg 51) ns (nI h))) 52 (upd ((va_up sg 51 (upd (sg 51) ns (nI h))) 52) ns (nI a))) 53 (upd ((va_up (va_up sg 51 (upd (sg 51) ns (nI h))) 52 (upd ((va_up sg 51 (upd (sg 51) ns (nI h))) 52) ns (nI a))) 53) ns (nI b))) 54) ns (nI c))) 55 (upd ((va_up (va_up (va_up (va_up sg 51 (upd (sg 51) ns (nI h))) 52 (upd ((va_up sg 51 (upd (sg 51) ns (nI h))) 52) ns (nI a))) 53 (upd ((va_up (va_up sg 51 (upd (sg 51) ns (nI h))) 52 (upd ((va_up sg 51 (upd (sg 51) ns (nI h))) 52) ns (nI a))) 53) ns (nI b))) 54 (upd ((va_up (va_up (va_up sg 51 (upd (sg 51) ns (nI h))) 52 (upd ((va_up sg 51 (upd (sg 51) ns (nI h))) 52) ns (nI a))) 53 (upd ((va_up (va_up sg 51 (upd (sg 51) ns (nI h))) 52 (upd ((va_up sg 51 (upd (sg 51) ns (nI h))) 52) ns (nI a))) 53) ns (nI b))) 54) ns (nI c))) 55) ns (nI d))) 56) ns (nI 0))) 57) ns ((-1)))) 58) ns ((-1)))) 61 (sp_fill (sg 61) (4 * ns) (-1) m))) (fun z => z = ((some (.int (nI ns)), rf_mk M (va_up io 5 (nI (ns + 1))) (sg_student sg ns (nI h) (nI a) (nI b) (nI c) (nI d)))))
                refine r_iload rfl dc_14_37_147 ?_
                refine r_iconst (v := nI 4) (by decide) dc_14_37_149 ?_
                refine r_ncge (t := 174) (by omega) (by omega) (by decide) dc_14_37_150 (fun c_150 => ?_) (fun c_150 => ?_)
                · omega
                · skip
                  refine r_aload_n rfl dc_14_37_153 ?_
                  refine q_get (v := .ref 143) rx_138 hM rfl dc_14_37_154 ?_
                  refine r_iconst (v := nI 4) (by decide) dc_14_37_157 ?_
                  refine r_aload_n rfl dc_14_37_158 ?_
                  refine q_get (v := .int (nI ns)) rx_320 hM (congrArg (fun z => some (Value.int z)) (h5)) dc_14_37_159 ?_
                  refine r_imul (v := nI (4 * ns)) (pk_mul _ _) dc_14_37_162 ?_
                  refine r_iload rfl dc_14_37_163 ?_
                  refine r_iadd (v := nI (4 * ns + m)) (nI_add _ _) dc_14_37_165 ?_
                  refine r_iconst (v := -1) (by decide) dc_14_37_166 ?_
                  refine q_ist (e := 4 * ns + m) (k := 61) (by decide) (by decide) hM rfl rfl (show 4 * ns + m < 64 by omega) (by omega) dc_14_37_167 ?_
                  refine r_iinc (x := nI m) (v := nI (m + 1)) (ls' := [(6, .int (nI (m + 1))), (0, .ref 100)]) rfl (nI_1 _) (by decide) rfl dc_14_37_168 ?_
                  refine r_goto (t := 147) (by decide) dc_14_37_171 ?_
                  rw [sp_fill_S, ← bx_uu (va_up (va_up (va_up (va_up (va_up (va_up (va_up (va_up sg 51 (upd (sg 51) ns (nI h))) 52 (upd ((va_up sg 51 (upd (sg 51) ns (nI h))) 52) ns (nI a))) 53 (upd ((va_up (va_up sg 51 (upd (sg 51) ns (nI h))) 52 (upd ((va_up sg 51 (upd (sg 51) ns (nI h))) 52) ns (nI a))) 53) ns (nI b))) 54 (upd ((va_up (va_up (va_up sg 51 (upd (sg 51) ns (nI h))) 52 (upd ((va_up sg 51 (upd (sg 51) ns (nI h))) 52) ns (nI a))) 53 (upd ((va_up (va_up sg 51 (upd (sg 51) ns (nI h))) 52 (upd ((va_up sg 51 (upd (sg 51) ns (nI h))) 52) ns (nI a))) 53) ns (nI b))) 54) ns (nI c))) 55 (upd ((va_up (va_up (va_up (va_up sg 51 (upd (sg 51) ns (nI h))) 52 (upd ((va_up sg 51 (upd (sg 51) ns (nI h))) 52) ns (nI a))) 53 (upd ((va_up (va_up sg 51 (upd (sg 51) ns (nI h))) 52 (upd ((va_up sg 51 (upd (sg 51) ns (nI h))) 52) ns (nI a))) 53) ns (nI b))) 54 (upd ((va_up (va_up (va_up sg 51 (upd (sg 51) ns (nI h))) 52 (upd ((va_up sg 51 (upd (sg 51) ns (nI h))) 52) ns (nI a))) 53 (upd ((va_up (va_up sg 51 (upd (sg 51) ns (nI h))) 52 (upd ((va_up sg 51 (upd (sg 51) ns (nI h))) 52) ns (nI a))) 53) ns (nI b))) 54) ns (nI c))) 55) ns (nI d))) 56 (upd ((va_up (va_up (va_up (va_up (va_up sg 51 (upd (sg 51) ns (nI h))) 52 (upd ((va_up sg 51 (upd (sg 51) ns (nI h))) 52) ns (nI a))) 53 (upd ((va_up (va_up sg 51 (upd (sg 51) ns (nI h))) 52 (upd ((va_up sg 51 (upd (sg 51) ns (nI h))) 52) ns (nI a))) 53) ns (nI b))) 54 (upd ((va_up (va_up (va_up sg 51 (upd (sg 51) ns (nI h))) 52 (upd ((va_up sg 51 (upd (sg 51) ns (nI h))) 52) ns (nI a))) 53 (upd ((va_up (va_up sg 51 (upd (sg 51) ns (nI h))) 52 (upd ((va_up sg 51 (upd (sg 51) ns (nI h))) 52) ns (nI a))) 53) ns (nI b))) 54) ns (nI c))) 55 (upd ((va_up (va_up (va_up (va_up sg 51 (upd (sg 51) ns (nI h))) 52 (upd ((va_up sg 51 (upd (sg 51) ns (nI h))) 52) ns (nI a))) 53 (upd ((va_up (va_up sg 51 (upd (sg 51) ns (nI h))) 52 (upd ((va_up sg 51 (upd (sg 51) ns (nI h))) 52) ns (nI a))) 53) ns (nI b))) 54 (upd ((va_up (va_up (va_up sg 51 (upd (sg 51) ns (nI h))) 52 (upd ((va_up sg 51 (upd (sg 51) ns (nI h))) 52) ns (nI a))) 53 (upd ((va_up (va_up sg 51 (upd (sg 51) ns (nI h))) 52 (upd ((va_up sg 51 (upd (sg 51) ns (nI h))) 52) ns (nI a))) 53) ns (nI b))) 54) ns (nI c))) 55) ns (nI d))) 56) ns (nI 0))) 57 (upd ((va_up (va_up (va_up (va_up (va_up (va_up sg 51 (upd (sg 51) ns (nI h))) 52 (upd ((va_up sg 51 (upd (sg 51) ns (nI h))) 52) ns (nI a))) 53 (upd ((va_up (va_up sg 51 (upd (sg 51) ns (nI h))) 52 (upd ((va_up sg 51 (upd (sg 51) ns (nI h))) 52) ns (nI a))) 53) ns (nI b))) 54 (upd ((va_up (va_up (va_up sg 51 (upd (sg 51) ns (nI h))) 52 (upd ((va_up sg 51 (upd (sg 51) ns (nI h))) 52) ns (nI a))) 53 (upd ((va_up (va_up sg 51 (upd (sg 51) ns (nI h))) 52 (upd ((va_up sg 51 (upd (sg 51) ns (nI h))) 52) ns (nI a))) 53) ns (nI b))) 54) ns (nI c))) 55 (upd ((va_up (va_up (va_up (va_up sg 51 (upd (sg 51) ns (nI h))) 52 (upd ((va_up sg 51 (upd (sg 51) ns (nI h))) 52) ns (nI a))) 53 (upd ((va_up (va_up sg 51 (upd (sg 51) ns (nI h))) 52 (upd ((va_up sg 51 (upd (sg 51) ns (nI h))) 52) ns (nI a))) 53) ns (nI b))) 54 (upd ((va_up (va_up (va_up sg 51 (upd (sg 51) ns (nI h))) 52 (upd ((va_up sg 51 (upd (sg 51) ns (nI h))) 52) ns (nI a))) 53 (upd ((va_up (va_up sg 51 (upd (sg 51) ns (nI h))) 52 (upd ((va_up sg 51 (upd (sg 51) ns (nI h))) 52) ns (nI a))) 53) ns (nI b))) 54) ns (nI c))) 55) ns (nI d))) 56 (upd ((va_up (va_up (va_up (va_up (va_up sg 51 (upd (sg 51) ns (nI h))) 52 (upd ((va_up sg 51 (upd (sg 51) ns (nI h))) 52) ns (nI a))) 53 (upd ((va_up (va_up sg 51 (upd (sg 51) ns (nI h))) 52 (upd ((va_up sg 51 (upd (sg 51) ns (nI h))) 52) ns (nI a))) 53) ns (nI b))) 54 (upd ((va_up (va_up (va_up sg 51 (upd (sg 51) ns (nI h))) 52 (upd ((va_up sg 51 (upd (sg 51) ns (nI h))) 52) ns (nI a))) 53 (upd ((va_up (va_up sg 51 (upd (sg 51) ns (nI h))) 52 (upd ((va_up sg 51 (upd (sg 51) ns (nI h))) 52) ns (nI a))) 53) ns (nI b))) 54) ns (nI c))) 55 (upd ((va_up (va_up (va_up (va_up sg 51 (upd (sg 51) ns (nI h))) 52 (upd ((va_up sg 51 (upd (sg 51) ns (nI h))) 52) ns (nI a))) 53 (upd ((va_up (va_up sg 51 (upd (sg 51) ns (nI h))) 52 (upd ((va_up sg 51 (upd (sg 51) ns (nI h))) 52) ns (nI a))) 53) ns (nI b))) 54 (upd ((va_up (va_up (va_up sg 51 (upd (sg 51) ns (nI h))) 52 (upd ((va_up sg 51 (upd (sg 51) ns (nI h))) 52) ns (nI a))) 53 (upd ((va_up (va_up sg 51 (upd (sg 51) ns (nI h))) 52 (upd ((va_up sg 51 (upd (sg 51) ns (nI h))) 52) ns (nI a))) 53) ns (nI b))) 54) ns (nI c))) 55) ns (nI d))) 56) ns (nI 0))) 57) ns ((-1)))) 58 (upd ((va_up (va_up (va_up (va_up (va_up (va_up (va_up sg 51 (upd (sg 51) ns (nI h))) 52 (upd ((va_up sg 51 (upd (sg 51) ns (nI h))) 52) ns (nI a))) 53 (upd ((va_up (va_up sg 51 (upd (sg 51) ns (nI h))) 52 (upd ((va_up sg 51 (upd (sg 51) ns (nI h))) 52) ns (nI a))) 53) ns (nI b))) 54 (upd ((va_up (va_up (va_up sg 51 (upd (sg 51) ns (nI h))) 52 (upd ((va_up sg 51 (upd (sg 51) ns (nI h))) 52) ns (nI a))) 53 (upd ((va_up (va_up sg 51 (upd (sg 51) ns (nI h))) 52 (upd ((va_up sg 51 (upd (sg 51) ns (nI h))) 52) ns (nI a))) 53) ns (nI b))) 54) ns (nI c))) 55 (upd ((va_up (va_up (va_up (va_up sg 51 (upd (sg 51) ns (nI h))) 52 (upd ((va_up sg 51 (upd (sg 51) ns (nI h))) 52) ns (nI a))) 53 (upd ((va_up (va_up sg 51 (upd (sg 51) ns (nI h))) 52 (upd ((va_up sg 51 (upd (sg 51) ns (nI h))) 52) ns (nI a))) 53) ns (nI b))) 54 (upd ((va_up (va_up (va_up sg 51 (upd (sg 51) ns (nI h))) 52 (upd ((va_up sg 51 (upd (sg 51) ns (nI h))) 52) ns (nI a))) 53 (upd ((va_up (va_up sg 51 (upd (sg 51) ns (nI h))) 52 (upd ((va_up sg 51 (upd (sg 51) ns (nI h))) 52) ns (nI a))) 53) ns (nI b))) 54) ns (nI c))) 55) ns (nI d))) 56 (upd ((va_up (va_up (va_up (va_up (va_up sg 51 (upd (sg 51) ns (nI h))) 52 (upd ((va_up sg 51 (upd (sg 51) ns (nI h))) 52) ns (nI a))) 53 (upd ((va_up (va_up sg 51 (upd (sg 51) ns (nI h))) 52 (upd ((va_up sg 51 (upd (sg 51) ns (nI h))) 52) ns (nI a))) 53) ns (nI b))) 54 (upd ((va_up (va_up (va_up sg 51 (upd (sg 51) ns (nI h))) 52 (upd ((va_up sg 51 (upd (sg 51) ns (nI h))) 52) ns (nI a))) 53 (upd ((va_up (va_up sg 51 (upd (sg 51) ns (nI h))) 52 (upd ((va_up sg 51 (upd (sg 51) ns (nI h))) 52) ns (nI a))) 53) ns (nI b))) 54) ns (nI c))) 55 (upd ((va_up (va_up (va_up (va_up sg 51 (upd (sg 51) ns (nI h))) 52 (upd ((va_up sg 51 (upd (sg 51) ns (nI h))) 52) ns (nI a))) 53 (upd ((va_up (va_up sg 51 (upd (sg 51) ns (nI h))) 52 (upd ((va_up sg 51 (upd (sg 51) ns (nI h))) 52) ns (nI a))) 53) ns (nI b))) 54 (upd ((va_up (va_up (va_up sg 51 (upd (sg 51) ns (nI h))) 52 (upd ((va_up sg 51 (upd (sg 51) ns (nI h))) 52) ns (nI a))) 53 (upd ((va_up (va_up sg 51 (upd (sg 51) ns (nI h))) 52 (upd ((va_up sg 51 (upd (sg 51) ns (nI h))) 52) ns (nI a))) 53) ns (nI b))) 54) ns (nI c))) 55) ns (nI d))) 56) ns (nI 0))) 57 (upd ((va_up (va_up (va_up (va_up (va_up (va_up sg 51 (upd (sg 51) ns (nI h))) 52 (upd ((va_up sg 51 (upd (sg 51) ns (nI h))) 52) ns (nI a))) 53 (upd ((va_up (va_up sg 51 (upd (sg 51) ns (nI h))) 52 (upd ((va_up sg 51 (upd (sg 51) ns (nI h))) 52) ns (nI a))) 53) ns (nI b))) 54 (upd ((va_up (va_up (va_up sg 51 (upd (sg 51) ns (nI h))) 52 (upd ((va_up sg 51 (upd (sg 51) ns (nI h))) 52) ns (nI a))) 53 (upd ((va_up (va_up sg 51 (upd (sg 51) ns (nI h))) 52 (upd ((va_up sg 51 (upd (sg 51) ns (nI h))) 52) ns (nI a))) 53) ns (nI b))) 54) ns (nI c))) 55 (upd ((va_up (va_up (va_up (va_up sg 51 (upd (sg 51) ns (nI h))) 52 (upd ((va_up sg 51 (upd (sg 51) ns (nI h))) 52) ns (nI a))) 53 (upd ((va_up (va_up sg 51 (upd (sg 51) ns (nI h))) 52 (upd ((va_up sg 51 (upd (sg 51) ns (nI h))) 52) ns (nI a))) 53) ns (nI b))) 54 (upd ((va_up (va_up (va_up sg 51 (upd (sg 51) ns (nI h))) 52 (upd ((va_up sg 51 (upd (sg 51) ns (nI h))) 52) ns (nI a))) 53 (upd ((va_up (va_up sg 51 (upd (sg 51) ns (nI h))) 52 (upd ((va_up sg 51 (upd (sg 51) ns (nI h))) 52) ns (nI a))) 53) ns (nI b))) 54) ns (nI c))) 55) ns (nI d))) 56 (upd ((va_up (va_up (va_up (va_up (va_up sg 51 (upd (sg 51) ns (nI h))) 52 (upd ((va_up sg 51 (upd (sg 51) ns (nI h))) 52) ns (nI a))) 53 (upd ((va_up (va_up sg 51 (upd (sg 51) ns (nI h))) 52 (upd ((va_up sg 51 (upd (sg 51) ns (nI h))) 52) ns (nI a))) 53) ns (nI b))) 54 (upd ((va_up (va_up (va_up sg 51 (upd (sg 51) ns (nI h))) 52 (upd ((va_up sg 51 (upd (sg 51) ns (nI h))) 52) ns (nI a))) 53 (upd ((va_up (va_up sg 51 (upd (sg 51) ns (nI h))) 52 (upd ((va_up sg 51 (upd (sg 51) ns (nI h))) 52) ns (nI a))) 53) ns (nI b))) 54) ns (nI c))) 55 (upd ((va_up (va_up (va_up (va_up sg 51 (upd (sg 51) ns (nI h))) 52 (upd ((va_up sg 51 (upd (sg 51) ns (nI h))) 52) ns (nI a))) 53 (upd ((va_up (va_up sg 51 (upd (sg 51) ns (nI h))) 52 (upd ((va_up sg 51 (upd (sg 51) ns (nI h))) 52) ns (nI a))) 53) ns (nI b))) 54 (upd ((va_up (va_up (va_up sg 51 (upd (sg 51) ns (nI h))) 52 (upd ((va_up sg 51 (upd (sg 51) ns (nI h))) 52) ns (nI a))) 53 (upd ((va_up (va_up sg 51 (upd (sg 51) ns (nI h))) 52 (upd ((va_up sg 51 (upd (sg 51) ns (nI h))) 52) ns (nI a))) 53) ns (nI b))) 54) ns (nI c))) 55) ns (nI d))) 56) ns (nI 0))) 57) ns ((-1)))) 58) ns ((-1)))) 61 (sp_fill (sg 61) (4 * ns) (-1) m)] at ih_m
                  exact ih_m
            · omega
set_option maxHeartbeats 4000000 in
theorem c_student_no (M : mH) (hM : 157 ≤ M.1) (io : Nat → Int32) (sg : Nat → Nat → Int32) (h a b c d : Int32) (hno : ¬ gd_student io h a b c d) : mm_Ev 2 220 [.ref 100, .int h, .int a, .int b, .int c, .int d] (rf_mk M io sg) ((some (.int (-1)), rf_mk M io sg)) := by
  refine r_ev (by decide +kernel) (show (6 : Nat) ≤ mm_nL 220 by decide +kernel) ?_
  show mm_Ru 1 (13, 7, false, prog_14_method_37_code, some .int) 0 [(0, .ref 100), (1, .int h), (2, .int a), (3, .int b), (4, .int c), (5, .int d)] [] (rf_mk M io sg) (fun z => z = ((some (.int (-1)), rf_mk M io sg)))
  refine r_aload_n rfl dc_14_37_0 ?_
  refine r_iload_n rfl dc_14_37_1 ?_
  refine q_calli (as := [.int h]) (rest := []) (v := .int (sp_is h (io 3))) (M1 := rf_mk M io sg) iv_13_v205 na_1_196 o_196 hM rfl (show (0 : Nat) ≤ 8 by decide) dc_14_37_2 (c_isSchool M hM io sg h) ?_
  refine r_ifeq (t := 60) (by decide) dc_14_37_5 (fun c_5 => ?_) (fun c_5 => ?_)
  · skip
    refine r_iconst (v := -1) (by decide) dc_14_37_60 ?_
    exact r_iret rfl dc_14_37_61 (rfl)
  · skip
    refine r_iload_n rfl dc_14_37_8 ?_
    refine r_iconst (v := nI 0) (by decide) dc_14_37_9 ?_
    refine r_bipush (v := nI 7) (by decide) dc_14_37_10 ?_
    refine q_calls (as := [.int a, .int (nI 0), .int (nI 7)]) (rest := []) (v := .int (sp_in a (nI 0) (nI 7))) iv_13_s180 na_0_187 rfl (show (0 : Nat) ≤ 8 by decide) dc_14_37_12 (c_in _ a (nI 0) (nI 7)) ?_
    refine r_ifeq (t := 60) (by decide) dc_14_37_15 (fun c_15 => ?_) (fun c_15 => ?_)
    · skip
      refine r_iconst (v := -1) (by decide) dc_14_37_60 ?_
      exact r_iret rfl dc_14_37_61 (rfl)
    · skip
      refine r_iload_n rfl dc_14_37_18 ?_
      refine r_iconst (v := nI 0) (by decide) dc_14_37_19 ?_
      refine r_bipush (v := nI 100) (by decide) dc_14_37_20 ?_
      refine q_calls (as := [.int b, .int (nI 0), .int (nI 100)]) (rest := []) (v := .int (sp_in b (nI 0) (nI 100))) iv_13_s180 na_0_187 rfl (show (0 : Nat) ≤ 8 by decide) dc_14_37_22 (c_in _ b (nI 0) (nI 100)) ?_
      refine r_ifeq (t := 60) (by decide) dc_14_37_25 (fun c_25 => ?_) (fun c_25 => ?_)
      · skip
        refine r_iconst (v := -1) (by decide) dc_14_37_60 ?_
        exact r_iret rfl dc_14_37_61 (rfl)
      · skip
        refine r_iload rfl dc_14_37_28 ?_
        refine r_iconst (v := nI 0) (by decide) dc_14_37_30 ?_
        refine r_bipush (v := nI 99) (by decide) dc_14_37_31 ?_
        refine q_calls (as := [.int c, .int (nI 0), .int (nI 99)]) (rest := []) (v := .int (sp_in c (nI 0) (nI 99))) iv_13_s180 na_0_187 rfl (show (0 : Nat) ≤ 8 by decide) dc_14_37_33 (c_in _ c (nI 0) (nI 99)) ?_
        refine r_ifeq (t := 60) (by decide) dc_14_37_36 (fun c_36 => ?_) (fun c_36 => ?_)
        · skip
          refine r_iconst (v := -1) (by decide) dc_14_37_60 ?_
          exact r_iret rfl dc_14_37_61 (rfl)
        · skip
          refine r_iload rfl dc_14_37_39 ?_
          refine r_iconst (v := nI 0) (by decide) dc_14_37_41 ?_
          refine r_sipush (v := nI 4095) (by decide) dc_14_37_42 ?_
          refine q_calls (as := [.int d, .int (nI 0), .int (nI 4095)]) (rest := []) (v := .int (sp_in d (nI 0) (nI 4095))) iv_13_s180 na_0_187 rfl (show (0 : Nat) ≤ 8 by decide) dc_14_37_45 (c_in _ d (nI 0) (nI 4095)) ?_
          refine r_ifeq (t := 60) (by decide) dc_14_37_48 (fun c_48 => ?_) (fun c_48 => ?_)
          · skip
            refine r_iconst (v := -1) (by decide) dc_14_37_60 ?_
            exact r_iret rfl dc_14_37_61 (rfl)
          · skip
            refine r_aload_n rfl dc_14_37_51 ?_
            refine q_get (v := .int (io 5)) rx_320 hM rfl dc_14_37_52 ?_
            refine r_bipush (v := nI 16) (by decide) dc_14_37_55 ?_
            refine r_icne (t := 62) (by decide) dc_14_37_57 (fun c_57 => ?_) (fun c_57 => ?_)
            · skip
              exact absurd (⟨sp_is_ne c_5, sp_in_ne c_15, sp_in_ne c_25, sp_in_ne c_36, sp_in_ne c_48, c_57⟩) hno
            · skip
              refine r_iconst (v := -1) (by decide) dc_14_37_60 ?_
              exact r_iret rfl dc_14_37_61 (rfl)
def gd_level (io : Nat → Int32) (s t n : Int32) : Prop := (0 ≤ s ∧ s < io 5) ∧ (nI 0 ≤ t ∧ t ≤ nI 3) ∧ (-1 ≤ n ∧ n ≤ nI 9)
set_option maxHeartbeats 4000000 in
theorem c_level_ok (M : mH) (hM : 157 ≤ M.1) (io : Nat → Int32) (sg : Nat → Nat → Int32) (ns : Nat) (h5 : io 5 = nI ns) (hns : ns ≤ 16) (s t : Nat) (n : Int32) (hs : s < ns) (ht : t < 4) (hn : -1 ≤ n ∧ n ≤ nI 9) : mm_Ev 2 221 [.ref 100, .int (nI s), .int (nI t), .int n] (rf_mk M io sg) ((some (.int (nI 1)), rf_mk M io (va_up sg 61 (upd (sg 61) (4 * s + t) n)))) := by
  refine r_ev (by decide +kernel) (show (4 : Nat) ≤ mm_nL 221 by decide +kernel) ?_
  show mm_Ru 1 (13, 4, false, prog_14_method_38_code, some .boolean) 0 [(0, .ref 100), (1, .int (nI s)), (2, .int (nI t)), (3, .int n)] [] (rf_mk M io sg) (fun z => z = ((some (.int (nI 1)), rf_mk M io (va_up sg 61 (upd (sg 61) (4 * s + t) n)))))
  refine r_aload_n rfl dc_14_38_0 ?_
  refine r_iload_n rfl dc_14_38_1 ?_
  refine q_calli (as := [.int (nI s)]) (rest := []) (v := .int (nI 1)) (M1 := rf_mk M io sg) iv_13_v323 na_1_222 o_222 hM rfl (show (0 : Nat) ≤ 8 by decide) dc_14_38_2 (c_isStudentT M hM io sg ns h5 s (by omega) (by omega)) ?_
  refine r_ifeq (t := 27) (by decide) dc_14_38_5 (fun c_5 => ?_) (fun c_5 => ?_)
  · exact absurd c_5 (by decide)
  · skip
    refine r_iload_n rfl dc_14_38_8 ?_
    refine r_iconst (v := nI 0) (by decide) dc_14_38_9 ?_
    refine r_iconst (v := nI 3) (by decide) dc_14_38_10 ?_
    refine q_calls (as := [.int (nI t), .int (nI 0), .int (nI 3)]) (rest := []) (v := .int (nI 1)) iv_13_s180 na_0_187 rfl (show (0 : Nat) ≤ 8 by decide) dc_14_38_11 (c_inT _ t 0 3 (by omega) (by omega) (by omega)) ?_
    refine r_ifeq (t := 27) (by decide) dc_14_38_14 (fun c_14 => ?_) (fun c_14 => ?_)
    · exact absurd c_14 (by decide)
    · skip
      refine r_iload_n rfl dc_14_38_17 ?_
      refine r_iconst (v := -1) (by decide) dc_14_38_18 ?_
      refine r_bipush (v := nI 9) (by decide) dc_14_38_19 ?_
      refine q_calls (as := [.int n, .int ((-1)), .int (nI 9)]) (rest := []) (v := .int (nI 1)) iv_13_s180 na_0_187 rfl (show (0 : Nat) ≤ 8 by decide) dc_14_38_21 ((show sp_in n (-1) (nI 9) = nI 1 from if_pos hn) ▸ c_in _ n (-1) (nI 9)) ?_
      refine r_ifne (t := 29) (by decide) dc_14_38_24 (fun c_24 => ?_) (fun c_24 => ?_)
      · skip
        refine r_aload_n rfl dc_14_38_29 ?_
        refine q_get (v := .ref 143) rx_138 hM rfl dc_14_38_30 ?_
        refine r_iconst (v := nI 4) (by decide) dc_14_38_33 ?_
        refine r_iload_n rfl dc_14_38_34 ?_
        refine r_imul (v := nI (4 * s)) (pk_mul _ _) dc_14_38_35 ?_
        refine r_iload_n rfl dc_14_38_36 ?_
        refine r_iadd (v := nI (4 * s + t)) (nI_add _ _) dc_14_38_37 ?_
        refine r_iload_n rfl dc_14_38_38 ?_
        refine q_ist (e := 4 * s + t) (k := 61) (by decide) (by decide) hM rfl rfl (show 4 * s + t < 64 by omega) (by omega) dc_14_38_39 ?_
        refine r_iconst (v := nI 1) (by decide) dc_14_38_40 ?_
        exact r_zret rfl (by decide) dc_14_38_41 (rfl)
      · exact absurd c_24 (by decide)
set_option maxHeartbeats 4000000 in
theorem c_level_no (M : mH) (hM : 157 ≤ M.1) (io : Nat → Int32) (sg : Nat → Nat → Int32) (s t n : Int32) (hno : ¬ gd_level io s t n) : mm_Ev 2 221 [.ref 100, .int s, .int t, .int n] (rf_mk M io sg) ((some (.int (nI 0)), rf_mk M io sg)) := by
  refine r_ev (by decide +kernel) (show (4 : Nat) ≤ mm_nL 221 by decide +kernel) ?_
  show mm_Ru 1 (13, 4, false, prog_14_method_38_code, some .boolean) 0 [(0, .ref 100), (1, .int s), (2, .int t), (3, .int n)] [] (rf_mk M io sg) (fun z => z = ((some (.int (nI 0)), rf_mk M io sg)))
  refine r_aload_n rfl dc_14_38_0 ?_
  refine r_iload_n rfl dc_14_38_1 ?_
  refine q_calli (as := [.int s]) (rest := []) (v := .int (sp_is s (io 5))) (M1 := rf_mk M io sg) iv_13_v323 na_1_222 o_222 hM rfl (show (0 : Nat) ≤ 8 by decide) dc_14_38_2 (c_isStudent M hM io sg s) ?_
  refine r_ifeq (t := 27) (by decide) dc_14_38_5 (fun c_5 => ?_) (fun c_5 => ?_)
  · skip
    refine r_iconst (v := nI 0) (by decide) dc_14_38_27 ?_
    exact r_zret rfl (by decide) dc_14_38_28 (rfl)
  · skip
    refine r_iload_n rfl dc_14_38_8 ?_
    refine r_iconst (v := nI 0) (by decide) dc_14_38_9 ?_
    refine r_iconst (v := nI 3) (by decide) dc_14_38_10 ?_
    refine q_calls (as := [.int t, .int (nI 0), .int (nI 3)]) (rest := []) (v := .int (sp_in t (nI 0) (nI 3))) iv_13_s180 na_0_187 rfl (show (0 : Nat) ≤ 8 by decide) dc_14_38_11 (c_in _ t (nI 0) (nI 3)) ?_
    refine r_ifeq (t := 27) (by decide) dc_14_38_14 (fun c_14 => ?_) (fun c_14 => ?_)
    · skip
      refine r_iconst (v := nI 0) (by decide) dc_14_38_27 ?_
      exact r_zret rfl (by decide) dc_14_38_28 (rfl)
    · skip
      refine r_iload_n rfl dc_14_38_17 ?_
      refine r_iconst (v := -1) (by decide) dc_14_38_18 ?_
      refine r_bipush (v := nI 9) (by decide) dc_14_38_19 ?_
      refine q_calls (as := [.int n, .int ((-1)), .int (nI 9)]) (rest := []) (v := .int (sp_in n ((-1)) (nI 9))) iv_13_s180 na_0_187 rfl (show (0 : Nat) ≤ 8 by decide) dc_14_38_21 (c_in _ n ((-1)) (nI 9)) ?_
      refine r_ifne (t := 29) (by decide) dc_14_38_24 (fun c_24 => ?_) (fun c_24 => ?_)
      · skip
        exact absurd (⟨sp_is_ne c_5, sp_in_ne c_14, sp_in_ne c_24⟩) hno
      · skip
        refine r_iconst (v := nI 0) (by decide) dc_14_38_27 ?_
        exact r_zret rfl (by decide) dc_14_38_28 (rfl)
/-- the first place below n at which f has v -/
def sp_at (f : Nat → Int32) (v : Int32) : Nat → Int32
  | 0 => -1
  | n + 1 => if sp_at f v n = -1 then (if f n = v then nI n else -1) else sp_at f v n
theorem sp_at_no {f : Nat → Int32} {v : Int32} : ∀ {n : Nat}, (∀ i, i < n → ¬ f i = v) → sp_at f v n = -1
  | 0, _ => rfl
  | n + 1, h => by
    unfold sp_at
    rw [sp_at_no (fun i hi => h i (by omega)), if_pos rfl, if_neg (h n (by omega))]
theorem sp_at_yes {f : Nat → Int32} {v : Int32} {i : Nat} (hi : ∀ j, j < i → ¬ f j = v) (h : f i = v) (hb : i < 2 ^ 31) : ∀ {n : Nat}, i < n → sp_at f v n = nI i
  | n + 1, h2 => by
    unfold sp_at
    by_cases q : i = n
    · subst q
      rw [sp_at_no hi, if_pos rfl, if_pos h]
    · rw [sp_at_yes hi h hb (by omega), if_neg (by intro z; have := congrArg Int32.toInt z; rw [nI_toInt hb] at this; have e : Int32.toInt (-1) = -1 := rfl; omega)]
set_option maxHeartbeats 4000000 in
theorem c_wishAt (M : mH) (hM : 157 ≤ M.1) (io : Nat → Int32) (sg : Nat → Nat → Int32) (s : Nat) (h : Int32) (hs : s < 16) (wm : Nat) (hwm : sg 59 s = nI wm) (hw4 : wm ≤ 4) : mm_Ev 1 224 [.ref 100, .int (nI s), .int h] (rf_mk M io sg) ((some (.int (sp_at (fun j => sg 60 (4 * s + j)) h wm)), rf_mk M io sg)) := by
  refine r_ev (by decide +kernel) (show (3 : Nat) ≤ mm_nL 224 by decide +kernel) ?_
  show mm_Ru 0 (13, 4, false, prog_14_method_40_code, some .int) 0 [(0, .ref 100), (1, .int (nI s)), (2, .int h)] [] (rf_mk M io sg) (fun z => z = ((some (.int (sp_at (fun j => sg 60 (4 * s + j)) h wm)), rf_mk M io sg)))
  refine r_iconst (v := nI 0) (by decide) dc_14_40_0 ?_
  refine r_istore_n (ls' := [(3, .int (nI 0)), (0, .ref 100), (1, .int (nI s)), (2, .int h)]) (by decide) rfl dc_14_40_1 ?_
  refine mm_cnt (P := fun m => (∀ j, j < m → ¬ sg 60 (4 * s + j) = h) → mm_Ru 0 (13, 4, false, prog_14_method_40_code, some .int) 2 [(3, .int (nI m)), (0, .ref 100), (1, .int (nI s)), (2, .int h)] [] (rf_mk M io sg) (fun z => z = ((some (.int (sp_at (fun j => sg 60 (4 * s + j)) h wm)), rf_mk M io sg)))) wm ?_ ?_ 0 (by omega) (fun j hj => absurd hj (Nat.not_lt_zero j))
  · intro  hi_m
    show mm_Ru 0 (13, 4, false, prog_14_method_40_code, some .int) 2 [(3, .int (nI wm)), (0, .ref 100), (1, .int (nI s)), (2, .int h)] [] (rf_mk M io sg) (fun z => z = ((some (.int (sp_at (fun j => sg 60 (4 * s + j)) h wm)), rf_mk M io sg)))
    refine r_iload_n rfl dc_14_40_2 ?_
    refine r_aload_n rfl dc_14_40_3 ?_
    refine q_get (v := .ref 141) rx_132 hM rfl dc_14_40_4 ?_
    refine r_iload_n rfl dc_14_40_7 ?_
    refine q_ild (e := s) (v := nI wm) (by decide) (by decide) hM rfl (show s < 16 by omega) (by omega) (hwm) dc_14_40_8 ?_
    refine r_ncge (t := 34) (by omega) (by omega) (by decide) dc_14_40_9 (fun c_9 => ?_) (fun c_9 => ?_)
    · skip
      refine r_iconst (v := -1) (by decide) dc_14_40_34 ?_
      refine r_iret rfl dc_14_40_35 ?_
      rw [sp_at_no hi_m]
    · omega
  · intro m h_m ih_m  hi_m
    show mm_Ru 0 (13, 4, false, prog_14_method_40_code, some .int) 2 [(3, .int (nI m)), (0, .ref 100), (1, .int (nI s)), (2, .int h)] [] (rf_mk M io sg) (fun z => z = ((some (.int (sp_at (fun j => sg 60 (4 * s + j)) h wm)), rf_mk M io sg)))
    refine r_iload_n rfl dc_14_40_2 ?_
    refine r_aload_n rfl dc_14_40_3 ?_
    refine q_get (v := .ref 141) rx_132 hM rfl dc_14_40_4 ?_
    refine r_iload_n rfl dc_14_40_7 ?_
    refine q_ild (e := s) (v := nI wm) (by decide) (by decide) hM rfl (show s < 16 by omega) (by omega) (hwm) dc_14_40_8 ?_
    refine r_ncge (t := 34) (by omega) (by omega) (by decide) dc_14_40_9 (fun c_9 => ?_) (fun c_9 => ?_)
    · omega
    · skip
      refine r_aload_n rfl dc_14_40_12 ?_
      refine q_get (v := .ref 142) rx_135 hM rfl dc_14_40_13 ?_
      refine r_iconst (v := nI 4) (by decide) dc_14_40_16 ?_
      refine r_iload_n rfl dc_14_40_17 ?_
      refine r_imul (v := nI (4 * s)) (pk_mul _ _) dc_14_40_18 ?_
      refine r_iload_n rfl dc_14_40_19 ?_
      refine r_iadd (v := nI (4 * s + m)) (nI_add _ _) dc_14_40_20 ?_
      refine q_ild (e := 4 * s + m) (v := sg 60 (4 * s + m)) (by decide) (by decide) hM rfl (show 4 * s + m < 64 by omega) (by omega) (rfl) dc_14_40_21 ?_
      refine r_iload_n rfl dc_14_40_22 ?_
      refine r_icne (t := 28) (by decide) dc_14_40_23 (fun c_23 => ?_) (fun c_23 => ?_)
      · skip
        refine r_iinc (x := nI m) (v := nI (m + 1)) (ls' := [(3, .int (nI (m + 1))), (0, .ref 100), (1, .int (nI s)), (2, .int h)]) rfl (nI_1 _) (by decide) rfl dc_14_40_28 ?_
        refine r_goto (t := 2) (by decide) dc_14_40_31 ?_
        exact ih_m (fun j hj => if q : j = m then q ▸ c_23 else hi_m j (by omega))
      · skip
        refine r_iload_n rfl dc_14_40_26 ?_
        refine r_iret rfl dc_14_40_27 ?_
        rw [sp_at_yes hi_m c_23 (by omega) h_m]
def gd_wish (io : Nat → Int32) (sg : Nat → Nat → Int32) (s : Nat) (wm : Nat) (h : Int32) : Prop := ¬ sg 51 s = h ∧ sp_at (fun j => sg 60 (4 * s + j)) h wm = -1 ∧ ¬ wm = 4 ∧ sg 56 s = 0
set_option maxHeartbeats 4000000 in
theorem c_wish_ok (M : mH) (hM : 157 ≤ M.1) (io : Nat → Int32) (sg : Nat → Nat → Int32) (ns : Nat) (h5 : io 5 = nI ns) (hns : ns ≤ 16) (nh : Nat) (h3 : io 3 = nI nh) (hnh : nh ≤ 8) (s h : Nat) (hs : s < ns) (hh : h < nh) (wm : Nat) (hwm : sg 59 s = nI wm) (hw4 : wm ≤ 4) (hg : gd_wish io sg s wm (nI h)) : mm_Ev 2 223 [.ref 100, .int (nI s), .int (nI h)] (rf_mk M io sg) ((some (.int (nI 1)), rf_mk M io (va_up (va_up sg 60 (upd (sg 60) (4 * s + wm) (nI h))) 59 (upd (sg 59) s (nI (wm + 1)))))) := by
  refine r_ev (by decide +kernel) (show (3 : Nat) ≤ mm_nL 223 by decide +kernel) ?_
  show mm_Ru 1 (13, 3, false, prog_14_method_41_code, some .boolean) 0 [(0, .ref 100), (1, .int (nI s)), (2, .int (nI h))] [] (rf_mk M io sg) (fun z => z = ((some (.int (nI 1)), rf_mk M io (va_up (va_up sg 60 (upd (sg 60) (4 * s + wm) (nI h))) 59 (upd (sg 59) s (nI (wm + 1)))))))
  refine r_aload_n rfl dc_14_41_0 ?_
  refine r_iload_n rfl dc_14_41_1 ?_
  refine q_calli (as := [.int (nI s)]) (rest := []) (v := .int (nI 1)) (M1 := rf_mk M io sg) iv_13_v323 na_1_222 o_222 hM rfl (show (0 : Nat) ≤ 8 by decide) dc_14_41_2 (c_isStudentT M hM io sg ns h5 s (by omega) (by omega)) ?_
  refine r_ifeq (t := 55) (by decide) dc_14_41_5 (fun c_5 => ?_) (fun c_5 => ?_)
  · exact absurd c_5 (by decide)
  · skip
    refine r_aload_n rfl dc_14_41_8 ?_
    refine r_iload_n rfl dc_14_41_9 ?_
    refine q_calli (as := [.int (nI h)]) (rest := []) (v := .int (nI 1)) (M1 := rf_mk M io sg) iv_13_v205 na_1_196 o_196 hM rfl (show (0 : Nat) ≤ 8 by decide) dc_14_41_10 (c_isSchoolT M hM io sg nh h3 h (by omega) (by omega)) ?_
    refine r_ifeq (t := 55) (by decide) dc_14_41_13 (fun c_13 => ?_) (fun c_13 => ?_)
    · exact absurd c_13 (by decide)
    · skip
      refine r_aload_n rfl dc_14_41_16 ?_
      refine q_get (v := .ref 133) rx_108 hM rfl dc_14_41_17 ?_
      refine r_iload_n rfl dc_14_41_20 ?_
      refine q_ild (e := s) (v := sg 51 s) (by decide) (by decide) hM rfl (show s < 16 by omega) (by omega) (rfl) dc_14_41_21 ?_
      refine r_iload_n rfl dc_14_41_22 ?_
      refine r_iceq (t := 55) (by decide) dc_14_41_23 (fun c_23 => ?_) (fun c_23 => ?_)
      · exact absurd c_23 hg.1
      · skip
        refine r_aload_n rfl dc_14_41_26 ?_
        refine r_iload_n rfl dc_14_41_27 ?_
        refine r_iload_n rfl dc_14_41_28 ?_
        refine q_calli (as := [.int (nI s), .int (nI h)]) (rest := []) (v := .int (sp_at (fun j => sg 60 (4 * s + j)) (nI h) wm)) (M1 := rf_mk M io sg) iv_13_v326 na_1_224 o_224 hM rfl (show (0 : Nat) ≤ 8 by decide) dc_14_41_29 (c_wishAt M hM io sg s (nI h) (by omega) wm hwm hw4) ?_
        refine r_iconst (v := -1) (by decide) dc_14_41_32 ?_
        refine r_icne (t := 55) (by decide) dc_14_41_33 (fun c_33 => ?_) (fun c_33 => ?_)
        · exact absurd hg.2.1 c_33
        · skip
          refine r_aload_n rfl dc_14_41_36 ?_
          refine q_get (v := .ref 141) rx_132 hM rfl dc_14_41_37 ?_
          refine r_iload_n rfl dc_14_41_40 ?_
          refine q_ild (e := s) (v := nI wm) (by decide) (by decide) hM rfl (show s < 16 by omega) (by omega) (hwm) dc_14_41_41 ?_
          refine r_iconst (v := nI 4) (by decide) dc_14_41_42 ?_
          refine r_nceq (t := 55) (by omega) (by omega) (by decide) dc_14_41_43 (fun c_43 => ?_) (fun c_43 => ?_)
          · exact absurd c_43 hg.2.2.1
          · skip
            refine r_aload_n rfl dc_14_41_46 ?_
            refine q_get (v := .ref 138) rx_123 hM rfl dc_14_41_47 ?_
            refine r_iload_n rfl dc_14_41_50 ?_
            refine q_ild (e := s) (v := sg 56 s) (by decide) (by decide) hM rfl (show s < 16 by omega) (by omega) (rfl) dc_14_41_51 ?_
            refine r_ifeq (t := 57) (by decide) dc_14_41_52 (fun c_52 => ?_) (fun c_52 => ?_)
            · skip
              refine r_aload_n rfl dc_14_41_57 ?_
              refine q_get (v := .ref 142) rx_135 hM rfl dc_14_41_58 ?_
              refine r_iconst (v := nI 4) (by decide) dc_14_41_61 ?_
              refine r_iload_n rfl dc_14_41_62 ?_
              refine r_imul (v := nI (4 * s)) (pk_mul _ _) dc_14_41_63 ?_
              refine r_aload_n rfl dc_14_41_64 ?_
              refine q_get (v := .ref 141) rx_132 hM rfl dc_14_41_65 ?_
              refine r_iload_n rfl dc_14_41_68 ?_
              refine q_ild (e := s) (v := nI wm) (by decide) (by decide) hM rfl (show s < 16 by omega) (by omega) (hwm) dc_14_41_69 ?_
              refine r_iadd (v := nI (4 * s + wm)) (nI_add _ _) dc_14_41_70 ?_
              refine r_iload_n rfl dc_14_41_71 ?_
              refine q_ist (e := 4 * s + wm) (k := 60) (by decide) (by decide) hM rfl rfl (show 4 * s + wm < 64 by omega) (by omega) dc_14_41_72 ?_
              refine r_aload_n rfl dc_14_41_73 ?_
              refine q_get (v := .ref 141) rx_132 hM rfl dc_14_41_74 ?_
              refine r_iload_n rfl dc_14_41_77 ?_
              refine r_aload_n rfl dc_14_41_78 ?_
              refine q_get (v := .ref 141) rx_132 hM rfl dc_14_41_79 ?_
              refine r_iload_n rfl dc_14_41_82 ?_
              refine q_ild (e := s) (v := nI wm) (by decide) (by decide) hM rfl (show s < 16 by omega) (by omega) (hwm) dc_14_41_83 ?_
              refine r_iconst (v := nI 1) (by decide) dc_14_41_84 ?_
              refine r_iadd (v := nI (wm + 1)) (nI_add _ _) dc_14_41_85 ?_
              refine q_ist (e := s) (k := 59) (by decide) (by decide) hM rfl rfl (show s < 16 by omega) (by omega) dc_14_41_86 ?_
              refine r_iconst (v := nI 1) (by decide) dc_14_41_87 ?_
              exact r_zret rfl (by decide) dc_14_41_88 (rfl)
            · exact absurd hg.2.2.2 c_52
set_option maxHeartbeats 4000000 in
theorem c_wish_n2 (M : mH) (hM : 157 ≤ M.1) (io : Nat → Int32) (sg : Nat → Nat → Int32) (ns : Nat) (h5 : io 5 = nI ns) (hns : ns ≤ 16) (nh : Nat) (h3 : io 3 = nI nh) (hnh : nh ≤ 8) (s h : Nat) (hs : s < ns) (hh : h < nh) (wm : Nat) (hwm : sg 59 s = nI wm) (hw4 : wm ≤ 4) (hno : ¬ gd_wish io sg s wm (nI h)) : mm_Ev 2 223 [.ref 100, .int (nI s), .int (nI h)] (rf_mk M io sg) ((some (.int (nI 0)), rf_mk M io sg)) := by
  refine r_ev (by decide +kernel) (show (3 : Nat) ≤ mm_nL 223 by decide +kernel) ?_
  show mm_Ru 1 (13, 3, false, prog_14_method_41_code, some .boolean) 0 [(0, .ref 100), (1, .int (nI s)), (2, .int (nI h))] [] (rf_mk M io sg) (fun z => z = ((some (.int (nI 0)), rf_mk M io sg)))
  refine r_aload_n rfl dc_14_41_0 ?_
  refine r_iload_n rfl dc_14_41_1 ?_
  refine q_calli (as := [.int (nI s)]) (rest := []) (v := .int (nI 1)) (M1 := rf_mk M io sg) iv_13_v323 na_1_222 o_222 hM rfl (show (0 : Nat) ≤ 8 by decide) dc_14_41_2 (c_isStudentT M hM io sg ns h5 s (by omega) (by omega)) ?_
  refine r_ifeq (t := 55) (by decide) dc_14_41_5 (fun c_5 => ?_) (fun c_5 => ?_)
  · exact absurd c_5 (by decide)
  · skip
    refine r_aload_n rfl dc_14_41_8 ?_
    refine r_iload_n rfl dc_14_41_9 ?_
    refine q_calli (as := [.int (nI h)]) (rest := []) (v := .int (nI 1)) (M1 := rf_mk M io sg) iv_13_v205 na_1_196 o_196 hM rfl (show (0 : Nat) ≤ 8 by decide) dc_14_41_10 (c_isSchoolT M hM io sg nh h3 h (by omega) (by omega)) ?_
    refine r_ifeq (t := 55) (by decide) dc_14_41_13 (fun c_13 => ?_) (fun c_13 => ?_)
    · exact absurd c_13 (by decide)
    · skip
      refine r_aload_n rfl dc_14_41_16 ?_
      refine q_get (v := .ref 133) rx_108 hM rfl dc_14_41_17 ?_
      refine r_iload_n rfl dc_14_41_20 ?_
      refine q_ild (e := s) (v := sg 51 s) (by decide) (by decide) hM rfl (show s < 16 by omega) (by omega) (rfl) dc_14_41_21 ?_
      refine r_iload_n rfl dc_14_41_22 ?_
      refine r_iceq (t := 55) (by decide) dc_14_41_23 (fun c_23 => ?_) (fun c_23 => ?_)
      · skip
        refine r_iconst (v := nI 0) (by decide) dc_14_41_55 ?_
        exact r_zret rfl (by decide) dc_14_41_56 (rfl)
      · skip
        refine r_aload_n rfl dc_14_41_26 ?_
        refine r_iload_n rfl dc_14_41_27 ?_
        refine r_iload_n rfl dc_14_41_28 ?_
        refine q_calli (as := [.int (nI s), .int (nI h)]) (rest := []) (v := .int (sp_at (fun j => sg 60 (4 * s + j)) (nI h) wm)) (M1 := rf_mk M io sg) iv_13_v326 na_1_224 o_224 hM rfl (show (0 : Nat) ≤ 8 by decide) dc_14_41_29 (c_wishAt M hM io sg s (nI h) (by omega) wm hwm hw4) ?_
        refine r_iconst (v := -1) (by decide) dc_14_41_32 ?_
        refine r_icne (t := 55) (by decide) dc_14_41_33 (fun c_33 => ?_) (fun c_33 => ?_)
        · skip
          refine r_iconst (v := nI 0) (by decide) dc_14_41_55 ?_
          exact r_zret rfl (by decide) dc_14_41_56 (rfl)
        · skip
          refine r_aload_n rfl dc_14_41_36 ?_
          refine q_get (v := .ref 141) rx_132 hM rfl dc_14_41_37 ?_
          refine r_iload_n rfl dc_14_41_40 ?_
          refine q_ild (e := s) (v := nI wm) (by decide) (by decide) hM rfl (show s < 16 by omega) (by omega) (hwm) dc_14_41_41 ?_
          refine r_iconst (v := nI 4) (by decide) dc_14_41_42 ?_
          refine r_nceq (t := 55) (by omega) (by omega) (by decide) dc_14_41_43 (fun c_43 => ?_) (fun c_43 => ?_)
          · skip
            refine r_iconst (v := nI 0) (by decide) dc_14_41_55 ?_
            exact r_zret rfl (by decide) dc_14_41_56 (rfl)
          · skip
            refine r_aload_n rfl dc_14_41_46 ?_
            refine q_get (v := .ref 138) rx_123 hM rfl dc_14_41_47 ?_
            refine r_iload_n rfl dc_14_41_50 ?_
            refine q_ild (e := s) (v := sg 56 s) (by decide) (by decide) hM rfl (show s < 16 by omega) (by omega) (rfl) dc_14_41_51 ?_
            refine r_ifeq (t := 57) (by decide) dc_14_41_52 (fun c_52 => ?_) (fun c_52 => ?_)
            · skip
              exact absurd (⟨c_23, c_33, c_43, c_52⟩) hno
            · skip
              refine r_iconst (v := nI 0) (by decide) dc_14_41_55 ?_
              exact r_zret rfl (by decide) dc_14_41_56 (rfl)
set_option maxHeartbeats 4000000 in
theorem c_wish_no (M : mH) (hM : 157 ≤ M.1) (io : Nat → Int32) (sg : Nat → Nat → Int32) (s h : Int32) (hno : ¬ ((0 ≤ s ∧ s < io 5) ∧ (0 ≤ h ∧ h < io 3))) : mm_Ev 2 223 [.ref 100, .int s, .int h] (rf_mk M io sg) ((some (.int (nI 0)), rf_mk M io sg)) := by
  refine r_ev (by decide +kernel) (show (3 : Nat) ≤ mm_nL 223 by decide +kernel) ?_
  show mm_Ru 1 (13, 3, false, prog_14_method_41_code, some .boolean) 0 [(0, .ref 100), (1, .int s), (2, .int h)] [] (rf_mk M io sg) (fun z => z = ((some (.int (nI 0)), rf_mk M io sg)))
  refine r_aload_n rfl dc_14_41_0 ?_
  refine r_iload_n rfl dc_14_41_1 ?_
  refine q_calli (as := [.int s]) (rest := []) (v := .int (sp_is s (io 5))) (M1 := rf_mk M io sg) iv_13_v323 na_1_222 o_222 hM rfl (show (0 : Nat) ≤ 8 by decide) dc_14_41_2 (c_isStudent M hM io sg s) ?_
  refine r_ifeq (t := 55) (by decide) dc_14_41_5 (fun c_5 => ?_) (fun c_5 => ?_)
  · skip
    refine r_iconst (v := nI 0) (by decide) dc_14_41_55 ?_
    exact r_zret rfl (by decide) dc_14_41_56 (rfl)
  · skip
    refine r_aload_n rfl dc_14_41_8 ?_
    refine r_iload_n rfl dc_14_41_9 ?_
    refine q_calli (as := [.int h]) (rest := []) (v := .int (sp_is h (io 3))) (M1 := rf_mk M io sg) iv_13_v205 na_1_196 o_196 hM rfl (show (0 : Nat) ≤ 8 by decide) dc_14_41_10 (c_isSchool M hM io sg h) ?_
    refine r_ifeq (t := 55) (by decide) dc_14_41_13 (fun c_13 => ?_) (fun c_13 => ?_)
    · skip
      refine r_iconst (v := nI 0) (by decide) dc_14_41_55 ?_
      exact r_zret rfl (by decide) dc_14_41_56 (rfl)
    · skip
      exact absurd (⟨sp_is_ne c_5, sp_is_ne c_13⟩) hno
set_option maxHeartbeats 4000000 in
theorem c_balance_ok (M : mH) (hM : 157 ≤ M.1) (io : Nat → Int32) (sg : Nat → Nat → Int32) (ns : Nat) (h5 : io 5 = nI ns) (hns : ns ≤ 16) (nx : Nat) (h4 : io 4 = nI nx) (hnx : nx ≤ 12) (x : Nat) (hx : x < nx) : mm_Ev 2 234 [.ref 100, .int (nI x)] (rf_mk M io sg) ((some (.int (sp_bal sg ns x)), rf_mk M io sg)) := by
  refine r_ev (by decide +kernel) (show (2 : Nat) ≤ mm_nL 234 by decide +kernel) ?_
  show mm_Ru 1 (13, 2, false, prog_14_method_50_code, some .int) 0 [(0, .ref 100), (1, .int (nI x))] [] (rf_mk M io sg) (fun z => z = ((some (.int (sp_bal sg ns x)), rf_mk M io sg)))
  refine r_aload_n rfl dc_14_50_0 ?_
  refine r_iload_n rfl dc_14_50_1 ?_
  refine q_calli (as := [.int (nI x)]) (rest := []) (v := .int (nI 1)) (M1 := rf_mk M io sg) iv_13_v296 na_1_212 o_212 hM rfl (show (0 : Nat) ≤ 8 by decide) dc_14_50_2 (c_isAgreementT M hM io sg nx h4 x (by omega) (by omega)) ?_
  refine r_ifeq (t := 16) (by decide) dc_14_50_5 (fun c_5 => ?_) (fun c_5 => ?_)
  · exact absurd c_5 (by decide)
  · skip
    refine r_aload_n rfl dc_14_50_8 ?_
    refine r_iload_n rfl dc_14_50_9 ?_
    refine q_calli (as := [.int (nI x)]) (rest := []) (v := .int (sp_bal sg ns x)) (M1 := rf_mk M io sg) iv_13_v341 na_1_231 o_231 hM rfl (show (0 : Nat) ≤ 8 by decide) dc_14_50_10 (c_balanceOf M hM io sg ns h5 hns x (by omega)) ?_
    refine r_goto (t := 17) (by decide) dc_14_50_13 ?_
    exact r_iret rfl dc_14_50_17 (rfl)
set_option maxHeartbeats 4000000 in
theorem c_balance_no (M : mH) (hM : 157 ≤ M.1) (io : Nat → Int32) (sg : Nat → Nat → Int32) (x : Int32) (hno : ¬ (0 ≤ x ∧ x < io 4)) : mm_Ev 2 234 [.ref 100, .int x] (rf_mk M io sg) ((some (.int (nI 0)), rf_mk M io sg)) := by
  refine r_ev (by decide +kernel) (show (2 : Nat) ≤ mm_nL 234 by decide +kernel) ?_
  show mm_Ru 1 (13, 2, false, prog_14_method_50_code, some .int) 0 [(0, .ref 100), (1, .int x)] [] (rf_mk M io sg) (fun z => z = ((some (.int (nI 0)), rf_mk M io sg)))
  refine r_aload_n rfl dc_14_50_0 ?_
  refine r_iload_n rfl dc_14_50_1 ?_
  refine q_calli (as := [.int x]) (rest := []) (v := .int (sp_is x (io 4))) (M1 := rf_mk M io sg) iv_13_v296 na_1_212 o_212 hM rfl (show (0 : Nat) ≤ 8 by decide) dc_14_50_2 (c_isAgreement M hM io sg x) ?_
  refine r_ifeq (t := 16) (by decide) dc_14_50_5 (fun c_5 => ?_) (fun c_5 => ?_)
  · skip
    refine r_iconst (v := nI 0) (by decide) dc_14_50_16 ?_
    exact r_iret rfl dc_14_50_17 (rfl)
  · skip
    exact absurd (sp_is_ne c_5) hno
theorem c_forgets_ (M : mH) (hM : 157 ≤ M.1) (io : Nat → Int32) (sg : Nat → Nat → Int32) (nf : Nat) (h7 : io 7 = nI nf) (hnf : nf ≤ 200) (s : Int32) : mm_Ev 1 245 [.ref 100, .int s] (rf_mk M io sg) (none, rf_mk M io (va_up sg 78 (sp_fo (sg 78) s nf))) := by
  have h := c_forgets M hM io sg nf h7 hnf s
  rw [show va_up sg 78 (sp_fo (sg 78) s 0) = sg from va_up_id sg 78] at h
  exact h
set_option maxHeartbeats 4000000 in
theorem c_out_ok (M : mH) (hM : 157 ≤ M.1) (io : Nat → Int32) (sg : Nat → Nat → Int32) (ns : Nat) (h5 : io 5 = nI ns) (hns : ns ≤ 16) (nf : Nat) (h7 : io 7 = nI nf) (hnf : nf ≤ 200) (s : Nat) (hs : s < ns) (hq : sg 56 s = nI 1 ∨ sg 56 s = 0) : mm_Ev 2 247 [.ref 100, .int (nI s)] (rf_mk M io sg) ((some (.int (nI 1)), rf_mk M io (va_up (va_up (va_up (va_up sg 56 (upd (sg 56) s (nI 2))) 57 (upd (sg 57) s (-1))) 58 (upd (sg 58) s (-1))) 78 (sp_fo (sg 78) (nI s) nf)))) := by
  refine r_ev (by decide +kernel) (show (2 : Nat) ≤ mm_nL 247 by decide +kernel) ?_
  show mm_Ru 1 (13, 2, false, prog_14_method_62_code, some .boolean) 0 [(0, .ref 100), (1, .int (nI s))] [] (rf_mk M io sg) (fun z => z = ((some (.int (nI 1)), rf_mk M io (va_up (va_up (va_up (va_up sg 56 (upd (sg 56) s (nI 2))) 57 (upd (sg 57) s (-1))) 58 (upd (sg 58) s (-1))) 78 (sp_fo (sg 78) (nI s) nf)))))
  refine r_aload_n rfl dc_14_62_0 ?_
  refine r_iload_n rfl dc_14_62_1 ?_
  refine q_calli (as := [.int (nI s)]) (rest := []) (v := .int (nI 1)) (M1 := rf_mk M io sg) iv_13_v323 na_1_222 o_222 hM rfl (show (0 : Nat) ≤ 8 by decide) dc_14_62_2 (c_isStudentT M hM io sg ns h5 s (by omega) (by omega)) ?_
  refine r_ifeq (t := 27) (by decide) dc_14_62_5 (fun c_5 => ?_) (fun c_5 => ?_)
  · exact absurd c_5 (by decide)
  · skip
    refine r_aload_n rfl dc_14_62_8 ?_
    refine q_get (v := .ref 138) rx_123 hM rfl dc_14_62_9 ?_
    refine r_iload_n rfl dc_14_62_12 ?_
    refine q_ild (e := s) (v := sg 56 s) (by decide) (by decide) hM rfl (show s < 16 by omega) (by omega) (rfl) dc_14_62_13 ?_
    refine r_iconst (v := nI 1) (by decide) dc_14_62_14 ?_
    refine r_iceq (t := 29) (by decide) dc_14_62_15 (fun c_15 => ?_) (fun c_15 => ?_)
    · skip
      refine r_aload_n rfl dc_14_62_29 ?_
      refine q_get (v := .ref 138) rx_123 hM rfl dc_14_62_30 ?_
      refine r_iload_n rfl dc_14_62_33 ?_
      refine r_iconst (v := nI 2) (by decide) dc_14_62_34 ?_
      refine q_ist (e := s) (k := 56) (by decide) (by decide) hM rfl rfl (show s < 16 by omega) (by omega) dc_14_62_35 ?_
      refine r_aload_n rfl dc_14_62_36 ?_
      refine q_get (v := .ref 139) rx_126 hM rfl dc_14_62_37 ?_
      refine r_iload_n rfl dc_14_62_40 ?_
      refine r_iconst (v := -1) (by decide) dc_14_62_41 ?_
      refine q_ist (e := s) (k := 57) (by decide) (by decide) hM rfl rfl (show s < 16 by omega) (by omega) dc_14_62_42 ?_
      refine r_aload_n rfl dc_14_62_43 ?_
      refine q_get (v := .ref 140) rx_129 hM rfl dc_14_62_44 ?_
      refine r_iload_n rfl dc_14_62_47 ?_
      refine r_iconst (v := -1) (by decide) dc_14_62_48 ?_
      refine q_ist (e := s) (k := 58) (by decide) (by decide) hM rfl rfl (show s < 16 by omega) (by omega) dc_14_62_49 ?_
      refine r_aload_n rfl dc_14_62_50 ?_
      refine r_iload_n rfl dc_14_62_51 ?_
      refine q_callv (as := [.int (nI s)]) (rest := []) (M1 := rf_mk M io (va_up (va_up (va_up (va_up sg 56 (upd (sg 56) s (nI 2))) 57 (upd ((va_up sg 56 (upd (sg 56) s (nI 2))) 57) s ((-1)))) 58 (upd ((va_up (va_up sg 56 (upd (sg 56) s (nI 2))) 57 (upd ((va_up sg 56 (upd (sg 56) s (nI 2))) 57) s ((-1)))) 58) s ((-1)))) 78 (sp_fo (sg 78) (nI s) nf))) iv_13_v381 na_1_245 o_245 hM rfl (show (0 : Nat) ≤ 8 by decide) dc_14_62_52 (c_forgets_ M hM _ _ nf h7 hnf (nI s)) ?_
      refine r_iconst (v := nI 1) (by decide) dc_14_62_55 ?_
      exact r_zret rfl (by decide) dc_14_62_56 (rfl)
    · skip
      refine r_aload_n rfl dc_14_62_18 ?_
      refine q_get (v := .ref 138) rx_123 hM rfl dc_14_62_19 ?_
      refine r_iload_n rfl dc_14_62_22 ?_
      refine q_ild (e := s) (v := sg 56 s) (by decide) (by decide) hM rfl (show s < 16 by omega) (by omega) (rfl) dc_14_62_23 ?_
      refine r_ifeq (t := 29) (by decide) dc_14_62_24 (fun c_24 => ?_) (fun c_24 => ?_)
      · skip
        refine r_aload_n rfl dc_14_62_29 ?_
        refine q_get (v := .ref 138) rx_123 hM rfl dc_14_62_30 ?_
        refine r_iload_n rfl dc_14_62_33 ?_
        refine r_iconst (v := nI 2) (by decide) dc_14_62_34 ?_
        refine q_ist (e := s) (k := 56) (by decide) (by decide) hM rfl rfl (show s < 16 by omega) (by omega) dc_14_62_35 ?_
        refine r_aload_n rfl dc_14_62_36 ?_
        refine q_get (v := .ref 139) rx_126 hM rfl dc_14_62_37 ?_
        refine r_iload_n rfl dc_14_62_40 ?_
        refine r_iconst (v := -1) (by decide) dc_14_62_41 ?_
        refine q_ist (e := s) (k := 57) (by decide) (by decide) hM rfl rfl (show s < 16 by omega) (by omega) dc_14_62_42 ?_
        refine r_aload_n rfl dc_14_62_43 ?_
        refine q_get (v := .ref 140) rx_129 hM rfl dc_14_62_44 ?_
        refine r_iload_n rfl dc_14_62_47 ?_
        refine r_iconst (v := -1) (by decide) dc_14_62_48 ?_
        refine q_ist (e := s) (k := 58) (by decide) (by decide) hM rfl rfl (show s < 16 by omega) (by omega) dc_14_62_49 ?_
        refine r_aload_n rfl dc_14_62_50 ?_
        refine r_iload_n rfl dc_14_62_51 ?_
        refine q_callv (as := [.int (nI s)]) (rest := []) (M1 := rf_mk M io (va_up (va_up (va_up (va_up sg 56 (upd (sg 56) s (nI 2))) 57 (upd ((va_up sg 56 (upd (sg 56) s (nI 2))) 57) s ((-1)))) 58 (upd ((va_up (va_up sg 56 (upd (sg 56) s (nI 2))) 57 (upd ((va_up sg 56 (upd (sg 56) s (nI 2))) 57) s ((-1)))) 58) s ((-1)))) 78 (sp_fo (sg 78) (nI s) nf))) iv_13_v381 na_1_245 o_245 hM rfl (show (0 : Nat) ≤ 8 by decide) dc_14_62_52 (c_forgets_ M hM _ _ nf h7 hnf (nI s)) ?_
        refine r_iconst (v := nI 1) (by decide) dc_14_62_55 ?_
        exact r_zret rfl (by decide) dc_14_62_56 (rfl)
      · exact absurd (hq.resolve_left c_15) c_24
set_option maxHeartbeats 4000000 in
theorem c_out_n2 (M : mH) (hM : 157 ≤ M.1) (io : Nat → Int32) (sg : Nat → Nat → Int32) (ns : Nat) (h5 : io 5 = nI ns) (hns : ns ≤ 16) (s : Nat) (hs : s < ns) (hno : ¬ (sg 56 s = nI 1 ∨ sg 56 s = 0)) : mm_Ev 2 247 [.ref 100, .int (nI s)] (rf_mk M io sg) ((some (.int (nI 0)), rf_mk M io sg)) := by
  refine r_ev (by decide +kernel) (show (2 : Nat) ≤ mm_nL 247 by decide +kernel) ?_
  show mm_Ru 1 (13, 2, false, prog_14_method_62_code, some .boolean) 0 [(0, .ref 100), (1, .int (nI s))] [] (rf_mk M io sg) (fun z => z = ((some (.int (nI 0)), rf_mk M io sg)))
  refine r_aload_n rfl dc_14_62_0 ?_
  refine r_iload_n rfl dc_14_62_1 ?_
  refine q_calli (as := [.int (nI s)]) (rest := []) (v := .int (nI 1)) (M1 := rf_mk M io sg) iv_13_v323 na_1_222 o_222 hM rfl (show (0 : Nat) ≤ 8 by decide) dc_14_62_2 (c_isStudentT M hM io sg ns h5 s (by omega) (by omega)) ?_
  refine r_ifeq (t := 27) (by decide) dc_14_62_5 (fun c_5 => ?_) (fun c_5 => ?_)
  · exact absurd c_5 (by decide)
  · skip
    refine r_aload_n rfl dc_14_62_8 ?_
    refine q_get (v := .ref 138) rx_123 hM rfl dc_14_62_9 ?_
    refine r_iload_n rfl dc_14_62_12 ?_
    refine q_ild (e := s) (v := sg 56 s) (by decide) (by decide) hM rfl (show s < 16 by omega) (by omega) (rfl) dc_14_62_13 ?_
    refine r_iconst (v := nI 1) (by decide) dc_14_62_14 ?_
    refine r_iceq (t := 29) (by decide) dc_14_62_15 (fun c_15 => ?_) (fun c_15 => ?_)
    · skip
      exact absurd (Or.inl c_15) hno
    · skip
      refine r_aload_n rfl dc_14_62_18 ?_
      refine q_get (v := .ref 138) rx_123 hM rfl dc_14_62_19 ?_
      refine r_iload_n rfl dc_14_62_22 ?_
      refine q_ild (e := s) (v := sg 56 s) (by decide) (by decide) hM rfl (show s < 16 by omega) (by omega) (rfl) dc_14_62_23 ?_
      refine r_ifeq (t := 29) (by decide) dc_14_62_24 (fun c_24 => ?_) (fun c_24 => ?_)
      · skip
        exact absurd (Or.inr c_24) hno
      · skip
        refine r_iconst (v := nI 0) (by decide) dc_14_62_27 ?_
        exact r_zret rfl (by decide) dc_14_62_28 (rfl)
set_option maxHeartbeats 4000000 in
theorem c_out_no (M : mH) (hM : 157 ≤ M.1) (io : Nat → Int32) (sg : Nat → Nat → Int32) (s : Int32) (hno : ¬ (0 ≤ s ∧ s < io 5)) : mm_Ev 2 247 [.ref 100, .int s] (rf_mk M io sg) ((some (.int (nI 0)), rf_mk M io sg)) := by
  refine r_ev (by decide +kernel) (show (2 : Nat) ≤ mm_nL 247 by decide +kernel) ?_
  show mm_Ru 1 (13, 2, false, prog_14_method_62_code, some .boolean) 0 [(0, .ref 100), (1, .int s)] [] (rf_mk M io sg) (fun z => z = ((some (.int (nI 0)), rf_mk M io sg)))
  refine r_aload_n rfl dc_14_62_0 ?_
  refine r_iload_n rfl dc_14_62_1 ?_
  refine q_calli (as := [.int s]) (rest := []) (v := .int (sp_is s (io 5))) (M1 := rf_mk M io sg) iv_13_v323 na_1_222 o_222 hM rfl (show (0 : Nat) ≤ 8 by decide) dc_14_62_2 (c_isStudent M hM io sg s) ?_
  refine r_ifeq (t := 27) (by decide) dc_14_62_5 (fun c_5 => ?_) (fun c_5 => ?_)
  · skip
    refine r_iconst (v := nI 0) (by decide) dc_14_62_27 ?_
    exact r_zret rfl (by decide) dc_14_62_28 (rfl)
  · skip
    exact absurd (sp_is_ne c_5) hno
