/-! the reference: terms, may -/
theorem dc_14_33_0 : decode prog_14_method_33_code 0 = .ok (.iconst 0, 1) := by decide +kernel
theorem dc_14_33_1 : decode prog_14_method_33_code 1 = .ok (.istore 4, 2) := by decide +kernel
theorem dc_14_33_3 : decode prog_14_method_33_code 3 = .ok (.iload 4, 2) := by decide +kernel
theorem dc_14_33_5 : decode prog_14_method_33_code 5 = .ok (.iconst 4, 1) := by decide +kernel
theorem dc_14_33_6 : decode prog_14_method_33_code 6 = .ok (.if_icmp .ge 24, 3) := by decide +kernel
theorem dc_14_33_9 : decode prog_14_method_33_code 9 = .ok (.aload_n 0, 1) := by decide +kernel
theorem dc_14_33_10 : decode prog_14_method_33_code 10 = .ok (.getfield 105, 3) := by decide +kernel
theorem dc_14_33_13 : decode prog_14_method_33_code 13 = .ok (.iload 4, 2) := by decide +kernel
theorem dc_14_33_15 : decode prog_14_method_33_code 15 = .ok (.iconst 0, 1) := by decide +kernel
theorem dc_14_33_16 : decode prog_14_method_33_code 16 = .ok (.iastore, 1) := by decide +kernel
theorem dc_14_33_17 : decode prog_14_method_33_code 17 = .ok (.aload_n 0, 1) := by decide +kernel
theorem dc_14_33_18 : decode prog_14_method_33_code 18 = .ok (.iload 4, 2) := by decide +kernel
theorem dc_14_33_20 : decode prog_14_method_33_code 20 = .ok (.iconst 0, 1) := by decide +kernel
theorem dc_14_33_21 : decode prog_14_method_33_code 21 = .ok (.invokevirtual 306, 3) := by decide +kernel
theorem dc_14_33_24 : decode prog_14_method_33_code 24 = .ok (.iinc 4 1, 3) := by decide +kernel
theorem dc_14_33_27 : decode prog_14_method_33_code 27 = .ok (.goto (-24), 3) := by decide +kernel
theorem dc_14_33_30 : decode prog_14_method_33_code 30 = .ok (.aload_n 0, 1) := by decide +kernel
theorem dc_14_33_31 : decode prog_14_method_33_code 31 = .ok (.iload_n 1, 1) := by decide +kernel
theorem dc_14_33_32 : decode prog_14_method_33_code 32 = .ok (.invokevirtual 310, 3) := by decide +kernel
theorem dc_14_33_35 : decode prog_14_method_33_code 35 = .ok (.aload_n 0, 1) := by decide +kernel
theorem dc_14_33_36 : decode prog_14_method_33_code 36 = .ok (.iload_n 2, 1) := by decide +kernel
theorem dc_14_33_37 : decode prog_14_method_33_code 37 = .ok (.invokevirtual 310, 3) := by decide +kernel
theorem dc_14_33_40 : decode prog_14_method_33_code 40 = .ok (.iconst 0, 1) := by decide +kernel
theorem dc_14_33_41 : decode prog_14_method_33_code 41 = .ok (.istore 4, 2) := by decide +kernel
theorem dc_14_33_43 : decode prog_14_method_33_code 43 = .ok (.iload 4, 2) := by decide +kernel
theorem dc_14_33_45 : decode prog_14_method_33_code 45 = .ok (.aload_n 0, 1) := by decide +kernel
theorem dc_14_33_46 : decode prog_14_method_33_code 46 = .ok (.getfield 105, 3) := by decide +kernel
theorem dc_14_33_49 : decode prog_14_method_33_code 49 = .ok (.iconst 0, 1) := by decide +kernel
theorem dc_14_33_50 : decode prog_14_method_33_code 50 = .ok (.iaload, 1) := by decide +kernel
theorem dc_14_33_51 : decode prog_14_method_33_code 51 = .ok (.if_icmp .ge 151, 3) := by decide +kernel
theorem dc_14_33_54 : decode prog_14_method_33_code 54 = .ok (.iconst 0, 1) := by decide +kernel
theorem dc_14_33_55 : decode prog_14_method_33_code 55 = .ok (.istore 5, 2) := by decide +kernel
theorem dc_14_33_57 : decode prog_14_method_33_code 57 = .ok (.iload 5, 2) := by decide +kernel
theorem dc_14_33_59 : decode prog_14_method_33_code 59 = .ok (.aload_n 0, 1) := by decide +kernel
theorem dc_14_33_60 : decode prog_14_method_33_code 60 = .ok (.getfield 105, 3) := by decide +kernel
theorem dc_14_33_63 : decode prog_14_method_33_code 63 = .ok (.iconst 1, 1) := by decide +kernel
theorem dc_14_33_64 : decode prog_14_method_33_code 64 = .ok (.iaload, 1) := by decide +kernel
theorem dc_14_33_65 : decode prog_14_method_33_code 65 = .ok (.if_icmp .ge 131, 3) := by decide +kernel
theorem dc_14_33_68 : decode prog_14_method_33_code 68 = .ok (.iconst 0, 1) := by decide +kernel
theorem dc_14_33_69 : decode prog_14_method_33_code 69 = .ok (.istore 6, 2) := by decide +kernel
theorem dc_14_33_71 : decode prog_14_method_33_code 71 = .ok (.iload 6, 2) := by decide +kernel
theorem dc_14_33_73 : decode prog_14_method_33_code 73 = .ok (.aload_n 0, 1) := by decide +kernel
theorem dc_14_33_74 : decode prog_14_method_33_code 74 = .ok (.getfield 105, 3) := by decide +kernel
theorem dc_14_33_77 : decode prog_14_method_33_code 77 = .ok (.iconst 2, 1) := by decide +kernel
theorem dc_14_33_78 : decode prog_14_method_33_code 78 = .ok (.iaload, 1) := by decide +kernel
theorem dc_14_33_79 : decode prog_14_method_33_code 79 = .ok (.if_icmp .ge 111, 3) := by decide +kernel
theorem dc_14_33_82 : decode prog_14_method_33_code 82 = .ok (.iconst 0, 1) := by decide +kernel
theorem dc_14_33_83 : decode prog_14_method_33_code 83 = .ok (.istore 7, 2) := by decide +kernel
theorem dc_14_33_85 : decode prog_14_method_33_code 85 = .ok (.iload 7, 2) := by decide +kernel
theorem dc_14_33_87 : decode prog_14_method_33_code 87 = .ok (.aload_n 0, 1) := by decide +kernel
theorem dc_14_33_88 : decode prog_14_method_33_code 88 = .ok (.getfield 105, 3) := by decide +kernel
theorem dc_14_33_91 : decode prog_14_method_33_code 91 = .ok (.iconst 3, 1) := by decide +kernel
theorem dc_14_33_92 : decode prog_14_method_33_code 92 = .ok (.iaload, 1) := by decide +kernel
theorem dc_14_33_93 : decode prog_14_method_33_code 93 = .ok (.if_icmp .ge 91, 3) := by decide +kernel
theorem dc_14_33_96 : decode prog_14_method_33_code 96 = .ok (.aload_n 0, 1) := by decide +kernel
theorem dc_14_33_97 : decode prog_14_method_33_code 97 = .ok (.getfield 102, 3) := by decide +kernel
theorem dc_14_33_100 : decode prog_14_method_33_code 100 = .ok (.iload 4, 2) := by decide +kernel
theorem dc_14_33_102 : decode prog_14_method_33_code 102 = .ok (.iaload, 1) := by decide +kernel
theorem dc_14_33_103 : decode prog_14_method_33_code 103 = .ok (.istore 8, 2) := by decide +kernel
theorem dc_14_33_105 : decode prog_14_method_33_code 105 = .ok (.aload_n 0, 1) := by decide +kernel
theorem dc_14_33_106 : decode prog_14_method_33_code 106 = .ok (.getfield 102, 3) := by decide +kernel
theorem dc_14_33_109 : decode prog_14_method_33_code 109 = .ok (.bipush 100, 2) := by decide +kernel
theorem dc_14_33_111 : decode prog_14_method_33_code 111 = .ok (.iload 5, 2) := by decide +kernel
theorem dc_14_33_113 : decode prog_14_method_33_code 113 = .ok (.iadd, 1) := by decide +kernel
theorem dc_14_33_114 : decode prog_14_method_33_code 114 = .ok (.iaload, 1) := by decide +kernel
theorem dc_14_33_115 : decode prog_14_method_33_code 115 = .ok (.istore 9, 2) := by decide +kernel
theorem dc_14_33_117 : decode prog_14_method_33_code 117 = .ok (.aload_n 0, 1) := by decide +kernel
theorem dc_14_33_118 : decode prog_14_method_33_code 118 = .ok (.getfield 102, 3) := by decide +kernel
theorem dc_14_33_121 : decode prog_14_method_33_code 121 = .ok (.sipush 200, 3) := by decide +kernel
theorem dc_14_33_124 : decode prog_14_method_33_code 124 = .ok (.iload 6, 2) := by decide +kernel
theorem dc_14_33_126 : decode prog_14_method_33_code 126 = .ok (.iadd, 1) := by decide +kernel
theorem dc_14_33_127 : decode prog_14_method_33_code 127 = .ok (.iaload, 1) := by decide +kernel
theorem dc_14_33_128 : decode prog_14_method_33_code 128 = .ok (.istore 10, 2) := by decide +kernel
theorem dc_14_33_130 : decode prog_14_method_33_code 130 = .ok (.aload_n 0, 1) := by decide +kernel
theorem dc_14_33_131 : decode prog_14_method_33_code 131 = .ok (.getfield 102, 3) := by decide +kernel
theorem dc_14_33_134 : decode prog_14_method_33_code 134 = .ok (.sipush 300, 3) := by decide +kernel
theorem dc_14_33_137 : decode prog_14_method_33_code 137 = .ok (.iload 7, 2) := by decide +kernel
theorem dc_14_33_139 : decode prog_14_method_33_code 139 = .ok (.iadd, 1) := by decide +kernel
theorem dc_14_33_140 : decode prog_14_method_33_code 140 = .ok (.iaload, 1) := by decide +kernel
theorem dc_14_33_141 : decode prog_14_method_33_code 141 = .ok (.istore 11, 2) := by decide +kernel
theorem dc_14_33_143 : decode prog_14_method_33_code 143 = .ok (.aload_n 0, 1) := by decide +kernel
theorem dc_14_33_144 : decode prog_14_method_33_code 144 = .ok (.iload_n 1, 1) := by decide +kernel
theorem dc_14_33_145 : decode prog_14_method_33_code 145 = .ok (.iload 8, 2) := by decide +kernel
theorem dc_14_33_147 : decode prog_14_method_33_code 147 = .ok (.iload 9, 2) := by decide +kernel
theorem dc_14_33_149 : decode prog_14_method_33_code 149 = .ok (.iload 10, 2) := by decide +kernel
theorem dc_14_33_151 : decode prog_14_method_33_code 151 = .ok (.iload 11, 2) := by decide +kernel
theorem dc_14_33_153 : decode prog_14_method_33_code 153 = .ok (.invokevirtual 299, 3) := by decide +kernel
theorem dc_14_33_156 : decode prog_14_method_33_code 156 = .ok (.ifCond .eq 22, 3) := by decide +kernel
theorem dc_14_33_159 : decode prog_14_method_33_code 159 = .ok (.aload_n 0, 1) := by decide +kernel
theorem dc_14_33_160 : decode prog_14_method_33_code 160 = .ok (.iload_n 2, 1) := by decide +kernel
theorem dc_14_33_161 : decode prog_14_method_33_code 161 = .ok (.iload 8, 2) := by decide +kernel
theorem dc_14_33_163 : decode prog_14_method_33_code 163 = .ok (.iload 9, 2) := by decide +kernel
theorem dc_14_33_165 : decode prog_14_method_33_code 165 = .ok (.iload 10, 2) := by decide +kernel
theorem dc_14_33_167 : decode prog_14_method_33_code 167 = .ok (.iload 11, 2) := by decide +kernel
theorem dc_14_33_169 : decode prog_14_method_33_code 169 = .ok (.invokevirtual 299, 3) := by decide +kernel
theorem dc_14_33_172 : decode prog_14_method_33_code 172 = .ok (.iload_n 3, 1) := by decide +kernel
theorem dc_14_33_173 : decode prog_14_method_33_code 173 = .ok (.if_icmp .ne 5, 3) := by decide +kernel
theorem dc_14_33_176 : decode prog_14_method_33_code 176 = .ok (.iconst 1, 1) := by decide +kernel
theorem dc_14_33_177 : decode prog_14_method_33_code 177 = .ok (.ireturn, 1) := by decide +kernel
theorem dc_14_33_178 : decode prog_14_method_33_code 178 = .ok (.iinc 7 1, 3) := by decide +kernel
theorem dc_14_33_181 : decode prog_14_method_33_code 181 = .ok (.goto (-96), 3) := by decide +kernel
theorem dc_14_33_184 : decode prog_14_method_33_code 184 = .ok (.iinc 6 1, 3) := by decide +kernel
theorem dc_14_33_187 : decode prog_14_method_33_code 187 = .ok (.goto (-116), 3) := by decide +kernel
theorem dc_14_33_190 : decode prog_14_method_33_code 190 = .ok (.iinc 5 1, 3) := by decide +kernel
theorem dc_14_33_193 : decode prog_14_method_33_code 193 = .ok (.goto (-136), 3) := by decide +kernel
theorem dc_14_33_196 : decode prog_14_method_33_code 196 = .ok (.iinc 4 1, 3) := by decide +kernel
theorem dc_14_33_199 : decode prog_14_method_33_code 199 = .ok (.goto (-156), 3) := by decide +kernel
theorem dc_14_33_202 : decode prog_14_method_33_code 202 = .ok (.iconst 0, 1) := by decide +kernel
theorem dc_14_33_203 : decode prog_14_method_33_code 203 = .ok (.ireturn, 1) := by decide +kernel
theorem dc_14_34_0 : decode prog_14_method_34_code 0 = .ok (.aload_n 0, 1) := by decide +kernel
theorem dc_14_34_1 : decode prog_14_method_34_code 1 = .ok (.getfield 63, 3) := by decide +kernel
theorem dc_14_34_4 : decode prog_14_method_34_code 4 = .ok (.iload_n 1, 1) := by decide +kernel
theorem dc_14_34_5 : decode prog_14_method_34_code 5 = .ok (.iaload, 1) := by decide +kernel
theorem dc_14_34_6 : decode prog_14_method_34_code 6 = .ok (.aload_n 0, 1) := by decide +kernel
theorem dc_14_34_7 : decode prog_14_method_34_code 7 = .ok (.getfield 63, 3) := by decide +kernel
theorem dc_14_34_10 : decode prog_14_method_34_code 10 = .ok (.iload_n 2, 1) := by decide +kernel
theorem dc_14_34_11 : decode prog_14_method_34_code 11 = .ok (.iaload, 1) := by decide +kernel
theorem dc_14_34_12 : decode prog_14_method_34_code 12 = .ok (.if_icmp .ne 18, 3) := by decide +kernel
theorem dc_14_34_15 : decode prog_14_method_34_code 15 = .ok (.aload_n 0, 1) := by decide +kernel
theorem dc_14_34_16 : decode prog_14_method_34_code 16 = .ok (.getfield 66, 3) := by decide +kernel
theorem dc_14_34_19 : decode prog_14_method_34_code 19 = .ok (.iload_n 1, 1) := by decide +kernel
theorem dc_14_34_20 : decode prog_14_method_34_code 20 = .ok (.iaload, 1) := by decide +kernel
theorem dc_14_34_21 : decode prog_14_method_34_code 21 = .ok (.aload_n 0, 1) := by decide +kernel
theorem dc_14_34_22 : decode prog_14_method_34_code 22 = .ok (.getfield 66, 3) := by decide +kernel
theorem dc_14_34_25 : decode prog_14_method_34_code 25 = .ok (.iload_n 2, 1) := by decide +kernel
theorem dc_14_34_26 : decode prog_14_method_34_code 26 = .ok (.iaload, 1) := by decide +kernel
theorem dc_14_34_27 : decode prog_14_method_34_code 27 = .ok (.if_icmp .eq 33, 3) := by decide +kernel
theorem dc_14_34_30 : decode prog_14_method_34_code 30 = .ok (.aload_n 0, 1) := by decide +kernel
theorem dc_14_34_31 : decode prog_14_method_34_code 31 = .ok (.getfield 63, 3) := by decide +kernel
theorem dc_14_34_34 : decode prog_14_method_34_code 34 = .ok (.iload_n 1, 1) := by decide +kernel
theorem dc_14_34_35 : decode prog_14_method_34_code 35 = .ok (.iaload, 1) := by decide +kernel
theorem dc_14_34_36 : decode prog_14_method_34_code 36 = .ok (.aload_n 0, 1) := by decide +kernel
theorem dc_14_34_37 : decode prog_14_method_34_code 37 = .ok (.getfield 66, 3) := by decide +kernel
theorem dc_14_34_40 : decode prog_14_method_34_code 40 = .ok (.iload_n 2, 1) := by decide +kernel
theorem dc_14_34_41 : decode prog_14_method_34_code 41 = .ok (.iaload, 1) := by decide +kernel
theorem dc_14_34_42 : decode prog_14_method_34_code 42 = .ok (.if_icmp .ne 22, 3) := by decide +kernel
theorem dc_14_34_45 : decode prog_14_method_34_code 45 = .ok (.aload_n 0, 1) := by decide +kernel
theorem dc_14_34_46 : decode prog_14_method_34_code 46 = .ok (.getfield 66, 3) := by decide +kernel
theorem dc_14_34_49 : decode prog_14_method_34_code 49 = .ok (.iload_n 1, 1) := by decide +kernel
theorem dc_14_34_50 : decode prog_14_method_34_code 50 = .ok (.iaload, 1) := by decide +kernel
theorem dc_14_34_51 : decode prog_14_method_34_code 51 = .ok (.aload_n 0, 1) := by decide +kernel
theorem dc_14_34_52 : decode prog_14_method_34_code 52 = .ok (.getfield 63, 3) := by decide +kernel
theorem dc_14_34_55 : decode prog_14_method_34_code 55 = .ok (.iload_n 2, 1) := by decide +kernel
theorem dc_14_34_56 : decode prog_14_method_34_code 56 = .ok (.iaload, 1) := by decide +kernel
theorem dc_14_34_57 : decode prog_14_method_34_code 57 = .ok (.if_icmp .ne 7, 3) := by decide +kernel
theorem dc_14_34_60 : decode prog_14_method_34_code 60 = .ok (.iconst 1, 1) := by decide +kernel
theorem dc_14_34_61 : decode prog_14_method_34_code 61 = .ok (.goto 4, 3) := by decide +kernel
theorem dc_14_34_64 : decode prog_14_method_34_code 64 = .ok (.iconst 0, 1) := by decide +kernel
theorem dc_14_34_65 : decode prog_14_method_34_code 65 = .ok (.istore_n 3, 1) := by decide +kernel
theorem dc_14_34_66 : decode prog_14_method_34_code 66 = .ok (.iload_n 3, 1) := by decide +kernel
theorem dc_14_34_67 : decode prog_14_method_34_code 67 = .ok (.ifCond .eq 37, 3) := by decide +kernel
theorem dc_14_34_70 : decode prog_14_method_34_code 70 = .ok (.aload_n 0, 1) := by decide +kernel
theorem dc_14_34_71 : decode prog_14_method_34_code 71 = .ok (.getfield 78, 3) := by decide +kernel
theorem dc_14_34_74 : decode prog_14_method_34_code 74 = .ok (.iload_n 1, 1) := by decide +kernel
theorem dc_14_34_75 : decode prog_14_method_34_code 75 = .ok (.iaload, 1) := by decide +kernel
theorem dc_14_34_76 : decode prog_14_method_34_code 76 = .ok (.aload_n 0, 1) := by decide +kernel
theorem dc_14_34_77 : decode prog_14_method_34_code 77 = .ok (.getfield 81, 3) := by decide +kernel
theorem dc_14_34_80 : decode prog_14_method_34_code 80 = .ok (.iload_n 2, 1) := by decide +kernel
theorem dc_14_34_81 : decode prog_14_method_34_code 81 = .ok (.iaload, 1) := by decide +kernel
theorem dc_14_34_82 : decode prog_14_method_34_code 82 = .ok (.if_icmp .gt 22, 3) := by decide +kernel
theorem dc_14_34_85 : decode prog_14_method_34_code 85 = .ok (.aload_n 0, 1) := by decide +kernel
theorem dc_14_34_86 : decode prog_14_method_34_code 86 = .ok (.getfield 78, 3) := by decide +kernel
theorem dc_14_34_89 : decode prog_14_method_34_code 89 = .ok (.iload_n 2, 1) := by decide +kernel
theorem dc_14_34_90 : decode prog_14_method_34_code 90 = .ok (.iaload, 1) := by decide +kernel
theorem dc_14_34_91 : decode prog_14_method_34_code 91 = .ok (.aload_n 0, 1) := by decide +kernel
theorem dc_14_34_92 : decode prog_14_method_34_code 92 = .ok (.getfield 81, 3) := by decide +kernel
theorem dc_14_34_95 : decode prog_14_method_34_code 95 = .ok (.iload_n 1, 1) := by decide +kernel
theorem dc_14_34_96 : decode prog_14_method_34_code 96 = .ok (.iaload, 1) := by decide +kernel
theorem dc_14_34_97 : decode prog_14_method_34_code 97 = .ok (.if_icmp .gt 7, 3) := by decide +kernel
theorem dc_14_34_100 : decode prog_14_method_34_code 100 = .ok (.iconst 1, 1) := by decide +kernel
theorem dc_14_34_101 : decode prog_14_method_34_code 101 = .ok (.goto 4, 3) := by decide +kernel
theorem dc_14_34_104 : decode prog_14_method_34_code 104 = .ok (.iconst 0, 1) := by decide +kernel
theorem dc_14_34_105 : decode prog_14_method_34_code 105 = .ok (.ireturn, 1) := by decide +kernel
theorem dc_14_35_0 : decode prog_14_method_35_code 0 = .ok (.aload_n 0, 1) := by decide +kernel
theorem dc_14_35_1 : decode prog_14_method_35_code 1 = .ok (.iload_n 1, 1) := by decide +kernel
theorem dc_14_35_2 : decode prog_14_method_35_code 2 = .ok (.invokevirtual 296, 3) := by decide +kernel
theorem dc_14_35_5 : decode prog_14_method_35_code 5 = .ok (.ifCond .eq 11, 3) := by decide +kernel
theorem dc_14_35_8 : decode prog_14_method_35_code 8 = .ok (.aload_n 0, 1) := by decide +kernel
theorem dc_14_35_9 : decode prog_14_method_35_code 9 = .ok (.iload_n 2, 1) := by decide +kernel
theorem dc_14_35_10 : decode prog_14_method_35_code 10 = .ok (.invokevirtual 296, 3) := by decide +kernel
theorem dc_14_35_13 : decode prog_14_method_35_code 13 = .ok (.ifCond .ne 5, 3) := by decide +kernel
theorem dc_14_35_16 : decode prog_14_method_35_code 16 = .ok (.iconst (-1), 1) := by decide +kernel
theorem dc_14_35_17 : decode prog_14_method_35_code 17 = .ok (.ireturn, 1) := by decide +kernel
theorem dc_14_35_18 : decode prog_14_method_35_code 18 = .ok (.iload_n 3, 1) := by decide +kernel
theorem dc_14_35_19 : decode prog_14_method_35_code 19 = .ok (.tableswitch 82 0 2 #[25, 41, 57], 25) := by decide +kernel
theorem dc_14_35_44 : decode prog_14_method_35_code 44 = .ok (.aload_n 0, 1) := by decide +kernel
theorem dc_14_35_45 : decode prog_14_method_35_code 45 = .ok (.iload_n 1, 1) := by decide +kernel
theorem dc_14_35_46 : decode prog_14_method_35_code 46 = .ok (.iload_n 1, 1) := by decide +kernel
theorem dc_14_35_47 : decode prog_14_method_35_code 47 = .ok (.iconst 1, 1) := by decide +kernel
theorem dc_14_35_48 : decode prog_14_method_35_code 48 = .ok (.invokevirtual 313, 3) := by decide +kernel
theorem dc_14_35_51 : decode prog_14_method_35_code 51 = .ok (.ifCond .eq 7, 3) := by decide +kernel
theorem dc_14_35_54 : decode prog_14_method_35_code 54 = .ok (.iconst 0, 1) := by decide +kernel
theorem dc_14_35_55 : decode prog_14_method_35_code 55 = .ok (.goto 4, 3) := by decide +kernel
theorem dc_14_35_58 : decode prog_14_method_35_code 58 = .ok (.iconst 1, 1) := by decide +kernel
theorem dc_14_35_59 : decode prog_14_method_35_code 59 = .ok (.ireturn, 1) := by decide +kernel
theorem dc_14_35_60 : decode prog_14_method_35_code 60 = .ok (.aload_n 0, 1) := by decide +kernel
theorem dc_14_35_61 : decode prog_14_method_35_code 61 = .ok (.iload_n 2, 1) := by decide +kernel
theorem dc_14_35_62 : decode prog_14_method_35_code 62 = .ok (.iload_n 1, 1) := by decide +kernel
theorem dc_14_35_63 : decode prog_14_method_35_code 63 = .ok (.iconst 0, 1) := by decide +kernel
theorem dc_14_35_64 : decode prog_14_method_35_code 64 = .ok (.invokevirtual 313, 3) := by decide +kernel
theorem dc_14_35_67 : decode prog_14_method_35_code 67 = .ok (.ifCond .eq 7, 3) := by decide +kernel
theorem dc_14_35_70 : decode prog_14_method_35_code 70 = .ok (.iconst 0, 1) := by decide +kernel
theorem dc_14_35_71 : decode prog_14_method_35_code 71 = .ok (.goto 4, 3) := by decide +kernel
theorem dc_14_35_74 : decode prog_14_method_35_code 74 = .ok (.iconst 1, 1) := by decide +kernel
theorem dc_14_35_75 : decode prog_14_method_35_code 75 = .ok (.ireturn, 1) := by decide +kernel
theorem dc_14_35_76 : decode prog_14_method_35_code 76 = .ok (.aload_n 0, 1) := by decide +kernel
theorem dc_14_35_77 : decode prog_14_method_35_code 77 = .ok (.iload_n 1, 1) := by decide +kernel
theorem dc_14_35_78 : decode prog_14_method_35_code 78 = .ok (.iload_n 2, 1) := by decide +kernel
theorem dc_14_35_79 : decode prog_14_method_35_code 79 = .ok (.invokevirtual 317, 3) := by decide +kernel
theorem dc_14_35_82 : decode prog_14_method_35_code 82 = .ok (.ifCond .eq 17, 3) := by decide +kernel
theorem dc_14_35_85 : decode prog_14_method_35_code 85 = .ok (.aload_n 0, 1) := by decide +kernel
theorem dc_14_35_86 : decode prog_14_method_35_code 86 = .ok (.iload_n 1, 1) := by decide +kernel
theorem dc_14_35_87 : decode prog_14_method_35_code 87 = .ok (.iload_n 2, 1) := by decide +kernel
theorem dc_14_35_88 : decode prog_14_method_35_code 88 = .ok (.iconst 1, 1) := by decide +kernel
theorem dc_14_35_89 : decode prog_14_method_35_code 89 = .ok (.invokevirtual 313, 3) := by decide +kernel
theorem dc_14_35_92 : decode prog_14_method_35_code 92 = .ok (.ifCond .ne 7, 3) := by decide +kernel
theorem dc_14_35_95 : decode prog_14_method_35_code 95 = .ok (.iconst 1, 1) := by decide +kernel
theorem dc_14_35_96 : decode prog_14_method_35_code 96 = .ok (.goto 4, 3) := by decide +kernel
theorem dc_14_35_99 : decode prog_14_method_35_code 99 = .ok (.iconst 0, 1) := by decide +kernel
theorem dc_14_35_100 : decode prog_14_method_35_code 100 = .ok (.ireturn, 1) := by decide +kernel
theorem dc_14_35_101 : decode prog_14_method_35_code 101 = .ok (.iconst (-1), 1) := by decide +kernel
theorem dc_14_35_102 : decode prog_14_method_35_code 102 = .ok (.ireturn, 1) := by decide +kernel
theorem dc_14_43_0 : decode prog_14_method_43_code 0 = .ok (.iconst 0, 1) := by decide +kernel
theorem dc_14_43_1 : decode prog_14_method_43_code 1 = .ok (.istore_n 3, 1) := by decide +kernel
theorem dc_14_43_2 : decode prog_14_method_43_code 2 = .ok (.iload_n 3, 1) := by decide +kernel
theorem dc_14_43_3 : decode prog_14_method_43_code 3 = .ok (.aload_n 0, 1) := by decide +kernel
theorem dc_14_43_4 : decode prog_14_method_43_code 4 = .ok (.getfield 290, 3) := by decide +kernel
theorem dc_14_43_7 : decode prog_14_method_43_code 7 = .ok (.if_icmp .ge 113, 3) := by decide +kernel
theorem dc_14_43_10 : decode prog_14_method_43_code 10 = .ok (.aload_n 0, 1) := by decide +kernel
theorem dc_14_43_11 : decode prog_14_method_43_code 11 = .ok (.getfield 63, 3) := by decide +kernel
theorem dc_14_43_14 : decode prog_14_method_43_code 14 = .ok (.iload_n 3, 1) := by decide +kernel
theorem dc_14_43_15 : decode prog_14_method_43_code 15 = .ok (.iaload, 1) := by decide +kernel
theorem dc_14_43_16 : decode prog_14_method_43_code 16 = .ok (.aload_n 0, 1) := by decide +kernel
theorem dc_14_43_17 : decode prog_14_method_43_code 17 = .ok (.getfield 108, 3) := by decide +kernel
theorem dc_14_43_20 : decode prog_14_method_43_code 20 = .ok (.iload_n 1, 1) := by decide +kernel
theorem dc_14_43_21 : decode prog_14_method_43_code 21 = .ok (.iaload, 1) := by decide +kernel
theorem dc_14_43_22 : decode prog_14_method_43_code 22 = .ok (.if_icmp .ne 13, 3) := by decide +kernel
theorem dc_14_43_25 : decode prog_14_method_43_code 25 = .ok (.aload_n 0, 1) := by decide +kernel
theorem dc_14_43_26 : decode prog_14_method_43_code 26 = .ok (.getfield 66, 3) := by decide +kernel
theorem dc_14_43_29 : decode prog_14_method_43_code 29 = .ok (.iload_n 3, 1) := by decide +kernel
theorem dc_14_43_30 : decode prog_14_method_43_code 30 = .ok (.iaload, 1) := by decide +kernel
theorem dc_14_43_31 : decode prog_14_method_43_code 31 = .ok (.iload_n 2, 1) := by decide +kernel
theorem dc_14_43_32 : decode prog_14_method_43_code 32 = .ok (.if_icmp .eq 28, 3) := by decide +kernel
theorem dc_14_43_35 : decode prog_14_method_43_code 35 = .ok (.aload_n 0, 1) := by decide +kernel
theorem dc_14_43_36 : decode prog_14_method_43_code 36 = .ok (.getfield 63, 3) := by decide +kernel
theorem dc_14_43_39 : decode prog_14_method_43_code 39 = .ok (.iload_n 3, 1) := by decide +kernel
theorem dc_14_43_40 : decode prog_14_method_43_code 40 = .ok (.iaload, 1) := by decide +kernel
theorem dc_14_43_41 : decode prog_14_method_43_code 41 = .ok (.iload_n 2, 1) := by decide +kernel
theorem dc_14_43_42 : decode prog_14_method_43_code 42 = .ok (.if_icmp .ne 22, 3) := by decide +kernel
theorem dc_14_43_45 : decode prog_14_method_43_code 45 = .ok (.aload_n 0, 1) := by decide +kernel
theorem dc_14_43_46 : decode prog_14_method_43_code 46 = .ok (.getfield 66, 3) := by decide +kernel
theorem dc_14_43_49 : decode prog_14_method_43_code 49 = .ok (.iload_n 3, 1) := by decide +kernel
theorem dc_14_43_50 : decode prog_14_method_43_code 50 = .ok (.iaload, 1) := by decide +kernel
theorem dc_14_43_51 : decode prog_14_method_43_code 51 = .ok (.aload_n 0, 1) := by decide +kernel
theorem dc_14_43_52 : decode prog_14_method_43_code 52 = .ok (.getfield 108, 3) := by decide +kernel
theorem dc_14_43_55 : decode prog_14_method_43_code 55 = .ok (.iload_n 1, 1) := by decide +kernel
theorem dc_14_43_56 : decode prog_14_method_43_code 56 = .ok (.iaload, 1) := by decide +kernel
theorem dc_14_43_57 : decode prog_14_method_43_code 57 = .ok (.if_icmp .ne 7, 3) := by decide +kernel
theorem dc_14_43_60 : decode prog_14_method_43_code 60 = .ok (.iconst 1, 1) := by decide +kernel
theorem dc_14_43_61 : decode prog_14_method_43_code 61 = .ok (.goto 4, 3) := by decide +kernel
theorem dc_14_43_64 : decode prog_14_method_43_code 64 = .ok (.iconst 0, 1) := by decide +kernel
theorem dc_14_43_65 : decode prog_14_method_43_code 65 = .ok (.istore 4, 2) := by decide +kernel
theorem dc_14_43_67 : decode prog_14_method_43_code 67 = .ok (.iload 4, 2) := by decide +kernel
theorem dc_14_43_69 : decode prog_14_method_43_code 69 = .ok (.ifCond .eq 45, 3) := by decide +kernel
theorem dc_14_43_72 : decode prog_14_method_43_code 72 = .ok (.aload_n 0, 1) := by decide +kernel
theorem dc_14_43_73 : decode prog_14_method_43_code 73 = .ok (.iload_n 3, 1) := by decide +kernel
theorem dc_14_43_74 : decode prog_14_method_43_code 74 = .ok (.invokevirtual 332, 3) := by decide +kernel
theorem dc_14_43_77 : decode prog_14_method_43_code 77 = .ok (.ifCond .eq 37, 3) := by decide +kernel
theorem dc_14_43_80 : decode prog_14_method_43_code 80 = .ok (.aload_n 0, 1) := by decide +kernel
theorem dc_14_43_81 : decode prog_14_method_43_code 81 = .ok (.iload_n 3, 1) := by decide +kernel
theorem dc_14_43_82 : decode prog_14_method_43_code 82 = .ok (.aload_n 0, 1) := by decide +kernel
theorem dc_14_43_83 : decode prog_14_method_43_code 83 = .ok (.getfield 114, 3) := by decide +kernel
theorem dc_14_43_86 : decode prog_14_method_43_code 86 = .ok (.iload_n 1, 1) := by decide +kernel
theorem dc_14_43_87 : decode prog_14_method_43_code 87 = .ok (.iaload, 1) := by decide +kernel
theorem dc_14_43_88 : decode prog_14_method_43_code 88 = .ok (.aload_n 0, 1) := by decide +kernel
theorem dc_14_43_89 : decode prog_14_method_43_code 89 = .ok (.iload_n 1, 1) := by decide +kernel
theorem dc_14_43_90 : decode prog_14_method_43_code 90 = .ok (.iload_n 2, 1) := by decide +kernel
theorem dc_14_43_91 : decode prog_14_method_43_code 91 = .ok (.invokevirtual 335, 3) := by decide +kernel
theorem dc_14_43_94 : decode prog_14_method_43_code 94 = .ok (.aload_n 0, 1) := by decide +kernel
theorem dc_14_43_95 : decode prog_14_method_43_code 95 = .ok (.getfield 117, 3) := by decide +kernel
theorem dc_14_43_98 : decode prog_14_method_43_code 98 = .ok (.iload_n 1, 1) := by decide +kernel
theorem dc_14_43_99 : decode prog_14_method_43_code 99 = .ok (.iaload, 1) := by decide +kernel
theorem dc_14_43_100 : decode prog_14_method_43_code 100 = .ok (.aload_n 0, 1) := by decide +kernel
theorem dc_14_43_101 : decode prog_14_method_43_code 101 = .ok (.getfield 111, 3) := by decide +kernel
theorem dc_14_43_104 : decode prog_14_method_43_code 104 = .ok (.iload_n 1, 1) := by decide +kernel
theorem dc_14_43_105 : decode prog_14_method_43_code 105 = .ok (.iaload, 1) := by decide +kernel
theorem dc_14_43_106 : decode prog_14_method_43_code 106 = .ok (.invokevirtual 299, 3) := by decide +kernel
theorem dc_14_43_109 : decode prog_14_method_43_code 109 = .ok (.ifCond .eq 5, 3) := by decide +kernel
theorem dc_14_43_112 : decode prog_14_method_43_code 112 = .ok (.iload_n 3, 1) := by decide +kernel
theorem dc_14_43_113 : decode prog_14_method_43_code 113 = .ok (.ireturn, 1) := by decide +kernel
theorem dc_14_43_114 : decode prog_14_method_43_code 114 = .ok (.iinc 3 1, 3) := by decide +kernel
theorem dc_14_43_117 : decode prog_14_method_43_code 117 = .ok (.goto (-115), 3) := by decide +kernel
theorem dc_14_43_120 : decode prog_14_method_43_code 120 = .ok (.iconst (-1), 1) := by decide +kernel
theorem dc_14_43_121 : decode prog_14_method_43_code 121 = .ok (.ireturn, 1) := by decide +kernel
theorem dc_14_44_0 : decode prog_14_method_44_code 0 = .ok (.aload_n 0, 1) := by decide +kernel
theorem dc_14_44_1 : decode prog_14_method_44_code 1 = .ok (.iload_n 1, 1) := by decide +kernel
theorem dc_14_44_2 : decode prog_14_method_44_code 2 = .ok (.invokevirtual 323, 3) := by decide +kernel
theorem dc_14_44_5 : decode prog_14_method_44_code 5 = .ok (.ifCond .eq 20, 3) := by decide +kernel
theorem dc_14_44_8 : decode prog_14_method_44_code 8 = .ok (.aload_n 0, 1) := by decide +kernel
theorem dc_14_44_9 : decode prog_14_method_44_code 9 = .ok (.iload_n 2, 1) := by decide +kernel
theorem dc_14_44_10 : decode prog_14_method_44_code 10 = .ok (.invokevirtual 205, 3) := by decide +kernel
theorem dc_14_44_13 : decode prog_14_method_44_code 13 = .ok (.ifCond .eq 12, 3) := by decide +kernel
theorem dc_14_44_16 : decode prog_14_method_44_code 16 = .ok (.aload_n 0, 1) := by decide +kernel
theorem dc_14_44_17 : decode prog_14_method_44_code 17 = .ok (.iload_n 1, 1) := by decide +kernel
theorem dc_14_44_18 : decode prog_14_method_44_code 18 = .ok (.iload_n 2, 1) := by decide +kernel
theorem dc_14_44_19 : decode prog_14_method_44_code 19 = .ok (.invokevirtual 338, 3) := by decide +kernel
theorem dc_14_44_22 : decode prog_14_method_44_code 22 = .ok (.goto 4, 3) := by decide +kernel
theorem dc_14_44_25 : decode prog_14_method_44_code 25 = .ok (.iconst (-1), 1) := by decide +kernel
theorem dc_14_44_26 : decode prog_14_method_44_code 26 = .ok (.ireturn, 1) := by decide +kernel
theorem iv_13_v310 : mm_iv 13 (.invokevirtual 310) = some (1, 218) := by decide +kernel
theorem iv_13_v313 : mm_iv 13 (.invokevirtual 313) = some (1, 215) := by decide +kernel
theorem iv_13_v317 : mm_iv 13 (.invokevirtual 317) = some (1, 219) := by decide +kernel
theorem iv_13_v338 : mm_iv 13 (.invokevirtual 338) = some (1, 226) := by decide +kernel
theorem o_215 : mm_o 215 = 13 := by decide +kernel
theorem o_218 : mm_o 218 = 13 := by decide +kernel
theorem o_219 : mm_o 219 = 13 := by decide +kernel
theorem o_226 : mm_o 226 = 13 := by decide +kernel
theorem na_1_215 : mm_nas 1 215 = 4 := by decide +kernel
theorem na_1_218 : mm_nas 1 218 = 2 := by decide +kernel
theorem na_1_219 : mm_nas 1 219 = 3 := by decide +kernel
theorem na_1_226 : mm_nas 1 226 = 3 := by decide +kernel
theorem va_up_id2 {α : Type} (f : Nat → α) (k l : Nat) : va_up (va_up f k (f k)) l (f l) = f := by
  funext j
  unfold va_up
  split
  · rename_i h; rw [h]
  · split
    · rename_i h; rw [h]
    · rfl
theorem va_up_id3 {α : Type} (f : Nat → α) (k l m : Nat) : va_up (va_up (va_up f k (f k)) l (f l)) m (f m) = f := by rw [va_up_id2 f k l, va_up_id]
/-- the codes of the AGREEMENTS -/
def CDok (sg : Nat → Nat → Int32) (nx : Nat) (cm : Nat → Nat) (w : Nat → Nat → Nat) : Prop := ∀ x, x < nx → sg 36 x = nI (cm x) ∧ cm x ≤ 79 ∧ (∀ k, k < cm x → sg 35 (80 * x + k) = nI (w x k)) ∧ (∀ k, k < cm x → w x k < 400000 ∨ 1000000 ≤ w x k ∧ w x k ≤ 1000002) ∧ okc (w x) (cm x) ∧ nc (w x) (cm x) ≤ 20
theorem CD_met (M : mH) (hM : 157 ≤ M.1) (io : Nat → Int32) (sg : Nat → Nat → Int32) {nx : Nat} {cm : Nat → Nat} {w : Nat → Nat → Nat} (hC : CDok sg nx cm w) (hnx : nx ≤ 12) (x : Nat) (hx : x < nx) (g t c u : Nat) (hg : g ≤ 100) (ht : t ≤ 9) (hc : c ≤ 99) (hu : u ≤ 7) : ∃ q : Nat → Int32, mm_Ev 1 213 [.ref 100, .int (nI x), .int (nI g), .int (nI t), .int (nI c), .int (nI u)] (rf_mk M io sg) (some (.int (pI (sp_met (w x) (cm x) g t c u))), rf_mk M io (va_up sg 48 q)) := by
  obtain ⟨h1, h2, h3, h4, h5, h6⟩ := hC x hx
  exact c_isMet M hM io sg x (cm x) (w x) (by omega) h1 h2 h3 (fun k hk => by have := h4 k hk; omega) h5 g t c u hg ht hc hu
def sp_bb (w1 w2 : Nat → Nat) (c1 c2 l v : Nat) : Prop := v = 0 ∨ bo w1 c1 l v ∨ bo w2 c2 l v
def sp_some (w1 w2 : Nat → Nat) (c1 c2 wi : Nat) : Prop := ∃ a b c d, sp_bb w1 w2 c1 c2 0 a ∧ sp_bb w1 w2 c1 c2 1 b ∧ sp_bb w1 w2 c1 c2 2 c ∧ sp_bb w1 w2 c1 c2 3 d ∧ sp_met w1 c1 a b c d ∧ pI (sp_met w2 c2 a b c d) = nI wi
theorem som_B {w1 w2 : Nat → Nat} {c1 c2 l v : Nat} (h : ((l < 4 ∧ v = 0) ∨ bo w1 c1 l v) ∨ bo w2 c2 l v) : sp_bb w1 w2 c1 c2 l v := h.elim (fun z => z.elim (fun z => Or.inl z.2) (fun z => Or.inr (Or.inl z))) (fun z => Or.inr (Or.inr z))
theorem som_R {w1 w2 : Nat → Nat} {c1 c2 l v : Nat} (hl : l < 4) (h : sp_bb w1 w2 c1 c2 l v) : ((l < 4 ∧ v = 0) ∨ bo w1 c1 l v) ∨ bo w2 c2 l v := h.elim (fun z => Or.inl (Or.inl ⟨hl, z⟩)) (fun z => z.elim (fun z => Or.inl (Or.inr z)) Or.inr)
set_option maxHeartbeats 4000000 in
theorem c_isSome (M : mH) (hM : 157 ≤ M.1) (io : Nat → Int32) (sg : Nat → Nat → Int32) (nx : Nat) (hnx : nx ≤ 12) (cm : Nat → Nat) (w : Nat → Nat → Nat) (hC : CDok sg nx cm w) (x y wi : Nat) (hx : x < nx) (hy : y < nx) (hwi : wi ≤ 1) : ∃ (c4 : Nat → Int32), ∃ (c5 : Nat → Int32), ∃ (q : Nat → Int32), mm_Ev 4 215 [.ref 100, .int (nI x), .int (nI y), .int (nI wi)] (rf_mk M io sg) ((some (.int (pI (sp_some (w x) (w y) (cm x) (cm y) wi))), rf_mk M io (va_up (va_up (va_up sg 49 c4) 50 c5) 48 q))) := by
  have hq9 : ∃ z, (fun r9 => ∃ (c4 : Nat → Int32), ∃ (c5 : Nat → Int32), ∃ (q : Nat → Int32), r9 = ((some (.int (pI (sp_some (w x) (w y) (cm x) (cm y) wi))), rf_mk M io (va_up (va_up (va_up sg 49 c4) 50 c5) 48 q)))) z ∧ mm_Ev 4 215 [.ref 100, .int (nI x), .int (nI y), .int (nI wi)] (rf_mk M io sg) z := by
    refine r_evQ (by decide +kernel) (show (4 : Nat) ≤ mm_nL 215 by decide +kernel) ?_
    show mm_Ru 3 (13, 12, false, prog_14_method_33_code, some .boolean) 0 [(0, .ref 100), (1, .int (nI x)), (2, .int (nI y)), (3, .int (nI wi))] [] (rf_mk M io sg) (fun r9 => ∃ (c4 : Nat → Int32), ∃ (c5 : Nat → Int32), ∃ (q : Nat → Int32), r9 = ((some (.int (pI (sp_some (w x) (w y) (cm x) (cm y) wi))), rf_mk M io (va_up (va_up (va_up sg 49 c4) 50 c5) 48 q))))
    refine r_iconst (v := nI 0) (by decide) dc_14_33_0 ?_
    refine r_istore (ls' := [(4, .int (nI 0)), (0, .ref 100), (1, .int (nI x)), (2, .int (nI y)), (3, .int (nI wi))]) (by decide) rfl dc_14_33_1 ?_
    rw [show rf_mk M io sg = rf_mk M io (va_up (va_up sg 49 (sg 49)) 50 (sg 50)) from (congrArg (rf_mk M io) (va_up_id2 sg 49 50)).symm]
    refine mm_cnt (P := fun m => ∀ (b4 : Nat → Int32), ∀ (b5 : Nat → Int32), (BS m b4 b5 (fun l v => l < m ∧ v = 0) m) → mm_Ru 3 (13, 12, false, prog_14_method_33_code, some .boolean) 3 [(4, .int (nI m)), (0, .ref 100), (1, .int (nI x)), (2, .int (nI y)), (3, .int (nI wi))] [] (rf_mk M io (va_up (va_up sg 49 b4) 50 b5)) (fun r9 => ∃ (c4 : Nat → Int32), ∃ (c5 : Nat → Int32), ∃ (q : Nat → Int32), r9 = ((some (.int (pI (sp_some (w x) (w y) (cm x) (cm y) wi))), rf_mk M io (va_up (va_up (va_up sg 49 c4) 50 c5) 48 q))))) 4 ?_ ?_ 0 (by omega) (sg 49) (sg 50) (⟨fun _ => 0, fun _ _ => 0, fun l hl => absurd hl (Nat.not_lt_zero l), fun l hl => absurd hl (Nat.not_lt_zero l), fun l hl => absurd hl (Nat.not_lt_zero l)⟩)
    · intro b4 b5 hi_m
      show mm_Ru 3 (13, 12, false, prog_14_method_33_code, some .boolean) 3 [(4, .int (nI 4)), (0, .ref 100), (1, .int (nI x)), (2, .int (nI y)), (3, .int (nI wi))] [] (rf_mk M io (va_up (va_up sg 49 b4) 50 b5)) (fun r9 => ∃ (c4 : Nat → Int32), ∃ (c5 : Nat → Int32), ∃ (q : Nat → Int32), r9 = ((some (.int (pI (sp_some (w x) (w y) (cm x) (cm y) wi))), rf_mk M io (va_up (va_up (va_up sg 49 c4) 50 c5) 48 q))))
      refine r_iload rfl dc_14_33_3 ?_
      refine r_iconst (v := nI 4) (by decide) dc_14_33_5 ?_
      refine r_ncge (t := 30) (by omega) (by omega) (by decide) dc_14_33_6 (fun c_6 => ?_) (fun c_6 => ?_)
      · skip
        refine r_aload_n rfl dc_14_33_30 ?_
        refine r_iload_n rfl dc_14_33_31 ?_
        obtain ⟨x1, x2, x3, x4, x5, x6⟩ := hC x hx
        obtain ⟨y1, y2, y3, y4, y5, y6⟩ := hC y hy
        obtain ⟨f4, f5, hbf, hbo1⟩ := c_bordersOf M hM io sg x (cm x) (w x) (by omega) x1 x2 x3 x4 b4 b5 _ 4 hi_m (by omega)
        refine q_callv (as := [.int (nI x)]) (rest := []) (M1 := rf_mk M io (va_up (va_up sg 49 f4) 50 f5)) iv_13_v310 na_1_218 o_218 hM rfl (show (0 : Nat) ≤ 8 by decide) dc_14_33_32 (hbo1) ?_
        refine r_aload_n rfl dc_14_33_35 ?_
        refine r_iload_n rfl dc_14_33_36 ?_
        obtain ⟨e4, e5, hbe, hbo2⟩ := c_bordersOf M hM io sg y (cm y) (w y) (by omega) y1 y2 y3 y4 f4 f5 _ _ hbf (by omega)
        refine q_callv (as := [.int (nI y)]) (rest := []) (M1 := rf_mk M io (va_up (va_up sg 49 e4) 50 e5)) iv_13_v310 na_1_218 o_218 hM rfl (show (0 : Nat) ≤ 8 by decide) dc_14_33_37 (hbo2) ?_
        refine r_iconst (v := nI 0) (by decide) dc_14_33_40 ?_
        refine r_istore (ls' := [(4, .int (nI 0)), (0, .ref 100), (1, .int (nI x)), (2, .int (nI y)), (3, .int (nI wi))]) (by decide) rfl dc_14_33_41 ?_
        obtain ⟨bm, bv, hB⟩ := hbe
        have hv0 : ∀ k, k < bm 0 → e4 k = nI (bv 0 k) := fun k hk => by have := (hB.2.1 0 (by decide) k hk).1; rwa [show 100 * 0 + k = k by omega] at this
        have hb0 : bm 0 ≤ 100 := by have := (hB.1 0 (by decide)).2; omega
        have hb1 : bm 1 ≤ 100 := by have := (hB.1 1 (by decide)).2; omega
        have hb2 : bm 2 ≤ 100 := by have := (hB.1 2 (by decide)).2; omega
        have hb3 : bm 3 ≤ 100 := by have := (hB.1 3 (by decide)).2; omega
        rw [show rf_mk M io (va_up (va_up sg 49 e4) 50 e5) = rf_mk M io (va_up (va_up (va_up sg 49 e4) 50 e5) 48 (sg 48)) from (congrArg (rf_mk M io) (va_up_id (va_up (va_up sg 49 e4) 50 e5) 48)).symm]
        refine mm_cnt (P := fun a => ∀ (q0 : Nat → Int32), (∀ i, i < a → ∀ j, j < bm 1 → ∀ k, k < bm 2 → ∀ l, l < bm 3 → ¬ (sp_met (w x) (cm x) (bv 0 i) (bv 1 j) (bv 2 k) (bv 3 l) ∧ pI (sp_met (w y) (cm y) (bv 0 i) (bv 1 j) (bv 2 k) (bv 3 l)) = nI wi)) → mm_Ru 3 (13, 12, false, prog_14_method_33_code, some .boolean) 43 [(4, .int (nI a)), (0, .ref 100), (1, .int (nI x)), (2, .int (nI y)), (3, .int (nI wi))] [] (rf_mk M io (va_up (va_up (va_up sg 49 e4) 50 e5) 48 q0)) (fun r9 => ∃ (c4 : Nat → Int32), ∃ (c5 : Nat → Int32), ∃ (q : Nat → Int32), r9 = ((some (.int (pI (sp_some (w x) (w y) (cm x) (cm y) wi))), rf_mk M io (va_up (va_up (va_up sg 49 c4) 50 c5) 48 q))))) (bm 0) ?_ ?_ 0 (by omega) (sg 48) (fun j hj => absurd hj (Nat.not_lt_zero j))
        · intro q0 hi_a
          show mm_Ru 3 (13, 12, false, prog_14_method_33_code, some .boolean) 43 [(4, .int (nI (bm 0))), (0, .ref 100), (1, .int (nI x)), (2, .int (nI y)), (3, .int (nI wi))] [] (rf_mk M io (va_up (va_up (va_up sg 49 e4) 50 e5) 48 q0)) (fun r9 => ∃ (c4 : Nat → Int32), ∃ (c5 : Nat → Int32), ∃ (q : Nat → Int32), r9 = ((some (.int (pI (sp_some (w x) (w y) (cm x) (cm y) wi))), rf_mk M io (va_up (va_up (va_up sg 49 c4) 50 c5) 48 q))))
          refine r_iload rfl dc_14_33_43 ?_
          refine r_aload_n rfl dc_14_33_45 ?_
          refine q_get (v := .ref 132) rx_105 hM rfl dc_14_33_46 ?_
          refine r_iconst (v := nI 0) (by decide) dc_14_33_49 ?_
          refine q_ild (e := 0) (v := nI (bm 0)) (by decide) (by decide) hM rfl (show 0 < 4 by omega) (by omega) ((hB.1 0 (by decide)).1) dc_14_33_50 ?_
          refine r_ncge (t := 202) (by omega) (by omega) (by decide) dc_14_33_51 (fun c_51 => ?_) (fun c_51 => ?_)
          · skip
            refine r_iconst (v := nI 0) (by decide) dc_14_33_202 ?_
            refine r_zret rfl (by decide) dc_14_33_203 ?_
            rw [pI_f (P := sp_some (w x) (w y) (cm x) (cm y) wi) ?_]
            · exact ⟨_, _, _, rfl⟩
            · rintro ⟨a1, b1, c1, d1, z0, z1, z2, z3, z4, z5⟩
              obtain ⟨k0, hk0, ek0⟩ := hB.2.2 0 (by decide) a1 (som_R (by decide) z0)
              obtain ⟨k1, hk1, ek1⟩ := hB.2.2 1 (by decide) b1 (som_R (by decide) z1)
              obtain ⟨k2, hk2, ek2⟩ := hB.2.2 2 (by decide) c1 (som_R (by decide) z2)
              obtain ⟨k3, hk3, ek3⟩ := hB.2.2 3 (by decide) d1 (som_R (by decide) z3)
              subst ek0 ek1 ek2 ek3
              exact hi_a k0 hk0 k1 hk1 k2 hk2 k3 hk3 ⟨z4, z5⟩
          · omega
        · intro a h_a ih_a q0 hi_a
          show mm_Ru 3 (13, 12, false, prog_14_method_33_code, some .boolean) 43 [(4, .int (nI a)), (0, .ref 100), (1, .int (nI x)), (2, .int (nI y)), (3, .int (nI wi))] [] (rf_mk M io (va_up (va_up (va_up sg 49 e4) 50 e5) 48 q0)) (fun r9 => ∃ (c4 : Nat → Int32), ∃ (c5 : Nat → Int32), ∃ (q : Nat → Int32), r9 = ((some (.int (pI (sp_some (w x) (w y) (cm x) (cm y) wi))), rf_mk M io (va_up (va_up (va_up sg 49 c4) 50 c5) 48 q))))
          refine r_iload rfl dc_14_33_43 ?_
          refine r_aload_n rfl dc_14_33_45 ?_
          refine q_get (v := .ref 132) rx_105 hM rfl dc_14_33_46 ?_
          refine r_iconst (v := nI 0) (by decide) dc_14_33_49 ?_
          refine q_ild (e := 0) (v := nI (bm 0)) (by decide) (by decide) hM rfl (show 0 < 4 by omega) (by omega) ((hB.1 0 (by decide)).1) dc_14_33_50 ?_
          refine r_ncge (t := 202) (by omega) (by omega) (by decide) dc_14_33_51 (fun c_51 => ?_) (fun c_51 => ?_)
          · omega
          · skip
            refine r_iconst (v := nI 0) (by decide) dc_14_33_54 ?_
            refine r_istore (ls' := [(5, .int (nI 0)), (4, .int (nI a)), (0, .ref 100), (1, .int (nI x)), (2, .int (nI y)), (3, .int (nI wi))]) (by decide) rfl dc_14_33_55 ?_
            refine mm_cnt (P := fun b => ∀ (q1 : Nat → Int32), (∀ j, j < b → ∀ k, k < bm 2 → ∀ l, l < bm 3 → ¬ (sp_met (w x) (cm x) (bv 0 a) (bv 1 j) (bv 2 k) (bv 3 l) ∧ pI (sp_met (w y) (cm y) (bv 0 a) (bv 1 j) (bv 2 k) (bv 3 l)) = nI wi)) → mm_Ru 3 (13, 12, false, prog_14_method_33_code, some .boolean) 57 [(5, .int (nI b)), (4, .int (nI a)), (0, .ref 100), (1, .int (nI x)), (2, .int (nI y)), (3, .int (nI wi))] [] (rf_mk M io (va_up (va_up (va_up sg 49 e4) 50 e5) 48 q1)) (fun r9 => ∃ (c4 : Nat → Int32), ∃ (c5 : Nat → Int32), ∃ (q : Nat → Int32), r9 = ((some (.int (pI (sp_some (w x) (w y) (cm x) (cm y) wi))), rf_mk M io (va_up (va_up (va_up sg 49 c4) 50 c5) 48 q))))) (bm 1) ?_ ?_ 0 (by omega) q0 (fun j hj => absurd hj (Nat.not_lt_zero j))
            · intro q1 hi_b
              show mm_Ru 3 (13, 12, false, prog_14_method_33_code, some .boolean) 57 [(5, .int (nI (bm 1))), (4, .int (nI a)), (0, .ref 100), (1, .int (nI x)), (2, .int (nI y)), (3, .int (nI wi))] [] (rf_mk M io (va_up (va_up (va_up sg 49 e4) 50 e5) 48 q1)) (fun r9 => ∃ (c4 : Nat → Int32), ∃ (c5 : Nat → Int32), ∃ (q : Nat → Int32), r9 = ((some (.int (pI (sp_some (w x) (w y) (cm x) (cm y) wi))), rf_mk M io (va_up (va_up (va_up sg 49 c4) 50 c5) 48 q))))
              refine r_iload rfl dc_14_33_57 ?_
              refine r_aload_n rfl dc_14_33_59 ?_
              refine q_get (v := .ref 132) rx_105 hM rfl dc_14_33_60 ?_
              refine r_iconst (v := nI 1) (by decide) dc_14_33_63 ?_
              refine q_ild (e := 1) (v := nI (bm 1)) (by decide) (by decide) hM rfl (show 1 < 4 by omega) (by omega) ((hB.1 1 (by decide)).1) dc_14_33_64 ?_
              refine r_ncge (t := 196) (by omega) (by omega) (by decide) dc_14_33_65 (fun c_65 => ?_) (fun c_65 => ?_)
              · skip
                refine r_iinc (x := nI a) (v := nI (a + 1)) (ls' := [(4, .int (nI (a + 1))), (5, .int (nI (bm 1))), (0, .ref 100), (1, .int (nI x)), (2, .int (nI y)), (3, .int (nI wi))]) rfl (nI_1 _) (by decide) rfl dc_14_33_196 ?_
                refine r_goto (t := 43) (by decide) dc_14_33_199 ?_
                refine r_ls [(4, .int (nI (a + 1))), (0, .ref 100), (1, .int (nI x)), (2, .int (nI y)), (3, .int (nI wi))] (mm_ndk_of [4, 0, 1, 2, 3] rfl (by decide)) (mm_sub_cons rfl (mm_sub_cons rfl (mm_sub_cons rfl (mm_sub_cons rfl (mm_sub_cons rfl (mm_sub_nil _)))))) ?_
                exact ih_a q1 (fun i hi => if q : i = a then q ▸ hi_b else hi_a i (by omega))
              · omega
            · intro b h_b ih_b q1 hi_b
              show mm_Ru 3 (13, 12, false, prog_14_method_33_code, some .boolean) 57 [(5, .int (nI b)), (4, .int (nI a)), (0, .ref 100), (1, .int (nI x)), (2, .int (nI y)), (3, .int (nI wi))] [] (rf_mk M io (va_up (va_up (va_up sg 49 e4) 50 e5) 48 q1)) (fun r9 => ∃ (c4 : Nat → Int32), ∃ (c5 : Nat → Int32), ∃ (q : Nat → Int32), r9 = ((some (.int (pI (sp_some (w x) (w y) (cm x) (cm y) wi))), rf_mk M io (va_up (va_up (va_up sg 49 c4) 50 c5) 48 q))))
              refine r_iload rfl dc_14_33_57 ?_
              refine r_aload_n rfl dc_14_33_59 ?_
              refine q_get (v := .ref 132) rx_105 hM rfl dc_14_33_60 ?_
              refine r_iconst (v := nI 1) (by decide) dc_14_33_63 ?_
              refine q_ild (e := 1) (v := nI (bm 1)) (by decide) (by decide) hM rfl (show 1 < 4 by omega) (by omega) ((hB.1 1 (by decide)).1) dc_14_33_64 ?_
              refine r_ncge (t := 196) (by omega) (by omega) (by decide) dc_14_33_65 (fun c_65 => ?_) (fun c_65 => ?_)
              · omega
              · skip
                refine r_iconst (v := nI 0) (by decide) dc_14_33_68 ?_
                refine r_istore (ls' := [(6, .int (nI 0)), (5, .int (nI b)), (4, .int (nI a)), (0, .ref 100), (1, .int (nI x)), (2, .int (nI y)), (3, .int (nI wi))]) (by decide) rfl dc_14_33_69 ?_
                refine mm_cnt (P := fun c => ∀ (q2 : Nat → Int32), (∀ k, k < c → ∀ l, l < bm 3 → ¬ (sp_met (w x) (cm x) (bv 0 a) (bv 1 b) (bv 2 k) (bv 3 l) ∧ pI (sp_met (w y) (cm y) (bv 0 a) (bv 1 b) (bv 2 k) (bv 3 l)) = nI wi)) → mm_Ru 3 (13, 12, false, prog_14_method_33_code, some .boolean) 71 [(6, .int (nI c)), (5, .int (nI b)), (4, .int (nI a)), (0, .ref 100), (1, .int (nI x)), (2, .int (nI y)), (3, .int (nI wi))] [] (rf_mk M io (va_up (va_up (va_up sg 49 e4) 50 e5) 48 q2)) (fun r9 => ∃ (c4 : Nat → Int32), ∃ (c5 : Nat → Int32), ∃ (q : Nat → Int32), r9 = ((some (.int (pI (sp_some (w x) (w y) (cm x) (cm y) wi))), rf_mk M io (va_up (va_up (va_up sg 49 c4) 50 c5) 48 q))))) (bm 2) ?_ ?_ 0 (by omega) q1 (fun j hj => absurd hj (Nat.not_lt_zero j))
                · intro q2 hi_c
                  show mm_Ru 3 (13, 12, false, prog_14_method_33_code, some .boolean) 71 [(6, .int (nI (bm 2))), (5, .int (nI b)), (4, .int (nI a)), (0, .ref 100), (1, .int (nI x)), (2, .int (nI y)), (3, .int (nI wi))] [] (rf_mk M io (va_up (va_up (va_up sg 49 e4) 50 e5) 48 q2)) (fun r9 => ∃ (c4 : Nat → Int32), ∃ (c5 : Nat → Int32), ∃ (q : Nat → Int32), r9 = ((some (.int (pI (sp_some (w x) (w y) (cm x) (cm y) wi))), rf_mk M io (va_up (va_up (va_up sg 49 c4) 50 c5) 48 q))))
                  refine r_iload rfl dc_14_33_71 ?_
                  refine r_aload_n rfl dc_14_33_73 ?_
                  refine q_get (v := .ref 132) rx_105 hM rfl dc_14_33_74 ?_
                  refine r_iconst (v := nI 2) (by decide) dc_14_33_77 ?_
                  refine q_ild (e := 2) (v := nI (bm 2)) (by decide) (by decide) hM rfl (show 2 < 4 by omega) (by omega) ((hB.1 2 (by decide)).1) dc_14_33_78 ?_
                  refine r_ncge (t := 190) (by omega) (by omega) (by decide) dc_14_33_79 (fun c_79 => ?_) (fun c_79 => ?_)
                  · skip
                    refine r_iinc (x := nI b) (v := nI (b + 1)) (ls' := [(5, .int (nI (b + 1))), (6, .int (nI (bm 2))), (4, .int (nI a)), (0, .ref 100), (1, .int (nI x)), (2, .int (nI y)), (3, .int (nI wi))]) rfl (nI_1 _) (by decide) rfl dc_14_33_190 ?_
                    refine r_goto (t := 57) (by decide) dc_14_33_193 ?_
                    refine r_ls [(5, .int (nI (b + 1))), (4, .int (nI a)), (0, .ref 100), (1, .int (nI x)), (2, .int (nI y)), (3, .int (nI wi))] (mm_ndk_of [5, 4, 0, 1, 2, 3] rfl (by decide)) (mm_sub_cons rfl (mm_sub_cons rfl (mm_sub_cons rfl (mm_sub_cons rfl (mm_sub_cons rfl (mm_sub_cons rfl (mm_sub_nil _))))))) ?_
                    exact ih_b q2 (fun i hi => if q : i = b then q ▸ hi_c else hi_b i (by omega))
                  · omega
                · intro c h_c ih_c q2 hi_c
                  show mm_Ru 3 (13, 12, false, prog_14_method_33_code, some .boolean) 71 [(6, .int (nI c)), (5, .int (nI b)), (4, .int (nI a)), (0, .ref 100), (1, .int (nI x)), (2, .int (nI y)), (3, .int (nI wi))] [] (rf_mk M io (va_up (va_up (va_up sg 49 e4) 50 e5) 48 q2)) (fun r9 => ∃ (c4 : Nat → Int32), ∃ (c5 : Nat → Int32), ∃ (q : Nat → Int32), r9 = ((some (.int (pI (sp_some (w x) (w y) (cm x) (cm y) wi))), rf_mk M io (va_up (va_up (va_up sg 49 c4) 50 c5) 48 q))))
                  refine r_iload rfl dc_14_33_71 ?_
                  refine r_aload_n rfl dc_14_33_73 ?_
                  refine q_get (v := .ref 132) rx_105 hM rfl dc_14_33_74 ?_
                  refine r_iconst (v := nI 2) (by decide) dc_14_33_77 ?_
                  refine q_ild (e := 2) (v := nI (bm 2)) (by decide) (by decide) hM rfl (show 2 < 4 by omega) (by omega) ((hB.1 2 (by decide)).1) dc_14_33_78 ?_
                  refine r_ncge (t := 190) (by omega) (by omega) (by decide) dc_14_33_79 (fun c_79 => ?_) (fun c_79 => ?_)
                  · omega
                  · skip
                    refine r_iconst (v := nI 0) (by decide) dc_14_33_82 ?_
                    refine r_istore (ls' := [(7, .int (nI 0)), (6, .int (nI c)), (5, .int (nI b)), (4, .int (nI a)), (0, .ref 100), (1, .int (nI x)), (2, .int (nI y)), (3, .int (nI wi))]) (by decide) rfl dc_14_33_83 ?_
                    refine mm_cnt (P := fun d => ∀ (q3 : Nat → Int32), (∀ l, l < d → ¬ (sp_met (w x) (cm x) (bv 0 a) (bv 1 b) (bv 2 c) (bv 3 l) ∧ pI (sp_met (w y) (cm y) (bv 0 a) (bv 1 b) (bv 2 c) (bv 3 l)) = nI wi)) → mm_Ru 3 (13, 12, false, prog_14_method_33_code, some .boolean) 85 [(7, .int (nI d)), (6, .int (nI c)), (5, .int (nI b)), (4, .int (nI a)), (0, .ref 100), (1, .int (nI x)), (2, .int (nI y)), (3, .int (nI wi))] [] (rf_mk M io (va_up (va_up (va_up sg 49 e4) 50 e5) 48 q3)) (fun r9 => ∃ (c4 : Nat → Int32), ∃ (c5 : Nat → Int32), ∃ (q : Nat → Int32), r9 = ((some (.int (pI (sp_some (w x) (w y) (cm x) (cm y) wi))), rf_mk M io (va_up (va_up (va_up sg 49 c4) 50 c5) 48 q))))) (bm 3) ?_ ?_ 0 (by omega) q2 (fun j hj => absurd hj (Nat.not_lt_zero j))
                    · intro q3 hi_d
                      show mm_Ru 3 (13, 12, false, prog_14_method_33_code, some .boolean) 85 [(7, .int (nI (bm 3))), (6, .int (nI c)), (5, .int (nI b)), (4, .int (nI a)), (0, .ref 100), (1, .int (nI x)), (2, .int (nI y)), (3, .int (nI wi))] [] (rf_mk M io (va_up (va_up (va_up sg 49 e4) 50 e5) 48 q3)) (fun r9 => ∃ (c4 : Nat → Int32), ∃ (c5 : Nat → Int32), ∃ (q : Nat → Int32), r9 = ((some (.int (pI (sp_some (w x) (w y) (cm x) (cm y) wi))), rf_mk M io (va_up (va_up (va_up sg 49 c4) 50 c5) 48 q))))
                      refine r_iload rfl dc_14_33_85 ?_
                      refine r_aload_n rfl dc_14_33_87 ?_
                      refine q_get (v := .ref 132) rx_105 hM rfl dc_14_33_88 ?_
                      refine r_iconst (v := nI 3) (by decide) dc_14_33_91 ?_
                      refine q_ild (e := 3) (v := nI (bm 3)) (by decide) (by decide) hM rfl (show 3 < 4 by omega) (by omega) ((hB.1 3 (by decide)).1) dc_14_33_92 ?_
                      refine r_ncge (t := 184) (by omega) (by omega) (by decide) dc_14_33_93 (fun c_93 => ?_) (fun c_93 => ?_)
                      · skip
                        refine r_iinc (x := nI c) (v := nI (c + 1)) (ls' := [(6, .int (nI (c + 1))), (7, .int (nI (bm 3))), (5, .int (nI b)), (4, .int (nI a)), (0, .ref 100), (1, .int (nI x)), (2, .int (nI y)), (3, .int (nI wi))]) rfl (nI_1 _) (by decide) rfl dc_14_33_184 ?_
                        refine r_goto (t := 71) (by decide) dc_14_33_187 ?_
                        refine r_ls [(6, .int (nI (c + 1))), (5, .int (nI b)), (4, .int (nI a)), (0, .ref 100), (1, .int (nI x)), (2, .int (nI y)), (3, .int (nI wi))] (mm_ndk_of [6, 5, 4, 0, 1, 2, 3] rfl (by decide)) (mm_sub_cons rfl (mm_sub_cons rfl (mm_sub_cons rfl (mm_sub_cons rfl (mm_sub_cons rfl (mm_sub_cons rfl (mm_sub_cons rfl (mm_sub_nil _)))))))) ?_
                        exact ih_c q3 (fun i hi => if q : i = c then q ▸ hi_d else hi_c i (by omega))
                      · omega
                    · intro d h_d ih_d q3 hi_d
                      show mm_Ru 3 (13, 12, false, prog_14_method_33_code, some .boolean) 85 [(7, .int (nI d)), (6, .int (nI c)), (5, .int (nI b)), (4, .int (nI a)), (0, .ref 100), (1, .int (nI x)), (2, .int (nI y)), (3, .int (nI wi))] [] (rf_mk M io (va_up (va_up (va_up sg 49 e4) 50 e5) 48 q3)) (fun r9 => ∃ (c4 : Nat → Int32), ∃ (c5 : Nat → Int32), ∃ (q : Nat → Int32), r9 = ((some (.int (pI (sp_some (w x) (w y) (cm x) (cm y) wi))), rf_mk M io (va_up (va_up (va_up sg 49 c4) 50 c5) 48 q))))
                      refine r_iload rfl dc_14_33_85 ?_
                      refine r_aload_n rfl dc_14_33_87 ?_
                      refine q_get (v := .ref 132) rx_105 hM rfl dc_14_33_88 ?_
                      refine r_iconst (v := nI 3) (by decide) dc_14_33_91 ?_
                      refine q_ild (e := 3) (v := nI (bm 3)) (by decide) (by decide) hM rfl (show 3 < 4 by omega) (by omega) ((hB.1 3 (by decide)).1) dc_14_33_92 ?_
                      refine r_ncge (t := 184) (by omega) (by omega) (by decide) dc_14_33_93 (fun c_93 => ?_) (fun c_93 => ?_)
                      · omega
                      · skip
                        refine r_aload_n rfl dc_14_33_96 ?_
                        refine q_get (v := .ref 131) rx_102 hM rfl dc_14_33_97 ?_
                        refine r_iload rfl dc_14_33_100 ?_
                        refine q_ild (e := a) (v := nI (bv 0 a)) (by decide) (by decide) hM rfl (show a < 400 by omega) (by omega) (hv0 a h_a) dc_14_33_102 ?_
                        refine r_istore (ls' := [(8, .int (nI (bv 0 a))), (7, .int (nI d)), (6, .int (nI c)), (5, .int (nI b)), (4, .int (nI a)), (0, .ref 100), (1, .int (nI x)), (2, .int (nI y)), (3, .int (nI wi))]) (by decide) rfl dc_14_33_103 ?_
                        refine r_aload_n rfl dc_14_33_105 ?_
                        refine q_get (v := .ref 131) rx_102 hM rfl dc_14_33_106 ?_
                        refine r_bipush (v := nI 100) (by decide) dc_14_33_109 ?_
                        refine r_iload rfl dc_14_33_111 ?_
                        refine r_iadd (v := nI (100 + b)) (nI_add _ _) dc_14_33_113 ?_
                        refine q_ild (e := 100 + b) (v := nI (bv 1 b)) (by decide) (by decide) hM rfl (show 100 + b < 400 by omega) (by omega) ((hB.2.1 1 (by decide) b h_b).1) dc_14_33_114 ?_
                        refine r_istore (ls' := [(9, .int (nI (bv 1 b))), (8, .int (nI (bv 0 a))), (7, .int (nI d)), (6, .int (nI c)), (5, .int (nI b)), (4, .int (nI a)), (0, .ref 100), (1, .int (nI x)), (2, .int (nI y)), (3, .int (nI wi))]) (by decide) rfl dc_14_33_115 ?_
                        refine r_aload_n rfl dc_14_33_117 ?_
                        refine q_get (v := .ref 131) rx_102 hM rfl dc_14_33_118 ?_
                        refine r_sipush (v := nI 200) (by decide) dc_14_33_121 ?_
                        refine r_iload rfl dc_14_33_124 ?_
                        refine r_iadd (v := nI (200 + c)) (nI_add _ _) dc_14_33_126 ?_
                        refine q_ild (e := 200 + c) (v := nI (bv 2 c)) (by decide) (by decide) hM rfl (show 200 + c < 400 by omega) (by omega) ((hB.2.1 2 (by decide) c h_c).1) dc_14_33_127 ?_
                        refine r_istore (ls' := [(10, .int (nI (bv 2 c))), (9, .int (nI (bv 1 b))), (8, .int (nI (bv 0 a))), (7, .int (nI d)), (6, .int (nI c)), (5, .int (nI b)), (4, .int (nI a)), (0, .ref 100), (1, .int (nI x)), (2, .int (nI y)), (3, .int (nI wi))]) (by decide) rfl dc_14_33_128 ?_
                        refine r_aload_n rfl dc_14_33_130 ?_
                        refine q_get (v := .ref 131) rx_102 hM rfl dc_14_33_131 ?_
                        refine r_sipush (v := nI 300) (by decide) dc_14_33_134 ?_
                        refine r_iload rfl dc_14_33_137 ?_
                        refine r_iadd (v := nI (300 + d)) (nI_add _ _) dc_14_33_139 ?_
                        refine q_ild (e := 300 + d) (v := nI (bv 3 d)) (by decide) (by decide) hM rfl (show 300 + d < 400 by omega) (by omega) ((hB.2.1 3 (by decide) d h_d).1) dc_14_33_140 ?_
                        refine r_istore (ls' := [(11, .int (nI (bv 3 d))), (10, .int (nI (bv 2 c))), (9, .int (nI (bv 1 b))), (8, .int (nI (bv 0 a))), (7, .int (nI d)), (6, .int (nI c)), (5, .int (nI b)), (4, .int (nI a)), (0, .ref 100), (1, .int (nI x)), (2, .int (nI y)), (3, .int (nI wi))]) (by decide) rfl dc_14_33_141 ?_
                        refine r_aload_n rfl dc_14_33_143 ?_
                        refine r_iload_n rfl dc_14_33_144 ?_
                        refine r_iload rfl dc_14_33_145 ?_
                        refine r_iload rfl dc_14_33_147 ?_
                        refine r_iload rfl dc_14_33_149 ?_
                        refine r_iload rfl dc_14_33_151 ?_
                        obtain ⟨q5, hme1⟩ := CD_met M hM io (va_up (va_up (va_up sg 49 e4) 50 e5) 48 q3) (nx := nx) (cm := cm) (w := w) hC hnx x hx (bv 0 a) (bv 1 b) (bv 2 c) (bv 3 d) (hB.2.1 0 (by decide) a h_a).2.1 (hB.2.1 1 (by decide) b h_b).2.1 (hB.2.1 2 (by decide) c h_c).2.1 (hB.2.1 3 (by decide) d h_d).2.1
                        refine q_calli (as := [.int (nI x), .int (nI (bv 0 a)), .int (nI (bv 1 b)), .int (nI (bv 2 c)), .int (nI (bv 3 d))]) (rest := []) (v := .int (pI (sp_met (w x) (cm x) (bv 0 a) (bv 1 b) (bv 2 c) (bv 3 d)))) (M1 := rf_mk M io (va_up (va_up (va_up (va_up sg 49 e4) 50 e5) 48 q3) 48 q5)) iv_13_v299 na_1_213 o_213 hM rfl (show (0 : Nat) ≤ 8 by decide) dc_14_33_153 (mm_Ev_up (by decide : 1 ≤ 3) (hme1)) ?_
                        rw [va_up_up]
                        refine r_ifeq (t := 178) (by decide) dc_14_33_156 (fun c_156 => ?_) (fun c_156 => ?_)
                        · skip
                          refine r_iinc (x := nI d) (v := nI (d + 1)) (ls' := [(7, .int (nI (d + 1))), (11, .int (nI (bv 3 d))), (10, .int (nI (bv 2 c))), (9, .int (nI (bv 1 b))), (8, .int (nI (bv 0 a))), (6, .int (nI c)), (5, .int (nI b)), (4, .int (nI a)), (0, .ref 100), (1, .int (nI x)), (2, .int (nI y)), (3, .int (nI wi))]) rfl (nI_1 _) (by decide) rfl dc_14_33_178 ?_
                          refine r_goto (t := 85) (by decide) dc_14_33_181 ?_
                          refine r_ls [(7, .int (nI (d + 1))), (6, .int (nI c)), (5, .int (nI b)), (4, .int (nI a)), (0, .ref 100), (1, .int (nI x)), (2, .int (nI y)), (3, .int (nI wi))] (mm_ndk_of [7, 6, 5, 4, 0, 1, 2, 3] rfl (by decide)) (mm_sub_cons rfl (mm_sub_cons rfl (mm_sub_cons rfl (mm_sub_cons rfl (mm_sub_cons rfl (mm_sub_cons rfl (mm_sub_cons rfl (mm_sub_cons rfl (mm_sub_nil _))))))))) ?_
                          exact ih_d q5 (fun i hi => if q : i = d then q ▸ (fun z => pI_eq0 c_156 z.1) else hi_d i (by omega))
                        · skip
                          refine r_aload_n rfl dc_14_33_159 ?_
                          refine r_iload_n rfl dc_14_33_160 ?_
                          refine r_iload rfl dc_14_33_161 ?_
                          refine r_iload rfl dc_14_33_163 ?_
                          refine r_iload rfl dc_14_33_165 ?_
                          refine r_iload rfl dc_14_33_167 ?_
                          obtain ⟨q6, hme2⟩ := CD_met M hM io (va_up (va_up (va_up sg 49 e4) 50 e5) 48 q5) (nx := nx) (cm := cm) (w := w) hC hnx y hy (bv 0 a) (bv 1 b) (bv 2 c) (bv 3 d) (hB.2.1 0 (by decide) a h_a).2.1 (hB.2.1 1 (by decide) b h_b).2.1 (hB.2.1 2 (by decide) c h_c).2.1 (hB.2.1 3 (by decide) d h_d).2.1
                          refine q_calli (as := [.int (nI y), .int (nI (bv 0 a)), .int (nI (bv 1 b)), .int (nI (bv 2 c)), .int (nI (bv 3 d))]) (rest := []) (v := .int (pI (sp_met (w y) (cm y) (bv 0 a) (bv 1 b) (bv 2 c) (bv 3 d)))) (M1 := rf_mk M io (va_up (va_up (va_up (va_up sg 49 e4) 50 e5) 48 q5) 48 q6)) iv_13_v299 na_1_213 o_213 hM rfl (show (0 : Nat) ≤ 8 by decide) dc_14_33_169 (mm_Ev_up (by decide : 1 ≤ 3) (hme2)) ?_
                          rw [va_up_up]
                          refine r_iload_n rfl dc_14_33_172 ?_
                          refine r_icne (t := 178) (by decide) dc_14_33_173 (fun c_173 => ?_) (fun c_173 => ?_)
                          · skip
                            refine r_iinc (x := nI d) (v := nI (d + 1)) (ls' := [(7, .int (nI (d + 1))), (11, .int (nI (bv 3 d))), (10, .int (nI (bv 2 c))), (9, .int (nI (bv 1 b))), (8, .int (nI (bv 0 a))), (6, .int (nI c)), (5, .int (nI b)), (4, .int (nI a)), (0, .ref 100), (1, .int (nI x)), (2, .int (nI y)), (3, .int (nI wi))]) rfl (nI_1 _) (by decide) rfl dc_14_33_178 ?_
                            refine r_goto (t := 85) (by decide) dc_14_33_181 ?_
                            refine r_ls [(7, .int (nI (d + 1))), (6, .int (nI c)), (5, .int (nI b)), (4, .int (nI a)), (0, .ref 100), (1, .int (nI x)), (2, .int (nI y)), (3, .int (nI wi))] (mm_ndk_of [7, 6, 5, 4, 0, 1, 2, 3] rfl (by decide)) (mm_sub_cons rfl (mm_sub_cons rfl (mm_sub_cons rfl (mm_sub_cons rfl (mm_sub_cons rfl (mm_sub_cons rfl (mm_sub_cons rfl (mm_sub_cons rfl (mm_sub_nil _))))))))) ?_
                            exact ih_d q6 (fun i hi => if q : i = d then q ▸ (fun z => c_173 z.2) else hi_d i (by omega))
                          · skip
                            refine r_iconst (v := nI 1) (by decide) dc_14_33_176 ?_
                            refine r_zret rfl (by decide) dc_14_33_177 ?_
                            rw [pI_t (P := sp_some (w x) (w y) (cm x) (cm y) wi) ⟨bv 0 a, bv 1 b, bv 2 c, bv 3 d, (som_B (hB.2.1 0 (by decide) a h_a).2.2), (som_B (hB.2.1 1 (by decide) b h_b).2.2), (som_B (hB.2.1 2 (by decide) c h_c).2.2), (som_B (hB.2.1 3 (by decide) d h_d).2.2), pI_ne c_156, c_173⟩]
                            exact ⟨_, _, _, rfl⟩
      · omega
    · intro m h_m ih_m b4 b5 hi_m
      show mm_Ru 3 (13, 12, false, prog_14_method_33_code, some .boolean) 3 [(4, .int (nI m)), (0, .ref 100), (1, .int (nI x)), (2, .int (nI y)), (3, .int (nI wi))] [] (rf_mk M io (va_up (va_up sg 49 b4) 50 b5)) (fun r9 => ∃ (c4 : Nat → Int32), ∃ (c5 : Nat → Int32), ∃ (q : Nat → Int32), r9 = ((some (.int (pI (sp_some (w x) (w y) (cm x) (cm y) wi))), rf_mk M io (va_up (va_up (va_up sg 49 c4) 50 c5) 48 q))))
      refine r_iload rfl dc_14_33_3 ?_
      refine r_iconst (v := nI 4) (by decide) dc_14_33_5 ?_
      refine r_ncge (t := 30) (by omega) (by omega) (by decide) dc_14_33_6 (fun c_6 => ?_) (fun c_6 => ?_)
      · omega
      · skip
        refine r_aload_n rfl dc_14_33_9 ?_
        refine q_get (v := .ref 132) rx_105 hM rfl dc_14_33_10 ?_
        refine r_iload rfl dc_14_33_13 ?_
        refine r_iconst (v := nI 0) (by decide) dc_14_33_15 ?_
        refine q_ist (e := m) (k := 50) (by decide) (by decide) hM rfl rfl (show m < 4 by omega) (by omega) dc_14_33_16 ?_
        rw [va_up_up]
        refine r_aload_n rfl dc_14_33_17 ?_
        refine r_iload rfl dc_14_33_18 ?_
        refine r_iconst (v := nI 0) (by decide) dc_14_33_20 ?_
        obtain ⟨c1, d1, hb1, hm1⟩ := c_marks M hM io sg m 0 (BS_new (fun v z => by omega) hi_m) (by omega) (by omega) (by omega) (by omega)
        refine q_callv (as := [.int (nI m), .int (nI 0)]) (rest := []) (M1 := rf_mk M io (va_up (va_up sg 49 c1) 50 d1)) iv_13_v306 na_1_216 o_216 hM rfl (show (0 : Nat) ≤ 8 by decide) dc_14_33_21 (mm_Ev_up (by decide : 2 ≤ 3) (hm1)) ?_
        refine r_iinc (x := nI m) (v := nI (m + 1)) (ls' := [(4, .int (nI (m + 1))), (0, .ref 100), (1, .int (nI x)), (2, .int (nI y)), (3, .int (nI wi))]) rfl (nI_1 _) (by decide) rfl dc_14_33_24 ?_
        refine r_goto (t := 3) (by decide) dc_14_33_27 ?_
        exact ih_m c1 d1 (BS_iff (fun l v _ => by constructor <;> intro z <;> (have := Nat.zero_le (mol m); omega)) (Nat.le_refl _) hb1)
  obtain ⟨z9, ⟨c4, c5, q, e9⟩, h9⟩ := hq9
  subst e9
  exact ⟨c4, c5, q, h9⟩
def sp_one (sg : Nat → Nat → Int32) (x y : Nat) : Prop := (sg 27 x = sg 27 y ∧ sg 28 x = sg 28 y ∨ sg 27 x = sg 28 y ∧ sg 28 x = sg 27 y) ∧ sg 32 x ≤ sg 33 y ∧ sg 32 y ≤ sg 33 x
set_option maxHeartbeats 4000000 in
theorem c_areOfOne (M : mH) (hM : 157 ≤ M.1) (io : Nat → Int32) (sg : Nat → Nat → Int32) (x y : Nat) (hx : x < 12) (hy : y < 12) : mm_Ev 1 219 [.ref 100, .int (nI x), .int (nI y)] (rf_mk M io sg) ((some (.int (pI (sp_one sg x y))), rf_mk M io sg)) := by
  refine r_ev (by decide +kernel) (show (3 : Nat) ≤ mm_nL 219 by decide +kernel) ?_
  show mm_Ru 0 (13, 4, false, prog_14_method_34_code, some .boolean) 0 [(0, .ref 100), (1, .int (nI x)), (2, .int (nI y))] [] (rf_mk M io sg) (fun r9 => r9 = ((some (.int (pI (sp_one sg x y))), rf_mk M io sg)))
  refine r_aload_n rfl dc_14_34_0 ?_
  refine q_get (v := .ref 118) rx_63 hM rfl dc_14_34_1 ?_
  refine r_iload_n rfl dc_14_34_4 ?_
  refine q_ild (e := x) (v := sg 27 x) (by decide) (by decide) hM rfl (show x < 12 by omega) (by omega) (rfl) dc_14_34_5 ?_
  refine r_aload_n rfl dc_14_34_6 ?_
  refine q_get (v := .ref 118) rx_63 hM rfl dc_14_34_7 ?_
  refine r_iload_n rfl dc_14_34_10 ?_
  refine q_ild (e := y) (v := sg 27 y) (by decide) (by decide) hM rfl (show y < 12 by omega) (by omega) (rfl) dc_14_34_11 ?_
  refine r_icne (t := 30) (by decide) dc_14_34_12 (fun c_12 => ?_) (fun c_12 => ?_)
  · skip
    refine r_aload_n rfl dc_14_34_30 ?_
    refine q_get (v := .ref 118) rx_63 hM rfl dc_14_34_31 ?_
    refine r_iload_n rfl dc_14_34_34 ?_
    refine q_ild (e := x) (v := sg 27 x) (by decide) (by decide) hM rfl (show x < 12 by omega) (by omega) (rfl) dc_14_34_35 ?_
    refine r_aload_n rfl dc_14_34_36 ?_
    refine q_get (v := .ref 119) rx_66 hM rfl dc_14_34_37 ?_
    refine r_iload_n rfl dc_14_34_40 ?_
    refine q_ild (e := y) (v := sg 28 y) (by decide) (by decide) hM rfl (show y < 12 by omega) (by omega) (rfl) dc_14_34_41 ?_
    refine r_icne (t := 64) (by decide) dc_14_34_42 (fun c_42 => ?_) (fun c_42 => ?_)
    · skip
      refine r_iconst (v := nI 0) (by decide) dc_14_34_64 ?_
      refine r_istore_n (ls' := [(3, .int (nI 0)), (0, .ref 100), (1, .int (nI x)), (2, .int (nI y))]) (by decide) rfl dc_14_34_65 ?_
      refine r_iload_n rfl dc_14_34_66 ?_
      refine r_ifeq (t := 104) (by decide) dc_14_34_67 (fun c_67 => ?_) (fun c_67 => ?_)
      · skip
        refine r_iconst (v := nI 0) (by decide) dc_14_34_104 ?_
        refine r_zret rfl (by decide) dc_14_34_105 ?_
        rw [pI_f (P := sp_one sg x y) (fun q => q.1.elim (fun z => c_12 z.1) (fun z => c_42 z.1))]
      · exact absurd c_67 (by decide)
    · skip
      refine r_aload_n rfl dc_14_34_45 ?_
      refine q_get (v := .ref 119) rx_66 hM rfl dc_14_34_46 ?_
      refine r_iload_n rfl dc_14_34_49 ?_
      refine q_ild (e := x) (v := sg 28 x) (by decide) (by decide) hM rfl (show x < 12 by omega) (by omega) (rfl) dc_14_34_50 ?_
      refine r_aload_n rfl dc_14_34_51 ?_
      refine q_get (v := .ref 118) rx_63 hM rfl dc_14_34_52 ?_
      refine r_iload_n rfl dc_14_34_55 ?_
      refine q_ild (e := y) (v := sg 27 y) (by decide) (by decide) hM rfl (show y < 12 by omega) (by omega) (rfl) dc_14_34_56 ?_
      refine r_icne (t := 64) (by decide) dc_14_34_57 (fun c_57 => ?_) (fun c_57 => ?_)
      · skip
        refine r_iconst (v := nI 0) (by decide) dc_14_34_64 ?_
        refine r_istore_n (ls' := [(3, .int (nI 0)), (0, .ref 100), (1, .int (nI x)), (2, .int (nI y))]) (by decide) rfl dc_14_34_65 ?_
        refine r_iload_n rfl dc_14_34_66 ?_
        refine r_ifeq (t := 104) (by decide) dc_14_34_67 (fun c_67 => ?_) (fun c_67 => ?_)
        · skip
          refine r_iconst (v := nI 0) (by decide) dc_14_34_104 ?_
          refine r_zret rfl (by decide) dc_14_34_105 ?_
          rw [pI_f (P := sp_one sg x y) (fun q => q.1.elim (fun z => c_12 z.1) (fun z => c_57 z.2))]
        · exact absurd c_67 (by decide)
      · skip
        refine r_iconst (v := nI 1) (by decide) dc_14_34_60 ?_
        refine r_goto (t := 65) (by decide) dc_14_34_61 ?_
        refine r_istore_n (ls' := [(3, .int (nI 1)), (0, .ref 100), (1, .int (nI x)), (2, .int (nI y))]) (by decide) rfl dc_14_34_65 ?_
        refine r_iload_n rfl dc_14_34_66 ?_
        refine r_ifeq (t := 104) (by decide) dc_14_34_67 (fun c_67 => ?_) (fun c_67 => ?_)
        · exact absurd c_67 (by decide)
        · skip
          refine r_aload_n rfl dc_14_34_70 ?_
          refine q_get (v := .ref 123) rx_78 hM rfl dc_14_34_71 ?_
          refine r_iload_n rfl dc_14_34_74 ?_
          refine q_ild (e := x) (v := sg 32 x) (by decide) (by decide) hM rfl (show x < 12 by omega) (by omega) (rfl) dc_14_34_75 ?_
          refine r_aload_n rfl dc_14_34_76 ?_
          refine q_get (v := .ref 124) rx_81 hM rfl dc_14_34_77 ?_
          refine r_iload_n rfl dc_14_34_80 ?_
          refine q_ild (e := y) (v := sg 33 y) (by decide) (by decide) hM rfl (show y < 12 by omega) (by omega) (rfl) dc_14_34_81 ?_
          refine r_icgt (t := 104) (by decide) dc_14_34_82 (fun c_82 => ?_) (fun c_82 => ?_)
          · skip
            refine r_iconst (v := nI 0) (by decide) dc_14_34_104 ?_
            refine r_zret rfl (by decide) dc_14_34_105 ?_
            rw [pI_f (P := sp_one sg x y) (fun q => absurd c_82 (Int32.not_lt.mpr q.2.1))]
          · skip
            refine r_aload_n rfl dc_14_34_85 ?_
            refine q_get (v := .ref 123) rx_78 hM rfl dc_14_34_86 ?_
            refine r_iload_n rfl dc_14_34_89 ?_
            refine q_ild (e := y) (v := sg 32 y) (by decide) (by decide) hM rfl (show y < 12 by omega) (by omega) (rfl) dc_14_34_90 ?_
            refine r_aload_n rfl dc_14_34_91 ?_
            refine q_get (v := .ref 124) rx_81 hM rfl dc_14_34_92 ?_
            refine r_iload_n rfl dc_14_34_95 ?_
            refine q_ild (e := x) (v := sg 33 x) (by decide) (by decide) hM rfl (show x < 12 by omega) (by omega) (rfl) dc_14_34_96 ?_
            refine r_icgt (t := 104) (by decide) dc_14_34_97 (fun c_97 => ?_) (fun c_97 => ?_)
            · skip
              refine r_iconst (v := nI 0) (by decide) dc_14_34_104 ?_
              refine r_zret rfl (by decide) dc_14_34_105 ?_
              rw [pI_f (P := sp_one sg x y) (fun q => absurd c_97 (Int32.not_lt.mpr q.2.2))]
            · skip
              refine r_iconst (v := nI 1) (by decide) dc_14_34_100 ?_
              refine r_goto (t := 105) (by decide) dc_14_34_101 ?_
              refine r_zret rfl (by decide) dc_14_34_105 ?_
              rw [pI_t (P := sp_one sg x y) ⟨Or.inr ⟨c_42, c_57⟩, Int32.not_lt.mp c_82, Int32.not_lt.mp c_97⟩]
  · skip
    refine r_aload_n rfl dc_14_34_15 ?_
    refine q_get (v := .ref 119) rx_66 hM rfl dc_14_34_16 ?_
    refine r_iload_n rfl dc_14_34_19 ?_
    refine q_ild (e := x) (v := sg 28 x) (by decide) (by decide) hM rfl (show x < 12 by omega) (by omega) (rfl) dc_14_34_20 ?_
    refine r_aload_n rfl dc_14_34_21 ?_
    refine q_get (v := .ref 119) rx_66 hM rfl dc_14_34_22 ?_
    refine r_iload_n rfl dc_14_34_25 ?_
    refine q_ild (e := y) (v := sg 28 y) (by decide) (by decide) hM rfl (show y < 12 by omega) (by omega) (rfl) dc_14_34_26 ?_
    refine r_iceq (t := 60) (by decide) dc_14_34_27 (fun c_27 => ?_) (fun c_27 => ?_)
    · skip
      refine r_iconst (v := nI 1) (by decide) dc_14_34_60 ?_
      refine r_goto (t := 65) (by decide) dc_14_34_61 ?_
      refine r_istore_n (ls' := [(3, .int (nI 1)), (0, .ref 100), (1, .int (nI x)), (2, .int (nI y))]) (by decide) rfl dc_14_34_65 ?_
      refine r_iload_n rfl dc_14_34_66 ?_
      refine r_ifeq (t := 104) (by decide) dc_14_34_67 (fun c_67 => ?_) (fun c_67 => ?_)
      · exact absurd c_67 (by decide)
      · skip
        refine r_aload_n rfl dc_14_34_70 ?_
        refine q_get (v := .ref 123) rx_78 hM rfl dc_14_34_71 ?_
        refine r_iload_n rfl dc_14_34_74 ?_
        refine q_ild (e := x) (v := sg 32 x) (by decide) (by decide) hM rfl (show x < 12 by omega) (by omega) (rfl) dc_14_34_75 ?_
        refine r_aload_n rfl dc_14_34_76 ?_
        refine q_get (v := .ref 124) rx_81 hM rfl dc_14_34_77 ?_
        refine r_iload_n rfl dc_14_34_80 ?_
        refine q_ild (e := y) (v := sg 33 y) (by decide) (by decide) hM rfl (show y < 12 by omega) (by omega) (rfl) dc_14_34_81 ?_
        refine r_icgt (t := 104) (by decide) dc_14_34_82 (fun c_82 => ?_) (fun c_82 => ?_)
        · skip
          refine r_iconst (v := nI 0) (by decide) dc_14_34_104 ?_
          refine r_zret rfl (by decide) dc_14_34_105 ?_
          rw [pI_f (P := sp_one sg x y) (fun q => absurd c_82 (Int32.not_lt.mpr q.2.1))]
        · skip
          refine r_aload_n rfl dc_14_34_85 ?_
          refine q_get (v := .ref 123) rx_78 hM rfl dc_14_34_86 ?_
          refine r_iload_n rfl dc_14_34_89 ?_
          refine q_ild (e := y) (v := sg 32 y) (by decide) (by decide) hM rfl (show y < 12 by omega) (by omega) (rfl) dc_14_34_90 ?_
          refine r_aload_n rfl dc_14_34_91 ?_
          refine q_get (v := .ref 124) rx_81 hM rfl dc_14_34_92 ?_
          refine r_iload_n rfl dc_14_34_95 ?_
          refine q_ild (e := x) (v := sg 33 x) (by decide) (by decide) hM rfl (show x < 12 by omega) (by omega) (rfl) dc_14_34_96 ?_
          refine r_icgt (t := 104) (by decide) dc_14_34_97 (fun c_97 => ?_) (fun c_97 => ?_)
          · skip
            refine r_iconst (v := nI 0) (by decide) dc_14_34_104 ?_
            refine r_zret rfl (by decide) dc_14_34_105 ?_
            rw [pI_f (P := sp_one sg x y) (fun q => absurd c_97 (Int32.not_lt.mpr q.2.2))]
          · skip
            refine r_iconst (v := nI 1) (by decide) dc_14_34_100 ?_
            refine r_goto (t := 105) (by decide) dc_14_34_101 ?_
            refine r_zret rfl (by decide) dc_14_34_105 ?_
            rw [pI_t (P := sp_one sg x y) ⟨Or.inl ⟨c_12, c_27⟩, Int32.not_lt.mp c_82, Int32.not_lt.mp c_97⟩]
    · skip
      refine r_aload_n rfl dc_14_34_30 ?_
      refine q_get (v := .ref 118) rx_63 hM rfl dc_14_34_31 ?_
      refine r_iload_n rfl dc_14_34_34 ?_
      refine q_ild (e := x) (v := sg 27 x) (by decide) (by decide) hM rfl (show x < 12 by omega) (by omega) (rfl) dc_14_34_35 ?_
      refine r_aload_n rfl dc_14_34_36 ?_
      refine q_get (v := .ref 119) rx_66 hM rfl dc_14_34_37 ?_
      refine r_iload_n rfl dc_14_34_40 ?_
      refine q_ild (e := y) (v := sg 28 y) (by decide) (by decide) hM rfl (show y < 12 by omega) (by omega) (rfl) dc_14_34_41 ?_
      refine r_icne (t := 64) (by decide) dc_14_34_42 (fun c_42 => ?_) (fun c_42 => ?_)
      · skip
        refine r_iconst (v := nI 0) (by decide) dc_14_34_64 ?_
        refine r_istore_n (ls' := [(3, .int (nI 0)), (0, .ref 100), (1, .int (nI x)), (2, .int (nI y))]) (by decide) rfl dc_14_34_65 ?_
        refine r_iload_n rfl dc_14_34_66 ?_
        refine r_ifeq (t := 104) (by decide) dc_14_34_67 (fun c_67 => ?_) (fun c_67 => ?_)
        · skip
          refine r_iconst (v := nI 0) (by decide) dc_14_34_104 ?_
          refine r_zret rfl (by decide) dc_14_34_105 ?_
          rw [pI_f (P := sp_one sg x y) (fun q => q.1.elim (fun z => c_27 z.2) (fun z => c_42 z.1))]
        · exact absurd c_67 (by decide)
      · skip
        refine r_aload_n rfl dc_14_34_45 ?_
        refine q_get (v := .ref 119) rx_66 hM rfl dc_14_34_46 ?_
        refine r_iload_n rfl dc_14_34_49 ?_
        refine q_ild (e := x) (v := sg 28 x) (by decide) (by decide) hM rfl (show x < 12 by omega) (by omega) (rfl) dc_14_34_50 ?_
        refine r_aload_n rfl dc_14_34_51 ?_
        refine q_get (v := .ref 118) rx_63 hM rfl dc_14_34_52 ?_
        refine r_iload_n rfl dc_14_34_55 ?_
        refine q_ild (e := y) (v := sg 27 y) (by decide) (by decide) hM rfl (show y < 12 by omega) (by omega) (rfl) dc_14_34_56 ?_
        refine r_icne (t := 64) (by decide) dc_14_34_57 (fun c_57 => ?_) (fun c_57 => ?_)
        · skip
          refine r_iconst (v := nI 0) (by decide) dc_14_34_64 ?_
          refine r_istore_n (ls' := [(3, .int (nI 0)), (0, .ref 100), (1, .int (nI x)), (2, .int (nI y))]) (by decide) rfl dc_14_34_65 ?_
          refine r_iload_n rfl dc_14_34_66 ?_
          refine r_ifeq (t := 104) (by decide) dc_14_34_67 (fun c_67 => ?_) (fun c_67 => ?_)
          · skip
            refine r_iconst (v := nI 0) (by decide) dc_14_34_104 ?_
            refine r_zret rfl (by decide) dc_14_34_105 ?_
            rw [pI_f (P := sp_one sg x y) (fun q => q.1.elim (fun z => c_27 z.2) (fun z => c_57 z.2))]
          · exact absurd c_67 (by decide)
        · skip
          refine r_iconst (v := nI 1) (by decide) dc_14_34_60 ?_
          refine r_goto (t := 65) (by decide) dc_14_34_61 ?_
          refine r_istore_n (ls' := [(3, .int (nI 1)), (0, .ref 100), (1, .int (nI x)), (2, .int (nI y))]) (by decide) rfl dc_14_34_65 ?_
          refine r_iload_n rfl dc_14_34_66 ?_
          refine r_ifeq (t := 104) (by decide) dc_14_34_67 (fun c_67 => ?_) (fun c_67 => ?_)
          · exact absurd c_67 (by decide)
          · skip
            refine r_aload_n rfl dc_14_34_70 ?_
            refine q_get (v := .ref 123) rx_78 hM rfl dc_14_34_71 ?_
            refine r_iload_n rfl dc_14_34_74 ?_
            refine q_ild (e := x) (v := sg 32 x) (by decide) (by decide) hM rfl (show x < 12 by omega) (by omega) (rfl) dc_14_34_75 ?_
            refine r_aload_n rfl dc_14_34_76 ?_
            refine q_get (v := .ref 124) rx_81 hM rfl dc_14_34_77 ?_
            refine r_iload_n rfl dc_14_34_80 ?_
            refine q_ild (e := y) (v := sg 33 y) (by decide) (by decide) hM rfl (show y < 12 by omega) (by omega) (rfl) dc_14_34_81 ?_
            refine r_icgt (t := 104) (by decide) dc_14_34_82 (fun c_82 => ?_) (fun c_82 => ?_)
            · skip
              refine r_iconst (v := nI 0) (by decide) dc_14_34_104 ?_
              refine r_zret rfl (by decide) dc_14_34_105 ?_
              rw [pI_f (P := sp_one sg x y) (fun q => absurd c_82 (Int32.not_lt.mpr q.2.1))]
            · skip
              refine r_aload_n rfl dc_14_34_85 ?_
              refine q_get (v := .ref 123) rx_78 hM rfl dc_14_34_86 ?_
              refine r_iload_n rfl dc_14_34_89 ?_
              refine q_ild (e := y) (v := sg 32 y) (by decide) (by decide) hM rfl (show y < 12 by omega) (by omega) (rfl) dc_14_34_90 ?_
              refine r_aload_n rfl dc_14_34_91 ?_
              refine q_get (v := .ref 124) rx_81 hM rfl dc_14_34_92 ?_
              refine r_iload_n rfl dc_14_34_95 ?_
              refine q_ild (e := x) (v := sg 33 x) (by decide) (by decide) hM rfl (show x < 12 by omega) (by omega) (rfl) dc_14_34_96 ?_
              refine r_icgt (t := 104) (by decide) dc_14_34_97 (fun c_97 => ?_) (fun c_97 => ?_)
              · skip
                refine r_iconst (v := nI 0) (by decide) dc_14_34_104 ?_
                refine r_zret rfl (by decide) dc_14_34_105 ?_
                rw [pI_f (P := sp_one sg x y) (fun q => absurd c_97 (Int32.not_lt.mpr q.2.2))]
              · skip
                refine r_iconst (v := nI 1) (by decide) dc_14_34_100 ?_
                refine r_goto (t := 105) (by decide) dc_14_34_101 ?_
                refine r_zret rfl (by decide) dc_14_34_105 ?_
                rw [pI_t (P := sp_one sg x y) ⟨Or.inr ⟨c_42, c_57⟩, Int32.not_lt.mp c_82, Int32.not_lt.mp c_97⟩]
set_option maxHeartbeats 4000000 in
theorem c_terms_0 (M : mH) (hM : 157 ≤ M.1) (io : Nat → Int32) (sg : Nat → Nat → Int32) (nx : Nat) (h4 : io 4 = nI nx) (hnx : nx ≤ 12) (cm : Nat → Nat) (w : Nat → Nat → Nat) (hC : CDok sg nx cm w) (x y : Nat) (hx : x < nx) (hy : y < nx) : ∃ (c4 : Nat → Int32), ∃ (c5 : Nat → Int32), ∃ (q : Nat → Int32), mm_Ev 5 214 [.ref 100, .int (nI x), .int (nI y), .int (nI 0)] (rf_mk M io sg) ((some (.int (pI (¬ sp_some (w x) (w x) (cm x) (cm x) 1))), rf_mk M io (va_up (va_up (va_up sg 49 c4) 50 c5) 48 q))) := by
  have hq9 : ∃ z, (fun r9 => ∃ (c4 : Nat → Int32), ∃ (c5 : Nat → Int32), ∃ (q : Nat → Int32), r9 = ((some (.int (pI (¬ sp_some (w x) (w x) (cm x) (cm x) 1))), rf_mk M io (va_up (va_up (va_up sg 49 c4) 50 c5) 48 q)))) z ∧ mm_Ev 5 214 [.ref 100, .int (nI x), .int (nI y), .int (nI 0)] (rf_mk M io sg) z := by
    refine r_evQ (by decide +kernel) (show (4 : Nat) ≤ mm_nL 214 by decide +kernel) ?_
    show mm_Ru 4 (13, 4, false, prog_14_method_35_code, some .int) 0 [(0, .ref 100), (1, .int (nI x)), (2, .int (nI y)), (3, .int (nI 0))] [] (rf_mk M io sg) (fun r9 => ∃ (c4 : Nat → Int32), ∃ (c5 : Nat → Int32), ∃ (q : Nat → Int32), r9 = ((some (.int (pI (¬ sp_some (w x) (w x) (cm x) (cm x) 1))), rf_mk M io (va_up (va_up (va_up sg 49 c4) 50 c5) 48 q))))
    refine r_aload_n rfl dc_14_35_0 ?_
    refine r_iload_n rfl dc_14_35_1 ?_
    refine q_calli (as := [.int (nI x)]) (rest := []) (v := .int (nI 1)) (M1 := rf_mk M io sg) iv_13_v296 na_1_212 o_212 hM rfl (show (0 : Nat) ≤ 8 by decide) dc_14_35_2 (mm_Ev_up (by decide : 1 ≤ 4) (c_isAgreementT M hM io sg nx h4 x (by omega) (by omega))) ?_
    refine r_ifeq (t := 16) (by decide) dc_14_35_5 (fun c_5 => ?_) (fun c_5 => ?_)
    · exact absurd c_5 (by decide)
    · skip
      refine r_aload_n rfl dc_14_35_8 ?_
      refine r_iload_n rfl dc_14_35_9 ?_
      refine q_calli (as := [.int (nI y)]) (rest := []) (v := .int (nI 1)) (M1 := rf_mk M io sg) iv_13_v296 na_1_212 o_212 hM rfl (show (0 : Nat) ≤ 8 by decide) dc_14_35_10 (mm_Ev_up (by decide : 1 ≤ 4) (c_isAgreementT M hM io sg nx h4 y (by omega) (by omega))) ?_
      refine r_ifne (t := 18) (by decide) dc_14_35_13 (fun c_13 => ?_) (fun c_13 => ?_)
      · skip
        refine r_iload_n rfl dc_14_35_18 ?_
        refine r_swIn (off := 25) (t := 44) (by decide +kernel) (by decide +kernel) (by decide +kernel) (by decide) dc_14_35_19 ?_
        refine r_aload_n rfl dc_14_35_44 ?_
        refine r_iload_n rfl dc_14_35_45 ?_
        refine r_iload_n rfl dc_14_35_46 ?_
        refine r_iconst (v := nI 1) (by decide) dc_14_35_47 ?_
        obtain ⟨g4, g5, g6, hso⟩ := c_isSome M hM io sg nx hnx cm w hC x x 1 (by omega) (by omega) (by decide)
        refine q_calli (as := [.int (nI x), .int (nI x), .int (nI 1)]) (rest := []) (v := .int (pI (sp_some (w x) (w x) (cm x) (cm x) 1))) (M1 := rf_mk M io (va_up (va_up (va_up sg 49 g4) 50 g5) 48 g6)) iv_13_v313 na_1_215 o_215 hM rfl (show (0 : Nat) ≤ 8 by decide) dc_14_35_48 (hso) ?_
        refine r_ifeq (t := 58) (by decide) dc_14_35_51 (fun c_51 => ?_) (fun c_51 => ?_)
        · skip
          refine r_iconst (v := nI 1) (by decide) dc_14_35_58 ?_
          refine r_iret rfl dc_14_35_59 ?_
          rw [pI_t (pI_eq0 c_51)]
          exact ⟨g4, g5, g6, rfl⟩
        · skip
          refine r_iconst (v := nI 0) (by decide) dc_14_35_54 ?_
          refine r_goto (t := 59) (by decide) dc_14_35_55 ?_
          refine r_iret rfl dc_14_35_59 ?_
          rw [pI_f (fun q => q (pI_ne c_51))]
          exact ⟨g4, g5, g6, rfl⟩
      · exact absurd c_13 (by decide)
  obtain ⟨z9, ⟨c4, c5, q, e9⟩, h9⟩ := hq9
  subst e9
  exact ⟨c4, c5, q, h9⟩
set_option maxHeartbeats 4000000 in
theorem c_terms_1 (M : mH) (hM : 157 ≤ M.1) (io : Nat → Int32) (sg : Nat → Nat → Int32) (nx : Nat) (h4 : io 4 = nI nx) (hnx : nx ≤ 12) (cm : Nat → Nat) (w : Nat → Nat → Nat) (hC : CDok sg nx cm w) (x y : Nat) (hx : x < nx) (hy : y < nx) : ∃ (c4 : Nat → Int32), ∃ (c5 : Nat → Int32), ∃ (q : Nat → Int32), mm_Ev 5 214 [.ref 100, .int (nI x), .int (nI y), .int (nI 1)] (rf_mk M io sg) ((some (.int (pI (¬ sp_some (w y) (w x) (cm y) (cm x) 0))), rf_mk M io (va_up (va_up (va_up sg 49 c4) 50 c5) 48 q))) := by
  have hq9 : ∃ z, (fun r9 => ∃ (c4 : Nat → Int32), ∃ (c5 : Nat → Int32), ∃ (q : Nat → Int32), r9 = ((some (.int (pI (¬ sp_some (w y) (w x) (cm y) (cm x) 0))), rf_mk M io (va_up (va_up (va_up sg 49 c4) 50 c5) 48 q)))) z ∧ mm_Ev 5 214 [.ref 100, .int (nI x), .int (nI y), .int (nI 1)] (rf_mk M io sg) z := by
    refine r_evQ (by decide +kernel) (show (4 : Nat) ≤ mm_nL 214 by decide +kernel) ?_
    show mm_Ru 4 (13, 4, false, prog_14_method_35_code, some .int) 0 [(0, .ref 100), (1, .int (nI x)), (2, .int (nI y)), (3, .int (nI 1))] [] (rf_mk M io sg) (fun r9 => ∃ (c4 : Nat → Int32), ∃ (c5 : Nat → Int32), ∃ (q : Nat → Int32), r9 = ((some (.int (pI (¬ sp_some (w y) (w x) (cm y) (cm x) 0))), rf_mk M io (va_up (va_up (va_up sg 49 c4) 50 c5) 48 q))))
    refine r_aload_n rfl dc_14_35_0 ?_
    refine r_iload_n rfl dc_14_35_1 ?_
    refine q_calli (as := [.int (nI x)]) (rest := []) (v := .int (nI 1)) (M1 := rf_mk M io sg) iv_13_v296 na_1_212 o_212 hM rfl (show (0 : Nat) ≤ 8 by decide) dc_14_35_2 (mm_Ev_up (by decide : 1 ≤ 4) (c_isAgreementT M hM io sg nx h4 x (by omega) (by omega))) ?_
    refine r_ifeq (t := 16) (by decide) dc_14_35_5 (fun c_5 => ?_) (fun c_5 => ?_)
    · exact absurd c_5 (by decide)
    · skip
      refine r_aload_n rfl dc_14_35_8 ?_
      refine r_iload_n rfl dc_14_35_9 ?_
      refine q_calli (as := [.int (nI y)]) (rest := []) (v := .int (nI 1)) (M1 := rf_mk M io sg) iv_13_v296 na_1_212 o_212 hM rfl (show (0 : Nat) ≤ 8 by decide) dc_14_35_10 (mm_Ev_up (by decide : 1 ≤ 4) (c_isAgreementT M hM io sg nx h4 y (by omega) (by omega))) ?_
      refine r_ifne (t := 18) (by decide) dc_14_35_13 (fun c_13 => ?_) (fun c_13 => ?_)
      · skip
        refine r_iload_n rfl dc_14_35_18 ?_
        refine r_swIn (off := 41) (t := 60) (by decide +kernel) (by decide +kernel) (by decide +kernel) (by decide) dc_14_35_19 ?_
        refine r_aload_n rfl dc_14_35_60 ?_
        refine r_iload_n rfl dc_14_35_61 ?_
        refine r_iload_n rfl dc_14_35_62 ?_
        refine r_iconst (v := nI 0) (by decide) dc_14_35_63 ?_
        obtain ⟨g4, g5, g6, hso⟩ := c_isSome M hM io sg nx hnx cm w hC y x 0 (by omega) (by omega) (by decide)
        refine q_calli (as := [.int (nI y), .int (nI x), .int (nI 0)]) (rest := []) (v := .int (pI (sp_some (w y) (w x) (cm y) (cm x) 0))) (M1 := rf_mk M io (va_up (va_up (va_up sg 49 g4) 50 g5) 48 g6)) iv_13_v313 na_1_215 o_215 hM rfl (show (0 : Nat) ≤ 8 by decide) dc_14_35_64 (hso) ?_
        refine r_ifeq (t := 74) (by decide) dc_14_35_67 (fun c_67 => ?_) (fun c_67 => ?_)
        · skip
          refine r_iconst (v := nI 1) (by decide) dc_14_35_74 ?_
          refine r_iret rfl dc_14_35_75 ?_
          rw [pI_t (pI_eq0 c_67)]
          exact ⟨g4, g5, g6, rfl⟩
        · skip
          refine r_iconst (v := nI 0) (by decide) dc_14_35_70 ?_
          refine r_goto (t := 75) (by decide) dc_14_35_71 ?_
          refine r_iret rfl dc_14_35_75 ?_
          rw [pI_f (fun q => q (pI_ne c_67))]
          exact ⟨g4, g5, g6, rfl⟩
      · exact absurd c_13 (by decide)
  obtain ⟨z9, ⟨c4, c5, q, e9⟩, h9⟩ := hq9
  subst e9
  exact ⟨c4, c5, q, h9⟩
set_option maxHeartbeats 4000000 in
theorem c_terms_2 (M : mH) (hM : 157 ≤ M.1) (io : Nat → Int32) (sg : Nat → Nat → Int32) (nx : Nat) (h4 : io 4 = nI nx) (hnx : nx ≤ 12) (cm : Nat → Nat) (w : Nat → Nat → Nat) (hC : CDok sg nx cm w) (x y : Nat) (hx : x < nx) (hy : y < nx) : ∃ (c4 : Nat → Int32), ∃ (c5 : Nat → Int32), ∃ (q : Nat → Int32), mm_Ev 5 214 [.ref 100, .int (nI x), .int (nI y), .int (nI 2)] (rf_mk M io sg) ((some (.int (pI (sp_one sg x y ∧ ¬ sp_some (w x) (w y) (cm x) (cm y) 1))), rf_mk M io (va_up (va_up (va_up sg 49 c4) 50 c5) 48 q))) := by
  have hq9 : ∃ z, (fun r9 => ∃ (c4 : Nat → Int32), ∃ (c5 : Nat → Int32), ∃ (q : Nat → Int32), r9 = ((some (.int (pI (sp_one sg x y ∧ ¬ sp_some (w x) (w y) (cm x) (cm y) 1))), rf_mk M io (va_up (va_up (va_up sg 49 c4) 50 c5) 48 q)))) z ∧ mm_Ev 5 214 [.ref 100, .int (nI x), .int (nI y), .int (nI 2)] (rf_mk M io sg) z := by
    refine r_evQ (by decide +kernel) (show (4 : Nat) ≤ mm_nL 214 by decide +kernel) ?_
    show mm_Ru 4 (13, 4, false, prog_14_method_35_code, some .int) 0 [(0, .ref 100), (1, .int (nI x)), (2, .int (nI y)), (3, .int (nI 2))] [] (rf_mk M io sg) (fun r9 => ∃ (c4 : Nat → Int32), ∃ (c5 : Nat → Int32), ∃ (q : Nat → Int32), r9 = ((some (.int (pI (sp_one sg x y ∧ ¬ sp_some (w x) (w y) (cm x) (cm y) 1))), rf_mk M io (va_up (va_up (va_up sg 49 c4) 50 c5) 48 q))))
    refine r_aload_n rfl dc_14_35_0 ?_
    refine r_iload_n rfl dc_14_35_1 ?_
    refine q_calli (as := [.int (nI x)]) (rest := []) (v := .int (nI 1)) (M1 := rf_mk M io sg) iv_13_v296 na_1_212 o_212 hM rfl (show (0 : Nat) ≤ 8 by decide) dc_14_35_2 (mm_Ev_up (by decide : 1 ≤ 4) (c_isAgreementT M hM io sg nx h4 x (by omega) (by omega))) ?_
    refine r_ifeq (t := 16) (by decide) dc_14_35_5 (fun c_5 => ?_) (fun c_5 => ?_)
    · exact absurd c_5 (by decide)
    · skip
      refine r_aload_n rfl dc_14_35_8 ?_
      refine r_iload_n rfl dc_14_35_9 ?_
      refine q_calli (as := [.int (nI y)]) (rest := []) (v := .int (nI 1)) (M1 := rf_mk M io sg) iv_13_v296 na_1_212 o_212 hM rfl (show (0 : Nat) ≤ 8 by decide) dc_14_35_10 (mm_Ev_up (by decide : 1 ≤ 4) (c_isAgreementT M hM io sg nx h4 y (by omega) (by omega))) ?_
      refine r_ifne (t := 18) (by decide) dc_14_35_13 (fun c_13 => ?_) (fun c_13 => ?_)
      · skip
        refine r_iload_n rfl dc_14_35_18 ?_
        refine r_swIn (off := 57) (t := 76) (by decide +kernel) (by decide +kernel) (by decide +kernel) (by decide) dc_14_35_19 ?_
        refine r_aload_n rfl dc_14_35_76 ?_
        refine r_iload_n rfl dc_14_35_77 ?_
        refine r_iload_n rfl dc_14_35_78 ?_
        refine q_calli (as := [.int (nI x), .int (nI y)]) (rest := []) (v := .int (pI (sp_one sg x y))) (M1 := rf_mk M io sg) iv_13_v317 na_1_219 o_219 hM rfl (show (0 : Nat) ≤ 8 by decide) dc_14_35_79 (mm_Ev_up (by decide : 1 ≤ 4) (c_areOfOne M hM io sg x y (by omega) (by omega))) ?_
        refine r_ifeq (t := 99) (by decide) dc_14_35_82 (fun c_82 => ?_) (fun c_82 => ?_)
        · skip
          refine r_iconst (v := nI 0) (by decide) dc_14_35_99 ?_
          refine r_iret rfl dc_14_35_100 ?_
          rw [pI_f (fun q => pI_eq0 c_82 q.1)]
          exact ⟨sg 49, sg 50, sg 48, by rw [va_up_id3]⟩
        · skip
          refine r_aload_n rfl dc_14_35_85 ?_
          refine r_iload_n rfl dc_14_35_86 ?_
          refine r_iload_n rfl dc_14_35_87 ?_
          refine r_iconst (v := nI 1) (by decide) dc_14_35_88 ?_
          obtain ⟨g4, g5, g6, hso⟩ := c_isSome M hM io sg nx hnx cm w hC x y 1 (by omega) (by omega) (by decide)
          refine q_calli (as := [.int (nI x), .int (nI y), .int (nI 1)]) (rest := []) (v := .int (pI (sp_some (w x) (w y) (cm x) (cm y) 1))) (M1 := rf_mk M io (va_up (va_up (va_up sg 49 g4) 50 g5) 48 g6)) iv_13_v313 na_1_215 o_215 hM rfl (show (0 : Nat) ≤ 8 by decide) dc_14_35_89 (hso) ?_
          refine r_ifne (t := 99) (by decide) dc_14_35_92 (fun c_92 => ?_) (fun c_92 => ?_)
          · skip
            refine r_iconst (v := nI 0) (by decide) dc_14_35_99 ?_
            refine r_iret rfl dc_14_35_100 ?_
            rw [pI_f (fun q => q.2 (pI_ne c_92))]
            exact ⟨g4, g5, g6, rfl⟩
          · skip
            refine r_iconst (v := nI 1) (by decide) dc_14_35_95 ?_
            refine r_goto (t := 100) (by decide) dc_14_35_96 ?_
            refine r_iret rfl dc_14_35_100 ?_
            rw [pI_t ⟨pI_ne c_82, pI_eq0 c_92⟩]
            exact ⟨g4, g5, g6, rfl⟩
      · exact absurd c_13 (by decide)
  obtain ⟨z9, ⟨c4, c5, q, e9⟩, h9⟩ := hq9
  subst e9
  exact ⟨c4, c5, q, h9⟩
set_option maxHeartbeats 4000000 in
theorem c_terms_x (M : mH) (hM : 157 ≤ M.1) (io : Nat → Int32) (sg : Nat → Nat → Int32) (nx : Nat) (h4 : io 4 = nI nx) (hnx : nx ≤ 12) (x y : Nat) (v : Int32) (hx : x < nx) (hy : y < nx) (hw : v.toInt < 0 ∨ 2 < v.toInt) : mm_Ev 2 214 [.ref 100, .int (nI x), .int (nI y), .int v] (rf_mk M io sg) ((some (.int (-1)), rf_mk M io sg)) := by
  refine r_ev (by decide +kernel) (show (4 : Nat) ≤ mm_nL 214 by decide +kernel) ?_
  show mm_Ru 1 (13, 4, false, prog_14_method_35_code, some .int) 0 [(0, .ref 100), (1, .int (nI x)), (2, .int (nI y)), (3, .int v)] [] (rf_mk M io sg) (fun r9 => r9 = ((some (.int (-1)), rf_mk M io sg)))
  refine r_aload_n rfl dc_14_35_0 ?_
  refine r_iload_n rfl dc_14_35_1 ?_
  refine q_calli (as := [.int (nI x)]) (rest := []) (v := .int (nI 1)) (M1 := rf_mk M io sg) iv_13_v296 na_1_212 o_212 hM rfl (show (0 : Nat) ≤ 8 by decide) dc_14_35_2 (c_isAgreementT M hM io sg nx h4 x (by omega) (by omega)) ?_
  refine r_ifeq (t := 16) (by decide) dc_14_35_5 (fun c_5 => ?_) (fun c_5 => ?_)
  · exact absurd c_5 (by decide)
  · skip
    refine r_aload_n rfl dc_14_35_8 ?_
    refine r_iload_n rfl dc_14_35_9 ?_
    refine q_calli (as := [.int (nI y)]) (rest := []) (v := .int (nI 1)) (M1 := rf_mk M io sg) iv_13_v296 na_1_212 o_212 hM rfl (show (0 : Nat) ≤ 8 by decide) dc_14_35_10 (c_isAgreementT M hM io sg nx h4 y (by omega) (by omega)) ?_
    refine r_ifne (t := 18) (by decide) dc_14_35_13 (fun c_13 => ?_) (fun c_13 => ?_)
    · skip
      refine r_iload_n rfl dc_14_35_18 ?_
      refine r_swOut (t := 101) (hw) (by decide) dc_14_35_19 ?_
      refine r_iconst (v := -1) (by decide) dc_14_35_101 ?_
      exact r_iret rfl dc_14_35_102 (rfl)
    · exact absurd c_13 (by decide)
set_option maxHeartbeats 4000000 in
theorem c_terms_no (M : mH) (hM : 157 ≤ M.1) (io : Nat → Int32) (sg : Nat → Nat → Int32) (x y v : Int32) (hno : ¬ ((0 ≤ x ∧ x < io 4) ∧ (0 ≤ y ∧ y < io 4))) : mm_Ev 2 214 [.ref 100, .int x, .int y, .int v] (rf_mk M io sg) ((some (.int (-1)), rf_mk M io sg)) := by
  refine r_ev (by decide +kernel) (show (4 : Nat) ≤ mm_nL 214 by decide +kernel) ?_
  show mm_Ru 1 (13, 4, false, prog_14_method_35_code, some .int) 0 [(0, .ref 100), (1, .int x), (2, .int y), (3, .int v)] [] (rf_mk M io sg) (fun r9 => r9 = ((some (.int (-1)), rf_mk M io sg)))
  refine r_aload_n rfl dc_14_35_0 ?_
  refine r_iload_n rfl dc_14_35_1 ?_
  refine q_calli (as := [.int x]) (rest := []) (v := .int (sp_is x (io 4))) (M1 := rf_mk M io sg) iv_13_v296 na_1_212 o_212 hM rfl (show (0 : Nat) ≤ 8 by decide) dc_14_35_2 (c_isAgreement M hM io sg x) ?_
  refine r_ifeq (t := 16) (by decide) dc_14_35_5 (fun c_5 => ?_) (fun c_5 => ?_)
  · skip
    refine r_iconst (v := -1) (by decide) dc_14_35_16 ?_
    exact r_iret rfl dc_14_35_17 (rfl)
  · skip
    refine r_aload_n rfl dc_14_35_8 ?_
    refine r_iload_n rfl dc_14_35_9 ?_
    refine q_calli (as := [.int y]) (rest := []) (v := .int (sp_is y (io 4))) (M1 := rf_mk M io sg) iv_13_v296 na_1_212 o_212 hM rfl (show (0 : Nat) ≤ 8 by decide) dc_14_35_10 (c_isAgreement M hM io sg y) ?_
    refine r_ifne (t := 18) (by decide) dc_14_35_13 (fun c_13 => ?_) (fun c_13 => ?_)
    · skip
      exact absurd (⟨sp_is_ne c_5, sp_is_ne c_13⟩) hno
    · skip
      refine r_iconst (v := -1) (by decide) dc_14_35_16 ?_
      exact r_iret rfl dc_14_35_17 (rfl)
def sp_join (sg : Nat → Nat → Int32) (s x : Nat) (h : Int32) : Prop := sg 27 x = sg 51 s ∧ sg 28 x = h ∨ sg 27 x = h ∧ sg 28 x = sg 51 s
def sp_mayP (io : Nat → Int32) (sg : Nat → Nat → Int32) (cm : Nat → Nat) (w : Nat → Nat → Nat) (s : Nat) (h : Int32) (g lv c u x : Nat) : Prop := sp_join sg s x h ∧ ¬ sp_inf io sg x = 0 ∧ sp_met (w x) (cm x) g lv c u
set_option maxHeartbeats 4000000 in
theorem c_mayBy (M : mH) (hM : 157 ≤ M.1) (io : Nat → Int32) (sg : Nat → Nat → Int32) (nx : Nat) (h4 : io 4 = nI nx) (hnx : nx ≤ 12) (cm : Nat → Nat) (w : Nat → Nat → Nat) (hC : CDok sg nx cm w) (s h tg g lv c u : Nat) (hs : s < 16) (hh : h < 8) (htg : sg 10 h = nI tg) (ht4 : tg < 4) (h53 : sg 53 s = nI g) (hg : g ≤ 100) (hlv : sp_lev sg s tg = nI lv) (hl9 : lv ≤ 9) (h54 : sg 54 s = nI c) (hc : c ≤ 99) (h52 : sg 52 s = nI u) (hu : u ≤ 7) : ∃ (q : Nat → Int32), mm_Ev 2 226 [.ref 100, .int (nI s), .int (nI h)] (rf_mk M io sg) ((some (.int (sp_fst (sp_mayP io sg cm w s (nI h) g lv c u) nx)), rf_mk M io (va_up sg 48 q))) := by
  have hq9 : ∃ z, (fun r9 => ∃ (q : Nat → Int32), r9 = ((some (.int (sp_fst (sp_mayP io sg cm w s (nI h) g lv c u) nx)), rf_mk M io (va_up sg 48 q)))) z ∧ mm_Ev 2 226 [.ref 100, .int (nI s), .int (nI h)] (rf_mk M io sg) z := by
    refine r_evQ (by decide +kernel) (show (3 : Nat) ≤ mm_nL 226 by decide +kernel) ?_
    show mm_Ru 1 (13, 5, false, prog_14_method_43_code, some .int) 0 [(0, .ref 100), (1, .int (nI s)), (2, .int (nI h))] [] (rf_mk M io sg) (fun r9 => ∃ (q : Nat → Int32), r9 = ((some (.int (sp_fst (sp_mayP io sg cm w s (nI h) g lv c u) nx)), rf_mk M io (va_up sg 48 q))))
    refine r_iconst (v := nI 0) (by decide) dc_14_43_0 ?_
    refine r_istore_n (ls' := [(3, .int (nI 0)), (0, .ref 100), (1, .int (nI s)), (2, .int (nI h))]) (by decide) rfl dc_14_43_1 ?_
    rw [show rf_mk M io sg = rf_mk M io (va_up sg 48 (sg 48)) from (congrArg (rf_mk M io) (va_up_id sg 48)).symm]
    refine mm_cnt (P := fun m => ∀ (q : Nat → Int32), (∀ i, i < m → ¬ sp_mayP io sg cm w s (nI h) g lv c u i) → mm_Ru 1 (13, 5, false, prog_14_method_43_code, some .int) 2 [(3, .int (nI m)), (0, .ref 100), (1, .int (nI s)), (2, .int (nI h))] [] (rf_mk M io (va_up sg 48 q)) (fun r9 => ∃ (q : Nat → Int32), r9 = ((some (.int (sp_fst (sp_mayP io sg cm w s (nI h) g lv c u) nx)), rf_mk M io (va_up sg 48 q))))) nx ?_ ?_ 0 (by omega) (sg 48) (fun j hj => absurd hj (Nat.not_lt_zero j))
    · intro q hi_m
      show mm_Ru 1 (13, 5, false, prog_14_method_43_code, some .int) 2 [(3, .int (nI nx)), (0, .ref 100), (1, .int (nI s)), (2, .int (nI h))] [] (rf_mk M io (va_up sg 48 q)) (fun r9 => ∃ (q : Nat → Int32), r9 = ((some (.int (sp_fst (sp_mayP io sg cm w s (nI h) g lv c u) nx)), rf_mk M io (va_up sg 48 q))))
      refine r_iload_n rfl dc_14_43_2 ?_
      refine r_aload_n rfl dc_14_43_3 ?_
      refine q_get (v := .int (nI nx)) rx_290 hM (congrArg (fun z => some (Value.int z)) (h4)) dc_14_43_4 ?_
      refine r_ncge (t := 120) (by omega) (by omega) (by decide) dc_14_43_7 (fun c_7 => ?_) (fun c_7 => ?_)
      · skip
        refine r_iconst (v := -1) (by decide) dc_14_43_120 ?_
        refine r_iret rfl dc_14_43_121 ?_
        rw [sp_fst_no hi_m]
        exact ⟨q, rfl⟩
      · omega
    · intro m h_m ih_m q hi_m
      show mm_Ru 1 (13, 5, false, prog_14_method_43_code, some .int) 2 [(3, .int (nI m)), (0, .ref 100), (1, .int (nI s)), (2, .int (nI h))] [] (rf_mk M io (va_up sg 48 q)) (fun r9 => ∃ (q : Nat → Int32), r9 = ((some (.int (sp_fst (sp_mayP io sg cm w s (nI h) g lv c u) nx)), rf_mk M io (va_up sg 48 q))))
      refine r_iload_n rfl dc_14_43_2 ?_
      refine r_aload_n rfl dc_14_43_3 ?_
      refine q_get (v := .int (nI nx)) rx_290 hM (congrArg (fun z => some (Value.int z)) (h4)) dc_14_43_4 ?_
      refine r_ncge (t := 120) (by omega) (by omega) (by decide) dc_14_43_7 (fun c_7 => ?_) (fun c_7 => ?_)
      · omega
      · skip
        refine r_aload_n rfl dc_14_43_10 ?_
        refine q_get (v := .ref 118) rx_63 hM rfl dc_14_43_11 ?_
        refine r_iload_n rfl dc_14_43_14 ?_
        refine q_ild (e := m) (v := (va_up sg 48 q) 27 m) (by decide) (by decide) hM rfl (show m < 12 by omega) (by omega) (rfl) dc_14_43_15 ?_
        refine r_aload_n rfl dc_14_43_16 ?_
        refine q_get (v := .ref 133) rx_108 hM rfl dc_14_43_17 ?_
        refine r_iload_n rfl dc_14_43_20 ?_
        refine q_ild (e := s) (v := (va_up sg 48 q) 51 s) (by decide) (by decide) hM rfl (show s < 16 by omega) (by omega) (rfl) dc_14_43_21 ?_
        refine r_icne (t := 35) (by decide) dc_14_43_22 (fun c_22 => ?_) (fun c_22 => ?_)
        · skip
          refine r_aload_n rfl dc_14_43_35 ?_
          refine q_get (v := .ref 118) rx_63 hM rfl dc_14_43_36 ?_
          refine r_iload_n rfl dc_14_43_39 ?_
          refine q_ild (e := m) (v := (va_up sg 48 q) 27 m) (by decide) (by decide) hM rfl (show m < 12 by omega) (by omega) (rfl) dc_14_43_40 ?_
          refine r_iload_n rfl dc_14_43_41 ?_
          refine r_icne (t := 64) (by decide) dc_14_43_42 (fun c_42 => ?_) (fun c_42 => ?_)
          · skip
            refine r_iconst (v := nI 0) (by decide) dc_14_43_64 ?_
            refine r_istore (ls' := [(4, .int (nI 0)), (3, .int (nI m)), (0, .ref 100), (1, .int (nI s)), (2, .int (nI h))]) (by decide) rfl dc_14_43_65 ?_
            refine r_iload rfl dc_14_43_67 ?_
            refine r_ifeq (t := 114) (by decide) dc_14_43_69 (fun c_69 => ?_) (fun c_69 => ?_)
            · skip
              refine r_iinc (x := nI m) (v := nI (m + 1)) (ls' := [(3, .int (nI (m + 1))), (4, .int (nI 0)), (0, .ref 100), (1, .int (nI s)), (2, .int (nI h))]) rfl (nI_1 _) (by decide) rfl dc_14_43_114 ?_
              refine r_goto (t := 2) (by decide) dc_14_43_117 ?_
              refine r_ls [(3, .int (nI (m + 1))), (0, .ref 100), (1, .int (nI s)), (2, .int (nI h))] (mm_ndk_of [3, 0, 1, 2] rfl (by decide)) (mm_sub_cons rfl (mm_sub_cons rfl (mm_sub_cons rfl (mm_sub_cons rfl (mm_sub_nil _))))) ?_
              exact ih_m q (fun i hi => if e : i = m then e ▸ (fun z => z.1.elim (fun a => c_22 a.1) (fun a => c_42 a.1)) else hi_m i (by omega))
            · exact absurd c_69 (by decide)
          · skip
            refine r_aload_n rfl dc_14_43_45 ?_
            refine q_get (v := .ref 119) rx_66 hM rfl dc_14_43_46 ?_
            refine r_iload_n rfl dc_14_43_49 ?_
            refine q_ild (e := m) (v := (va_up sg 48 q) 28 m) (by decide) (by decide) hM rfl (show m < 12 by omega) (by omega) (rfl) dc_14_43_50 ?_
            refine r_aload_n rfl dc_14_43_51 ?_
            refine q_get (v := .ref 133) rx_108 hM rfl dc_14_43_52 ?_
            refine r_iload_n rfl dc_14_43_55 ?_
            refine q_ild (e := s) (v := (va_up sg 48 q) 51 s) (by decide) (by decide) hM rfl (show s < 16 by omega) (by omega) (rfl) dc_14_43_56 ?_
            refine r_icne (t := 64) (by decide) dc_14_43_57 (fun c_57 => ?_) (fun c_57 => ?_)
            · skip
              refine r_iconst (v := nI 0) (by decide) dc_14_43_64 ?_
              refine r_istore (ls' := [(4, .int (nI 0)), (3, .int (nI m)), (0, .ref 100), (1, .int (nI s)), (2, .int (nI h))]) (by decide) rfl dc_14_43_65 ?_
              refine r_iload rfl dc_14_43_67 ?_
              refine r_ifeq (t := 114) (by decide) dc_14_43_69 (fun c_69 => ?_) (fun c_69 => ?_)
              · skip
                refine r_iinc (x := nI m) (v := nI (m + 1)) (ls' := [(3, .int (nI (m + 1))), (4, .int (nI 0)), (0, .ref 100), (1, .int (nI s)), (2, .int (nI h))]) rfl (nI_1 _) (by decide) rfl dc_14_43_114 ?_
                refine r_goto (t := 2) (by decide) dc_14_43_117 ?_
                refine r_ls [(3, .int (nI (m + 1))), (0, .ref 100), (1, .int (nI s)), (2, .int (nI h))] (mm_ndk_of [3, 0, 1, 2] rfl (by decide)) (mm_sub_cons rfl (mm_sub_cons rfl (mm_sub_cons rfl (mm_sub_cons rfl (mm_sub_nil _))))) ?_
                exact ih_m q (fun i hi => if e : i = m then e ▸ (fun z => z.1.elim (fun a => c_22 a.1) (fun a => c_57 a.2)) else hi_m i (by omega))
              · exact absurd c_69 (by decide)
            · skip
              refine r_iconst (v := nI 1) (by decide) dc_14_43_60 ?_
              refine r_goto (t := 65) (by decide) dc_14_43_61 ?_
              refine r_istore (ls' := [(4, .int (nI 1)), (3, .int (nI m)), (0, .ref 100), (1, .int (nI s)), (2, .int (nI h))]) (by decide) rfl dc_14_43_65 ?_
              refine r_iload rfl dc_14_43_67 ?_
              refine r_ifeq (t := 114) (by decide) dc_14_43_69 (fun c_69 => ?_) (fun c_69 => ?_)
              · exact absurd c_69 (by decide)
              · skip
                refine r_aload_n rfl dc_14_43_72 ?_
                refine r_iload_n rfl dc_14_43_73 ?_
                refine q_calli (as := [.int (nI m)]) (rest := []) (v := .int (sp_inf io sg m)) (M1 := rf_mk M io (va_up sg 48 q)) iv_13_v332 na_1_227 o_227 hM rfl (show (0 : Nat) ≤ 8 by decide) dc_14_43_74 (c_isInForce M hM io (va_up sg 48 q) m (by omega)) ?_
                refine r_ifeq (t := 114) (by decide) dc_14_43_77 (fun c_77 => ?_) (fun c_77 => ?_)
                · skip
                  refine r_iinc (x := nI m) (v := nI (m + 1)) (ls' := [(3, .int (nI (m + 1))), (4, .int (nI 1)), (0, .ref 100), (1, .int (nI s)), (2, .int (nI h))]) rfl (nI_1 _) (by decide) rfl dc_14_43_114 ?_
                  refine r_goto (t := 2) (by decide) dc_14_43_117 ?_
                  refine r_ls [(3, .int (nI (m + 1))), (0, .ref 100), (1, .int (nI s)), (2, .int (nI h))] (mm_ndk_of [3, 0, 1, 2] rfl (by decide)) (mm_sub_cons rfl (mm_sub_cons rfl (mm_sub_cons rfl (mm_sub_cons rfl (mm_sub_nil _))))) ?_
                  exact ih_m q (fun i hi => if e : i = m then e ▸ (fun z => z.2.1 c_77) else hi_m i (by omega))
                · skip
                  refine r_aload_n rfl dc_14_43_80 ?_
                  refine r_iload_n rfl dc_14_43_81 ?_
                  refine r_aload_n rfl dc_14_43_82 ?_
                  refine q_get (v := .ref 135) rx_114 hM rfl dc_14_43_83 ?_
                  refine r_iload_n rfl dc_14_43_86 ?_
                  refine q_ild (e := s) (v := nI g) (by decide) (by decide) hM rfl (show s < 16 by omega) (by omega) (h53) dc_14_43_87 ?_
                  refine r_aload_n rfl dc_14_43_88 ?_
                  refine r_iload_n rfl dc_14_43_89 ?_
                  refine r_iload_n rfl dc_14_43_90 ?_
                  refine q_calli (as := [.int (nI s), .int (nI h)]) (rest := [.int (nI g), .int (nI m), .ref 100]) (v := .int (nI lv)) (M1 := rf_mk M io (va_up sg 48 q)) iv_13_v335 na_1_228 o_228 hM rfl (show (3 : Nat) ≤ 8 by decide) dc_14_43_91 (hlv ▸ c_levelIn M hM io (va_up sg 48 q) s h tg hs hh htg ht4) ?_
                  refine r_aload_n rfl dc_14_43_94 ?_
                  refine q_get (v := .ref 136) rx_117 hM rfl dc_14_43_95 ?_
                  refine r_iload_n rfl dc_14_43_98 ?_
                  refine q_ild (e := s) (v := nI c) (by decide) (by decide) hM rfl (show s < 16 by omega) (by omega) (h54) dc_14_43_99 ?_
                  refine r_aload_n rfl dc_14_43_100 ?_
                  refine q_get (v := .ref 134) rx_111 hM rfl dc_14_43_101 ?_
                  refine r_iload_n rfl dc_14_43_104 ?_
                  refine q_ild (e := s) (v := nI u) (by decide) (by decide) hM rfl (show s < 16 by omega) (by omega) (h52) dc_14_43_105 ?_
                  obtain ⟨q5, hme⟩ := CD_met M hM io (va_up sg 48 q) (nx := nx) (cm := cm) (w := w) hC hnx m h_m g lv c u hg hl9 hc hu
                  refine q_calli (as := [.int (nI m), .int (nI g), .int (nI lv), .int (nI c), .int (nI u)]) (rest := []) (v := .int (pI (sp_met (w m) (cm m) g lv c u))) (M1 := rf_mk M io (va_up (va_up sg 48 q) 48 q5)) iv_13_v299 na_1_213 o_213 hM rfl (show (0 : Nat) ≤ 8 by decide) dc_14_43_106 (hme) ?_
                  rw [va_up_up]
                  refine r_ifeq (t := 114) (by decide) dc_14_43_109 (fun c_109 => ?_) (fun c_109 => ?_)
                  · skip
                    refine r_iinc (x := nI m) (v := nI (m + 1)) (ls' := [(3, .int (nI (m + 1))), (4, .int (nI 1)), (0, .ref 100), (1, .int (nI s)), (2, .int (nI h))]) rfl (nI_1 _) (by decide) rfl dc_14_43_114 ?_
                    refine r_goto (t := 2) (by decide) dc_14_43_117 ?_
                    refine r_ls [(3, .int (nI (m + 1))), (0, .ref 100), (1, .int (nI s)), (2, .int (nI h))] (mm_ndk_of [3, 0, 1, 2] rfl (by decide)) (mm_sub_cons rfl (mm_sub_cons rfl (mm_sub_cons rfl (mm_sub_cons rfl (mm_sub_nil _))))) ?_
                    exact ih_m q5 (fun i hi => if e : i = m then e ▸ (fun z => pI_eq0 c_109 z.2.2) else hi_m i (by omega))
                  · skip
                    refine r_iload_n rfl dc_14_43_112 ?_
                    refine r_iret rfl dc_14_43_113 ?_
                    rw [sp_fst_yes (p := sp_mayP io sg cm w s (nI h) g lv c u) hi_m ⟨Or.inr ⟨c_42, c_57⟩, c_77, pI_ne c_109⟩ h_m]
                    exact ⟨q5, rfl⟩
        · skip
          refine r_aload_n rfl dc_14_43_25 ?_
          refine q_get (v := .ref 119) rx_66 hM rfl dc_14_43_26 ?_
          refine r_iload_n rfl dc_14_43_29 ?_
          refine q_ild (e := m) (v := (va_up sg 48 q) 28 m) (by decide) (by decide) hM rfl (show m < 12 by omega) (by omega) (rfl) dc_14_43_30 ?_
          refine r_iload_n rfl dc_14_43_31 ?_
          refine r_iceq (t := 60) (by decide) dc_14_43_32 (fun c_32 => ?_) (fun c_32 => ?_)
          · skip
            refine r_iconst (v := nI 1) (by decide) dc_14_43_60 ?_
            refine r_goto (t := 65) (by decide) dc_14_43_61 ?_
            refine r_istore (ls' := [(4, .int (nI 1)), (3, .int (nI m)), (0, .ref 100), (1, .int (nI s)), (2, .int (nI h))]) (by decide) rfl dc_14_43_65 ?_
            refine r_iload rfl dc_14_43_67 ?_
            refine r_ifeq (t := 114) (by decide) dc_14_43_69 (fun c_69 => ?_) (fun c_69 => ?_)
            · exact absurd c_69 (by decide)
            · skip
              refine r_aload_n rfl dc_14_43_72 ?_
              refine r_iload_n rfl dc_14_43_73 ?_
              refine q_calli (as := [.int (nI m)]) (rest := []) (v := .int (sp_inf io sg m)) (M1 := rf_mk M io (va_up sg 48 q)) iv_13_v332 na_1_227 o_227 hM rfl (show (0 : Nat) ≤ 8 by decide) dc_14_43_74 (c_isInForce M hM io (va_up sg 48 q) m (by omega)) ?_
              refine r_ifeq (t := 114) (by decide) dc_14_43_77 (fun c_77 => ?_) (fun c_77 => ?_)
              · skip
                refine r_iinc (x := nI m) (v := nI (m + 1)) (ls' := [(3, .int (nI (m + 1))), (4, .int (nI 1)), (0, .ref 100), (1, .int (nI s)), (2, .int (nI h))]) rfl (nI_1 _) (by decide) rfl dc_14_43_114 ?_
                refine r_goto (t := 2) (by decide) dc_14_43_117 ?_
                refine r_ls [(3, .int (nI (m + 1))), (0, .ref 100), (1, .int (nI s)), (2, .int (nI h))] (mm_ndk_of [3, 0, 1, 2] rfl (by decide)) (mm_sub_cons rfl (mm_sub_cons rfl (mm_sub_cons rfl (mm_sub_cons rfl (mm_sub_nil _))))) ?_
                exact ih_m q (fun i hi => if e : i = m then e ▸ (fun z => z.2.1 c_77) else hi_m i (by omega))
              · skip
                refine r_aload_n rfl dc_14_43_80 ?_
                refine r_iload_n rfl dc_14_43_81 ?_
                refine r_aload_n rfl dc_14_43_82 ?_
                refine q_get (v := .ref 135) rx_114 hM rfl dc_14_43_83 ?_
                refine r_iload_n rfl dc_14_43_86 ?_
                refine q_ild (e := s) (v := nI g) (by decide) (by decide) hM rfl (show s < 16 by omega) (by omega) (h53) dc_14_43_87 ?_
                refine r_aload_n rfl dc_14_43_88 ?_
                refine r_iload_n rfl dc_14_43_89 ?_
                refine r_iload_n rfl dc_14_43_90 ?_
                refine q_calli (as := [.int (nI s), .int (nI h)]) (rest := [.int (nI g), .int (nI m), .ref 100]) (v := .int (nI lv)) (M1 := rf_mk M io (va_up sg 48 q)) iv_13_v335 na_1_228 o_228 hM rfl (show (3 : Nat) ≤ 8 by decide) dc_14_43_91 (hlv ▸ c_levelIn M hM io (va_up sg 48 q) s h tg hs hh htg ht4) ?_
                refine r_aload_n rfl dc_14_43_94 ?_
                refine q_get (v := .ref 136) rx_117 hM rfl dc_14_43_95 ?_
                refine r_iload_n rfl dc_14_43_98 ?_
                refine q_ild (e := s) (v := nI c) (by decide) (by decide) hM rfl (show s < 16 by omega) (by omega) (h54) dc_14_43_99 ?_
                refine r_aload_n rfl dc_14_43_100 ?_
                refine q_get (v := .ref 134) rx_111 hM rfl dc_14_43_101 ?_
                refine r_iload_n rfl dc_14_43_104 ?_
                refine q_ild (e := s) (v := nI u) (by decide) (by decide) hM rfl (show s < 16 by omega) (by omega) (h52) dc_14_43_105 ?_
                obtain ⟨q5, hme⟩ := CD_met M hM io (va_up sg 48 q) (nx := nx) (cm := cm) (w := w) hC hnx m h_m g lv c u hg hl9 hc hu
                refine q_calli (as := [.int (nI m), .int (nI g), .int (nI lv), .int (nI c), .int (nI u)]) (rest := []) (v := .int (pI (sp_met (w m) (cm m) g lv c u))) (M1 := rf_mk M io (va_up (va_up sg 48 q) 48 q5)) iv_13_v299 na_1_213 o_213 hM rfl (show (0 : Nat) ≤ 8 by decide) dc_14_43_106 (hme) ?_
                rw [va_up_up]
                refine r_ifeq (t := 114) (by decide) dc_14_43_109 (fun c_109 => ?_) (fun c_109 => ?_)
                · skip
                  refine r_iinc (x := nI m) (v := nI (m + 1)) (ls' := [(3, .int (nI (m + 1))), (4, .int (nI 1)), (0, .ref 100), (1, .int (nI s)), (2, .int (nI h))]) rfl (nI_1 _) (by decide) rfl dc_14_43_114 ?_
                  refine r_goto (t := 2) (by decide) dc_14_43_117 ?_
                  refine r_ls [(3, .int (nI (m + 1))), (0, .ref 100), (1, .int (nI s)), (2, .int (nI h))] (mm_ndk_of [3, 0, 1, 2] rfl (by decide)) (mm_sub_cons rfl (mm_sub_cons rfl (mm_sub_cons rfl (mm_sub_cons rfl (mm_sub_nil _))))) ?_
                  exact ih_m q5 (fun i hi => if e : i = m then e ▸ (fun z => pI_eq0 c_109 z.2.2) else hi_m i (by omega))
                · skip
                  refine r_iload_n rfl dc_14_43_112 ?_
                  refine r_iret rfl dc_14_43_113 ?_
                  rw [sp_fst_yes (p := sp_mayP io sg cm w s (nI h) g lv c u) hi_m ⟨Or.inl ⟨c_22, c_32⟩, c_77, pI_ne c_109⟩ h_m]
                  exact ⟨q5, rfl⟩
          · skip
            refine r_aload_n rfl dc_14_43_35 ?_
            refine q_get (v := .ref 118) rx_63 hM rfl dc_14_43_36 ?_
            refine r_iload_n rfl dc_14_43_39 ?_
            refine q_ild (e := m) (v := (va_up sg 48 q) 27 m) (by decide) (by decide) hM rfl (show m < 12 by omega) (by omega) (rfl) dc_14_43_40 ?_
            refine r_iload_n rfl dc_14_43_41 ?_
            refine r_icne (t := 64) (by decide) dc_14_43_42 (fun c_42 => ?_) (fun c_42 => ?_)
            · skip
              refine r_iconst (v := nI 0) (by decide) dc_14_43_64 ?_
              refine r_istore (ls' := [(4, .int (nI 0)), (3, .int (nI m)), (0, .ref 100), (1, .int (nI s)), (2, .int (nI h))]) (by decide) rfl dc_14_43_65 ?_
              refine r_iload rfl dc_14_43_67 ?_
              refine r_ifeq (t := 114) (by decide) dc_14_43_69 (fun c_69 => ?_) (fun c_69 => ?_)
              · skip
                refine r_iinc (x := nI m) (v := nI (m + 1)) (ls' := [(3, .int (nI (m + 1))), (4, .int (nI 0)), (0, .ref 100), (1, .int (nI s)), (2, .int (nI h))]) rfl (nI_1 _) (by decide) rfl dc_14_43_114 ?_
                refine r_goto (t := 2) (by decide) dc_14_43_117 ?_
                refine r_ls [(3, .int (nI (m + 1))), (0, .ref 100), (1, .int (nI s)), (2, .int (nI h))] (mm_ndk_of [3, 0, 1, 2] rfl (by decide)) (mm_sub_cons rfl (mm_sub_cons rfl (mm_sub_cons rfl (mm_sub_cons rfl (mm_sub_nil _))))) ?_
                exact ih_m q (fun i hi => if e : i = m then e ▸ (fun z => z.1.elim (fun a => c_32 a.2) (fun a => c_42 a.1)) else hi_m i (by omega))
              · exact absurd c_69 (by decide)
            · skip
              refine r_aload_n rfl dc_14_43_45 ?_
              refine q_get (v := .ref 119) rx_66 hM rfl dc_14_43_46 ?_
              refine r_iload_n rfl dc_14_43_49 ?_
              refine q_ild (e := m) (v := (va_up sg 48 q) 28 m) (by decide) (by decide) hM rfl (show m < 12 by omega) (by omega) (rfl) dc_14_43_50 ?_
              refine r_aload_n rfl dc_14_43_51 ?_
              refine q_get (v := .ref 133) rx_108 hM rfl dc_14_43_52 ?_
              refine r_iload_n rfl dc_14_43_55 ?_
              refine q_ild (e := s) (v := (va_up sg 48 q) 51 s) (by decide) (by decide) hM rfl (show s < 16 by omega) (by omega) (rfl) dc_14_43_56 ?_
              refine r_icne (t := 64) (by decide) dc_14_43_57 (fun c_57 => ?_) (fun c_57 => ?_)
              · skip
                refine r_iconst (v := nI 0) (by decide) dc_14_43_64 ?_
                refine r_istore (ls' := [(4, .int (nI 0)), (3, .int (nI m)), (0, .ref 100), (1, .int (nI s)), (2, .int (nI h))]) (by decide) rfl dc_14_43_65 ?_
                refine r_iload rfl dc_14_43_67 ?_
                refine r_ifeq (t := 114) (by decide) dc_14_43_69 (fun c_69 => ?_) (fun c_69 => ?_)
                · skip
                  refine r_iinc (x := nI m) (v := nI (m + 1)) (ls' := [(3, .int (nI (m + 1))), (4, .int (nI 0)), (0, .ref 100), (1, .int (nI s)), (2, .int (nI h))]) rfl (nI_1 _) (by decide) rfl dc_14_43_114 ?_
                  refine r_goto (t := 2) (by decide) dc_14_43_117 ?_
                  refine r_ls [(3, .int (nI (m + 1))), (0, .ref 100), (1, .int (nI s)), (2, .int (nI h))] (mm_ndk_of [3, 0, 1, 2] rfl (by decide)) (mm_sub_cons rfl (mm_sub_cons rfl (mm_sub_cons rfl (mm_sub_cons rfl (mm_sub_nil _))))) ?_
                  exact ih_m q (fun i hi => if e : i = m then e ▸ (fun z => z.1.elim (fun a => c_32 a.2) (fun a => c_57 a.2)) else hi_m i (by omega))
                · exact absurd c_69 (by decide)
              · skip
                refine r_iconst (v := nI 1) (by decide) dc_14_43_60 ?_
                refine r_goto (t := 65) (by decide) dc_14_43_61 ?_
                refine r_istore (ls' := [(4, .int (nI 1)), (3, .int (nI m)), (0, .ref 100), (1, .int (nI s)), (2, .int (nI h))]) (by decide) rfl dc_14_43_65 ?_
                refine r_iload rfl dc_14_43_67 ?_
                refine r_ifeq (t := 114) (by decide) dc_14_43_69 (fun c_69 => ?_) (fun c_69 => ?_)
                · exact absurd c_69 (by decide)
                · skip
                  refine r_aload_n rfl dc_14_43_72 ?_
                  refine r_iload_n rfl dc_14_43_73 ?_
                  refine q_calli (as := [.int (nI m)]) (rest := []) (v := .int (sp_inf io sg m)) (M1 := rf_mk M io (va_up sg 48 q)) iv_13_v332 na_1_227 o_227 hM rfl (show (0 : Nat) ≤ 8 by decide) dc_14_43_74 (c_isInForce M hM io (va_up sg 48 q) m (by omega)) ?_
                  refine r_ifeq (t := 114) (by decide) dc_14_43_77 (fun c_77 => ?_) (fun c_77 => ?_)
                  · skip
                    refine r_iinc (x := nI m) (v := nI (m + 1)) (ls' := [(3, .int (nI (m + 1))), (4, .int (nI 1)), (0, .ref 100), (1, .int (nI s)), (2, .int (nI h))]) rfl (nI_1 _) (by decide) rfl dc_14_43_114 ?_
                    refine r_goto (t := 2) (by decide) dc_14_43_117 ?_
                    refine r_ls [(3, .int (nI (m + 1))), (0, .ref 100), (1, .int (nI s)), (2, .int (nI h))] (mm_ndk_of [3, 0, 1, 2] rfl (by decide)) (mm_sub_cons rfl (mm_sub_cons rfl (mm_sub_cons rfl (mm_sub_cons rfl (mm_sub_nil _))))) ?_
                    exact ih_m q (fun i hi => if e : i = m then e ▸ (fun z => z.2.1 c_77) else hi_m i (by omega))
                  · skip
                    refine r_aload_n rfl dc_14_43_80 ?_
                    refine r_iload_n rfl dc_14_43_81 ?_
                    refine r_aload_n rfl dc_14_43_82 ?_
                    refine q_get (v := .ref 135) rx_114 hM rfl dc_14_43_83 ?_
                    refine r_iload_n rfl dc_14_43_86 ?_
                    refine q_ild (e := s) (v := nI g) (by decide) (by decide) hM rfl (show s < 16 by omega) (by omega) (h53) dc_14_43_87 ?_
                    refine r_aload_n rfl dc_14_43_88 ?_
                    refine r_iload_n rfl dc_14_43_89 ?_
                    refine r_iload_n rfl dc_14_43_90 ?_
                    refine q_calli (as := [.int (nI s), .int (nI h)]) (rest := [.int (nI g), .int (nI m), .ref 100]) (v := .int (nI lv)) (M1 := rf_mk M io (va_up sg 48 q)) iv_13_v335 na_1_228 o_228 hM rfl (show (3 : Nat) ≤ 8 by decide) dc_14_43_91 (hlv ▸ c_levelIn M hM io (va_up sg 48 q) s h tg hs hh htg ht4) ?_
                    refine r_aload_n rfl dc_14_43_94 ?_
                    refine q_get (v := .ref 136) rx_117 hM rfl dc_14_43_95 ?_
                    refine r_iload_n rfl dc_14_43_98 ?_
                    refine q_ild (e := s) (v := nI c) (by decide) (by decide) hM rfl (show s < 16 by omega) (by omega) (h54) dc_14_43_99 ?_
                    refine r_aload_n rfl dc_14_43_100 ?_
                    refine q_get (v := .ref 134) rx_111 hM rfl dc_14_43_101 ?_
                    refine r_iload_n rfl dc_14_43_104 ?_
                    refine q_ild (e := s) (v := nI u) (by decide) (by decide) hM rfl (show s < 16 by omega) (by omega) (h52) dc_14_43_105 ?_
                    obtain ⟨q5, hme⟩ := CD_met M hM io (va_up sg 48 q) (nx := nx) (cm := cm) (w := w) hC hnx m h_m g lv c u hg hl9 hc hu
                    refine q_calli (as := [.int (nI m), .int (nI g), .int (nI lv), .int (nI c), .int (nI u)]) (rest := []) (v := .int (pI (sp_met (w m) (cm m) g lv c u))) (M1 := rf_mk M io (va_up (va_up sg 48 q) 48 q5)) iv_13_v299 na_1_213 o_213 hM rfl (show (0 : Nat) ≤ 8 by decide) dc_14_43_106 (hme) ?_
                    rw [va_up_up]
                    refine r_ifeq (t := 114) (by decide) dc_14_43_109 (fun c_109 => ?_) (fun c_109 => ?_)
                    · skip
                      refine r_iinc (x := nI m) (v := nI (m + 1)) (ls' := [(3, .int (nI (m + 1))), (4, .int (nI 1)), (0, .ref 100), (1, .int (nI s)), (2, .int (nI h))]) rfl (nI_1 _) (by decide) rfl dc_14_43_114 ?_
                      refine r_goto (t := 2) (by decide) dc_14_43_117 ?_
                      refine r_ls [(3, .int (nI (m + 1))), (0, .ref 100), (1, .int (nI s)), (2, .int (nI h))] (mm_ndk_of [3, 0, 1, 2] rfl (by decide)) (mm_sub_cons rfl (mm_sub_cons rfl (mm_sub_cons rfl (mm_sub_cons rfl (mm_sub_nil _))))) ?_
                      exact ih_m q5 (fun i hi => if e : i = m then e ▸ (fun z => pI_eq0 c_109 z.2.2) else hi_m i (by omega))
                    · skip
                      refine r_iload_n rfl dc_14_43_112 ?_
                      refine r_iret rfl dc_14_43_113 ?_
                      rw [sp_fst_yes (p := sp_mayP io sg cm w s (nI h) g lv c u) hi_m ⟨Or.inr ⟨c_42, c_57⟩, c_77, pI_ne c_109⟩ h_m]
                      exact ⟨q5, rfl⟩
  obtain ⟨z9, ⟨q, e9⟩, h9⟩ := hq9
  subst e9
  exact ⟨q, h9⟩
set_option maxHeartbeats 4000000 in
theorem c_may_ok (M : mH) (hM : 157 ≤ M.1) (io : Nat → Int32) (sg : Nat → Nat → Int32) (ns : Nat) (h5 : io 5 = nI ns) (hns : ns ≤ 16) (nh : Nat) (h3 : io 3 = nI nh) (hnh : nh ≤ 8) (nx : Nat) (h4 : io 4 = nI nx) (hnx : nx ≤ 12) (cm : Nat → Nat) (w : Nat → Nat → Nat) (hC : CDok sg nx cm w) (s h tg g lv c u : Nat) (hs : s < 16) (hh : h < 8) (htg : sg 10 h = nI tg) (ht4 : tg < 4) (h53 : sg 53 s = nI g) (hg : g ≤ 100) (hlv : sp_lev sg s tg = nI lv) (hl9 : lv ≤ 9) (h54 : sg 54 s = nI c) (hc : c ≤ 99) (h52 : sg 52 s = nI u) (hu : u ≤ 7) (hs9 : s < ns) (hh9 : h < nh) : ∃ (q : Nat → Int32), mm_Ev 3 225 [.ref 100, .int (nI s), .int (nI h)] (rf_mk M io sg) ((some (.int (sp_fst (sp_mayP io sg cm w s (nI h) g lv c u) nx)), rf_mk M io (va_up sg 48 q))) := by
  have hq9 : ∃ z, (fun r9 => ∃ (q : Nat → Int32), r9 = ((some (.int (sp_fst (sp_mayP io sg cm w s (nI h) g lv c u) nx)), rf_mk M io (va_up sg 48 q)))) z ∧ mm_Ev 3 225 [.ref 100, .int (nI s), .int (nI h)] (rf_mk M io sg) z := by
    refine r_evQ (by decide +kernel) (show (3 : Nat) ≤ mm_nL 225 by decide +kernel) ?_
    show mm_Ru 2 (13, 3, false, prog_14_method_44_code, some .int) 0 [(0, .ref 100), (1, .int (nI s)), (2, .int (nI h))] [] (rf_mk M io sg) (fun r9 => ∃ (q : Nat → Int32), r9 = ((some (.int (sp_fst (sp_mayP io sg cm w s (nI h) g lv c u) nx)), rf_mk M io (va_up sg 48 q))))
    refine r_aload_n rfl dc_14_44_0 ?_
    refine r_iload_n rfl dc_14_44_1 ?_
    refine q_calli (as := [.int (nI s)]) (rest := []) (v := .int (nI 1)) (M1 := rf_mk M io sg) iv_13_v323 na_1_222 o_222 hM rfl (show (0 : Nat) ≤ 8 by decide) dc_14_44_2 (mm_Ev_up (by decide : 1 ≤ 2) (c_isStudentT M hM io sg ns h5 s (by omega) (by omega))) ?_
    refine r_ifeq (t := 25) (by decide) dc_14_44_5 (fun c_5 => ?_) (fun c_5 => ?_)
    · exact absurd c_5 (by decide)
    · skip
      refine r_aload_n rfl dc_14_44_8 ?_
      refine r_iload_n rfl dc_14_44_9 ?_
      refine q_calli (as := [.int (nI h)]) (rest := []) (v := .int (nI 1)) (M1 := rf_mk M io sg) iv_13_v205 na_1_196 o_196 hM rfl (show (0 : Nat) ≤ 8 by decide) dc_14_44_10 (mm_Ev_up (by decide : 1 ≤ 2) (c_isSchoolT M hM io sg nh h3 h (by omega) (by omega))) ?_
      refine r_ifeq (t := 25) (by decide) dc_14_44_13 (fun c_13 => ?_) (fun c_13 => ?_)
      · exact absurd c_13 (by decide)
      · skip
        refine r_aload_n rfl dc_14_44_16 ?_
        refine r_iload_n rfl dc_14_44_17 ?_
        refine r_iload_n rfl dc_14_44_18 ?_
        obtain ⟨q9, hmb⟩ := c_mayBy M hM io sg nx h4 hnx cm w hC s h tg g lv c u hs hh htg ht4 h53 hg hlv hl9 h54 hc h52 hu
        refine q_calli (as := [.int (nI s), .int (nI h)]) (rest := []) (v := .int (sp_fst (sp_mayP io sg cm w s (nI h) g lv c u) nx)) (M1 := rf_mk M io (va_up sg 48 q9)) iv_13_v338 na_1_226 o_226 hM rfl (show (0 : Nat) ≤ 8 by decide) dc_14_44_19 (hmb) ?_
        refine r_goto (t := 26) (by decide) dc_14_44_22 ?_
        refine r_iret rfl dc_14_44_26 ?_
        exact ⟨q9, rfl⟩
  obtain ⟨z9, ⟨q, e9⟩, h9⟩ := hq9
  subst e9
  exact ⟨q, h9⟩
set_option maxHeartbeats 4000000 in
theorem c_may_no (M : mH) (hM : 157 ≤ M.1) (io : Nat → Int32) (sg : Nat → Nat → Int32) (s h : Int32) (hno : ¬ ((0 ≤ s ∧ s < io 5) ∧ (0 ≤ h ∧ h < io 3))) : mm_Ev 2 225 [.ref 100, .int s, .int h] (rf_mk M io sg) ((some (.int (-1)), rf_mk M io sg)) := by
  refine r_ev (by decide +kernel) (show (3 : Nat) ≤ mm_nL 225 by decide +kernel) ?_
  show mm_Ru 1 (13, 3, false, prog_14_method_44_code, some .int) 0 [(0, .ref 100), (1, .int s), (2, .int h)] [] (rf_mk M io sg) (fun r9 => r9 = ((some (.int (-1)), rf_mk M io sg)))
  refine r_aload_n rfl dc_14_44_0 ?_
  refine r_iload_n rfl dc_14_44_1 ?_
  refine q_calli (as := [.int s]) (rest := []) (v := .int (sp_is s (io 5))) (M1 := rf_mk M io sg) iv_13_v323 na_1_222 o_222 hM rfl (show (0 : Nat) ≤ 8 by decide) dc_14_44_2 (c_isStudent M hM io sg s) ?_
  refine r_ifeq (t := 25) (by decide) dc_14_44_5 (fun c_5 => ?_) (fun c_5 => ?_)
  · skip
    refine r_iconst (v := -1) (by decide) dc_14_44_25 ?_
    exact r_iret rfl dc_14_44_26 (rfl)
  · skip
    refine r_aload_n rfl dc_14_44_8 ?_
    refine r_iload_n rfl dc_14_44_9 ?_
    refine q_calli (as := [.int h]) (rest := []) (v := .int (sp_is h (io 3))) (M1 := rf_mk M io sg) iv_13_v205 na_1_196 o_196 hM rfl (show (0 : Nat) ≤ 8 by decide) dc_14_44_10 (c_isSchool M hM io sg h) ?_
    refine r_ifeq (t := 25) (by decide) dc_14_44_13 (fun c_13 => ?_) (fun c_13 => ?_)
    · skip
      refine r_iconst (v := -1) (by decide) dc_14_44_25 ?_
      exact r_iret rfl dc_14_44_26 (rfl)
    · skip
      exact absurd (⟨sp_is_ne c_5, sp_is_ne c_13⟩) hno
