/-! the reference: study -/
theorem dc_14_66_0 : decode prog_14_method_66_code 0 = .ok (.iconst 0, 1) := by decide +kernel
theorem dc_14_66_1 : decode prog_14_method_66_code 1 = .ok (.istore 4, 2) := by decide +kernel
theorem dc_14_66_3 : decode prog_14_method_66_code 3 = .ok (.aload_n 0, 1) := by decide +kernel
theorem dc_14_66_4 : decode prog_14_method_66_code 4 = .ok (.iconst 0, 1) := by decide +kernel
theorem dc_14_66_5 : decode prog_14_method_66_code 5 = .ok (.putfield 395, 3) := by decide +kernel
theorem dc_14_66_8 : decode prog_14_method_66_code 8 = .ok (.aload_n 0, 1) := by decide +kernel
theorem dc_14_66_9 : decode prog_14_method_66_code 9 = .ok (.iconst 0, 1) := by decide +kernel
theorem dc_14_66_10 : decode prog_14_method_66_code 10 = .ok (.putfield 398, 3) := by decide +kernel
theorem dc_14_66_13 : decode prog_14_method_66_code 13 = .ok (.iconst 0, 1) := by decide +kernel
theorem dc_14_66_14 : decode prog_14_method_66_code 14 = .ok (.istore 5, 2) := by decide +kernel
theorem dc_14_66_16 : decode prog_14_method_66_code 16 = .ok (.iload 5, 2) := by decide +kernel
theorem dc_14_66_18 : decode prog_14_method_66_code 18 = .ok (.aload_n 0, 1) := by decide +kernel
theorem dc_14_66_19 : decode prog_14_method_66_code 19 = .ok (.getfield 40, 3) := by decide +kernel
theorem dc_14_66_22 : decode prog_14_method_66_code 22 = .ok (.iload_n 2, 1) := by decide +kernel
theorem dc_14_66_23 : decode prog_14_method_66_code 23 = .ok (.iaload, 1) := by decide +kernel
theorem dc_14_66_24 : decode prog_14_method_66_code 24 = .ok (.if_icmp .ge 122, 3) := by decide +kernel
theorem dc_14_66_27 : decode prog_14_method_66_code 27 = .ok (.iload_n 3, 1) := by decide +kernel
theorem dc_14_66_28 : decode prog_14_method_66_code 28 = .ok (.iload 5, 2) := by decide +kernel
theorem dc_14_66_30 : decode prog_14_method_66_code 30 = .ok (.ishr, 1) := by decide +kernel
theorem dc_14_66_31 : decode prog_14_method_66_code 31 = .ok (.iconst 1, 1) := by decide +kernel
theorem dc_14_66_32 : decode prog_14_method_66_code 32 = .ok (.iand, 1) := by decide +kernel
theorem dc_14_66_33 : decode prog_14_method_66_code 33 = .ok (.ifCond .ne 6, 3) := by decide +kernel
theorem dc_14_66_36 : decode prog_14_method_66_code 36 = .ok (.goto 104, 3) := by decide +kernel
theorem dc_14_66_39 : decode prog_14_method_66_code 39 = .ok (.bipush 6, 2) := by decide +kernel
theorem dc_14_66_41 : decode prog_14_method_66_code 41 = .ok (.iload_n 2, 1) := by decide +kernel
theorem dc_14_66_42 : decode prog_14_method_66_code 42 = .ok (.imul, 1) := by decide +kernel
theorem dc_14_66_43 : decode prog_14_method_66_code 43 = .ok (.iload 5, 2) := by decide +kernel
theorem dc_14_66_45 : decode prog_14_method_66_code 45 = .ok (.iadd, 1) := by decide +kernel
theorem dc_14_66_46 : decode prog_14_method_66_code 46 = .ok (.istore 6, 2) := by decide +kernel
theorem dc_14_66_48 : decode prog_14_method_66_code 48 = .ok (.aload_n 0, 1) := by decide +kernel
theorem dc_14_66_49 : decode prog_14_method_66_code 49 = .ok (.getfield 55, 3) := by decide +kernel
theorem dc_14_66_52 : decode prog_14_method_66_code 52 = .ok (.iload 6, 2) := by decide +kernel
theorem dc_14_66_54 : decode prog_14_method_66_code 54 = .ok (.baload, 1) := by decide +kernel
theorem dc_14_66_55 : decode prog_14_method_66_code 55 = .ok (.ifCond .ne 32, 3) := by decide +kernel
theorem dc_14_66_58 : decode prog_14_method_66_code 58 = .ok (.aload_n 0, 1) := by decide +kernel
theorem dc_14_66_59 : decode prog_14_method_66_code 59 = .ok (.getfield 49, 3) := by decide +kernel
theorem dc_14_66_62 : decode prog_14_method_66_code 62 = .ok (.iload 6, 2) := by decide +kernel
theorem dc_14_66_64 : decode prog_14_method_66_code 64 = .ok (.iaload, 1) := by decide +kernel
theorem dc_14_66_65 : decode prog_14_method_66_code 65 = .ok (.aload_n 0, 1) := by decide +kernel
theorem dc_14_66_66 : decode prog_14_method_66_code 66 = .ok (.iload_n 1, 1) := by decide +kernel
theorem dc_14_66_67 : decode prog_14_method_66_code 67 = .ok (.iload_n 2, 1) := by decide +kernel
theorem dc_14_66_68 : decode prog_14_method_66_code 68 = .ok (.invokevirtual 335, 3) := by decide +kernel
theorem dc_14_66_71 : decode prog_14_method_66_code 71 = .ok (.if_icmp .gt 16, 3) := by decide +kernel
theorem dc_14_66_74 : decode prog_14_method_66_code 74 = .ok (.iload 4, 2) := by decide +kernel
theorem dc_14_66_76 : decode prog_14_method_66_code 76 = .ok (.aload_n 0, 1) := by decide +kernel
theorem dc_14_66_77 : decode prog_14_method_66_code 77 = .ok (.getfield 52, 3) := by decide +kernel
theorem dc_14_66_80 : decode prog_14_method_66_code 80 = .ok (.iload 6, 2) := by decide +kernel
theorem dc_14_66_82 : decode prog_14_method_66_code 82 = .ok (.iaload, 1) := by decide +kernel
theorem dc_14_66_83 : decode prog_14_method_66_code 83 = .ok (.iand, 1) := by decide +kernel
theorem dc_14_66_84 : decode prog_14_method_66_code 84 = .ok (.ifCond .eq 5, 3) := by decide +kernel
theorem dc_14_66_87 : decode prog_14_method_66_code 87 = .ok (.iconst 0, 1) := by decide +kernel
theorem dc_14_66_88 : decode prog_14_method_66_code 88 = .ok (.ireturn, 1) := by decide +kernel
theorem dc_14_66_89 : decode prog_14_method_66_code 89 = .ok (.iload 4, 2) := by decide +kernel
theorem dc_14_66_91 : decode prog_14_method_66_code 91 = .ok (.aload_n 0, 1) := by decide +kernel
theorem dc_14_66_92 : decode prog_14_method_66_code 92 = .ok (.getfield 52, 3) := by decide +kernel
theorem dc_14_66_95 : decode prog_14_method_66_code 95 = .ok (.iload 6, 2) := by decide +kernel
theorem dc_14_66_97 : decode prog_14_method_66_code 97 = .ok (.iaload, 1) := by decide +kernel
theorem dc_14_66_98 : decode prog_14_method_66_code 98 = .ok (.ior, 1) := by decide +kernel
theorem dc_14_66_99 : decode prog_14_method_66_code 99 = .ok (.istore 4, 2) := by decide +kernel
theorem dc_14_66_101 : decode prog_14_method_66_code 101 = .ok (.aload_n 0, 1) := by decide +kernel
theorem dc_14_66_102 : decode prog_14_method_66_code 102 = .ok (.aload_n 0, 1) := by decide +kernel
theorem dc_14_66_103 : decode prog_14_method_66_code 103 = .ok (.getfield 395, 3) := by decide +kernel
theorem dc_14_66_106 : decode prog_14_method_66_code 106 = .ok (.aload_n 0, 1) := by decide +kernel
theorem dc_14_66_107 : decode prog_14_method_66_code 107 = .ok (.getfield 46, 3) := by decide +kernel
theorem dc_14_66_110 : decode prog_14_method_66_code 110 = .ok (.iload 6, 2) := by decide +kernel
theorem dc_14_66_112 : decode prog_14_method_66_code 112 = .ok (.iaload, 1) := by decide +kernel
theorem dc_14_66_113 : decode prog_14_method_66_code 113 = .ok (.iadd, 1) := by decide +kernel
theorem dc_14_66_114 : decode prog_14_method_66_code 114 = .ok (.putfield 395, 3) := by decide +kernel
theorem dc_14_66_117 : decode prog_14_method_66_code 117 = .ok (.aload_n 0, 1) := by decide +kernel
theorem dc_14_66_118 : decode prog_14_method_66_code 118 = .ok (.aload_n 0, 1) := by decide +kernel
theorem dc_14_66_119 : decode prog_14_method_66_code 119 = .ok (.getfield 398, 3) := by decide +kernel
theorem dc_14_66_122 : decode prog_14_method_66_code 122 = .ok (.aload_n 0, 1) := by decide +kernel
theorem dc_14_66_123 : decode prog_14_method_66_code 123 = .ok (.getfield 43, 3) := by decide +kernel
theorem dc_14_66_126 : decode prog_14_method_66_code 126 = .ok (.iload 6, 2) := by decide +kernel
theorem dc_14_66_128 : decode prog_14_method_66_code 128 = .ok (.iaload, 1) := by decide +kernel
theorem dc_14_66_129 : decode prog_14_method_66_code 129 = .ok (.aload_n 0, 1) := by decide +kernel
theorem dc_14_66_130 : decode prog_14_method_66_code 130 = .ok (.getfield 120, 3) := by decide +kernel
theorem dc_14_66_133 : decode prog_14_method_66_code 133 = .ok (.iload_n 1, 1) := by decide +kernel
theorem dc_14_66_134 : decode prog_14_method_66_code 134 = .ok (.iaload, 1) := by decide +kernel
theorem dc_14_66_135 : decode prog_14_method_66_code 135 = .ok (.iand, 1) := by decide +kernel
theorem dc_14_66_136 : decode prog_14_method_66_code 136 = .ok (.ior, 1) := by decide +kernel
theorem dc_14_66_137 : decode prog_14_method_66_code 137 = .ok (.putfield 398, 3) := by decide +kernel
theorem dc_14_66_140 : decode prog_14_method_66_code 140 = .ok (.iinc 5 1, 3) := by decide +kernel
theorem dc_14_66_143 : decode prog_14_method_66_code 143 = .ok (.goto (-127), 3) := by decide +kernel
theorem dc_14_66_146 : decode prog_14_method_66_code 146 = .ok (.aload_n 0, 1) := by decide +kernel
theorem dc_14_66_147 : decode prog_14_method_66_code 147 = .ok (.getfield 395, 3) := by decide +kernel
theorem dc_14_66_150 : decode prog_14_method_66_code 150 = .ok (.bipush 12, 2) := by decide +kernel
theorem dc_14_66_152 : decode prog_14_method_66_code 152 = .ok (.if_icmp .gt 7, 3) := by decide +kernel
theorem dc_14_66_155 : decode prog_14_method_66_code 155 = .ok (.iconst 1, 1) := by decide +kernel
theorem dc_14_66_156 : decode prog_14_method_66_code 156 = .ok (.goto 4, 3) := by decide +kernel
theorem dc_14_66_159 : decode prog_14_method_66_code 159 = .ok (.iconst 0, 1) := by decide +kernel
theorem dc_14_66_160 : decode prog_14_method_66_code 160 = .ok (.ireturn, 1) := by decide +kernel
theorem dc_14_68_0 : decode prog_14_method_68_code 0 = .ok (.aload_n 0, 1) := by decide +kernel
theorem dc_14_68_1 : decode prog_14_method_68_code 1 = .ok (.iconst 0, 1) := by decide +kernel
theorem dc_14_68_2 : decode prog_14_method_68_code 2 = .ok (.putfield 401, 3) := by decide +kernel
theorem dc_14_68_5 : decode prog_14_method_68_code 5 = .ok (.aload_n 0, 1) := by decide +kernel
theorem dc_14_68_6 : decode prog_14_method_68_code 6 = .ok (.iconst 0, 1) := by decide +kernel
theorem dc_14_68_7 : decode prog_14_method_68_code 7 = .ok (.putfield 404, 3) := by decide +kernel
theorem dc_14_68_10 : decode prog_14_method_68_code 10 = .ok (.aload_n 0, 1) := by decide +kernel
theorem dc_14_68_11 : decode prog_14_method_68_code 11 = .ok (.iconst 0, 1) := by decide +kernel
theorem dc_14_68_12 : decode prog_14_method_68_code 12 = .ok (.putfield 407, 3) := by decide +kernel
theorem dc_14_68_15 : decode prog_14_method_68_code 15 = .ok (.iconst 1, 1) := by decide +kernel
theorem dc_14_68_16 : decode prog_14_method_68_code 16 = .ok (.istore_n 3, 1) := by decide +kernel
theorem dc_14_68_17 : decode prog_14_method_68_code 17 = .ok (.iload_n 3, 1) := by decide +kernel
theorem dc_14_68_18 : decode prog_14_method_68_code 18 = .ok (.iconst 1, 1) := by decide +kernel
theorem dc_14_68_19 : decode prog_14_method_68_code 19 = .ok (.aload_n 0, 1) := by decide +kernel
theorem dc_14_68_20 : decode prog_14_method_68_code 20 = .ok (.getfield 40, 3) := by decide +kernel
theorem dc_14_68_23 : decode prog_14_method_68_code 23 = .ok (.iload_n 2, 1) := by decide +kernel
theorem dc_14_68_24 : decode prog_14_method_68_code 24 = .ok (.iaload, 1) := by decide +kernel
theorem dc_14_68_25 : decode prog_14_method_68_code 25 = .ok (.ishl, 1) := by decide +kernel
theorem dc_14_68_26 : decode prog_14_method_68_code 26 = .ok (.if_icmp .ge 84, 3) := by decide +kernel
theorem dc_14_68_29 : decode prog_14_method_68_code 29 = .ok (.aload_n 0, 1) := by decide +kernel
theorem dc_14_68_30 : decode prog_14_method_68_code 30 = .ok (.iload_n 1, 1) := by decide +kernel
theorem dc_14_68_31 : decode prog_14_method_68_code 31 = .ok (.iload_n 2, 1) := by decide +kernel
theorem dc_14_68_32 : decode prog_14_method_68_code 32 = .ok (.iload_n 3, 1) := by decide +kernel
theorem dc_14_68_33 : decode prog_14_method_68_code 33 = .ok (.invokevirtual 410, 3) := by decide +kernel
theorem dc_14_68_36 : decode prog_14_method_68_code 36 = .ok (.ifCond .ne 6, 3) := by decide +kernel
theorem dc_14_68_39 : decode prog_14_method_68_code 39 = .ok (.goto 65, 3) := by decide +kernel
theorem dc_14_68_42 : decode prog_14_method_68_code 42 = .ok (.aload_n 0, 1) := by decide +kernel
theorem dc_14_68_43 : decode prog_14_method_68_code 43 = .ok (.getfield 398, 3) := by decide +kernel
theorem dc_14_68_46 : decode prog_14_method_68_code 46 = .ok (.invokestatic 413, 3) := by decide +kernel
theorem dc_14_68_49 : decode prog_14_method_68_code 49 = .ok (.aload_n 0, 1) := by decide +kernel
theorem dc_14_68_50 : decode prog_14_method_68_code 50 = .ok (.getfield 407, 3) := by decide +kernel
theorem dc_14_68_53 : decode prog_14_method_68_code 53 = .ok (.invokestatic 413, 3) := by decide +kernel
theorem dc_14_68_56 : decode prog_14_method_68_code 56 = .ok (.isub, 1) := by decide +kernel
theorem dc_14_68_57 : decode prog_14_method_68_code 57 = .ok (.istore 4, 2) := by decide +kernel
theorem dc_14_68_59 : decode prog_14_method_68_code 59 = .ok (.iload 4, 2) := by decide +kernel
theorem dc_14_68_61 : decode prog_14_method_68_code 61 = .ok (.ifCond .lt 43, 3) := by decide +kernel
theorem dc_14_68_64 : decode prog_14_method_68_code 64 = .ok (.iload 4, 2) := by decide +kernel
theorem dc_14_68_66 : decode prog_14_method_68_code 66 = .ok (.ifCond .ne 17, 3) := by decide +kernel
theorem dc_14_68_69 : decode prog_14_method_68_code 69 = .ok (.aload_n 0, 1) := by decide +kernel
theorem dc_14_68_70 : decode prog_14_method_68_code 70 = .ok (.getfield 395, 3) := by decide +kernel
theorem dc_14_68_73 : decode prog_14_method_68_code 73 = .ok (.aload_n 0, 1) := by decide +kernel
theorem dc_14_68_74 : decode prog_14_method_68_code 74 = .ok (.getfield 404, 3) := by decide +kernel
theorem dc_14_68_77 : decode prog_14_method_68_code 77 = .ok (.if_icmp .lt 6, 3) := by decide +kernel
theorem dc_14_68_80 : decode prog_14_method_68_code 80 = .ok (.goto 24, 3) := by decide +kernel
theorem dc_14_68_83 : decode prog_14_method_68_code 83 = .ok (.aload_n 0, 1) := by decide +kernel
theorem dc_14_68_84 : decode prog_14_method_68_code 84 = .ok (.iload_n 3, 1) := by decide +kernel
theorem dc_14_68_85 : decode prog_14_method_68_code 85 = .ok (.putfield 401, 3) := by decide +kernel
theorem dc_14_68_88 : decode prog_14_method_68_code 88 = .ok (.aload_n 0, 1) := by decide +kernel
theorem dc_14_68_89 : decode prog_14_method_68_code 89 = .ok (.aload_n 0, 1) := by decide +kernel
theorem dc_14_68_90 : decode prog_14_method_68_code 90 = .ok (.getfield 395, 3) := by decide +kernel
theorem dc_14_68_93 : decode prog_14_method_68_code 93 = .ok (.putfield 404, 3) := by decide +kernel
theorem dc_14_68_96 : decode prog_14_method_68_code 96 = .ok (.aload_n 0, 1) := by decide +kernel
theorem dc_14_68_97 : decode prog_14_method_68_code 97 = .ok (.aload_n 0, 1) := by decide +kernel
theorem dc_14_68_98 : decode prog_14_method_68_code 98 = .ok (.getfield 398, 3) := by decide +kernel
theorem dc_14_68_101 : decode prog_14_method_68_code 101 = .ok (.putfield 407, 3) := by decide +kernel
theorem dc_14_68_104 : decode prog_14_method_68_code 104 = .ok (.iinc 3 1, 3) := by decide +kernel
theorem dc_14_68_107 : decode prog_14_method_68_code 107 = .ok (.goto (-90), 3) := by decide +kernel
theorem dc_14_68_110 : decode prog_14_method_68_code 110 = .ok (.return_, 1) := by decide +kernel
theorem dc_14_69_0 : decode prog_14_method_69_code 0 = .ok (.aload_n 0, 1) := by decide +kernel
theorem dc_14_69_1 : decode prog_14_method_69_code 1 = .ok (.iload_n 1, 1) := by decide +kernel
theorem dc_14_69_2 : decode prog_14_method_69_code 2 = .ok (.invokevirtual 323, 3) := by decide +kernel
theorem dc_14_69_5 : decode prog_14_method_69_code 5 = .ok (.ifCond .eq 11, 3) := by decide +kernel
theorem dc_14_69_8 : decode prog_14_method_69_code 8 = .ok (.aload_n 0, 1) := by decide +kernel
theorem dc_14_69_9 : decode prog_14_method_69_code 9 = .ok (.iload_n 2, 1) := by decide +kernel
theorem dc_14_69_10 : decode prog_14_method_69_code 10 = .ok (.invokevirtual 205, 3) := by decide +kernel
theorem dc_14_69_13 : decode prog_14_method_69_code 13 = .ok (.ifCond .ne 5, 3) := by decide +kernel
theorem dc_14_69_16 : decode prog_14_method_69_code 16 = .ok (.iconst (-1), 1) := by decide +kernel
theorem dc_14_69_17 : decode prog_14_method_69_code 17 = .ok (.ireturn, 1) := by decide +kernel
theorem dc_14_69_18 : decode prog_14_method_69_code 18 = .ok (.aload_n 0, 1) := by decide +kernel
theorem dc_14_69_19 : decode prog_14_method_69_code 19 = .ok (.iload_n 1, 1) := by decide +kernel
theorem dc_14_69_20 : decode prog_14_method_69_code 20 = .ok (.iload_n 2, 1) := by decide +kernel
theorem dc_14_69_21 : decode prog_14_method_69_code 21 = .ok (.invokevirtual 416, 3) := by decide +kernel
theorem dc_14_69_24 : decode prog_14_method_69_code 24 = .ok (.iload_n 3, 1) := by decide +kernel
theorem dc_14_69_25 : decode prog_14_method_69_code 25 = .ok (.tableswitch 51 0 2 #[27, 32, 37], 27) := by decide +kernel
theorem dc_14_69_52 : decode prog_14_method_69_code 52 = .ok (.aload_n 0, 1) := by decide +kernel
theorem dc_14_69_53 : decode prog_14_method_69_code 53 = .ok (.getfield 401, 3) := by decide +kernel
theorem dc_14_69_56 : decode prog_14_method_69_code 56 = .ok (.ireturn, 1) := by decide +kernel
theorem dc_14_69_57 : decode prog_14_method_69_code 57 = .ok (.aload_n 0, 1) := by decide +kernel
theorem dc_14_69_58 : decode prog_14_method_69_code 58 = .ok (.getfield 404, 3) := by decide +kernel
theorem dc_14_69_61 : decode prog_14_method_69_code 61 = .ok (.ireturn, 1) := by decide +kernel
theorem dc_14_69_62 : decode prog_14_method_69_code 62 = .ok (.aload_n 0, 1) := by decide +kernel
theorem dc_14_69_63 : decode prog_14_method_69_code 63 = .ok (.getfield 120, 3) := by decide +kernel
theorem dc_14_69_66 : decode prog_14_method_69_code 66 = .ok (.iload_n 1, 1) := by decide +kernel
theorem dc_14_69_67 : decode prog_14_method_69_code 67 = .ok (.iaload, 1) := by decide +kernel
theorem dc_14_69_68 : decode prog_14_method_69_code 68 = .ok (.aload_n 0, 1) := by decide +kernel
theorem dc_14_69_69 : decode prog_14_method_69_code 69 = .ok (.getfield 407, 3) := by decide +kernel
theorem dc_14_69_72 : decode prog_14_method_69_code 72 = .ok (.iconst (-1), 1) := by decide +kernel
theorem dc_14_69_73 : decode prog_14_method_69_code 73 = .ok (.ixor, 1) := by decide +kernel
theorem dc_14_69_74 : decode prog_14_method_69_code 74 = .ok (.iand, 1) := by decide +kernel
theorem dc_14_69_75 : decode prog_14_method_69_code 75 = .ok (.ireturn, 1) := by decide +kernel
theorem dc_14_69_76 : decode prog_14_method_69_code 76 = .ok (.iconst (-1), 1) := by decide +kernel
theorem dc_14_69_77 : decode prog_14_method_69_code 77 = .ok (.ireturn, 1) := by decide +kernel
theorem iv_13_s413 : mm_iv 13 (.invokestatic 413) = some (0, 254) := by decide +kernel
theorem iv_13_v335 : mm_iv 13 (.invokevirtual 335) = some (1, 228) := by decide +kernel
theorem iv_13_v410 : mm_iv 13 (.invokevirtual 410) = some (1, 253) := by decide +kernel
theorem iv_13_v416 : mm_iv 13 (.invokevirtual 416) = some (1, 252) := by decide +kernel
theorem o_228 : mm_o 228 = 13 := by decide +kernel
theorem o_252 : mm_o 252 = 13 := by decide +kernel
theorem o_253 : mm_o 253 = 13 := by decide +kernel
theorem na_0_254 : mm_nas 0 254 = 1 := by decide +kernel
theorem na_1_228 : mm_nas 1 228 = 3 := by decide +kernel
theorem na_1_252 : mm_nas 1 252 = 3 := by decide +kernel
theorem na_1_253 : mm_nas 1 253 = 4 := by decide +kernel
/-- a truth as an int -/
noncomputable def pI (P : Prop) : Int32 := @ite _ P (Classical.propDecidable P) (nI 1) (nI 0)
theorem pI_t {P : Prop} (h : P) : pI P = nI 1 := if_pos h
theorem pI_f {P : Prop} (h : ¬ P) : pI P = nI 0 := if_neg h
theorem pI_iff {P Q : Prop} (h : P ↔ Q) : pI P = pI Q := by rw [propext h]
theorem pI_z (P : Prop) : pI P &&& 1 = pI P := by
  by_cases h : P
  · rw [pI_t h]; rfl
  · rw [pI_f h]; rfl
theorem pI_ne {P : Prop} (h : ¬ pI P = 0) : P := Classical.byContradiction (fun q => h (pI_f q))
theorem pI_eq0 {P : Prop} (h : pI P = 0) : ¬ P := fun q => absurd ((pI_t q).symm.trans h) (by decide)
theorem va_up4 {α : Type} (f : Nat → α) {k l : Nat} (h : ¬ k = l) (a b a2 b2 : α) : va_up (va_up (va_up (va_up f k a) l b) k a2) l b2 = va_up (va_up f k a2) l b2 := by
  funext j
  unfold va_up
  repeat' split
  all_goals first | rfl | omega
/-- how far a row is good -/
noncomputable def sp_stp (g : Nat → Prop) : Nat → Nat
  | 0 => 0
  | n + 1 => @ite _ (sp_stp g n = n ∧ g n) (Classical.propDecidable _) (n + 1) (sp_stp g n)
theorem sp_stp_S {g : Nat → Prop} {n : Nat} (h : sp_stp g n = n) (hg : g n) : sp_stp g (n + 1) = n + 1 := if_pos ⟨h, hg⟩
theorem sp_stp_le (g : Nat → Prop) : ∀ n, sp_stp g n ≤ n
  | 0 => Nat.le_refl 0
  | n + 1 => by
    unfold sp_stp
    split
    · exact Nat.le_refl _
    · exact Nat.le_succ_of_le (sp_stp_le g n)
theorem sp_stp_N {g : Nat → Prop} {m : Nat} (h : sp_stp g m = m) (hg : ¬ g m) : ∀ n, m < n → sp_stp g n = m
  | n + 1, hn => by
    by_cases q : m = n
    · subst q
      exact (if_neg (fun z => hg z.2)).trans h
    · have e := sp_stp_N h hg n (by omega)
      exact (if_neg (fun z => by omega)).trans e
theorem sp_stp_iff (g : Nat → Prop) : ∀ n, sp_stp g n = n ↔ ∀ j, j < n → g j
  | 0 => ⟨fun _ j hj => absurd hj (Nat.not_lt_zero j), fun _ => rfl⟩
  | n + 1 => by
    constructor
    · intro h j hj
      unfold sp_stp at h
      split at h
      · rename_i q
        by_cases e : j = n
        · exact e ▸ q.2
        · exact (sp_stp_iff g n).mp q.1 j (by omega)
      · exact absurd (sp_stp_le g n) (by omega)
    · intro h
      exact sp_stp_S ((sp_stp_iff g n).mpr (fun j hj => h j (by omega))) (h n (by omega))
def sp_bt (set : Int32) (c : Nat) : Int32 := set >>> (nI c &&& 31) &&& nI 1
def sp_hr (sg : Nat → Nat → Int32) (h : Nat) (set : Int32) : Nat → Int32
  | 0 => nI 0
  | c + 1 => if sp_bt set c = 0 then sp_hr sg h set c else sp_hr sg h set c ||| sg 20 (6 * h + c)
def sp_cr (sg : Nat → Nat → Int32) (h : Nat) (set : Int32) : Nat → Int32
  | 0 => nI 0
  | c + 1 => if sp_bt set c = 0 then sp_cr sg h set c else sp_cr sg h set c + sg 18 (6 * h + c)
def sp_tp (sg : Nat → Nat → Int32) (s h : Nat) (set : Int32) : Nat → Int32
  | 0 => nI 0
  | c + 1 => if sp_bt set c = 0 then sp_tp sg s h set c else sp_tp sg s h set c ||| sg 17 (6 * h + c) &&& sg 55 s
def sp_gd (sg : Nat → Nat → Int32) (h : Nat) (lev set : Int32) (c : Nat) : Prop := sp_bt set c = 0 ∨ sg 21 (6 * h + c) = 0 ∧ ¬ lev < sg 19 (6 * h + c) ∧ sp_hr sg h set c &&& sg 20 (6 * h + c) = 0
def sp_can (sg : Nat → Nat → Int32) (h : Nat) (lev set : Int32) (cm : Nat) : Prop := (∀ j, j < cm → sp_gd sg h lev set j) ∧ sp_cr sg h set cm ≤ nI 12
set_option maxHeartbeats 4000000 in
theorem c_canTake (M : mH) (hM : 157 ≤ M.1) (io : Nat → Int32) (sg : Nat → Nat → Int32) (s h tg cm : Nat) (hs : s < 16) (hh : h < 8) (htg : sg 10 h = nI tg) (ht : tg < 4) (hcm : sg 16 h = nI cm) (hc6 : cm ≤ 6) (set : Int32) : mm_Ev 2 253 [.ref 100, .int (nI s), .int (nI h), .int set] (rf_mk M io sg) ((some (.int (pI (sp_can sg h (sp_lev sg s tg) set cm))), rf_mk M (va_up (va_up io 73 (sp_cr sg h set (sp_stp (sp_gd sg h (sp_lev sg s tg) set) cm))) 74 (sp_tp sg s h set (sp_stp (sp_gd sg h (sp_lev sg s tg) set) cm))) sg)) := by
  refine r_ev (by decide +kernel) (show (4 : Nat) ≤ mm_nL 253 by decide +kernel) ?_
  show mm_Ru 1 (13, 7, false, prog_14_method_66_code, some .boolean) 0 [(0, .ref 100), (1, .int (nI s)), (2, .int (nI h)), (3, .int set)] [] (rf_mk M io sg) (fun r9 => r9 = ((some (.int (pI (sp_can sg h (sp_lev sg s tg) set cm))), rf_mk M (va_up (va_up io 73 (sp_cr sg h set (sp_stp (sp_gd sg h (sp_lev sg s tg) set) cm))) 74 (sp_tp sg s h set (sp_stp (sp_gd sg h (sp_lev sg s tg) set) cm))) sg)))
  refine r_iconst (v := nI 0) (by decide) dc_14_66_0 ?_
  refine r_istore (ls' := [(4, .int (nI 0)), (0, .ref 100), (1, .int (nI s)), (2, .int (nI h)), (3, .int set)]) (by decide) rfl dc_14_66_1 ?_
  refine r_aload_n rfl dc_14_66_3 ?_
  refine r_iconst (v := nI 0) (by decide) dc_14_66_4 ?_
  refine q_put rx_395 (by decide +kernel) (by decide +kernel) (by decide) (rs_73 _) hM dc_14_66_5 ?_
  refine r_aload_n rfl dc_14_66_8 ?_
  refine r_iconst (v := nI 0) (by decide) dc_14_66_9 ?_
  refine q_put rx_398 (by decide +kernel) (by decide +kernel) (by decide) (rs_74 _) hM dc_14_66_10 ?_
  refine r_iconst (v := nI 0) (by decide) dc_14_66_13 ?_
  refine r_istore (ls' := [(5, .int (nI 0)), (4, .int (nI 0)), (0, .ref 100), (1, .int (nI s)), (2, .int (nI h)), (3, .int set)]) (by decide) rfl dc_14_66_14 ?_
  refine mm_cnt (P := fun m => ∀ (acc : Int32), (acc = sp_hr sg h set m ∧ sp_stp (sp_gd sg h (sp_lev sg s tg) set) m = m) → mm_Ru 1 (13, 7, false, prog_14_method_66_code, some .boolean) 16 [(5, .int (nI m)), (4, .int acc), (0, .ref 100), (1, .int (nI s)), (2, .int (nI h)), (3, .int set)] [] (rf_mk M (va_up (va_up io 73 (sp_cr sg h set m)) 74 (sp_tp sg s h set m)) sg) (fun r9 => r9 = ((some (.int (pI (sp_can sg h (sp_lev sg s tg) set cm))), rf_mk M (va_up (va_up io 73 (sp_cr sg h set (sp_stp (sp_gd sg h (sp_lev sg s tg) set) cm))) 74 (sp_tp sg s h set (sp_stp (sp_gd sg h (sp_lev sg s tg) set) cm))) sg)))) cm ?_ ?_ 0 (by omega) (nI 0) (⟨rfl, rfl⟩)
  · intro acc hi_m
    show mm_Ru 1 (13, 7, false, prog_14_method_66_code, some .boolean) 16 [(5, .int (nI cm)), (4, .int acc), (0, .ref 100), (1, .int (nI s)), (2, .int (nI h)), (3, .int set)] [] (rf_mk M (va_up (va_up io 73 (sp_cr sg h set cm)) 74 (sp_tp sg s h set cm)) sg) (fun r9 => r9 = ((some (.int (pI (sp_can sg h (sp_lev sg s tg) set cm))), rf_mk M (va_up (va_up io 73 (sp_cr sg h set (sp_stp (sp_gd sg h (sp_lev sg s tg) set) cm))) 74 (sp_tp sg s h set (sp_stp (sp_gd sg h (sp_lev sg s tg) set) cm))) sg)))
    refine r_iload rfl dc_14_66_16 ?_
    refine r_aload_n rfl dc_14_66_18 ?_
    refine q_get (v := .ref 111) rx_40 hM rfl dc_14_66_19 ?_
    refine r_iload_n rfl dc_14_66_22 ?_
    refine q_ild (e := h) (v := nI cm) (by decide) (by decide) hM rfl (show h < 8 by omega) (by omega) (hcm) dc_14_66_23 ?_
    refine r_ncge (t := 146) (by omega) (by omega) (by decide) dc_14_66_24 (fun c_24 => ?_) (fun c_24 => ?_)
    · skip
      refine r_aload_n rfl dc_14_66_146 ?_
      refine q_get (v := .int (sp_cr sg h set cm)) rx_395 hM rfl dc_14_66_147 ?_
      refine r_bipush (v := nI 12) (by decide) dc_14_66_150 ?_
      refine r_icgt (t := 159) (by decide) dc_14_66_152 (fun c_152 => ?_) (fun c_152 => ?_)
      · skip
        refine r_iconst (v := nI 0) (by decide) dc_14_66_159 ?_
        refine r_zret rfl (by decide) dc_14_66_160 ?_
        rw [hi_m.2]
        rw [pI_f (fun q => absurd c_152 (Int32.not_lt.mpr q.2))]
      · skip
        refine r_iconst (v := nI 1) (by decide) dc_14_66_155 ?_
        refine r_goto (t := 160) (by decide) dc_14_66_156 ?_
        refine r_zret rfl (by decide) dc_14_66_160 ?_
        rw [hi_m.2]
        rw [pI_t ⟨(sp_stp_iff _ cm).mp hi_m.2, Int32.not_lt.mp c_152⟩]
    · omega
  · intro m h_m ih_m acc hi_m
    show mm_Ru 1 (13, 7, false, prog_14_method_66_code, some .boolean) 16 [(5, .int (nI m)), (4, .int acc), (0, .ref 100), (1, .int (nI s)), (2, .int (nI h)), (3, .int set)] [] (rf_mk M (va_up (va_up io 73 (sp_cr sg h set m)) 74 (sp_tp sg s h set m)) sg) (fun r9 => r9 = ((some (.int (pI (sp_can sg h (sp_lev sg s tg) set cm))), rf_mk M (va_up (va_up io 73 (sp_cr sg h set (sp_stp (sp_gd sg h (sp_lev sg s tg) set) cm))) 74 (sp_tp sg s h set (sp_stp (sp_gd sg h (sp_lev sg s tg) set) cm))) sg)))
    refine r_iload rfl dc_14_66_16 ?_
    refine r_aload_n rfl dc_14_66_18 ?_
    refine q_get (v := .ref 111) rx_40 hM rfl dc_14_66_19 ?_
    refine r_iload_n rfl dc_14_66_22 ?_
    refine q_ild (e := h) (v := nI cm) (by decide) (by decide) hM rfl (show h < 8 by omega) (by omega) (hcm) dc_14_66_23 ?_
    refine r_ncge (t := 146) (by omega) (by omega) (by decide) dc_14_66_24 (fun c_24 => ?_) (fun c_24 => ?_)
    · omega
    · skip
      refine r_iload_n rfl dc_14_66_27 ?_
      refine r_iload rfl dc_14_66_28 ?_
      refine r_ishr (v := set >>> (nI m &&& 31)) (rfl) dc_14_66_30 ?_
      refine r_iconst (v := nI 1) (by decide) dc_14_66_31 ?_
      refine r_iand (v := sp_bt set m) (rfl) dc_14_66_32 ?_
      refine r_ifne (t := 39) (by decide) dc_14_66_33 (fun c_33 => ?_) (fun c_33 => ?_)
      · skip
        refine r_bipush (v := nI 6) (by decide) dc_14_66_39 ?_
        refine r_iload_n rfl dc_14_66_41 ?_
        refine r_imul (v := nI (6 * h)) (pk_mul _ _) dc_14_66_42 ?_
        refine r_iload rfl dc_14_66_43 ?_
        refine r_iadd (v := nI (6 * h + m)) (nI_add _ _) dc_14_66_45 ?_
        refine r_istore (ls' := [(6, .int (nI (6 * h + m))), (5, .int (nI m)), (4, .int acc), (0, .ref 100), (1, .int (nI s)), (2, .int (nI h)), (3, .int set)]) (by decide) rfl dc_14_66_46 ?_
        refine r_aload_n rfl dc_14_66_48 ?_
        refine q_get (v := .ref 116) rx_55 hM rfl dc_14_66_49 ?_
        refine r_iload rfl dc_14_66_52 ?_
        refine q_bld (e := 6 * h + m) (v := sg 21 (6 * h + m)) (by decide) (by decide) hM rfl (show 6 * h + m < 48 by omega) (by omega) (rfl) dc_14_66_54 ?_
        refine r_ifne (t := 87) (by decide) dc_14_66_55 (fun c_55 => ?_) (fun c_55 => ?_)
        · skip
          refine r_iconst (v := nI 0) (by decide) dc_14_66_87 ?_
          refine r_zret rfl (by decide) dc_14_66_88 ?_
          rw [sp_stp_N hi_m.2 (fun q => q.elim c_33 (fun z => c_55 z.1)) cm h_m]
          rw [pI_f (fun q => absurd (q.1 m h_m) (fun q => q.elim c_33 (fun z => c_55 z.1)))]
        · skip
          refine r_aload_n rfl dc_14_66_58 ?_
          refine q_get (v := .ref 114) rx_49 hM rfl dc_14_66_59 ?_
          refine r_iload rfl dc_14_66_62 ?_
          refine q_ild (e := 6 * h + m) (v := sg 19 (6 * h + m)) (by decide) (by decide) hM rfl (show 6 * h + m < 48 by omega) (by omega) (rfl) dc_14_66_64 ?_
          refine r_aload_n rfl dc_14_66_65 ?_
          refine r_iload_n rfl dc_14_66_66 ?_
          refine r_iload_n rfl dc_14_66_67 ?_
          refine q_calli (as := [.int (nI s), .int (nI h)]) (rest := [.int (sg 19 (6 * h + m))]) (v := .int (sp_lev sg s tg)) (M1 := rf_mk M (va_up (va_up io 73 (sp_cr sg h set m)) 74 (sp_tp sg s h set m)) sg) iv_13_v335 na_1_228 o_228 hM rfl (show (1 : Nat) ≤ 8 by decide) dc_14_66_68 (c_levelIn M hM (va_up (va_up io 73 (sp_cr sg h set m)) 74 (sp_tp sg s h set m)) sg s h tg hs hh htg ht) ?_
          refine r_icgt (t := 87) (by decide) dc_14_66_71 (fun c_71 => ?_) (fun c_71 => ?_)
          · skip
            refine r_iconst (v := nI 0) (by decide) dc_14_66_87 ?_
            refine r_zret rfl (by decide) dc_14_66_88 ?_
            rw [sp_stp_N hi_m.2 (fun q => q.elim c_33 (fun z => z.2.1 c_71)) cm h_m]
            rw [pI_f (fun q => absurd (q.1 m h_m) (fun q => q.elim c_33 (fun z => z.2.1 c_71)))]
          · skip
            refine r_iload rfl dc_14_66_74 ?_
            refine r_aload_n rfl dc_14_66_76 ?_
            refine q_get (v := .ref 115) rx_52 hM rfl dc_14_66_77 ?_
            refine r_iload rfl dc_14_66_80 ?_
            refine q_ild (e := 6 * h + m) (v := sg 20 (6 * h + m)) (by decide) (by decide) hM rfl (show 6 * h + m < 48 by omega) (by omega) (rfl) dc_14_66_82 ?_
            refine r_iand (v := acc &&& (sg 20 (6 * h + m))) (rfl) dc_14_66_83 ?_
            refine r_ifeq (t := 89) (by decide) dc_14_66_84 (fun c_84 => ?_) (fun c_84 => ?_)
            · skip
              refine r_iload rfl dc_14_66_89 ?_
              refine r_aload_n rfl dc_14_66_91 ?_
              refine q_get (v := .ref 115) rx_52 hM rfl dc_14_66_92 ?_
              refine r_iload rfl dc_14_66_95 ?_
              refine q_ild (e := 6 * h + m) (v := sg 20 (6 * h + m)) (by decide) (by decide) hM rfl (show 6 * h + m < 48 by omega) (by omega) (rfl) dc_14_66_97 ?_
              refine r_ior (v := acc ||| (sg 20 (6 * h + m))) (rfl) dc_14_66_98 ?_
              refine r_istore (ls' := [(4, .int (acc ||| (sg 20 (6 * h + m)))), (6, .int (nI (6 * h + m))), (5, .int (nI m)), (0, .ref 100), (1, .int (nI s)), (2, .int (nI h)), (3, .int set)]) (by decide) rfl dc_14_66_99 ?_
              refine r_aload_n rfl dc_14_66_101 ?_
              refine r_aload_n rfl dc_14_66_102 ?_
              refine q_get (v := .int (sp_cr sg h set m)) rx_395 hM rfl dc_14_66_103 ?_
              refine r_aload_n rfl dc_14_66_106 ?_
              refine q_get (v := .ref 113) rx_46 hM rfl dc_14_66_107 ?_
              refine r_iload rfl dc_14_66_110 ?_
              refine q_ild (e := 6 * h + m) (v := sg 18 (6 * h + m)) (by decide) (by decide) hM rfl (show 6 * h + m < 48 by omega) (by omega) (rfl) dc_14_66_112 ?_
              refine r_iadd (v := (sp_cr sg h set m) + (sg 18 (6 * h + m))) (rfl) dc_14_66_113 ?_
              refine q_put rx_395 (by decide +kernel) (by decide +kernel) (by decide) (rs_73 _) hM dc_14_66_114 ?_
              refine r_aload_n rfl dc_14_66_117 ?_
              refine r_aload_n rfl dc_14_66_118 ?_
              refine q_get (v := .int (sp_tp sg s h set m)) rx_398 hM rfl dc_14_66_119 ?_
              refine r_aload_n rfl dc_14_66_122 ?_
              refine q_get (v := .ref 112) rx_43 hM rfl dc_14_66_123 ?_
              refine r_iload rfl dc_14_66_126 ?_
              refine q_ild (e := 6 * h + m) (v := sg 17 (6 * h + m)) (by decide) (by decide) hM rfl (show 6 * h + m < 48 by omega) (by omega) (rfl) dc_14_66_128 ?_
              refine r_aload_n rfl dc_14_66_129 ?_
              refine q_get (v := .ref 137) rx_120 hM rfl dc_14_66_130 ?_
              refine r_iload_n rfl dc_14_66_133 ?_
              refine q_ild (e := s) (v := sg 55 s) (by decide) (by decide) hM rfl (show s < 16 by omega) (by omega) (rfl) dc_14_66_134 ?_
              refine r_iand (v := (sg 17 (6 * h + m)) &&& (sg 55 s)) (rfl) dc_14_66_135 ?_
              refine r_ior (v := (sp_tp sg s h set m) ||| ((sg 17 (6 * h + m)) &&& (sg 55 s))) (rfl) dc_14_66_136 ?_
              refine q_put rx_398 (by decide +kernel) (by decide +kernel) (by decide) (rs_74 _) hM dc_14_66_137 ?_
              refine r_iinc (x := nI m) (v := nI (m + 1)) (ls' := [(5, .int (nI (m + 1))), (4, .int (acc ||| (sg 20 (6 * h + m)))), (6, .int (nI (6 * h + m))), (0, .ref 100), (1, .int (nI s)), (2, .int (nI h)), (3, .int set)]) rfl (nI_1 _) (by decide) rfl dc_14_66_140 ?_
              refine r_goto (t := 16) (by decide) dc_14_66_143 ?_
              refine r_ls [(5, .int (nI (m + 1))), (4, .int (acc ||| (sg 20 (6 * h + m)))), (0, .ref 100), (1, .int (nI s)), (2, .int (nI h)), (3, .int set)] (mm_ndk_of [5, 4, 0, 1, 2, 3] rfl (by decide)) (mm_sub_cons rfl (mm_sub_cons rfl (mm_sub_cons rfl (mm_sub_cons rfl (mm_sub_cons rfl (mm_sub_cons rfl (mm_sub_nil _))))))) ?_
              rw [show sp_cr sg h set (m + 1) = sp_cr sg h set m + sg 18 (6 * h + m) from if_neg c_33, show sp_tp sg s h set (m + 1) = sp_tp sg s h set m ||| sg 17 (6 * h + m) &&& sg 55 s from if_neg c_33, ← va_up4 io (by decide : ¬ 73 = 74) (sp_cr sg h set m) (sp_tp sg s h set m)] at ih_m
              exact ih_m (acc ||| (sg 20 (6 * h + m))) (⟨by rw [hi_m.1]; exact (if_neg c_33).symm, sp_stp_S hi_m.2 (Or.inr ⟨c_55, c_71, by rw [← hi_m.1]; exact c_84⟩)⟩)
            · skip
              refine r_iconst (v := nI 0) (by decide) dc_14_66_87 ?_
              refine r_zret rfl (by decide) dc_14_66_88 ?_
              rw [sp_stp_N hi_m.2 (fun q => q.elim c_33 (fun z => c_84 (by rw [hi_m.1]; exact z.2.2))) cm h_m]
              rw [pI_f (fun q => absurd (q.1 m h_m) (fun q => q.elim c_33 (fun z => c_84 (by rw [hi_m.1]; exact z.2.2))))]
      · skip
        refine r_goto (t := 140) (by decide) dc_14_66_36 ?_
        refine r_iinc (x := nI m) (v := nI (m + 1)) (ls' := [(5, .int (nI (m + 1))), (4, .int acc), (0, .ref 100), (1, .int (nI s)), (2, .int (nI h)), (3, .int set)]) rfl (nI_1 _) (by decide) rfl dc_14_66_140 ?_
        refine r_goto (t := 16) (by decide) dc_14_66_143 ?_
        rw [show sp_cr sg h set (m + 1) = sp_cr sg h set m from if_pos c_33, show sp_tp sg s h set (m + 1) = sp_tp sg s h set m from if_pos c_33] at ih_m
        exact ih_m acc (⟨(if_pos c_33).trans hi_m.1.symm |>.symm, sp_stp_S hi_m.2 (Or.inl c_33)⟩)
def sp_bet (sg : Nat → Nat → Int32) (s h cm m b : Nat) : Prop := ¬ sp_bits (sp_tp sg s h (nI m) cm) - sp_bits (sp_tp sg s h (nI b) cm) < 0 ∧ (sp_bits (sp_tp sg s h (nI m) cm) - sp_bits (sp_tp sg s h (nI b) cm) = 0 → sp_cr sg h (nI m) cm < sp_cr sg h (nI b) cm)
noncomputable def sp_bst (sg : Nat → Nat → Int32) (s h cm : Nat) (lev : Int32) : Nat → Nat
  | 0 => 0
  | m + 1 => @ite _ (1 ≤ m ∧ sp_can sg h lev (nI m) cm ∧ sp_bet sg s h cm m (sp_bst sg s h cm lev m)) (Classical.propDecidable _) m (sp_bst sg s h cm lev m)
theorem sp_bst_1 (sg : Nat → Nat → Int32) (s h cm : Nat) (lev : Int32) : sp_bst sg s h cm lev 1 = 0 := if_neg (fun q => absurd q.1 (by decide))
theorem sp_bt0 : ∀ c, c < 6 → sp_bt (nI 0) c = 0 := by decide
theorem sp_cr0 (sg : Nat → Nat → Int32) (h : Nat) : ∀ c, c ≤ 6 → sp_cr sg h (nI 0) c = nI 0
  | 0, _ => rfl
  | c + 1, q => (if_pos (sp_bt0 c (by omega))).trans (sp_cr0 sg h c (by omega))
theorem sp_tp0 (sg : Nat → Nat → Int32) (s h : Nat) : ∀ c, c ≤ 6 → sp_tp sg s h (nI 0) c = nI 0
  | 0, _ => rfl
  | c + 1, q => (if_pos (sp_bt0 c (by omega))).trans (sp_tp0 sg s h c (by omega))
def io5 (io : Nat → Int32) (a b x y z : Int32) : Nat → Int32 := va_up (va_up (va_up (va_up (va_up io 73 a) 74 b) 75 x) 76 y) 77 z
theorem io5_1 (io : Nat → Int32) (a b x y z a2 b2 : Int32) : va_up (va_up (io5 io a b x y z) 73 a2) 74 b2 = io5 io a2 b2 x y z := by
  funext j
  simp only [io5, va_up]
  repeat' split
  all_goals first | rfl | omega
theorem io5_2 (io : Nat → Int32) (a b x y z x2 y2 z2 : Int32) : va_up (va_up (va_up (io5 io a b x y z) 75 x2) 76 y2) 77 z2 = io5 io a b x2 y2 z2 := by
  funext j
  simp only [io5, va_up]
  repeat' split
  all_goals first | rfl | omega
theorem io5_3 (io : Nat → Int32) (x y z : Int32) : va_up (va_up (va_up io 75 x) 76 y) 77 z = io5 io (io 73) (io 74) x y z := by
  funext j
  simp only [io5, va_up]
  repeat' split
  all_goals first | rfl | (rename_i h; rw [h]) | (rename_i h _; rw [h]) | omega
theorem sh1 : ∀ c, c ≤ 6 → nI 1 <<< (nI c &&& 31) = nI (2 ^ c) := by decide +kernel
theorem sh2 : ∀ c, c ≤ 6 → 2 ^ c ≤ 64 := by decide
theorem sh3 : ∀ c, c ≤ 6 → 1 ≤ 2 ^ c := by decide
set_option maxHeartbeats 4000000 in
theorem c_studies (M : mH) (hM : 157 ≤ M.1) (io : Nat → Int32) (sg : Nat → Nat → Int32) (s h tg cm : Nat) (hs : s < 16) (hh : h < 8) (htg : sg 10 h = nI tg) (ht : tg < 4) (hcm : sg 16 h = nI cm) (hc6 : cm ≤ 6) (ne : Nat) (hne : nI 1 <<< (nI cm &&& 31) = nI ne) (hn64 : ne ≤ 64) (hn1 : 1 ≤ ne) : ∃ (a : Int32), ∃ (b : Int32), mm_Ev 3 252 [.ref 100, .int (nI s), .int (nI h)] (rf_mk M io sg) ((none, rf_mk M (io5 io a b (nI (sp_bst sg s h cm (sp_lev sg s tg) ne)) (sp_cr sg h (nI (sp_bst sg s h cm (sp_lev sg s tg) ne)) cm) (sp_tp sg s h (nI (sp_bst sg s h cm (sp_lev sg s tg) ne)) cm)) sg)) := by
  have hq9 : ∃ z, (fun r9 => ∃ (a : Int32), ∃ (b : Int32), r9 = ((none, rf_mk M (io5 io a b (nI (sp_bst sg s h cm (sp_lev sg s tg) ne)) (sp_cr sg h (nI (sp_bst sg s h cm (sp_lev sg s tg) ne)) cm) (sp_tp sg s h (nI (sp_bst sg s h cm (sp_lev sg s tg) ne)) cm)) sg))) z ∧ mm_Ev 3 252 [.ref 100, .int (nI s), .int (nI h)] (rf_mk M io sg) z := by
    refine r_evQ (by decide +kernel) (show (3 : Nat) ≤ mm_nL 252 by decide +kernel) ?_
    show mm_Ru 2 (13, 5, false, prog_14_method_68_code, none) 0 [(0, .ref 100), (1, .int (nI s)), (2, .int (nI h))] [] (rf_mk M io sg) (fun r9 => ∃ (a : Int32), ∃ (b : Int32), r9 = ((none, rf_mk M (io5 io a b (nI (sp_bst sg s h cm (sp_lev sg s tg) ne)) (sp_cr sg h (nI (sp_bst sg s h cm (sp_lev sg s tg) ne)) cm) (sp_tp sg s h (nI (sp_bst sg s h cm (sp_lev sg s tg) ne)) cm)) sg)))
    refine r_aload_n rfl dc_14_68_0 ?_
    refine r_iconst (v := nI 0) (by decide) dc_14_68_1 ?_
    refine q_put rx_401 (by decide +kernel) (by decide +kernel) (by decide) (rs_75 _) hM dc_14_68_2 ?_
    refine r_aload_n rfl dc_14_68_5 ?_
    refine r_iconst (v := nI 0) (by decide) dc_14_68_6 ?_
    refine q_put rx_404 (by decide +kernel) (by decide +kernel) (by decide) (rs_76 _) hM dc_14_68_7 ?_
    refine r_aload_n rfl dc_14_68_10 ?_
    refine r_iconst (v := nI 0) (by decide) dc_14_68_11 ?_
    refine q_put rx_407 (by decide +kernel) (by decide +kernel) (by decide) (rs_77 _) hM dc_14_68_12 ?_
    refine r_iconst (v := nI 1) (by decide) dc_14_68_15 ?_
    refine r_istore_n (ls' := [(3, .int (nI 1)), (0, .ref 100), (1, .int (nI s)), (2, .int (nI h))]) (by decide) rfl dc_14_68_16 ?_
    have e0 : io5 io (io 73) (io 74) (nI (sp_bst sg s h cm (sp_lev sg s tg) 1)) (sp_cr sg h (nI (sp_bst sg s h cm (sp_lev sg s tg) 1)) cm) (sp_tp sg s h (nI (sp_bst sg s h cm (sp_lev sg s tg) 1)) cm) = va_up (va_up (va_up io 75 (nI 0)) 76 (nI 0)) 77 (nI 0) := by rw [sp_bst_1, sp_cr0 sg h cm hc6, sp_tp0 sg s h cm hc6, io5_3]
    rw [← e0]
    refine mm_cnt (P := fun m => ∀ (a : Int32), ∀ (b : Int32), (1 ≤ m) → mm_Ru 2 (13, 5, false, prog_14_method_68_code, none) 17 [(3, .int (nI m)), (0, .ref 100), (1, .int (nI s)), (2, .int (nI h))] [] (rf_mk M (io5 io a b (nI (sp_bst sg s h cm (sp_lev sg s tg) m)) (sp_cr sg h (nI (sp_bst sg s h cm (sp_lev sg s tg) m)) cm) (sp_tp sg s h (nI (sp_bst sg s h cm (sp_lev sg s tg) m)) cm)) sg) (fun r9 => ∃ (a : Int32), ∃ (b : Int32), r9 = ((none, rf_mk M (io5 io a b (nI (sp_bst sg s h cm (sp_lev sg s tg) ne)) (sp_cr sg h (nI (sp_bst sg s h cm (sp_lev sg s tg) ne)) cm) (sp_tp sg s h (nI (sp_bst sg s h cm (sp_lev sg s tg) ne)) cm)) sg)))) ne ?_ ?_ 1 (by omega) (io 73) (io 74) (Nat.le_refl 1)
    · intro a b h1m
      show mm_Ru 2 (13, 5, false, prog_14_method_68_code, none) 17 [(3, .int (nI ne)), (0, .ref 100), (1, .int (nI s)), (2, .int (nI h))] [] (rf_mk M (io5 io a b (nI (sp_bst sg s h cm (sp_lev sg s tg) ne)) (sp_cr sg h (nI (sp_bst sg s h cm (sp_lev sg s tg) ne)) cm) (sp_tp sg s h (nI (sp_bst sg s h cm (sp_lev sg s tg) ne)) cm)) sg) (fun r9 => ∃ (a : Int32), ∃ (b : Int32), r9 = ((none, rf_mk M (io5 io a b (nI (sp_bst sg s h cm (sp_lev sg s tg) ne)) (sp_cr sg h (nI (sp_bst sg s h cm (sp_lev sg s tg) ne)) cm) (sp_tp sg s h (nI (sp_bst sg s h cm (sp_lev sg s tg) ne)) cm)) sg)))
      refine r_iload_n rfl dc_14_68_17 ?_
      refine r_iconst (v := nI 1) (by decide) dc_14_68_18 ?_
      refine r_aload_n rfl dc_14_68_19 ?_
      refine q_get (v := .ref 111) rx_40 hM rfl dc_14_68_20 ?_
      refine r_iload_n rfl dc_14_68_23 ?_
      refine q_ild (e := h) (v := nI cm) (by decide) (by decide) hM rfl (show h < 8 by omega) (by omega) (hcm) dc_14_68_24 ?_
      refine r_ishl (v := nI ne) (hne) dc_14_68_25 ?_
      refine r_ncge (t := 110) (by omega) (by omega) (by decide) dc_14_68_26 (fun c_26 => ?_) (fun c_26 => ?_)
      · skip
        refine r_vret rfl dc_14_68_110 ?_
        exact ⟨a, b, rfl⟩
      · omega
    · intro m h_m ih_m a b h1m
      show mm_Ru 2 (13, 5, false, prog_14_method_68_code, none) 17 [(3, .int (nI m)), (0, .ref 100), (1, .int (nI s)), (2, .int (nI h))] [] (rf_mk M (io5 io a b (nI (sp_bst sg s h cm (sp_lev sg s tg) m)) (sp_cr sg h (nI (sp_bst sg s h cm (sp_lev sg s tg) m)) cm) (sp_tp sg s h (nI (sp_bst sg s h cm (sp_lev sg s tg) m)) cm)) sg) (fun r9 => ∃ (a : Int32), ∃ (b : Int32), r9 = ((none, rf_mk M (io5 io a b (nI (sp_bst sg s h cm (sp_lev sg s tg) ne)) (sp_cr sg h (nI (sp_bst sg s h cm (sp_lev sg s tg) ne)) cm) (sp_tp sg s h (nI (sp_bst sg s h cm (sp_lev sg s tg) ne)) cm)) sg)))
      refine r_iload_n rfl dc_14_68_17 ?_
      refine r_iconst (v := nI 1) (by decide) dc_14_68_18 ?_
      refine r_aload_n rfl dc_14_68_19 ?_
      refine q_get (v := .ref 111) rx_40 hM rfl dc_14_68_20 ?_
      refine r_iload_n rfl dc_14_68_23 ?_
      refine q_ild (e := h) (v := nI cm) (by decide) (by decide) hM rfl (show h < 8 by omega) (by omega) (hcm) dc_14_68_24 ?_
      refine r_ishl (v := nI ne) (hne) dc_14_68_25 ?_
      refine r_ncge (t := 110) (by omega) (by omega) (by decide) dc_14_68_26 (fun c_26 => ?_) (fun c_26 => ?_)
      · omega
      · skip
        refine r_aload_n rfl dc_14_68_29 ?_
        refine r_iload_n rfl dc_14_68_30 ?_
        refine r_iload_n rfl dc_14_68_31 ?_
        refine r_iload_n rfl dc_14_68_32 ?_
        refine q_calli (as := [.int (nI s), .int (nI h), .int (nI m)]) (rest := []) (v := .int (pI (sp_can sg h (sp_lev sg s tg) (nI m) cm))) (M1 := rf_mk M (io5 io ((sp_cr sg h (nI m) (sp_stp (sp_gd sg h (sp_lev sg s tg) (nI m)) cm))) ((sp_tp sg s h (nI m) (sp_stp (sp_gd sg h (sp_lev sg s tg) (nI m)) cm))) (nI (sp_bst sg s h cm (sp_lev sg s tg) m)) (sp_cr sg h (nI (sp_bst sg s h cm (sp_lev sg s tg) m)) cm) (sp_tp sg s h (nI (sp_bst sg s h cm (sp_lev sg s tg) m)) cm)) sg) iv_13_v410 na_1_253 o_253 hM rfl (show (0 : Nat) ≤ 8 by decide) dc_14_68_33 ((congrArg (fun z => mm_Ev 2 253 _ _ (some _, z)) (rf_mk_c (io5_1 io a b _ _ _ _ _) rfl)).mp (c_canTake M hM (io5 io a b (nI (sp_bst sg s h cm (sp_lev sg s tg) m)) (sp_cr sg h (nI (sp_bst sg s h cm (sp_lev sg s tg) m)) cm) (sp_tp sg s h (nI (sp_bst sg s h cm (sp_lev sg s tg) m)) cm)) sg s h tg cm hs hh htg ht hcm hc6 (nI m))) ?_
        refine r_ifne (t := 42) (by decide) dc_14_68_36 (fun c_36 => ?_) (fun c_36 => ?_)
        · have hcan := pI_ne c_36
          have hstop : (sp_stp (sp_gd sg h (sp_lev sg s tg) (nI m)) cm) = cm := (sp_stp_iff _ cm).mpr hcan.1
          refine r_aload_n rfl dc_14_68_42 ?_
          refine q_get (v := .int (sp_tp sg s h (nI m) cm)) rx_398 hM (congrArg (fun z => some (Value.int (sp_tp sg s h (nI m) z))) hstop) dc_14_68_43 ?_
          refine q_calls (as := [.int (sp_tp sg s h (nI m) cm)]) (rest := []) (v := .int (sp_bits (sp_tp sg s h (nI m) cm))) iv_13_s413 na_0_254 rfl (show (0 : Nat) ≤ 8 by decide) dc_14_68_46 (mm_Ev_up (by decide : 1 ≤ 2) (c_bits _ (sp_tp sg s h (nI m) cm))) ?_
          refine r_aload_n rfl dc_14_68_49 ?_
          refine q_get (v := .int (sp_tp sg s h (nI (sp_bst sg s h cm (sp_lev sg s tg) m)) cm)) rx_407 hM (rfl) dc_14_68_50 ?_
          refine q_calls (as := [.int (sp_tp sg s h (nI (sp_bst sg s h cm (sp_lev sg s tg) m)) cm)]) (rest := [.int (sp_bits (sp_tp sg s h (nI m) cm))]) (v := .int (sp_bits (sp_tp sg s h (nI (sp_bst sg s h cm (sp_lev sg s tg) m)) cm))) iv_13_s413 na_0_254 rfl (show (1 : Nat) ≤ 8 by decide) dc_14_68_53 (mm_Ev_up (by decide : 1 ≤ 2) (c_bits _ (sp_tp sg s h (nI (sp_bst sg s h cm (sp_lev sg s tg) m)) cm))) ?_
          refine r_isub (v := (sp_bits (sp_tp sg s h (nI m) cm)) - (sp_bits (sp_tp sg s h (nI (sp_bst sg s h cm (sp_lev sg s tg) m)) cm))) (rfl) dc_14_68_56 ?_
          refine r_istore (ls' := [(4, .int ((sp_bits (sp_tp sg s h (nI m) cm)) - (sp_bits (sp_tp sg s h (nI (sp_bst sg s h cm (sp_lev sg s tg) m)) cm)))), (3, .int (nI m)), (0, .ref 100), (1, .int (nI s)), (2, .int (nI h))]) (by decide) rfl dc_14_68_57 ?_
          refine r_iload rfl dc_14_68_59 ?_
          refine r_iflt (t := 104) (by decide) dc_14_68_61 (fun c_61 => ?_) (fun c_61 => ?_)
          · skip
            refine r_iinc (x := nI m) (v := nI (m + 1)) (ls' := [(3, .int (nI (m + 1))), (4, .int ((sp_bits (sp_tp sg s h (nI m) cm)) - (sp_bits (sp_tp sg s h (nI (sp_bst sg s h cm (sp_lev sg s tg) m)) cm)))), (0, .ref 100), (1, .int (nI s)), (2, .int (nI h))]) rfl (nI_1 _) (by decide) rfl dc_14_68_104 ?_
            refine r_goto (t := 17) (by decide) dc_14_68_107 ?_
            refine r_ls [(3, .int (nI (m + 1))), (0, .ref 100), (1, .int (nI s)), (2, .int (nI h))] (mm_ndk_of [3, 0, 1, 2] rfl (by decide)) (mm_sub_cons rfl (mm_sub_cons rfl (mm_sub_cons rfl (mm_sub_cons rfl (mm_sub_nil _))))) ?_
            have e9 : (sp_bst sg s h cm (sp_lev sg s tg) (m + 1)) = (sp_bst sg s h cm (sp_lev sg s tg) m) := if_neg (fun q => q.2.2.1 c_61)
            have ih2 := ih_m (sp_cr sg h (nI m) (sp_stp (sp_gd sg h (sp_lev sg s tg) (nI m)) cm)) (sp_tp sg s h (nI m) (sp_stp (sp_gd sg h (sp_lev sg s tg) (nI m)) cm))
            rw [e9] at ih2
            exact ih2 (by omega)
          · skip
            refine r_iload rfl dc_14_68_64 ?_
            refine r_ifne (t := 83) (by decide) dc_14_68_66 (fun c_66 => ?_) (fun c_66 => ?_)
            · skip
              refine r_aload_n rfl dc_14_68_83 ?_
              refine r_iload_n rfl dc_14_68_84 ?_
              refine q_put rx_401 (by decide +kernel) (by decide +kernel) (by decide) (rs_75 _) hM dc_14_68_85 ?_
              refine r_aload_n rfl dc_14_68_88 ?_
              refine r_aload_n rfl dc_14_68_89 ?_
              refine q_get (v := .int (sp_cr sg h (nI m) cm)) rx_395 hM (congrArg (fun z => some (Value.int (sp_cr sg h (nI m) z))) hstop) dc_14_68_90 ?_
              refine q_put rx_404 (by decide +kernel) (by decide +kernel) (by decide) (rs_76 _) hM dc_14_68_93 ?_
              refine r_aload_n rfl dc_14_68_96 ?_
              refine r_aload_n rfl dc_14_68_97 ?_
              refine q_get (v := .int (sp_tp sg s h (nI m) cm)) rx_398 hM (congrArg (fun z => some (Value.int (sp_tp sg s h (nI m) z))) hstop) dc_14_68_98 ?_
              refine q_put rx_407 (by decide +kernel) (by decide +kernel) (by decide) (rs_77 _) hM dc_14_68_101 ?_
              refine r_iinc (x := nI m) (v := nI (m + 1)) (ls' := [(3, .int (nI (m + 1))), (4, .int ((sp_bits (sp_tp sg s h (nI m) cm)) - (sp_bits (sp_tp sg s h (nI (sp_bst sg s h cm (sp_lev sg s tg) m)) cm)))), (0, .ref 100), (1, .int (nI s)), (2, .int (nI h))]) rfl (nI_1 _) (by decide) rfl dc_14_68_104 ?_
              refine r_goto (t := 17) (by decide) dc_14_68_107 ?_
              refine r_ls [(3, .int (nI (m + 1))), (0, .ref 100), (1, .int (nI s)), (2, .int (nI h))] (mm_ndk_of [3, 0, 1, 2] rfl (by decide)) (mm_sub_cons rfl (mm_sub_cons rfl (mm_sub_cons rfl (mm_sub_cons rfl (mm_sub_nil _))))) ?_
              have e9 : (sp_bst sg s h cm (sp_lev sg s tg) (m + 1)) = m := if_pos ⟨h1m, hcan, c_61, fun z => absurd z c_66⟩
              have ih2 := ih_m (sp_cr sg h (nI m) (sp_stp (sp_gd sg h (sp_lev sg s tg) (nI m)) cm)) (sp_tp sg s h (nI m) (sp_stp (sp_gd sg h (sp_lev sg s tg) (nI m)) cm))
              rw [e9, ← io5_2 io _ _ (nI (sp_bst sg s h cm (sp_lev sg s tg) m)) (sp_cr sg h (nI (sp_bst sg s h cm (sp_lev sg s tg) m)) cm) (sp_tp sg s h (nI (sp_bst sg s h cm (sp_lev sg s tg) m)) cm)] at ih2
              exact ih2 (by omega)
            · skip
              refine r_aload_n rfl dc_14_68_69 ?_
              refine q_get (v := .int (sp_cr sg h (nI m) cm)) rx_395 hM (congrArg (fun z => some (Value.int (sp_cr sg h (nI m) z))) hstop) dc_14_68_70 ?_
              refine r_aload_n rfl dc_14_68_73 ?_
              refine q_get (v := .int (sp_cr sg h (nI (sp_bst sg s h cm (sp_lev sg s tg) m)) cm)) rx_404 hM (rfl) dc_14_68_74 ?_
              refine r_iclt (t := 83) (by decide) dc_14_68_77 (fun c_77 => ?_) (fun c_77 => ?_)
              · skip
                refine r_aload_n rfl dc_14_68_83 ?_
                refine r_iload_n rfl dc_14_68_84 ?_
                refine q_put rx_401 (by decide +kernel) (by decide +kernel) (by decide) (rs_75 _) hM dc_14_68_85 ?_
                refine r_aload_n rfl dc_14_68_88 ?_
                refine r_aload_n rfl dc_14_68_89 ?_
                refine q_get (v := .int (sp_cr sg h (nI m) cm)) rx_395 hM (congrArg (fun z => some (Value.int (sp_cr sg h (nI m) z))) hstop) dc_14_68_90 ?_
                refine q_put rx_404 (by decide +kernel) (by decide +kernel) (by decide) (rs_76 _) hM dc_14_68_93 ?_
                refine r_aload_n rfl dc_14_68_96 ?_
                refine r_aload_n rfl dc_14_68_97 ?_
                refine q_get (v := .int (sp_tp sg s h (nI m) cm)) rx_398 hM (congrArg (fun z => some (Value.int (sp_tp sg s h (nI m) z))) hstop) dc_14_68_98 ?_
                refine q_put rx_407 (by decide +kernel) (by decide +kernel) (by decide) (rs_77 _) hM dc_14_68_101 ?_
                refine r_iinc (x := nI m) (v := nI (m + 1)) (ls' := [(3, .int (nI (m + 1))), (4, .int ((sp_bits (sp_tp sg s h (nI m) cm)) - (sp_bits (sp_tp sg s h (nI (sp_bst sg s h cm (sp_lev sg s tg) m)) cm)))), (0, .ref 100), (1, .int (nI s)), (2, .int (nI h))]) rfl (nI_1 _) (by decide) rfl dc_14_68_104 ?_
                refine r_goto (t := 17) (by decide) dc_14_68_107 ?_
                refine r_ls [(3, .int (nI (m + 1))), (0, .ref 100), (1, .int (nI s)), (2, .int (nI h))] (mm_ndk_of [3, 0, 1, 2] rfl (by decide)) (mm_sub_cons rfl (mm_sub_cons rfl (mm_sub_cons rfl (mm_sub_cons rfl (mm_sub_nil _))))) ?_
                have e9 : (sp_bst sg s h cm (sp_lev sg s tg) (m + 1)) = m := if_pos ⟨h1m, hcan, c_61, fun _ => c_77⟩
                have ih2 := ih_m (sp_cr sg h (nI m) (sp_stp (sp_gd sg h (sp_lev sg s tg) (nI m)) cm)) (sp_tp sg s h (nI m) (sp_stp (sp_gd sg h (sp_lev sg s tg) (nI m)) cm))
                rw [e9, ← io5_2 io _ _ (nI (sp_bst sg s h cm (sp_lev sg s tg) m)) (sp_cr sg h (nI (sp_bst sg s h cm (sp_lev sg s tg) m)) cm) (sp_tp sg s h (nI (sp_bst sg s h cm (sp_lev sg s tg) m)) cm)] at ih2
                exact ih2 (by omega)
              · skip
                refine r_goto (t := 104) (by decide) dc_14_68_80 ?_
                refine r_iinc (x := nI m) (v := nI (m + 1)) (ls' := [(3, .int (nI (m + 1))), (4, .int ((sp_bits (sp_tp sg s h (nI m) cm)) - (sp_bits (sp_tp sg s h (nI (sp_bst sg s h cm (sp_lev sg s tg) m)) cm)))), (0, .ref 100), (1, .int (nI s)), (2, .int (nI h))]) rfl (nI_1 _) (by decide) rfl dc_14_68_104 ?_
                refine r_goto (t := 17) (by decide) dc_14_68_107 ?_
                refine r_ls [(3, .int (nI (m + 1))), (0, .ref 100), (1, .int (nI s)), (2, .int (nI h))] (mm_ndk_of [3, 0, 1, 2] rfl (by decide)) (mm_sub_cons rfl (mm_sub_cons rfl (mm_sub_cons rfl (mm_sub_cons rfl (mm_sub_nil _))))) ?_
                have e9 : (sp_bst sg s h cm (sp_lev sg s tg) (m + 1)) = (sp_bst sg s h cm (sp_lev sg s tg) m) := if_neg (fun q => absurd (q.2.2.2 c_66) c_77)
                have ih2 := ih_m (sp_cr sg h (nI m) (sp_stp (sp_gd sg h (sp_lev sg s tg) (nI m)) cm)) (sp_tp sg s h (nI m) (sp_stp (sp_gd sg h (sp_lev sg s tg) (nI m)) cm))
                rw [e9] at ih2
                exact ih2 (by omega)
        · skip
          refine r_goto (t := 104) (by decide) dc_14_68_39 ?_
          refine r_iinc (x := nI m) (v := nI (m + 1)) (ls' := [(3, .int (nI (m + 1))), (0, .ref 100), (1, .int (nI s)), (2, .int (nI h))]) rfl (nI_1 _) (by decide) rfl dc_14_68_104 ?_
          refine r_goto (t := 17) (by decide) dc_14_68_107 ?_
          have e9 : (sp_bst sg s h cm (sp_lev sg s tg) (m + 1)) = (sp_bst sg s h cm (sp_lev sg s tg) m) := if_neg (fun q => pI_eq0 c_36 q.2.1)
          have ih2 := ih_m (sp_cr sg h (nI m) (sp_stp (sp_gd sg h (sp_lev sg s tg) (nI m)) cm)) (sp_tp sg s h (nI m) (sp_stp (sp_gd sg h (sp_lev sg s tg) (nI m)) cm))
          rw [e9] at ih2
          exact ih2 (by omega)
  obtain ⟨z9, ⟨a, b, e9⟩, h9⟩ := hq9
  subst e9
  exact ⟨a, b, h9⟩
set_option maxHeartbeats 4000000 in
theorem c_study_0 (M : mH) (hM : 157 ≤ M.1) (io : Nat → Int32) (sg : Nat → Nat → Int32) (ns : Nat) (h5 : io 5 = nI ns) (hns : ns ≤ 16) (nh : Nat) (h3 : io 3 = nI nh) (hnh : nh ≤ 8) (s h tg cm : Nat) (hs9 : s < ns) (hh9 : h < nh) (hs : s < 16) (hh : h < 8) (htg : sg 10 h = nI tg) (ht : tg < 4) (hcm : sg 16 h = nI cm) (hc6 : cm ≤ 6) (ne : Nat) (hne : nI 1 <<< (nI cm &&& 31) = nI ne) (hn64 : ne ≤ 64) (hn1 : 1 ≤ ne) : ∃ (a : Int32), ∃ (b : Int32), mm_Ev 4 251 [.ref 100, .int (nI s), .int (nI h), .int (nI 0)] (rf_mk M io sg) ((some (.int (nI (sp_bst sg s h cm (sp_lev sg s tg) ne))), rf_mk M (io5 io a b (nI (sp_bst sg s h cm (sp_lev sg s tg) ne)) (sp_cr sg h (nI (sp_bst sg s h cm (sp_lev sg s tg) ne)) cm) (sp_tp sg s h (nI (sp_bst sg s h cm (sp_lev sg s tg) ne)) cm)) sg)) := by
  have hq9 : ∃ z, (fun r9 => ∃ (a : Int32), ∃ (b : Int32), r9 = ((some (.int (nI (sp_bst sg s h cm (sp_lev sg s tg) ne))), rf_mk M (io5 io a b (nI (sp_bst sg s h cm (sp_lev sg s tg) ne)) (sp_cr sg h (nI (sp_bst sg s h cm (sp_lev sg s tg) ne)) cm) (sp_tp sg s h (nI (sp_bst sg s h cm (sp_lev sg s tg) ne)) cm)) sg))) z ∧ mm_Ev 4 251 [.ref 100, .int (nI s), .int (nI h), .int (nI 0)] (rf_mk M io sg) z := by
    refine r_evQ (by decide +kernel) (show (4 : Nat) ≤ mm_nL 251 by decide +kernel) ?_
    show mm_Ru 3 (13, 4, false, prog_14_method_69_code, some .int) 0 [(0, .ref 100), (1, .int (nI s)), (2, .int (nI h)), (3, .int (nI 0))] [] (rf_mk M io sg) (fun r9 => ∃ (a : Int32), ∃ (b : Int32), r9 = ((some (.int (nI (sp_bst sg s h cm (sp_lev sg s tg) ne))), rf_mk M (io5 io a b (nI (sp_bst sg s h cm (sp_lev sg s tg) ne)) (sp_cr sg h (nI (sp_bst sg s h cm (sp_lev sg s tg) ne)) cm) (sp_tp sg s h (nI (sp_bst sg s h cm (sp_lev sg s tg) ne)) cm)) sg)))
    refine r_aload_n rfl dc_14_69_0 ?_
    refine r_iload_n rfl dc_14_69_1 ?_
    refine q_calli (as := [.int (nI s)]) (rest := []) (v := .int (nI 1)) (M1 := rf_mk M io sg) iv_13_v323 na_1_222 o_222 hM rfl (show (0 : Nat) ≤ 8 by decide) dc_14_69_2 (mm_Ev_up (by decide : 1 ≤ 3) (c_isStudentT M hM io sg ns h5 s (by omega) (by omega))) ?_
    refine r_ifeq (t := 16) (by decide) dc_14_69_5 (fun c_5 => ?_) (fun c_5 => ?_)
    · exact absurd c_5 (by decide)
    · skip
      refine r_aload_n rfl dc_14_69_8 ?_
      refine r_iload_n rfl dc_14_69_9 ?_
      refine q_calli (as := [.int (nI h)]) (rest := []) (v := .int (nI 1)) (M1 := rf_mk M io sg) iv_13_v205 na_1_196 o_196 hM rfl (show (0 : Nat) ≤ 8 by decide) dc_14_69_10 (mm_Ev_up (by decide : 1 ≤ 3) (c_isSchoolT M hM io sg nh h3 h (by omega) (by omega))) ?_
      refine r_ifne (t := 18) (by decide) dc_14_69_13 (fun c_13 => ?_) (fun c_13 => ?_)
      · skip
        refine r_aload_n rfl dc_14_69_18 ?_
        refine r_iload_n rfl dc_14_69_19 ?_
        refine r_iload_n rfl dc_14_69_20 ?_
        obtain ⟨a9, b9, hst⟩ := c_studies M hM io sg s h tg cm hs hh htg ht hcm hc6 ne hne hn64 hn1
        refine q_callv (as := [.int (nI s), .int (nI h)]) (rest := []) (M1 := rf_mk M (io5 io a9 b9 (nI (sp_bst sg s h cm (sp_lev sg s tg) ne)) (sp_cr sg h (nI (sp_bst sg s h cm (sp_lev sg s tg) ne)) cm) (sp_tp sg s h (nI (sp_bst sg s h cm (sp_lev sg s tg) ne)) cm)) sg) iv_13_v416 na_1_252 o_252 hM rfl (show (0 : Nat) ≤ 8 by decide) dc_14_69_21 (hst) ?_
        refine r_iload_n rfl dc_14_69_24 ?_
        refine r_swIn (off := 27) (t := 52) (by decide +kernel) (by decide +kernel) (by decide +kernel) (by decide) dc_14_69_25 ?_
        refine r_aload_n rfl dc_14_69_52 ?_
        refine q_get (v := .int (nI ((sp_bst sg s h cm (sp_lev sg s tg) ne)))) rx_401 hM rfl dc_14_69_53 ?_
        refine r_iret rfl dc_14_69_56 ?_
        exact ⟨a9, b9, rfl⟩
      · exact absurd c_13 (by decide)
  obtain ⟨z9, ⟨a, b, e9⟩, h9⟩ := hq9
  subst e9
  exact ⟨a, b, h9⟩
set_option maxHeartbeats 4000000 in
theorem c_study_1 (M : mH) (hM : 157 ≤ M.1) (io : Nat → Int32) (sg : Nat → Nat → Int32) (ns : Nat) (h5 : io 5 = nI ns) (hns : ns ≤ 16) (nh : Nat) (h3 : io 3 = nI nh) (hnh : nh ≤ 8) (s h tg cm : Nat) (hs9 : s < ns) (hh9 : h < nh) (hs : s < 16) (hh : h < 8) (htg : sg 10 h = nI tg) (ht : tg < 4) (hcm : sg 16 h = nI cm) (hc6 : cm ≤ 6) (ne : Nat) (hne : nI 1 <<< (nI cm &&& 31) = nI ne) (hn64 : ne ≤ 64) (hn1 : 1 ≤ ne) : ∃ (a : Int32), ∃ (b : Int32), mm_Ev 4 251 [.ref 100, .int (nI s), .int (nI h), .int (nI 1)] (rf_mk M io sg) ((some (.int (sp_cr sg h (nI (sp_bst sg s h cm (sp_lev sg s tg) ne)) cm)), rf_mk M (io5 io a b (nI (sp_bst sg s h cm (sp_lev sg s tg) ne)) (sp_cr sg h (nI (sp_bst sg s h cm (sp_lev sg s tg) ne)) cm) (sp_tp sg s h (nI (sp_bst sg s h cm (sp_lev sg s tg) ne)) cm)) sg)) := by
  have hq9 : ∃ z, (fun r9 => ∃ (a : Int32), ∃ (b : Int32), r9 = ((some (.int (sp_cr sg h (nI (sp_bst sg s h cm (sp_lev sg s tg) ne)) cm)), rf_mk M (io5 io a b (nI (sp_bst sg s h cm (sp_lev sg s tg) ne)) (sp_cr sg h (nI (sp_bst sg s h cm (sp_lev sg s tg) ne)) cm) (sp_tp sg s h (nI (sp_bst sg s h cm (sp_lev sg s tg) ne)) cm)) sg))) z ∧ mm_Ev 4 251 [.ref 100, .int (nI s), .int (nI h), .int (nI 1)] (rf_mk M io sg) z := by
    refine r_evQ (by decide +kernel) (show (4 : Nat) ≤ mm_nL 251 by decide +kernel) ?_
    show mm_Ru 3 (13, 4, false, prog_14_method_69_code, some .int) 0 [(0, .ref 100), (1, .int (nI s)), (2, .int (nI h)), (3, .int (nI 1))] [] (rf_mk M io sg) (fun r9 => ∃ (a : Int32), ∃ (b : Int32), r9 = ((some (.int (sp_cr sg h (nI (sp_bst sg s h cm (sp_lev sg s tg) ne)) cm)), rf_mk M (io5 io a b (nI (sp_bst sg s h cm (sp_lev sg s tg) ne)) (sp_cr sg h (nI (sp_bst sg s h cm (sp_lev sg s tg) ne)) cm) (sp_tp sg s h (nI (sp_bst sg s h cm (sp_lev sg s tg) ne)) cm)) sg)))
    refine r_aload_n rfl dc_14_69_0 ?_
    refine r_iload_n rfl dc_14_69_1 ?_
    refine q_calli (as := [.int (nI s)]) (rest := []) (v := .int (nI 1)) (M1 := rf_mk M io sg) iv_13_v323 na_1_222 o_222 hM rfl (show (0 : Nat) ≤ 8 by decide) dc_14_69_2 (mm_Ev_up (by decide : 1 ≤ 3) (c_isStudentT M hM io sg ns h5 s (by omega) (by omega))) ?_
    refine r_ifeq (t := 16) (by decide) dc_14_69_5 (fun c_5 => ?_) (fun c_5 => ?_)
    · exact absurd c_5 (by decide)
    · skip
      refine r_aload_n rfl dc_14_69_8 ?_
      refine r_iload_n rfl dc_14_69_9 ?_
      refine q_calli (as := [.int (nI h)]) (rest := []) (v := .int (nI 1)) (M1 := rf_mk M io sg) iv_13_v205 na_1_196 o_196 hM rfl (show (0 : Nat) ≤ 8 by decide) dc_14_69_10 (mm_Ev_up (by decide : 1 ≤ 3) (c_isSchoolT M hM io sg nh h3 h (by omega) (by omega))) ?_
      refine r_ifne (t := 18) (by decide) dc_14_69_13 (fun c_13 => ?_) (fun c_13 => ?_)
      · skip
        refine r_aload_n rfl dc_14_69_18 ?_
        refine r_iload_n rfl dc_14_69_19 ?_
        refine r_iload_n rfl dc_14_69_20 ?_
        obtain ⟨a9, b9, hst⟩ := c_studies M hM io sg s h tg cm hs hh htg ht hcm hc6 ne hne hn64 hn1
        refine q_callv (as := [.int (nI s), .int (nI h)]) (rest := []) (M1 := rf_mk M (io5 io a9 b9 (nI (sp_bst sg s h cm (sp_lev sg s tg) ne)) (sp_cr sg h (nI (sp_bst sg s h cm (sp_lev sg s tg) ne)) cm) (sp_tp sg s h (nI (sp_bst sg s h cm (sp_lev sg s tg) ne)) cm)) sg) iv_13_v416 na_1_252 o_252 hM rfl (show (0 : Nat) ≤ 8 by decide) dc_14_69_21 (hst) ?_
        refine r_iload_n rfl dc_14_69_24 ?_
        refine r_swIn (off := 32) (t := 57) (by decide +kernel) (by decide +kernel) (by decide +kernel) (by decide) dc_14_69_25 ?_
        refine r_aload_n rfl dc_14_69_57 ?_
        refine q_get (v := .int (sp_cr sg h (nI (sp_bst sg s h cm (sp_lev sg s tg) ne)) cm)) rx_404 hM rfl dc_14_69_58 ?_
        refine r_iret rfl dc_14_69_61 ?_
        exact ⟨a9, b9, rfl⟩
      · exact absurd c_13 (by decide)
  obtain ⟨z9, ⟨a, b, e9⟩, h9⟩ := hq9
  subst e9
  exact ⟨a, b, h9⟩
set_option maxHeartbeats 4000000 in
theorem c_study_2 (M : mH) (hM : 157 ≤ M.1) (io : Nat → Int32) (sg : Nat → Nat → Int32) (ns : Nat) (h5 : io 5 = nI ns) (hns : ns ≤ 16) (nh : Nat) (h3 : io 3 = nI nh) (hnh : nh ≤ 8) (s h tg cm : Nat) (hs9 : s < ns) (hh9 : h < nh) (hs : s < 16) (hh : h < 8) (htg : sg 10 h = nI tg) (ht : tg < 4) (hcm : sg 16 h = nI cm) (hc6 : cm ≤ 6) (ne : Nat) (hne : nI 1 <<< (nI cm &&& 31) = nI ne) (hn64 : ne ≤ 64) (hn1 : 1 ≤ ne) : ∃ (a : Int32), ∃ (b : Int32), mm_Ev 4 251 [.ref 100, .int (nI s), .int (nI h), .int (nI 2)] (rf_mk M io sg) ((some (.int (sg 55 s &&& (sp_tp sg s h (nI (sp_bst sg s h cm (sp_lev sg s tg) ne)) cm ^^^ -1))), rf_mk M (io5 io a b (nI (sp_bst sg s h cm (sp_lev sg s tg) ne)) (sp_cr sg h (nI (sp_bst sg s h cm (sp_lev sg s tg) ne)) cm) (sp_tp sg s h (nI (sp_bst sg s h cm (sp_lev sg s tg) ne)) cm)) sg)) := by
  have hq9 : ∃ z, (fun r9 => ∃ (a : Int32), ∃ (b : Int32), r9 = ((some (.int (sg 55 s &&& (sp_tp sg s h (nI (sp_bst sg s h cm (sp_lev sg s tg) ne)) cm ^^^ -1))), rf_mk M (io5 io a b (nI (sp_bst sg s h cm (sp_lev sg s tg) ne)) (sp_cr sg h (nI (sp_bst sg s h cm (sp_lev sg s tg) ne)) cm) (sp_tp sg s h (nI (sp_bst sg s h cm (sp_lev sg s tg) ne)) cm)) sg))) z ∧ mm_Ev 4 251 [.ref 100, .int (nI s), .int (nI h), .int (nI 2)] (rf_mk M io sg) z := by
    refine r_evQ (by decide +kernel) (show (4 : Nat) ≤ mm_nL 251 by decide +kernel) ?_
    show mm_Ru 3 (13, 4, false, prog_14_method_69_code, some .int) 0 [(0, .ref 100), (1, .int (nI s)), (2, .int (nI h)), (3, .int (nI 2))] [] (rf_mk M io sg) (fun r9 => ∃ (a : Int32), ∃ (b : Int32), r9 = ((some (.int (sg 55 s &&& (sp_tp sg s h (nI (sp_bst sg s h cm (sp_lev sg s tg) ne)) cm ^^^ -1))), rf_mk M (io5 io a b (nI (sp_bst sg s h cm (sp_lev sg s tg) ne)) (sp_cr sg h (nI (sp_bst sg s h cm (sp_lev sg s tg) ne)) cm) (sp_tp sg s h (nI (sp_bst sg s h cm (sp_lev sg s tg) ne)) cm)) sg)))
    refine r_aload_n rfl dc_14_69_0 ?_
    refine r_iload_n rfl dc_14_69_1 ?_
    refine q_calli (as := [.int (nI s)]) (rest := []) (v := .int (nI 1)) (M1 := rf_mk M io sg) iv_13_v323 na_1_222 o_222 hM rfl (show (0 : Nat) ≤ 8 by decide) dc_14_69_2 (mm_Ev_up (by decide : 1 ≤ 3) (c_isStudentT M hM io sg ns h5 s (by omega) (by omega))) ?_
    refine r_ifeq (t := 16) (by decide) dc_14_69_5 (fun c_5 => ?_) (fun c_5 => ?_)
    · exact absurd c_5 (by decide)
    · skip
      refine r_aload_n rfl dc_14_69_8 ?_
      refine r_iload_n rfl dc_14_69_9 ?_
      refine q_calli (as := [.int (nI h)]) (rest := []) (v := .int (nI 1)) (M1 := rf_mk M io sg) iv_13_v205 na_1_196 o_196 hM rfl (show (0 : Nat) ≤ 8 by decide) dc_14_69_10 (mm_Ev_up (by decide : 1 ≤ 3) (c_isSchoolT M hM io sg nh h3 h (by omega) (by omega))) ?_
      refine r_ifne (t := 18) (by decide) dc_14_69_13 (fun c_13 => ?_) (fun c_13 => ?_)
      · skip
        refine r_aload_n rfl dc_14_69_18 ?_
        refine r_iload_n rfl dc_14_69_19 ?_
        refine r_iload_n rfl dc_14_69_20 ?_
        obtain ⟨a9, b9, hst⟩ := c_studies M hM io sg s h tg cm hs hh htg ht hcm hc6 ne hne hn64 hn1
        refine q_callv (as := [.int (nI s), .int (nI h)]) (rest := []) (M1 := rf_mk M (io5 io a9 b9 (nI (sp_bst sg s h cm (sp_lev sg s tg) ne)) (sp_cr sg h (nI (sp_bst sg s h cm (sp_lev sg s tg) ne)) cm) (sp_tp sg s h (nI (sp_bst sg s h cm (sp_lev sg s tg) ne)) cm)) sg) iv_13_v416 na_1_252 o_252 hM rfl (show (0 : Nat) ≤ 8 by decide) dc_14_69_21 (hst) ?_
        refine r_iload_n rfl dc_14_69_24 ?_
        refine r_swIn (off := 37) (t := 62) (by decide +kernel) (by decide +kernel) (by decide +kernel) (by decide) dc_14_69_25 ?_
        refine r_aload_n rfl dc_14_69_62 ?_
        refine q_get (v := .ref 137) rx_120 hM rfl dc_14_69_63 ?_
        refine r_iload_n rfl dc_14_69_66 ?_
        refine q_ild (e := s) (v := sg 55 s) (by decide) (by decide) hM rfl (show s < 16 by omega) (by omega) (rfl) dc_14_69_67 ?_
        refine r_aload_n rfl dc_14_69_68 ?_
        refine q_get (v := .int (sp_tp sg s h (nI (sp_bst sg s h cm (sp_lev sg s tg) ne)) cm)) rx_407 hM rfl dc_14_69_69 ?_
        refine r_iconst (v := -1) (by decide) dc_14_69_72 ?_
        refine r_ixor (v := (sp_tp sg s h (nI (sp_bst sg s h cm (sp_lev sg s tg) ne)) cm) ^^^ ((-1))) (rfl) dc_14_69_73 ?_
        refine r_iand (v := (sg 55 s) &&& ((sp_tp sg s h (nI (sp_bst sg s h cm (sp_lev sg s tg) ne)) cm) ^^^ ((-1)))) (rfl) dc_14_69_74 ?_
        refine r_iret rfl dc_14_69_75 ?_
        exact ⟨a9, b9, rfl⟩
      · exact absurd c_13 (by decide)
  obtain ⟨z9, ⟨a, b, e9⟩, h9⟩ := hq9
  subst e9
  exact ⟨a, b, h9⟩
set_option maxHeartbeats 4000000 in
theorem c_study_x (M : mH) (hM : 157 ≤ M.1) (io : Nat → Int32) (sg : Nat → Nat → Int32) (ns : Nat) (h5 : io 5 = nI ns) (hns : ns ≤ 16) (nh : Nat) (h3 : io 3 = nI nh) (hnh : nh ≤ 8) (s h tg cm : Nat) (hs9 : s < ns) (hh9 : h < nh) (hs : s < 16) (hh : h < 8) (htg : sg 10 h = nI tg) (ht : tg < 4) (hcm : sg 16 h = nI cm) (hc6 : cm ≤ 6) (ne : Nat) (hne : nI 1 <<< (nI cm &&& 31) = nI ne) (hn64 : ne ≤ 64) (hn1 : 1 ≤ ne) (w : Int32) (hw : w.toInt < 0 ∨ 2 < w.toInt) : ∃ (a : Int32), ∃ (b : Int32), mm_Ev 4 251 [.ref 100, .int (nI s), .int (nI h), .int w] (rf_mk M io sg) ((some (.int (-1)), rf_mk M (io5 io a b (nI (sp_bst sg s h cm (sp_lev sg s tg) ne)) (sp_cr sg h (nI (sp_bst sg s h cm (sp_lev sg s tg) ne)) cm) (sp_tp sg s h (nI (sp_bst sg s h cm (sp_lev sg s tg) ne)) cm)) sg)) := by
  have hq9 : ∃ z, (fun r9 => ∃ (a : Int32), ∃ (b : Int32), r9 = ((some (.int (-1)), rf_mk M (io5 io a b (nI (sp_bst sg s h cm (sp_lev sg s tg) ne)) (sp_cr sg h (nI (sp_bst sg s h cm (sp_lev sg s tg) ne)) cm) (sp_tp sg s h (nI (sp_bst sg s h cm (sp_lev sg s tg) ne)) cm)) sg))) z ∧ mm_Ev 4 251 [.ref 100, .int (nI s), .int (nI h), .int w] (rf_mk M io sg) z := by
    refine r_evQ (by decide +kernel) (show (4 : Nat) ≤ mm_nL 251 by decide +kernel) ?_
    show mm_Ru 3 (13, 4, false, prog_14_method_69_code, some .int) 0 [(0, .ref 100), (1, .int (nI s)), (2, .int (nI h)), (3, .int w)] [] (rf_mk M io sg) (fun r9 => ∃ (a : Int32), ∃ (b : Int32), r9 = ((some (.int (-1)), rf_mk M (io5 io a b (nI (sp_bst sg s h cm (sp_lev sg s tg) ne)) (sp_cr sg h (nI (sp_bst sg s h cm (sp_lev sg s tg) ne)) cm) (sp_tp sg s h (nI (sp_bst sg s h cm (sp_lev sg s tg) ne)) cm)) sg)))
    refine r_aload_n rfl dc_14_69_0 ?_
    refine r_iload_n rfl dc_14_69_1 ?_
    refine q_calli (as := [.int (nI s)]) (rest := []) (v := .int (nI 1)) (M1 := rf_mk M io sg) iv_13_v323 na_1_222 o_222 hM rfl (show (0 : Nat) ≤ 8 by decide) dc_14_69_2 (mm_Ev_up (by decide : 1 ≤ 3) (c_isStudentT M hM io sg ns h5 s (by omega) (by omega))) ?_
    refine r_ifeq (t := 16) (by decide) dc_14_69_5 (fun c_5 => ?_) (fun c_5 => ?_)
    · exact absurd c_5 (by decide)
    · skip
      refine r_aload_n rfl dc_14_69_8 ?_
      refine r_iload_n rfl dc_14_69_9 ?_
      refine q_calli (as := [.int (nI h)]) (rest := []) (v := .int (nI 1)) (M1 := rf_mk M io sg) iv_13_v205 na_1_196 o_196 hM rfl (show (0 : Nat) ≤ 8 by decide) dc_14_69_10 (mm_Ev_up (by decide : 1 ≤ 3) (c_isSchoolT M hM io sg nh h3 h (by omega) (by omega))) ?_
      refine r_ifne (t := 18) (by decide) dc_14_69_13 (fun c_13 => ?_) (fun c_13 => ?_)
      · skip
        refine r_aload_n rfl dc_14_69_18 ?_
        refine r_iload_n rfl dc_14_69_19 ?_
        refine r_iload_n rfl dc_14_69_20 ?_
        obtain ⟨a9, b9, hst⟩ := c_studies M hM io sg s h tg cm hs hh htg ht hcm hc6 ne hne hn64 hn1
        refine q_callv (as := [.int (nI s), .int (nI h)]) (rest := []) (M1 := rf_mk M (io5 io a9 b9 (nI (sp_bst sg s h cm (sp_lev sg s tg) ne)) (sp_cr sg h (nI (sp_bst sg s h cm (sp_lev sg s tg) ne)) cm) (sp_tp sg s h (nI (sp_bst sg s h cm (sp_lev sg s tg) ne)) cm)) sg) iv_13_v416 na_1_252 o_252 hM rfl (show (0 : Nat) ≤ 8 by decide) dc_14_69_21 (hst) ?_
        refine r_iload_n rfl dc_14_69_24 ?_
        refine r_swOut (t := 76) (hw) (by decide) dc_14_69_25 ?_
        refine r_iconst (v := -1) (by decide) dc_14_69_76 ?_
        refine r_iret rfl dc_14_69_77 ?_
        exact ⟨a9, b9, rfl⟩
      · exact absurd c_13 (by decide)
  obtain ⟨z9, ⟨a, b, e9⟩, h9⟩ := hq9
  subst e9
  exact ⟨a, b, h9⟩
set_option maxHeartbeats 4000000 in
theorem c_study_no (M : mH) (hM : 157 ≤ M.1) (io : Nat → Int32) (sg : Nat → Nat → Int32) (s h w : Int32) (hno : ¬ ((0 ≤ s ∧ s < io 5) ∧ (0 ≤ h ∧ h < io 3))) : mm_Ev 2 251 [.ref 100, .int s, .int h, .int w] (rf_mk M io sg) ((some (.int (-1)), rf_mk M io sg)) := by
  refine r_ev (by decide +kernel) (show (4 : Nat) ≤ mm_nL 251 by decide +kernel) ?_
  show mm_Ru 1 (13, 4, false, prog_14_method_69_code, some .int) 0 [(0, .ref 100), (1, .int s), (2, .int h), (3, .int w)] [] (rf_mk M io sg) (fun r9 => r9 = ((some (.int (-1)), rf_mk M io sg)))
  refine r_aload_n rfl dc_14_69_0 ?_
  refine r_iload_n rfl dc_14_69_1 ?_
  refine q_calli (as := [.int s]) (rest := []) (v := .int (sp_is s (io 5))) (M1 := rf_mk M io sg) iv_13_v323 na_1_222 o_222 hM rfl (show (0 : Nat) ≤ 8 by decide) dc_14_69_2 (c_isStudent M hM io sg s) ?_
  refine r_ifeq (t := 16) (by decide) dc_14_69_5 (fun c_5 => ?_) (fun c_5 => ?_)
  · skip
    refine r_iconst (v := -1) (by decide) dc_14_69_16 ?_
    exact r_iret rfl dc_14_69_17 (rfl)
  · skip
    refine r_aload_n rfl dc_14_69_8 ?_
    refine r_iload_n rfl dc_14_69_9 ?_
    refine q_calli (as := [.int h]) (rest := []) (v := .int (sp_is h (io 3))) (M1 := rf_mk M io sg) iv_13_v205 na_1_196 o_196 hM rfl (show (0 : Nat) ≤ 8 by decide) dc_14_69_10 (c_isSchool M hM io sg h) ?_
    refine r_ifne (t := 18) (by decide) dc_14_69_13 (fun c_13 => ?_) (fun c_13 => ?_)
    · skip
      exact absurd (⟨sp_is_ne c_5, sp_is_ne c_13⟩) hno
    · skip
      refine r_iconst (v := -1) (by decide) dc_14_69_16 ?_
      exact r_iret rfl dc_14_69_17 (rfl)
