/-! the reference: owed, kept, look, about, count -/
theorem dc_14_48_0 : decode prog_14_method_48_code 0 = .ok (.iconst 0, 1) := by decide +kernel
theorem dc_14_48_1 : decode prog_14_method_48_code 1 = .ok (.istore_n 1, 1) := by decide +kernel
theorem dc_14_48_2 : decode prog_14_method_48_code 2 = .ok (.iload_n 1, 1) := by decide +kernel
theorem dc_14_48_3 : decode prog_14_method_48_code 3 = .ok (.aload_n 0, 1) := by decide +kernel
theorem dc_14_48_4 : decode prog_14_method_48_code 4 = .ok (.getfield 290, 3) := by decide +kernel
theorem dc_14_48_7 : decode prog_14_method_48_code 7 = .ok (.if_icmp .ge 89, 3) := by decide +kernel
theorem dc_14_48_10 : decode prog_14_method_48_code 10 = .ok (.aload_n 0, 1) := by decide +kernel
theorem dc_14_48_11 : decode prog_14_method_48_code 11 = .ok (.iload_n 1, 1) := by decide +kernel
theorem dc_14_48_12 : decode prog_14_method_48_code 12 = .ok (.invokevirtual 332, 3) := by decide +kernel
theorem dc_14_48_15 : decode prog_14_method_48_code 15 = .ok (.ifCond .ne 6, 3) := by decide +kernel
theorem dc_14_48_18 : decode prog_14_method_48_code 18 = .ok (.goto 72, 3) := by decide +kernel
theorem dc_14_48_21 : decode prog_14_method_48_code 21 = .ok (.aload_n 0, 1) := by decide +kernel
theorem dc_14_48_22 : decode prog_14_method_48_code 22 = .ok (.iload_n 1, 1) := by decide +kernel
theorem dc_14_48_23 : decode prog_14_method_48_code 23 = .ok (.invokevirtual 341, 3) := by decide +kernel
theorem dc_14_48_26 : decode prog_14_method_48_code 26 = .ok (.istore_n 2, 1) := by decide +kernel
theorem dc_14_48_27 : decode prog_14_method_48_code 27 = .ok (.aload_n 0, 1) := by decide +kernel
theorem dc_14_48_28 : decode prog_14_method_48_code 28 = .ok (.iload_n 1, 1) := by decide +kernel
theorem dc_14_48_29 : decode prog_14_method_48_code 29 = .ok (.aload_n 0, 1) := by decide +kernel
theorem dc_14_48_30 : decode prog_14_method_48_code 30 = .ok (.getfield 63, 3) := by decide +kernel
theorem dc_14_48_33 : decode prog_14_method_48_code 33 = .ok (.iload_n 1, 1) := by decide +kernel
theorem dc_14_48_34 : decode prog_14_method_48_code 34 = .ok (.iaload, 1) := by decide +kernel
theorem dc_14_48_35 : decode prog_14_method_48_code 35 = .ok (.invokevirtual 344, 3) := by decide +kernel
theorem dc_14_48_38 : decode prog_14_method_48_code 38 = .ok (.aload_n 0, 1) := by decide +kernel
theorem dc_14_48_39 : decode prog_14_method_48_code 39 = .ok (.getfield 69, 3) := by decide +kernel
theorem dc_14_48_42 : decode prog_14_method_48_code 42 = .ok (.iload_n 1, 1) := by decide +kernel
theorem dc_14_48_43 : decode prog_14_method_48_code 43 = .ok (.iaload, 1) := by decide +kernel
theorem dc_14_48_44 : decode prog_14_method_48_code 44 = .ok (.if_icmp .gt 44, 3) := by decide +kernel
theorem dc_14_48_47 : decode prog_14_method_48_code 47 = .ok (.aload_n 0, 1) := by decide +kernel
theorem dc_14_48_48 : decode prog_14_method_48_code 48 = .ok (.iload_n 1, 1) := by decide +kernel
theorem dc_14_48_49 : decode prog_14_method_48_code 49 = .ok (.aload_n 0, 1) := by decide +kernel
theorem dc_14_48_50 : decode prog_14_method_48_code 50 = .ok (.getfield 66, 3) := by decide +kernel
theorem dc_14_48_53 : decode prog_14_method_48_code 53 = .ok (.iload_n 1, 1) := by decide +kernel
theorem dc_14_48_54 : decode prog_14_method_48_code 54 = .ok (.iaload, 1) := by decide +kernel
theorem dc_14_48_55 : decode prog_14_method_48_code 55 = .ok (.invokevirtual 344, 3) := by decide +kernel
theorem dc_14_48_58 : decode prog_14_method_48_code 58 = .ok (.aload_n 0, 1) := by decide +kernel
theorem dc_14_48_59 : decode prog_14_method_48_code 59 = .ok (.getfield 69, 3) := by decide +kernel
theorem dc_14_48_62 : decode prog_14_method_48_code 62 = .ok (.iload_n 1, 1) := by decide +kernel
theorem dc_14_48_63 : decode prog_14_method_48_code 63 = .ok (.iaload, 1) := by decide +kernel
theorem dc_14_48_64 : decode prog_14_method_48_code 64 = .ok (.if_icmp .gt 24, 3) := by decide +kernel
theorem dc_14_48_67 : decode prog_14_method_48_code 67 = .ok (.iload_n 2, 1) := by decide +kernel
theorem dc_14_48_68 : decode prog_14_method_48_code 68 = .ok (.aload_n 0, 1) := by decide +kernel
theorem dc_14_48_69 : decode prog_14_method_48_code 69 = .ok (.getfield 72, 3) := by decide +kernel
theorem dc_14_48_72 : decode prog_14_method_48_code 72 = .ok (.iload_n 1, 1) := by decide +kernel
theorem dc_14_48_73 : decode prog_14_method_48_code 73 = .ok (.iaload, 1) := by decide +kernel
theorem dc_14_48_74 : decode prog_14_method_48_code 74 = .ok (.if_icmp .gt 14, 3) := by decide +kernel
theorem dc_14_48_77 : decode prog_14_method_48_code 77 = .ok (.iload_n 2, 1) := by decide +kernel
theorem dc_14_48_78 : decode prog_14_method_48_code 78 = .ok (.ineg, 1) := by decide +kernel
theorem dc_14_48_79 : decode prog_14_method_48_code 79 = .ok (.aload_n 0, 1) := by decide +kernel
theorem dc_14_48_80 : decode prog_14_method_48_code 80 = .ok (.getfield 72, 3) := by decide +kernel
theorem dc_14_48_83 : decode prog_14_method_48_code 83 = .ok (.iload_n 1, 1) := by decide +kernel
theorem dc_14_48_84 : decode prog_14_method_48_code 84 = .ok (.iaload, 1) := by decide +kernel
theorem dc_14_48_85 : decode prog_14_method_48_code 85 = .ok (.if_icmp .le 5, 3) := by decide +kernel
theorem dc_14_48_88 : decode prog_14_method_48_code 88 = .ok (.iconst 0, 1) := by decide +kernel
theorem dc_14_48_89 : decode prog_14_method_48_code 89 = .ok (.ireturn, 1) := by decide +kernel
theorem dc_14_48_90 : decode prog_14_method_48_code 90 = .ok (.iinc 1 1, 3) := by decide +kernel
theorem dc_14_48_93 : decode prog_14_method_48_code 93 = .ok (.goto (-91), 3) := by decide +kernel
theorem dc_14_48_96 : decode prog_14_method_48_code 96 = .ok (.iconst 0, 1) := by decide +kernel
theorem dc_14_48_97 : decode prog_14_method_48_code 97 = .ok (.istore_n 1, 1) := by decide +kernel
theorem dc_14_48_98 : decode prog_14_method_48_code 98 = .ok (.iload_n 1, 1) := by decide +kernel
theorem dc_14_48_99 : decode prog_14_method_48_code 99 = .ok (.aload_n 0, 1) := by decide +kernel
theorem dc_14_48_100 : decode prog_14_method_48_code 100 = .ok (.getfield 200, 3) := by decide +kernel
theorem dc_14_48_103 : decode prog_14_method_48_code 103 = .ok (.if_icmp .ge 25, 3) := by decide +kernel
theorem dc_14_48_106 : decode prog_14_method_48_code 106 = .ok (.aload_n 0, 1) := by decide +kernel
theorem dc_14_48_107 : decode prog_14_method_48_code 107 = .ok (.iload_n 1, 1) := by decide +kernel
theorem dc_14_48_108 : decode prog_14_method_48_code 108 = .ok (.invokevirtual 347, 3) := by decide +kernel
theorem dc_14_48_111 : decode prog_14_method_48_code 111 = .ok (.aload_n 0, 1) := by decide +kernel
theorem dc_14_48_112 : decode prog_14_method_48_code 112 = .ok (.getfield 25, 3) := by decide +kernel
theorem dc_14_48_115 : decode prog_14_method_48_code 115 = .ok (.iload_n 1, 1) := by decide +kernel
theorem dc_14_48_116 : decode prog_14_method_48_code 116 = .ok (.iaload, 1) := by decide +kernel
theorem dc_14_48_117 : decode prog_14_method_48_code 117 = .ok (.if_icmp .le 5, 3) := by decide +kernel
theorem dc_14_48_120 : decode prog_14_method_48_code 120 = .ok (.iconst 0, 1) := by decide +kernel
theorem dc_14_48_121 : decode prog_14_method_48_code 121 = .ok (.ireturn, 1) := by decide +kernel
theorem dc_14_48_122 : decode prog_14_method_48_code 122 = .ok (.iinc 1 1, 3) := by decide +kernel
theorem dc_14_48_125 : decode prog_14_method_48_code 125 = .ok (.goto (-27), 3) := by decide +kernel
theorem dc_14_48_128 : decode prog_14_method_48_code 128 = .ok (.iconst 1, 1) := by decide +kernel
theorem dc_14_48_129 : decode prog_14_method_48_code 129 = .ok (.ireturn, 1) := by decide +kernel
theorem dc_14_49_0 : decode prog_14_method_49_code 0 = .ok (.aload_n 0, 1) := by decide +kernel
theorem dc_14_49_1 : decode prog_14_method_49_code 1 = .ok (.invokevirtual 350, 3) := by decide +kernel
theorem dc_14_49_4 : decode prog_14_method_49_code 4 = .ok (.ifCond .eq 7, 3) := by decide +kernel
theorem dc_14_49_7 : decode prog_14_method_49_code 7 = .ok (.iconst 1, 1) := by decide +kernel
theorem dc_14_49_8 : decode prog_14_method_49_code 8 = .ok (.goto 4, 3) := by decide +kernel
theorem dc_14_49_11 : decode prog_14_method_49_code 11 = .ok (.iconst 0, 1) := by decide +kernel
theorem dc_14_49_12 : decode prog_14_method_49_code 12 = .ok (.ireturn, 1) := by decide +kernel
theorem dc_14_82_0 : decode prog_14_method_82_code 0 = .ok (.lconst 0, 1) := by decide +kernel
theorem dc_14_82_1 : decode prog_14_method_82_code 1 = .ok (.lstore_n 2, 1) := by decide +kernel
theorem dc_14_82_2 : decode prog_14_method_82_code 2 = .ok (.aload_n 0, 1) := by decide +kernel
theorem dc_14_82_3 : decode prog_14_method_82_code 3 = .ok (.iload_n 1, 1) := by decide +kernel
theorem dc_14_82_4 : decode prog_14_method_82_code 4 = .ok (.invokevirtual 205, 3) := by decide +kernel
theorem dc_14_82_7 : decode prog_14_method_82_code 7 = .ok (.ifCond .ne 5, 3) := by decide +kernel
theorem dc_14_82_10 : decode prog_14_method_82_code 10 = .ok (.lload_n 2, 1) := by decide +kernel
theorem dc_14_82_11 : decode prog_14_method_82_code 11 = .ok (.lreturn, 1) := by decide +kernel
theorem dc_14_82_12 : decode prog_14_method_82_code 12 = .ok (.iconst 0, 1) := by decide +kernel
theorem dc_14_82_13 : decode prog_14_method_82_code 13 = .ok (.istore 4, 2) := by decide +kernel
theorem dc_14_82_15 : decode prog_14_method_82_code 15 = .ok (.iload 4, 2) := by decide +kernel
theorem dc_14_82_17 : decode prog_14_method_82_code 17 = .ok (.aload_n 0, 1) := by decide +kernel
theorem dc_14_82_18 : decode prog_14_method_82_code 18 = .ok (.getfield 290, 3) := by decide +kernel
theorem dc_14_82_21 : decode prog_14_method_82_code 21 = .ok (.if_icmp .ge 65, 3) := by decide +kernel
theorem dc_14_82_24 : decode prog_14_method_82_code 24 = .ok (.aload_n 0, 1) := by decide +kernel
theorem dc_14_82_25 : decode prog_14_method_82_code 25 = .ok (.getfield 75, 3) := by decide +kernel
theorem dc_14_82_28 : decode prog_14_method_82_code 28 = .ok (.iload 4, 2) := by decide +kernel
theorem dc_14_82_30 : decode prog_14_method_82_code 30 = .ok (.iaload, 1) := by decide +kernel
theorem dc_14_82_31 : decode prog_14_method_82_code 31 = .ok (.i2l, 1) := by decide +kernel
theorem dc_14_82_32 : decode prog_14_method_82_code 32 = .ok (.aload_n 0, 1) := by decide +kernel
theorem dc_14_82_33 : decode prog_14_method_82_code 33 = .ok (.iload 4, 2) := by decide +kernel
theorem dc_14_82_35 : decode prog_14_method_82_code 35 = .ok (.invokevirtual 341, 3) := by decide +kernel
theorem dc_14_82_38 : decode prog_14_method_82_code 38 = .ok (.i2l, 1) := by decide +kernel
theorem dc_14_82_39 : decode prog_14_method_82_code 39 = .ok (.lmul, 1) := by decide +kernel
theorem dc_14_82_40 : decode prog_14_method_82_code 40 = .ok (.lstore 5, 2) := by decide +kernel
theorem dc_14_82_42 : decode prog_14_method_82_code 42 = .ok (.lload_n 2, 1) := by decide +kernel
theorem dc_14_82_43 : decode prog_14_method_82_code 43 = .ok (.aload_n 0, 1) := by decide +kernel
theorem dc_14_82_44 : decode prog_14_method_82_code 44 = .ok (.getfield 66, 3) := by decide +kernel
theorem dc_14_82_47 : decode prog_14_method_82_code 47 = .ok (.iload 4, 2) := by decide +kernel
theorem dc_14_82_49 : decode prog_14_method_82_code 49 = .ok (.iaload, 1) := by decide +kernel
theorem dc_14_82_50 : decode prog_14_method_82_code 50 = .ok (.iload_n 1, 1) := by decide +kernel
theorem dc_14_82_51 : decode prog_14_method_82_code 51 = .ok (.if_icmp .ne 8, 3) := by decide +kernel
theorem dc_14_82_54 : decode prog_14_method_82_code 54 = .ok (.lload 5, 2) := by decide +kernel
theorem dc_14_82_56 : decode prog_14_method_82_code 56 = .ok (.goto 4, 3) := by decide +kernel
theorem dc_14_82_59 : decode prog_14_method_82_code 59 = .ok (.lconst 0, 1) := by decide +kernel
theorem dc_14_82_60 : decode prog_14_method_82_code 60 = .ok (.ladd, 1) := by decide +kernel
theorem dc_14_82_61 : decode prog_14_method_82_code 61 = .ok (.aload_n 0, 1) := by decide +kernel
theorem dc_14_82_62 : decode prog_14_method_82_code 62 = .ok (.getfield 63, 3) := by decide +kernel
theorem dc_14_82_65 : decode prog_14_method_82_code 65 = .ok (.iload 4, 2) := by decide +kernel
theorem dc_14_82_67 : decode prog_14_method_82_code 67 = .ok (.iaload, 1) := by decide +kernel
theorem dc_14_82_68 : decode prog_14_method_82_code 68 = .ok (.iload_n 1, 1) := by decide +kernel
theorem dc_14_82_69 : decode prog_14_method_82_code 69 = .ok (.if_icmp .ne 8, 3) := by decide +kernel
theorem dc_14_82_72 : decode prog_14_method_82_code 72 = .ok (.lload 5, 2) := by decide +kernel
theorem dc_14_82_74 : decode prog_14_method_82_code 74 = .ok (.goto 4, 3) := by decide +kernel
theorem dc_14_82_77 : decode prog_14_method_82_code 77 = .ok (.lconst 0, 1) := by decide +kernel
theorem dc_14_82_78 : decode prog_14_method_82_code 78 = .ok (.lsub, 1) := by decide +kernel
theorem dc_14_82_79 : decode prog_14_method_82_code 79 = .ok (.lstore_n 2, 1) := by decide +kernel
theorem dc_14_82_80 : decode prog_14_method_82_code 80 = .ok (.iinc 4 1, 3) := by decide +kernel
theorem dc_14_82_83 : decode prog_14_method_82_code 83 = .ok (.goto (-68), 3) := by decide +kernel
theorem dc_14_82_86 : decode prog_14_method_82_code 86 = .ok (.lload_n 2, 1) := by decide +kernel
theorem dc_14_82_87 : decode prog_14_method_82_code 87 = .ok (.lreturn, 1) := by decide +kernel
theorem dc_14_83_0 : decode prog_14_method_83_code 0 = .ok (.aload_n 0, 1) := by decide +kernel
theorem dc_14_83_1 : decode prog_14_method_83_code 1 = .ok (.iload_n 1, 1) := by decide +kernel
theorem dc_14_83_2 : decode prog_14_method_83_code 2 = .ok (.invokevirtual 323, 3) := by decide +kernel
theorem dc_14_83_5 : decode prog_14_method_83_code 5 = .ok (.ifCond .ne 5, 3) := by decide +kernel
theorem dc_14_83_8 : decode prog_14_method_83_code 8 = .ok (.iconst (-1), 1) := by decide +kernel
theorem dc_14_83_9 : decode prog_14_method_83_code 9 = .ok (.ireturn, 1) := by decide +kernel
theorem dc_14_83_10 : decode prog_14_method_83_code 10 = .ok (.aload_n 0, 1) := by decide +kernel
theorem dc_14_83_11 : decode prog_14_method_83_code 11 = .ok (.getfield 123, 3) := by decide +kernel
theorem dc_14_83_14 : decode prog_14_method_83_code 14 = .ok (.iload_n 1, 1) := by decide +kernel
theorem dc_14_83_15 : decode prog_14_method_83_code 15 = .ok (.iaload, 1) := by decide +kernel
theorem dc_14_83_16 : decode prog_14_method_83_code 16 = .ok (.iconst 1, 1) := by decide +kernel
theorem dc_14_83_17 : decode prog_14_method_83_code 17 = .ok (.if_icmp .ne 7, 3) := by decide +kernel
theorem dc_14_83_20 : decode prog_14_method_83_code 20 = .ok (.iconst 1, 1) := by decide +kernel
theorem dc_14_83_21 : decode prog_14_method_83_code 21 = .ok (.goto 4, 3) := by decide +kernel
theorem dc_14_83_24 : decode prog_14_method_83_code 24 = .ok (.iconst 0, 1) := by decide +kernel
theorem dc_14_83_25 : decode prog_14_method_83_code 25 = .ok (.istore_n 3, 1) := by decide +kernel
theorem dc_14_83_26 : decode prog_14_method_83_code 26 = .ok (.iload_n 2, 1) := by decide +kernel
theorem dc_14_83_27 : decode prog_14_method_83_code 27 = .ok (.tableswitch 152 0 9 #[53, 60, 75, 90, 110, 117, 124, 131, 138, 145], 53) := by decide +kernel
theorem dc_14_83_80 : decode prog_14_method_83_code 80 = .ok (.aload_n 0, 1) := by decide +kernel
theorem dc_14_83_81 : decode prog_14_method_83_code 81 = .ok (.getfield 123, 3) := by decide +kernel
theorem dc_14_83_84 : decode prog_14_method_83_code 84 = .ok (.iload_n 1, 1) := by decide +kernel
theorem dc_14_83_85 : decode prog_14_method_83_code 85 = .ok (.iaload, 1) := by decide +kernel
theorem dc_14_83_86 : decode prog_14_method_83_code 86 = .ok (.ireturn, 1) := by decide +kernel
theorem dc_14_83_87 : decode prog_14_method_83_code 87 = .ok (.iload_n 3, 1) := by decide +kernel
theorem dc_14_83_88 : decode prog_14_method_83_code 88 = .ok (.ifCond .eq 12, 3) := by decide +kernel
theorem dc_14_83_91 : decode prog_14_method_83_code 91 = .ok (.aload_n 0, 1) := by decide +kernel
theorem dc_14_83_92 : decode prog_14_method_83_code 92 = .ok (.getfield 126, 3) := by decide +kernel
theorem dc_14_83_95 : decode prog_14_method_83_code 95 = .ok (.iload_n 1, 1) := by decide +kernel
theorem dc_14_83_96 : decode prog_14_method_83_code 96 = .ok (.iaload, 1) := by decide +kernel
theorem dc_14_83_97 : decode prog_14_method_83_code 97 = .ok (.goto 4, 3) := by decide +kernel
theorem dc_14_83_100 : decode prog_14_method_83_code 100 = .ok (.iconst (-1), 1) := by decide +kernel
theorem dc_14_83_101 : decode prog_14_method_83_code 101 = .ok (.ireturn, 1) := by decide +kernel
theorem dc_14_83_102 : decode prog_14_method_83_code 102 = .ok (.iload_n 3, 1) := by decide +kernel
theorem dc_14_83_103 : decode prog_14_method_83_code 103 = .ok (.ifCond .eq 12, 3) := by decide +kernel
theorem dc_14_83_106 : decode prog_14_method_83_code 106 = .ok (.aload_n 0, 1) := by decide +kernel
theorem dc_14_83_107 : decode prog_14_method_83_code 107 = .ok (.getfield 129, 3) := by decide +kernel
theorem dc_14_83_110 : decode prog_14_method_83_code 110 = .ok (.iload_n 1, 1) := by decide +kernel
theorem dc_14_83_111 : decode prog_14_method_83_code 111 = .ok (.iaload, 1) := by decide +kernel
theorem dc_14_83_112 : decode prog_14_method_83_code 112 = .ok (.goto 4, 3) := by decide +kernel
theorem dc_14_83_115 : decode prog_14_method_83_code 115 = .ok (.iconst (-1), 1) := by decide +kernel
theorem dc_14_83_116 : decode prog_14_method_83_code 116 = .ok (.ireturn, 1) := by decide +kernel
theorem dc_14_83_117 : decode prog_14_method_83_code 117 = .ok (.iload_n 3, 1) := by decide +kernel
theorem dc_14_83_118 : decode prog_14_method_83_code 118 = .ok (.ifCond .eq 17, 3) := by decide +kernel
theorem dc_14_83_121 : decode prog_14_method_83_code 121 = .ok (.aload_n 0, 1) := by decide +kernel
theorem dc_14_83_122 : decode prog_14_method_83_code 122 = .ok (.iload_n 1, 1) := by decide +kernel
theorem dc_14_83_123 : decode prog_14_method_83_code 123 = .ok (.aload_n 0, 1) := by decide +kernel
theorem dc_14_83_124 : decode prog_14_method_83_code 124 = .ok (.getfield 126, 3) := by decide +kernel
theorem dc_14_83_127 : decode prog_14_method_83_code 127 = .ok (.iload_n 1, 1) := by decide +kernel
theorem dc_14_83_128 : decode prog_14_method_83_code 128 = .ok (.iaload, 1) := by decide +kernel
theorem dc_14_83_129 : decode prog_14_method_83_code 129 = .ok (.invokevirtual 326, 3) := by decide +kernel
theorem dc_14_83_132 : decode prog_14_method_83_code 132 = .ok (.goto 4, 3) := by decide +kernel
theorem dc_14_83_135 : decode prog_14_method_83_code 135 = .ok (.iconst (-1), 1) := by decide +kernel
theorem dc_14_83_136 : decode prog_14_method_83_code 136 = .ok (.ireturn, 1) := by decide +kernel
theorem dc_14_83_137 : decode prog_14_method_83_code 137 = .ok (.aload_n 0, 1) := by decide +kernel
theorem dc_14_83_138 : decode prog_14_method_83_code 138 = .ok (.getfield 108, 3) := by decide +kernel
theorem dc_14_83_141 : decode prog_14_method_83_code 141 = .ok (.iload_n 1, 1) := by decide +kernel
theorem dc_14_83_142 : decode prog_14_method_83_code 142 = .ok (.iaload, 1) := by decide +kernel
theorem dc_14_83_143 : decode prog_14_method_83_code 143 = .ok (.ireturn, 1) := by decide +kernel
theorem dc_14_83_144 : decode prog_14_method_83_code 144 = .ok (.aload_n 0, 1) := by decide +kernel
theorem dc_14_83_145 : decode prog_14_method_83_code 145 = .ok (.getfield 111, 3) := by decide +kernel
theorem dc_14_83_148 : decode prog_14_method_83_code 148 = .ok (.iload_n 1, 1) := by decide +kernel
theorem dc_14_83_149 : decode prog_14_method_83_code 149 = .ok (.iaload, 1) := by decide +kernel
theorem dc_14_83_150 : decode prog_14_method_83_code 150 = .ok (.ireturn, 1) := by decide +kernel
theorem dc_14_83_151 : decode prog_14_method_83_code 151 = .ok (.aload_n 0, 1) := by decide +kernel
theorem dc_14_83_152 : decode prog_14_method_83_code 152 = .ok (.getfield 114, 3) := by decide +kernel
theorem dc_14_83_155 : decode prog_14_method_83_code 155 = .ok (.iload_n 1, 1) := by decide +kernel
theorem dc_14_83_156 : decode prog_14_method_83_code 156 = .ok (.iaload, 1) := by decide +kernel
theorem dc_14_83_157 : decode prog_14_method_83_code 157 = .ok (.ireturn, 1) := by decide +kernel
theorem dc_14_83_158 : decode prog_14_method_83_code 158 = .ok (.aload_n 0, 1) := by decide +kernel
theorem dc_14_83_159 : decode prog_14_method_83_code 159 = .ok (.getfield 117, 3) := by decide +kernel
theorem dc_14_83_162 : decode prog_14_method_83_code 162 = .ok (.iload_n 1, 1) := by decide +kernel
theorem dc_14_83_163 : decode prog_14_method_83_code 163 = .ok (.iaload, 1) := by decide +kernel
theorem dc_14_83_164 : decode prog_14_method_83_code 164 = .ok (.ireturn, 1) := by decide +kernel
theorem dc_14_83_165 : decode prog_14_method_83_code 165 = .ok (.aload_n 0, 1) := by decide +kernel
theorem dc_14_83_166 : decode prog_14_method_83_code 166 = .ok (.getfield 120, 3) := by decide +kernel
theorem dc_14_83_169 : decode prog_14_method_83_code 169 = .ok (.iload_n 1, 1) := by decide +kernel
theorem dc_14_83_170 : decode prog_14_method_83_code 170 = .ok (.iaload, 1) := by decide +kernel
theorem dc_14_83_171 : decode prog_14_method_83_code 171 = .ok (.ireturn, 1) := by decide +kernel
theorem dc_14_83_172 : decode prog_14_method_83_code 172 = .ok (.aload_n 0, 1) := by decide +kernel
theorem dc_14_83_173 : decode prog_14_method_83_code 173 = .ok (.getfield 132, 3) := by decide +kernel
theorem dc_14_83_176 : decode prog_14_method_83_code 176 = .ok (.iload_n 1, 1) := by decide +kernel
theorem dc_14_83_177 : decode prog_14_method_83_code 177 = .ok (.iaload, 1) := by decide +kernel
theorem dc_14_83_178 : decode prog_14_method_83_code 178 = .ok (.ireturn, 1) := by decide +kernel
theorem dc_14_83_179 : decode prog_14_method_83_code 179 = .ok (.aload_n 0, 1) := by decide +kernel
theorem dc_14_83_180 : decode prog_14_method_83_code 180 = .ok (.iload_n 1, 1) := by decide +kernel
theorem dc_14_83_181 : decode prog_14_method_83_code 181 = .ok (.iload_n 2, 1) := by decide +kernel
theorem dc_14_83_182 : decode prog_14_method_83_code 182 = .ok (.invokevirtual 437, 3) := by decide +kernel
theorem dc_14_83_185 : decode prog_14_method_83_code 185 = .ok (.ireturn, 1) := by decide +kernel
theorem dc_14_84_0 : decode prog_14_method_84_code 0 = .ok (.iload_n 2, 1) := by decide +kernel
theorem dc_14_84_1 : decode prog_14_method_84_code 1 = .ok (.bipush 10, 2) := by decide +kernel
theorem dc_14_84_3 : decode prog_14_method_84_code 3 = .ok (.bipush 9, 2) := by decide +kernel
theorem dc_14_84_5 : decode prog_14_method_84_code 5 = .ok (.aload_n 0, 1) := by decide +kernel
theorem dc_14_84_6 : decode prog_14_method_84_code 6 = .ok (.getfield 132, 3) := by decide +kernel
theorem dc_14_84_9 : decode prog_14_method_84_code 9 = .ok (.iload_n 1, 1) := by decide +kernel
theorem dc_14_84_10 : decode prog_14_method_84_code 10 = .ok (.iaload, 1) := by decide +kernel
theorem dc_14_84_11 : decode prog_14_method_84_code 11 = .ok (.iadd, 1) := by decide +kernel
theorem dc_14_84_12 : decode prog_14_method_84_code 12 = .ok (.invokestatic 180, 3) := by decide +kernel
theorem dc_14_84_15 : decode prog_14_method_84_code 15 = .ok (.ifCond .eq 17, 3) := by decide +kernel
theorem dc_14_84_18 : decode prog_14_method_84_code 18 = .ok (.aload_n 0, 1) := by decide +kernel
theorem dc_14_84_19 : decode prog_14_method_84_code 19 = .ok (.getfield 135, 3) := by decide +kernel
theorem dc_14_84_22 : decode prog_14_method_84_code 22 = .ok (.iconst 4, 1) := by decide +kernel
theorem dc_14_84_23 : decode prog_14_method_84_code 23 = .ok (.iload_n 1, 1) := by decide +kernel
theorem dc_14_84_24 : decode prog_14_method_84_code 24 = .ok (.imul, 1) := by decide +kernel
theorem dc_14_84_25 : decode prog_14_method_84_code 25 = .ok (.iload_n 2, 1) := by decide +kernel
theorem dc_14_84_26 : decode prog_14_method_84_code 26 = .ok (.iadd, 1) := by decide +kernel
theorem dc_14_84_27 : decode prog_14_method_84_code 27 = .ok (.bipush 10, 2) := by decide +kernel
theorem dc_14_84_29 : decode prog_14_method_84_code 29 = .ok (.isub, 1) := by decide +kernel
theorem dc_14_84_30 : decode prog_14_method_84_code 30 = .ok (.iaload, 1) := by decide +kernel
theorem dc_14_84_31 : decode prog_14_method_84_code 31 = .ok (.ireturn, 1) := by decide +kernel
theorem dc_14_84_32 : decode prog_14_method_84_code 32 = .ok (.iload_n 2, 1) := by decide +kernel
theorem dc_14_84_33 : decode prog_14_method_84_code 33 = .ok (.bipush 20, 2) := by decide +kernel
theorem dc_14_84_35 : decode prog_14_method_84_code 35 = .ok (.bipush 23, 2) := by decide +kernel
theorem dc_14_84_37 : decode prog_14_method_84_code 37 = .ok (.invokestatic 180, 3) := by decide +kernel
theorem dc_14_84_40 : decode prog_14_method_84_code 40 = .ok (.ifCond .eq 19, 3) := by decide +kernel
theorem dc_14_84_43 : decode prog_14_method_84_code 43 = .ok (.aload_n 0, 1) := by decide +kernel
theorem dc_14_84_44 : decode prog_14_method_84_code 44 = .ok (.getfield 138, 3) := by decide +kernel
theorem dc_14_84_47 : decode prog_14_method_84_code 47 = .ok (.iconst 4, 1) := by decide +kernel
theorem dc_14_84_48 : decode prog_14_method_84_code 48 = .ok (.iload_n 1, 1) := by decide +kernel
theorem dc_14_84_49 : decode prog_14_method_84_code 49 = .ok (.imul, 1) := by decide +kernel
theorem dc_14_84_50 : decode prog_14_method_84_code 50 = .ok (.iload_n 2, 1) := by decide +kernel
theorem dc_14_84_51 : decode prog_14_method_84_code 51 = .ok (.iadd, 1) := by decide +kernel
theorem dc_14_84_52 : decode prog_14_method_84_code 52 = .ok (.bipush 20, 2) := by decide +kernel
theorem dc_14_84_54 : decode prog_14_method_84_code 54 = .ok (.isub, 1) := by decide +kernel
theorem dc_14_84_55 : decode prog_14_method_84_code 55 = .ok (.iaload, 1) := by decide +kernel
theorem dc_14_84_56 : decode prog_14_method_84_code 56 = .ok (.goto 4, 3) := by decide +kernel
theorem dc_14_84_59 : decode prog_14_method_84_code 59 = .ok (.iconst (-1), 1) := by decide +kernel
theorem dc_14_84_60 : decode prog_14_method_84_code 60 = .ok (.ireturn, 1) := by decide +kernel
theorem dc_14_86_0 : decode prog_14_method_86_code 0 = .ok (.aload_n 0, 1) := by decide +kernel
theorem dc_14_86_1 : decode prog_14_method_86_code 1 = .ok (.iload_n 1, 1) := by decide +kernel
theorem dc_14_86_2 : decode prog_14_method_86_code 2 = .ok (.invokevirtual 296, 3) := by decide +kernel
theorem dc_14_86_5 : decode prog_14_method_86_code 5 = .ok (.ifCond .ne 5, 3) := by decide +kernel
theorem dc_14_86_8 : decode prog_14_method_86_code 8 = .ok (.iconst (-1), 1) := by decide +kernel
theorem dc_14_86_9 : decode prog_14_method_86_code 9 = .ok (.ireturn, 1) := by decide +kernel
theorem dc_14_86_10 : decode prog_14_method_86_code 10 = .ok (.iload_n 2, 1) := by decide +kernel
theorem dc_14_86_11 : decode prog_14_method_86_code 11 = .ok (.tableswitch 129 0 9 #[53, 60, 67, 74, 81, 88, 95, 102, 109, 115], 53) := by decide +kernel
theorem dc_14_86_64 : decode prog_14_method_86_code 64 = .ok (.aload_n 0, 1) := by decide +kernel
theorem dc_14_86_65 : decode prog_14_method_86_code 65 = .ok (.getfield 63, 3) := by decide +kernel
theorem dc_14_86_68 : decode prog_14_method_86_code 68 = .ok (.iload_n 1, 1) := by decide +kernel
theorem dc_14_86_69 : decode prog_14_method_86_code 69 = .ok (.iaload, 1) := by decide +kernel
theorem dc_14_86_70 : decode prog_14_method_86_code 70 = .ok (.ireturn, 1) := by decide +kernel
theorem dc_14_86_71 : decode prog_14_method_86_code 71 = .ok (.aload_n 0, 1) := by decide +kernel
theorem dc_14_86_72 : decode prog_14_method_86_code 72 = .ok (.getfield 66, 3) := by decide +kernel
theorem dc_14_86_75 : decode prog_14_method_86_code 75 = .ok (.iload_n 1, 1) := by decide +kernel
theorem dc_14_86_76 : decode prog_14_method_86_code 76 = .ok (.iaload, 1) := by decide +kernel
theorem dc_14_86_77 : decode prog_14_method_86_code 77 = .ok (.ireturn, 1) := by decide +kernel
theorem dc_14_86_78 : decode prog_14_method_86_code 78 = .ok (.aload_n 0, 1) := by decide +kernel
theorem dc_14_86_79 : decode prog_14_method_86_code 79 = .ok (.getfield 69, 3) := by decide +kernel
theorem dc_14_86_82 : decode prog_14_method_86_code 82 = .ok (.iload_n 1, 1) := by decide +kernel
theorem dc_14_86_83 : decode prog_14_method_86_code 83 = .ok (.iaload, 1) := by decide +kernel
theorem dc_14_86_84 : decode prog_14_method_86_code 84 = .ok (.ireturn, 1) := by decide +kernel
theorem dc_14_86_85 : decode prog_14_method_86_code 85 = .ok (.aload_n 0, 1) := by decide +kernel
theorem dc_14_86_86 : decode prog_14_method_86_code 86 = .ok (.getfield 72, 3) := by decide +kernel
theorem dc_14_86_89 : decode prog_14_method_86_code 89 = .ok (.iload_n 1, 1) := by decide +kernel
theorem dc_14_86_90 : decode prog_14_method_86_code 90 = .ok (.iaload, 1) := by decide +kernel
theorem dc_14_86_91 : decode prog_14_method_86_code 91 = .ok (.ireturn, 1) := by decide +kernel
theorem dc_14_86_92 : decode prog_14_method_86_code 92 = .ok (.aload_n 0, 1) := by decide +kernel
theorem dc_14_86_93 : decode prog_14_method_86_code 93 = .ok (.getfield 75, 3) := by decide +kernel
theorem dc_14_86_96 : decode prog_14_method_86_code 96 = .ok (.iload_n 1, 1) := by decide +kernel
theorem dc_14_86_97 : decode prog_14_method_86_code 97 = .ok (.iaload, 1) := by decide +kernel
theorem dc_14_86_98 : decode prog_14_method_86_code 98 = .ok (.ireturn, 1) := by decide +kernel
theorem dc_14_86_99 : decode prog_14_method_86_code 99 = .ok (.aload_n 0, 1) := by decide +kernel
theorem dc_14_86_100 : decode prog_14_method_86_code 100 = .ok (.getfield 78, 3) := by decide +kernel
theorem dc_14_86_103 : decode prog_14_method_86_code 103 = .ok (.iload_n 1, 1) := by decide +kernel
theorem dc_14_86_104 : decode prog_14_method_86_code 104 = .ok (.iaload, 1) := by decide +kernel
theorem dc_14_86_105 : decode prog_14_method_86_code 105 = .ok (.ireturn, 1) := by decide +kernel
theorem dc_14_86_106 : decode prog_14_method_86_code 106 = .ok (.aload_n 0, 1) := by decide +kernel
theorem dc_14_86_107 : decode prog_14_method_86_code 107 = .ok (.getfield 81, 3) := by decide +kernel
theorem dc_14_86_110 : decode prog_14_method_86_code 110 = .ok (.iload_n 1, 1) := by decide +kernel
theorem dc_14_86_111 : decode prog_14_method_86_code 111 = .ok (.iaload, 1) := by decide +kernel
theorem dc_14_86_112 : decode prog_14_method_86_code 112 = .ok (.ireturn, 1) := by decide +kernel
theorem dc_14_86_113 : decode prog_14_method_86_code 113 = .ok (.aload_n 0, 1) := by decide +kernel
theorem dc_14_86_114 : decode prog_14_method_86_code 114 = .ok (.getfield 84, 3) := by decide +kernel
theorem dc_14_86_117 : decode prog_14_method_86_code 117 = .ok (.iload_n 1, 1) := by decide +kernel
theorem dc_14_86_118 : decode prog_14_method_86_code 118 = .ok (.iaload, 1) := by decide +kernel
theorem dc_14_86_119 : decode prog_14_method_86_code 119 = .ok (.ireturn, 1) := by decide +kernel
theorem dc_14_86_120 : decode prog_14_method_86_code 120 = .ok (.aload_n 0, 1) := by decide +kernel
theorem dc_14_86_121 : decode prog_14_method_86_code 121 = .ok (.iload_n 1, 1) := by decide +kernel
theorem dc_14_86_122 : decode prog_14_method_86_code 122 = .ok (.invokevirtual 440, 3) := by decide +kernel
theorem dc_14_86_125 : decode prog_14_method_86_code 125 = .ok (.ireturn, 1) := by decide +kernel
theorem dc_14_86_126 : decode prog_14_method_86_code 126 = .ok (.aload_n 0, 1) := by decide +kernel
theorem dc_14_86_127 : decode prog_14_method_86_code 127 = .ok (.iload_n 1, 1) := by decide +kernel
theorem dc_14_86_128 : decode prog_14_method_86_code 128 = .ok (.invokevirtual 332, 3) := by decide +kernel
theorem dc_14_86_131 : decode prog_14_method_86_code 131 = .ok (.ifCond .eq 7, 3) := by decide +kernel
theorem dc_14_86_134 : decode prog_14_method_86_code 134 = .ok (.iconst 1, 1) := by decide +kernel
theorem dc_14_86_135 : decode prog_14_method_86_code 135 = .ok (.goto 4, 3) := by decide +kernel
theorem dc_14_86_138 : decode prog_14_method_86_code 138 = .ok (.iconst 0, 1) := by decide +kernel
theorem dc_14_86_139 : decode prog_14_method_86_code 139 = .ok (.ireturn, 1) := by decide +kernel
theorem dc_14_86_140 : decode prog_14_method_86_code 140 = .ok (.iconst (-1), 1) := by decide +kernel
theorem dc_14_86_141 : decode prog_14_method_86_code 141 = .ok (.ireturn, 1) := by decide +kernel
theorem dc_14_88_0 : decode prog_14_method_88_code 0 = .ok (.iload_n 1, 1) := by decide +kernel
theorem dc_14_88_1 : decode prog_14_method_88_code 1 = .ok (.tableswitch 93 0 9 #[55, 60, 65, 70, 75, 75, 75, 75, 83, 88], 55) := by decide +kernel
theorem dc_14_88_56 : decode prog_14_method_88_code 56 = .ok (.aload_n 0, 1) := by decide +kernel
theorem dc_14_88_57 : decode prog_14_method_88_code 57 = .ok (.getfield 329, 3) := by decide +kernel
theorem dc_14_88_60 : decode prog_14_method_88_code 60 = .ok (.ireturn, 1) := by decide +kernel
theorem dc_14_88_61 : decode prog_14_method_88_code 61 = .ok (.aload_n 0, 1) := by decide +kernel
theorem dc_14_88_62 : decode prog_14_method_88_code 62 = .ok (.getfield 200, 3) := by decide +kernel
theorem dc_14_88_65 : decode prog_14_method_88_code 65 = .ok (.ireturn, 1) := by decide +kernel
theorem dc_14_88_66 : decode prog_14_method_88_code 66 = .ok (.aload_n 0, 1) := by decide +kernel
theorem dc_14_88_67 : decode prog_14_method_88_code 67 = .ok (.getfield 290, 3) := by decide +kernel
theorem dc_14_88_70 : decode prog_14_method_88_code 70 = .ok (.ireturn, 1) := by decide +kernel
theorem dc_14_88_71 : decode prog_14_method_88_code 71 = .ok (.aload_n 0, 1) := by decide +kernel
theorem dc_14_88_72 : decode prog_14_method_88_code 72 = .ok (.getfield 320, 3) := by decide +kernel
theorem dc_14_88_75 : decode prog_14_method_88_code 75 = .ok (.ireturn, 1) := by decide +kernel
theorem dc_14_88_76 : decode prog_14_method_88_code 76 = .ok (.aload_n 0, 1) := by decide +kernel
theorem dc_14_88_77 : decode prog_14_method_88_code 77 = .ok (.iload_n 1, 1) := by decide +kernel
theorem dc_14_88_78 : decode prog_14_method_88_code 78 = .ok (.iconst 4, 1) := by decide +kernel
theorem dc_14_88_79 : decode prog_14_method_88_code 79 = .ok (.isub, 1) := by decide +kernel
theorem dc_14_88_80 : decode prog_14_method_88_code 80 = .ok (.invokevirtual 443, 3) := by decide +kernel
theorem dc_14_88_83 : decode prog_14_method_88_code 83 = .ok (.ireturn, 1) := by decide +kernel
theorem dc_14_88_84 : decode prog_14_method_88_code 84 = .ok (.aload_n 0, 1) := by decide +kernel
theorem dc_14_88_85 : decode prog_14_method_88_code 85 = .ok (.getfield 419, 3) := by decide +kernel
theorem dc_14_88_88 : decode prog_14_method_88_code 88 = .ok (.ireturn, 1) := by decide +kernel
theorem dc_14_88_89 : decode prog_14_method_88_code 89 = .ok (.aload_n 0, 1) := by decide +kernel
theorem dc_14_88_90 : decode prog_14_method_88_code 90 = .ok (.getfield 209, 3) := by decide +kernel
theorem dc_14_88_93 : decode prog_14_method_88_code 93 = .ok (.ireturn, 1) := by decide +kernel
theorem dc_14_88_94 : decode prog_14_method_88_code 94 = .ok (.iload_n 1, 1) := by decide +kernel
theorem dc_14_88_95 : decode prog_14_method_88_code 95 = .ok (.bipush 10, 2) := by decide +kernel
theorem dc_14_88_97 : decode prog_14_method_88_code 97 = .ok (.bipush 9, 2) := by decide +kernel
theorem dc_14_88_99 : decode prog_14_method_88_code 99 = .ok (.aload_n 0, 1) := by decide +kernel
theorem dc_14_88_100 : decode prog_14_method_88_code 100 = .ok (.getfield 200, 3) := by decide +kernel
theorem dc_14_88_103 : decode prog_14_method_88_code 103 = .ok (.iadd, 1) := by decide +kernel
theorem dc_14_88_104 : decode prog_14_method_88_code 104 = .ok (.invokestatic 180, 3) := by decide +kernel
theorem dc_14_88_107 : decode prog_14_method_88_code 107 = .ok (.ifCond .eq 13, 3) := by decide +kernel
theorem dc_14_88_110 : decode prog_14_method_88_code 110 = .ok (.aload_n 0, 1) := by decide +kernel
theorem dc_14_88_111 : decode prog_14_method_88_code 111 = .ok (.getfield 25, 3) := by decide +kernel
theorem dc_14_88_114 : decode prog_14_method_88_code 114 = .ok (.iload_n 1, 1) := by decide +kernel
theorem dc_14_88_115 : decode prog_14_method_88_code 115 = .ok (.bipush 10, 2) := by decide +kernel
theorem dc_14_88_117 : decode prog_14_method_88_code 117 = .ok (.isub, 1) := by decide +kernel
theorem dc_14_88_118 : decode prog_14_method_88_code 118 = .ok (.iaload, 1) := by decide +kernel
theorem dc_14_88_119 : decode prog_14_method_88_code 119 = .ok (.ireturn, 1) := by decide +kernel
theorem dc_14_88_120 : decode prog_14_method_88_code 120 = .ok (.iload_n 1, 1) := by decide +kernel
theorem dc_14_88_121 : decode prog_14_method_88_code 121 = .ok (.bipush 20, 2) := by decide +kernel
theorem dc_14_88_123 : decode prog_14_method_88_code 123 = .ok (.bipush 19, 2) := by decide +kernel
theorem dc_14_88_125 : decode prog_14_method_88_code 125 = .ok (.aload_n 0, 1) := by decide +kernel
theorem dc_14_88_126 : decode prog_14_method_88_code 126 = .ok (.getfield 200, 3) := by decide +kernel
theorem dc_14_88_129 : decode prog_14_method_88_code 129 = .ok (.iadd, 1) := by decide +kernel
theorem dc_14_88_130 : decode prog_14_method_88_code 130 = .ok (.invokestatic 180, 3) := by decide +kernel
theorem dc_14_88_133 : decode prog_14_method_88_code 133 = .ok (.ifCond .eq 12, 3) := by decide +kernel
theorem dc_14_88_136 : decode prog_14_method_88_code 136 = .ok (.aload_n 0, 1) := by decide +kernel
theorem dc_14_88_137 : decode prog_14_method_88_code 137 = .ok (.iload_n 1, 1) := by decide +kernel
theorem dc_14_88_138 : decode prog_14_method_88_code 138 = .ok (.bipush 20, 2) := by decide +kernel
theorem dc_14_88_140 : decode prog_14_method_88_code 140 = .ok (.isub, 1) := by decide +kernel
theorem dc_14_88_141 : decode prog_14_method_88_code 141 = .ok (.invokevirtual 347, 3) := by decide +kernel
theorem dc_14_88_144 : decode prog_14_method_88_code 144 = .ok (.ireturn, 1) := by decide +kernel
theorem dc_14_88_145 : decode prog_14_method_88_code 145 = .ok (.iload_n 1, 1) := by decide +kernel
theorem dc_14_88_146 : decode prog_14_method_88_code 146 = .ok (.bipush 30, 2) := by decide +kernel
theorem dc_14_88_148 : decode prog_14_method_88_code 148 = .ok (.bipush 29, 2) := by decide +kernel
theorem dc_14_88_150 : decode prog_14_method_88_code 150 = .ok (.aload_n 0, 1) := by decide +kernel
theorem dc_14_88_151 : decode prog_14_method_88_code 151 = .ok (.getfield 200, 3) := by decide +kernel
theorem dc_14_88_154 : decode prog_14_method_88_code 154 = .ok (.iadd, 1) := by decide +kernel
theorem dc_14_88_155 : decode prog_14_method_88_code 155 = .ok (.invokestatic 180, 3) := by decide +kernel
theorem dc_14_88_158 : decode prog_14_method_88_code 158 = .ok (.ifCond .eq 15, 3) := by decide +kernel
theorem dc_14_88_161 : decode prog_14_method_88_code 161 = .ok (.aload_n 0, 1) := by decide +kernel
theorem dc_14_88_162 : decode prog_14_method_88_code 162 = .ok (.getfield 40, 3) := by decide +kernel
theorem dc_14_88_165 : decode prog_14_method_88_code 165 = .ok (.iload_n 1, 1) := by decide +kernel
theorem dc_14_88_166 : decode prog_14_method_88_code 166 = .ok (.bipush 30, 2) := by decide +kernel
theorem dc_14_88_168 : decode prog_14_method_88_code 168 = .ok (.isub, 1) := by decide +kernel
theorem dc_14_88_169 : decode prog_14_method_88_code 169 = .ok (.iaload, 1) := by decide +kernel
theorem dc_14_88_170 : decode prog_14_method_88_code 170 = .ok (.goto 4, 3) := by decide +kernel
theorem dc_14_88_173 : decode prog_14_method_88_code 173 = .ok (.iconst (-1), 1) := by decide +kernel
theorem dc_14_88_174 : decode prog_14_method_88_code 174 = .ok (.ireturn, 1) := by decide +kernel
theorem iv_13_v332 : mm_iv 13 (.invokevirtual 332) = some (1, 227) := by decide +kernel
theorem iv_13_v344 : mm_iv 13 (.invokevirtual 344) = some (1, 232) := by decide +kernel
theorem iv_13_v347 : mm_iv 13 (.invokevirtual 347) = some (1, 233) := by decide +kernel
theorem iv_13_v350 : mm_iv 13 (.invokevirtual 350) = some (1, 230) := by decide +kernel
theorem iv_13_v437 : mm_iv 13 (.invokevirtual 437) = some (1, 268) := by decide +kernel
theorem iv_13_v440 : mm_iv 13 (.invokevirtual 440) = some (1, 270) := by decide +kernel
theorem iv_13_v443 : mm_iv 13 (.invokevirtual 443) = some (1, 272) := by decide +kernel
theorem o_227 : mm_o 227 = 13 := by decide +kernel
theorem o_230 : mm_o 230 = 13 := by decide +kernel
theorem o_232 : mm_o 232 = 13 := by decide +kernel
theorem o_233 : mm_o 233 = 13 := by decide +kernel
theorem o_268 : mm_o 268 = 13 := by decide +kernel
theorem o_270 : mm_o 270 = 13 := by decide +kernel
theorem o_272 : mm_o 272 = 13 := by decide +kernel
theorem na_1_227 : mm_nas 1 227 = 2 := by decide +kernel
theorem na_1_230 : mm_nas 1 230 = 1 := by decide +kernel
theorem na_1_232 : mm_nas 1 232 = 3 := by decide +kernel
theorem na_1_233 : mm_nas 1 233 = 2 := by decide +kernel
theorem na_1_268 : mm_nas 1 268 = 3 := by decide +kernel
theorem na_1_270 : mm_nas 1 270 = 2 := by decide +kernel
theorem na_1_272 : mm_nas 1 272 = 2 := by decide +kernel
theorem c_inF (N : mH) (a lo hi : Nat) (h : a < lo ∨ hi < a) (ha : a < 2 ^ 31) (hl : lo < 2 ^ 31) : mm_Ev 1 187 [.int (nI a), .int (nI lo), .int (nI hi)] N (some (.int (nI 0)), N) := by
  have h9 := c_in N (nI a) (nI lo) (nI hi)
  rw [show sp_in (nI a) (nI lo) (nI hi) = nI 0 from if_neg (fun q => by
    rcases h with h | h
    · exact absurd q.1 (nI_ge h hl)
    · exact absurd q.2 (nI_ge h ha))] at h9
  exact h9
theorem nI_out {a lo hi : Nat} (h : a < lo ∨ hi < a) (ha : a < 2 ^ 31) : (nI a).toInt < (lo : Int) ∨ (hi : Int) < (nI a).toInt := by rw [nI_toInt ha]; omega
def sp_ow (sg : Nat → Nat → Int32) (ns : Nat) (h : Int32) : Nat → Int64
  | 0 => 0
  | x + 1 => sp_ow sg ns h x + (if sg 28 x = h then (sg 31 x).toInt64 * (sp_bal sg ns x).toInt64 else 0) - (if sg 27 x = h then (sg 31 x).toInt64 * (sp_bal sg ns x).toInt64 else 0)
theorem sp_ow_S (sg : Nat → Nat → Int32) (ns : Nat) (h : Int32) (x : Nat) : sp_ow sg ns h (x + 1) = sp_ow sg ns h x + (if sg 28 x = h then (sg 31 x).toInt64 * (sp_bal sg ns x).toInt64 else 0) - (if sg 27 x = h then (sg 31 x).toInt64 * (sp_bal sg ns x).toInt64 else 0) := rfl
set_option maxHeartbeats 4000000 in
theorem c_owed_ok (M : mH) (hM : 157 ≤ M.1) (io : Nat → Int32) (sg : Nat → Nat → Int32) (ns : Nat) (h5 : io 5 = nI ns) (hns : ns ≤ 16) (nh : Nat) (h3 : io 3 = nI nh) (hnh : nh ≤ 8) (nx : Nat) (h4 : io 4 = nI nx) (hnx : nx ≤ 12) (h : Nat) (hh : h < nh) : mm_Ev 2 266 [.ref 100, .int (nI h)] (rf_mk M io sg) ((some (.long (sp_ow sg ns (nI h) nx)), rf_mk M io sg)) := by
  refine r_ev (by decide +kernel) (show (2 : Nat) ≤ mm_nL 266 by decide +kernel) ?_
  show mm_Ru 1 (13, 7, false, prog_14_method_82_code, some .long) 0 [(0, .ref 100), (1, .int (nI h))] [] (rf_mk M io sg) (fun r9 => r9 = ((some (.long (sp_ow sg ns (nI h) nx)), rf_mk M io sg)))
  refine r_lconst (v := 0) (by decide) dc_14_82_0 ?_
  refine r_lstore_n (ls' := [(2, .long 0), (0, .ref 100), (1, .int (nI h))]) (by decide) rfl dc_14_82_1 ?_
  refine r_aload_n rfl dc_14_82_2 ?_
  refine r_iload_n rfl dc_14_82_3 ?_
  refine q_calli (as := [.int (nI h)]) (rest := []) (v := .int (nI 1)) (M1 := rf_mk M io sg) iv_13_v205 na_1_196 o_196 hM rfl (show (0 : Nat) ≤ 8 by decide) dc_14_82_4 (c_isSchoolT M hM io sg nh h3 h (by omega) (by omega)) ?_
  refine r_ifne (t := 12) (by decide) dc_14_82_7 (fun c_7 => ?_) (fun c_7 => ?_)
  · skip
    refine r_iconst (v := nI 0) (by decide) dc_14_82_12 ?_
    refine r_istore (ls' := [(4, .int (nI 0)), (2, .long 0), (0, .ref 100), (1, .int (nI h))]) (by decide) rfl dc_14_82_13 ?_
    refine mm_cnt (P := fun m => ∀ (acc : Int64), (acc = sp_ow sg ns (nI h) m) → mm_Ru 1 (13, 7, false, prog_14_method_82_code, some .long) 15 [(4, .int (nI m)), (2, .long acc), (0, .ref 100), (1, .int (nI h))] [] (rf_mk M io sg) (fun r9 => r9 = ((some (.long (sp_ow sg ns (nI h) nx)), rf_mk M io sg)))) nx ?_ ?_ 0 (by omega) 0 (rfl)
    · intro acc hi_m
      show mm_Ru 1 (13, 7, false, prog_14_method_82_code, some .long) 15 [(4, .int (nI nx)), (2, .long acc), (0, .ref 100), (1, .int (nI h))] [] (rf_mk M io sg) (fun r9 => r9 = ((some (.long (sp_ow sg ns (nI h) nx)), rf_mk M io sg)))
      refine r_iload rfl dc_14_82_15 ?_
      refine r_aload_n rfl dc_14_82_17 ?_
      refine q_get (v := .int (nI nx)) rx_290 hM (congrArg (fun z => some (Value.int z)) (h4)) dc_14_82_18 ?_
      refine r_ncge (t := 86) (by omega) (by omega) (by decide) dc_14_82_21 (fun c_21 => ?_) (fun c_21 => ?_)
      · skip
        refine r_lload_n rfl dc_14_82_86 ?_
        refine r_lret rfl dc_14_82_87 ?_
        rw [hi_m]
      · omega
    · intro m h_m ih_m acc hi_m
      show mm_Ru 1 (13, 7, false, prog_14_method_82_code, some .long) 15 [(4, .int (nI m)), (2, .long acc), (0, .ref 100), (1, .int (nI h))] [] (rf_mk M io sg) (fun r9 => r9 = ((some (.long (sp_ow sg ns (nI h) nx)), rf_mk M io sg)))
      refine r_iload rfl dc_14_82_15 ?_
      refine r_aload_n rfl dc_14_82_17 ?_
      refine q_get (v := .int (nI nx)) rx_290 hM (congrArg (fun z => some (Value.int z)) (h4)) dc_14_82_18 ?_
      refine r_ncge (t := 86) (by omega) (by omega) (by decide) dc_14_82_21 (fun c_21 => ?_) (fun c_21 => ?_)
      · omega
      · skip
        refine r_aload_n rfl dc_14_82_24 ?_
        refine q_get (v := .ref 122) rx_75 hM rfl dc_14_82_25 ?_
        refine r_iload rfl dc_14_82_28 ?_
        refine q_ild (e := m) (v := sg 31 m) (by decide) (by decide) hM rfl (show m < 12 by omega) (by omega) (rfl) dc_14_82_30 ?_
        refine r_i2l (v := (sg 31 m).toInt64) rfl dc_14_82_31 ?_
        refine r_aload_n rfl dc_14_82_32 ?_
        refine r_iload rfl dc_14_82_33 ?_
        refine q_calli (as := [.int (nI m)]) (rest := [.long ((sg 31 m).toInt64)]) (v := .int (sp_bal sg ns m)) (M1 := rf_mk M io sg) iv_13_v341 na_1_231 o_231 hM rfl (show (2 : Nat) ≤ 8 by decide) dc_14_82_35 (c_balanceOf M hM io sg ns h5 hns m (by omega)) ?_
        refine r_i2l (v := (sp_bal sg ns m).toInt64) rfl dc_14_82_38 ?_
        refine r_lmul (v := ((sg 31 m).toInt64) * ((sp_bal sg ns m).toInt64)) rfl dc_14_82_39 ?_
        refine r_lstore (ls' := [(5, .long (((sg 31 m).toInt64) * ((sp_bal sg ns m).toInt64))), (4, .int (nI m)), (2, .long acc), (0, .ref 100), (1, .int (nI h))]) (by decide) rfl dc_14_82_40 ?_
        refine r_lload_n rfl dc_14_82_42 ?_
        refine r_aload_n rfl dc_14_82_43 ?_
        refine q_get (v := .ref 119) rx_66 hM rfl dc_14_82_44 ?_
        refine r_iload rfl dc_14_82_47 ?_
        refine q_ild (e := m) (v := sg 28 m) (by decide) (by decide) hM rfl (show m < 12 by omega) (by omega) (rfl) dc_14_82_49 ?_
        refine r_iload_n rfl dc_14_82_50 ?_
        refine r_icne (t := 59) (by decide) dc_14_82_51 (fun c_51 => ?_) (fun c_51 => ?_)
        · skip
          refine r_lconst (v := 0) (by decide) dc_14_82_59 ?_
          refine r_ladd (v := acc + 0) rfl dc_14_82_60 ?_
          refine r_aload_n rfl dc_14_82_61 ?_
          refine q_get (v := .ref 118) rx_63 hM rfl dc_14_82_62 ?_
          refine r_iload rfl dc_14_82_65 ?_
          refine q_ild (e := m) (v := sg 27 m) (by decide) (by decide) hM rfl (show m < 12 by omega) (by omega) (rfl) dc_14_82_67 ?_
          refine r_iload_n rfl dc_14_82_68 ?_
          refine r_icne (t := 77) (by decide) dc_14_82_69 (fun c_69 => ?_) (fun c_69 => ?_)
          · skip
            refine r_lconst (v := 0) (by decide) dc_14_82_77 ?_
            refine r_lsub (v := (acc + 0) - 0) rfl dc_14_82_78 ?_
            refine r_lstore_n (ls' := [(2, .long ((acc + 0) - 0)), (5, .long (((sg 31 m).toInt64) * ((sp_bal sg ns m).toInt64))), (4, .int (nI m)), (0, .ref 100), (1, .int (nI h))]) (by decide) rfl dc_14_82_79 ?_
            refine r_iinc (x := nI m) (v := nI (m + 1)) (ls' := [(4, .int (nI (m + 1))), (2, .long ((acc + 0) - 0)), (5, .long (((sg 31 m).toInt64) * ((sp_bal sg ns m).toInt64))), (0, .ref 100), (1, .int (nI h))]) rfl (nI_1 _) (by decide) rfl dc_14_82_80 ?_
            refine r_goto (t := 15) (by decide) dc_14_82_83 ?_
            refine r_ls [(4, .int (nI (m + 1))), (2, .long ((acc + 0) - 0)), (0, .ref 100), (1, .int (nI h))] (mm_ndk_of [4, 2, 0, 1] rfl (by decide)) (mm_sub_cons rfl (mm_sub_cons rfl (mm_sub_cons rfl (mm_sub_cons rfl (mm_sub_nil _))))) ?_
            exact ih_m ((acc + 0) - 0) (by rw [sp_ow_S, if_neg c_51, if_neg c_69, hi_m])
          · skip
            refine r_lload rfl dc_14_82_72 ?_
            refine r_goto (t := 78) (by decide) dc_14_82_74 ?_
            refine r_lsub (v := (acc + 0) - (((sg 31 m).toInt64) * ((sp_bal sg ns m).toInt64))) rfl dc_14_82_78 ?_
            refine r_lstore_n (ls' := [(2, .long ((acc + 0) - (((sg 31 m).toInt64) * ((sp_bal sg ns m).toInt64)))), (5, .long (((sg 31 m).toInt64) * ((sp_bal sg ns m).toInt64))), (4, .int (nI m)), (0, .ref 100), (1, .int (nI h))]) (by decide) rfl dc_14_82_79 ?_
            refine r_iinc (x := nI m) (v := nI (m + 1)) (ls' := [(4, .int (nI (m + 1))), (2, .long ((acc + 0) - (((sg 31 m).toInt64) * ((sp_bal sg ns m).toInt64)))), (5, .long (((sg 31 m).toInt64) * ((sp_bal sg ns m).toInt64))), (0, .ref 100), (1, .int (nI h))]) rfl (nI_1 _) (by decide) rfl dc_14_82_80 ?_
            refine r_goto (t := 15) (by decide) dc_14_82_83 ?_
            refine r_ls [(4, .int (nI (m + 1))), (2, .long ((acc + 0) - (((sg 31 m).toInt64) * ((sp_bal sg ns m).toInt64)))), (0, .ref 100), (1, .int (nI h))] (mm_ndk_of [4, 2, 0, 1] rfl (by decide)) (mm_sub_cons rfl (mm_sub_cons rfl (mm_sub_cons rfl (mm_sub_cons rfl (mm_sub_nil _))))) ?_
            exact ih_m ((acc + 0) - (((sg 31 m).toInt64) * ((sp_bal sg ns m).toInt64))) (by rw [sp_ow_S, if_neg c_51, if_pos c_69, hi_m])
        · skip
          refine r_lload rfl dc_14_82_54 ?_
          refine r_goto (t := 60) (by decide) dc_14_82_56 ?_
          refine r_ladd (v := acc + (((sg 31 m).toInt64) * ((sp_bal sg ns m).toInt64))) rfl dc_14_82_60 ?_
          refine r_aload_n rfl dc_14_82_61 ?_
          refine q_get (v := .ref 118) rx_63 hM rfl dc_14_82_62 ?_
          refine r_iload rfl dc_14_82_65 ?_
          refine q_ild (e := m) (v := sg 27 m) (by decide) (by decide) hM rfl (show m < 12 by omega) (by omega) (rfl) dc_14_82_67 ?_
          refine r_iload_n rfl dc_14_82_68 ?_
          refine r_icne (t := 77) (by decide) dc_14_82_69 (fun c_69 => ?_) (fun c_69 => ?_)
          · skip
            refine r_lconst (v := 0) (by decide) dc_14_82_77 ?_
            refine r_lsub (v := (acc + (((sg 31 m).toInt64) * ((sp_bal sg ns m).toInt64))) - 0) rfl dc_14_82_78 ?_
            refine r_lstore_n (ls' := [(2, .long ((acc + (((sg 31 m).toInt64) * ((sp_bal sg ns m).toInt64))) - 0)), (5, .long (((sg 31 m).toInt64) * ((sp_bal sg ns m).toInt64))), (4, .int (nI m)), (0, .ref 100), (1, .int (nI h))]) (by decide) rfl dc_14_82_79 ?_
            refine r_iinc (x := nI m) (v := nI (m + 1)) (ls' := [(4, .int (nI (m + 1))), (2, .long ((acc + (((sg 31 m).toInt64) * ((sp_bal sg ns m).toInt64))) - 0)), (5, .long (((sg 31 m).toInt64) * ((sp_bal sg ns m).toInt64))), (0, .ref 100), (1, .int (nI h))]) rfl (nI_1 _) (by decide) rfl dc_14_82_80 ?_
            refine r_goto (t := 15) (by decide) dc_14_82_83 ?_
            refine r_ls [(4, .int (nI (m + 1))), (2, .long ((acc + (((sg 31 m).toInt64) * ((sp_bal sg ns m).toInt64))) - 0)), (0, .ref 100), (1, .int (nI h))] (mm_ndk_of [4, 2, 0, 1] rfl (by decide)) (mm_sub_cons rfl (mm_sub_cons rfl (mm_sub_cons rfl (mm_sub_cons rfl (mm_sub_nil _))))) ?_
            exact ih_m ((acc + (((sg 31 m).toInt64) * ((sp_bal sg ns m).toInt64))) - 0) (by rw [sp_ow_S, if_pos c_51, if_neg c_69, hi_m])
          · skip
            refine r_lload rfl dc_14_82_72 ?_
            refine r_goto (t := 78) (by decide) dc_14_82_74 ?_
            refine r_lsub (v := (acc + (((sg 31 m).toInt64) * ((sp_bal sg ns m).toInt64))) - (((sg 31 m).toInt64) * ((sp_bal sg ns m).toInt64))) rfl dc_14_82_78 ?_
            refine r_lstore_n (ls' := [(2, .long ((acc + (((sg 31 m).toInt64) * ((sp_bal sg ns m).toInt64))) - (((sg 31 m).toInt64) * ((sp_bal sg ns m).toInt64)))), (5, .long (((sg 31 m).toInt64) * ((sp_bal sg ns m).toInt64))), (4, .int (nI m)), (0, .ref 100), (1, .int (nI h))]) (by decide) rfl dc_14_82_79 ?_
            refine r_iinc (x := nI m) (v := nI (m + 1)) (ls' := [(4, .int (nI (m + 1))), (2, .long ((acc + (((sg 31 m).toInt64) * ((sp_bal sg ns m).toInt64))) - (((sg 31 m).toInt64) * ((sp_bal sg ns m).toInt64)))), (5, .long (((sg 31 m).toInt64) * ((sp_bal sg ns m).toInt64))), (0, .ref 100), (1, .int (nI h))]) rfl (nI_1 _) (by decide) rfl dc_14_82_80 ?_
            refine r_goto (t := 15) (by decide) dc_14_82_83 ?_
            refine r_ls [(4, .int (nI (m + 1))), (2, .long ((acc + (((sg 31 m).toInt64) * ((sp_bal sg ns m).toInt64))) - (((sg 31 m).toInt64) * ((sp_bal sg ns m).toInt64)))), (0, .ref 100), (1, .int (nI h))] (mm_ndk_of [4, 2, 0, 1] rfl (by decide)) (mm_sub_cons rfl (mm_sub_cons rfl (mm_sub_cons rfl (mm_sub_cons rfl (mm_sub_nil _))))) ?_
            exact ih_m ((acc + (((sg 31 m).toInt64) * ((sp_bal sg ns m).toInt64))) - (((sg 31 m).toInt64) * ((sp_bal sg ns m).toInt64))) (by rw [sp_ow_S, if_pos c_51, if_pos c_69, hi_m])
  · exact absurd c_7 (by decide)
set_option maxHeartbeats 4000000 in
theorem c_owed_no (M : mH) (hM : 157 ≤ M.1) (io : Nat → Int32) (sg : Nat → Nat → Int32) (h : Int32) (hno : ¬ (0 ≤ h ∧ h < io 3)) : mm_Ev 2 266 [.ref 100, .int h] (rf_mk M io sg) ((some (.long 0), rf_mk M io sg)) := by
  refine r_ev (by decide +kernel) (show (2 : Nat) ≤ mm_nL 266 by decide +kernel) ?_
  show mm_Ru 1 (13, 7, false, prog_14_method_82_code, some .long) 0 [(0, .ref 100), (1, .int h)] [] (rf_mk M io sg) (fun r9 => r9 = ((some (.long 0), rf_mk M io sg)))
  refine r_lconst (v := 0) (by decide) dc_14_82_0 ?_
  refine r_lstore_n (ls' := [(2, .long 0), (0, .ref 100), (1, .int h)]) (by decide) rfl dc_14_82_1 ?_
  refine r_aload_n rfl dc_14_82_2 ?_
  refine r_iload_n rfl dc_14_82_3 ?_
  refine q_calli (as := [.int h]) (rest := []) (v := .int (sp_is h (io 3))) (M1 := rf_mk M io sg) iv_13_v205 na_1_196 o_196 hM rfl (show (0 : Nat) ≤ 8 by decide) dc_14_82_4 (c_isSchool M hM io sg h) ?_
  refine r_ifne (t := 12) (by decide) dc_14_82_7 (fun c_7 => ?_) (fun c_7 => ?_)
  · skip
    exact absurd (sp_is_ne c_7) hno
  · skip
    refine r_lload_n rfl dc_14_82_10 ?_
    exact r_lret rfl dc_14_82_11 (rfl)
def kp_A (io : Nat → Int32) (sg : Nat → Nat → Int32) (ns x : Nat) : Prop := sp_inf io sg x = 0 ∨ ¬ sg 29 x < sp_gof sg ns (nI x) (sg 27 x) ∧ ¬ sg 29 x < sp_gof sg ns (nI x) (sg 28 x) ∧ ¬ sg 30 x < sp_bal sg ns x ∧ -sp_bal sg ns x ≤ sg 30 x
def kp_B (sg : Nat → Nat → Int32) (ns h : Nat) : Prop := sp_pin sg ns (nI h) ≤ sg 11 h
def sp_kept (io : Nat → Int32) (sg : Nat → Nat → Int32) (ns nh nx : Nat) : Prop := (∀ x, x < nx → kp_A io sg ns x) ∧ (∀ h, h < nh → kp_B sg ns h)
set_option maxHeartbeats 4000000 in
theorem c_areKept (M : mH) (hM : 157 ≤ M.1) (io : Nat → Int32) (sg : Nat → Nat → Int32) (ns : Nat) (h5 : io 5 = nI ns) (hns : ns ≤ 16) (nh : Nat) (h3 : io 3 = nI nh) (hnh : nh ≤ 8) (nx : Nat) (h4 : io 4 = nI nx) (hnx : nx ≤ 12) : mm_Ev 2 230 [.ref 100] (rf_mk M io sg) ((some (.int (pI (sp_kept io sg ns nh nx))), rf_mk M io sg)) := by
  refine r_ev (by decide +kernel) (show (1 : Nat) ≤ mm_nL 230 by decide +kernel) ?_
  show mm_Ru 1 (13, 3, false, prog_14_method_48_code, some .boolean) 0 [(0, .ref 100)] [] (rf_mk M io sg) (fun r9 => r9 = ((some (.int (pI (sp_kept io sg ns nh nx))), rf_mk M io sg)))
  refine r_iconst (v := nI 0) (by decide) dc_14_48_0 ?_
  refine r_istore_n (ls' := [(1, .int (nI 0)), (0, .ref 100)]) (by decide) rfl dc_14_48_1 ?_
  refine mm_cnt (P := fun m => (∀ j, j < m → kp_A io sg ns j) → mm_Ru 1 (13, 3, false, prog_14_method_48_code, some .boolean) 2 [(1, .int (nI m)), (0, .ref 100)] [] (rf_mk M io sg) (fun r9 => r9 = ((some (.int (pI (sp_kept io sg ns nh nx))), rf_mk M io sg)))) nx ?_ ?_ 0 (by omega) (fun j hj => absurd hj (Nat.not_lt_zero j))
  · intro  hi_m
    show mm_Ru 1 (13, 3, false, prog_14_method_48_code, some .boolean) 2 [(1, .int (nI nx)), (0, .ref 100)] [] (rf_mk M io sg) (fun r9 => r9 = ((some (.int (pI (sp_kept io sg ns nh nx))), rf_mk M io sg)))
    refine r_iload_n rfl dc_14_48_2 ?_
    refine r_aload_n rfl dc_14_48_3 ?_
    refine q_get (v := .int (nI nx)) rx_290 hM (congrArg (fun z => some (Value.int z)) (h4)) dc_14_48_4 ?_
    refine r_ncge (t := 96) (by omega) (by omega) (by decide) dc_14_48_7 (fun c_7 => ?_) (fun c_7 => ?_)
    · skip
      refine r_iconst (v := nI 0) (by decide) dc_14_48_96 ?_
      refine r_istore_n (ls' := [(1, .int (nI 0)), (0, .ref 100)]) (by decide) rfl dc_14_48_97 ?_
      refine mm_cnt (P := fun j => (∀ i, i < j → kp_B sg ns i) → mm_Ru 1 (13, 3, false, prog_14_method_48_code, some .boolean) 98 [(1, .int (nI j)), (0, .ref 100)] [] (rf_mk M io sg) (fun r9 => r9 = ((some (.int (pI (sp_kept io sg ns nh nx))), rf_mk M io sg)))) nh ?_ ?_ 0 (by omega) (fun j hj => absurd hj (Nat.not_lt_zero j))
      · intro  hi_j
        show mm_Ru 1 (13, 3, false, prog_14_method_48_code, some .boolean) 98 [(1, .int (nI nh)), (0, .ref 100)] [] (rf_mk M io sg) (fun r9 => r9 = ((some (.int (pI (sp_kept io sg ns nh nx))), rf_mk M io sg)))
        refine r_iload_n rfl dc_14_48_98 ?_
        refine r_aload_n rfl dc_14_48_99 ?_
        refine q_get (v := .int (nI nh)) rx_200 hM (congrArg (fun z => some (Value.int z)) (h3)) dc_14_48_100 ?_
        refine r_ncge (t := 128) (by omega) (by omega) (by decide) dc_14_48_103 (fun c_103 => ?_) (fun c_103 => ?_)
        · skip
          refine r_iconst (v := nI 1) (by decide) dc_14_48_128 ?_
          refine r_zret rfl (by decide) dc_14_48_129 ?_
          rw [pI_t ⟨hi_m, hi_j⟩]
        · omega
      · intro j h_j ih_j  hi_j
        show mm_Ru 1 (13, 3, false, prog_14_method_48_code, some .boolean) 98 [(1, .int (nI j)), (0, .ref 100)] [] (rf_mk M io sg) (fun r9 => r9 = ((some (.int (pI (sp_kept io sg ns nh nx))), rf_mk M io sg)))
        refine r_iload_n rfl dc_14_48_98 ?_
        refine r_aload_n rfl dc_14_48_99 ?_
        refine q_get (v := .int (nI nh)) rx_200 hM (congrArg (fun z => some (Value.int z)) (h3)) dc_14_48_100 ?_
        refine r_ncge (t := 128) (by omega) (by omega) (by decide) dc_14_48_103 (fun c_103 => ?_) (fun c_103 => ?_)
        · omega
        · skip
          refine r_aload_n rfl dc_14_48_106 ?_
          refine r_iload_n rfl dc_14_48_107 ?_
          refine q_calli (as := [.int (nI j)]) (rest := []) (v := .int (sp_pin sg ns (nI j))) (M1 := rf_mk M io sg) iv_13_v347 na_1_233 o_233 hM rfl (show (0 : Nat) ≤ 8 by decide) dc_14_48_108 (c_placedIn M hM io sg ns h5 hns (nI j)) ?_
          refine r_aload_n rfl dc_14_48_111 ?_
          refine q_get (v := .ref 106) rx_25 hM rfl dc_14_48_112 ?_
          refine r_iload_n rfl dc_14_48_115 ?_
          refine q_ild (e := j) (v := sg 11 j) (by decide) (by decide) hM rfl (show j < 8 by omega) (by omega) (rfl) dc_14_48_116 ?_
          refine r_icle (t := 122) (by decide) dc_14_48_117 (fun c_117 => ?_) (fun c_117 => ?_)
          · skip
            refine r_iinc (x := nI j) (v := nI (j + 1)) (ls' := [(1, .int (nI (j + 1))), (0, .ref 100)]) rfl (nI_1 _) (by decide) rfl dc_14_48_122 ?_
            refine r_goto (t := 98) (by decide) dc_14_48_125 ?_
            exact ih_j (fun i hi => if q : i = j then q ▸ c_117 else hi_j i (by omega))
          · skip
            refine r_iconst (v := nI 0) (by decide) dc_14_48_120 ?_
            refine r_zret rfl (by decide) dc_14_48_121 ?_
            rw [pI_f (fun q => c_117 (q.2 j h_j))]
    · omega
  · intro m h_m ih_m  hi_m
    show mm_Ru 1 (13, 3, false, prog_14_method_48_code, some .boolean) 2 [(1, .int (nI m)), (0, .ref 100)] [] (rf_mk M io sg) (fun r9 => r9 = ((some (.int (pI (sp_kept io sg ns nh nx))), rf_mk M io sg)))
    refine r_iload_n rfl dc_14_48_2 ?_
    refine r_aload_n rfl dc_14_48_3 ?_
    refine q_get (v := .int (nI nx)) rx_290 hM (congrArg (fun z => some (Value.int z)) (h4)) dc_14_48_4 ?_
    refine r_ncge (t := 96) (by omega) (by omega) (by decide) dc_14_48_7 (fun c_7 => ?_) (fun c_7 => ?_)
    · omega
    · skip
      refine r_aload_n rfl dc_14_48_10 ?_
      refine r_iload_n rfl dc_14_48_11 ?_
      refine q_calli (as := [.int (nI m)]) (rest := []) (v := .int (sp_inf io sg m)) (M1 := rf_mk M io sg) iv_13_v332 na_1_227 o_227 hM rfl (show (0 : Nat) ≤ 8 by decide) dc_14_48_12 (c_isInForce M hM io sg m (by omega)) ?_
      refine r_ifne (t := 21) (by decide) dc_14_48_15 (fun c_15 => ?_) (fun c_15 => ?_)
      · skip
        refine r_aload_n rfl dc_14_48_21 ?_
        refine r_iload_n rfl dc_14_48_22 ?_
        refine q_calli (as := [.int (nI m)]) (rest := []) (v := .int (sp_bal sg ns m)) (M1 := rf_mk M io sg) iv_13_v341 na_1_231 o_231 hM rfl (show (0 : Nat) ≤ 8 by decide) dc_14_48_23 (c_balanceOf M hM io sg ns h5 hns m (by omega)) ?_
        refine r_istore_n (ls' := [(2, .int (sp_bal sg ns m)), (1, .int (nI m)), (0, .ref 100)]) (by decide) rfl dc_14_48_26 ?_
        refine r_aload_n rfl dc_14_48_27 ?_
        refine r_iload_n rfl dc_14_48_28 ?_
        refine r_aload_n rfl dc_14_48_29 ?_
        refine q_get (v := .ref 118) rx_63 hM rfl dc_14_48_30 ?_
        refine r_iload_n rfl dc_14_48_33 ?_
        refine q_ild (e := m) (v := sg 27 m) (by decide) (by decide) hM rfl (show m < 12 by omega) (by omega) (rfl) dc_14_48_34 ?_
        refine q_calli (as := [.int (nI m), .int (sg 27 m)]) (rest := []) (v := .int (sp_gof sg ns (nI m) (sg 27 m))) (M1 := rf_mk M io sg) iv_13_v344 na_1_232 o_232 hM rfl (show (0 : Nat) ≤ 8 by decide) dc_14_48_35 (c_goingFrom M hM io sg ns h5 hns (nI m) (sg 27 m)) ?_
        refine r_aload_n rfl dc_14_48_38 ?_
        refine q_get (v := .ref 120) rx_69 hM rfl dc_14_48_39 ?_
        refine r_iload_n rfl dc_14_48_42 ?_
        refine q_ild (e := m) (v := sg 29 m) (by decide) (by decide) hM rfl (show m < 12 by omega) (by omega) (rfl) dc_14_48_43 ?_
        refine r_icgt (t := 88) (by decide) dc_14_48_44 (fun c_44 => ?_) (fun c_44 => ?_)
        · skip
          refine r_iconst (v := nI 0) (by decide) dc_14_48_88 ?_
          refine r_zret rfl (by decide) dc_14_48_89 ?_
          rw [pI_f (fun q => (q.1 m h_m).elim c_15 (fun z => z.1 c_44))]
        · skip
          refine r_aload_n rfl dc_14_48_47 ?_
          refine r_iload_n rfl dc_14_48_48 ?_
          refine r_aload_n rfl dc_14_48_49 ?_
          refine q_get (v := .ref 119) rx_66 hM rfl dc_14_48_50 ?_
          refine r_iload_n rfl dc_14_48_53 ?_
          refine q_ild (e := m) (v := sg 28 m) (by decide) (by decide) hM rfl (show m < 12 by omega) (by omega) (rfl) dc_14_48_54 ?_
          refine q_calli (as := [.int (nI m), .int (sg 28 m)]) (rest := []) (v := .int (sp_gof sg ns (nI m) (sg 28 m))) (M1 := rf_mk M io sg) iv_13_v344 na_1_232 o_232 hM rfl (show (0 : Nat) ≤ 8 by decide) dc_14_48_55 (c_goingFrom M hM io sg ns h5 hns (nI m) (sg 28 m)) ?_
          refine r_aload_n rfl dc_14_48_58 ?_
          refine q_get (v := .ref 120) rx_69 hM rfl dc_14_48_59 ?_
          refine r_iload_n rfl dc_14_48_62 ?_
          refine q_ild (e := m) (v := sg 29 m) (by decide) (by decide) hM rfl (show m < 12 by omega) (by omega) (rfl) dc_14_48_63 ?_
          refine r_icgt (t := 88) (by decide) dc_14_48_64 (fun c_64 => ?_) (fun c_64 => ?_)
          · skip
            refine r_iconst (v := nI 0) (by decide) dc_14_48_88 ?_
            refine r_zret rfl (by decide) dc_14_48_89 ?_
            rw [pI_f (fun q => (q.1 m h_m).elim c_15 (fun z => z.2.1 c_64))]
          · skip
            refine r_iload_n rfl dc_14_48_67 ?_
            refine r_aload_n rfl dc_14_48_68 ?_
            refine q_get (v := .ref 121) rx_72 hM rfl dc_14_48_69 ?_
            refine r_iload_n rfl dc_14_48_72 ?_
            refine q_ild (e := m) (v := sg 30 m) (by decide) (by decide) hM rfl (show m < 12 by omega) (by omega) (rfl) dc_14_48_73 ?_
            refine r_icgt (t := 88) (by decide) dc_14_48_74 (fun c_74 => ?_) (fun c_74 => ?_)
            · skip
              refine r_iconst (v := nI 0) (by decide) dc_14_48_88 ?_
              refine r_zret rfl (by decide) dc_14_48_89 ?_
              rw [pI_f (fun q => (q.1 m h_m).elim c_15 (fun z => z.2.2.1 c_74))]
            · skip
              refine r_iload_n rfl dc_14_48_77 ?_
              refine r_ineg (v := -(sp_bal sg ns m)) (rfl) dc_14_48_78 ?_
              refine r_aload_n rfl dc_14_48_79 ?_
              refine q_get (v := .ref 121) rx_72 hM rfl dc_14_48_80 ?_
              refine r_iload_n rfl dc_14_48_83 ?_
              refine q_ild (e := m) (v := sg 30 m) (by decide) (by decide) hM rfl (show m < 12 by omega) (by omega) (rfl) dc_14_48_84 ?_
              refine r_icle (t := 90) (by decide) dc_14_48_85 (fun c_85 => ?_) (fun c_85 => ?_)
              · skip
                refine r_iinc (x := nI m) (v := nI (m + 1)) (ls' := [(1, .int (nI (m + 1))), (2, .int (sp_bal sg ns m)), (0, .ref 100)]) rfl (nI_1 _) (by decide) rfl dc_14_48_90 ?_
                refine r_goto (t := 2) (by decide) dc_14_48_93 ?_
                refine r_ls [(1, .int (nI (m + 1))), (0, .ref 100)] (mm_ndk_of [1, 0] rfl (by decide)) (mm_sub_cons rfl (mm_sub_cons rfl (mm_sub_nil _))) ?_
                exact ih_m (fun j hj => if q : j = m then q ▸ (Or.inr ⟨c_44, c_64, c_74, c_85⟩) else hi_m j (by omega))
              · skip
                refine r_iconst (v := nI 0) (by decide) dc_14_48_88 ?_
                refine r_zret rfl (by decide) dc_14_48_89 ?_
                rw [pI_f (fun q => (q.1 m h_m).elim c_15 (fun z => c_85 z.2.2.2))]
      · skip
        refine r_goto (t := 90) (by decide) dc_14_48_18 ?_
        refine r_iinc (x := nI m) (v := nI (m + 1)) (ls' := [(1, .int (nI (m + 1))), (0, .ref 100)]) rfl (nI_1 _) (by decide) rfl dc_14_48_90 ?_
        refine r_goto (t := 2) (by decide) dc_14_48_93 ?_
        exact ih_m (fun j hj => if q : j = m then q ▸ (Or.inl c_15) else hi_m j (by omega))
set_option maxHeartbeats 4000000 in
theorem c_kept (M : mH) (hM : 157 ≤ M.1) (io : Nat → Int32) (sg : Nat → Nat → Int32) (ns : Nat) (h5 : io 5 = nI ns) (hns : ns ≤ 16) (nh : Nat) (h3 : io 3 = nI nh) (hnh : nh ≤ 8) (nx : Nat) (h4 : io 4 = nI nx) (hnx : nx ≤ 12) : mm_Ev 3 229 [.ref 100] (rf_mk M io sg) ((some (.int (pI (sp_kept io sg ns nh nx))), rf_mk M io sg)) := by
  refine r_ev (by decide +kernel) (show (1 : Nat) ≤ mm_nL 229 by decide +kernel) ?_
  show mm_Ru 2 (13, 1, false, prog_14_method_49_code, some .int) 0 [(0, .ref 100)] [] (rf_mk M io sg) (fun r9 => r9 = ((some (.int (pI (sp_kept io sg ns nh nx))), rf_mk M io sg)))
  refine r_aload_n rfl dc_14_49_0 ?_
  refine q_calli (as := []) (rest := []) (v := .int (pI (sp_kept io sg ns nh nx))) (M1 := rf_mk M io sg) iv_13_v350 na_1_230 o_230 hM rfl (show (0 : Nat) ≤ 8 by decide) dc_14_49_1 (c_areKept M hM io sg ns h5 hns nh h3 hnh nx h4 hnx) ?_
  refine r_ifeq (t := 11) (by decide) dc_14_49_4 (fun c_4 => ?_) (fun c_4 => ?_)
  · skip
    refine r_iconst (v := nI 0) (by decide) dc_14_49_11 ?_
    refine r_iret rfl dc_14_49_12 ?_
    rw [pI_f (pI_eq0 c_4)]
  · skip
    refine r_iconst (v := nI 1) (by decide) dc_14_49_7 ?_
    refine r_goto (t := 12) (by decide) dc_14_49_8 ?_
    refine r_iret rfl dc_14_49_12 ?_
    rw [pI_t (pI_ne c_4)]
set_option maxHeartbeats 4000000 in
theorem c_lookFar_w (M : mH) (hM : 157 ≤ M.1) (io : Nat → Int32) (sg : Nat → Nat → Int32) (s j : Nat) (hs : s < 16) (wm : Nat) (hwm : sg 59 s = nI wm) (hw4 : wm ≤ 4) (hj : j < wm) : mm_Ev 2 268 [.ref 100, .int (nI s), .int (nI (10 + j))] (rf_mk M io sg) ((some (.int (sg 60 (4 * s + j))), rf_mk M io sg)) := by
  refine r_ev (by decide +kernel) (show (3 : Nat) ≤ mm_nL 268 by decide +kernel) ?_
  show mm_Ru 1 (13, 3, false, prog_14_method_84_code, some .int) 0 [(0, .ref 100), (1, .int (nI s)), (2, .int (nI (10 + j)))] [] (rf_mk M io sg) (fun r9 => r9 = ((some (.int (sg 60 (4 * s + j))), rf_mk M io sg)))
  refine r_iload_n rfl dc_14_84_0 ?_
  refine r_bipush (v := nI 10) (by decide) dc_14_84_1 ?_
  refine r_bipush (v := nI 9) (by decide) dc_14_84_3 ?_
  refine r_aload_n rfl dc_14_84_5 ?_
  refine q_get (v := .ref 141) rx_132 hM rfl dc_14_84_6 ?_
  refine r_iload_n rfl dc_14_84_9 ?_
  refine q_ild (e := s) (v := nI wm) (by decide) (by decide) hM rfl (show s < 16 by omega) (by omega) (hwm) dc_14_84_10 ?_
  refine r_iadd (v := nI (9 + wm)) (nI_add _ _) dc_14_84_11 ?_
  refine q_calls (as := [.int (nI (10 + j)), .int (nI 10), .int (nI (9 + wm))]) (rest := []) (v := .int (nI 1)) iv_13_s180 na_0_187 rfl (show (0 : Nat) ≤ 8 by decide) dc_14_84_12 (c_inT _ (10 + j) 10 (9 + wm) (by omega) (by omega) (by omega)) ?_
  refine r_ifeq (t := 32) (by decide) dc_14_84_15 (fun c_15 => ?_) (fun c_15 => ?_)
  · exact absurd c_15 (by decide)
  · skip
    refine r_aload_n rfl dc_14_84_18 ?_
    refine q_get (v := .ref 142) rx_135 hM rfl dc_14_84_19 ?_
    refine r_iconst (v := nI 4) (by decide) dc_14_84_22 ?_
    refine r_iload_n rfl dc_14_84_23 ?_
    refine r_imul (v := nI (4 * s)) (pk_mul _ _) dc_14_84_24 ?_
    refine r_iload_n rfl dc_14_84_25 ?_
    refine r_iadd (v := nI (4 * s + (10 + j))) (nI_add _ _) dc_14_84_26 ?_
    refine r_bipush (v := nI 10) (by decide) dc_14_84_27 ?_
    refine r_isub (v := nI (4 * s + j)) ((pk_sub (by omega)).trans (congrArg nI (by omega))) dc_14_84_29 ?_
    refine q_ild (e := 4 * s + j) (v := sg 60 (4 * s + j)) (by decide) (by decide) hM rfl (show 4 * s + j < 64 by omega) (by omega) (rfl) dc_14_84_30 ?_
    exact r_iret rfl dc_14_84_31 (rfl)
set_option maxHeartbeats 4000000 in
theorem c_lookFar_t (M : mH) (hM : 157 ≤ M.1) (io : Nat → Int32) (sg : Nat → Nat → Int32) (s j : Nat) (hs : s < 16) (wm : Nat) (hwm : sg 59 s = nI wm) (hw4 : wm ≤ 4) (hj : j < 4) : mm_Ev 2 268 [.ref 100, .int (nI s), .int (nI (20 + j))] (rf_mk M io sg) ((some (.int (sg 61 (4 * s + j))), rf_mk M io sg)) := by
  refine r_ev (by decide +kernel) (show (3 : Nat) ≤ mm_nL 268 by decide +kernel) ?_
  show mm_Ru 1 (13, 3, false, prog_14_method_84_code, some .int) 0 [(0, .ref 100), (1, .int (nI s)), (2, .int (nI (20 + j)))] [] (rf_mk M io sg) (fun r9 => r9 = ((some (.int (sg 61 (4 * s + j))), rf_mk M io sg)))
  refine r_iload_n rfl dc_14_84_0 ?_
  refine r_bipush (v := nI 10) (by decide) dc_14_84_1 ?_
  refine r_bipush (v := nI 9) (by decide) dc_14_84_3 ?_
  refine r_aload_n rfl dc_14_84_5 ?_
  refine q_get (v := .ref 141) rx_132 hM rfl dc_14_84_6 ?_
  refine r_iload_n rfl dc_14_84_9 ?_
  refine q_ild (e := s) (v := nI wm) (by decide) (by decide) hM rfl (show s < 16 by omega) (by omega) (hwm) dc_14_84_10 ?_
  refine r_iadd (v := nI (9 + wm)) (nI_add _ _) dc_14_84_11 ?_
  refine q_calls (as := [.int (nI (20 + j)), .int (nI 10), .int (nI (9 + wm))]) (rest := []) (v := .int (nI 0)) iv_13_s180 na_0_187 rfl (show (0 : Nat) ≤ 8 by decide) dc_14_84_12 (c_inF _ (20 + j) 10 (9 + wm) (by omega) (by omega) (by omega)) ?_
  refine r_ifeq (t := 32) (by decide) dc_14_84_15 (fun c_15 => ?_) (fun c_15 => ?_)
  · skip
    refine r_iload_n rfl dc_14_84_32 ?_
    refine r_bipush (v := nI 20) (by decide) dc_14_84_33 ?_
    refine r_bipush (v := nI 23) (by decide) dc_14_84_35 ?_
    refine q_calls (as := [.int (nI (20 + j)), .int (nI 20), .int (nI 23)]) (rest := []) (v := .int (nI 1)) iv_13_s180 na_0_187 rfl (show (0 : Nat) ≤ 8 by decide) dc_14_84_37 (c_inT _ (20 + j) 20 23 (by omega) (by omega) (by omega)) ?_
    refine r_ifeq (t := 59) (by decide) dc_14_84_40 (fun c_40 => ?_) (fun c_40 => ?_)
    · exact absurd c_40 (by decide)
    · skip
      refine r_aload_n rfl dc_14_84_43 ?_
      refine q_get (v := .ref 143) rx_138 hM rfl dc_14_84_44 ?_
      refine r_iconst (v := nI 4) (by decide) dc_14_84_47 ?_
      refine r_iload_n rfl dc_14_84_48 ?_
      refine r_imul (v := nI (4 * s)) (pk_mul _ _) dc_14_84_49 ?_
      refine r_iload_n rfl dc_14_84_50 ?_
      refine r_iadd (v := nI (4 * s + (20 + j))) (nI_add _ _) dc_14_84_51 ?_
      refine r_bipush (v := nI 20) (by decide) dc_14_84_52 ?_
      refine r_isub (v := nI (4 * s + j)) ((pk_sub (by omega)).trans (congrArg nI (by omega))) dc_14_84_54 ?_
      refine q_ild (e := 4 * s + j) (v := sg 61 (4 * s + j)) (by decide) (by decide) hM rfl (show 4 * s + j < 64 by omega) (by omega) (rfl) dc_14_84_55 ?_
      refine r_goto (t := 60) (by decide) dc_14_84_56 ?_
      exact r_iret rfl dc_14_84_60 (rfl)
  · exact absurd c_15 (by decide)
set_option maxHeartbeats 4000000 in
theorem c_lookFar_n (M : mH) (hM : 157 ≤ M.1) (io : Nat → Int32) (sg : Nat → Nat → Int32) (s : Nat) (hs : s < 16) (wm : Nat) (hwm : sg 59 s = nI wm) (hw4 : wm ≤ 4) (w : Int32) (hno : ¬ (nI 10 ≤ w ∧ w ≤ nI (9 + wm)) ∧ ¬ (nI 20 ≤ w ∧ w ≤ nI 23)) : mm_Ev 2 268 [.ref 100, .int (nI s), .int w] (rf_mk M io sg) ((some (.int (-1)), rf_mk M io sg)) := by
  refine r_ev (by decide +kernel) (show (3 : Nat) ≤ mm_nL 268 by decide +kernel) ?_
  show mm_Ru 1 (13, 3, false, prog_14_method_84_code, some .int) 0 [(0, .ref 100), (1, .int (nI s)), (2, .int w)] [] (rf_mk M io sg) (fun r9 => r9 = ((some (.int (-1)), rf_mk M io sg)))
  refine r_iload_n rfl dc_14_84_0 ?_
  refine r_bipush (v := nI 10) (by decide) dc_14_84_1 ?_
  refine r_bipush (v := nI 9) (by decide) dc_14_84_3 ?_
  refine r_aload_n rfl dc_14_84_5 ?_
  refine q_get (v := .ref 141) rx_132 hM rfl dc_14_84_6 ?_
  refine r_iload_n rfl dc_14_84_9 ?_
  refine q_ild (e := s) (v := nI wm) (by decide) (by decide) hM rfl (show s < 16 by omega) (by omega) (hwm) dc_14_84_10 ?_
  refine r_iadd (v := nI (9 + wm)) (nI_add _ _) dc_14_84_11 ?_
  refine q_calls (as := [.int w, .int (nI 10), .int (nI (9 + wm))]) (rest := []) (v := .int (sp_in w (nI 10) (nI (9 + wm)))) iv_13_s180 na_0_187 rfl (show (0 : Nat) ≤ 8 by decide) dc_14_84_12 (c_in _ w (nI 10) (nI (9 + wm))) ?_
  refine r_ifeq (t := 32) (by decide) dc_14_84_15 (fun c_15 => ?_) (fun c_15 => ?_)
  · skip
    refine r_iload_n rfl dc_14_84_32 ?_
    refine r_bipush (v := nI 20) (by decide) dc_14_84_33 ?_
    refine r_bipush (v := nI 23) (by decide) dc_14_84_35 ?_
    refine q_calls (as := [.int w, .int (nI 20), .int (nI 23)]) (rest := []) (v := .int (sp_in w (nI 20) (nI 23))) iv_13_s180 na_0_187 rfl (show (0 : Nat) ≤ 8 by decide) dc_14_84_37 (c_in _ w (nI 20) (nI 23)) ?_
    refine r_ifeq (t := 59) (by decide) dc_14_84_40 (fun c_40 => ?_) (fun c_40 => ?_)
    · skip
      refine r_iconst (v := -1) (by decide) dc_14_84_59 ?_
      exact r_iret rfl dc_14_84_60 (rfl)
    · skip
      exact absurd (sp_in_ne c_40) hno.2
  · skip
    exact absurd (sp_in_ne c_15) hno.1
set_option maxHeartbeats 4000000 in
theorem c_look_0 (M : mH) (hM : 157 ≤ M.1) (io : Nat → Int32) (sg : Nat → Nat → Int32) (ns : Nat) (h5 : io 5 = nI ns) (hns : ns ≤ 16) (s : Nat) (hs : s < ns) : mm_Ev 2 267 [.ref 100, .int (nI s), .int (nI 0)] (rf_mk M io sg) ((some (.int (sg 56 s)), rf_mk M io sg)) := by
  refine r_ev (by decide +kernel) (show (3 : Nat) ≤ mm_nL 267 by decide +kernel) ?_
  show mm_Ru 1 (13, 4, false, prog_14_method_83_code, some .int) 0 [(0, .ref 100), (1, .int (nI s)), (2, .int (nI 0))] [] (rf_mk M io sg) (fun r9 => r9 = ((some (.int (sg 56 s)), rf_mk M io sg)))
  refine r_aload_n rfl dc_14_83_0 ?_
  refine r_iload_n rfl dc_14_83_1 ?_
  refine q_calli (as := [.int (nI s)]) (rest := []) (v := .int (nI 1)) (M1 := rf_mk M io sg) iv_13_v323 na_1_222 o_222 hM rfl (show (0 : Nat) ≤ 8 by decide) dc_14_83_2 (c_isStudentT M hM io sg ns h5 s (by omega) (by omega)) ?_
  refine r_ifne (t := 10) (by decide) dc_14_83_5 (fun c_5 => ?_) (fun c_5 => ?_)
  · skip
    refine r_aload_n rfl dc_14_83_10 ?_
    refine q_get (v := .ref 138) rx_123 hM rfl dc_14_83_11 ?_
    refine r_iload_n rfl dc_14_83_14 ?_
    refine q_ild (e := s) (v := sg 56 s) (by decide) (by decide) hM rfl (show s < 16 by omega) (by omega) (rfl) dc_14_83_15 ?_
    refine r_iconst (v := nI 1) (by decide) dc_14_83_16 ?_
    refine r_icne (t := 24) (by decide) dc_14_83_17 (fun c_17 => ?_) (fun c_17 => ?_)
    · skip
      refine r_iconst (v := nI 0) (by decide) dc_14_83_24 ?_
      refine r_istore_n (ls' := [(3, .int (nI 0)), (0, .ref 100), (1, .int (nI s)), (2, .int (nI 0))]) (by decide) rfl dc_14_83_25 ?_
      refine r_iload_n rfl dc_14_83_26 ?_
      refine r_swIn (off := 53) (t := 80) (by decide +kernel) (by decide +kernel) (by decide +kernel) (by decide) dc_14_83_27 ?_
      refine r_aload_n rfl dc_14_83_80 ?_
      refine q_get (v := .ref 138) rx_123 hM rfl dc_14_83_81 ?_
      refine r_iload_n rfl dc_14_83_84 ?_
      refine q_ild (e := s) (v := sg 56 s) (by decide) (by decide) hM rfl (show s < 16 by omega) (by omega) (rfl) dc_14_83_85 ?_
      refine r_iret rfl dc_14_83_86 ?_
      rfl
    · skip
      refine r_iconst (v := nI 1) (by decide) dc_14_83_20 ?_
      refine r_goto (t := 25) (by decide) dc_14_83_21 ?_
      refine r_istore_n (ls' := [(3, .int (nI 1)), (0, .ref 100), (1, .int (nI s)), (2, .int (nI 0))]) (by decide) rfl dc_14_83_25 ?_
      refine r_iload_n rfl dc_14_83_26 ?_
      refine r_swIn (off := 53) (t := 80) (by decide +kernel) (by decide +kernel) (by decide +kernel) (by decide) dc_14_83_27 ?_
      refine r_aload_n rfl dc_14_83_80 ?_
      refine q_get (v := .ref 138) rx_123 hM rfl dc_14_83_81 ?_
      refine r_iload_n rfl dc_14_83_84 ?_
      refine q_ild (e := s) (v := sg 56 s) (by decide) (by decide) hM rfl (show s < 16 by omega) (by omega) (rfl) dc_14_83_85 ?_
      refine r_iret rfl dc_14_83_86 ?_
      rfl
  · exact absurd c_5 (by decide)
set_option maxHeartbeats 4000000 in
theorem c_look_1 (M : mH) (hM : 157 ≤ M.1) (io : Nat → Int32) (sg : Nat → Nat → Int32) (ns : Nat) (h5 : io 5 = nI ns) (hns : ns ≤ 16) (s : Nat) (hs : s < ns) : mm_Ev 2 267 [.ref 100, .int (nI s), .int (nI 1)] (rf_mk M io sg) ((some (.int (if sg 56 s = nI 1 then sg 57 s else -1)), rf_mk M io sg)) := by
  refine r_ev (by decide +kernel) (show (3 : Nat) ≤ mm_nL 267 by decide +kernel) ?_
  show mm_Ru 1 (13, 4, false, prog_14_method_83_code, some .int) 0 [(0, .ref 100), (1, .int (nI s)), (2, .int (nI 1))] [] (rf_mk M io sg) (fun r9 => r9 = ((some (.int (if sg 56 s = nI 1 then sg 57 s else -1)), rf_mk M io sg)))
  refine r_aload_n rfl dc_14_83_0 ?_
  refine r_iload_n rfl dc_14_83_1 ?_
  refine q_calli (as := [.int (nI s)]) (rest := []) (v := .int (nI 1)) (M1 := rf_mk M io sg) iv_13_v323 na_1_222 o_222 hM rfl (show (0 : Nat) ≤ 8 by decide) dc_14_83_2 (c_isStudentT M hM io sg ns h5 s (by omega) (by omega)) ?_
  refine r_ifne (t := 10) (by decide) dc_14_83_5 (fun c_5 => ?_) (fun c_5 => ?_)
  · skip
    refine r_aload_n rfl dc_14_83_10 ?_
    refine q_get (v := .ref 138) rx_123 hM rfl dc_14_83_11 ?_
    refine r_iload_n rfl dc_14_83_14 ?_
    refine q_ild (e := s) (v := sg 56 s) (by decide) (by decide) hM rfl (show s < 16 by omega) (by omega) (rfl) dc_14_83_15 ?_
    refine r_iconst (v := nI 1) (by decide) dc_14_83_16 ?_
    refine r_icne (t := 24) (by decide) dc_14_83_17 (fun c_17 => ?_) (fun c_17 => ?_)
    · skip
      refine r_iconst (v := nI 0) (by decide) dc_14_83_24 ?_
      refine r_istore_n (ls' := [(3, .int (nI 0)), (0, .ref 100), (1, .int (nI s)), (2, .int (nI 1))]) (by decide) rfl dc_14_83_25 ?_
      refine r_iload_n rfl dc_14_83_26 ?_
      refine r_swIn (off := 60) (t := 87) (by decide +kernel) (by decide +kernel) (by decide +kernel) (by decide) dc_14_83_27 ?_
      refine r_iload_n rfl dc_14_83_87 ?_
      refine r_ifeq (t := 100) (by decide) dc_14_83_88 (fun c_88 => ?_) (fun c_88 => ?_)
      · skip
        refine r_iconst (v := -1) (by decide) dc_14_83_100 ?_
        refine r_iret rfl dc_14_83_101 ?_
        rw [if_neg c_17]
      · exact absurd c_88 (by decide)
    · skip
      refine r_iconst (v := nI 1) (by decide) dc_14_83_20 ?_
      refine r_goto (t := 25) (by decide) dc_14_83_21 ?_
      refine r_istore_n (ls' := [(3, .int (nI 1)), (0, .ref 100), (1, .int (nI s)), (2, .int (nI 1))]) (by decide) rfl dc_14_83_25 ?_
      refine r_iload_n rfl dc_14_83_26 ?_
      refine r_swIn (off := 60) (t := 87) (by decide +kernel) (by decide +kernel) (by decide +kernel) (by decide) dc_14_83_27 ?_
      refine r_iload_n rfl dc_14_83_87 ?_
      refine r_ifeq (t := 100) (by decide) dc_14_83_88 (fun c_88 => ?_) (fun c_88 => ?_)
      · exact absurd c_88 (by decide)
      · skip
        refine r_aload_n rfl dc_14_83_91 ?_
        refine q_get (v := .ref 139) rx_126 hM rfl dc_14_83_92 ?_
        refine r_iload_n rfl dc_14_83_95 ?_
        refine q_ild (e := s) (v := sg 57 s) (by decide) (by decide) hM rfl (show s < 16 by omega) (by omega) (rfl) dc_14_83_96 ?_
        refine r_goto (t := 101) (by decide) dc_14_83_97 ?_
        refine r_iret rfl dc_14_83_101 ?_
        rw [if_pos c_17]
  · exact absurd c_5 (by decide)
set_option maxHeartbeats 4000000 in
theorem c_look_2 (M : mH) (hM : 157 ≤ M.1) (io : Nat → Int32) (sg : Nat → Nat → Int32) (ns : Nat) (h5 : io 5 = nI ns) (hns : ns ≤ 16) (s : Nat) (hs : s < ns) : mm_Ev 2 267 [.ref 100, .int (nI s), .int (nI 2)] (rf_mk M io sg) ((some (.int (if sg 56 s = nI 1 then sg 58 s else -1)), rf_mk M io sg)) := by
  refine r_ev (by decide +kernel) (show (3 : Nat) ≤ mm_nL 267 by decide +kernel) ?_
  show mm_Ru 1 (13, 4, false, prog_14_method_83_code, some .int) 0 [(0, .ref 100), (1, .int (nI s)), (2, .int (nI 2))] [] (rf_mk M io sg) (fun r9 => r9 = ((some (.int (if sg 56 s = nI 1 then sg 58 s else -1)), rf_mk M io sg)))
  refine r_aload_n rfl dc_14_83_0 ?_
  refine r_iload_n rfl dc_14_83_1 ?_
  refine q_calli (as := [.int (nI s)]) (rest := []) (v := .int (nI 1)) (M1 := rf_mk M io sg) iv_13_v323 na_1_222 o_222 hM rfl (show (0 : Nat) ≤ 8 by decide) dc_14_83_2 (c_isStudentT M hM io sg ns h5 s (by omega) (by omega)) ?_
  refine r_ifne (t := 10) (by decide) dc_14_83_5 (fun c_5 => ?_) (fun c_5 => ?_)
  · skip
    refine r_aload_n rfl dc_14_83_10 ?_
    refine q_get (v := .ref 138) rx_123 hM rfl dc_14_83_11 ?_
    refine r_iload_n rfl dc_14_83_14 ?_
    refine q_ild (e := s) (v := sg 56 s) (by decide) (by decide) hM rfl (show s < 16 by omega) (by omega) (rfl) dc_14_83_15 ?_
    refine r_iconst (v := nI 1) (by decide) dc_14_83_16 ?_
    refine r_icne (t := 24) (by decide) dc_14_83_17 (fun c_17 => ?_) (fun c_17 => ?_)
    · skip
      refine r_iconst (v := nI 0) (by decide) dc_14_83_24 ?_
      refine r_istore_n (ls' := [(3, .int (nI 0)), (0, .ref 100), (1, .int (nI s)), (2, .int (nI 2))]) (by decide) rfl dc_14_83_25 ?_
      refine r_iload_n rfl dc_14_83_26 ?_
      refine r_swIn (off := 75) (t := 102) (by decide +kernel) (by decide +kernel) (by decide +kernel) (by decide) dc_14_83_27 ?_
      refine r_iload_n rfl dc_14_83_102 ?_
      refine r_ifeq (t := 115) (by decide) dc_14_83_103 (fun c_103 => ?_) (fun c_103 => ?_)
      · skip
        refine r_iconst (v := -1) (by decide) dc_14_83_115 ?_
        refine r_iret rfl dc_14_83_116 ?_
        rw [if_neg c_17]
      · exact absurd c_103 (by decide)
    · skip
      refine r_iconst (v := nI 1) (by decide) dc_14_83_20 ?_
      refine r_goto (t := 25) (by decide) dc_14_83_21 ?_
      refine r_istore_n (ls' := [(3, .int (nI 1)), (0, .ref 100), (1, .int (nI s)), (2, .int (nI 2))]) (by decide) rfl dc_14_83_25 ?_
      refine r_iload_n rfl dc_14_83_26 ?_
      refine r_swIn (off := 75) (t := 102) (by decide +kernel) (by decide +kernel) (by decide +kernel) (by decide) dc_14_83_27 ?_
      refine r_iload_n rfl dc_14_83_102 ?_
      refine r_ifeq (t := 115) (by decide) dc_14_83_103 (fun c_103 => ?_) (fun c_103 => ?_)
      · exact absurd c_103 (by decide)
      · skip
        refine r_aload_n rfl dc_14_83_106 ?_
        refine q_get (v := .ref 140) rx_129 hM rfl dc_14_83_107 ?_
        refine r_iload_n rfl dc_14_83_110 ?_
        refine q_ild (e := s) (v := sg 58 s) (by decide) (by decide) hM rfl (show s < 16 by omega) (by omega) (rfl) dc_14_83_111 ?_
        refine r_goto (t := 116) (by decide) dc_14_83_112 ?_
        refine r_iret rfl dc_14_83_116 ?_
        rw [if_pos c_17]
  · exact absurd c_5 (by decide)
set_option maxHeartbeats 4000000 in
theorem c_look_3 (M : mH) (hM : 157 ≤ M.1) (io : Nat → Int32) (sg : Nat → Nat → Int32) (ns : Nat) (h5 : io 5 = nI ns) (hns : ns ≤ 16) (s : Nat) (hs : s < ns) (wm : Nat) (hwm : sg 59 s = nI wm) (hw4 : wm ≤ 4) : mm_Ev 2 267 [.ref 100, .int (nI s), .int (nI 3)] (rf_mk M io sg) ((some (.int (if sg 56 s = nI 1 then sp_at (fun j => sg 60 (4 * s + j)) (sg 57 s) wm else -1)), rf_mk M io sg)) := by
  refine r_ev (by decide +kernel) (show (3 : Nat) ≤ mm_nL 267 by decide +kernel) ?_
  show mm_Ru 1 (13, 4, false, prog_14_method_83_code, some .int) 0 [(0, .ref 100), (1, .int (nI s)), (2, .int (nI 3))] [] (rf_mk M io sg) (fun r9 => r9 = ((some (.int (if sg 56 s = nI 1 then sp_at (fun j => sg 60 (4 * s + j)) (sg 57 s) wm else -1)), rf_mk M io sg)))
  refine r_aload_n rfl dc_14_83_0 ?_
  refine r_iload_n rfl dc_14_83_1 ?_
  refine q_calli (as := [.int (nI s)]) (rest := []) (v := .int (nI 1)) (M1 := rf_mk M io sg) iv_13_v323 na_1_222 o_222 hM rfl (show (0 : Nat) ≤ 8 by decide) dc_14_83_2 (c_isStudentT M hM io sg ns h5 s (by omega) (by omega)) ?_
  refine r_ifne (t := 10) (by decide) dc_14_83_5 (fun c_5 => ?_) (fun c_5 => ?_)
  · skip
    refine r_aload_n rfl dc_14_83_10 ?_
    refine q_get (v := .ref 138) rx_123 hM rfl dc_14_83_11 ?_
    refine r_iload_n rfl dc_14_83_14 ?_
    refine q_ild (e := s) (v := sg 56 s) (by decide) (by decide) hM rfl (show s < 16 by omega) (by omega) (rfl) dc_14_83_15 ?_
    refine r_iconst (v := nI 1) (by decide) dc_14_83_16 ?_
    refine r_icne (t := 24) (by decide) dc_14_83_17 (fun c_17 => ?_) (fun c_17 => ?_)
    · skip
      refine r_iconst (v := nI 0) (by decide) dc_14_83_24 ?_
      refine r_istore_n (ls' := [(3, .int (nI 0)), (0, .ref 100), (1, .int (nI s)), (2, .int (nI 3))]) (by decide) rfl dc_14_83_25 ?_
      refine r_iload_n rfl dc_14_83_26 ?_
      refine r_swIn (off := 90) (t := 117) (by decide +kernel) (by decide +kernel) (by decide +kernel) (by decide) dc_14_83_27 ?_
      refine r_iload_n rfl dc_14_83_117 ?_
      refine r_ifeq (t := 135) (by decide) dc_14_83_118 (fun c_118 => ?_) (fun c_118 => ?_)
      · skip
        refine r_iconst (v := -1) (by decide) dc_14_83_135 ?_
        refine r_iret rfl dc_14_83_136 ?_
        rw [if_neg c_17]
      · exact absurd c_118 (by decide)
    · skip
      refine r_iconst (v := nI 1) (by decide) dc_14_83_20 ?_
      refine r_goto (t := 25) (by decide) dc_14_83_21 ?_
      refine r_istore_n (ls' := [(3, .int (nI 1)), (0, .ref 100), (1, .int (nI s)), (2, .int (nI 3))]) (by decide) rfl dc_14_83_25 ?_
      refine r_iload_n rfl dc_14_83_26 ?_
      refine r_swIn (off := 90) (t := 117) (by decide +kernel) (by decide +kernel) (by decide +kernel) (by decide) dc_14_83_27 ?_
      refine r_iload_n rfl dc_14_83_117 ?_
      refine r_ifeq (t := 135) (by decide) dc_14_83_118 (fun c_118 => ?_) (fun c_118 => ?_)
      · exact absurd c_118 (by decide)
      · skip
        refine r_aload_n rfl dc_14_83_121 ?_
        refine r_iload_n rfl dc_14_83_122 ?_
        refine r_aload_n rfl dc_14_83_123 ?_
        refine q_get (v := .ref 139) rx_126 hM rfl dc_14_83_124 ?_
        refine r_iload_n rfl dc_14_83_127 ?_
        refine q_ild (e := s) (v := sg 57 s) (by decide) (by decide) hM rfl (show s < 16 by omega) (by omega) (rfl) dc_14_83_128 ?_
        refine q_calli (as := [.int (nI s), .int (sg 57 s)]) (rest := []) (v := .int (sp_at (fun j => sg 60 (4 * s + j)) (sg 57 s) wm)) (M1 := rf_mk M io sg) iv_13_v326 na_1_224 o_224 hM rfl (show (0 : Nat) ≤ 8 by decide) dc_14_83_129 (c_wishAt M hM io sg s (sg 57 s) (by omega) wm hwm hw4) ?_
        refine r_goto (t := 136) (by decide) dc_14_83_132 ?_
        refine r_iret rfl dc_14_83_136 ?_
        rw [if_pos c_17]
  · exact absurd c_5 (by decide)
set_option maxHeartbeats 4000000 in
theorem c_look_4 (M : mH) (hM : 157 ≤ M.1) (io : Nat → Int32) (sg : Nat → Nat → Int32) (ns : Nat) (h5 : io 5 = nI ns) (hns : ns ≤ 16) (s : Nat) (hs : s < ns) : mm_Ev 2 267 [.ref 100, .int (nI s), .int (nI 4)] (rf_mk M io sg) ((some (.int (sg 51 s)), rf_mk M io sg)) := by
  refine r_ev (by decide +kernel) (show (3 : Nat) ≤ mm_nL 267 by decide +kernel) ?_
  show mm_Ru 1 (13, 4, false, prog_14_method_83_code, some .int) 0 [(0, .ref 100), (1, .int (nI s)), (2, .int (nI 4))] [] (rf_mk M io sg) (fun r9 => r9 = ((some (.int (sg 51 s)), rf_mk M io sg)))
  refine r_aload_n rfl dc_14_83_0 ?_
  refine r_iload_n rfl dc_14_83_1 ?_
  refine q_calli (as := [.int (nI s)]) (rest := []) (v := .int (nI 1)) (M1 := rf_mk M io sg) iv_13_v323 na_1_222 o_222 hM rfl (show (0 : Nat) ≤ 8 by decide) dc_14_83_2 (c_isStudentT M hM io sg ns h5 s (by omega) (by omega)) ?_
  refine r_ifne (t := 10) (by decide) dc_14_83_5 (fun c_5 => ?_) (fun c_5 => ?_)
  · skip
    refine r_aload_n rfl dc_14_83_10 ?_
    refine q_get (v := .ref 138) rx_123 hM rfl dc_14_83_11 ?_
    refine r_iload_n rfl dc_14_83_14 ?_
    refine q_ild (e := s) (v := sg 56 s) (by decide) (by decide) hM rfl (show s < 16 by omega) (by omega) (rfl) dc_14_83_15 ?_
    refine r_iconst (v := nI 1) (by decide) dc_14_83_16 ?_
    refine r_icne (t := 24) (by decide) dc_14_83_17 (fun c_17 => ?_) (fun c_17 => ?_)
    · skip
      refine r_iconst (v := nI 0) (by decide) dc_14_83_24 ?_
      refine r_istore_n (ls' := [(3, .int (nI 0)), (0, .ref 100), (1, .int (nI s)), (2, .int (nI 4))]) (by decide) rfl dc_14_83_25 ?_
      refine r_iload_n rfl dc_14_83_26 ?_
      refine r_swIn (off := 110) (t := 137) (by decide +kernel) (by decide +kernel) (by decide +kernel) (by decide) dc_14_83_27 ?_
      refine r_aload_n rfl dc_14_83_137 ?_
      refine q_get (v := .ref 133) rx_108 hM rfl dc_14_83_138 ?_
      refine r_iload_n rfl dc_14_83_141 ?_
      refine q_ild (e := s) (v := sg 51 s) (by decide) (by decide) hM rfl (show s < 16 by omega) (by omega) (rfl) dc_14_83_142 ?_
      refine r_iret rfl dc_14_83_143 ?_
      rfl
    · skip
      refine r_iconst (v := nI 1) (by decide) dc_14_83_20 ?_
      refine r_goto (t := 25) (by decide) dc_14_83_21 ?_
      refine r_istore_n (ls' := [(3, .int (nI 1)), (0, .ref 100), (1, .int (nI s)), (2, .int (nI 4))]) (by decide) rfl dc_14_83_25 ?_
      refine r_iload_n rfl dc_14_83_26 ?_
      refine r_swIn (off := 110) (t := 137) (by decide +kernel) (by decide +kernel) (by decide +kernel) (by decide) dc_14_83_27 ?_
      refine r_aload_n rfl dc_14_83_137 ?_
      refine q_get (v := .ref 133) rx_108 hM rfl dc_14_83_138 ?_
      refine r_iload_n rfl dc_14_83_141 ?_
      refine q_ild (e := s) (v := sg 51 s) (by decide) (by decide) hM rfl (show s < 16 by omega) (by omega) (rfl) dc_14_83_142 ?_
      refine r_iret rfl dc_14_83_143 ?_
      rfl
  · exact absurd c_5 (by decide)
set_option maxHeartbeats 4000000 in
theorem c_look_5 (M : mH) (hM : 157 ≤ M.1) (io : Nat → Int32) (sg : Nat → Nat → Int32) (ns : Nat) (h5 : io 5 = nI ns) (hns : ns ≤ 16) (s : Nat) (hs : s < ns) : mm_Ev 2 267 [.ref 100, .int (nI s), .int (nI 5)] (rf_mk M io sg) ((some (.int (sg 52 s)), rf_mk M io sg)) := by
  refine r_ev (by decide +kernel) (show (3 : Nat) ≤ mm_nL 267 by decide +kernel) ?_
  show mm_Ru 1 (13, 4, false, prog_14_method_83_code, some .int) 0 [(0, .ref 100), (1, .int (nI s)), (2, .int (nI 5))] [] (rf_mk M io sg) (fun r9 => r9 = ((some (.int (sg 52 s)), rf_mk M io sg)))
  refine r_aload_n rfl dc_14_83_0 ?_
  refine r_iload_n rfl dc_14_83_1 ?_
  refine q_calli (as := [.int (nI s)]) (rest := []) (v := .int (nI 1)) (M1 := rf_mk M io sg) iv_13_v323 na_1_222 o_222 hM rfl (show (0 : Nat) ≤ 8 by decide) dc_14_83_2 (c_isStudentT M hM io sg ns h5 s (by omega) (by omega)) ?_
  refine r_ifne (t := 10) (by decide) dc_14_83_5 (fun c_5 => ?_) (fun c_5 => ?_)
  · skip
    refine r_aload_n rfl dc_14_83_10 ?_
    refine q_get (v := .ref 138) rx_123 hM rfl dc_14_83_11 ?_
    refine r_iload_n rfl dc_14_83_14 ?_
    refine q_ild (e := s) (v := sg 56 s) (by decide) (by decide) hM rfl (show s < 16 by omega) (by omega) (rfl) dc_14_83_15 ?_
    refine r_iconst (v := nI 1) (by decide) dc_14_83_16 ?_
    refine r_icne (t := 24) (by decide) dc_14_83_17 (fun c_17 => ?_) (fun c_17 => ?_)
    · skip
      refine r_iconst (v := nI 0) (by decide) dc_14_83_24 ?_
      refine r_istore_n (ls' := [(3, .int (nI 0)), (0, .ref 100), (1, .int (nI s)), (2, .int (nI 5))]) (by decide) rfl dc_14_83_25 ?_
      refine r_iload_n rfl dc_14_83_26 ?_
      refine r_swIn (off := 117) (t := 144) (by decide +kernel) (by decide +kernel) (by decide +kernel) (by decide) dc_14_83_27 ?_
      refine r_aload_n rfl dc_14_83_144 ?_
      refine q_get (v := .ref 134) rx_111 hM rfl dc_14_83_145 ?_
      refine r_iload_n rfl dc_14_83_148 ?_
      refine q_ild (e := s) (v := sg 52 s) (by decide) (by decide) hM rfl (show s < 16 by omega) (by omega) (rfl) dc_14_83_149 ?_
      refine r_iret rfl dc_14_83_150 ?_
      rfl
    · skip
      refine r_iconst (v := nI 1) (by decide) dc_14_83_20 ?_
      refine r_goto (t := 25) (by decide) dc_14_83_21 ?_
      refine r_istore_n (ls' := [(3, .int (nI 1)), (0, .ref 100), (1, .int (nI s)), (2, .int (nI 5))]) (by decide) rfl dc_14_83_25 ?_
      refine r_iload_n rfl dc_14_83_26 ?_
      refine r_swIn (off := 117) (t := 144) (by decide +kernel) (by decide +kernel) (by decide +kernel) (by decide) dc_14_83_27 ?_
      refine r_aload_n rfl dc_14_83_144 ?_
      refine q_get (v := .ref 134) rx_111 hM rfl dc_14_83_145 ?_
      refine r_iload_n rfl dc_14_83_148 ?_
      refine q_ild (e := s) (v := sg 52 s) (by decide) (by decide) hM rfl (show s < 16 by omega) (by omega) (rfl) dc_14_83_149 ?_
      refine r_iret rfl dc_14_83_150 ?_
      rfl
  · exact absurd c_5 (by decide)
set_option maxHeartbeats 4000000 in
theorem c_look_6 (M : mH) (hM : 157 ≤ M.1) (io : Nat → Int32) (sg : Nat → Nat → Int32) (ns : Nat) (h5 : io 5 = nI ns) (hns : ns ≤ 16) (s : Nat) (hs : s < ns) : mm_Ev 2 267 [.ref 100, .int (nI s), .int (nI 6)] (rf_mk M io sg) ((some (.int (sg 53 s)), rf_mk M io sg)) := by
  refine r_ev (by decide +kernel) (show (3 : Nat) ≤ mm_nL 267 by decide +kernel) ?_
  show mm_Ru 1 (13, 4, false, prog_14_method_83_code, some .int) 0 [(0, .ref 100), (1, .int (nI s)), (2, .int (nI 6))] [] (rf_mk M io sg) (fun r9 => r9 = ((some (.int (sg 53 s)), rf_mk M io sg)))
  refine r_aload_n rfl dc_14_83_0 ?_
  refine r_iload_n rfl dc_14_83_1 ?_
  refine q_calli (as := [.int (nI s)]) (rest := []) (v := .int (nI 1)) (M1 := rf_mk M io sg) iv_13_v323 na_1_222 o_222 hM rfl (show (0 : Nat) ≤ 8 by decide) dc_14_83_2 (c_isStudentT M hM io sg ns h5 s (by omega) (by omega)) ?_
  refine r_ifne (t := 10) (by decide) dc_14_83_5 (fun c_5 => ?_) (fun c_5 => ?_)
  · skip
    refine r_aload_n rfl dc_14_83_10 ?_
    refine q_get (v := .ref 138) rx_123 hM rfl dc_14_83_11 ?_
    refine r_iload_n rfl dc_14_83_14 ?_
    refine q_ild (e := s) (v := sg 56 s) (by decide) (by decide) hM rfl (show s < 16 by omega) (by omega) (rfl) dc_14_83_15 ?_
    refine r_iconst (v := nI 1) (by decide) dc_14_83_16 ?_
    refine r_icne (t := 24) (by decide) dc_14_83_17 (fun c_17 => ?_) (fun c_17 => ?_)
    · skip
      refine r_iconst (v := nI 0) (by decide) dc_14_83_24 ?_
      refine r_istore_n (ls' := [(3, .int (nI 0)), (0, .ref 100), (1, .int (nI s)), (2, .int (nI 6))]) (by decide) rfl dc_14_83_25 ?_
      refine r_iload_n rfl dc_14_83_26 ?_
      refine r_swIn (off := 124) (t := 151) (by decide +kernel) (by decide +kernel) (by decide +kernel) (by decide) dc_14_83_27 ?_
      refine r_aload_n rfl dc_14_83_151 ?_
      refine q_get (v := .ref 135) rx_114 hM rfl dc_14_83_152 ?_
      refine r_iload_n rfl dc_14_83_155 ?_
      refine q_ild (e := s) (v := sg 53 s) (by decide) (by decide) hM rfl (show s < 16 by omega) (by omega) (rfl) dc_14_83_156 ?_
      refine r_iret rfl dc_14_83_157 ?_
      rfl
    · skip
      refine r_iconst (v := nI 1) (by decide) dc_14_83_20 ?_
      refine r_goto (t := 25) (by decide) dc_14_83_21 ?_
      refine r_istore_n (ls' := [(3, .int (nI 1)), (0, .ref 100), (1, .int (nI s)), (2, .int (nI 6))]) (by decide) rfl dc_14_83_25 ?_
      refine r_iload_n rfl dc_14_83_26 ?_
      refine r_swIn (off := 124) (t := 151) (by decide +kernel) (by decide +kernel) (by decide +kernel) (by decide) dc_14_83_27 ?_
      refine r_aload_n rfl dc_14_83_151 ?_
      refine q_get (v := .ref 135) rx_114 hM rfl dc_14_83_152 ?_
      refine r_iload_n rfl dc_14_83_155 ?_
      refine q_ild (e := s) (v := sg 53 s) (by decide) (by decide) hM rfl (show s < 16 by omega) (by omega) (rfl) dc_14_83_156 ?_
      refine r_iret rfl dc_14_83_157 ?_
      rfl
  · exact absurd c_5 (by decide)
set_option maxHeartbeats 4000000 in
theorem c_look_7 (M : mH) (hM : 157 ≤ M.1) (io : Nat → Int32) (sg : Nat → Nat → Int32) (ns : Nat) (h5 : io 5 = nI ns) (hns : ns ≤ 16) (s : Nat) (hs : s < ns) : mm_Ev 2 267 [.ref 100, .int (nI s), .int (nI 7)] (rf_mk M io sg) ((some (.int (sg 54 s)), rf_mk M io sg)) := by
  refine r_ev (by decide +kernel) (show (3 : Nat) ≤ mm_nL 267 by decide +kernel) ?_
  show mm_Ru 1 (13, 4, false, prog_14_method_83_code, some .int) 0 [(0, .ref 100), (1, .int (nI s)), (2, .int (nI 7))] [] (rf_mk M io sg) (fun r9 => r9 = ((some (.int (sg 54 s)), rf_mk M io sg)))
  refine r_aload_n rfl dc_14_83_0 ?_
  refine r_iload_n rfl dc_14_83_1 ?_
  refine q_calli (as := [.int (nI s)]) (rest := []) (v := .int (nI 1)) (M1 := rf_mk M io sg) iv_13_v323 na_1_222 o_222 hM rfl (show (0 : Nat) ≤ 8 by decide) dc_14_83_2 (c_isStudentT M hM io sg ns h5 s (by omega) (by omega)) ?_
  refine r_ifne (t := 10) (by decide) dc_14_83_5 (fun c_5 => ?_) (fun c_5 => ?_)
  · skip
    refine r_aload_n rfl dc_14_83_10 ?_
    refine q_get (v := .ref 138) rx_123 hM rfl dc_14_83_11 ?_
    refine r_iload_n rfl dc_14_83_14 ?_
    refine q_ild (e := s) (v := sg 56 s) (by decide) (by decide) hM rfl (show s < 16 by omega) (by omega) (rfl) dc_14_83_15 ?_
    refine r_iconst (v := nI 1) (by decide) dc_14_83_16 ?_
    refine r_icne (t := 24) (by decide) dc_14_83_17 (fun c_17 => ?_) (fun c_17 => ?_)
    · skip
      refine r_iconst (v := nI 0) (by decide) dc_14_83_24 ?_
      refine r_istore_n (ls' := [(3, .int (nI 0)), (0, .ref 100), (1, .int (nI s)), (2, .int (nI 7))]) (by decide) rfl dc_14_83_25 ?_
      refine r_iload_n rfl dc_14_83_26 ?_
      refine r_swIn (off := 131) (t := 158) (by decide +kernel) (by decide +kernel) (by decide +kernel) (by decide) dc_14_83_27 ?_
      refine r_aload_n rfl dc_14_83_158 ?_
      refine q_get (v := .ref 136) rx_117 hM rfl dc_14_83_159 ?_
      refine r_iload_n rfl dc_14_83_162 ?_
      refine q_ild (e := s) (v := sg 54 s) (by decide) (by decide) hM rfl (show s < 16 by omega) (by omega) (rfl) dc_14_83_163 ?_
      refine r_iret rfl dc_14_83_164 ?_
      rfl
    · skip
      refine r_iconst (v := nI 1) (by decide) dc_14_83_20 ?_
      refine r_goto (t := 25) (by decide) dc_14_83_21 ?_
      refine r_istore_n (ls' := [(3, .int (nI 1)), (0, .ref 100), (1, .int (nI s)), (2, .int (nI 7))]) (by decide) rfl dc_14_83_25 ?_
      refine r_iload_n rfl dc_14_83_26 ?_
      refine r_swIn (off := 131) (t := 158) (by decide +kernel) (by decide +kernel) (by decide +kernel) (by decide) dc_14_83_27 ?_
      refine r_aload_n rfl dc_14_83_158 ?_
      refine q_get (v := .ref 136) rx_117 hM rfl dc_14_83_159 ?_
      refine r_iload_n rfl dc_14_83_162 ?_
      refine q_ild (e := s) (v := sg 54 s) (by decide) (by decide) hM rfl (show s < 16 by omega) (by omega) (rfl) dc_14_83_163 ?_
      refine r_iret rfl dc_14_83_164 ?_
      rfl
  · exact absurd c_5 (by decide)
set_option maxHeartbeats 4000000 in
theorem c_look_8 (M : mH) (hM : 157 ≤ M.1) (io : Nat → Int32) (sg : Nat → Nat → Int32) (ns : Nat) (h5 : io 5 = nI ns) (hns : ns ≤ 16) (s : Nat) (hs : s < ns) : mm_Ev 2 267 [.ref 100, .int (nI s), .int (nI 8)] (rf_mk M io sg) ((some (.int (sg 55 s)), rf_mk M io sg)) := by
  refine r_ev (by decide +kernel) (show (3 : Nat) ≤ mm_nL 267 by decide +kernel) ?_
  show mm_Ru 1 (13, 4, false, prog_14_method_83_code, some .int) 0 [(0, .ref 100), (1, .int (nI s)), (2, .int (nI 8))] [] (rf_mk M io sg) (fun r9 => r9 = ((some (.int (sg 55 s)), rf_mk M io sg)))
  refine r_aload_n rfl dc_14_83_0 ?_
  refine r_iload_n rfl dc_14_83_1 ?_
  refine q_calli (as := [.int (nI s)]) (rest := []) (v := .int (nI 1)) (M1 := rf_mk M io sg) iv_13_v323 na_1_222 o_222 hM rfl (show (0 : Nat) ≤ 8 by decide) dc_14_83_2 (c_isStudentT M hM io sg ns h5 s (by omega) (by omega)) ?_
  refine r_ifne (t := 10) (by decide) dc_14_83_5 (fun c_5 => ?_) (fun c_5 => ?_)
  · skip
    refine r_aload_n rfl dc_14_83_10 ?_
    refine q_get (v := .ref 138) rx_123 hM rfl dc_14_83_11 ?_
    refine r_iload_n rfl dc_14_83_14 ?_
    refine q_ild (e := s) (v := sg 56 s) (by decide) (by decide) hM rfl (show s < 16 by omega) (by omega) (rfl) dc_14_83_15 ?_
    refine r_iconst (v := nI 1) (by decide) dc_14_83_16 ?_
    refine r_icne (t := 24) (by decide) dc_14_83_17 (fun c_17 => ?_) (fun c_17 => ?_)
    · skip
      refine r_iconst (v := nI 0) (by decide) dc_14_83_24 ?_
      refine r_istore_n (ls' := [(3, .int (nI 0)), (0, .ref 100), (1, .int (nI s)), (2, .int (nI 8))]) (by decide) rfl dc_14_83_25 ?_
      refine r_iload_n rfl dc_14_83_26 ?_
      refine r_swIn (off := 138) (t := 165) (by decide +kernel) (by decide +kernel) (by decide +kernel) (by decide) dc_14_83_27 ?_
      refine r_aload_n rfl dc_14_83_165 ?_
      refine q_get (v := .ref 137) rx_120 hM rfl dc_14_83_166 ?_
      refine r_iload_n rfl dc_14_83_169 ?_
      refine q_ild (e := s) (v := sg 55 s) (by decide) (by decide) hM rfl (show s < 16 by omega) (by omega) (rfl) dc_14_83_170 ?_
      refine r_iret rfl dc_14_83_171 ?_
      rfl
    · skip
      refine r_iconst (v := nI 1) (by decide) dc_14_83_20 ?_
      refine r_goto (t := 25) (by decide) dc_14_83_21 ?_
      refine r_istore_n (ls' := [(3, .int (nI 1)), (0, .ref 100), (1, .int (nI s)), (2, .int (nI 8))]) (by decide) rfl dc_14_83_25 ?_
      refine r_iload_n rfl dc_14_83_26 ?_
      refine r_swIn (off := 138) (t := 165) (by decide +kernel) (by decide +kernel) (by decide +kernel) (by decide) dc_14_83_27 ?_
      refine r_aload_n rfl dc_14_83_165 ?_
      refine q_get (v := .ref 137) rx_120 hM rfl dc_14_83_166 ?_
      refine r_iload_n rfl dc_14_83_169 ?_
      refine q_ild (e := s) (v := sg 55 s) (by decide) (by decide) hM rfl (show s < 16 by omega) (by omega) (rfl) dc_14_83_170 ?_
      refine r_iret rfl dc_14_83_171 ?_
      rfl
  · exact absurd c_5 (by decide)
set_option maxHeartbeats 4000000 in
theorem c_look_9 (M : mH) (hM : 157 ≤ M.1) (io : Nat → Int32) (sg : Nat → Nat → Int32) (ns : Nat) (h5 : io 5 = nI ns) (hns : ns ≤ 16) (s : Nat) (hs : s < ns) : mm_Ev 2 267 [.ref 100, .int (nI s), .int (nI 9)] (rf_mk M io sg) ((some (.int (sg 59 s)), rf_mk M io sg)) := by
  refine r_ev (by decide +kernel) (show (3 : Nat) ≤ mm_nL 267 by decide +kernel) ?_
  show mm_Ru 1 (13, 4, false, prog_14_method_83_code, some .int) 0 [(0, .ref 100), (1, .int (nI s)), (2, .int (nI 9))] [] (rf_mk M io sg) (fun r9 => r9 = ((some (.int (sg 59 s)), rf_mk M io sg)))
  refine r_aload_n rfl dc_14_83_0 ?_
  refine r_iload_n rfl dc_14_83_1 ?_
  refine q_calli (as := [.int (nI s)]) (rest := []) (v := .int (nI 1)) (M1 := rf_mk M io sg) iv_13_v323 na_1_222 o_222 hM rfl (show (0 : Nat) ≤ 8 by decide) dc_14_83_2 (c_isStudentT M hM io sg ns h5 s (by omega) (by omega)) ?_
  refine r_ifne (t := 10) (by decide) dc_14_83_5 (fun c_5 => ?_) (fun c_5 => ?_)
  · skip
    refine r_aload_n rfl dc_14_83_10 ?_
    refine q_get (v := .ref 138) rx_123 hM rfl dc_14_83_11 ?_
    refine r_iload_n rfl dc_14_83_14 ?_
    refine q_ild (e := s) (v := sg 56 s) (by decide) (by decide) hM rfl (show s < 16 by omega) (by omega) (rfl) dc_14_83_15 ?_
    refine r_iconst (v := nI 1) (by decide) dc_14_83_16 ?_
    refine r_icne (t := 24) (by decide) dc_14_83_17 (fun c_17 => ?_) (fun c_17 => ?_)
    · skip
      refine r_iconst (v := nI 0) (by decide) dc_14_83_24 ?_
      refine r_istore_n (ls' := [(3, .int (nI 0)), (0, .ref 100), (1, .int (nI s)), (2, .int (nI 9))]) (by decide) rfl dc_14_83_25 ?_
      refine r_iload_n rfl dc_14_83_26 ?_
      refine r_swIn (off := 145) (t := 172) (by decide +kernel) (by decide +kernel) (by decide +kernel) (by decide) dc_14_83_27 ?_
      refine r_aload_n rfl dc_14_83_172 ?_
      refine q_get (v := .ref 141) rx_132 hM rfl dc_14_83_173 ?_
      refine r_iload_n rfl dc_14_83_176 ?_
      refine q_ild (e := s) (v := sg 59 s) (by decide) (by decide) hM rfl (show s < 16 by omega) (by omega) (rfl) dc_14_83_177 ?_
      refine r_iret rfl dc_14_83_178 ?_
      rfl
    · skip
      refine r_iconst (v := nI 1) (by decide) dc_14_83_20 ?_
      refine r_goto (t := 25) (by decide) dc_14_83_21 ?_
      refine r_istore_n (ls' := [(3, .int (nI 1)), (0, .ref 100), (1, .int (nI s)), (2, .int (nI 9))]) (by decide) rfl dc_14_83_25 ?_
      refine r_iload_n rfl dc_14_83_26 ?_
      refine r_swIn (off := 145) (t := 172) (by decide +kernel) (by decide +kernel) (by decide +kernel) (by decide) dc_14_83_27 ?_
      refine r_aload_n rfl dc_14_83_172 ?_
      refine q_get (v := .ref 141) rx_132 hM rfl dc_14_83_173 ?_
      refine r_iload_n rfl dc_14_83_176 ?_
      refine q_ild (e := s) (v := sg 59 s) (by decide) (by decide) hM rfl (show s < 16 by omega) (by omega) (rfl) dc_14_83_177 ?_
      refine r_iret rfl dc_14_83_178 ?_
      rfl
  · exact absurd c_5 (by decide)
set_option maxHeartbeats 4000000 in
theorem c_look_w (M : mH) (hM : 157 ≤ M.1) (io : Nat → Int32) (sg : Nat → Nat → Int32) (ns : Nat) (h5 : io 5 = nI ns) (hns : ns ≤ 16) (s : Nat) (hs : s < ns) (wm : Nat) (hwm : sg 59 s = nI wm) (hw4 : wm ≤ 4) (j : Nat) (hj : j < wm) : mm_Ev 3 267 [.ref 100, .int (nI s), .int (nI (10 + j))] (rf_mk M io sg) ((some (.int (sg 60 (4 * s + j))), rf_mk M io sg)) := by
  refine r_ev (by decide +kernel) (show (3 : Nat) ≤ mm_nL 267 by decide +kernel) ?_
  show mm_Ru 2 (13, 4, false, prog_14_method_83_code, some .int) 0 [(0, .ref 100), (1, .int (nI s)), (2, .int (nI (10 + j)))] [] (rf_mk M io sg) (fun r9 => r9 = ((some (.int (sg 60 (4 * s + j))), rf_mk M io sg)))
  refine r_aload_n rfl dc_14_83_0 ?_
  refine r_iload_n rfl dc_14_83_1 ?_
  refine q_calli (as := [.int (nI s)]) (rest := []) (v := .int (nI 1)) (M1 := rf_mk M io sg) iv_13_v323 na_1_222 o_222 hM rfl (show (0 : Nat) ≤ 8 by decide) dc_14_83_2 (mm_Ev_up (by decide : 1 ≤ 2) (c_isStudentT M hM io sg ns h5 s (by omega) (by omega))) ?_
  refine r_ifne (t := 10) (by decide) dc_14_83_5 (fun c_5 => ?_) (fun c_5 => ?_)
  · skip
    refine r_aload_n rfl dc_14_83_10 ?_
    refine q_get (v := .ref 138) rx_123 hM rfl dc_14_83_11 ?_
    refine r_iload_n rfl dc_14_83_14 ?_
    refine q_ild (e := s) (v := sg 56 s) (by decide) (by decide) hM rfl (show s < 16 by omega) (by omega) (rfl) dc_14_83_15 ?_
    refine r_iconst (v := nI 1) (by decide) dc_14_83_16 ?_
    refine r_icne (t := 24) (by decide) dc_14_83_17 (fun c_17 => ?_) (fun c_17 => ?_)
    · skip
      refine r_iconst (v := nI 0) (by decide) dc_14_83_24 ?_
      refine r_istore_n (ls' := [(3, .int (nI 0)), (0, .ref 100), (1, .int (nI s)), (2, .int (nI (10 + j)))]) (by decide) rfl dc_14_83_25 ?_
      refine r_iload_n rfl dc_14_83_26 ?_
      refine r_swOut (t := 179) (nI_out (lo := 0) (hi := 9) (by omega) (by omega)) (by decide) dc_14_83_27 ?_
      refine r_aload_n rfl dc_14_83_179 ?_
      refine r_iload_n rfl dc_14_83_180 ?_
      refine r_iload_n rfl dc_14_83_181 ?_
      refine q_calli (as := [.int (nI s), .int (nI (10 + j))]) (rest := []) (v := .int (sg 60 (4 * s + j))) (M1 := rf_mk M io sg) iv_13_v437 na_1_268 o_268 hM rfl (show (0 : Nat) ≤ 8 by decide) dc_14_83_182 (c_lookFar_w M hM io sg s j (by omega) wm hwm hw4 hj) ?_
      exact r_iret rfl dc_14_83_185 (rfl)
    · skip
      refine r_iconst (v := nI 1) (by decide) dc_14_83_20 ?_
      refine r_goto (t := 25) (by decide) dc_14_83_21 ?_
      refine r_istore_n (ls' := [(3, .int (nI 1)), (0, .ref 100), (1, .int (nI s)), (2, .int (nI (10 + j)))]) (by decide) rfl dc_14_83_25 ?_
      refine r_iload_n rfl dc_14_83_26 ?_
      refine r_swOut (t := 179) (nI_out (lo := 0) (hi := 9) (by omega) (by omega)) (by decide) dc_14_83_27 ?_
      refine r_aload_n rfl dc_14_83_179 ?_
      refine r_iload_n rfl dc_14_83_180 ?_
      refine r_iload_n rfl dc_14_83_181 ?_
      refine q_calli (as := [.int (nI s), .int (nI (10 + j))]) (rest := []) (v := .int (sg 60 (4 * s + j))) (M1 := rf_mk M io sg) iv_13_v437 na_1_268 o_268 hM rfl (show (0 : Nat) ≤ 8 by decide) dc_14_83_182 (c_lookFar_w M hM io sg s j (by omega) wm hwm hw4 hj) ?_
      exact r_iret rfl dc_14_83_185 (rfl)
  · exact absurd c_5 (by decide)
set_option maxHeartbeats 4000000 in
theorem c_look_t (M : mH) (hM : 157 ≤ M.1) (io : Nat → Int32) (sg : Nat → Nat → Int32) (ns : Nat) (h5 : io 5 = nI ns) (hns : ns ≤ 16) (s : Nat) (hs : s < ns) (wm : Nat) (hwm : sg 59 s = nI wm) (hw4 : wm ≤ 4) (j : Nat) (hj : j < 4) : mm_Ev 3 267 [.ref 100, .int (nI s), .int (nI (20 + j))] (rf_mk M io sg) ((some (.int (sg 61 (4 * s + j))), rf_mk M io sg)) := by
  refine r_ev (by decide +kernel) (show (3 : Nat) ≤ mm_nL 267 by decide +kernel) ?_
  show mm_Ru 2 (13, 4, false, prog_14_method_83_code, some .int) 0 [(0, .ref 100), (1, .int (nI s)), (2, .int (nI (20 + j)))] [] (rf_mk M io sg) (fun r9 => r9 = ((some (.int (sg 61 (4 * s + j))), rf_mk M io sg)))
  refine r_aload_n rfl dc_14_83_0 ?_
  refine r_iload_n rfl dc_14_83_1 ?_
  refine q_calli (as := [.int (nI s)]) (rest := []) (v := .int (nI 1)) (M1 := rf_mk M io sg) iv_13_v323 na_1_222 o_222 hM rfl (show (0 : Nat) ≤ 8 by decide) dc_14_83_2 (mm_Ev_up (by decide : 1 ≤ 2) (c_isStudentT M hM io sg ns h5 s (by omega) (by omega))) ?_
  refine r_ifne (t := 10) (by decide) dc_14_83_5 (fun c_5 => ?_) (fun c_5 => ?_)
  · skip
    refine r_aload_n rfl dc_14_83_10 ?_
    refine q_get (v := .ref 138) rx_123 hM rfl dc_14_83_11 ?_
    refine r_iload_n rfl dc_14_83_14 ?_
    refine q_ild (e := s) (v := sg 56 s) (by decide) (by decide) hM rfl (show s < 16 by omega) (by omega) (rfl) dc_14_83_15 ?_
    refine r_iconst (v := nI 1) (by decide) dc_14_83_16 ?_
    refine r_icne (t := 24) (by decide) dc_14_83_17 (fun c_17 => ?_) (fun c_17 => ?_)
    · skip
      refine r_iconst (v := nI 0) (by decide) dc_14_83_24 ?_
      refine r_istore_n (ls' := [(3, .int (nI 0)), (0, .ref 100), (1, .int (nI s)), (2, .int (nI (20 + j)))]) (by decide) rfl dc_14_83_25 ?_
      refine r_iload_n rfl dc_14_83_26 ?_
      refine r_swOut (t := 179) (nI_out (lo := 0) (hi := 9) (by omega) (by omega)) (by decide) dc_14_83_27 ?_
      refine r_aload_n rfl dc_14_83_179 ?_
      refine r_iload_n rfl dc_14_83_180 ?_
      refine r_iload_n rfl dc_14_83_181 ?_
      refine q_calli (as := [.int (nI s), .int (nI (20 + j))]) (rest := []) (v := .int (sg 61 (4 * s + j))) (M1 := rf_mk M io sg) iv_13_v437 na_1_268 o_268 hM rfl (show (0 : Nat) ≤ 8 by decide) dc_14_83_182 (c_lookFar_t M hM io sg s j (by omega) wm hwm hw4 hj) ?_
      exact r_iret rfl dc_14_83_185 (rfl)
    · skip
      refine r_iconst (v := nI 1) (by decide) dc_14_83_20 ?_
      refine r_goto (t := 25) (by decide) dc_14_83_21 ?_
      refine r_istore_n (ls' := [(3, .int (nI 1)), (0, .ref 100), (1, .int (nI s)), (2, .int (nI (20 + j)))]) (by decide) rfl dc_14_83_25 ?_
      refine r_iload_n rfl dc_14_83_26 ?_
      refine r_swOut (t := 179) (nI_out (lo := 0) (hi := 9) (by omega) (by omega)) (by decide) dc_14_83_27 ?_
      refine r_aload_n rfl dc_14_83_179 ?_
      refine r_iload_n rfl dc_14_83_180 ?_
      refine r_iload_n rfl dc_14_83_181 ?_
      refine q_calli (as := [.int (nI s), .int (nI (20 + j))]) (rest := []) (v := .int (sg 61 (4 * s + j))) (M1 := rf_mk M io sg) iv_13_v437 na_1_268 o_268 hM rfl (show (0 : Nat) ≤ 8 by decide) dc_14_83_182 (c_lookFar_t M hM io sg s j (by omega) wm hwm hw4 hj) ?_
      exact r_iret rfl dc_14_83_185 (rfl)
  · exact absurd c_5 (by decide)
set_option maxHeartbeats 4000000 in
theorem c_look_n (M : mH) (hM : 157 ≤ M.1) (io : Nat → Int32) (sg : Nat → Nat → Int32) (ns : Nat) (h5 : io 5 = nI ns) (hns : ns ≤ 16) (s : Nat) (hs : s < ns) (wm : Nat) (hwm : sg 59 s = nI wm) (hw4 : wm ≤ 4) (w : Int32) (hw : w.toInt < 0 ∨ 9 < w.toInt) (hno : ¬ (nI 10 ≤ w ∧ w ≤ nI (9 + wm)) ∧ ¬ (nI 20 ≤ w ∧ w ≤ nI 23)) : mm_Ev 3 267 [.ref 100, .int (nI s), .int w] (rf_mk M io sg) ((some (.int (-1)), rf_mk M io sg)) := by
  refine r_ev (by decide +kernel) (show (3 : Nat) ≤ mm_nL 267 by decide +kernel) ?_
  show mm_Ru 2 (13, 4, false, prog_14_method_83_code, some .int) 0 [(0, .ref 100), (1, .int (nI s)), (2, .int w)] [] (rf_mk M io sg) (fun r9 => r9 = ((some (.int (-1)), rf_mk M io sg)))
  refine r_aload_n rfl dc_14_83_0 ?_
  refine r_iload_n rfl dc_14_83_1 ?_
  refine q_calli (as := [.int (nI s)]) (rest := []) (v := .int (nI 1)) (M1 := rf_mk M io sg) iv_13_v323 na_1_222 o_222 hM rfl (show (0 : Nat) ≤ 8 by decide) dc_14_83_2 (mm_Ev_up (by decide : 1 ≤ 2) (c_isStudentT M hM io sg ns h5 s (by omega) (by omega))) ?_
  refine r_ifne (t := 10) (by decide) dc_14_83_5 (fun c_5 => ?_) (fun c_5 => ?_)
  · skip
    refine r_aload_n rfl dc_14_83_10 ?_
    refine q_get (v := .ref 138) rx_123 hM rfl dc_14_83_11 ?_
    refine r_iload_n rfl dc_14_83_14 ?_
    refine q_ild (e := s) (v := sg 56 s) (by decide) (by decide) hM rfl (show s < 16 by omega) (by omega) (rfl) dc_14_83_15 ?_
    refine r_iconst (v := nI 1) (by decide) dc_14_83_16 ?_
    refine r_icne (t := 24) (by decide) dc_14_83_17 (fun c_17 => ?_) (fun c_17 => ?_)
    · skip
      refine r_iconst (v := nI 0) (by decide) dc_14_83_24 ?_
      refine r_istore_n (ls' := [(3, .int (nI 0)), (0, .ref 100), (1, .int (nI s)), (2, .int w)]) (by decide) rfl dc_14_83_25 ?_
      refine r_iload_n rfl dc_14_83_26 ?_
      refine r_swOut (t := 179) (hw) (by decide) dc_14_83_27 ?_
      refine r_aload_n rfl dc_14_83_179 ?_
      refine r_iload_n rfl dc_14_83_180 ?_
      refine r_iload_n rfl dc_14_83_181 ?_
      refine q_calli (as := [.int (nI s), .int w]) (rest := []) (v := .int (-1)) (M1 := rf_mk M io sg) iv_13_v437 na_1_268 o_268 hM rfl (show (0 : Nat) ≤ 8 by decide) dc_14_83_182 (c_lookFar_n M hM io sg s (by omega) wm hwm hw4 w hno) ?_
      exact r_iret rfl dc_14_83_185 (rfl)
    · skip
      refine r_iconst (v := nI 1) (by decide) dc_14_83_20 ?_
      refine r_goto (t := 25) (by decide) dc_14_83_21 ?_
      refine r_istore_n (ls' := [(3, .int (nI 1)), (0, .ref 100), (1, .int (nI s)), (2, .int w)]) (by decide) rfl dc_14_83_25 ?_
      refine r_iload_n rfl dc_14_83_26 ?_
      refine r_swOut (t := 179) (hw) (by decide) dc_14_83_27 ?_
      refine r_aload_n rfl dc_14_83_179 ?_
      refine r_iload_n rfl dc_14_83_180 ?_
      refine r_iload_n rfl dc_14_83_181 ?_
      refine q_calli (as := [.int (nI s), .int w]) (rest := []) (v := .int (-1)) (M1 := rf_mk M io sg) iv_13_v437 na_1_268 o_268 hM rfl (show (0 : Nat) ≤ 8 by decide) dc_14_83_182 (c_lookFar_n M hM io sg s (by omega) wm hwm hw4 w hno) ?_
      exact r_iret rfl dc_14_83_185 (rfl)
  · exact absurd c_5 (by decide)
set_option maxHeartbeats 4000000 in
theorem c_look_no (M : mH) (hM : 157 ≤ M.1) (io : Nat → Int32) (sg : Nat → Nat → Int32) (s w : Int32) (hno : ¬ (0 ≤ s ∧ s < io 5)) : mm_Ev 2 267 [.ref 100, .int s, .int w] (rf_mk M io sg) ((some (.int (-1)), rf_mk M io sg)) := by
  refine r_ev (by decide +kernel) (show (3 : Nat) ≤ mm_nL 267 by decide +kernel) ?_
  show mm_Ru 1 (13, 4, false, prog_14_method_83_code, some .int) 0 [(0, .ref 100), (1, .int s), (2, .int w)] [] (rf_mk M io sg) (fun r9 => r9 = ((some (.int (-1)), rf_mk M io sg)))
  refine r_aload_n rfl dc_14_83_0 ?_
  refine r_iload_n rfl dc_14_83_1 ?_
  refine q_calli (as := [.int s]) (rest := []) (v := .int (sp_is s (io 5))) (M1 := rf_mk M io sg) iv_13_v323 na_1_222 o_222 hM rfl (show (0 : Nat) ≤ 8 by decide) dc_14_83_2 (c_isStudent M hM io sg s) ?_
  refine r_ifne (t := 10) (by decide) dc_14_83_5 (fun c_5 => ?_) (fun c_5 => ?_)
  · skip
    exact absurd (sp_is_ne c_5) hno
  · skip
    refine r_iconst (v := -1) (by decide) dc_14_83_8 ?_
    exact r_iret rfl dc_14_83_9 (rfl)
set_option maxHeartbeats 4000000 in
theorem c_about_0 (M : mH) (hM : 157 ≤ M.1) (io : Nat → Int32) (sg : Nat → Nat → Int32) (nx : Nat) (h4 : io 4 = nI nx) (hnx : nx ≤ 12) (x : Nat) (hx : x < nx) : mm_Ev 2 269 [.ref 100, .int (nI x), .int (nI 0)] (rf_mk M io sg) ((some (.int (sg 27 x)), rf_mk M io sg)) := by
  refine r_ev (by decide +kernel) (show (3 : Nat) ≤ mm_nL 269 by decide +kernel) ?_
  show mm_Ru 1 (13, 3, false, prog_14_method_86_code, some .int) 0 [(0, .ref 100), (1, .int (nI x)), (2, .int (nI 0))] [] (rf_mk M io sg) (fun r9 => r9 = ((some (.int (sg 27 x)), rf_mk M io sg)))
  refine r_aload_n rfl dc_14_86_0 ?_
  refine r_iload_n rfl dc_14_86_1 ?_
  refine q_calli (as := [.int (nI x)]) (rest := []) (v := .int (nI 1)) (M1 := rf_mk M io sg) iv_13_v296 na_1_212 o_212 hM rfl (show (0 : Nat) ≤ 8 by decide) dc_14_86_2 (c_isAgreementT M hM io sg nx h4 x (by omega) (by omega)) ?_
  refine r_ifne (t := 10) (by decide) dc_14_86_5 (fun c_5 => ?_) (fun c_5 => ?_)
  · skip
    refine r_iload_n rfl dc_14_86_10 ?_
    refine r_swIn (off := 53) (t := 64) (by decide +kernel) (by decide +kernel) (by decide +kernel) (by decide) dc_14_86_11 ?_
    refine r_aload_n rfl dc_14_86_64 ?_
    refine q_get (v := .ref 118) rx_63 hM rfl dc_14_86_65 ?_
    refine r_iload_n rfl dc_14_86_68 ?_
    refine q_ild (e := x) (v := sg 27 x) (by decide) (by decide) hM rfl (show x < 12 by omega) (by omega) (rfl) dc_14_86_69 ?_
    exact r_iret rfl dc_14_86_70 (rfl)
  · exact absurd c_5 (by decide)
set_option maxHeartbeats 4000000 in
theorem c_about_1 (M : mH) (hM : 157 ≤ M.1) (io : Nat → Int32) (sg : Nat → Nat → Int32) (nx : Nat) (h4 : io 4 = nI nx) (hnx : nx ≤ 12) (x : Nat) (hx : x < nx) : mm_Ev 2 269 [.ref 100, .int (nI x), .int (nI 1)] (rf_mk M io sg) ((some (.int (sg 28 x)), rf_mk M io sg)) := by
  refine r_ev (by decide +kernel) (show (3 : Nat) ≤ mm_nL 269 by decide +kernel) ?_
  show mm_Ru 1 (13, 3, false, prog_14_method_86_code, some .int) 0 [(0, .ref 100), (1, .int (nI x)), (2, .int (nI 1))] [] (rf_mk M io sg) (fun r9 => r9 = ((some (.int (sg 28 x)), rf_mk M io sg)))
  refine r_aload_n rfl dc_14_86_0 ?_
  refine r_iload_n rfl dc_14_86_1 ?_
  refine q_calli (as := [.int (nI x)]) (rest := []) (v := .int (nI 1)) (M1 := rf_mk M io sg) iv_13_v296 na_1_212 o_212 hM rfl (show (0 : Nat) ≤ 8 by decide) dc_14_86_2 (c_isAgreementT M hM io sg nx h4 x (by omega) (by omega)) ?_
  refine r_ifne (t := 10) (by decide) dc_14_86_5 (fun c_5 => ?_) (fun c_5 => ?_)
  · skip
    refine r_iload_n rfl dc_14_86_10 ?_
    refine r_swIn (off := 60) (t := 71) (by decide +kernel) (by decide +kernel) (by decide +kernel) (by decide) dc_14_86_11 ?_
    refine r_aload_n rfl dc_14_86_71 ?_
    refine q_get (v := .ref 119) rx_66 hM rfl dc_14_86_72 ?_
    refine r_iload_n rfl dc_14_86_75 ?_
    refine q_ild (e := x) (v := sg 28 x) (by decide) (by decide) hM rfl (show x < 12 by omega) (by omega) (rfl) dc_14_86_76 ?_
    exact r_iret rfl dc_14_86_77 (rfl)
  · exact absurd c_5 (by decide)
set_option maxHeartbeats 4000000 in
theorem c_about_2 (M : mH) (hM : 157 ≤ M.1) (io : Nat → Int32) (sg : Nat → Nat → Int32) (nx : Nat) (h4 : io 4 = nI nx) (hnx : nx ≤ 12) (x : Nat) (hx : x < nx) : mm_Ev 2 269 [.ref 100, .int (nI x), .int (nI 2)] (rf_mk M io sg) ((some (.int (sg 29 x)), rf_mk M io sg)) := by
  refine r_ev (by decide +kernel) (show (3 : Nat) ≤ mm_nL 269 by decide +kernel) ?_
  show mm_Ru 1 (13, 3, false, prog_14_method_86_code, some .int) 0 [(0, .ref 100), (1, .int (nI x)), (2, .int (nI 2))] [] (rf_mk M io sg) (fun r9 => r9 = ((some (.int (sg 29 x)), rf_mk M io sg)))
  refine r_aload_n rfl dc_14_86_0 ?_
  refine r_iload_n rfl dc_14_86_1 ?_
  refine q_calli (as := [.int (nI x)]) (rest := []) (v := .int (nI 1)) (M1 := rf_mk M io sg) iv_13_v296 na_1_212 o_212 hM rfl (show (0 : Nat) ≤ 8 by decide) dc_14_86_2 (c_isAgreementT M hM io sg nx h4 x (by omega) (by omega)) ?_
  refine r_ifne (t := 10) (by decide) dc_14_86_5 (fun c_5 => ?_) (fun c_5 => ?_)
  · skip
    refine r_iload_n rfl dc_14_86_10 ?_
    refine r_swIn (off := 67) (t := 78) (by decide +kernel) (by decide +kernel) (by decide +kernel) (by decide) dc_14_86_11 ?_
    refine r_aload_n rfl dc_14_86_78 ?_
    refine q_get (v := .ref 120) rx_69 hM rfl dc_14_86_79 ?_
    refine r_iload_n rfl dc_14_86_82 ?_
    refine q_ild (e := x) (v := sg 29 x) (by decide) (by decide) hM rfl (show x < 12 by omega) (by omega) (rfl) dc_14_86_83 ?_
    exact r_iret rfl dc_14_86_84 (rfl)
  · exact absurd c_5 (by decide)
set_option maxHeartbeats 4000000 in
theorem c_about_3 (M : mH) (hM : 157 ≤ M.1) (io : Nat → Int32) (sg : Nat → Nat → Int32) (nx : Nat) (h4 : io 4 = nI nx) (hnx : nx ≤ 12) (x : Nat) (hx : x < nx) : mm_Ev 2 269 [.ref 100, .int (nI x), .int (nI 3)] (rf_mk M io sg) ((some (.int (sg 30 x)), rf_mk M io sg)) := by
  refine r_ev (by decide +kernel) (show (3 : Nat) ≤ mm_nL 269 by decide +kernel) ?_
  show mm_Ru 1 (13, 3, false, prog_14_method_86_code, some .int) 0 [(0, .ref 100), (1, .int (nI x)), (2, .int (nI 3))] [] (rf_mk M io sg) (fun r9 => r9 = ((some (.int (sg 30 x)), rf_mk M io sg)))
  refine r_aload_n rfl dc_14_86_0 ?_
  refine r_iload_n rfl dc_14_86_1 ?_
  refine q_calli (as := [.int (nI x)]) (rest := []) (v := .int (nI 1)) (M1 := rf_mk M io sg) iv_13_v296 na_1_212 o_212 hM rfl (show (0 : Nat) ≤ 8 by decide) dc_14_86_2 (c_isAgreementT M hM io sg nx h4 x (by omega) (by omega)) ?_
  refine r_ifne (t := 10) (by decide) dc_14_86_5 (fun c_5 => ?_) (fun c_5 => ?_)
  · skip
    refine r_iload_n rfl dc_14_86_10 ?_
    refine r_swIn (off := 74) (t := 85) (by decide +kernel) (by decide +kernel) (by decide +kernel) (by decide) dc_14_86_11 ?_
    refine r_aload_n rfl dc_14_86_85 ?_
    refine q_get (v := .ref 121) rx_72 hM rfl dc_14_86_86 ?_
    refine r_iload_n rfl dc_14_86_89 ?_
    refine q_ild (e := x) (v := sg 30 x) (by decide) (by decide) hM rfl (show x < 12 by omega) (by omega) (rfl) dc_14_86_90 ?_
    exact r_iret rfl dc_14_86_91 (rfl)
  · exact absurd c_5 (by decide)
set_option maxHeartbeats 4000000 in
theorem c_about_4 (M : mH) (hM : 157 ≤ M.1) (io : Nat → Int32) (sg : Nat → Nat → Int32) (nx : Nat) (h4 : io 4 = nI nx) (hnx : nx ≤ 12) (x : Nat) (hx : x < nx) : mm_Ev 2 269 [.ref 100, .int (nI x), .int (nI 4)] (rf_mk M io sg) ((some (.int (sg 31 x)), rf_mk M io sg)) := by
  refine r_ev (by decide +kernel) (show (3 : Nat) ≤ mm_nL 269 by decide +kernel) ?_
  show mm_Ru 1 (13, 3, false, prog_14_method_86_code, some .int) 0 [(0, .ref 100), (1, .int (nI x)), (2, .int (nI 4))] [] (rf_mk M io sg) (fun r9 => r9 = ((some (.int (sg 31 x)), rf_mk M io sg)))
  refine r_aload_n rfl dc_14_86_0 ?_
  refine r_iload_n rfl dc_14_86_1 ?_
  refine q_calli (as := [.int (nI x)]) (rest := []) (v := .int (nI 1)) (M1 := rf_mk M io sg) iv_13_v296 na_1_212 o_212 hM rfl (show (0 : Nat) ≤ 8 by decide) dc_14_86_2 (c_isAgreementT M hM io sg nx h4 x (by omega) (by omega)) ?_
  refine r_ifne (t := 10) (by decide) dc_14_86_5 (fun c_5 => ?_) (fun c_5 => ?_)
  · skip
    refine r_iload_n rfl dc_14_86_10 ?_
    refine r_swIn (off := 81) (t := 92) (by decide +kernel) (by decide +kernel) (by decide +kernel) (by decide) dc_14_86_11 ?_
    refine r_aload_n rfl dc_14_86_92 ?_
    refine q_get (v := .ref 122) rx_75 hM rfl dc_14_86_93 ?_
    refine r_iload_n rfl dc_14_86_96 ?_
    refine q_ild (e := x) (v := sg 31 x) (by decide) (by decide) hM rfl (show x < 12 by omega) (by omega) (rfl) dc_14_86_97 ?_
    exact r_iret rfl dc_14_86_98 (rfl)
  · exact absurd c_5 (by decide)
set_option maxHeartbeats 4000000 in
theorem c_about_5 (M : mH) (hM : 157 ≤ M.1) (io : Nat → Int32) (sg : Nat → Nat → Int32) (nx : Nat) (h4 : io 4 = nI nx) (hnx : nx ≤ 12) (x : Nat) (hx : x < nx) : mm_Ev 2 269 [.ref 100, .int (nI x), .int (nI 5)] (rf_mk M io sg) ((some (.int (sg 32 x)), rf_mk M io sg)) := by
  refine r_ev (by decide +kernel) (show (3 : Nat) ≤ mm_nL 269 by decide +kernel) ?_
  show mm_Ru 1 (13, 3, false, prog_14_method_86_code, some .int) 0 [(0, .ref 100), (1, .int (nI x)), (2, .int (nI 5))] [] (rf_mk M io sg) (fun r9 => r9 = ((some (.int (sg 32 x)), rf_mk M io sg)))
  refine r_aload_n rfl dc_14_86_0 ?_
  refine r_iload_n rfl dc_14_86_1 ?_
  refine q_calli (as := [.int (nI x)]) (rest := []) (v := .int (nI 1)) (M1 := rf_mk M io sg) iv_13_v296 na_1_212 o_212 hM rfl (show (0 : Nat) ≤ 8 by decide) dc_14_86_2 (c_isAgreementT M hM io sg nx h4 x (by omega) (by omega)) ?_
  refine r_ifne (t := 10) (by decide) dc_14_86_5 (fun c_5 => ?_) (fun c_5 => ?_)
  · skip
    refine r_iload_n rfl dc_14_86_10 ?_
    refine r_swIn (off := 88) (t := 99) (by decide +kernel) (by decide +kernel) (by decide +kernel) (by decide) dc_14_86_11 ?_
    refine r_aload_n rfl dc_14_86_99 ?_
    refine q_get (v := .ref 123) rx_78 hM rfl dc_14_86_100 ?_
    refine r_iload_n rfl dc_14_86_103 ?_
    refine q_ild (e := x) (v := sg 32 x) (by decide) (by decide) hM rfl (show x < 12 by omega) (by omega) (rfl) dc_14_86_104 ?_
    exact r_iret rfl dc_14_86_105 (rfl)
  · exact absurd c_5 (by decide)
set_option maxHeartbeats 4000000 in
theorem c_about_6 (M : mH) (hM : 157 ≤ M.1) (io : Nat → Int32) (sg : Nat → Nat → Int32) (nx : Nat) (h4 : io 4 = nI nx) (hnx : nx ≤ 12) (x : Nat) (hx : x < nx) : mm_Ev 2 269 [.ref 100, .int (nI x), .int (nI 6)] (rf_mk M io sg) ((some (.int (sg 33 x)), rf_mk M io sg)) := by
  refine r_ev (by decide +kernel) (show (3 : Nat) ≤ mm_nL 269 by decide +kernel) ?_
  show mm_Ru 1 (13, 3, false, prog_14_method_86_code, some .int) 0 [(0, .ref 100), (1, .int (nI x)), (2, .int (nI 6))] [] (rf_mk M io sg) (fun r9 => r9 = ((some (.int (sg 33 x)), rf_mk M io sg)))
  refine r_aload_n rfl dc_14_86_0 ?_
  refine r_iload_n rfl dc_14_86_1 ?_
  refine q_calli (as := [.int (nI x)]) (rest := []) (v := .int (nI 1)) (M1 := rf_mk M io sg) iv_13_v296 na_1_212 o_212 hM rfl (show (0 : Nat) ≤ 8 by decide) dc_14_86_2 (c_isAgreementT M hM io sg nx h4 x (by omega) (by omega)) ?_
  refine r_ifne (t := 10) (by decide) dc_14_86_5 (fun c_5 => ?_) (fun c_5 => ?_)
  · skip
    refine r_iload_n rfl dc_14_86_10 ?_
    refine r_swIn (off := 95) (t := 106) (by decide +kernel) (by decide +kernel) (by decide +kernel) (by decide) dc_14_86_11 ?_
    refine r_aload_n rfl dc_14_86_106 ?_
    refine q_get (v := .ref 124) rx_81 hM rfl dc_14_86_107 ?_
    refine r_iload_n rfl dc_14_86_110 ?_
    refine q_ild (e := x) (v := sg 33 x) (by decide) (by decide) hM rfl (show x < 12 by omega) (by omega) (rfl) dc_14_86_111 ?_
    exact r_iret rfl dc_14_86_112 (rfl)
  · exact absurd c_5 (by decide)
set_option maxHeartbeats 4000000 in
theorem c_about_7 (M : mH) (hM : 157 ≤ M.1) (io : Nat → Int32) (sg : Nat → Nat → Int32) (nx : Nat) (h4 : io 4 = nI nx) (hnx : nx ≤ 12) (x : Nat) (hx : x < nx) : mm_Ev 2 269 [.ref 100, .int (nI x), .int (nI 7)] (rf_mk M io sg) ((some (.int (sg 34 x)), rf_mk M io sg)) := by
  refine r_ev (by decide +kernel) (show (3 : Nat) ≤ mm_nL 269 by decide +kernel) ?_
  show mm_Ru 1 (13, 3, false, prog_14_method_86_code, some .int) 0 [(0, .ref 100), (1, .int (nI x)), (2, .int (nI 7))] [] (rf_mk M io sg) (fun r9 => r9 = ((some (.int (sg 34 x)), rf_mk M io sg)))
  refine r_aload_n rfl dc_14_86_0 ?_
  refine r_iload_n rfl dc_14_86_1 ?_
  refine q_calli (as := [.int (nI x)]) (rest := []) (v := .int (nI 1)) (M1 := rf_mk M io sg) iv_13_v296 na_1_212 o_212 hM rfl (show (0 : Nat) ≤ 8 by decide) dc_14_86_2 (c_isAgreementT M hM io sg nx h4 x (by omega) (by omega)) ?_
  refine r_ifne (t := 10) (by decide) dc_14_86_5 (fun c_5 => ?_) (fun c_5 => ?_)
  · skip
    refine r_iload_n rfl dc_14_86_10 ?_
    refine r_swIn (off := 102) (t := 113) (by decide +kernel) (by decide +kernel) (by decide +kernel) (by decide) dc_14_86_11 ?_
    refine r_aload_n rfl dc_14_86_113 ?_
    refine q_get (v := .ref 125) rx_84 hM rfl dc_14_86_114 ?_
    refine r_iload_n rfl dc_14_86_117 ?_
    refine q_ild (e := x) (v := sg 34 x) (by decide) (by decide) hM rfl (show x < 12 by omega) (by omega) (rfl) dc_14_86_118 ?_
    exact r_iret rfl dc_14_86_119 (rfl)
  · exact absurd c_5 (by decide)
set_option maxHeartbeats 4000000 in
theorem c_about_8 (M : mH) (hM : 157 ≤ M.1) (io : Nat → Int32) (sg : Nat → Nat → Int32) (ns : Nat) (h5 : io 5 = nI ns) (hns : ns ≤ 16) (nx : Nat) (h4 : io 4 = nI nx) (hnx : nx ≤ 12) (x : Nat) (hx : x < nx) : mm_Ev 2 269 [.ref 100, .int (nI x), .int (nI 8)] (rf_mk M io sg) ((some (.int (sp_pby sg ns (nI x))), rf_mk M io sg)) := by
  refine r_ev (by decide +kernel) (show (3 : Nat) ≤ mm_nL 269 by decide +kernel) ?_
  show mm_Ru 1 (13, 3, false, prog_14_method_86_code, some .int) 0 [(0, .ref 100), (1, .int (nI x)), (2, .int (nI 8))] [] (rf_mk M io sg) (fun r9 => r9 = ((some (.int (sp_pby sg ns (nI x))), rf_mk M io sg)))
  refine r_aload_n rfl dc_14_86_0 ?_
  refine r_iload_n rfl dc_14_86_1 ?_
  refine q_calli (as := [.int (nI x)]) (rest := []) (v := .int (nI 1)) (M1 := rf_mk M io sg) iv_13_v296 na_1_212 o_212 hM rfl (show (0 : Nat) ≤ 8 by decide) dc_14_86_2 (c_isAgreementT M hM io sg nx h4 x (by omega) (by omega)) ?_
  refine r_ifne (t := 10) (by decide) dc_14_86_5 (fun c_5 => ?_) (fun c_5 => ?_)
  · skip
    refine r_iload_n rfl dc_14_86_10 ?_
    refine r_swIn (off := 109) (t := 120) (by decide +kernel) (by decide +kernel) (by decide +kernel) (by decide) dc_14_86_11 ?_
    refine r_aload_n rfl dc_14_86_120 ?_
    refine r_iload_n rfl dc_14_86_121 ?_
    refine q_calli (as := [.int (nI x)]) (rest := []) (v := .int (sp_pby sg ns (nI x))) (M1 := rf_mk M io sg) iv_13_v440 na_1_270 o_270 hM rfl (show (0 : Nat) ≤ 8 by decide) dc_14_86_122 (c_placedBy M hM io sg ns h5 hns (nI x)) ?_
    exact r_iret rfl dc_14_86_125 (rfl)
  · exact absurd c_5 (by decide)
theorem sp_inf_01 (io : Nat → Int32) (sg : Nat → Nat → Int32) (x : Nat) : sp_inf io sg x = nI 0 ∨ sp_inf io sg x = nI 1 := by
  unfold sp_inf
  split
  · exact Or.inr rfl
  · exact Or.inl rfl
set_option maxHeartbeats 4000000 in
theorem c_about_9 (M : mH) (hM : 157 ≤ M.1) (io : Nat → Int32) (sg : Nat → Nat → Int32) (nx : Nat) (h4 : io 4 = nI nx) (hnx : nx ≤ 12) (x : Nat) (hx : x < nx) : mm_Ev 2 269 [.ref 100, .int (nI x), .int (nI 9)] (rf_mk M io sg) ((some (.int (sp_inf io sg x)), rf_mk M io sg)) := by
  refine r_ev (by decide +kernel) (show (3 : Nat) ≤ mm_nL 269 by decide +kernel) ?_
  show mm_Ru 1 (13, 3, false, prog_14_method_86_code, some .int) 0 [(0, .ref 100), (1, .int (nI x)), (2, .int (nI 9))] [] (rf_mk M io sg) (fun r9 => r9 = ((some (.int (sp_inf io sg x)), rf_mk M io sg)))
  refine r_aload_n rfl dc_14_86_0 ?_
  refine r_iload_n rfl dc_14_86_1 ?_
  refine q_calli (as := [.int (nI x)]) (rest := []) (v := .int (nI 1)) (M1 := rf_mk M io sg) iv_13_v296 na_1_212 o_212 hM rfl (show (0 : Nat) ≤ 8 by decide) dc_14_86_2 (c_isAgreementT M hM io sg nx h4 x (by omega) (by omega)) ?_
  refine r_ifne (t := 10) (by decide) dc_14_86_5 (fun c_5 => ?_) (fun c_5 => ?_)
  · skip
    refine r_iload_n rfl dc_14_86_10 ?_
    refine r_swIn (off := 115) (t := 126) (by decide +kernel) (by decide +kernel) (by decide +kernel) (by decide) dc_14_86_11 ?_
    refine r_aload_n rfl dc_14_86_126 ?_
    refine r_iload_n rfl dc_14_86_127 ?_
    refine q_calli (as := [.int (nI x)]) (rest := []) (v := .int (sp_inf io sg x)) (M1 := rf_mk M io sg) iv_13_v332 na_1_227 o_227 hM rfl (show (0 : Nat) ≤ 8 by decide) dc_14_86_128 (c_isInForce M hM io sg x (by omega)) ?_
    refine r_ifeq (t := 138) (by decide) dc_14_86_131 (fun c_131 => ?_) (fun c_131 => ?_)
    · skip
      refine r_iconst (v := nI 0) (by decide) dc_14_86_138 ?_
      refine r_iret rfl dc_14_86_139 ?_
      rw [c_131]
      rfl
    · skip
      refine r_iconst (v := nI 1) (by decide) dc_14_86_134 ?_
      refine r_goto (t := 139) (by decide) dc_14_86_135 ?_
      refine r_iret rfl dc_14_86_139 ?_
      rw [(sp_inf_01 io sg x).resolve_left c_131]
  · exact absurd c_5 (by decide)
set_option maxHeartbeats 4000000 in
theorem c_about_n (M : mH) (hM : 157 ≤ M.1) (io : Nat → Int32) (sg : Nat → Nat → Int32) (nx : Nat) (h4 : io 4 = nI nx) (hnx : nx ≤ 12) (x : Nat) (hx : x < nx) (w : Int32) (hw : w.toInt < 0 ∨ 9 < w.toInt) : mm_Ev 2 269 [.ref 100, .int (nI x), .int w] (rf_mk M io sg) ((some (.int (-1)), rf_mk M io sg)) := by
  refine r_ev (by decide +kernel) (show (3 : Nat) ≤ mm_nL 269 by decide +kernel) ?_
  show mm_Ru 1 (13, 3, false, prog_14_method_86_code, some .int) 0 [(0, .ref 100), (1, .int (nI x)), (2, .int w)] [] (rf_mk M io sg) (fun r9 => r9 = ((some (.int (-1)), rf_mk M io sg)))
  refine r_aload_n rfl dc_14_86_0 ?_
  refine r_iload_n rfl dc_14_86_1 ?_
  refine q_calli (as := [.int (nI x)]) (rest := []) (v := .int (nI 1)) (M1 := rf_mk M io sg) iv_13_v296 na_1_212 o_212 hM rfl (show (0 : Nat) ≤ 8 by decide) dc_14_86_2 (c_isAgreementT M hM io sg nx h4 x (by omega) (by omega)) ?_
  refine r_ifne (t := 10) (by decide) dc_14_86_5 (fun c_5 => ?_) (fun c_5 => ?_)
  · skip
    refine r_iload_n rfl dc_14_86_10 ?_
    refine r_swOut (t := 140) (hw) (by decide) dc_14_86_11 ?_
    refine r_iconst (v := -1) (by decide) dc_14_86_140 ?_
    exact r_iret rfl dc_14_86_141 (rfl)
  · exact absurd c_5 (by decide)
set_option maxHeartbeats 4000000 in
theorem c_about_no (M : mH) (hM : 157 ≤ M.1) (io : Nat → Int32) (sg : Nat → Nat → Int32) (x w : Int32) (hno : ¬ (0 ≤ x ∧ x < io 4)) : mm_Ev 2 269 [.ref 100, .int x, .int w] (rf_mk M io sg) ((some (.int (-1)), rf_mk M io sg)) := by
  refine r_ev (by decide +kernel) (show (3 : Nat) ≤ mm_nL 269 by decide +kernel) ?_
  show mm_Ru 1 (13, 3, false, prog_14_method_86_code, some .int) 0 [(0, .ref 100), (1, .int x), (2, .int w)] [] (rf_mk M io sg) (fun r9 => r9 = ((some (.int (-1)), rf_mk M io sg)))
  refine r_aload_n rfl dc_14_86_0 ?_
  refine r_iload_n rfl dc_14_86_1 ?_
  refine q_calli (as := [.int x]) (rest := []) (v := .int (sp_is x (io 4))) (M1 := rf_mk M io sg) iv_13_v296 na_1_212 o_212 hM rfl (show (0 : Nat) ≤ 8 by decide) dc_14_86_2 (c_isAgreement M hM io sg x) ?_
  refine r_ifne (t := 10) (by decide) dc_14_86_5 (fun c_5 => ?_) (fun c_5 => ?_)
  · skip
    exact absurd (sp_is_ne c_5) hno
  · skip
    refine r_iconst (v := -1) (by decide) dc_14_86_8 ?_
    exact r_iret rfl dc_14_86_9 (rfl)
set_option maxHeartbeats 4000000 in
theorem c_count_0 (M : mH) (hM : 157 ≤ M.1) (io : Nat → Int32) (sg : Nat → Nat → Int32) : mm_Ev 2 271 [.ref 100, .int (nI 0)] (rf_mk M io sg) ((some (.int (io 6)), rf_mk M io sg)) := by
  refine r_ev (by decide +kernel) (show (2 : Nat) ≤ mm_nL 271 by decide +kernel) ?_
  show mm_Ru 1 (13, 2, false, prog_14_method_88_code, some .int) 0 [(0, .ref 100), (1, .int (nI 0))] [] (rf_mk M io sg) (fun r9 => r9 = ((some (.int (io 6)), rf_mk M io sg)))
  refine r_iload_n rfl dc_14_88_0 ?_
  refine r_swIn (off := 55) (t := 56) (by decide +kernel) (by decide +kernel) (by decide +kernel) (by decide) dc_14_88_1 ?_
  refine r_aload_n rfl dc_14_88_56 ?_
  refine q_get (v := .int (io 6)) rx_329 hM rfl dc_14_88_57 ?_
  exact r_iret rfl dc_14_88_60 (rfl)
set_option maxHeartbeats 4000000 in
theorem c_count_1 (M : mH) (hM : 157 ≤ M.1) (io : Nat → Int32) (sg : Nat → Nat → Int32) : mm_Ev 2 271 [.ref 100, .int (nI 1)] (rf_mk M io sg) ((some (.int (io 3)), rf_mk M io sg)) := by
  refine r_ev (by decide +kernel) (show (2 : Nat) ≤ mm_nL 271 by decide +kernel) ?_
  show mm_Ru 1 (13, 2, false, prog_14_method_88_code, some .int) 0 [(0, .ref 100), (1, .int (nI 1))] [] (rf_mk M io sg) (fun r9 => r9 = ((some (.int (io 3)), rf_mk M io sg)))
  refine r_iload_n rfl dc_14_88_0 ?_
  refine r_swIn (off := 60) (t := 61) (by decide +kernel) (by decide +kernel) (by decide +kernel) (by decide) dc_14_88_1 ?_
  refine r_aload_n rfl dc_14_88_61 ?_
  refine q_get (v := .int (io 3)) rx_200 hM rfl dc_14_88_62 ?_
  exact r_iret rfl dc_14_88_65 (rfl)
set_option maxHeartbeats 4000000 in
theorem c_count_2 (M : mH) (hM : 157 ≤ M.1) (io : Nat → Int32) (sg : Nat → Nat → Int32) : mm_Ev 2 271 [.ref 100, .int (nI 2)] (rf_mk M io sg) ((some (.int (io 4)), rf_mk M io sg)) := by
  refine r_ev (by decide +kernel) (show (2 : Nat) ≤ mm_nL 271 by decide +kernel) ?_
  show mm_Ru 1 (13, 2, false, prog_14_method_88_code, some .int) 0 [(0, .ref 100), (1, .int (nI 2))] [] (rf_mk M io sg) (fun r9 => r9 = ((some (.int (io 4)), rf_mk M io sg)))
  refine r_iload_n rfl dc_14_88_0 ?_
  refine r_swIn (off := 65) (t := 66) (by decide +kernel) (by decide +kernel) (by decide +kernel) (by decide) dc_14_88_1 ?_
  refine r_aload_n rfl dc_14_88_66 ?_
  refine q_get (v := .int (io 4)) rx_290 hM rfl dc_14_88_67 ?_
  exact r_iret rfl dc_14_88_70 (rfl)
set_option maxHeartbeats 4000000 in
theorem c_count_3 (M : mH) (hM : 157 ≤ M.1) (io : Nat → Int32) (sg : Nat → Nat → Int32) : mm_Ev 2 271 [.ref 100, .int (nI 3)] (rf_mk M io sg) ((some (.int (io 5)), rf_mk M io sg)) := by
  refine r_ev (by decide +kernel) (show (2 : Nat) ≤ mm_nL 271 by decide +kernel) ?_
  show mm_Ru 1 (13, 2, false, prog_14_method_88_code, some .int) 0 [(0, .ref 100), (1, .int (nI 3))] [] (rf_mk M io sg) (fun r9 => r9 = ((some (.int (io 5)), rf_mk M io sg)))
  refine r_iload_n rfl dc_14_88_0 ?_
  refine r_swIn (off := 70) (t := 71) (by decide +kernel) (by decide +kernel) (by decide +kernel) (by decide) dc_14_88_1 ?_
  refine r_aload_n rfl dc_14_88_71 ?_
  refine q_get (v := .int (io 5)) rx_320 hM rfl dc_14_88_72 ?_
  exact r_iret rfl dc_14_88_75 (rfl)
set_option maxHeartbeats 4000000 in
theorem c_count_8 (M : mH) (hM : 157 ≤ M.1) (io : Nat → Int32) (sg : Nat → Nat → Int32) : mm_Ev 2 271 [.ref 100, .int (nI 8)] (rf_mk M io sg) ((some (.int (io 7)), rf_mk M io sg)) := by
  refine r_ev (by decide +kernel) (show (2 : Nat) ≤ mm_nL 271 by decide +kernel) ?_
  show mm_Ru 1 (13, 2, false, prog_14_method_88_code, some .int) 0 [(0, .ref 100), (1, .int (nI 8))] [] (rf_mk M io sg) (fun r9 => r9 = ((some (.int (io 7)), rf_mk M io sg)))
  refine r_iload_n rfl dc_14_88_0 ?_
  refine r_swIn (off := 83) (t := 84) (by decide +kernel) (by decide +kernel) (by decide +kernel) (by decide) dc_14_88_1 ?_
  refine r_aload_n rfl dc_14_88_84 ?_
  refine q_get (v := .int (io 7)) rx_419 hM rfl dc_14_88_85 ?_
  exact r_iret rfl dc_14_88_88 (rfl)
set_option maxHeartbeats 4000000 in
theorem c_count_9 (M : mH) (hM : 157 ≤ M.1) (io : Nat → Int32) (sg : Nat → Nat → Int32) : mm_Ev 2 271 [.ref 100, .int (nI 9)] (rf_mk M io sg) ((some (.int (io 23)), rf_mk M io sg)) := by
  refine r_ev (by decide +kernel) (show (2 : Nat) ≤ mm_nL 271 by decide +kernel) ?_
  show mm_Ru 1 (13, 2, false, prog_14_method_88_code, some .int) 0 [(0, .ref 100), (1, .int (nI 9))] [] (rf_mk M io sg) (fun r9 => r9 = ((some (.int (io 23)), rf_mk M io sg)))
  refine r_iload_n rfl dc_14_88_0 ?_
  refine r_swIn (off := 88) (t := 89) (by decide +kernel) (by decide +kernel) (by decide +kernel) (by decide) dc_14_88_1 ?_
  refine r_aload_n rfl dc_14_88_89 ?_
  refine q_get (v := .int (io 23)) rx_209 hM rfl dc_14_88_90 ?_
  exact r_iret rfl dc_14_88_93 (rfl)
set_option maxHeartbeats 4000000 in
theorem c_count_4 (M : mH) (hM : 157 ≤ M.1) (io : Nat → Int32) (sg : Nat → Nat → Int32) (ns : Nat) (h5 : io 5 = nI ns) (hns : ns ≤ 16) : mm_Ev 2 271 [.ref 100, .int (nI 4)] (rf_mk M io sg) ((some (.int (sp_with sg ns (nI 0))), rf_mk M io sg)) := by
  refine r_ev (by decide +kernel) (show (2 : Nat) ≤ mm_nL 271 by decide +kernel) ?_
  show mm_Ru 1 (13, 2, false, prog_14_method_88_code, some .int) 0 [(0, .ref 100), (1, .int (nI 4))] [] (rf_mk M io sg) (fun r9 => r9 = ((some (.int (sp_with sg ns (nI 0))), rf_mk M io sg)))
  refine r_iload_n rfl dc_14_88_0 ?_
  refine r_swIn (off := 75) (t := 76) (by decide +kernel) (by decide +kernel) (by decide +kernel) (by decide) dc_14_88_1 ?_
  refine r_aload_n rfl dc_14_88_76 ?_
  refine r_iload_n rfl dc_14_88_77 ?_
  refine r_iconst (v := nI 4) (by decide) dc_14_88_78 ?_
  refine r_isub (v := nI 0) (by decide) dc_14_88_79 ?_
  refine q_calli (as := [.int (nI 0)]) (rest := []) (v := .int (sp_with sg ns (nI 0))) (M1 := rf_mk M io sg) iv_13_v443 na_1_272 o_272 hM rfl (show (0 : Nat) ≤ 8 by decide) dc_14_88_80 (c_with M hM io sg ns h5 hns (nI 0)) ?_
  exact r_iret rfl dc_14_88_83 (rfl)
set_option maxHeartbeats 4000000 in
theorem c_count_5 (M : mH) (hM : 157 ≤ M.1) (io : Nat → Int32) (sg : Nat → Nat → Int32) (ns : Nat) (h5 : io 5 = nI ns) (hns : ns ≤ 16) : mm_Ev 2 271 [.ref 100, .int (nI 5)] (rf_mk M io sg) ((some (.int (sp_with sg ns (nI 1))), rf_mk M io sg)) := by
  refine r_ev (by decide +kernel) (show (2 : Nat) ≤ mm_nL 271 by decide +kernel) ?_
  show mm_Ru 1 (13, 2, false, prog_14_method_88_code, some .int) 0 [(0, .ref 100), (1, .int (nI 5))] [] (rf_mk M io sg) (fun r9 => r9 = ((some (.int (sp_with sg ns (nI 1))), rf_mk M io sg)))
  refine r_iload_n rfl dc_14_88_0 ?_
  refine r_swIn (off := 75) (t := 76) (by decide +kernel) (by decide +kernel) (by decide +kernel) (by decide) dc_14_88_1 ?_
  refine r_aload_n rfl dc_14_88_76 ?_
  refine r_iload_n rfl dc_14_88_77 ?_
  refine r_iconst (v := nI 4) (by decide) dc_14_88_78 ?_
  refine r_isub (v := nI 1) (by decide) dc_14_88_79 ?_
  refine q_calli (as := [.int (nI 1)]) (rest := []) (v := .int (sp_with sg ns (nI 1))) (M1 := rf_mk M io sg) iv_13_v443 na_1_272 o_272 hM rfl (show (0 : Nat) ≤ 8 by decide) dc_14_88_80 (c_with M hM io sg ns h5 hns (nI 1)) ?_
  exact r_iret rfl dc_14_88_83 (rfl)
set_option maxHeartbeats 4000000 in
theorem c_count_6 (M : mH) (hM : 157 ≤ M.1) (io : Nat → Int32) (sg : Nat → Nat → Int32) (ns : Nat) (h5 : io 5 = nI ns) (hns : ns ≤ 16) : mm_Ev 2 271 [.ref 100, .int (nI 6)] (rf_mk M io sg) ((some (.int (sp_with sg ns (nI 2))), rf_mk M io sg)) := by
  refine r_ev (by decide +kernel) (show (2 : Nat) ≤ mm_nL 271 by decide +kernel) ?_
  show mm_Ru 1 (13, 2, false, prog_14_method_88_code, some .int) 0 [(0, .ref 100), (1, .int (nI 6))] [] (rf_mk M io sg) (fun r9 => r9 = ((some (.int (sp_with sg ns (nI 2))), rf_mk M io sg)))
  refine r_iload_n rfl dc_14_88_0 ?_
  refine r_swIn (off := 75) (t := 76) (by decide +kernel) (by decide +kernel) (by decide +kernel) (by decide) dc_14_88_1 ?_
  refine r_aload_n rfl dc_14_88_76 ?_
  refine r_iload_n rfl dc_14_88_77 ?_
  refine r_iconst (v := nI 4) (by decide) dc_14_88_78 ?_
  refine r_isub (v := nI 2) (by decide) dc_14_88_79 ?_
  refine q_calli (as := [.int (nI 2)]) (rest := []) (v := .int (sp_with sg ns (nI 2))) (M1 := rf_mk M io sg) iv_13_v443 na_1_272 o_272 hM rfl (show (0 : Nat) ≤ 8 by decide) dc_14_88_80 (c_with M hM io sg ns h5 hns (nI 2)) ?_
  exact r_iret rfl dc_14_88_83 (rfl)
set_option maxHeartbeats 4000000 in
theorem c_count_7 (M : mH) (hM : 157 ≤ M.1) (io : Nat → Int32) (sg : Nat → Nat → Int32) (ns : Nat) (h5 : io 5 = nI ns) (hns : ns ≤ 16) : mm_Ev 2 271 [.ref 100, .int (nI 7)] (rf_mk M io sg) ((some (.int (sp_with sg ns (nI 3))), rf_mk M io sg)) := by
  refine r_ev (by decide +kernel) (show (2 : Nat) ≤ mm_nL 271 by decide +kernel) ?_
  show mm_Ru 1 (13, 2, false, prog_14_method_88_code, some .int) 0 [(0, .ref 100), (1, .int (nI 7))] [] (rf_mk M io sg) (fun r9 => r9 = ((some (.int (sp_with sg ns (nI 3))), rf_mk M io sg)))
  refine r_iload_n rfl dc_14_88_0 ?_
  refine r_swIn (off := 75) (t := 76) (by decide +kernel) (by decide +kernel) (by decide +kernel) (by decide) dc_14_88_1 ?_
  refine r_aload_n rfl dc_14_88_76 ?_
  refine r_iload_n rfl dc_14_88_77 ?_
  refine r_iconst (v := nI 4) (by decide) dc_14_88_78 ?_
  refine r_isub (v := nI 3) (by decide) dc_14_88_79 ?_
  refine q_calli (as := [.int (nI 3)]) (rest := []) (v := .int (sp_with sg ns (nI 3))) (M1 := rf_mk M io sg) iv_13_v443 na_1_272 o_272 hM rfl (show (0 : Nat) ≤ 8 by decide) dc_14_88_80 (c_with M hM io sg ns h5 hns (nI 3)) ?_
  exact r_iret rfl dc_14_88_83 (rfl)
set_option maxHeartbeats 4000000 in
theorem c_count_b (M : mH) (hM : 157 ≤ M.1) (io : Nat → Int32) (sg : Nat → Nat → Int32) (nh : Nat) (h3 : io 3 = nI nh) (hnh : nh ≤ 8) (h : Nat) (hh : h < nh) : mm_Ev 2 271 [.ref 100, .int (nI (10 + h))] (rf_mk M io sg) ((some (.int (sg 11 h)), rf_mk M io sg)) := by
  refine r_ev (by decide +kernel) (show (2 : Nat) ≤ mm_nL 271 by decide +kernel) ?_
  show mm_Ru 1 (13, 2, false, prog_14_method_88_code, some .int) 0 [(0, .ref 100), (1, .int (nI (10 + h)))] [] (rf_mk M io sg) (fun r9 => r9 = ((some (.int (sg 11 h)), rf_mk M io sg)))
  refine r_iload_n rfl dc_14_88_0 ?_
  refine r_swOut (t := 94) (nI_out (lo := 0) (hi := 9) (by omega) (by omega)) (by decide) dc_14_88_1 ?_
  refine r_iload_n rfl dc_14_88_94 ?_
  refine r_bipush (v := nI 10) (by decide) dc_14_88_95 ?_
  refine r_bipush (v := nI 9) (by decide) dc_14_88_97 ?_
  refine r_aload_n rfl dc_14_88_99 ?_
  refine q_get (v := .int (nI nh)) rx_200 hM (congrArg (fun z => some (Value.int z)) (h3)) dc_14_88_100 ?_
  refine r_iadd (v := nI (9 + nh)) (nI_add _ _) dc_14_88_103 ?_
  refine q_calls (as := [.int (nI (10 + h)), .int (nI 10), .int (nI (9 + nh))]) (rest := []) (v := .int (nI 1)) iv_13_s180 na_0_187 rfl (show (0 : Nat) ≤ 8 by decide) dc_14_88_104 (c_inT _ (10 + h) 10 (9 + nh) (by omega) (by omega) (by omega)) ?_
  refine r_ifeq (t := 120) (by decide) dc_14_88_107 (fun c_107 => ?_) (fun c_107 => ?_)
  · exact absurd c_107 (by decide)
  · skip
    refine r_aload_n rfl dc_14_88_110 ?_
    refine q_get (v := .ref 106) rx_25 hM rfl dc_14_88_111 ?_
    refine r_iload_n rfl dc_14_88_114 ?_
    refine r_bipush (v := nI 10) (by decide) dc_14_88_115 ?_
    refine r_isub (v := nI h) ((pk_sub (by omega)).trans (congrArg nI (by omega))) dc_14_88_117 ?_
    refine q_ild (e := h) (v := sg 11 h) (by decide) (by decide) hM rfl (show h < 8 by omega) (by omega) (rfl) dc_14_88_118 ?_
    exact r_iret rfl dc_14_88_119 (rfl)
set_option maxHeartbeats 4000000 in
theorem c_count_p (M : mH) (hM : 157 ≤ M.1) (io : Nat → Int32) (sg : Nat → Nat → Int32) (ns : Nat) (h5 : io 5 = nI ns) (hns : ns ≤ 16) (nh : Nat) (h3 : io 3 = nI nh) (hnh : nh ≤ 8) (h : Nat) (hh : h < nh) : mm_Ev 2 271 [.ref 100, .int (nI (20 + h))] (rf_mk M io sg) ((some (.int (sp_pin sg ns (nI h))), rf_mk M io sg)) := by
  refine r_ev (by decide +kernel) (show (2 : Nat) ≤ mm_nL 271 by decide +kernel) ?_
  show mm_Ru 1 (13, 2, false, prog_14_method_88_code, some .int) 0 [(0, .ref 100), (1, .int (nI (20 + h)))] [] (rf_mk M io sg) (fun r9 => r9 = ((some (.int (sp_pin sg ns (nI h))), rf_mk M io sg)))
  refine r_iload_n rfl dc_14_88_0 ?_
  refine r_swOut (t := 94) (nI_out (lo := 0) (hi := 9) (by omega) (by omega)) (by decide) dc_14_88_1 ?_
  refine r_iload_n rfl dc_14_88_94 ?_
  refine r_bipush (v := nI 10) (by decide) dc_14_88_95 ?_
  refine r_bipush (v := nI 9) (by decide) dc_14_88_97 ?_
  refine r_aload_n rfl dc_14_88_99 ?_
  refine q_get (v := .int (nI nh)) rx_200 hM (congrArg (fun z => some (Value.int z)) (h3)) dc_14_88_100 ?_
  refine r_iadd (v := nI (9 + nh)) (nI_add _ _) dc_14_88_103 ?_
  refine q_calls (as := [.int (nI (20 + h)), .int (nI 10), .int (nI (9 + nh))]) (rest := []) (v := .int (nI 0)) iv_13_s180 na_0_187 rfl (show (0 : Nat) ≤ 8 by decide) dc_14_88_104 (c_inF _ (20 + h) 10 (9 + nh) (by omega) (by omega) (by omega)) ?_
  refine r_ifeq (t := 120) (by decide) dc_14_88_107 (fun c_107 => ?_) (fun c_107 => ?_)
  · skip
    refine r_iload_n rfl dc_14_88_120 ?_
    refine r_bipush (v := nI 20) (by decide) dc_14_88_121 ?_
    refine r_bipush (v := nI 19) (by decide) dc_14_88_123 ?_
    refine r_aload_n rfl dc_14_88_125 ?_
    refine q_get (v := .int (nI nh)) rx_200 hM (congrArg (fun z => some (Value.int z)) (h3)) dc_14_88_126 ?_
    refine r_iadd (v := nI (19 + nh)) (nI_add _ _) dc_14_88_129 ?_
    refine q_calls (as := [.int (nI (20 + h)), .int (nI 20), .int (nI (19 + nh))]) (rest := []) (v := .int (nI 1)) iv_13_s180 na_0_187 rfl (show (0 : Nat) ≤ 8 by decide) dc_14_88_130 (c_inT _ (20 + h) 20 (19 + nh) (by omega) (by omega) (by omega)) ?_
    refine r_ifeq (t := 145) (by decide) dc_14_88_133 (fun c_133 => ?_) (fun c_133 => ?_)
    · exact absurd c_133 (by decide)
    · skip
      refine r_aload_n rfl dc_14_88_136 ?_
      refine r_iload_n rfl dc_14_88_137 ?_
      refine r_bipush (v := nI 20) (by decide) dc_14_88_138 ?_
      refine r_isub (v := nI h) ((pk_sub (by omega)).trans (congrArg nI (by omega))) dc_14_88_140 ?_
      refine q_calli (as := [.int (nI h)]) (rest := []) (v := .int (sp_pin sg ns (nI h))) (M1 := rf_mk M io sg) iv_13_v347 na_1_233 o_233 hM rfl (show (0 : Nat) ≤ 8 by decide) dc_14_88_141 (c_placedIn M hM io sg ns h5 hns (nI h)) ?_
      exact r_iret rfl dc_14_88_144 (rfl)
  · exact absurd c_107 (by decide)
set_option maxHeartbeats 4000000 in
theorem c_count_c (M : mH) (hM : 157 ≤ M.1) (io : Nat → Int32) (sg : Nat → Nat → Int32) (nh : Nat) (h3 : io 3 = nI nh) (hnh : nh ≤ 8) (h : Nat) (hh : h < nh) : mm_Ev 2 271 [.ref 100, .int (nI (30 + h))] (rf_mk M io sg) ((some (.int (sg 16 h)), rf_mk M io sg)) := by
  refine r_ev (by decide +kernel) (show (2 : Nat) ≤ mm_nL 271 by decide +kernel) ?_
  show mm_Ru 1 (13, 2, false, prog_14_method_88_code, some .int) 0 [(0, .ref 100), (1, .int (nI (30 + h)))] [] (rf_mk M io sg) (fun r9 => r9 = ((some (.int (sg 16 h)), rf_mk M io sg)))
  refine r_iload_n rfl dc_14_88_0 ?_
  refine r_swOut (t := 94) (nI_out (lo := 0) (hi := 9) (by omega) (by omega)) (by decide) dc_14_88_1 ?_
  refine r_iload_n rfl dc_14_88_94 ?_
  refine r_bipush (v := nI 10) (by decide) dc_14_88_95 ?_
  refine r_bipush (v := nI 9) (by decide) dc_14_88_97 ?_
  refine r_aload_n rfl dc_14_88_99 ?_
  refine q_get (v := .int (nI nh)) rx_200 hM (congrArg (fun z => some (Value.int z)) (h3)) dc_14_88_100 ?_
  refine r_iadd (v := nI (9 + nh)) (nI_add _ _) dc_14_88_103 ?_
  refine q_calls (as := [.int (nI (30 + h)), .int (nI 10), .int (nI (9 + nh))]) (rest := []) (v := .int (nI 0)) iv_13_s180 na_0_187 rfl (show (0 : Nat) ≤ 8 by decide) dc_14_88_104 (c_inF _ (30 + h) 10 (9 + nh) (by omega) (by omega) (by omega)) ?_
  refine r_ifeq (t := 120) (by decide) dc_14_88_107 (fun c_107 => ?_) (fun c_107 => ?_)
  · skip
    refine r_iload_n rfl dc_14_88_120 ?_
    refine r_bipush (v := nI 20) (by decide) dc_14_88_121 ?_
    refine r_bipush (v := nI 19) (by decide) dc_14_88_123 ?_
    refine r_aload_n rfl dc_14_88_125 ?_
    refine q_get (v := .int (nI nh)) rx_200 hM (congrArg (fun z => some (Value.int z)) (h3)) dc_14_88_126 ?_
    refine r_iadd (v := nI (19 + nh)) (nI_add _ _) dc_14_88_129 ?_
    refine q_calls (as := [.int (nI (30 + h)), .int (nI 20), .int (nI (19 + nh))]) (rest := []) (v := .int (nI 0)) iv_13_s180 na_0_187 rfl (show (0 : Nat) ≤ 8 by decide) dc_14_88_130 (c_inF _ (30 + h) 20 (19 + nh) (by omega) (by omega) (by omega)) ?_
    refine r_ifeq (t := 145) (by decide) dc_14_88_133 (fun c_133 => ?_) (fun c_133 => ?_)
    · skip
      refine r_iload_n rfl dc_14_88_145 ?_
      refine r_bipush (v := nI 30) (by decide) dc_14_88_146 ?_
      refine r_bipush (v := nI 29) (by decide) dc_14_88_148 ?_
      refine r_aload_n rfl dc_14_88_150 ?_
      refine q_get (v := .int (nI nh)) rx_200 hM (congrArg (fun z => some (Value.int z)) (h3)) dc_14_88_151 ?_
      refine r_iadd (v := nI (29 + nh)) (nI_add _ _) dc_14_88_154 ?_
      refine q_calls (as := [.int (nI (30 + h)), .int (nI 30), .int (nI (29 + nh))]) (rest := []) (v := .int (nI 1)) iv_13_s180 na_0_187 rfl (show (0 : Nat) ≤ 8 by decide) dc_14_88_155 (c_inT _ (30 + h) 30 (29 + nh) (by omega) (by omega) (by omega)) ?_
      refine r_ifeq (t := 173) (by decide) dc_14_88_158 (fun c_158 => ?_) (fun c_158 => ?_)
      · exact absurd c_158 (by decide)
      · skip
        refine r_aload_n rfl dc_14_88_161 ?_
        refine q_get (v := .ref 111) rx_40 hM rfl dc_14_88_162 ?_
        refine r_iload_n rfl dc_14_88_165 ?_
        refine r_bipush (v := nI 30) (by decide) dc_14_88_166 ?_
        refine r_isub (v := nI h) ((pk_sub (by omega)).trans (congrArg nI (by omega))) dc_14_88_168 ?_
        refine q_ild (e := h) (v := sg 16 h) (by decide) (by decide) hM rfl (show h < 8 by omega) (by omega) (rfl) dc_14_88_169 ?_
        refine r_goto (t := 174) (by decide) dc_14_88_170 ?_
        exact r_iret rfl dc_14_88_174 (rfl)
    · exact absurd c_133 (by decide)
  · exact absurd c_107 (by decide)
set_option maxHeartbeats 4000000 in
theorem c_count_n (M : mH) (hM : 157 ≤ M.1) (io : Nat → Int32) (sg : Nat → Nat → Int32) (nh : Nat) (h3 : io 3 = nI nh) (hnh : nh ≤ 8) (w : Int32) (hw : w.toInt < 0 ∨ 9 < w.toInt) (hno : ¬ (nI 10 ≤ w ∧ w ≤ nI (9 + nh)) ∧ ¬ (nI 20 ≤ w ∧ w ≤ nI (19 + nh)) ∧ ¬ (nI 30 ≤ w ∧ w ≤ nI (29 + nh))) : mm_Ev 2 271 [.ref 100, .int w] (rf_mk M io sg) ((some (.int (-1)), rf_mk M io sg)) := by
  refine r_ev (by decide +kernel) (show (2 : Nat) ≤ mm_nL 271 by decide +kernel) ?_
  show mm_Ru 1 (13, 2, false, prog_14_method_88_code, some .int) 0 [(0, .ref 100), (1, .int w)] [] (rf_mk M io sg) (fun r9 => r9 = ((some (.int (-1)), rf_mk M io sg)))
  refine r_iload_n rfl dc_14_88_0 ?_
  refine r_swOut (t := 94) (hw) (by decide) dc_14_88_1 ?_
  refine r_iload_n rfl dc_14_88_94 ?_
  refine r_bipush (v := nI 10) (by decide) dc_14_88_95 ?_
  refine r_bipush (v := nI 9) (by decide) dc_14_88_97 ?_
  refine r_aload_n rfl dc_14_88_99 ?_
  refine q_get (v := .int (nI nh)) rx_200 hM (congrArg (fun z => some (Value.int z)) (h3)) dc_14_88_100 ?_
  refine r_iadd (v := nI (9 + nh)) (nI_add _ _) dc_14_88_103 ?_
  refine q_calls (as := [.int w, .int (nI 10), .int (nI (9 + nh))]) (rest := []) (v := .int (sp_in w (nI 10) (nI (9 + nh)))) iv_13_s180 na_0_187 rfl (show (0 : Nat) ≤ 8 by decide) dc_14_88_104 (c_in _ w (nI 10) (nI (9 + nh))) ?_
  refine r_ifeq (t := 120) (by decide) dc_14_88_107 (fun c_107 => ?_) (fun c_107 => ?_)
  · skip
    refine r_iload_n rfl dc_14_88_120 ?_
    refine r_bipush (v := nI 20) (by decide) dc_14_88_121 ?_
    refine r_bipush (v := nI 19) (by decide) dc_14_88_123 ?_
    refine r_aload_n rfl dc_14_88_125 ?_
    refine q_get (v := .int (nI nh)) rx_200 hM (congrArg (fun z => some (Value.int z)) (h3)) dc_14_88_126 ?_
    refine r_iadd (v := nI (19 + nh)) (nI_add _ _) dc_14_88_129 ?_
    refine q_calls (as := [.int w, .int (nI 20), .int (nI (19 + nh))]) (rest := []) (v := .int (sp_in w (nI 20) (nI (19 + nh)))) iv_13_s180 na_0_187 rfl (show (0 : Nat) ≤ 8 by decide) dc_14_88_130 (c_in _ w (nI 20) (nI (19 + nh))) ?_
    refine r_ifeq (t := 145) (by decide) dc_14_88_133 (fun c_133 => ?_) (fun c_133 => ?_)
    · skip
      refine r_iload_n rfl dc_14_88_145 ?_
      refine r_bipush (v := nI 30) (by decide) dc_14_88_146 ?_
      refine r_bipush (v := nI 29) (by decide) dc_14_88_148 ?_
      refine r_aload_n rfl dc_14_88_150 ?_
      refine q_get (v := .int (nI nh)) rx_200 hM (congrArg (fun z => some (Value.int z)) (h3)) dc_14_88_151 ?_
      refine r_iadd (v := nI (29 + nh)) (nI_add _ _) dc_14_88_154 ?_
      refine q_calls (as := [.int w, .int (nI 30), .int (nI (29 + nh))]) (rest := []) (v := .int (sp_in w (nI 30) (nI (29 + nh)))) iv_13_s180 na_0_187 rfl (show (0 : Nat) ≤ 8 by decide) dc_14_88_155 (c_in _ w (nI 30) (nI (29 + nh))) ?_
      refine r_ifeq (t := 173) (by decide) dc_14_88_158 (fun c_158 => ?_) (fun c_158 => ?_)
      · skip
        refine r_iconst (v := -1) (by decide) dc_14_88_173 ?_
        exact r_iret rfl dc_14_88_174 (rfl)
      · skip
        exact absurd (sp_in_ne c_158) hno.2.2
    · skip
      exact absurd (sp_in_ne c_133) hno.2.1
  · skip
    exact absurd (sp_in_ne c_107) hno.1
