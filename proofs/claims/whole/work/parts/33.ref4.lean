/-! the reference: turn -/
theorem dc_14_7_0 : decode prog_14_method_7_code 0 = .ok (.iconst 2, 1) := by decide +kernel
theorem dc_14_7_1 : decode prog_14_method_7_code 1 = .ok (.aload_n 0, 1) := by decide +kernel
theorem dc_14_7_2 : decode prog_14_method_7_code 2 = .ok (.iload_n 1, 1) := by decide +kernel
theorem dc_14_7_3 : decode prog_14_method_7_code 3 = .ok (.iload_n 3, 1) := by decide +kernel
theorem dc_14_7_4 : decode prog_14_method_7_code 4 = .ok (.invokevirtual 184, 3) := by decide +kernel
theorem dc_14_7_7 : decode prog_14_method_7_code 7 = .ok (.imul, 1) := by decide +kernel
theorem dc_14_7_8 : decode prog_14_method_7_code 8 = .ok (.aload_n 0, 1) := by decide +kernel
theorem dc_14_7_9 : decode prog_14_method_7_code 9 = .ok (.getfield 16, 3) := by decide +kernel
theorem dc_14_7_12 : decode prog_14_method_7_code 12 = .ok (.bipush 11, 2) := by decide +kernel
theorem dc_14_7_14 : decode prog_14_method_7_code 14 = .ok (.iload_n 1, 1) := by decide +kernel
theorem dc_14_7_15 : decode prog_14_method_7_code 15 = .ok (.imul, 1) := by decide +kernel
theorem dc_14_7_16 : decode prog_14_method_7_code 16 = .ok (.iload_n 3, 1) := by decide +kernel
theorem dc_14_7_17 : decode prog_14_method_7_code 17 = .ok (.iadd, 1) := by decide +kernel
theorem dc_14_7_18 : decode prog_14_method_7_code 18 = .ok (.iaload, 1) := by decide +kernel
theorem dc_14_7_19 : decode prog_14_method_7_code 19 = .ok (.iadd, 1) := by decide +kernel
theorem dc_14_7_20 : decode prog_14_method_7_code 20 = .ok (.istore 4, 2) := by decide +kernel
theorem dc_14_7_22 : decode prog_14_method_7_code 22 = .ok (.iconst 2, 1) := by decide +kernel
theorem dc_14_7_23 : decode prog_14_method_7_code 23 = .ok (.aload_n 0, 1) := by decide +kernel
theorem dc_14_7_24 : decode prog_14_method_7_code 24 = .ok (.iload_n 1, 1) := by decide +kernel
theorem dc_14_7_25 : decode prog_14_method_7_code 25 = .ok (.invokevirtual 188, 3) := by decide +kernel
theorem dc_14_7_28 : decode prog_14_method_7_code 28 = .ok (.imul, 1) := by decide +kernel
theorem dc_14_7_29 : decode prog_14_method_7_code 29 = .ok (.istore 5, 2) := by decide +kernel
theorem dc_14_7_31 : decode prog_14_method_7_code 31 = .ok (.iconst (-1), 1) := by decide +kernel
theorem dc_14_7_32 : decode prog_14_method_7_code 32 = .ok (.istore 6, 2) := by decide +kernel
theorem dc_14_7_34 : decode prog_14_method_7_code 34 = .ok (.iconst 0, 1) := by decide +kernel
theorem dc_14_7_35 : decode prog_14_method_7_code 35 = .ok (.istore 7, 2) := by decide +kernel
theorem dc_14_7_37 : decode prog_14_method_7_code 37 = .ok (.iload 7, 2) := by decide +kernel
theorem dc_14_7_39 : decode prog_14_method_7_code 39 = .ok (.bipush 11, 2) := by decide +kernel
theorem dc_14_7_41 : decode prog_14_method_7_code 41 = .ok (.if_icmp .ge 52, 3) := by decide +kernel
theorem dc_14_7_44 : decode prog_14_method_7_code 44 = .ok (.aload_n 0, 1) := by decide +kernel
theorem dc_14_7_45 : decode prog_14_method_7_code 45 = .ok (.getfield 16, 3) := by decide +kernel
theorem dc_14_7_48 : decode prog_14_method_7_code 48 = .ok (.bipush 11, 2) := by decide +kernel
theorem dc_14_7_50 : decode prog_14_method_7_code 50 = .ok (.iload_n 2, 1) := by decide +kernel
theorem dc_14_7_51 : decode prog_14_method_7_code 51 = .ok (.imul, 1) := by decide +kernel
theorem dc_14_7_52 : decode prog_14_method_7_code 52 = .ok (.iload 7, 2) := by decide +kernel
theorem dc_14_7_54 : decode prog_14_method_7_code 54 = .ok (.iadd, 1) := by decide +kernel
theorem dc_14_7_55 : decode prog_14_method_7_code 55 = .ok (.iaload, 1) := by decide +kernel
theorem dc_14_7_56 : decode prog_14_method_7_code 56 = .ok (.ifCond .ne 6, 3) := by decide +kernel
theorem dc_14_7_59 : decode prog_14_method_7_code 59 = .ok (.goto 28, 3) := by decide +kernel
theorem dc_14_7_62 : decode prog_14_method_7_code 62 = .ok (.aload_n 0, 1) := by decide +kernel
theorem dc_14_7_63 : decode prog_14_method_7_code 63 = .ok (.iload_n 2, 1) := by decide +kernel
theorem dc_14_7_64 : decode prog_14_method_7_code 64 = .ok (.iload 7, 2) := by decide +kernel
theorem dc_14_7_66 : decode prog_14_method_7_code 66 = .ok (.invokevirtual 184, 3) := by decide +kernel
theorem dc_14_7_69 : decode prog_14_method_7_code 69 = .ok (.iload 5, 2) := by decide +kernel
theorem dc_14_7_71 : decode prog_14_method_7_code 71 = .ok (.imul, 1) := by decide +kernel
theorem dc_14_7_72 : decode prog_14_method_7_code 72 = .ok (.iload 4, 2) := by decide +kernel
theorem dc_14_7_74 : decode prog_14_method_7_code 74 = .ok (.aload_n 0, 1) := by decide +kernel
theorem dc_14_7_75 : decode prog_14_method_7_code 75 = .ok (.iload_n 2, 1) := by decide +kernel
theorem dc_14_7_76 : decode prog_14_method_7_code 76 = .ok (.invokevirtual 188, 3) := by decide +kernel
theorem dc_14_7_79 : decode prog_14_method_7_code 79 = .ok (.imul, 1) := by decide +kernel
theorem dc_14_7_80 : decode prog_14_method_7_code 80 = .ok (.if_icmp .gt 7, 3) := by decide +kernel
theorem dc_14_7_83 : decode prog_14_method_7_code 83 = .ok (.iload 7, 2) := by decide +kernel
theorem dc_14_7_85 : decode prog_14_method_7_code 85 = .ok (.istore 6, 2) := by decide +kernel
theorem dc_14_7_87 : decode prog_14_method_7_code 87 = .ok (.iinc 7 1, 3) := by decide +kernel
theorem dc_14_7_90 : decode prog_14_method_7_code 90 = .ok (.goto (-53), 3) := by decide +kernel
theorem dc_14_7_93 : decode prog_14_method_7_code 93 = .ok (.iload 6, 2) := by decide +kernel
theorem dc_14_7_95 : decode prog_14_method_7_code 95 = .ok (.ireturn, 1) := by decide +kernel
theorem dc_14_8_0 : decode prog_14_method_8_code 0 = .ok (.aload_n 0, 1) := by decide +kernel
theorem dc_14_8_1 : decode prog_14_method_8_code 1 = .ok (.iload_n 1, 1) := by decide +kernel
theorem dc_14_8_2 : decode prog_14_method_8_code 2 = .ok (.iload_n 2, 1) := by decide +kernel
theorem dc_14_8_3 : decode prog_14_method_8_code 3 = .ok (.invokevirtual 184, 3) := by decide +kernel
theorem dc_14_8_6 : decode prog_14_method_8_code 6 = .ok (.aload_n 0, 1) := by decide +kernel
theorem dc_14_8_7 : decode prog_14_method_8_code 7 = .ok (.iload_n 3, 1) := by decide +kernel
theorem dc_14_8_8 : decode prog_14_method_8_code 8 = .ok (.invokevirtual 188, 3) := by decide +kernel
theorem dc_14_8_11 : decode prog_14_method_8_code 11 = .ok (.imul, 1) := by decide +kernel
theorem dc_14_8_12 : decode prog_14_method_8_code 12 = .ok (.istore 5, 2) := by decide +kernel
theorem dc_14_8_14 : decode prog_14_method_8_code 14 = .ok (.aload_n 0, 1) := by decide +kernel
theorem dc_14_8_15 : decode prog_14_method_8_code 15 = .ok (.iload_n 1, 1) := by decide +kernel
theorem dc_14_8_16 : decode prog_14_method_8_code 16 = .ok (.iload_n 2, 1) := by decide +kernel
theorem dc_14_8_17 : decode prog_14_method_8_code 17 = .ok (.invokevirtual 184, 3) := by decide +kernel
theorem dc_14_8_20 : decode prog_14_method_8_code 20 = .ok (.aload_n 0, 1) := by decide +kernel
theorem dc_14_8_21 : decode prog_14_method_8_code 21 = .ok (.getfield 16, 3) := by decide +kernel
theorem dc_14_8_24 : decode prog_14_method_8_code 24 = .ok (.bipush 11, 2) := by decide +kernel
theorem dc_14_8_26 : decode prog_14_method_8_code 26 = .ok (.iload_n 1, 1) := by decide +kernel
theorem dc_14_8_27 : decode prog_14_method_8_code 27 = .ok (.imul, 1) := by decide +kernel
theorem dc_14_8_28 : decode prog_14_method_8_code 28 = .ok (.iload_n 2, 1) := by decide +kernel
theorem dc_14_8_29 : decode prog_14_method_8_code 29 = .ok (.iadd, 1) := by decide +kernel
theorem dc_14_8_30 : decode prog_14_method_8_code 30 = .ok (.iaload, 1) := by decide +kernel
theorem dc_14_8_31 : decode prog_14_method_8_code 31 = .ok (.iadd, 1) := by decide +kernel
theorem dc_14_8_32 : decode prog_14_method_8_code 32 = .ok (.aload_n 0, 1) := by decide +kernel
theorem dc_14_8_33 : decode prog_14_method_8_code 33 = .ok (.iload_n 3, 1) := by decide +kernel
theorem dc_14_8_34 : decode prog_14_method_8_code 34 = .ok (.invokevirtual 188, 3) := by decide +kernel
theorem dc_14_8_37 : decode prog_14_method_8_code 37 = .ok (.imul, 1) := by decide +kernel
theorem dc_14_8_38 : decode prog_14_method_8_code 38 = .ok (.istore 6, 2) := by decide +kernel
theorem dc_14_8_40 : decode prog_14_method_8_code 40 = .ok (.aload_n 0, 1) := by decide +kernel
theorem dc_14_8_41 : decode prog_14_method_8_code 41 = .ok (.iload_n 3, 1) := by decide +kernel
theorem dc_14_8_42 : decode prog_14_method_8_code 42 = .ok (.iload 4, 2) := by decide +kernel
theorem dc_14_8_44 : decode prog_14_method_8_code 44 = .ok (.invokevirtual 184, 3) := by decide +kernel
theorem dc_14_8_47 : decode prog_14_method_8_code 47 = .ok (.aload_n 0, 1) := by decide +kernel
theorem dc_14_8_48 : decode prog_14_method_8_code 48 = .ok (.iload_n 1, 1) := by decide +kernel
theorem dc_14_8_49 : decode prog_14_method_8_code 49 = .ok (.invokevirtual 188, 3) := by decide +kernel
theorem dc_14_8_52 : decode prog_14_method_8_code 52 = .ok (.imul, 1) := by decide +kernel
theorem dc_14_8_53 : decode prog_14_method_8_code 53 = .ok (.istore 7, 2) := by decide +kernel
theorem dc_14_8_55 : decode prog_14_method_8_code 55 = .ok (.aload_n 0, 1) := by decide +kernel
theorem dc_14_8_56 : decode prog_14_method_8_code 56 = .ok (.iload_n 3, 1) := by decide +kernel
theorem dc_14_8_57 : decode prog_14_method_8_code 57 = .ok (.iload 4, 2) := by decide +kernel
theorem dc_14_8_59 : decode prog_14_method_8_code 59 = .ok (.invokevirtual 184, 3) := by decide +kernel
theorem dc_14_8_62 : decode prog_14_method_8_code 62 = .ok (.aload_n 0, 1) := by decide +kernel
theorem dc_14_8_63 : decode prog_14_method_8_code 63 = .ok (.getfield 16, 3) := by decide +kernel
theorem dc_14_8_66 : decode prog_14_method_8_code 66 = .ok (.bipush 11, 2) := by decide +kernel
theorem dc_14_8_68 : decode prog_14_method_8_code 68 = .ok (.iload_n 3, 1) := by decide +kernel
theorem dc_14_8_69 : decode prog_14_method_8_code 69 = .ok (.imul, 1) := by decide +kernel
theorem dc_14_8_70 : decode prog_14_method_8_code 70 = .ok (.iload 4, 2) := by decide +kernel
theorem dc_14_8_72 : decode prog_14_method_8_code 72 = .ok (.iadd, 1) := by decide +kernel
theorem dc_14_8_73 : decode prog_14_method_8_code 73 = .ok (.iaload, 1) := by decide +kernel
theorem dc_14_8_74 : decode prog_14_method_8_code 74 = .ok (.iadd, 1) := by decide +kernel
theorem dc_14_8_75 : decode prog_14_method_8_code 75 = .ok (.aload_n 0, 1) := by decide +kernel
theorem dc_14_8_76 : decode prog_14_method_8_code 76 = .ok (.iload_n 1, 1) := by decide +kernel
theorem dc_14_8_77 : decode prog_14_method_8_code 77 = .ok (.invokevirtual 188, 3) := by decide +kernel
theorem dc_14_8_80 : decode prog_14_method_8_code 80 = .ok (.imul, 1) := by decide +kernel
theorem dc_14_8_81 : decode prog_14_method_8_code 81 = .ok (.istore 8, 2) := by decide +kernel
theorem dc_14_8_83 : decode prog_14_method_8_code 83 = .ok (.iload 5, 2) := by decide +kernel
theorem dc_14_8_85 : decode prog_14_method_8_code 85 = .ok (.iload 7, 2) := by decide +kernel
theorem dc_14_8_87 : decode prog_14_method_8_code 87 = .ok (.if_icmp .le 8, 3) := by decide +kernel
theorem dc_14_8_90 : decode prog_14_method_8_code 90 = .ok (.iload 5, 2) := by decide +kernel
theorem dc_14_8_92 : decode prog_14_method_8_code 92 = .ok (.goto 5, 3) := by decide +kernel
theorem dc_14_8_95 : decode prog_14_method_8_code 95 = .ok (.iload 7, 2) := by decide +kernel
theorem dc_14_8_97 : decode prog_14_method_8_code 97 = .ok (.iload 6, 2) := by decide +kernel
theorem dc_14_8_99 : decode prog_14_method_8_code 99 = .ok (.iload 8, 2) := by decide +kernel
theorem dc_14_8_101 : decode prog_14_method_8_code 101 = .ok (.if_icmp .ge 8, 3) := by decide +kernel
theorem dc_14_8_104 : decode prog_14_method_8_code 104 = .ok (.iload 6, 2) := by decide +kernel
theorem dc_14_8_106 : decode prog_14_method_8_code 106 = .ok (.goto 5, 3) := by decide +kernel
theorem dc_14_8_109 : decode prog_14_method_8_code 109 = .ok (.iload 8, 2) := by decide +kernel
theorem dc_14_8_111 : decode prog_14_method_8_code 111 = .ok (.if_icmp .ge 7, 3) := by decide +kernel
theorem dc_14_8_114 : decode prog_14_method_8_code 114 = .ok (.iconst 1, 1) := by decide +kernel
theorem dc_14_8_115 : decode prog_14_method_8_code 115 = .ok (.goto 4, 3) := by decide +kernel
theorem dc_14_8_118 : decode prog_14_method_8_code 118 = .ok (.iconst 0, 1) := by decide +kernel
theorem dc_14_8_119 : decode prog_14_method_8_code 119 = .ok (.ireturn, 1) := by decide +kernel
theorem dc_14_9_0 : decode prog_14_method_9_code 0 = .ok (.iload_n 1, 1) := by decide +kernel
theorem dc_14_9_1 : decode prog_14_method_9_code 1 = .ok (.iconst 0, 1) := by decide +kernel
theorem dc_14_9_2 : decode prog_14_method_9_code 2 = .ok (.iconst 3, 1) := by decide +kernel
theorem dc_14_9_3 : decode prog_14_method_9_code 3 = .ok (.invokestatic 180, 3) := by decide +kernel
theorem dc_14_9_6 : decode prog_14_method_9_code 6 = .ok (.ifCond .eq 48, 3) := by decide +kernel
theorem dc_14_9_9 : decode prog_14_method_9_code 9 = .ok (.iload_n 2, 1) := by decide +kernel
theorem dc_14_9_10 : decode prog_14_method_9_code 10 = .ok (.iconst 0, 1) := by decide +kernel
theorem dc_14_9_11 : decode prog_14_method_9_code 11 = .ok (.iconst 3, 1) := by decide +kernel
theorem dc_14_9_12 : decode prog_14_method_9_code 12 = .ok (.invokestatic 180, 3) := by decide +kernel
theorem dc_14_9_15 : decode prog_14_method_9_code 15 = .ok (.ifCond .eq 39, 3) := by decide +kernel
theorem dc_14_9_18 : decode prog_14_method_9_code 18 = .ok (.iload_n 3, 1) := by decide +kernel
theorem dc_14_9_19 : decode prog_14_method_9_code 19 = .ok (.iconst 0, 1) := by decide +kernel
theorem dc_14_9_20 : decode prog_14_method_9_code 20 = .ok (.bipush 10, 2) := by decide +kernel
theorem dc_14_9_22 : decode prog_14_method_9_code 22 = .ok (.invokestatic 180, 3) := by decide +kernel
theorem dc_14_9_25 : decode prog_14_method_9_code 25 = .ok (.ifCond .eq 29, 3) := by decide +kernel
theorem dc_14_9_28 : decode prog_14_method_9_code 28 = .ok (.iload 4, 2) := by decide +kernel
theorem dc_14_9_30 : decode prog_14_method_9_code 30 = .ok (.iconst 0, 1) := by decide +kernel
theorem dc_14_9_31 : decode prog_14_method_9_code 31 = .ok (.iconst 2, 1) := by decide +kernel
theorem dc_14_9_32 : decode prog_14_method_9_code 32 = .ok (.invokestatic 180, 3) := by decide +kernel
theorem dc_14_9_35 : decode prog_14_method_9_code 35 = .ok (.ifCond .eq 19, 3) := by decide +kernel
theorem dc_14_9_38 : decode prog_14_method_9_code 38 = .ok (.aload_n 0, 1) := by decide +kernel
theorem dc_14_9_39 : decode prog_14_method_9_code 39 = .ok (.iload_n 1, 1) := by decide +kernel
theorem dc_14_9_40 : decode prog_14_method_9_code 40 = .ok (.invokevirtual 188, 3) := by decide +kernel
theorem dc_14_9_43 : decode prog_14_method_9_code 43 = .ok (.ifCond .eq 11, 3) := by decide +kernel
theorem dc_14_9_46 : decode prog_14_method_9_code 46 = .ok (.aload_n 0, 1) := by decide +kernel
theorem dc_14_9_47 : decode prog_14_method_9_code 47 = .ok (.iload_n 2, 1) := by decide +kernel
theorem dc_14_9_48 : decode prog_14_method_9_code 48 = .ok (.invokevirtual 188, 3) := by decide +kernel
theorem dc_14_9_51 : decode prog_14_method_9_code 51 = .ok (.ifCond .ne 5, 3) := by decide +kernel
theorem dc_14_9_54 : decode prog_14_method_9_code 54 = .ok (.iconst (-1), 1) := by decide +kernel
theorem dc_14_9_55 : decode prog_14_method_9_code 55 = .ok (.ireturn, 1) := by decide +kernel
theorem dc_14_9_56 : decode prog_14_method_9_code 56 = .ok (.iload 4, 2) := by decide +kernel
theorem dc_14_9_58 : decode prog_14_method_9_code 58 = .ok (.ifCond .eq 17, 3) := by decide +kernel
theorem dc_14_9_61 : decode prog_14_method_9_code 61 = .ok (.aload_n 0, 1) := by decide +kernel
theorem dc_14_9_62 : decode prog_14_method_9_code 62 = .ok (.getfield 16, 3) := by decide +kernel
theorem dc_14_9_65 : decode prog_14_method_9_code 65 = .ok (.bipush 11, 2) := by decide +kernel
theorem dc_14_9_67 : decode prog_14_method_9_code 67 = .ok (.iload_n 1, 1) := by decide +kernel
theorem dc_14_9_68 : decode prog_14_method_9_code 68 = .ok (.imul, 1) := by decide +kernel
theorem dc_14_9_69 : decode prog_14_method_9_code 69 = .ok (.iload_n 3, 1) := by decide +kernel
theorem dc_14_9_70 : decode prog_14_method_9_code 70 = .ok (.iadd, 1) := by decide +kernel
theorem dc_14_9_71 : decode prog_14_method_9_code 71 = .ok (.iaload, 1) := by decide +kernel
theorem dc_14_9_72 : decode prog_14_method_9_code 72 = .ok (.ifCond .ne 11, 3) := by decide +kernel
theorem dc_14_9_75 : decode prog_14_method_9_code 75 = .ok (.aload_n 0, 1) := by decide +kernel
theorem dc_14_9_76 : decode prog_14_method_9_code 76 = .ok (.iload_n 1, 1) := by decide +kernel
theorem dc_14_9_77 : decode prog_14_method_9_code 77 = .ok (.iload_n 2, 1) := by decide +kernel
theorem dc_14_9_78 : decode prog_14_method_9_code 78 = .ok (.iload_n 3, 1) := by decide +kernel
theorem dc_14_9_79 : decode prog_14_method_9_code 79 = .ok (.invokevirtual 192, 3) := by decide +kernel
theorem dc_14_9_82 : decode prog_14_method_9_code 82 = .ok (.ireturn, 1) := by decide +kernel
theorem dc_14_9_83 : decode prog_14_method_9_code 83 = .ok (.iconst (-1), 1) := by decide +kernel
theorem dc_14_9_84 : decode prog_14_method_9_code 84 = .ok (.istore 5, 2) := by decide +kernel
theorem dc_14_9_86 : decode prog_14_method_9_code 86 = .ok (.iconst (-1), 1) := by decide +kernel
theorem dc_14_9_87 : decode prog_14_method_9_code 87 = .ok (.istore 6, 2) := by decide +kernel
theorem dc_14_9_89 : decode prog_14_method_9_code 89 = .ok (.iconst 0, 1) := by decide +kernel
theorem dc_14_9_90 : decode prog_14_method_9_code 90 = .ok (.istore 7, 2) := by decide +kernel
theorem dc_14_9_92 : decode prog_14_method_9_code 92 = .ok (.iload 7, 2) := by decide +kernel
theorem dc_14_9_94 : decode prog_14_method_9_code 94 = .ok (.bipush 11, 2) := by decide +kernel
theorem dc_14_9_96 : decode prog_14_method_9_code 96 = .ok (.if_icmp .ge 43, 3) := by decide +kernel
theorem dc_14_9_99 : decode prog_14_method_9_code 99 = .ok (.aload_n 0, 1) := by decide +kernel
theorem dc_14_9_100 : decode prog_14_method_9_code 100 = .ok (.iload_n 1, 1) := by decide +kernel
theorem dc_14_9_101 : decode prog_14_method_9_code 101 = .ok (.iload_n 3, 1) := by decide +kernel
theorem dc_14_9_102 : decode prog_14_method_9_code 102 = .ok (.iload_n 2, 1) := by decide +kernel
theorem dc_14_9_103 : decode prog_14_method_9_code 103 = .ok (.iload 7, 2) := by decide +kernel
theorem dc_14_9_105 : decode prog_14_method_9_code 105 = .ok (.invokevirtual 196, 3) := by decide +kernel
theorem dc_14_9_108 : decode prog_14_method_9_code 108 = .ok (.ifCond .ne 6, 3) := by decide +kernel
theorem dc_14_9_111 : decode prog_14_method_9_code 111 = .ok (.goto 22, 3) := by decide +kernel
theorem dc_14_9_114 : decode prog_14_method_9_code 114 = .ok (.iload 5, 2) := by decide +kernel
theorem dc_14_9_116 : decode prog_14_method_9_code 116 = .ok (.iconst (-1), 1) := by decide +kernel
theorem dc_14_9_117 : decode prog_14_method_9_code 117 = .ok (.if_icmp .ne 8, 3) := by decide +kernel
theorem dc_14_9_120 : decode prog_14_method_9_code 120 = .ok (.iload 7, 2) := by decide +kernel
theorem dc_14_9_122 : decode prog_14_method_9_code 122 = .ok (.goto 5, 3) := by decide +kernel
theorem dc_14_9_125 : decode prog_14_method_9_code 125 = .ok (.iload 5, 2) := by decide +kernel
theorem dc_14_9_127 : decode prog_14_method_9_code 127 = .ok (.istore 5, 2) := by decide +kernel
theorem dc_14_9_129 : decode prog_14_method_9_code 129 = .ok (.iload 7, 2) := by decide +kernel
theorem dc_14_9_131 : decode prog_14_method_9_code 131 = .ok (.istore 6, 2) := by decide +kernel
theorem dc_14_9_133 : decode prog_14_method_9_code 133 = .ok (.iinc 7 1, 3) := by decide +kernel
theorem dc_14_9_136 : decode prog_14_method_9_code 136 = .ok (.goto (-44), 3) := by decide +kernel
theorem dc_14_9_139 : decode prog_14_method_9_code 139 = .ok (.iload 4, 2) := by decide +kernel
theorem dc_14_9_141 : decode prog_14_method_9_code 141 = .ok (.iconst 1, 1) := by decide +kernel
theorem dc_14_9_142 : decode prog_14_method_9_code 142 = .ok (.if_icmp .ne 8, 3) := by decide +kernel
theorem dc_14_9_145 : decode prog_14_method_9_code 145 = .ok (.iload 5, 2) := by decide +kernel
theorem dc_14_9_147 : decode prog_14_method_9_code 147 = .ok (.goto 5, 3) := by decide +kernel
theorem dc_14_9_150 : decode prog_14_method_9_code 150 = .ok (.iload 6, 2) := by decide +kernel
theorem dc_14_9_152 : decode prog_14_method_9_code 152 = .ok (.ireturn, 1) := by decide +kernel
theorem iv_13_v188 : mm_iv 13 (.invokevirtual 188) = some (1, 190) := by decide +kernel
theorem iv_13_v192 : mm_iv 13 (.invokevirtual 192) = some (1, 192) := by decide +kernel
theorem iv_13_v196 : mm_iv 13 (.invokevirtual 196) = some (1, 193) := by decide +kernel
theorem o_190 : mm_o 190 = 13 := by decide +kernel
theorem o_192 : mm_o 192 = 13 := by decide +kernel
theorem o_193 : mm_o 193 = 13 := by decide +kernel
theorem na_1_190 : mm_nas 1 190 = 2 := by decide +kernel
theorem na_1_192 : mm_nas 1 192 = 4 := by decide +kernel
theorem na_1_193 : mm_nas 1 193 = 5 := by decide +kernel
def sp_tuC (sg : Nat → Nat → Int32) (fr to mk m : Nat) : Prop := ¬ sg 2 (11 * to + m) = 0 ∧ sp_below sg to m * (nI 2 * sp_below sg fr 11) ≤ (nI 2 * sp_below sg fr mk + sg 2 (11 * fr + mk)) * sp_below sg to 11
noncomputable def sp_tu (sg : Nat → Nat → Int32) (fr to mk : Nat) : Nat → Int32
  | 0 => -1
  | m + 1 => @ite _ (sp_tuC sg fr to mk m) (Classical.propDecidable _) (nI m) (sp_tu sg fr to mk m)
theorem sp_tu_p {sg : Nat → Nat → Int32} {fr to mk m : Nat} (h : sp_tuC sg fr to mk m) : sp_tu sg fr to mk (m + 1) = nI m := if_pos h
theorem sp_tu_n {sg : Nat → Nat → Int32} {fr to mk m : Nat} (h : ¬ sp_tuC sg fr to mk m) : sp_tu sg fr to mk (m + 1) = sp_tu sg fr to mk m := if_neg h
set_option maxHeartbeats 4000000 in
theorem c_turned (M : mH) (hM : 157 ≤ M.1) (io : Nat → Int32) (sg : Nat → Nat → Int32) (fr to mk : Nat) (hf : fr < 4) (ht : to < 4) (hk : mk < 11) : mm_Ev 3 192 [.ref 100, .int (nI fr), .int (nI to), .int (nI mk)] (rf_mk M io sg) ((some (.int (sp_tu sg fr to mk 11)), rf_mk M io sg)) := by
  refine r_ev (by decide +kernel) (show (4 : Nat) ≤ mm_nL 192 by decide +kernel) ?_
  show mm_Ru 2 (13, 8, false, prog_14_method_7_code, some .int) 0 [(0, .ref 100), (1, .int (nI fr)), (2, .int (nI to)), (3, .int (nI mk))] [] (rf_mk M io sg) (fun z => z = ((some (.int (sp_tu sg fr to mk 11)), rf_mk M io sg)))
  refine r_iconst (v := nI 2) (by decide) dc_14_7_0 ?_
  refine r_aload_n rfl dc_14_7_1 ?_
  refine r_iload_n rfl dc_14_7_2 ?_
  refine r_iload_n rfl dc_14_7_3 ?_
  refine q_calli (as := [.int (nI fr), .int (nI mk)]) (rest := [.int (nI 2)]) (v := .int (sp_below sg fr mk)) (M1 := rf_mk M io sg) iv_13_v184 na_1_191 o_191 hM rfl (show (1 : Nat) ≤ 8 by decide) dc_14_7_4 (mm_Ev_up (by decide : 1 ≤ 2) (c_below M hM io sg fr mk (by omega) (by omega))) ?_
  refine r_imul (v := (nI 2) * (sp_below sg fr mk)) (rfl) dc_14_7_7 ?_
  refine r_aload_n rfl dc_14_7_8 ?_
  refine q_get (v := .ref 103) rx_16 hM rfl dc_14_7_9 ?_
  refine r_bipush (v := nI 11) (by decide) dc_14_7_12 ?_
  refine r_iload_n rfl dc_14_7_14 ?_
  refine r_imul (v := nI (11 * fr)) (pk_mul _ _) dc_14_7_15 ?_
  refine r_iload_n rfl dc_14_7_16 ?_
  refine r_iadd (v := nI (11 * fr + mk)) (nI_add _ _) dc_14_7_17 ?_
  refine q_ild (e := 11 * fr + mk) (v := sg 2 (11 * fr + mk)) (by decide) (by decide) hM rfl (show 11 * fr + mk < 44 by omega) (by omega) (rfl) dc_14_7_18 ?_
  refine r_iadd (v := ((nI 2) * (sp_below sg fr mk)) + (sg 2 (11 * fr + mk))) (rfl) dc_14_7_19 ?_
  refine r_istore (ls' := [(4, .int (((nI 2) * (sp_below sg fr mk)) + (sg 2 (11 * fr + mk)))), (0, .ref 100), (1, .int (nI fr)), (2, .int (nI to)), (3, .int (nI mk))]) (by decide) rfl dc_14_7_20 ?_
  refine r_iconst (v := nI 2) (by decide) dc_14_7_22 ?_
  refine r_aload_n rfl dc_14_7_23 ?_
  refine r_iload_n rfl dc_14_7_24 ?_
  refine q_calli (as := [.int (nI fr)]) (rest := [.int (nI 2)]) (v := .int (sp_below sg fr 11)) (M1 := rf_mk M io sg) iv_13_v188 na_1_190 o_190 hM rfl (show (1 : Nat) ≤ 8 by decide) dc_14_7_25 (mm_Ev_up (by decide : 2 ≤ 2) (c_allOf M hM io sg fr (by omega))) ?_
  refine r_imul (v := (nI 2) * (sp_below sg fr 11)) (rfl) dc_14_7_28 ?_
  refine r_istore (ls' := [(5, .int ((nI 2) * (sp_below sg fr 11))), (4, .int (((nI 2) * (sp_below sg fr mk)) + (sg 2 (11 * fr + mk)))), (0, .ref 100), (1, .int (nI fr)), (2, .int (nI to)), (3, .int (nI mk))]) (by decide) rfl dc_14_7_29 ?_
  refine r_iconst (v := -1) (by decide) dc_14_7_31 ?_
  refine r_istore (ls' := [(6, .int ((-1))), (5, .int ((nI 2) * (sp_below sg fr 11))), (4, .int (((nI 2) * (sp_below sg fr mk)) + (sg 2 (11 * fr + mk)))), (0, .ref 100), (1, .int (nI fr)), (2, .int (nI to)), (3, .int (nI mk))]) (by decide) rfl dc_14_7_32 ?_
  refine r_iconst (v := nI 0) (by decide) dc_14_7_34 ?_
  refine r_istore (ls' := [(7, .int (nI 0)), (6, .int ((-1))), (5, .int ((nI 2) * (sp_below sg fr 11))), (4, .int (((nI 2) * (sp_below sg fr mk)) + (sg 2 (11 * fr + mk)))), (0, .ref 100), (1, .int (nI fr)), (2, .int (nI to)), (3, .int (nI mk))]) (by decide) rfl dc_14_7_35 ?_
  refine r_ls [(7, .int (nI 0)), (6, .int ((-1))), (4, .int (((nI 2) * (sp_below sg fr mk)) + (sg 2 (11 * fr + mk)))), (5, .int ((nI 2) * (sp_below sg fr 11))), (0, .ref 100), (1, .int (nI fr)), (2, .int (nI to)), (3, .int (nI mk))] (mm_ndk_of [7, 6, 4, 5, 0, 1, 2, 3] rfl (by decide)) (mm_sub_cons rfl (mm_sub_cons rfl (mm_sub_cons rfl (mm_sub_cons rfl (mm_sub_cons rfl (mm_sub_cons rfl (mm_sub_cons rfl (mm_sub_cons rfl (mm_sub_nil _))))))))) ?_
  refine mm_cnt (P := fun m => ∀ (acc : Int32), (acc = sp_tu sg fr to mk m) → mm_Ru 2 (13, 8, false, prog_14_method_7_code, some .int) 37 [(7, .int (nI m)), (6, .int acc), (4, .int (((nI 2) * (sp_below sg fr mk)) + (sg 2 (11 * fr + mk)))), (5, .int ((nI 2) * (sp_below sg fr 11))), (0, .ref 100), (1, .int (nI fr)), (2, .int (nI to)), (3, .int (nI mk))] [] (rf_mk M io sg) (fun z => z = ((some (.int (sp_tu sg fr to mk 11)), rf_mk M io sg)))) 11 ?_ ?_ 0 (by omega) ((-1)) (rfl)
  · intro acc hi_m
    show mm_Ru 2 (13, 8, false, prog_14_method_7_code, some .int) 37 [(7, .int (nI 11)), (6, .int acc), (4, .int (((nI 2) * (sp_below sg fr mk)) + (sg 2 (11 * fr + mk)))), (5, .int ((nI 2) * (sp_below sg fr 11))), (0, .ref 100), (1, .int (nI fr)), (2, .int (nI to)), (3, .int (nI mk))] [] (rf_mk M io sg) (fun z => z = ((some (.int (sp_tu sg fr to mk 11)), rf_mk M io sg)))
    refine r_iload rfl dc_14_7_37 ?_
    refine r_bipush (v := nI 11) (by decide) dc_14_7_39 ?_
    refine r_ncge (t := 93) (by omega) (by omega) (by decide) dc_14_7_41 (fun c_41 => ?_) (fun c_41 => ?_)
    · skip
      refine r_iload rfl dc_14_7_93 ?_
      refine r_iret rfl dc_14_7_95 ?_
      rw [hi_m]
    · omega
  · intro m h_m ih_m acc hi_m
    show mm_Ru 2 (13, 8, false, prog_14_method_7_code, some .int) 37 [(7, .int (nI m)), (6, .int acc), (4, .int (((nI 2) * (sp_below sg fr mk)) + (sg 2 (11 * fr + mk)))), (5, .int ((nI 2) * (sp_below sg fr 11))), (0, .ref 100), (1, .int (nI fr)), (2, .int (nI to)), (3, .int (nI mk))] [] (rf_mk M io sg) (fun z => z = ((some (.int (sp_tu sg fr to mk 11)), rf_mk M io sg)))
    refine r_iload rfl dc_14_7_37 ?_
    refine r_bipush (v := nI 11) (by decide) dc_14_7_39 ?_
    refine r_ncge (t := 93) (by omega) (by omega) (by decide) dc_14_7_41 (fun c_41 => ?_) (fun c_41 => ?_)
    · omega
    · skip
      refine r_aload_n rfl dc_14_7_44 ?_
      refine q_get (v := .ref 103) rx_16 hM rfl dc_14_7_45 ?_
      refine r_bipush (v := nI 11) (by decide) dc_14_7_48 ?_
      refine r_iload_n rfl dc_14_7_50 ?_
      refine r_imul (v := nI (11 * to)) (pk_mul _ _) dc_14_7_51 ?_
      refine r_iload rfl dc_14_7_52 ?_
      refine r_iadd (v := nI (11 * to + m)) (nI_add _ _) dc_14_7_54 ?_
      refine q_ild (e := 11 * to + m) (v := sg 2 (11 * to + m)) (by decide) (by decide) hM rfl (show 11 * to + m < 44 by omega) (by omega) (rfl) dc_14_7_55 ?_
      refine r_ifne (t := 62) (by decide) dc_14_7_56 (fun c_56 => ?_) (fun c_56 => ?_)
      · skip
        refine r_aload_n rfl dc_14_7_62 ?_
        refine r_iload_n rfl dc_14_7_63 ?_
        refine r_iload rfl dc_14_7_64 ?_
        refine q_calli (as := [.int (nI to), .int (nI m)]) (rest := []) (v := .int (sp_below sg to m)) (M1 := rf_mk M io sg) iv_13_v184 na_1_191 o_191 hM rfl (show (0 : Nat) ≤ 8 by decide) dc_14_7_66 (mm_Ev_up (by decide : 1 ≤ 2) (c_below M hM io sg to m (by omega) (by omega))) ?_
        refine r_iload rfl dc_14_7_69 ?_
        refine r_imul (v := (sp_below sg to m) * ((nI 2) * (sp_below sg fr 11))) (rfl) dc_14_7_71 ?_
        refine r_iload rfl dc_14_7_72 ?_
        refine r_aload_n rfl dc_14_7_74 ?_
        refine r_iload_n rfl dc_14_7_75 ?_
        refine q_calli (as := [.int (nI to)]) (rest := [.int (((nI 2) * (sp_below sg fr mk)) + (sg 2 (11 * fr + mk))), .int ((sp_below sg to m) * ((nI 2) * (sp_below sg fr 11)))]) (v := .int (sp_below sg to 11)) (M1 := rf_mk M io sg) iv_13_v188 na_1_190 o_190 hM rfl (show (2 : Nat) ≤ 8 by decide) dc_14_7_76 (mm_Ev_up (by decide : 2 ≤ 2) (c_allOf M hM io sg to (by omega))) ?_
        refine r_imul (v := (((nI 2) * (sp_below sg fr mk)) + (sg 2 (11 * fr + mk))) * (sp_below sg to 11)) (rfl) dc_14_7_79 ?_
        refine r_icgt (t := 87) (by decide) dc_14_7_80 (fun c_80 => ?_) (fun c_80 => ?_)
        · skip
          refine r_iinc (x := nI m) (v := nI (m + 1)) (ls' := [(7, .int (nI (m + 1))), (6, .int acc), (4, .int (((nI 2) * (sp_below sg fr mk)) + (sg 2 (11 * fr + mk)))), (5, .int ((nI 2) * (sp_below sg fr 11))), (0, .ref 100), (1, .int (nI fr)), (2, .int (nI to)), (3, .int (nI mk))]) rfl (nI_1 _) (by decide) rfl dc_14_7_87 ?_
          refine r_goto (t := 37) (by decide) dc_14_7_90 ?_
          exact ih_m acc (((sp_tu_n (fun q => absurd c_80 (Int32.not_lt.mpr q.2))).trans hi_m.symm).symm)
        · skip
          refine r_iload rfl dc_14_7_83 ?_
          refine r_istore (ls' := [(6, .int (nI m)), (7, .int (nI m)), (4, .int (((nI 2) * (sp_below sg fr mk)) + (sg 2 (11 * fr + mk)))), (5, .int ((nI 2) * (sp_below sg fr 11))), (0, .ref 100), (1, .int (nI fr)), (2, .int (nI to)), (3, .int (nI mk))]) (by decide) rfl dc_14_7_85 ?_
          refine r_iinc (x := nI m) (v := nI (m + 1)) (ls' := [(7, .int (nI (m + 1))), (6, .int (nI m)), (4, .int (((nI 2) * (sp_below sg fr mk)) + (sg 2 (11 * fr + mk)))), (5, .int ((nI 2) * (sp_below sg fr 11))), (0, .ref 100), (1, .int (nI fr)), (2, .int (nI to)), (3, .int (nI mk))]) rfl (nI_1 _) (by decide) rfl dc_14_7_87 ?_
          refine r_goto (t := 37) (by decide) dc_14_7_90 ?_
          exact ih_m (nI m) ((sp_tu_p ⟨c_56, Int32.not_lt.mp c_80⟩).symm)
      · skip
        refine r_goto (t := 87) (by decide) dc_14_7_59 ?_
        refine r_iinc (x := nI m) (v := nI (m + 1)) (ls' := [(7, .int (nI (m + 1))), (6, .int acc), (4, .int (((nI 2) * (sp_below sg fr mk)) + (sg 2 (11 * fr + mk)))), (5, .int ((nI 2) * (sp_below sg fr 11))), (0, .ref 100), (1, .int (nI fr)), (2, .int (nI to)), (3, .int (nI mk))]) rfl (nI_1 _) (by decide) rfl dc_14_7_87 ?_
        refine r_goto (t := 37) (by decide) dc_14_7_90 ?_
        exact ih_m acc ((sp_tu_n (fun q => q.1 c_56)).trans hi_m.symm |>.symm)
def sp_ov (sg : Nat → Nat → Int32) (fr mk to ot : Nat) : Int32 := if (if sp_below sg fr mk * sp_below sg to 11 ≤ sp_below sg to ot * sp_below sg fr 11 then sp_below sg to ot * sp_below sg fr 11 else sp_below sg fr mk * sp_below sg to 11) < (if (sp_below sg to ot + sg 2 (11 * to + ot)) * sp_below sg fr 11 ≤ (sp_below sg fr mk + sg 2 (11 * fr + mk)) * sp_below sg to 11 then (sp_below sg to ot + sg 2 (11 * to + ot)) * sp_below sg fr 11 else (sp_below sg fr mk + sg 2 (11 * fr + mk)) * sp_below sg to 11) then nI 1 else nI 0
set_option maxHeartbeats 4000000 in
theorem c_overlaps (M : mH) (hM : 157 ≤ M.1) (io : Nat → Int32) (sg : Nat → Nat → Int32) (fr mk to ot : Nat) (hf : fr < 4) (ht : to < 4) (hk : mk < 11) (ho : ot < 11) : mm_Ev 3 193 [.ref 100, .int (nI fr), .int (nI mk), .int (nI to), .int (nI ot)] (rf_mk M io sg) ((some (.int (sp_ov sg fr mk to ot)), rf_mk M io sg)) := by
  refine r_ev (by decide +kernel) (show (5 : Nat) ≤ mm_nL 193 by decide +kernel) ?_
  show mm_Ru 2 (13, 9, false, prog_14_method_8_code, some .boolean) 0 [(0, .ref 100), (1, .int (nI fr)), (2, .int (nI mk)), (3, .int (nI to)), (4, .int (nI ot))] [] (rf_mk M io sg) (fun z => z = ((some (.int (sp_ov sg fr mk to ot)), rf_mk M io sg)))
  refine r_aload_n rfl dc_14_8_0 ?_
  refine r_iload_n rfl dc_14_8_1 ?_
  refine r_iload_n rfl dc_14_8_2 ?_
  refine q_calli (as := [.int (nI fr), .int (nI mk)]) (rest := []) (v := .int (sp_below sg fr mk)) (M1 := rf_mk M io sg) iv_13_v184 na_1_191 o_191 hM rfl (show (0 : Nat) ≤ 8 by decide) dc_14_8_3 (mm_Ev_up (by decide : 1 ≤ 2) (c_below M hM io sg fr mk (by omega) (by omega))) ?_
  refine r_aload_n rfl dc_14_8_6 ?_
  refine r_iload_n rfl dc_14_8_7 ?_
  refine q_calli (as := [.int (nI to)]) (rest := [.int (sp_below sg fr mk)]) (v := .int (sp_below sg to 11)) (M1 := rf_mk M io sg) iv_13_v188 na_1_190 o_190 hM rfl (show (1 : Nat) ≤ 8 by decide) dc_14_8_8 (mm_Ev_up (by decide : 2 ≤ 2) (c_allOf M hM io sg to (by omega))) ?_
  refine r_imul (v := (sp_below sg fr mk) * (sp_below sg to 11)) (rfl) dc_14_8_11 ?_
  refine r_istore (ls' := [(5, .int ((sp_below sg fr mk) * (sp_below sg to 11))), (0, .ref 100), (1, .int (nI fr)), (2, .int (nI mk)), (3, .int (nI to)), (4, .int (nI ot))]) (by decide) rfl dc_14_8_12 ?_
  refine r_aload_n rfl dc_14_8_14 ?_
  refine r_iload_n rfl dc_14_8_15 ?_
  refine r_iload_n rfl dc_14_8_16 ?_
  refine q_calli (as := [.int (nI fr), .int (nI mk)]) (rest := []) (v := .int (sp_below sg fr mk)) (M1 := rf_mk M io sg) iv_13_v184 na_1_191 o_191 hM rfl (show (0 : Nat) ≤ 8 by decide) dc_14_8_17 (mm_Ev_up (by decide : 1 ≤ 2) (c_below M hM io sg fr mk (by omega) (by omega))) ?_
  refine r_aload_n rfl dc_14_8_20 ?_
  refine q_get (v := .ref 103) rx_16 hM rfl dc_14_8_21 ?_
  refine r_bipush (v := nI 11) (by decide) dc_14_8_24 ?_
  refine r_iload_n rfl dc_14_8_26 ?_
  refine r_imul (v := nI (11 * fr)) (pk_mul _ _) dc_14_8_27 ?_
  refine r_iload_n rfl dc_14_8_28 ?_
  refine r_iadd (v := nI (11 * fr + mk)) (nI_add _ _) dc_14_8_29 ?_
  refine q_ild (e := 11 * fr + mk) (v := sg 2 (11 * fr + mk)) (by decide) (by decide) hM rfl (show 11 * fr + mk < 44 by omega) (by omega) (rfl) dc_14_8_30 ?_
  refine r_iadd (v := (sp_below sg fr mk) + (sg 2 (11 * fr + mk))) (rfl) dc_14_8_31 ?_
  refine r_aload_n rfl dc_14_8_32 ?_
  refine r_iload_n rfl dc_14_8_33 ?_
  refine q_calli (as := [.int (nI to)]) (rest := [.int ((sp_below sg fr mk) + (sg 2 (11 * fr + mk)))]) (v := .int (sp_below sg to 11)) (M1 := rf_mk M io sg) iv_13_v188 na_1_190 o_190 hM rfl (show (1 : Nat) ≤ 8 by decide) dc_14_8_34 (mm_Ev_up (by decide : 2 ≤ 2) (c_allOf M hM io sg to (by omega))) ?_
  refine r_imul (v := ((sp_below sg fr mk) + (sg 2 (11 * fr + mk))) * (sp_below sg to 11)) (rfl) dc_14_8_37 ?_
  refine r_istore (ls' := [(6, .int (((sp_below sg fr mk) + (sg 2 (11 * fr + mk))) * (sp_below sg to 11))), (5, .int ((sp_below sg fr mk) * (sp_below sg to 11))), (0, .ref 100), (1, .int (nI fr)), (2, .int (nI mk)), (3, .int (nI to)), (4, .int (nI ot))]) (by decide) rfl dc_14_8_38 ?_
  refine r_aload_n rfl dc_14_8_40 ?_
  refine r_iload_n rfl dc_14_8_41 ?_
  refine r_iload rfl dc_14_8_42 ?_
  refine q_calli (as := [.int (nI to), .int (nI ot)]) (rest := []) (v := .int (sp_below sg to ot)) (M1 := rf_mk M io sg) iv_13_v184 na_1_191 o_191 hM rfl (show (0 : Nat) ≤ 8 by decide) dc_14_8_44 (mm_Ev_up (by decide : 1 ≤ 2) (c_below M hM io sg to ot (by omega) (by omega))) ?_
  refine r_aload_n rfl dc_14_8_47 ?_
  refine r_iload_n rfl dc_14_8_48 ?_
  refine q_calli (as := [.int (nI fr)]) (rest := [.int (sp_below sg to ot)]) (v := .int (sp_below sg fr 11)) (M1 := rf_mk M io sg) iv_13_v188 na_1_190 o_190 hM rfl (show (1 : Nat) ≤ 8 by decide) dc_14_8_49 (mm_Ev_up (by decide : 2 ≤ 2) (c_allOf M hM io sg fr (by omega))) ?_
  refine r_imul (v := (sp_below sg to ot) * (sp_below sg fr 11)) (rfl) dc_14_8_52 ?_
  refine r_istore (ls' := [(7, .int ((sp_below sg to ot) * (sp_below sg fr 11))), (6, .int (((sp_below sg fr mk) + (sg 2 (11 * fr + mk))) * (sp_below sg to 11))), (5, .int ((sp_below sg fr mk) * (sp_below sg to 11))), (0, .ref 100), (1, .int (nI fr)), (2, .int (nI mk)), (3, .int (nI to)), (4, .int (nI ot))]) (by decide) rfl dc_14_8_53 ?_
  refine r_aload_n rfl dc_14_8_55 ?_
  refine r_iload_n rfl dc_14_8_56 ?_
  refine r_iload rfl dc_14_8_57 ?_
  refine q_calli (as := [.int (nI to), .int (nI ot)]) (rest := []) (v := .int (sp_below sg to ot)) (M1 := rf_mk M io sg) iv_13_v184 na_1_191 o_191 hM rfl (show (0 : Nat) ≤ 8 by decide) dc_14_8_59 (mm_Ev_up (by decide : 1 ≤ 2) (c_below M hM io sg to ot (by omega) (by omega))) ?_
  refine r_aload_n rfl dc_14_8_62 ?_
  refine q_get (v := .ref 103) rx_16 hM rfl dc_14_8_63 ?_
  refine r_bipush (v := nI 11) (by decide) dc_14_8_66 ?_
  refine r_iload_n rfl dc_14_8_68 ?_
  refine r_imul (v := nI (11 * to)) (pk_mul _ _) dc_14_8_69 ?_
  refine r_iload rfl dc_14_8_70 ?_
  refine r_iadd (v := nI (11 * to + ot)) (nI_add _ _) dc_14_8_72 ?_
  refine q_ild (e := 11 * to + ot) (v := sg 2 (11 * to + ot)) (by decide) (by decide) hM rfl (show 11 * to + ot < 44 by omega) (by omega) (rfl) dc_14_8_73 ?_
  refine r_iadd (v := (sp_below sg to ot) + (sg 2 (11 * to + ot))) (rfl) dc_14_8_74 ?_
  refine r_aload_n rfl dc_14_8_75 ?_
  refine r_iload_n rfl dc_14_8_76 ?_
  refine q_calli (as := [.int (nI fr)]) (rest := [.int ((sp_below sg to ot) + (sg 2 (11 * to + ot)))]) (v := .int (sp_below sg fr 11)) (M1 := rf_mk M io sg) iv_13_v188 na_1_190 o_190 hM rfl (show (1 : Nat) ≤ 8 by decide) dc_14_8_77 (mm_Ev_up (by decide : 2 ≤ 2) (c_allOf M hM io sg fr (by omega))) ?_
  refine r_imul (v := ((sp_below sg to ot) + (sg 2 (11 * to + ot))) * (sp_below sg fr 11)) (rfl) dc_14_8_80 ?_
  refine r_istore (ls' := [(8, .int (((sp_below sg to ot) + (sg 2 (11 * to + ot))) * (sp_below sg fr 11))), (7, .int ((sp_below sg to ot) * (sp_below sg fr 11))), (6, .int (((sp_below sg fr mk) + (sg 2 (11 * fr + mk))) * (sp_below sg to 11))), (5, .int ((sp_below sg fr mk) * (sp_below sg to 11))), (0, .ref 100), (1, .int (nI fr)), (2, .int (nI mk)), (3, .int (nI to)), (4, .int (nI ot))]) (by decide) rfl dc_14_8_81 ?_
  refine r_iload rfl dc_14_8_83 ?_
  refine r_iload rfl dc_14_8_85 ?_
  refine r_icle (t := 95) (by decide) dc_14_8_87 (fun c_87 => ?_) (fun c_87 => ?_)
  · skip
    refine r_iload rfl dc_14_8_95 ?_
    refine r_iload rfl dc_14_8_97 ?_
    refine r_iload rfl dc_14_8_99 ?_
    refine r_icge (t := 109) (by decide) dc_14_8_101 (fun c_101 => ?_) (fun c_101 => ?_)
    · skip
      refine r_iload rfl dc_14_8_109 ?_
      refine r_icge (t := 118) (by decide) dc_14_8_111 (fun c_111 => ?_) (fun c_111 => ?_)
      · skip
        refine r_iconst (v := nI 0) (by decide) dc_14_8_118 ?_
        refine r_zret rfl (by decide) dc_14_8_119 ?_
        unfold sp_ov
        rw [if_pos c_87, if_pos c_101, if_neg (Int32.not_lt.mpr c_111)]
      · skip
        refine r_iconst (v := nI 1) (by decide) dc_14_8_114 ?_
        refine r_goto (t := 119) (by decide) dc_14_8_115 ?_
        refine r_zret rfl (by decide) dc_14_8_119 ?_
        unfold sp_ov
        rw [if_pos c_87, if_pos c_101, if_pos (Int32.not_le.mp c_111)]
    · skip
      refine r_iload rfl dc_14_8_104 ?_
      refine r_goto (t := 111) (by decide) dc_14_8_106 ?_
      refine r_icge (t := 118) (by decide) dc_14_8_111 (fun c_111 => ?_) (fun c_111 => ?_)
      · skip
        refine r_iconst (v := nI 0) (by decide) dc_14_8_118 ?_
        refine r_zret rfl (by decide) dc_14_8_119 ?_
        unfold sp_ov
        rw [if_pos c_87, if_neg c_101, if_neg (Int32.not_lt.mpr c_111)]
      · skip
        refine r_iconst (v := nI 1) (by decide) dc_14_8_114 ?_
        refine r_goto (t := 119) (by decide) dc_14_8_115 ?_
        refine r_zret rfl (by decide) dc_14_8_119 ?_
        unfold sp_ov
        rw [if_pos c_87, if_neg c_101, if_pos (Int32.not_le.mp c_111)]
  · skip
    refine r_iload rfl dc_14_8_90 ?_
    refine r_goto (t := 97) (by decide) dc_14_8_92 ?_
    refine r_iload rfl dc_14_8_97 ?_
    refine r_iload rfl dc_14_8_99 ?_
    refine r_icge (t := 109) (by decide) dc_14_8_101 (fun c_101 => ?_) (fun c_101 => ?_)
    · skip
      refine r_iload rfl dc_14_8_109 ?_
      refine r_icge (t := 118) (by decide) dc_14_8_111 (fun c_111 => ?_) (fun c_111 => ?_)
      · skip
        refine r_iconst (v := nI 0) (by decide) dc_14_8_118 ?_
        refine r_zret rfl (by decide) dc_14_8_119 ?_
        unfold sp_ov
        rw [if_neg c_87, if_pos c_101, if_neg (Int32.not_lt.mpr c_111)]
      · skip
        refine r_iconst (v := nI 1) (by decide) dc_14_8_114 ?_
        refine r_goto (t := 119) (by decide) dc_14_8_115 ?_
        refine r_zret rfl (by decide) dc_14_8_119 ?_
        unfold sp_ov
        rw [if_neg c_87, if_pos c_101, if_pos (Int32.not_le.mp c_111)]
    · skip
      refine r_iload rfl dc_14_8_104 ?_
      refine r_goto (t := 111) (by decide) dc_14_8_106 ?_
      refine r_icge (t := 118) (by decide) dc_14_8_111 (fun c_111 => ?_) (fun c_111 => ?_)
      · skip
        refine r_iconst (v := nI 0) (by decide) dc_14_8_118 ?_
        refine r_zret rfl (by decide) dc_14_8_119 ?_
        unfold sp_ov
        rw [if_neg c_87, if_neg c_101, if_neg (Int32.not_lt.mpr c_111)]
      · skip
        refine r_iconst (v := nI 1) (by decide) dc_14_8_114 ?_
        refine r_goto (t := 119) (by decide) dc_14_8_115 ?_
        refine r_zret rfl (by decide) dc_14_8_119 ?_
        unfold sp_ov
        rw [if_neg c_87, if_neg c_101, if_pos (Int32.not_le.mp c_111)]
def sp_fi (f : Nat → Int32) : Nat → Int32
  | 0 => -1
  | m + 1 => if f m = 0 then sp_fi f m else if sp_fi f m = -1 then nI m else sp_fi f m
def sp_la (f : Nat → Int32) : Nat → Int32
  | 0 => -1
  | m + 1 => if f m = 0 then sp_la f m else nI m
set_option maxHeartbeats 4000000 in
theorem c_turn_a (M : mH) (hM : 157 ≤ M.1) (io : Nat → Int32) (sg : Nat → Nat → Int32) (fr to mk wh : Nat) (hf : fr < 4) (ht : to < 4) (hk : mk < 11) (hw : wh < 3) (ha : ¬ sp_below sg fr 11 = 0) (hb : ¬ sp_below sg to 11 = 0) (hq : wh = 0 ∨ sg 2 (11 * fr + mk) = 0) : mm_Ev 4 189 [.ref 100, .int (nI fr), .int (nI to), .int (nI mk), .int (nI wh)] (rf_mk M io sg) ((some (.int (sp_tu sg fr to mk 11)), rf_mk M io sg)) := by
  refine r_ev (by decide +kernel) (show (5 : Nat) ≤ mm_nL 189 by decide +kernel) ?_
  show mm_Ru 3 (13, 8, false, prog_14_method_9_code, some .int) 0 [(0, .ref 100), (1, .int (nI fr)), (2, .int (nI to)), (3, .int (nI mk)), (4, .int (nI wh))] [] (rf_mk M io sg) (fun z => z = ((some (.int (sp_tu sg fr to mk 11)), rf_mk M io sg)))
  refine r_iload_n rfl dc_14_9_0 ?_
  refine r_iconst (v := nI 0) (by decide) dc_14_9_1 ?_
  refine r_iconst (v := nI 3) (by decide) dc_14_9_2 ?_
  refine q_calls (as := [.int (nI fr), .int (nI 0), .int (nI 3)]) (rest := []) (v := .int (nI 1)) iv_13_s180 na_0_187 rfl (show (0 : Nat) ≤ 8 by decide) dc_14_9_3 (mm_Ev_up (by decide : 1 ≤ 3) (c_inT _ fr 0 3 (by omega) (by omega) (by omega))) ?_
  refine r_ifeq (t := 54) (by decide) dc_14_9_6 (fun c_6 => ?_) (fun c_6 => ?_)
  · exact absurd c_6 (by decide)
  · skip
    refine r_iload_n rfl dc_14_9_9 ?_
    refine r_iconst (v := nI 0) (by decide) dc_14_9_10 ?_
    refine r_iconst (v := nI 3) (by decide) dc_14_9_11 ?_
    refine q_calls (as := [.int (nI to), .int (nI 0), .int (nI 3)]) (rest := []) (v := .int (nI 1)) iv_13_s180 na_0_187 rfl (show (0 : Nat) ≤ 8 by decide) dc_14_9_12 (mm_Ev_up (by decide : 1 ≤ 3) (c_inT _ to 0 3 (by omega) (by omega) (by omega))) ?_
    refine r_ifeq (t := 54) (by decide) dc_14_9_15 (fun c_15 => ?_) (fun c_15 => ?_)
    · exact absurd c_15 (by decide)
    · skip
      refine r_iload_n rfl dc_14_9_18 ?_
      refine r_iconst (v := nI 0) (by decide) dc_14_9_19 ?_
      refine r_bipush (v := nI 10) (by decide) dc_14_9_20 ?_
      refine q_calls (as := [.int (nI mk), .int (nI 0), .int (nI 10)]) (rest := []) (v := .int (nI 1)) iv_13_s180 na_0_187 rfl (show (0 : Nat) ≤ 8 by decide) dc_14_9_22 (mm_Ev_up (by decide : 1 ≤ 3) (c_inT _ mk 0 10 (by omega) (by omega) (by omega))) ?_
      refine r_ifeq (t := 54) (by decide) dc_14_9_25 (fun c_25 => ?_) (fun c_25 => ?_)
      · exact absurd c_25 (by decide)
      · skip
        refine r_iload rfl dc_14_9_28 ?_
        refine r_iconst (v := nI 0) (by decide) dc_14_9_30 ?_
        refine r_iconst (v := nI 2) (by decide) dc_14_9_31 ?_
        refine q_calls (as := [.int (nI wh), .int (nI 0), .int (nI 2)]) (rest := []) (v := .int (nI 1)) iv_13_s180 na_0_187 rfl (show (0 : Nat) ≤ 8 by decide) dc_14_9_32 (mm_Ev_up (by decide : 1 ≤ 3) (c_inT _ wh 0 2 (by omega) (by omega) (by omega))) ?_
        refine r_ifeq (t := 54) (by decide) dc_14_9_35 (fun c_35 => ?_) (fun c_35 => ?_)
        · exact absurd c_35 (by decide)
        · skip
          refine r_aload_n rfl dc_14_9_38 ?_
          refine r_iload_n rfl dc_14_9_39 ?_
          refine q_calli (as := [.int (nI fr)]) (rest := []) (v := .int (sp_below sg fr 11)) (M1 := rf_mk M io sg) iv_13_v188 na_1_190 o_190 hM rfl (show (0 : Nat) ≤ 8 by decide) dc_14_9_40 (mm_Ev_up (by decide : 2 ≤ 3) (c_allOf M hM io sg fr (by omega))) ?_
          refine r_ifeq (t := 54) (by decide) dc_14_9_43 (fun c_43 => ?_) (fun c_43 => ?_)
          · exact absurd c_43 ha
          · skip
            refine r_aload_n rfl dc_14_9_46 ?_
            refine r_iload_n rfl dc_14_9_47 ?_
            refine q_calli (as := [.int (nI to)]) (rest := []) (v := .int (sp_below sg to 11)) (M1 := rf_mk M io sg) iv_13_v188 na_1_190 o_190 hM rfl (show (0 : Nat) ≤ 8 by decide) dc_14_9_48 (mm_Ev_up (by decide : 2 ≤ 3) (c_allOf M hM io sg to (by omega))) ?_
            refine r_ifne (t := 56) (by decide) dc_14_9_51 (fun c_51 => ?_) (fun c_51 => ?_)
            · skip
              refine r_iload rfl dc_14_9_56 ?_
              refine r_nzeq (t := 75) (by omega) (by decide) dc_14_9_58 (fun c_58 => ?_) (fun c_58 => ?_)
              · skip
                refine r_aload_n rfl dc_14_9_75 ?_
                refine r_iload_n rfl dc_14_9_76 ?_
                refine r_iload_n rfl dc_14_9_77 ?_
                refine r_iload_n rfl dc_14_9_78 ?_
                refine q_calli (as := [.int (nI fr), .int (nI to), .int (nI mk)]) (rest := []) (v := .int (sp_tu sg fr to mk 11)) (M1 := rf_mk M io sg) iv_13_v192 na_1_192 o_192 hM rfl (show (0 : Nat) ≤ 8 by decide) dc_14_9_79 (c_turned M hM io sg fr to mk (by omega) (by omega) (by omega)) ?_
                refine r_iret rfl dc_14_9_82 ?_
                rfl
              · skip
                refine r_aload_n rfl dc_14_9_61 ?_
                refine q_get (v := .ref 103) rx_16 hM rfl dc_14_9_62 ?_
                refine r_bipush (v := nI 11) (by decide) dc_14_9_65 ?_
                refine r_iload_n rfl dc_14_9_67 ?_
                refine r_imul (v := nI (11 * fr)) (pk_mul _ _) dc_14_9_68 ?_
                refine r_iload_n rfl dc_14_9_69 ?_
                refine r_iadd (v := nI (11 * fr + mk)) (nI_add _ _) dc_14_9_70 ?_
                refine q_ild (e := 11 * fr + mk) (v := sg 2 (11 * fr + mk)) (by decide) (by decide) hM rfl (show 11 * fr + mk < 44 by omega) (by omega) (rfl) dc_14_9_71 ?_
                refine r_ifne (t := 83) (by decide) dc_14_9_72 (fun c_72 => ?_) (fun c_72 => ?_)
                · exact absurd (hq.resolve_left c_58) c_72
                · skip
                  refine r_aload_n rfl dc_14_9_75 ?_
                  refine r_iload_n rfl dc_14_9_76 ?_
                  refine r_iload_n rfl dc_14_9_77 ?_
                  refine r_iload_n rfl dc_14_9_78 ?_
                  refine q_calli (as := [.int (nI fr), .int (nI to), .int (nI mk)]) (rest := []) (v := .int (sp_tu sg fr to mk 11)) (M1 := rf_mk M io sg) iv_13_v192 na_1_192 o_192 hM rfl (show (0 : Nat) ≤ 8 by decide) dc_14_9_79 (c_turned M hM io sg fr to mk (by omega) (by omega) (by omega)) ?_
                  refine r_iret rfl dc_14_9_82 ?_
                  rfl
            · exact absurd c_51 hb
set_option maxHeartbeats 4000000 in
theorem c_turn_b (M : mH) (hM : 157 ≤ M.1) (io : Nat → Int32) (sg : Nat → Nat → Int32) (fr to mk wh : Nat) (hf : fr < 4) (ht : to < 4) (hk : mk < 11) (hw : wh < 3) (ha : ¬ sp_below sg fr 11 = 0) (hb : ¬ sp_below sg to 11 = 0) (h0 : ¬ wh = 0) (hq : ¬ sg 2 (11 * fr + mk) = 0) : mm_Ev 4 189 [.ref 100, .int (nI fr), .int (nI to), .int (nI mk), .int (nI wh)] (rf_mk M io sg) ((some (.int (if wh = 1 then sp_fi (fun q => sp_ov sg fr mk to q) 11 else sp_la (fun q => sp_ov sg fr mk to q) 11)), rf_mk M io sg)) := by
  refine r_ev (by decide +kernel) (show (5 : Nat) ≤ mm_nL 189 by decide +kernel) ?_
  show mm_Ru 3 (13, 8, false, prog_14_method_9_code, some .int) 0 [(0, .ref 100), (1, .int (nI fr)), (2, .int (nI to)), (3, .int (nI mk)), (4, .int (nI wh))] [] (rf_mk M io sg) (fun z => z = ((some (.int (if wh = 1 then sp_fi (fun q => sp_ov sg fr mk to q) 11 else sp_la (fun q => sp_ov sg fr mk to q) 11)), rf_mk M io sg)))
  refine r_iload_n rfl dc_14_9_0 ?_
  refine r_iconst (v := nI 0) (by decide) dc_14_9_1 ?_
  refine r_iconst (v := nI 3) (by decide) dc_14_9_2 ?_
  refine q_calls (as := [.int (nI fr), .int (nI 0), .int (nI 3)]) (rest := []) (v := .int (nI 1)) iv_13_s180 na_0_187 rfl (show (0 : Nat) ≤ 8 by decide) dc_14_9_3 (mm_Ev_up (by decide : 1 ≤ 3) (c_inT _ fr 0 3 (by omega) (by omega) (by omega))) ?_
  refine r_ifeq (t := 54) (by decide) dc_14_9_6 (fun c_6 => ?_) (fun c_6 => ?_)
  · exact absurd c_6 (by decide)
  · skip
    refine r_iload_n rfl dc_14_9_9 ?_
    refine r_iconst (v := nI 0) (by decide) dc_14_9_10 ?_
    refine r_iconst (v := nI 3) (by decide) dc_14_9_11 ?_
    refine q_calls (as := [.int (nI to), .int (nI 0), .int (nI 3)]) (rest := []) (v := .int (nI 1)) iv_13_s180 na_0_187 rfl (show (0 : Nat) ≤ 8 by decide) dc_14_9_12 (mm_Ev_up (by decide : 1 ≤ 3) (c_inT _ to 0 3 (by omega) (by omega) (by omega))) ?_
    refine r_ifeq (t := 54) (by decide) dc_14_9_15 (fun c_15 => ?_) (fun c_15 => ?_)
    · exact absurd c_15 (by decide)
    · skip
      refine r_iload_n rfl dc_14_9_18 ?_
      refine r_iconst (v := nI 0) (by decide) dc_14_9_19 ?_
      refine r_bipush (v := nI 10) (by decide) dc_14_9_20 ?_
      refine q_calls (as := [.int (nI mk), .int (nI 0), .int (nI 10)]) (rest := []) (v := .int (nI 1)) iv_13_s180 na_0_187 rfl (show (0 : Nat) ≤ 8 by decide) dc_14_9_22 (mm_Ev_up (by decide : 1 ≤ 3) (c_inT _ mk 0 10 (by omega) (by omega) (by omega))) ?_
      refine r_ifeq (t := 54) (by decide) dc_14_9_25 (fun c_25 => ?_) (fun c_25 => ?_)
      · exact absurd c_25 (by decide)
      · skip
        refine r_iload rfl dc_14_9_28 ?_
        refine r_iconst (v := nI 0) (by decide) dc_14_9_30 ?_
        refine r_iconst (v := nI 2) (by decide) dc_14_9_31 ?_
        refine q_calls (as := [.int (nI wh), .int (nI 0), .int (nI 2)]) (rest := []) (v := .int (nI 1)) iv_13_s180 na_0_187 rfl (show (0 : Nat) ≤ 8 by decide) dc_14_9_32 (mm_Ev_up (by decide : 1 ≤ 3) (c_inT _ wh 0 2 (by omega) (by omega) (by omega))) ?_
        refine r_ifeq (t := 54) (by decide) dc_14_9_35 (fun c_35 => ?_) (fun c_35 => ?_)
        · exact absurd c_35 (by decide)
        · skip
          refine r_aload_n rfl dc_14_9_38 ?_
          refine r_iload_n rfl dc_14_9_39 ?_
          refine q_calli (as := [.int (nI fr)]) (rest := []) (v := .int (sp_below sg fr 11)) (M1 := rf_mk M io sg) iv_13_v188 na_1_190 o_190 hM rfl (show (0 : Nat) ≤ 8 by decide) dc_14_9_40 (mm_Ev_up (by decide : 2 ≤ 3) (c_allOf M hM io sg fr (by omega))) ?_
          refine r_ifeq (t := 54) (by decide) dc_14_9_43 (fun c_43 => ?_) (fun c_43 => ?_)
          · exact absurd c_43 ha
          · skip
            refine r_aload_n rfl dc_14_9_46 ?_
            refine r_iload_n rfl dc_14_9_47 ?_
            refine q_calli (as := [.int (nI to)]) (rest := []) (v := .int (sp_below sg to 11)) (M1 := rf_mk M io sg) iv_13_v188 na_1_190 o_190 hM rfl (show (0 : Nat) ≤ 8 by decide) dc_14_9_48 (mm_Ev_up (by decide : 2 ≤ 3) (c_allOf M hM io sg to (by omega))) ?_
            refine r_ifne (t := 56) (by decide) dc_14_9_51 (fun c_51 => ?_) (fun c_51 => ?_)
            · skip
              refine r_iload rfl dc_14_9_56 ?_
              refine r_nzeq (t := 75) (by omega) (by decide) dc_14_9_58 (fun c_58 => ?_) (fun c_58 => ?_)
              · exact absurd c_58 h0
              · skip
                refine r_aload_n rfl dc_14_9_61 ?_
                refine q_get (v := .ref 103) rx_16 hM rfl dc_14_9_62 ?_
                refine r_bipush (v := nI 11) (by decide) dc_14_9_65 ?_
                refine r_iload_n rfl dc_14_9_67 ?_
                refine r_imul (v := nI (11 * fr)) (pk_mul _ _) dc_14_9_68 ?_
                refine r_iload_n rfl dc_14_9_69 ?_
                refine r_iadd (v := nI (11 * fr + mk)) (nI_add _ _) dc_14_9_70 ?_
                refine q_ild (e := 11 * fr + mk) (v := sg 2 (11 * fr + mk)) (by decide) (by decide) hM rfl (show 11 * fr + mk < 44 by omega) (by omega) (rfl) dc_14_9_71 ?_
                refine r_ifne (t := 83) (by decide) dc_14_9_72 (fun c_72 => ?_) (fun c_72 => ?_)
                · skip
                  refine r_iconst (v := -1) (by decide) dc_14_9_83 ?_
                  refine r_istore (ls' := [(5, .int ((-1))), (0, .ref 100), (1, .int (nI fr)), (2, .int (nI to)), (3, .int (nI mk)), (4, .int (nI wh))]) (by decide) rfl dc_14_9_84 ?_
                  refine r_iconst (v := -1) (by decide) dc_14_9_86 ?_
                  refine r_istore (ls' := [(6, .int ((-1))), (5, .int ((-1))), (0, .ref 100), (1, .int (nI fr)), (2, .int (nI to)), (3, .int (nI mk)), (4, .int (nI wh))]) (by decide) rfl dc_14_9_87 ?_
                  refine r_iconst (v := nI 0) (by decide) dc_14_9_89 ?_
                  refine r_istore (ls' := [(7, .int (nI 0)), (6, .int ((-1))), (5, .int ((-1))), (0, .ref 100), (1, .int (nI fr)), (2, .int (nI to)), (3, .int (nI mk)), (4, .int (nI wh))]) (by decide) rfl dc_14_9_90 ?_
                  refine r_ls [(7, .int (nI 0)), (5, .int ((-1))), (6, .int ((-1))), (0, .ref 100), (1, .int (nI fr)), (2, .int (nI to)), (3, .int (nI mk)), (4, .int (nI wh))] (mm_ndk_of [7, 5, 6, 0, 1, 2, 3, 4] rfl (by decide)) (mm_sub_cons rfl (mm_sub_cons rfl (mm_sub_cons rfl (mm_sub_cons rfl (mm_sub_cons rfl (mm_sub_cons rfl (mm_sub_cons rfl (mm_sub_cons rfl (mm_sub_nil _))))))))) ?_
                  refine mm_cnt (P := fun m => ∀ (acf : Int32), ∀ (acl : Int32), (acf = sp_fi (fun q => sp_ov sg fr mk to q) m ∧ acl = sp_la (fun q => sp_ov sg fr mk to q) m) → mm_Ru 3 (13, 8, false, prog_14_method_9_code, some .int) 92 [(7, .int (nI m)), (5, .int acf), (6, .int acl), (0, .ref 100), (1, .int (nI fr)), (2, .int (nI to)), (3, .int (nI mk)), (4, .int (nI wh))] [] (rf_mk M io sg) (fun z => z = ((some (.int (if wh = 1 then sp_fi (fun q => sp_ov sg fr mk to q) 11 else sp_la (fun q => sp_ov sg fr mk to q) 11)), rf_mk M io sg)))) 11 ?_ ?_ 0 (by omega) ((-1)) ((-1)) (⟨rfl, rfl⟩)
                  · intro acf acl hi_m
                    show mm_Ru 3 (13, 8, false, prog_14_method_9_code, some .int) 92 [(7, .int (nI 11)), (5, .int acf), (6, .int acl), (0, .ref 100), (1, .int (nI fr)), (2, .int (nI to)), (3, .int (nI mk)), (4, .int (nI wh))] [] (rf_mk M io sg) (fun z => z = ((some (.int (if wh = 1 then sp_fi (fun q => sp_ov sg fr mk to q) 11 else sp_la (fun q => sp_ov sg fr mk to q) 11)), rf_mk M io sg)))
                    refine r_iload rfl dc_14_9_92 ?_
                    refine r_bipush (v := nI 11) (by decide) dc_14_9_94 ?_
                    refine r_ncge (t := 139) (by omega) (by omega) (by decide) dc_14_9_96 (fun c_96 => ?_) (fun c_96 => ?_)
                    · skip
                      refine r_iload rfl dc_14_9_139 ?_
                      refine r_iconst (v := nI 1) (by decide) dc_14_9_141 ?_
                      refine r_ncne (t := 150) (by omega) (by omega) (by decide) dc_14_9_142 (fun c_142 => ?_) (fun c_142 => ?_)
                      · skip
                        refine r_iload rfl dc_14_9_150 ?_
                        refine r_iret rfl dc_14_9_152 ?_
                        rw [if_neg c_142, hi_m.2]
                      · skip
                        refine r_iload rfl dc_14_9_145 ?_
                        refine r_goto (t := 152) (by decide) dc_14_9_147 ?_
                        refine r_iret rfl dc_14_9_152 ?_
                        rw [if_pos c_142, hi_m.1]
                    · omega
                  · intro m h_m ih_m acf acl hi_m
                    show mm_Ru 3 (13, 8, false, prog_14_method_9_code, some .int) 92 [(7, .int (nI m)), (5, .int acf), (6, .int acl), (0, .ref 100), (1, .int (nI fr)), (2, .int (nI to)), (3, .int (nI mk)), (4, .int (nI wh))] [] (rf_mk M io sg) (fun z => z = ((some (.int (if wh = 1 then sp_fi (fun q => sp_ov sg fr mk to q) 11 else sp_la (fun q => sp_ov sg fr mk to q) 11)), rf_mk M io sg)))
                    refine r_iload rfl dc_14_9_92 ?_
                    refine r_bipush (v := nI 11) (by decide) dc_14_9_94 ?_
                    refine r_ncge (t := 139) (by omega) (by omega) (by decide) dc_14_9_96 (fun c_96 => ?_) (fun c_96 => ?_)
                    · omega
                    · skip
                      refine r_aload_n rfl dc_14_9_99 ?_
                      refine r_iload_n rfl dc_14_9_100 ?_
                      refine r_iload_n rfl dc_14_9_101 ?_
                      refine r_iload_n rfl dc_14_9_102 ?_
                      refine r_iload rfl dc_14_9_103 ?_
                      refine q_calli (as := [.int (nI fr), .int (nI mk), .int (nI to), .int (nI m)]) (rest := []) (v := .int (sp_ov sg fr mk to m)) (M1 := rf_mk M io sg) iv_13_v196 na_1_193 o_193 hM rfl (show (0 : Nat) ≤ 8 by decide) dc_14_9_105 (c_overlaps M hM io sg fr mk to m (by omega) (by omega) (by omega) (by omega)) ?_
                      refine r_ifne (t := 114) (by decide) dc_14_9_108 (fun c_108 => ?_) (fun c_108 => ?_)
                      · skip
                        refine r_iload rfl dc_14_9_114 ?_
                        refine r_iconst (v := -1) (by decide) dc_14_9_116 ?_
                        refine r_icne (t := 125) (by decide) dc_14_9_117 (fun c_117 => ?_) (fun c_117 => ?_)
                        · skip
                          refine r_iload rfl dc_14_9_125 ?_
                          refine r_istore (ls' := [(5, .int acf), (7, .int (nI m)), (6, .int acl), (0, .ref 100), (1, .int (nI fr)), (2, .int (nI to)), (3, .int (nI mk)), (4, .int (nI wh))]) (by decide) rfl dc_14_9_127 ?_
                          refine r_iload rfl dc_14_9_129 ?_
                          refine r_istore (ls' := [(6, .int (nI m)), (5, .int acf), (7, .int (nI m)), (0, .ref 100), (1, .int (nI fr)), (2, .int (nI to)), (3, .int (nI mk)), (4, .int (nI wh))]) (by decide) rfl dc_14_9_131 ?_
                          refine r_iinc (x := nI m) (v := nI (m + 1)) (ls' := [(7, .int (nI (m + 1))), (6, .int (nI m)), (5, .int acf), (0, .ref 100), (1, .int (nI fr)), (2, .int (nI to)), (3, .int (nI mk)), (4, .int (nI wh))]) rfl (nI_1 _) (by decide) rfl dc_14_9_133 ?_
                          refine r_goto (t := 92) (by decide) dc_14_9_136 ?_
                          refine r_ls [(7, .int (nI (m + 1))), (5, .int acf), (6, .int (nI m)), (0, .ref 100), (1, .int (nI fr)), (2, .int (nI to)), (3, .int (nI mk)), (4, .int (nI wh))] (mm_ndk_of [7, 5, 6, 0, 1, 2, 3, 4] rfl (by decide)) (mm_sub_cons rfl (mm_sub_cons rfl (mm_sub_cons rfl (mm_sub_cons rfl (mm_sub_cons rfl (mm_sub_cons rfl (mm_sub_cons rfl (mm_sub_cons rfl (mm_sub_nil _))))))))) ?_
                          exact ih_m acf (nI m) (⟨((if_neg c_108).trans ((if_neg (fun q => c_117 (hi_m.1.trans q))).trans hi_m.1.symm)).symm, (if_neg c_108).symm⟩)
                        · skip
                          refine r_iload rfl dc_14_9_120 ?_
                          refine r_goto (t := 127) (by decide) dc_14_9_122 ?_
                          refine r_istore (ls' := [(5, .int (nI m)), (7, .int (nI m)), (6, .int acl), (0, .ref 100), (1, .int (nI fr)), (2, .int (nI to)), (3, .int (nI mk)), (4, .int (nI wh))]) (by decide) rfl dc_14_9_127 ?_
                          refine r_iload rfl dc_14_9_129 ?_
                          refine r_istore (ls' := [(6, .int (nI m)), (5, .int (nI m)), (7, .int (nI m)), (0, .ref 100), (1, .int (nI fr)), (2, .int (nI to)), (3, .int (nI mk)), (4, .int (nI wh))]) (by decide) rfl dc_14_9_131 ?_
                          refine r_iinc (x := nI m) (v := nI (m + 1)) (ls' := [(7, .int (nI (m + 1))), (6, .int (nI m)), (5, .int (nI m)), (0, .ref 100), (1, .int (nI fr)), (2, .int (nI to)), (3, .int (nI mk)), (4, .int (nI wh))]) rfl (nI_1 _) (by decide) rfl dc_14_9_133 ?_
                          refine r_goto (t := 92) (by decide) dc_14_9_136 ?_
                          refine r_ls [(7, .int (nI (m + 1))), (5, .int (nI m)), (6, .int (nI m)), (0, .ref 100), (1, .int (nI fr)), (2, .int (nI to)), (3, .int (nI mk)), (4, .int (nI wh))] (mm_ndk_of [7, 5, 6, 0, 1, 2, 3, 4] rfl (by decide)) (mm_sub_cons rfl (mm_sub_cons rfl (mm_sub_cons rfl (mm_sub_cons rfl (mm_sub_cons rfl (mm_sub_cons rfl (mm_sub_cons rfl (mm_sub_cons rfl (mm_sub_nil _))))))))) ?_
                          exact ih_m (nI m) (nI m) (⟨((if_neg c_108).trans (if_pos (hi_m.1.symm.trans c_117))).symm, (if_neg c_108).symm⟩)
                      · skip
                        refine r_goto (t := 133) (by decide) dc_14_9_111 ?_
                        refine r_iinc (x := nI m) (v := nI (m + 1)) (ls' := [(7, .int (nI (m + 1))), (5, .int acf), (6, .int acl), (0, .ref 100), (1, .int (nI fr)), (2, .int (nI to)), (3, .int (nI mk)), (4, .int (nI wh))]) rfl (nI_1 _) (by decide) rfl dc_14_9_133 ?_
                        refine r_goto (t := 92) (by decide) dc_14_9_136 ?_
                        exact ih_m acf acl (⟨(if_pos c_108).trans hi_m.1.symm |>.symm, (if_pos c_108).trans hi_m.2.symm |>.symm⟩)
                · exact absurd c_72 hq
            · exact absurd c_51 hb
def gd_turn (fr to mk wh : Int32) : Prop := (nI 0 ≤ fr ∧ fr ≤ nI 3) ∧ (nI 0 ≤ to ∧ to ≤ nI 3) ∧ (nI 0 ≤ mk ∧ mk ≤ nI 10) ∧ (nI 0 ≤ wh ∧ wh ≤ nI 2)
set_option maxHeartbeats 4000000 in
theorem c_turn_no (M : mH) (hM : 157 ≤ M.1) (io : Nat → Int32) (sg : Nat → Nat → Int32) (fr to mk wh : Int32) (hno : ¬ gd_turn fr to mk wh) : mm_Ev 2 189 [.ref 100, .int fr, .int to, .int mk, .int wh] (rf_mk M io sg) ((some (.int (-1)), rf_mk M io sg)) := by
  refine r_ev (by decide +kernel) (show (5 : Nat) ≤ mm_nL 189 by decide +kernel) ?_
  show mm_Ru 1 (13, 8, false, prog_14_method_9_code, some .int) 0 [(0, .ref 100), (1, .int fr), (2, .int to), (3, .int mk), (4, .int wh)] [] (rf_mk M io sg) (fun z => z = ((some (.int (-1)), rf_mk M io sg)))
  refine r_iload_n rfl dc_14_9_0 ?_
  refine r_iconst (v := nI 0) (by decide) dc_14_9_1 ?_
  refine r_iconst (v := nI 3) (by decide) dc_14_9_2 ?_
  refine q_calls (as := [.int fr, .int (nI 0), .int (nI 3)]) (rest := []) (v := .int (sp_in fr (nI 0) (nI 3))) iv_13_s180 na_0_187 rfl (show (0 : Nat) ≤ 8 by decide) dc_14_9_3 (mm_Ev_up (by decide : 1 ≤ 1) (c_in _ fr (nI 0) (nI 3))) ?_
  refine r_ifeq (t := 54) (by decide) dc_14_9_6 (fun c_6 => ?_) (fun c_6 => ?_)
  · skip
    refine r_iconst (v := -1) (by decide) dc_14_9_54 ?_
    exact r_iret rfl dc_14_9_55 (rfl)
  · skip
    refine r_iload_n rfl dc_14_9_9 ?_
    refine r_iconst (v := nI 0) (by decide) dc_14_9_10 ?_
    refine r_iconst (v := nI 3) (by decide) dc_14_9_11 ?_
    refine q_calls (as := [.int to, .int (nI 0), .int (nI 3)]) (rest := []) (v := .int (sp_in to (nI 0) (nI 3))) iv_13_s180 na_0_187 rfl (show (0 : Nat) ≤ 8 by decide) dc_14_9_12 (mm_Ev_up (by decide : 1 ≤ 1) (c_in _ to (nI 0) (nI 3))) ?_
    refine r_ifeq (t := 54) (by decide) dc_14_9_15 (fun c_15 => ?_) (fun c_15 => ?_)
    · skip
      refine r_iconst (v := -1) (by decide) dc_14_9_54 ?_
      exact r_iret rfl dc_14_9_55 (rfl)
    · skip
      refine r_iload_n rfl dc_14_9_18 ?_
      refine r_iconst (v := nI 0) (by decide) dc_14_9_19 ?_
      refine r_bipush (v := nI 10) (by decide) dc_14_9_20 ?_
      refine q_calls (as := [.int mk, .int (nI 0), .int (nI 10)]) (rest := []) (v := .int (sp_in mk (nI 0) (nI 10))) iv_13_s180 na_0_187 rfl (show (0 : Nat) ≤ 8 by decide) dc_14_9_22 (mm_Ev_up (by decide : 1 ≤ 1) (c_in _ mk (nI 0) (nI 10))) ?_
      refine r_ifeq (t := 54) (by decide) dc_14_9_25 (fun c_25 => ?_) (fun c_25 => ?_)
      · skip
        refine r_iconst (v := -1) (by decide) dc_14_9_54 ?_
        exact r_iret rfl dc_14_9_55 (rfl)
      · skip
        refine r_iload rfl dc_14_9_28 ?_
        refine r_iconst (v := nI 0) (by decide) dc_14_9_30 ?_
        refine r_iconst (v := nI 2) (by decide) dc_14_9_31 ?_
        refine q_calls (as := [.int wh, .int (nI 0), .int (nI 2)]) (rest := []) (v := .int (sp_in wh (nI 0) (nI 2))) iv_13_s180 na_0_187 rfl (show (0 : Nat) ≤ 8 by decide) dc_14_9_32 (mm_Ev_up (by decide : 1 ≤ 1) (c_in _ wh (nI 0) (nI 2))) ?_
        refine r_ifeq (t := 54) (by decide) dc_14_9_35 (fun c_35 => ?_) (fun c_35 => ?_)
        · skip
          refine r_iconst (v := -1) (by decide) dc_14_9_54 ?_
          exact r_iret rfl dc_14_9_55 (rfl)
        · skip
          exact absurd ⟨sp_in_ne c_6, sp_in_ne c_15, sp_in_ne c_25, sp_in_ne c_35⟩ hno
set_option maxHeartbeats 4000000 in
theorem c_turn_z (M : mH) (hM : 157 ≤ M.1) (io : Nat → Int32) (sg : Nat → Nat → Int32) (fr to mk wh : Nat) (hf : fr < 4) (ht : to < 4) (hk : mk < 11) (hw : wh < 3) (hab : sp_below sg fr 11 = 0 ∨ sp_below sg to 11 = 0) : mm_Ev 4 189 [.ref 100, .int (nI fr), .int (nI to), .int (nI mk), .int (nI wh)] (rf_mk M io sg) ((some (.int (-1)), rf_mk M io sg)) := by
  refine r_ev (by decide +kernel) (show (5 : Nat) ≤ mm_nL 189 by decide +kernel) ?_
  show mm_Ru 3 (13, 8, false, prog_14_method_9_code, some .int) 0 [(0, .ref 100), (1, .int (nI fr)), (2, .int (nI to)), (3, .int (nI mk)), (4, .int (nI wh))] [] (rf_mk M io sg) (fun z => z = ((some (.int (-1)), rf_mk M io sg)))
  refine r_iload_n rfl dc_14_9_0 ?_
  refine r_iconst (v := nI 0) (by decide) dc_14_9_1 ?_
  refine r_iconst (v := nI 3) (by decide) dc_14_9_2 ?_
  refine q_calls (as := [.int (nI fr), .int (nI 0), .int (nI 3)]) (rest := []) (v := .int (nI 1)) iv_13_s180 na_0_187 rfl (show (0 : Nat) ≤ 8 by decide) dc_14_9_3 (mm_Ev_up (by decide : 1 ≤ 3) (c_inT _ fr 0 3 (by omega) (by omega) (by omega))) ?_
  refine r_ifeq (t := 54) (by decide) dc_14_9_6 (fun c_6 => ?_) (fun c_6 => ?_)
  · exact absurd c_6 (by decide)
  · skip
    refine r_iload_n rfl dc_14_9_9 ?_
    refine r_iconst (v := nI 0) (by decide) dc_14_9_10 ?_
    refine r_iconst (v := nI 3) (by decide) dc_14_9_11 ?_
    refine q_calls (as := [.int (nI to), .int (nI 0), .int (nI 3)]) (rest := []) (v := .int (nI 1)) iv_13_s180 na_0_187 rfl (show (0 : Nat) ≤ 8 by decide) dc_14_9_12 (mm_Ev_up (by decide : 1 ≤ 3) (c_inT _ to 0 3 (by omega) (by omega) (by omega))) ?_
    refine r_ifeq (t := 54) (by decide) dc_14_9_15 (fun c_15 => ?_) (fun c_15 => ?_)
    · exact absurd c_15 (by decide)
    · skip
      refine r_iload_n rfl dc_14_9_18 ?_
      refine r_iconst (v := nI 0) (by decide) dc_14_9_19 ?_
      refine r_bipush (v := nI 10) (by decide) dc_14_9_20 ?_
      refine q_calls (as := [.int (nI mk), .int (nI 0), .int (nI 10)]) (rest := []) (v := .int (nI 1)) iv_13_s180 na_0_187 rfl (show (0 : Nat) ≤ 8 by decide) dc_14_9_22 (mm_Ev_up (by decide : 1 ≤ 3) (c_inT _ mk 0 10 (by omega) (by omega) (by omega))) ?_
      refine r_ifeq (t := 54) (by decide) dc_14_9_25 (fun c_25 => ?_) (fun c_25 => ?_)
      · exact absurd c_25 (by decide)
      · skip
        refine r_iload rfl dc_14_9_28 ?_
        refine r_iconst (v := nI 0) (by decide) dc_14_9_30 ?_
        refine r_iconst (v := nI 2) (by decide) dc_14_9_31 ?_
        refine q_calls (as := [.int (nI wh), .int (nI 0), .int (nI 2)]) (rest := []) (v := .int (nI 1)) iv_13_s180 na_0_187 rfl (show (0 : Nat) ≤ 8 by decide) dc_14_9_32 (mm_Ev_up (by decide : 1 ≤ 3) (c_inT _ wh 0 2 (by omega) (by omega) (by omega))) ?_
        refine r_ifeq (t := 54) (by decide) dc_14_9_35 (fun c_35 => ?_) (fun c_35 => ?_)
        · exact absurd c_35 (by decide)
        · skip
          refine r_aload_n rfl dc_14_9_38 ?_
          refine r_iload_n rfl dc_14_9_39 ?_
          refine q_calli (as := [.int (nI fr)]) (rest := []) (v := .int (sp_below sg fr 11)) (M1 := rf_mk M io sg) iv_13_v188 na_1_190 o_190 hM rfl (show (0 : Nat) ≤ 8 by decide) dc_14_9_40 (mm_Ev_up (by decide : 2 ≤ 3) (c_allOf M hM io sg fr (by omega))) ?_
          refine r_ifeq (t := 54) (by decide) dc_14_9_43 (fun c_43 => ?_) (fun c_43 => ?_)
          · skip
            refine r_iconst (v := -1) (by decide) dc_14_9_54 ?_
            exact r_iret rfl dc_14_9_55 (rfl)
          · skip
            refine r_aload_n rfl dc_14_9_46 ?_
            refine r_iload_n rfl dc_14_9_47 ?_
            refine q_calli (as := [.int (nI to)]) (rest := []) (v := .int (sp_below sg to 11)) (M1 := rf_mk M io sg) iv_13_v188 na_1_190 o_190 hM rfl (show (0 : Nat) ≤ 8 by decide) dc_14_9_48 (mm_Ev_up (by decide : 2 ≤ 3) (c_allOf M hM io sg to (by omega))) ?_
            refine r_ifne (t := 56) (by decide) dc_14_9_51 (fun c_51 => ?_) (fun c_51 => ?_)
            · exact absurd (hab.resolve_left c_43) c_51
            · skip
              refine r_iconst (v := -1) (by decide) dc_14_9_54 ?_
              exact r_iret rfl dc_14_9_55 (rfl)
