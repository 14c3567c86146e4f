/-! the whole: looking up, sums -/
theorem dc_1_36_0 : decode prog_1_method_36_code 0 = .ok (.iload_n 1, 1) := by decide +kernel
theorem dc_1_36_1 : decode prog_1_method_36_code 1 = .ok (.ifCond .lt 32, 3) := by decide +kernel
theorem dc_1_36_4 : decode prog_1_method_36_code 4 = .ok (.iload_n 1, 1) := by decide +kernel
theorem dc_1_36_5 : decode prog_1_method_36_code 5 = .ok (.aload_n 0, 1) := by decide +kernel
theorem dc_1_36_6 : decode prog_1_method_36_code 6 = .ok (.getfield 61, 3) := by decide +kernel
theorem dc_1_36_9 : decode prog_1_method_36_code 9 = .ok (.invokeinterface 113 1, 5) := by decide +kernel
theorem dc_1_36_14 : decode prog_1_method_36_code 14 = .ok (.if_icmp .ge 19, 3) := by decide +kernel
theorem dc_1_36_17 : decode prog_1_method_36_code 17 = .ok (.aload_n 0, 1) := by decide +kernel
theorem dc_1_36_18 : decode prog_1_method_36_code 18 = .ok (.getfield 61, 3) := by decide +kernel
theorem dc_1_36_21 : decode prog_1_method_36_code 21 = .ok (.iload_n 1, 1) := by decide +kernel
theorem dc_1_36_22 : decode prog_1_method_36_code 22 = .ok (.invokeinterface 227 2, 5) := by decide +kernel
theorem dc_1_36_27 : decode prog_1_method_36_code 27 = .ok (.checkcast 119, 3) := by decide +kernel
theorem dc_1_36_30 : decode prog_1_method_36_code 30 = .ok (.goto 4, 3) := by decide +kernel
theorem dc_1_36_33 : decode prog_1_method_36_code 33 = .ok (.aconst_null, 1) := by decide +kernel
theorem dc_1_36_34 : decode prog_1_method_36_code 34 = .ok (.areturn, 1) := by decide +kernel
theorem dc_1_37_0 : decode prog_1_method_37_code 0 = .ok (.iload_n 1, 1) := by decide +kernel
theorem dc_1_37_1 : decode prog_1_method_37_code 1 = .ok (.ifCond .lt 32, 3) := by decide +kernel
theorem dc_1_37_4 : decode prog_1_method_37_code 4 = .ok (.iload_n 1, 1) := by decide +kernel
theorem dc_1_37_5 : decode prog_1_method_37_code 5 = .ok (.aload_n 0, 1) := by decide +kernel
theorem dc_1_37_6 : decode prog_1_method_37_code 6 = .ok (.getfield 65, 3) := by decide +kernel
theorem dc_1_37_9 : decode prog_1_method_37_code 9 = .ok (.invokeinterface 113 1, 5) := by decide +kernel
theorem dc_1_37_14 : decode prog_1_method_37_code 14 = .ok (.if_icmp .ge 19, 3) := by decide +kernel
theorem dc_1_37_17 : decode prog_1_method_37_code 17 = .ok (.aload_n 0, 1) := by decide +kernel
theorem dc_1_37_18 : decode prog_1_method_37_code 18 = .ok (.getfield 65, 3) := by decide +kernel
theorem dc_1_37_21 : decode prog_1_method_37_code 21 = .ok (.iload_n 1, 1) := by decide +kernel
theorem dc_1_37_22 : decode prog_1_method_37_code 22 = .ok (.invokeinterface 227 2, 5) := by decide +kernel
theorem dc_1_37_27 : decode prog_1_method_37_code 27 = .ok (.checkcast 152, 3) := by decide +kernel
theorem dc_1_37_30 : decode prog_1_method_37_code 30 = .ok (.goto 4, 3) := by decide +kernel
theorem dc_1_37_33 : decode prog_1_method_37_code 33 = .ok (.aconst_null, 1) := by decide +kernel
theorem dc_1_37_34 : decode prog_1_method_37_code 34 = .ok (.areturn, 1) := by decide +kernel
theorem dc_1_38_0 : decode prog_1_method_38_code 0 = .ok (.iload_n 1, 1) := by decide +kernel
theorem dc_1_38_1 : decode prog_1_method_38_code 1 = .ok (.ifCond .lt 32, 3) := by decide +kernel
theorem dc_1_38_4 : decode prog_1_method_38_code 4 = .ok (.iload_n 1, 1) := by decide +kernel
theorem dc_1_38_5 : decode prog_1_method_38_code 5 = .ok (.aload_n 0, 1) := by decide +kernel
theorem dc_1_38_6 : decode prog_1_method_38_code 6 = .ok (.getfield 68, 3) := by decide +kernel
theorem dc_1_38_9 : decode prog_1_method_38_code 9 = .ok (.invokeinterface 113 1, 5) := by decide +kernel
theorem dc_1_38_14 : decode prog_1_method_38_code 14 = .ok (.if_icmp .ge 19, 3) := by decide +kernel
theorem dc_1_38_17 : decode prog_1_method_38_code 17 = .ok (.aload_n 0, 1) := by decide +kernel
theorem dc_1_38_18 : decode prog_1_method_38_code 18 = .ok (.getfield 68, 3) := by decide +kernel
theorem dc_1_38_21 : decode prog_1_method_38_code 21 = .ok (.iload_n 1, 1) := by decide +kernel
theorem dc_1_38_22 : decode prog_1_method_38_code 22 = .ok (.invokeinterface 227 2, 5) := by decide +kernel
theorem dc_1_38_27 : decode prog_1_method_38_code 27 = .ok (.checkcast 175, 3) := by decide +kernel
theorem dc_1_38_30 : decode prog_1_method_38_code 30 = .ok (.goto 4, 3) := by decide +kernel
theorem dc_1_38_33 : decode prog_1_method_38_code 33 = .ok (.aconst_null, 1) := by decide +kernel
theorem dc_1_38_34 : decode prog_1_method_38_code 34 = .ok (.areturn, 1) := by decide +kernel
theorem dc_1_39_0 : decode prog_1_method_39_code 0 = .ok (.aload_n 0, 1) := by decide +kernel
theorem dc_1_39_1 : decode prog_1_method_39_code 1 = .ok (.iload_n 2, 1) := by decide +kernel
theorem dc_1_39_2 : decode prog_1_method_39_code 2 = .ok (.invokevirtual 128, 3) := by decide +kernel
theorem dc_1_39_5 : decode prog_1_method_39_code 5 = .ok (.astore_n 3, 1) := by decide +kernel
theorem dc_1_39_6 : decode prog_1_method_39_code 6 = .ok (.aload_n 3, 1) := by decide +kernel
theorem dc_1_39_7 : decode prog_1_method_39_code 7 = .ok (.ifnonnull 5, 3) := by decide +kernel
theorem dc_1_39_12 : decode prog_1_method_39_code 12 = .ok (.aload_n 1, 1) := by decide +kernel
theorem dc_1_39_13 : decode prog_1_method_39_code 13 = .ok (.aload_n 3, 1) := by decide +kernel
theorem dc_1_39_14 : decode prog_1_method_39_code 14 = .ok (.getfield 238, 3) := by decide +kernel
theorem dc_1_39_17 : decode prog_1_method_39_code 17 = .ok (.invokevirtual 241, 3) := by decide +kernel
theorem dc_1_39_20 : decode prog_1_method_39_code 20 = .ok (.istore 4, 2) := by decide +kernel
theorem dc_1_39_22 : decode prog_1_method_39_code 22 = .ok (.iconst 0, 1) := by decide +kernel
theorem dc_1_39_23 : decode prog_1_method_39_code 23 = .ok (.istore 5, 2) := by decide +kernel
theorem dc_1_39_25 : decode prog_1_method_39_code 25 = .ok (.iload 5, 2) := by decide +kernel
theorem dc_1_39_27 : decode prog_1_method_39_code 27 = .ok (.aload_n 0, 1) := by decide +kernel
theorem dc_1_39_28 : decode prog_1_method_39_code 28 = .ok (.getfield 65, 3) := by decide +kernel
theorem dc_1_39_31 : decode prog_1_method_39_code 31 = .ok (.invokeinterface 113 1, 5) := by decide +kernel
theorem dc_1_39_36 : decode prog_1_method_39_code 36 = .ok (.if_icmp .ge 79, 3) := by decide +kernel
theorem dc_1_39_39 : decode prog_1_method_39_code 39 = .ok (.aload_n 0, 1) := by decide +kernel
theorem dc_1_39_40 : decode prog_1_method_39_code 40 = .ok (.getfield 65, 3) := by decide +kernel
theorem dc_1_39_43 : decode prog_1_method_39_code 43 = .ok (.iload 5, 2) := by decide +kernel
theorem dc_1_39_45 : decode prog_1_method_39_code 45 = .ok (.invokeinterface 227 2, 5) := by decide +kernel
theorem dc_1_39_50 : decode prog_1_method_39_code 50 = .ok (.checkcast 152, 3) := by decide +kernel
theorem dc_1_39_53 : decode prog_1_method_39_code 53 = .ok (.astore 6, 2) := by decide +kernel
theorem dc_1_39_55 : decode prog_1_method_39_code 55 = .ok (.aload 6, 2) := by decide +kernel
theorem dc_1_39_57 : decode prog_1_method_39_code 57 = .ok (.aload_n 0, 1) := by decide +kernel
theorem dc_1_39_58 : decode prog_1_method_39_code 58 = .ok (.getfield 7, 3) := by decide +kernel
theorem dc_1_39_61 : decode prog_1_method_39_code 61 = .ok (.invokevirtual 318, 3) := by decide +kernel
theorem dc_1_39_64 : decode prog_1_method_39_code 64 = .ok (.ifCond .eq 45, 3) := by decide +kernel
theorem dc_1_39_67 : decode prog_1_method_39_code 67 = .ok (.aload 6, 2) := by decide +kernel
theorem dc_1_39_69 : decode prog_1_method_39_code 69 = .ok (.aload_n 1, 1) := by decide +kernel
theorem dc_1_39_70 : decode prog_1_method_39_code 70 = .ok (.getfield 264, 3) := by decide +kernel
theorem dc_1_39_73 : decode prog_1_method_39_code 73 = .ok (.iload_n 2, 1) := by decide +kernel
theorem dc_1_39_74 : decode prog_1_method_39_code 74 = .ok (.invokevirtual 331, 3) := by decide +kernel
theorem dc_1_39_77 : decode prog_1_method_39_code 77 = .ok (.ifCond .eq 32, 3) := by decide +kernel
theorem dc_1_39_80 : decode prog_1_method_39_code 80 = .ok (.aload 6, 2) := by decide +kernel
theorem dc_1_39_82 : decode prog_1_method_39_code 82 = .ok (.aload_n 1, 1) := by decide +kernel
theorem dc_1_39_83 : decode prog_1_method_39_code 83 = .ok (.getfield 334, 3) := by decide +kernel
theorem dc_1_39_86 : decode prog_1_method_39_code 86 = .ok (.iload 4, 2) := by decide +kernel
theorem dc_1_39_88 : decode prog_1_method_39_code 88 = .ok (.aload_n 1, 1) := by decide +kernel
theorem dc_1_39_89 : decode prog_1_method_39_code 89 = .ok (.getfield 337, 3) := by decide +kernel
theorem dc_1_39_92 : decode prog_1_method_39_code 92 = .ok (.invokevirtual 161, 3) := by decide +kernel
theorem dc_1_39_95 : decode prog_1_method_39_code 95 = .ok (.aload_n 1, 1) := by decide +kernel
theorem dc_1_39_96 : decode prog_1_method_39_code 96 = .ok (.getfield 340, 3) := by decide +kernel
theorem dc_1_39_99 : decode prog_1_method_39_code 99 = .ok (.ishr, 1) := by decide +kernel
theorem dc_1_39_100 : decode prog_1_method_39_code 100 = .ok (.iconst 1, 1) := by decide +kernel
theorem dc_1_39_101 : decode prog_1_method_39_code 101 = .ok (.iand, 1) := by decide +kernel
theorem dc_1_39_102 : decode prog_1_method_39_code 102 = .ok (.iconst 1, 1) := by decide +kernel
theorem dc_1_39_103 : decode prog_1_method_39_code 103 = .ok (.if_icmp .ne 6, 3) := by decide +kernel
theorem dc_1_39_106 : decode prog_1_method_39_code 106 = .ok (.iload 5, 2) := by decide +kernel
theorem dc_1_39_108 : decode prog_1_method_39_code 108 = .ok (.ireturn, 1) := by decide +kernel
theorem dc_1_39_109 : decode prog_1_method_39_code 109 = .ok (.iinc 5 1, 3) := by decide +kernel
theorem dc_1_39_112 : decode prog_1_method_39_code 112 = .ok (.goto (-87), 3) := by decide +kernel
theorem dc_1_39_115 : decode prog_1_method_39_code 115 = .ok (.iconst (-1), 1) := by decide +kernel
theorem dc_1_39_116 : decode prog_1_method_39_code 116 = .ok (.ireturn, 1) := by decide +kernel
theorem dc_1_43_0 : decode prog_1_method_43_code 0 = .ok (.aload_n 0, 1) := by decide +kernel
theorem dc_1_43_1 : decode prog_1_method_43_code 1 = .ok (.iload_n 2, 1) := by decide +kernel
theorem dc_1_43_2 : decode prog_1_method_43_code 2 = .ok (.invokevirtual 157, 3) := by decide +kernel
theorem dc_1_43_5 : decode prog_1_method_43_code 5 = .ok (.astore_n 3, 1) := by decide +kernel
theorem dc_1_43_6 : decode prog_1_method_43_code 6 = .ok (.aload_n 3, 1) := by decide +kernel
theorem dc_1_43_7 : decode prog_1_method_43_code 7 = .ok (.ifnull 15, 3) := by decide +kernel
theorem dc_1_43_10 : decode prog_1_method_43_code 10 = .ok (.aload_n 3, 1) := by decide +kernel
theorem dc_1_43_11 : decode prog_1_method_43_code 11 = .ok (.getfield 303, 3) := by decide +kernel
theorem dc_1_43_14 : decode prog_1_method_43_code 14 = .ok (.iload_n 1, 1) := by decide +kernel
theorem dc_1_43_15 : decode prog_1_method_43_code 15 = .ok (.if_icmp .ne 7, 3) := by decide +kernel
theorem dc_1_43_18 : decode prog_1_method_43_code 18 = .ok (.iconst 1, 1) := by decide +kernel
theorem dc_1_43_19 : decode prog_1_method_43_code 19 = .ok (.goto 4, 3) := by decide +kernel
theorem dc_1_43_22 : decode prog_1_method_43_code 22 = .ok (.iconst (-1), 1) := by decide +kernel
theorem dc_1_43_23 : decode prog_1_method_43_code 23 = .ok (.ireturn, 1) := by decide +kernel
theorem dc_1_45_0 : decode prog_1_method_45_code 0 = .ok (.iconst 0, 1) := by decide +kernel
theorem dc_1_45_1 : decode prog_1_method_45_code 1 = .ok (.istore_n 2, 1) := by decide +kernel
theorem dc_1_45_2 : decode prog_1_method_45_code 2 = .ok (.iconst 0, 1) := by decide +kernel
theorem dc_1_45_3 : decode prog_1_method_45_code 3 = .ok (.istore_n 3, 1) := by decide +kernel
theorem dc_1_45_4 : decode prog_1_method_45_code 4 = .ok (.iload_n 1, 1) := by decide +kernel
theorem dc_1_45_5 : decode prog_1_method_45_code 5 = .ok (.ifCond .lt 59, 3) := by decide +kernel
theorem dc_1_45_8 : decode prog_1_method_45_code 8 = .ok (.iload_n 3, 1) := by decide +kernel
theorem dc_1_45_9 : decode prog_1_method_45_code 9 = .ok (.aload_n 0, 1) := by decide +kernel
theorem dc_1_45_10 : decode prog_1_method_45_code 10 = .ok (.getfield 68, 3) := by decide +kernel
theorem dc_1_45_13 : decode prog_1_method_45_code 13 = .ok (.invokeinterface 113 1, 5) := by decide +kernel
theorem dc_1_45_18 : decode prog_1_method_45_code 18 = .ok (.if_icmp .ge 46, 3) := by decide +kernel
theorem dc_1_45_21 : decode prog_1_method_45_code 21 = .ok (.aload_n 0, 1) := by decide +kernel
theorem dc_1_45_22 : decode prog_1_method_45_code 22 = .ok (.getfield 68, 3) := by decide +kernel
theorem dc_1_45_25 : decode prog_1_method_45_code 25 = .ok (.iload_n 3, 1) := by decide +kernel
theorem dc_1_45_26 : decode prog_1_method_45_code 26 = .ok (.invokeinterface 227 2, 5) := by decide +kernel
theorem dc_1_45_31 : decode prog_1_method_45_code 31 = .ok (.checkcast 175, 3) := by decide +kernel
theorem dc_1_45_34 : decode prog_1_method_45_code 34 = .ok (.astore 4, 2) := by decide +kernel
theorem dc_1_45_36 : decode prog_1_method_45_code 36 = .ok (.aload 4, 2) := by decide +kernel
theorem dc_1_45_38 : decode prog_1_method_45_code 38 = .ok (.getfield 356, 3) := by decide +kernel
theorem dc_1_45_41 : decode prog_1_method_45_code 41 = .ok (.iload_n 1, 1) := by decide +kernel
theorem dc_1_45_42 : decode prog_1_method_45_code 42 = .ok (.if_icmp .ne 16, 3) := by decide +kernel
theorem dc_1_45_45 : decode prog_1_method_45_code 45 = .ok (.iload_n 2, 1) := by decide +kernel
theorem dc_1_45_46 : decode prog_1_method_45_code 46 = .ok (.aload_n 0, 1) := by decide +kernel
theorem dc_1_45_47 : decode prog_1_method_45_code 47 = .ok (.aload 4, 2) := by decide +kernel
theorem dc_1_45_49 : decode prog_1_method_45_code 49 = .ok (.getfield 264, 3) := by decide +kernel
theorem dc_1_45_52 : decode prog_1_method_45_code 52 = .ok (.iload_n 1, 1) := by decide +kernel
theorem dc_1_45_53 : decode prog_1_method_45_code 53 = .ok (.invokevirtual 359, 3) := by decide +kernel
theorem dc_1_45_56 : decode prog_1_method_45_code 56 = .ok (.iadd, 1) := by decide +kernel
theorem dc_1_45_57 : decode prog_1_method_45_code 57 = .ok (.istore_n 2, 1) := by decide +kernel
theorem dc_1_45_58 : decode prog_1_method_45_code 58 = .ok (.iinc 3 1, 3) := by decide +kernel
theorem dc_1_45_61 : decode prog_1_method_45_code 61 = .ok (.goto (-57), 3) := by decide +kernel
theorem dc_1_45_64 : decode prog_1_method_45_code 64 = .ok (.iload_n 2, 1) := by decide +kernel
theorem dc_1_45_65 : decode prog_1_method_45_code 65 = .ok (.ireturn, 1) := by decide +kernel
theorem dc_1_46_0 : decode prog_1_method_46_code 0 = .ok (.iconst 0, 1) := by decide +kernel
theorem dc_1_46_1 : decode prog_1_method_46_code 1 = .ok (.istore_n 2, 1) := by decide +kernel
theorem dc_1_46_2 : decode prog_1_method_46_code 2 = .ok (.iconst 0, 1) := by decide +kernel
theorem dc_1_46_3 : decode prog_1_method_46_code 3 = .ok (.istore_n 3, 1) := by decide +kernel
theorem dc_1_46_4 : decode prog_1_method_46_code 4 = .ok (.iload_n 3, 1) := by decide +kernel
theorem dc_1_46_5 : decode prog_1_method_46_code 5 = .ok (.aload_n 0, 1) := by decide +kernel
theorem dc_1_46_6 : decode prog_1_method_46_code 6 = .ok (.getfield 68, 3) := by decide +kernel
theorem dc_1_46_9 : decode prog_1_method_46_code 9 = .ok (.invokeinterface 113 1, 5) := by decide +kernel
theorem dc_1_46_14 : decode prog_1_method_46_code 14 = .ok (.if_icmp .ge 45, 3) := by decide +kernel
theorem dc_1_46_17 : decode prog_1_method_46_code 17 = .ok (.aload_n 0, 1) := by decide +kernel
theorem dc_1_46_18 : decode prog_1_method_46_code 18 = .ok (.getfield 68, 3) := by decide +kernel
theorem dc_1_46_21 : decode prog_1_method_46_code 21 = .ok (.iload_n 3, 1) := by decide +kernel
theorem dc_1_46_22 : decode prog_1_method_46_code 22 = .ok (.invokeinterface 227 2, 5) := by decide +kernel
theorem dc_1_46_27 : decode prog_1_method_46_code 27 = .ok (.checkcast 175, 3) := by decide +kernel
theorem dc_1_46_30 : decode prog_1_method_46_code 30 = .ok (.astore 4, 2) := by decide +kernel
theorem dc_1_46_32 : decode prog_1_method_46_code 32 = .ok (.aload 4, 2) := by decide +kernel
theorem dc_1_46_34 : decode prog_1_method_46_code 34 = .ok (.getfield 204, 3) := by decide +kernel
theorem dc_1_46_37 : decode prog_1_method_46_code 37 = .ok (.iconst 1, 1) := by decide +kernel
theorem dc_1_46_38 : decode prog_1_method_46_code 38 = .ok (.if_icmp .ne 15, 3) := by decide +kernel
theorem dc_1_46_41 : decode prog_1_method_46_code 41 = .ok (.aload 4, 2) := by decide +kernel
theorem dc_1_46_43 : decode prog_1_method_46_code 43 = .ok (.getfield 356, 3) := by decide +kernel
theorem dc_1_46_46 : decode prog_1_method_46_code 46 = .ok (.iload_n 1, 1) := by decide +kernel
theorem dc_1_46_47 : decode prog_1_method_46_code 47 = .ok (.if_icmp .ne 6, 3) := by decide +kernel
theorem dc_1_46_50 : decode prog_1_method_46_code 50 = .ok (.iinc 2 1, 3) := by decide +kernel
theorem dc_1_46_53 : decode prog_1_method_46_code 53 = .ok (.iinc 3 1, 3) := by decide +kernel
theorem dc_1_46_56 : decode prog_1_method_46_code 56 = .ok (.goto (-52), 3) := by decide +kernel
theorem dc_1_46_59 : decode prog_1_method_46_code 59 = .ok (.iload_n 2, 1) := by decide +kernel
theorem dc_1_46_60 : decode prog_1_method_46_code 60 = .ok (.ireturn, 1) := by decide +kernel
theorem dc_1_47_0 : decode prog_1_method_47_code 0 = .ok (.iconst 0, 1) := by decide +kernel
theorem dc_1_47_1 : decode prog_1_method_47_code 1 = .ok (.istore_n 2, 1) := by decide +kernel
theorem dc_1_47_2 : decode prog_1_method_47_code 2 = .ok (.iconst 0, 1) := by decide +kernel
theorem dc_1_47_3 : decode prog_1_method_47_code 3 = .ok (.istore_n 3, 1) := by decide +kernel
theorem dc_1_47_4 : decode prog_1_method_47_code 4 = .ok (.iload_n 3, 1) := by decide +kernel
theorem dc_1_47_5 : decode prog_1_method_47_code 5 = .ok (.aload_n 0, 1) := by decide +kernel
theorem dc_1_47_6 : decode prog_1_method_47_code 6 = .ok (.getfield 68, 3) := by decide +kernel
theorem dc_1_47_9 : decode prog_1_method_47_code 9 = .ok (.invokeinterface 113 1, 5) := by decide +kernel
theorem dc_1_47_14 : decode prog_1_method_47_code 14 = .ok (.if_icmp .ge 32, 3) := by decide +kernel
theorem dc_1_47_17 : decode prog_1_method_47_code 17 = .ok (.aload_n 0, 1) := by decide +kernel
theorem dc_1_47_18 : decode prog_1_method_47_code 18 = .ok (.getfield 68, 3) := by decide +kernel
theorem dc_1_47_21 : decode prog_1_method_47_code 21 = .ok (.iload_n 3, 1) := by decide +kernel
theorem dc_1_47_22 : decode prog_1_method_47_code 22 = .ok (.invokeinterface 227 2, 5) := by decide +kernel
theorem dc_1_47_27 : decode prog_1_method_47_code 27 = .ok (.checkcast 175, 3) := by decide +kernel
theorem dc_1_47_30 : decode prog_1_method_47_code 30 = .ok (.invokevirtual 261, 3) := by decide +kernel
theorem dc_1_47_33 : decode prog_1_method_47_code 33 = .ok (.iload_n 1, 1) := by decide +kernel
theorem dc_1_47_34 : decode prog_1_method_47_code 34 = .ok (.if_icmp .ne 6, 3) := by decide +kernel
theorem dc_1_47_37 : decode prog_1_method_47_code 37 = .ok (.iinc 2 1, 3) := by decide +kernel
theorem dc_1_47_40 : decode prog_1_method_47_code 40 = .ok (.iinc 3 1, 3) := by decide +kernel
theorem dc_1_47_43 : decode prog_1_method_47_code 43 = .ok (.goto (-39), 3) := by decide +kernel
theorem dc_1_47_46 : decode prog_1_method_47_code 46 = .ok (.iload_n 2, 1) := by decide +kernel
theorem dc_1_47_47 : decode prog_1_method_47_code 47 = .ok (.ireturn, 1) := by decide +kernel
theorem dc_1_48_0 : decode prog_1_method_48_code 0 = .ok (.iconst 0, 1) := by decide +kernel
theorem dc_1_48_1 : decode prog_1_method_48_code 1 = .ok (.istore_n 2, 1) := by decide +kernel
theorem dc_1_48_2 : decode prog_1_method_48_code 2 = .ok (.iconst 0, 1) := by decide +kernel
theorem dc_1_48_3 : decode prog_1_method_48_code 3 = .ok (.istore_n 3, 1) := by decide +kernel
theorem dc_1_48_4 : decode prog_1_method_48_code 4 = .ok (.iload_n 3, 1) := by decide +kernel
theorem dc_1_48_5 : decode prog_1_method_48_code 5 = .ok (.aload_n 0, 1) := by decide +kernel
theorem dc_1_48_6 : decode prog_1_method_48_code 6 = .ok (.getfield 68, 3) := by decide +kernel
theorem dc_1_48_9 : decode prog_1_method_48_code 9 = .ok (.invokeinterface 113 1, 5) := by decide +kernel
theorem dc_1_48_14 : decode prog_1_method_48_code 14 = .ok (.if_icmp .ge 32, 3) := by decide +kernel
theorem dc_1_48_17 : decode prog_1_method_48_code 17 = .ok (.aload_n 0, 1) := by decide +kernel
theorem dc_1_48_18 : decode prog_1_method_48_code 18 = .ok (.getfield 68, 3) := by decide +kernel
theorem dc_1_48_21 : decode prog_1_method_48_code 21 = .ok (.iload_n 3, 1) := by decide +kernel
theorem dc_1_48_22 : decode prog_1_method_48_code 22 = .ok (.invokeinterface 227 2, 5) := by decide +kernel
theorem dc_1_48_27 : decode prog_1_method_48_code 27 = .ok (.checkcast 175, 3) := by decide +kernel
theorem dc_1_48_30 : decode prog_1_method_48_code 30 = .ok (.getfield 204, 3) := by decide +kernel
theorem dc_1_48_33 : decode prog_1_method_48_code 33 = .ok (.iload_n 1, 1) := by decide +kernel
theorem dc_1_48_34 : decode prog_1_method_48_code 34 = .ok (.if_icmp .ne 6, 3) := by decide +kernel
theorem dc_1_48_37 : decode prog_1_method_48_code 37 = .ok (.iinc 2 1, 3) := by decide +kernel
theorem dc_1_48_40 : decode prog_1_method_48_code 40 = .ok (.iinc 3 1, 3) := by decide +kernel
theorem dc_1_48_43 : decode prog_1_method_48_code 43 = .ok (.goto (-39), 3) := by decide +kernel
theorem dc_1_48_46 : decode prog_1_method_48_code 46 = .ok (.iload_n 2, 1) := by decide +kernel
theorem dc_1_48_47 : decode prog_1_method_48_code 47 = .ok (.ireturn, 1) := by decide +kernel
theorem iv_0_f113 : mm_iv 0 (.invokeinterface 113 1) = some (6, 26) := by decide +kernel
theorem iv_0_f227 : mm_iv 0 (.invokeinterface 227 2) = some (6, 40) := by decide +kernel
theorem iv_0_v128 : mm_iv 0 (.invokevirtual 128) = some (1, 39) := by decide +kernel
theorem iv_0_v157 : mm_iv 0 (.invokevirtual 157) = some (1, 85) := by decide +kernel
theorem iv_0_v161 : mm_iv 0 (.invokevirtual 161) = some (1, 86) := by decide +kernel
theorem iv_0_v241 : mm_iv 0 (.invokevirtual 241) = some (1, 108) := by decide +kernel
theorem iv_0_v261 : mm_iv 0 (.invokevirtual 261) = some (1, 118) := by decide +kernel
theorem iv_0_v318 : mm_iv 0 (.invokevirtual 318) = some (1, 109) := by decide +kernel
theorem iv_0_v331 : mm_iv 0 (.invokevirtual 331) = some (1, 98) := by decide +kernel
theorem iv_0_v359 : mm_iv 0 (.invokevirtual 359) = some (1, 120) := by decide +kernel
theorem kr_0_119 : mm_kr 0 119 = some 9 := by decide +kernel
theorem kr_0_152 : mm_kr 0 152 = some 10 := by decide +kernel
theorem kr_0_175 : mm_kr 0 175 = some 11 := by decide +kernel
theorem o_108 : mm_o 108 = 11 := by decide +kernel
theorem o_109 : mm_o 109 = 10 := by decide +kernel
theorem o_120 : mm_o 120 = 0 := by decide +kernel
theorem o_39 : mm_o 39 = 0 := by decide +kernel
theorem o_85 : mm_o 85 = 0 := by decide +kernel
theorem na_1_108 : mm_nas 1 108 = 2 := by decide +kernel
theorem na_1_109 : mm_nas 1 109 = 2 := by decide +kernel
theorem na_1_120 : mm_nas 1 120 = 3 := by decide +kernel
theorem na_1_39 : mm_nas 1 39 = 2 := by decide +kernel
theorem na_1_85 : mm_nas 1 85 = 2 := by decide +kernel
set_option maxHeartbeats 4000000 in
theorem k_scAt_ok {M : mH} {T : Nat → mT} {cs sg : Nat → Nat → Int32} {io : Nat → Int32} {e : Nat → Nat} {D : Nat → Nat → Nat} {nh nx ns nf ny tp : Nat} {cm : Nat → Nat} {w : Nat → Nat → Nat} {cn : Nat → Nat} {wc : Nat → Nat → Nat} (hV : CV M T cs io sg e D nh nx ns nf ny tp cm w cn wc) (h : Nat) (hh : h < nh) : mm_Ev 4 39 [.ref 0, .int (nI h)] (hk M T cs) ((some (.ref (D 0 h)), hk M T cs)) := by
  obtain ⟨⟨hM, hMs, hW⟩, hC, hT, hR, hJ⟩ := id hV
  obtain ⟨hF, ⟨hL0, hL1, hL2⟩, hSc, hAg, hSt⟩ := id hC
  obtain ⟨⟨⟨h3, hnh⟩, ⟨h4, hnx⟩, ⟨h5, hns⟩, ⟨h7, hnf⟩, ⟨h6, hny⟩, ⟨h23, htp⟩⟩, hRa, hRb, hRs, hRs2, hRs3, hRx, hCD, hRt, hRt2, hRf⟩ := id hR
  refine r_ev (by decide +kernel) (show (2 : Nat) ≤ mm_nL 39 by decide +kernel) ?_
  show mm_Ru 3 (0, 2, false, prog_1_method_36_code, some (.object "StudentSwaps$School")) 0 [(0, .ref 0), (1, .int (nI h))] [] (hk M T cs) (fun r9 => r9 = ((some (.ref (D 0 h)), hk M T cs)))
  refine r_iload_n rfl dc_1_36_0 ?_
  refine r_nzlt (t := 33) (by omega) (by decide) dc_1_36_1 ?_
  refine r_iload_n rfl dc_1_36_4 ?_
  refine r_aload_n rfl dc_1_36_5 ?_
  refine h_get (t := cT e 0) (v := .ref 25) fx_0_61 (hF 0 (by decide)) ⟨by omega, by omega⟩ (rfl) dc_1_36_6 ?_
  refine h_callv (t := cT e 25) (as := []) (rest := [.int (nI h)]) (v := .int (nI nh)) (M1 := hk M T cs) rfl rfl iv_0_f113 (Or.inr (Or.inr rfl)) na_6_26 (hF 25 (by decide)) ⟨by omega, by omega⟩ (show (6 : Nat) < 14 by decide) o_26 rfl (show (1 : Nat) ≤ 8 by decide) dc_1_36_9 (mm_Ev_up (by decide : 1 ≤ 3) (k_sizeL hV.2.1.2.1.1)) ?_
  refine r_ncge (t := 33) (by omega) (by omega) (by decide) dc_1_36_14 (fun c_14 => ?_) (fun c_14 => ?_)
  · omega
  · skip
    refine r_aload_n rfl dc_1_36_17 ?_
    refine h_get (t := cT e 0) (v := .ref 25) fx_0_61 (hF 0 (by decide)) ⟨by omega, by omega⟩ (rfl) dc_1_36_18 ?_
    refine r_iload_n rfl dc_1_36_21 ?_
    refine h_callv (t := cT e 25) (as := [.int (nI h)]) (rest := []) (v := .ref (D 0 h)) (M1 := hk M T cs) rfl rfl iv_0_f227 (Or.inr (Or.inr rfl)) na_6_40 (hF 25 (by decide)) ⟨by omega, by omega⟩ (show (6 : Nat) < 14 by decide) o_40 rfl (show (0 : Nat) ≤ 8 by decide) dc_1_36_22 (k_getL hV.2.1.2.1.1 h (by omega)) ?_
    refine h_cast (t := (9, 0, rl [(6, D 1 h)])) (c := 9) (hSc h (by omega)).1 (hSc h (by omega)).2.1 (show (9 : Nat) < 14 by decide) kr_0_119 rfl dc_1_36_27 ?_
    refine r_goto (t := 34) (by decide) dc_1_36_30 ?_
    exact r_aret rfl dc_1_36_34 (rfl)
set_option maxHeartbeats 4000000 in
theorem k_scAt_no {M : mH} {T : Nat → mT} {cs sg : Nat → Nat → Int32} {io : Nat → Int32} {e : Nat → Nat} {D : Nat → Nat → Nat} {nh nx ns nf ny tp : Nat} {cm : Nat → Nat} {w : Nat → Nat → Nat} {cn : Nat → Nat} {wc : Nat → Nat → Nat} (hV : CV M T cs io sg e D nh nx ns nf ny tp cm w cn wc) (v : Int32) (hno : ¬ (0 ≤ v ∧ v < nI nh)) : mm_Ev 2 39 [.ref 0, .int v] (hk M T cs) ((some .null, hk M T cs)) := by
  obtain ⟨⟨hM, hMs, hW⟩, hC, hT, hR, hJ⟩ := id hV
  obtain ⟨hF, ⟨hL0, hL1, hL2⟩, hSc, hAg, hSt⟩ := id hC
  obtain ⟨⟨⟨h3, hnh⟩, ⟨h4, hnx⟩, ⟨h5, hns⟩, ⟨h7, hnf⟩, ⟨h6, hny⟩, ⟨h23, htp⟩⟩, hRa, hRb, hRs, hRs2, hRs3, hRx, hCD, hRt, hRt2, hRf⟩ := id hR
  refine r_ev (by decide +kernel) (show (2 : Nat) ≤ mm_nL 39 by decide +kernel) ?_
  show mm_Ru 1 (0, 2, false, prog_1_method_36_code, some (.object "StudentSwaps$School")) 0 [(0, .ref 0), (1, .int v)] [] (hk M T cs) (fun r9 => r9 = ((some .null, hk M T cs)))
  refine r_iload_n rfl dc_1_36_0 ?_
  refine r_iflt (t := 33) (by decide) dc_1_36_1 (fun c_1 => ?_) (fun c_1 => ?_)
  · skip
    refine r_null dc_1_36_33 ?_
    exact r_aretZ rfl dc_1_36_34 (rfl)
  · skip
    refine r_iload_n rfl dc_1_36_4 ?_
    refine r_aload_n rfl dc_1_36_5 ?_
    refine h_get (t := cT e 0) (v := .ref 25) fx_0_61 (hF 0 (by decide)) ⟨by omega, by omega⟩ (rfl) dc_1_36_6 ?_
    refine h_callv (t := cT e 25) (as := []) (rest := [.int v]) (v := .int (nI nh)) (M1 := hk M T cs) rfl rfl iv_0_f113 (Or.inr (Or.inr rfl)) na_6_26 (hF 25 (by decide)) ⟨by omega, by omega⟩ (show (6 : Nat) < 14 by decide) o_26 rfl (show (1 : Nat) ≤ 8 by decide) dc_1_36_9 (k_sizeL hV.2.1.2.1.1) ?_
    refine r_icge (t := 33) (by decide) dc_1_36_14 (fun c_14 => ?_) (fun c_14 => ?_)
    · skip
      refine r_null dc_1_36_33 ?_
      exact r_aretZ rfl dc_1_36_34 (rfl)
    · skip
      exact absurd ⟨Int32.not_lt.mp c_1, Int32.not_le.mp c_14⟩ hno
set_option maxHeartbeats 4000000 in
theorem k_agAt_ok {M : mH} {T : Nat → mT} {cs sg : Nat → Nat → Int32} {io : Nat → Int32} {e : Nat → Nat} {D : Nat → Nat → Nat} {nh nx ns nf ny tp : Nat} {cm : Nat → Nat} {w : Nat → Nat → Nat} {cn : Nat → Nat} {wc : Nat → Nat → Nat} (hV : CV M T cs io sg e D nh nx ns nf ny tp cm w cn wc) (h : Nat) (hh : h < nx) : mm_Ev 4 85 [.ref 0, .int (nI h)] (hk M T cs) ((some (.ref (D 4 h)), hk M T cs)) := by
  obtain ⟨⟨hM, hMs, hW⟩, hC, hT, hR, hJ⟩ := id hV
  obtain ⟨hF, ⟨hL0, hL1, hL2⟩, hSc, hAg, hSt⟩ := id hC
  obtain ⟨⟨⟨h3, hnh⟩, ⟨h4, hnx⟩, ⟨h5, hns⟩, ⟨h7, hnf⟩, ⟨h6, hny⟩, ⟨h23, htp⟩⟩, hRa, hRb, hRs, hRs2, hRs3, hRx, hCD, hRt, hRt2, hRf⟩ := id hR
  refine r_ev (by decide +kernel) (show (2 : Nat) ≤ mm_nL 85 by decide +kernel) ?_
  show mm_Ru 3 (0, 2, false, prog_1_method_37_code, some (.object "StudentSwaps$Agreement")) 0 [(0, .ref 0), (1, .int (nI h))] [] (hk M T cs) (fun r9 => r9 = ((some (.ref (D 4 h)), hk M T cs)))
  refine r_iload_n rfl dc_1_37_0 ?_
  refine r_nzlt (t := 33) (by omega) (by decide) dc_1_37_1 ?_
  refine r_iload_n rfl dc_1_37_4 ?_
  refine r_aload_n rfl dc_1_37_5 ?_
  refine h_get (t := cT e 0) (v := .ref 26) fx_0_65 (hF 0 (by decide)) ⟨by omega, by omega⟩ (rfl) dc_1_37_6 ?_
  refine h_callv (t := cT e 26) (as := []) (rest := [.int (nI h)]) (v := .int (nI nx)) (M1 := hk M T cs) rfl rfl iv_0_f113 (Or.inr (Or.inr rfl)) na_6_26 (hF 26 (by decide)) ⟨by omega, by omega⟩ (show (6 : Nat) < 14 by decide) o_26 rfl (show (1 : Nat) ≤ 8 by decide) dc_1_37_9 (mm_Ev_up (by decide : 1 ≤ 3) (k_sizeL hV.2.1.2.1.2.1)) ?_
  refine r_ncge (t := 33) (by omega) (by omega) (by decide) dc_1_37_14 (fun c_14 => ?_) (fun c_14 => ?_)
  · omega
  · skip
    refine r_aload_n rfl dc_1_37_17 ?_
    refine h_get (t := cT e 0) (v := .ref 26) fx_0_65 (hF 0 (by decide)) ⟨by omega, by omega⟩ (rfl) dc_1_37_18 ?_
    refine r_iload_n rfl dc_1_37_21 ?_
    refine h_callv (t := cT e 26) (as := [.int (nI h)]) (rest := []) (v := .ref (D 4 h)) (M1 := hk M T cs) rfl rfl iv_0_f227 (Or.inr (Or.inr rfl)) na_6_40 (hF 26 (by decide)) ⟨by omega, by omega⟩ (show (6 : Nat) < 14 by decide) o_40 rfl (show (0 : Nat) ≤ 8 by decide) dc_1_37_22 (k_getL hV.2.1.2.1.2.1 h (by omega)) ?_
    refine h_cast (t := (10, 0, rl [(9, D 6 h), (8, D 5 h)])) (c := 10) (hAg h (by omega)).1 (hAg h (by omega)).2.1 (show (10 : Nat) < 14 by decide) kr_0_152 rfl dc_1_37_27 ?_
    refine r_goto (t := 34) (by decide) dc_1_37_30 ?_
    exact r_aret rfl dc_1_37_34 (rfl)
set_option maxHeartbeats 4000000 in
theorem k_agAt_no {M : mH} {T : Nat → mT} {cs sg : Nat → Nat → Int32} {io : Nat → Int32} {e : Nat → Nat} {D : Nat → Nat → Nat} {nh nx ns nf ny tp : Nat} {cm : Nat → Nat} {w : Nat → Nat → Nat} {cn : Nat → Nat} {wc : Nat → Nat → Nat} (hV : CV M T cs io sg e D nh nx ns nf ny tp cm w cn wc) (v : Int32) (hno : ¬ (0 ≤ v ∧ v < nI nx)) : mm_Ev 2 85 [.ref 0, .int v] (hk M T cs) ((some .null, hk M T cs)) := by
  obtain ⟨⟨hM, hMs, hW⟩, hC, hT, hR, hJ⟩ := id hV
  obtain ⟨hF, ⟨hL0, hL1, hL2⟩, hSc, hAg, hSt⟩ := id hC
  obtain ⟨⟨⟨h3, hnh⟩, ⟨h4, hnx⟩, ⟨h5, hns⟩, ⟨h7, hnf⟩, ⟨h6, hny⟩, ⟨h23, htp⟩⟩, hRa, hRb, hRs, hRs2, hRs3, hRx, hCD, hRt, hRt2, hRf⟩ := id hR
  refine r_ev (by decide +kernel) (show (2 : Nat) ≤ mm_nL 85 by decide +kernel) ?_
  show mm_Ru 1 (0, 2, false, prog_1_method_37_code, some (.object "StudentSwaps$Agreement")) 0 [(0, .ref 0), (1, .int v)] [] (hk M T cs) (fun r9 => r9 = ((some .null, hk M T cs)))
  refine r_iload_n rfl dc_1_37_0 ?_
  refine r_iflt (t := 33) (by decide) dc_1_37_1 (fun c_1 => ?_) (fun c_1 => ?_)
  · skip
    refine r_null dc_1_37_33 ?_
    exact r_aretZ rfl dc_1_37_34 (rfl)
  · skip
    refine r_iload_n rfl dc_1_37_4 ?_
    refine r_aload_n rfl dc_1_37_5 ?_
    refine h_get (t := cT e 0) (v := .ref 26) fx_0_65 (hF 0 (by decide)) ⟨by omega, by omega⟩ (rfl) dc_1_37_6 ?_
    refine h_callv (t := cT e 26) (as := []) (rest := [.int v]) (v := .int (nI nx)) (M1 := hk M T cs) rfl rfl iv_0_f113 (Or.inr (Or.inr rfl)) na_6_26 (hF 26 (by decide)) ⟨by omega, by omega⟩ (show (6 : Nat) < 14 by decide) o_26 rfl (show (1 : Nat) ≤ 8 by decide) dc_1_37_9 (k_sizeL hV.2.1.2.1.2.1) ?_
    refine r_icge (t := 33) (by decide) dc_1_37_14 (fun c_14 => ?_) (fun c_14 => ?_)
    · skip
      refine r_null dc_1_37_33 ?_
      exact r_aretZ rfl dc_1_37_34 (rfl)
    · skip
      exact absurd ⟨Int32.not_lt.mp c_1, Int32.not_le.mp c_14⟩ hno
set_option maxHeartbeats 4000000 in
theorem k_stAt_ok {M : mH} {T : Nat → mT} {cs sg : Nat → Nat → Int32} {io : Nat → Int32} {e : Nat → Nat} {D : Nat → Nat → Nat} {nh nx ns nf ny tp : Nat} {cm : Nat → Nat} {w : Nat → Nat → Nat} {cn : Nat → Nat} {wc : Nat → Nat → Nat} (hV : CV M T cs io sg e D nh nx ns nf ny tp cm w cn wc) (h : Nat) (hh : h < ns) : mm_Ev 4 102 [.ref 0, .int (nI h)] (hk M T cs) ((some (.ref (D 7 h)), hk M T cs)) := by
  obtain ⟨⟨hM, hMs, hW⟩, hC, hT, hR, hJ⟩ := id hV
  obtain ⟨hF, ⟨hL0, hL1, hL2⟩, hSc, hAg, hSt⟩ := id hC
  obtain ⟨⟨⟨h3, hnh⟩, ⟨h4, hnx⟩, ⟨h5, hns⟩, ⟨h7, hnf⟩, ⟨h6, hny⟩, ⟨h23, htp⟩⟩, hRa, hRb, hRs, hRs2, hRs3, hRx, hCD, hRt, hRt2, hRf⟩ := id hR
  refine r_ev (by decide +kernel) (show (2 : Nat) ≤ mm_nL 102 by decide +kernel) ?_
  show mm_Ru 3 (0, 2, false, prog_1_method_38_code, some (.object "StudentSwaps$Student")) 0 [(0, .ref 0), (1, .int (nI h))] [] (hk M T cs) (fun r9 => r9 = ((some (.ref (D 7 h)), hk M T cs)))
  refine r_iload_n rfl dc_1_38_0 ?_
  refine r_nzlt (t := 33) (by omega) (by decide) dc_1_38_1 ?_
  refine r_iload_n rfl dc_1_38_4 ?_
  refine r_aload_n rfl dc_1_38_5 ?_
  refine h_get (t := cT e 0) (v := .ref 27) fx_0_68 (hF 0 (by decide)) ⟨by omega, by omega⟩ (rfl) dc_1_38_6 ?_
  refine h_callv (t := cT e 27) (as := []) (rest := [.int (nI h)]) (v := .int (nI ns)) (M1 := hk M T cs) rfl rfl iv_0_f113 (Or.inr (Or.inr rfl)) na_6_26 (hF 27 (by decide)) ⟨by omega, by omega⟩ (show (6 : Nat) < 14 by decide) o_26 rfl (show (1 : Nat) ≤ 8 by decide) dc_1_38_9 (mm_Ev_up (by decide : 1 ≤ 3) (k_sizeL hV.2.1.2.1.2.2)) ?_
  refine r_ncge (t := 33) (by omega) (by omega) (by decide) dc_1_38_14 (fun c_14 => ?_) (fun c_14 => ?_)
  · omega
  · skip
    refine r_aload_n rfl dc_1_38_17 ?_
    refine h_get (t := cT e 0) (v := .ref 27) fx_0_68 (hF 0 (by decide)) ⟨by omega, by omega⟩ (rfl) dc_1_38_18 ?_
    refine r_iload_n rfl dc_1_38_21 ?_
    refine h_callv (t := cT e 27) (as := [.int (nI h)]) (rest := []) (v := .ref (D 7 h)) (M1 := hk M T cs) rfl rfl iv_0_f227 (Or.inr (Or.inr rfl)) na_6_40 (hF 27 (by decide)) ⟨by omega, by omega⟩ (show (6 : Nat) < 14 by decide) o_40 rfl (show (0 : Nat) ≤ 8 by decide) dc_1_38_22 (k_getL hV.2.1.2.1.2.2 h (by omega)) ?_
    refine h_cast (t := (11, 0, rl [(6, D 9 h), (5, D 8 h)])) (c := 11) (hSt h (by omega)).1 (hSt h (by omega)).2.1 (show (11 : Nat) < 14 by decide) kr_0_175 rfl dc_1_38_27 ?_
    refine r_goto (t := 34) (by decide) dc_1_38_30 ?_
    exact r_aret rfl dc_1_38_34 (rfl)
set_option maxHeartbeats 4000000 in
theorem k_stAt_no {M : mH} {T : Nat → mT} {cs sg : Nat → Nat → Int32} {io : Nat → Int32} {e : Nat → Nat} {D : Nat → Nat → Nat} {nh nx ns nf ny tp : Nat} {cm : Nat → Nat} {w : Nat → Nat → Nat} {cn : Nat → Nat} {wc : Nat → Nat → Nat} (hV : CV M T cs io sg e D nh nx ns nf ny tp cm w cn wc) (v : Int32) (hno : ¬ (0 ≤ v ∧ v < nI ns)) : mm_Ev 2 102 [.ref 0, .int v] (hk M T cs) ((some .null, hk M T cs)) := by
  obtain ⟨⟨hM, hMs, hW⟩, hC, hT, hR, hJ⟩ := id hV
  obtain ⟨hF, ⟨hL0, hL1, hL2⟩, hSc, hAg, hSt⟩ := id hC
  obtain ⟨⟨⟨h3, hnh⟩, ⟨h4, hnx⟩, ⟨h5, hns⟩, ⟨h7, hnf⟩, ⟨h6, hny⟩, ⟨h23, htp⟩⟩, hRa, hRb, hRs, hRs2, hRs3, hRx, hCD, hRt, hRt2, hRf⟩ := id hR
  refine r_ev (by decide +kernel) (show (2 : Nat) ≤ mm_nL 102 by decide +kernel) ?_
  show mm_Ru 1 (0, 2, false, prog_1_method_38_code, some (.object "StudentSwaps$Student")) 0 [(0, .ref 0), (1, .int v)] [] (hk M T cs) (fun r9 => r9 = ((some .null, hk M T cs)))
  refine r_iload_n rfl dc_1_38_0 ?_
  refine r_iflt (t := 33) (by decide) dc_1_38_1 (fun c_1 => ?_) (fun c_1 => ?_)
  · skip
    refine r_null dc_1_38_33 ?_
    exact r_aretZ rfl dc_1_38_34 (rfl)
  · skip
    refine r_iload_n rfl dc_1_38_4 ?_
    refine r_aload_n rfl dc_1_38_5 ?_
    refine h_get (t := cT e 0) (v := .ref 27) fx_0_68 (hF 0 (by decide)) ⟨by omega, by omega⟩ (rfl) dc_1_38_6 ?_
    refine h_callv (t := cT e 27) (as := []) (rest := [.int v]) (v := .int (nI ns)) (M1 := hk M T cs) rfl rfl iv_0_f113 (Or.inr (Or.inr rfl)) na_6_26 (hF 27 (by decide)) ⟨by omega, by omega⟩ (show (6 : Nat) < 14 by decide) o_26 rfl (show (1 : Nat) ≤ 8 by decide) dc_1_38_9 (k_sizeL hV.2.1.2.1.2.2) ?_
    refine r_icge (t := 33) (by decide) dc_1_38_14 (fun c_14 => ?_) (fun c_14 => ?_)
    · skip
      refine r_null dc_1_38_33 ?_
      exact r_aretZ rfl dc_1_38_34 (rfl)
    · skip
      exact absurd ⟨Int32.not_lt.mp c_1, Int32.not_le.mp c_14⟩ hno
set_option maxHeartbeats 4000000 in
theorem k_wayOf {M : mH} {T : Nat → mT} {cs sg : Nat → Nat → Int32} {io : Nat → Int32} {e : Nat → Nat} {D : Nat → Nat → Nat} {nh nx ns nf ny tp : Nat} {cm : Nat → Nat} {w : Nat → Nat → Nat} {cn : Nat → Nat} {wc : Nat → Nat → Nat} (hV : CV M T cs io sg e D nh nx ns nf ny tp cm w cn wc) (x : Nat) (hx : x < nx) (hm : Int32) : mm_Ev 5 120 [.ref 0, .int hm, .int (nI x)] (hk M T cs) ((some (.int (if sg 27 x = hm then nI 1 else -1)), hk M T cs)) := by
  obtain ⟨⟨hM, hMs, hW⟩, hC, hT, hR, hJ⟩ := id hV
  obtain ⟨hF, ⟨hL0, hL1, hL2⟩, hSc, hAg, hSt⟩ := id hC
  obtain ⟨⟨⟨h3, hnh⟩, ⟨h4, hnx⟩, ⟨h5, hns⟩, ⟨h7, hnf⟩, ⟨h6, hny⟩, ⟨h23, htp⟩⟩, hRa, hRb, hRs, hRs2, hRs3, hRx, hCD, hRt, hRt2, hRf⟩ := id hR
  refine r_ev (by decide +kernel) (show (3 : Nat) ≤ mm_nL 120 by decide +kernel) ?_
  show mm_Ru 4 (0, 4, false, prog_1_method_43_code, some .int) 0 [(0, .ref 0), (1, .int hm), (2, .int (nI x))] [] (hk M T cs) (fun r9 => r9 = ((some (.int (if sg 27 x = hm then nI 1 else -1)), hk M T cs)))
  refine r_aload_n rfl dc_1_43_0 ?_
  refine r_iload_n rfl dc_1_43_1 ?_
  refine h_callv (t := cT e 0) (as := [.int (nI x)]) (rest := []) (v := .ref (D 4 x)) (M1 := hk M T cs) rfl rfl iv_0_v157 (Or.inl rfl) na_1_85 (hF 0 (by decide)) ⟨by omega, by omega⟩ (show (0 : Nat) < 14 by decide) o_85 rfl (show (0 : Nat) ≤ 8 by decide) dc_1_43_2 (k_agAt_ok hV x hx) ?_
  refine r_astore_n (ls' := [(3, .ref (D 4 x)), (0, .ref 0), (1, .int hm), (2, .int (nI x))]) (by decide) rfl dc_1_43_5 ?_
  refine r_aload_n rfl dc_1_43_6 ?_
  refine r_ifnull dc_1_43_7 ?_
  refine r_aload_n rfl dc_1_43_10 ?_
  refine h_get (t := (10, 0, rl [(9, D 6 x), (8, D 5 x)])) (v := .int (sg 27 x)) fx_0_303 (hAg x (by omega)).1 (hAg x (by omega)).2.1 (show some (Value.int _) = _ from congrArg (fun z => some (Value.int z)) ((hV.2.1.2.2.2.1 x (by omega)).2.2.2.1.1)) dc_1_43_11 ?_
  refine r_iload_n rfl dc_1_43_14 ?_
  refine r_icne (t := 22) (by decide) dc_1_43_15 (fun c_15 => ?_) (fun c_15 => ?_)
  · skip
    refine r_iconst (v := -1) (by decide) dc_1_43_22 ?_
    refine r_iret rfl dc_1_43_23 ?_
    rw [if_neg c_15]
  · skip
    refine r_iconst (v := nI 1) (by decide) dc_1_43_18 ?_
    refine r_goto (t := 23) (by decide) dc_1_43_19 ?_
    refine r_iret rfl dc_1_43_23 ?_
    rw [if_pos c_15]
set_option maxHeartbeats 4000000 in
theorem k_agTo {M : mH} {T : Nat → mT} {cs sg : Nat → Nat → Int32} {io : Nat → Int32} {e : Nat → Nat} {D : Nat → Nat → Nat} {nh nx ns nf ny tp : Nat} {cm : Nat → Nat} {w : Nat → Nat → Nat} {cn : Nat → Nat} {wc : Nat → Nat → Nat} (hV : CV M T cs io sg e D nh nx ns nf ny tp cm w cn wc) (s h : Nat) (hs : s < ns) (hh : h < nh) : ∃ (cs2 : Nat → Nat → Int32), (FrD D nx cs cs2) ∧ mm_Ev 5 107 [.ref 0, .ref (D 7 s), .int (nI h)] (hk M T cs) ((some (.int (sp_mby io sg cm w nx s (nI h))), hk M T cs2)) := by
  have hq9 : ∃ z, (fun r9 => ∃ (cs2 : Nat → Nat → Int32), (FrD D nx cs cs2) ∧ r9 = ((some (.int (sp_mby io sg cm w nx s (nI h))), hk M T cs2))) z ∧ mm_Ev 5 107 [.ref 0, .ref (D 7 s), .int (nI h)] (hk M T cs) z := by
    obtain ⟨⟨hM, hMs, hW⟩, hC, hT, hR, hJ⟩ := id hV
    obtain ⟨hF, ⟨hL0, hL1, hL2⟩, hSc, hAg, hSt⟩ := id hC
    obtain ⟨⟨⟨h3, hnh⟩, ⟨h4, hnx⟩, ⟨h5, hns⟩, ⟨h7, hnf⟩, ⟨h6, hny⟩, ⟨h23, htp⟩⟩, hRa, hRb, hRs, hRs2, hRs3, hRx, hCD, hRt, hRt2, hRf⟩ := id hR
    have q59 := inN_tN (hRt s hs).2.2.2.2.2.2.1 (by decide)
    have q52 := inN_tN (hRt s hs).2.1 (by decide)
    have q53 := inN_tN (hRt s hs).2.2.1 (by decide)
    have q54 := inN_tN (hRt s hs).2.2.2.1 (by decide)
    have q10 := inN_tN (hRs h hh).2.1 (by decide)
    have qlv := inN_tN (lev_in ((hRt s hs).2.2.2.2.2.1 (tN (sg 10 h)) (by omega))) (by decide)
    have e0 : sp_mby io sg cm w nx s (nI h) = sp_fst (sp_mayP io sg cm w s (nI h) (tN (sg 53 s)) (tN (sp_lev sg s (tN (sg 10 h)))) (tN (sg 54 s)) (tN (sg 52 s))) nx := by
      unfold sp_mby
      rw [tN_nI (by omega)]
    refine r_evQ (by decide +kernel) (show (3 : Nat) ≤ mm_nL 107 by decide +kernel) ?_
    show mm_Ru 4 (0, 7, false, prog_1_method_39_code, some .int) 0 [(0, .ref 0), (1, .ref (D 7 s)), (2, .int (nI h))] [] (hk M T cs) (fun r9 => ∃ (cs2 : Nat → Nat → Int32), (FrD D nx cs cs2) ∧ r9 = ((some (.int (sp_mby io sg cm w nx s (nI h))), hk M T cs2)))
    refine r_aload_n rfl dc_1_39_0 ?_
    refine r_iload_n rfl dc_1_39_1 ?_
    refine h_callv (t := cT e 0) (as := [.int (nI h)]) (rest := []) (v := .ref (D 0 h)) (M1 := hk M T cs) rfl rfl iv_0_v128 (Or.inl rfl) na_1_39 (hF 0 (by decide)) ⟨by omega, by omega⟩ (show (0 : Nat) < 14 by decide) o_39 rfl (show (0 : Nat) ≤ 8 by decide) dc_1_39_2 (k_scAt_ok hV h hh) ?_
    refine r_astore_n (ls' := [(3, .ref (D 0 h)), (0, .ref 0), (1, .ref (D 7 s)), (2, .int (nI h))]) (by decide) rfl dc_1_39_5 ?_
    refine r_aload_n rfl dc_1_39_6 ?_
    refine r_ifnonnull (t := 12) (by decide) dc_1_39_7 ?_
    refine r_aload_n rfl dc_1_39_12 ?_
    refine r_aload_n rfl dc_1_39_13 ?_
    refine h_get (t := (9, 0, rl [(6, D 1 h)])) (v := .int (nI (tN (sg 10 h)))) fx_0_238 (hSc h (by omega)).1 (hSc h (by omega)).2.1 (show some (Value.int _) = _ from congrArg (fun z => some (Value.int z)) (((hV.2.1.2.2.1 h (by omega)).2.2.1.2.1).trans q10.1)) dc_1_39_14 ?_
    refine h_callv (t := (11, 0, rl [(6, D 9 s), (5, D 8 s)])) (as := [.int (nI (tN (sg 10 h)))]) (rest := []) (v := .int (nI (tN (sp_lev sg s (tN (sg 10 h)))))) (M1 := hk M T cs) rfl rfl iv_0_v241 (Or.inl rfl) na_1_108 (hSt s (by omega)).1 (hSt s (by omega)).2.1 (show (11 : Nat) < 14 by decide) o_108 rfl (show (0 : Nat) ≤ 8 by decide) dc_1_39_17 (mm_Ev_up (by decide : 2 ≤ 4) (qlv.1 ▸ k_levelOf M T cs sg D s _ (hSt s hs) q59.2 (tN (sg 10 h)) (by omega) ((hRt s hs).2.2.2.2.2.1 (tN (sg 10 h)) (by omega)))) ?_
    refine r_istore (ls' := [(4, .int (nI (tN (sp_lev sg s (tN (sg 10 h)))))), (3, .ref (D 0 h)), (0, .ref 0), (1, .ref (D 7 s)), (2, .int (nI h))]) (by decide) rfl dc_1_39_20 ?_
    refine r_iconst (v := nI 0) (by decide) dc_1_39_22 ?_
    refine r_istore (ls' := [(5, .int (nI 0)), (4, .int (nI (tN (sp_lev sg s (tN (sg 10 h)))))), (3, .ref (D 0 h)), (0, .ref 0), (1, .ref (D 7 s)), (2, .int (nI h))]) (by decide) rfl dc_1_39_23 ?_
    refine r_ls [(5, .int (nI 0)), (0, .ref 0), (1, .ref (D 7 s)), (2, .int (nI h)), (3, .ref (D 0 h)), (4, .int (nI (tN (sp_lev sg s (tN (sg 10 h))))))] (mm_ndk_of [5, 0, 1, 2, 3, 4] rfl (by decide)) (mm_sub_cons rfl (mm_sub_cons rfl (mm_sub_cons rfl (mm_sub_cons rfl (mm_sub_cons rfl (mm_sub_cons rfl (mm_sub_nil _))))))) ?_
    refine mm_cnt (P := fun m => ∀ (cs1 : Nat → Nat → Int32), (FrD D nx cs cs1 ∧ ∀ j, j < m → ¬ sp_mayP io sg cm w s (nI h) (tN (sg 53 s)) (tN (sp_lev sg s (tN (sg 10 h)))) (tN (sg 54 s)) (tN (sg 52 s)) j) → mm_Ru 4 (0, 7, false, prog_1_method_39_code, some .int) 25 [(5, .int (nI m)), (0, .ref 0), (1, .ref (D 7 s)), (2, .int (nI h)), (3, .ref (D 0 h)), (4, .int (nI (tN (sp_lev sg s (tN (sg 10 h))))))] [] (hk M T cs1) (fun r9 => ∃ (cs2 : Nat → Nat → Int32), (FrD D nx cs cs2) ∧ r9 = ((some (.int (sp_mby io sg cm w nx s (nI h))), hk M T cs2)))) nx ?_ ?_ 0 (by omega) cs (⟨fun _ _ => rfl, fun j hj => absurd hj (Nat.not_lt_zero j)⟩)
    · intro  cs1 hi_m
      show mm_Ru 4 (0, 7, false, prog_1_method_39_code, some .int) 25 [(5, .int (nI nx)), (0, .ref 0), (1, .ref (D 7 s)), (2, .int (nI h)), (3, .ref (D 0 h)), (4, .int (nI (tN (sp_lev sg s (tN (sg 10 h))))))] [] (hk M T cs1) (fun r9 => ∃ (cs2 : Nat → Nat → Int32), (FrD D nx cs cs2) ∧ r9 = ((some (.int (sp_mby io sg cm w nx s (nI h))), hk M T cs2)))
      have hV1 := CV_f hV (FrD_C hi_m.1)
      refine r_iload rfl dc_1_39_25 ?_
      refine r_aload_n rfl dc_1_39_27 ?_
      refine h_get (t := cT e 0) (v := .ref 26) fx_0_65 (hF 0 (by decide)) ⟨by omega, by omega⟩ (rfl) dc_1_39_28 ?_
      refine h_callv (t := cT e 26) (as := []) (rest := [.int (nI nx)]) (v := .int (nI nx)) (M1 := hk M T cs1) rfl rfl iv_0_f113 (Or.inr (Or.inr rfl)) na_6_26 (hF 26 (by decide)) ⟨by omega, by omega⟩ (show (6 : Nat) < 14 by decide) o_26 rfl (show (1 : Nat) ≤ 8 by decide) dc_1_39_31 (mm_Ev_up (by decide : 1 ≤ 4) (k_sizeL hV1.2.1.2.1.2.1)) ?_
      refine r_ncge (t := 115) (by omega) (by omega) (by decide) dc_1_39_36 (fun c_36 => ?_) (fun c_36 => ?_)
      · skip
        refine r_iconst (v := -1) (by decide) dc_1_39_115 ?_
        refine r_iret rfl dc_1_39_116 ?_
        exact ⟨_, hi_m.1, by rw [e0, sp_fst_no hi_m.2]⟩
      · omega
    · intro m h_m ih_m  cs1 hi_m
      have hV1 := CV_f hV (FrD_C hi_m.1)
      show mm_Ru 4 (0, 7, false, prog_1_method_39_code, some .int) 25 [(5, .int (nI m)), (0, .ref 0), (1, .ref (D 7 s)), (2, .int (nI h)), (3, .ref (D 0 h)), (4, .int (nI (tN (sp_lev sg s (tN (sg 10 h))))))] [] (hk M T cs1) (fun r9 => ∃ (cs2 : Nat → Nat → Int32), (FrD D nx cs cs2) ∧ r9 = ((some (.int (sp_mby io sg cm w nx s (nI h))), hk M T cs2)))
      refine r_iload rfl dc_1_39_25 ?_
      refine r_aload_n rfl dc_1_39_27 ?_
      refine h_get (t := cT e 0) (v := .ref 26) fx_0_65 (hF 0 (by decide)) ⟨by omega, by omega⟩ (rfl) dc_1_39_28 ?_
      refine h_callv (t := cT e 26) (as := []) (rest := [.int (nI m)]) (v := .int (nI nx)) (M1 := hk M T cs1) rfl rfl iv_0_f113 (Or.inr (Or.inr rfl)) na_6_26 (hF 26 (by decide)) ⟨by omega, by omega⟩ (show (6 : Nat) < 14 by decide) o_26 rfl (show (1 : Nat) ≤ 8 by decide) dc_1_39_31 (mm_Ev_up (by decide : 1 ≤ 4) (k_sizeL hV1.2.1.2.1.2.1)) ?_
      refine r_ncge (t := 115) (by omega) (by omega) (by decide) dc_1_39_36 (fun c_36 => ?_) (fun c_36 => ?_)
      · omega
      · skip
        refine r_aload_n rfl dc_1_39_39 ?_
        refine h_get (t := cT e 0) (v := .ref 26) fx_0_65 (hF 0 (by decide)) ⟨by omega, by omega⟩ (rfl) dc_1_39_40 ?_
        refine r_iload rfl dc_1_39_43 ?_
        refine h_callv (t := cT e 26) (as := [.int (nI m)]) (rest := []) (v := .ref (D 4 m)) (M1 := hk M T cs1) rfl rfl iv_0_f227 (Or.inr (Or.inr rfl)) na_6_40 (hF 26 (by decide)) ⟨by omega, by omega⟩ (show (6 : Nat) < 14 by decide) o_40 rfl (show (0 : Nat) ≤ 8 by decide) dc_1_39_45 (mm_Ev_up (by decide : 3 ≤ 4) (k_getL hV1.2.1.2.1.2.1 m (by omega))) ?_
        refine h_cast (t := (10, 0, rl [(9, D 6 m), (8, D 5 m)])) (c := 10) (hAg m (by omega)).1 (hAg m (by omega)).2.1 (show (10 : Nat) < 14 by decide) kr_0_152 rfl dc_1_39_50 ?_
        refine r_astore (ls' := [(6, .ref (D 4 m)), (5, .int (nI m)), (0, .ref 0), (1, .ref (D 7 s)), (2, .int (nI h)), (3, .ref (D 0 h)), (4, .int (nI (tN (sp_lev sg s (tN (sg 10 h))))))]) (by decide) rfl dc_1_39_53 ?_
        refine r_aload rfl dc_1_39_55 ?_
        refine r_aload_n rfl dc_1_39_57 ?_
        refine h_get (t := cT e 0) (v := .int (io 6)) fx_0_7 (hF 0 (by decide)) ⟨by omega, by omega⟩ (show some (Value.int _) = _ from congrArg (fun z => some (Value.int z)) (hV1.2.2.1.1)) dc_1_39_58 ?_
        refine h_callv (t := (10, 0, rl [(9, D 6 m), (8, D 5 m)])) (as := [.int (io 6)]) (rest := []) (v := .int (sp_inf io sg m)) (M1 := hk M T cs1) rfl rfl iv_0_v318 (Or.inl rfl) na_1_109 (hAg m (by omega)).1 (hAg m (by omega)).2.1 (show (10 : Nat) < 14 by decide) o_109 rfl (show (0 : Nat) ≤ 8 by decide) dc_1_39_61 (mm_Ev_up (by decide : 2 ≤ 4) (k_inForce M T cs1 sg D m _ _ (hV1.2.1.2.2.2.1 m (by omega)) (io 6))) ?_
        refine r_ifeq (t := 109) (by decide) dc_1_39_64 (fun c_64 => ?_) (fun c_64 => ?_)
        · skip
          refine r_iinc (n := 5) (k := 1) (x := nI m) (v := nI (m + 1)) (ls' := [(5, .int (nI (m + 1))), (6, .ref (D 4 m)), (0, .ref 0), (1, .ref (D 7 s)), (2, .int (nI h)), (3, .ref (D 0 h)), (4, .int (nI (tN (sp_lev sg s (tN (sg 10 h))))))]) rfl (nI_1 _) (by decide) rfl dc_1_39_109 ?_
          refine r_goto (t := 25) (by decide) dc_1_39_112 ?_
          refine r_ls [(5, .int (nI (m + 1))), (0, .ref 0), (1, .ref (D 7 s)), (2, .int (nI h)), (3, .ref (D 0 h)), (4, .int (nI (tN (sp_lev sg s (tN (sg 10 h))))))] (mm_ndk_of [5, 0, 1, 2, 3, 4] rfl (by decide)) (mm_sub_cons rfl (mm_sub_cons rfl (mm_sub_cons rfl (mm_sub_cons rfl (mm_sub_cons rfl (mm_sub_cons rfl (mm_sub_nil _))))))) ?_
          exact ih_m cs1 (⟨hi_m.1, fun j hj => by rcases (by omega : j < m ∨ j = m) with q | rfl; exact hi_m.2 j q; exact fun z => z.2.1 c_64⟩)
        · skip
          refine r_aload rfl dc_1_39_67 ?_
          refine r_aload_n rfl dc_1_39_69 ?_
          refine h_get (t := (11, 0, rl [(6, D 9 s), (5, D 8 s)])) (v := .int (sg 51 s)) fx_0_264 (hSt s (by omega)).1 (hSt s (by omega)).2.1 (show some (Value.int _) = _ from congrArg (fun z => some (Value.int z)) ((hV1.2.1.2.2.2.2 s (by omega)).2.2.2.1.1)) dc_1_39_70 ?_
          refine r_iload_n rfl dc_1_39_73 ?_
          refine h_callv (t := (10, 0, rl [(9, D 6 m), (8, D 5 m)])) (as := [.int (sg 51 s), .int (nI h)]) (rest := []) (v := .int (pI (btw sg m (sg 51 s) (nI h)))) (M1 := hk M T cs1) rfl rfl iv_0_v331 (Or.inl rfl) na_1_98 (hAg m (by omega)).1 (hAg m (by omega)).2.1 (show (10 : Nat) < 14 by decide) o_98 rfl (show (0 : Nat) ≤ 8 by decide) dc_1_39_74 (mm_Ev_up (by decide : 1 ≤ 4) (k_between M T cs1 sg D m _ _ (hV1.2.1.2.2.2.1 m (by omega)) (sg 51 s) (nI h))) ?_
          refine r_ifeq (t := 109) (by decide) dc_1_39_77 (fun c_77 => ?_) (fun c_77 => ?_)
          · skip
            refine r_iinc (n := 5) (k := 1) (x := nI m) (v := nI (m + 1)) (ls' := [(5, .int (nI (m + 1))), (6, .ref (D 4 m)), (0, .ref 0), (1, .ref (D 7 s)), (2, .int (nI h)), (3, .ref (D 0 h)), (4, .int (nI (tN (sp_lev sg s (tN (sg 10 h))))))]) rfl (nI_1 _) (by decide) rfl dc_1_39_109 ?_
            refine r_goto (t := 25) (by decide) dc_1_39_112 ?_
            refine r_ls [(5, .int (nI (m + 1))), (0, .ref 0), (1, .ref (D 7 s)), (2, .int (nI h)), (3, .ref (D 0 h)), (4, .int (nI (tN (sp_lev sg s (tN (sg 10 h))))))] (mm_ndk_of [5, 0, 1, 2, 3, 4] rfl (by decide)) (mm_sub_cons rfl (mm_sub_cons rfl (mm_sub_cons rfl (mm_sub_cons rfl (mm_sub_cons rfl (mm_sub_cons rfl (mm_sub_nil _))))))) ?_
            exact ih_m cs1 (⟨hi_m.1, fun j hj => by rcases (by omega : j < m ∨ j = m) with q | rfl; exact hi_m.2 j q; exact fun z => pI_eq0 c_77 z.1⟩)
          · skip
            refine r_aload rfl dc_1_39_80 ?_
            refine r_aload_n rfl dc_1_39_82 ?_
            refine h_get (t := (11, 0, rl [(6, D 9 s), (5, D 8 s)])) (v := .int (nI (tN (sg 53 s)))) fx_0_334 (hSt s (by omega)).1 (hSt s (by omega)).2.1 (show some (Value.int _) = _ from congrArg (fun z => some (Value.int z)) (((hV1.2.1.2.2.2.2 s (by omega)).2.2.2.1.2.2.1).trans q53.1)) dc_1_39_83 ?_
            refine r_iload rfl dc_1_39_86 ?_
            refine r_aload_n rfl dc_1_39_88 ?_
            refine h_get (t := (11, 0, rl [(6, D 9 s), (5, D 8 s)])) (v := .int (nI (tN (sg 54 s)))) fx_0_337 (hSt s (by omega)).1 (hSt s (by omega)).2.1 (show some (Value.int _) = _ from congrArg (fun z => some (Value.int z)) (((hV1.2.1.2.2.2.2 s (by omega)).2.2.2.1.2.2.2.1).trans q54.1)) dc_1_39_89 ?_
            obtain ⟨q9, k9, ⟨hk9, hm9⟩, hev9⟩ := k_subj M T cs1 sg D m _ _ (hV1.2.1.2.2.2.1 m (by omega)) (tN (sg 53 s)) (tN (sp_lev sg s (tN (sg 10 h)))) (tN (sg 54 s)) (by omega) (by omega) (by omega)
            have hf9 : FrD D nx cs1 (wA cs1 (D 6 m) q9) := fun a h2 => wA_o _ _ (h2 m h_m)
            have hV2 := CV_f hV1 (FrD_C hf9)
            have hbt := (bI_sh (tN (sg 52 s)) (by omega) k9 hk9).trans (hm9 (tN (sg 52 s)) (by omega))
            have hme := (hRx m h_m).2.2.2.2.2.2.1 (tN (sg 53 s)) (tN (sp_lev sg s (tN (sg 10 h)))) (tN (sg 54 s)) (tN (sg 52 s))
            refine h_callv (t := (10, 0, rl [(9, D 6 m), (8, D 5 m)])) (as := [.int (nI (tN (sg 53 s))), .int (nI (tN (sp_lev sg s (tN (sg 10 h))))), .int (nI (tN (sg 54 s)))]) (rest := []) (v := .int (nI k9)) (M1 := hk M T (wA cs1 (D 6 m) q9)) rfl rfl iv_0_v161 (Or.inl rfl) na_1_86 (hAg m (by omega)).1 (hAg m (by omega)).2.1 (show (10 : Nat) < 14 by decide) o_86 rfl (show (0 : Nat) ≤ 8 by decide) dc_1_39_92 (mm_Ev_up (by decide : 3 ≤ 4) (hev9)) ?_
            refine r_aload_n rfl dc_1_39_95 ?_
            refine h_get (t := (11, 0, rl [(6, D 9 s), (5, D 8 s)])) (v := .int (nI (tN (sg 52 s)))) fx_0_340 (hSt s (by omega)).1 (hSt s (by omega)).2.1 (show some (Value.int _) = _ from congrArg (fun z => some (Value.int z)) (((hV2.2.1.2.2.2.2 s (by omega)).2.2.2.1.2.1).trans q52.1)) dc_1_39_96 ?_
            refine r_ishr (v := (nI k9) >>> (nI (tN (sg 52 s)) &&& 31)) (rfl) dc_1_39_99 ?_
            refine r_iconst (v := nI 1) (by decide) dc_1_39_100 ?_
            refine r_iand (v := ((nI k9) >>> (nI (tN (sg 52 s)) &&& 31)) &&& (nI 1)) (rfl) dc_1_39_101 ?_
            refine r_iconst (v := nI 1) (by decide) dc_1_39_102 ?_
            refine r_icne (t := 109) (by decide) dc_1_39_103 (fun c_103 => ?_) (fun c_103 => ?_)
            · skip
              refine r_iinc (n := 5) (k := 1) (x := nI m) (v := nI (m + 1)) (ls' := [(5, .int (nI (m + 1))), (6, .ref (D 4 m)), (0, .ref 0), (1, .ref (D 7 s)), (2, .int (nI h)), (3, .ref (D 0 h)), (4, .int (nI (tN (sp_lev sg s (tN (sg 10 h))))))]) rfl (nI_1 _) (by decide) rfl dc_1_39_109 ?_
              refine r_goto (t := 25) (by decide) dc_1_39_112 ?_
              refine r_ls [(5, .int (nI (m + 1))), (0, .ref 0), (1, .ref (D 7 s)), (2, .int (nI h)), (3, .ref (D 0 h)), (4, .int (nI (tN (sp_lev sg s (tN (sg 10 h))))))] (mm_ndk_of [5, 0, 1, 2, 3, 4] rfl (by decide)) (mm_sub_cons rfl (mm_sub_cons rfl (mm_sub_cons rfl (mm_sub_cons rfl (mm_sub_cons rfl (mm_sub_cons rfl (mm_sub_nil _))))))) ?_
              exact ih_m (wA cs1 (D 6 m) q9) (⟨FrD_t hi_m.1 hf9, fun j hj => by rcases (by omega : j < m ∨ j = m) with q | rfl; exact hi_m.2 j q; exact fun z => c_103 (hbt.trans (pI_t (hme.mpr z.2.2)))⟩)
            · skip
              refine r_iload rfl dc_1_39_106 ?_
              refine r_iret rfl dc_1_39_108 ?_
              exact ⟨_, FrD_t hi_m.1 hf9, by rw [e0, sp_fst_yes hi_m.2 ⟨pI_ne c_77, c_64, hme.mp (pI_1 (hbt.symm.trans c_103))⟩ h_m]⟩
  obtain ⟨z9, ⟨cs2, p9, e9⟩, h9⟩ := hq9
  subst e9
  exact ⟨cs2, p9, h9⟩
set_option maxHeartbeats 4000000 in
theorem k_inState {M : mH} {T : Nat → mT} {cs sg : Nat → Nat → Int32} {io : Nat → Int32} {e : Nat → Nat} {D : Nat → Nat → Nat} {nh nx ns nf ny tp : Nat} {cm : Nat → Nat} {w : Nat → Nat → Nat} {cn : Nat → Nat} {wc : Nat → Nat → Nat} (hV : CV M T cs io sg e D nh nx ns nf ny tp cm w cn wc) (x : Int32) : mm_Ev 4 182 [.ref 0, .int x] (hk M T cs) ((some (.int (sp_with sg ns x)), hk M T cs)) := by
  obtain ⟨⟨hM, hMs, hW⟩, hC, hT, hR, hJ⟩ := id hV
  obtain ⟨hF, ⟨hL0, hL1, hL2⟩, hSc, hAg, hSt⟩ := id hC
  obtain ⟨⟨⟨h3, hnh⟩, ⟨h4, hnx⟩, ⟨h5, hns⟩, ⟨h7, hnf⟩, ⟨h6, hny⟩, ⟨h23, htp⟩⟩, hRa, hRb, hRs, hRs2, hRs3, hRx, hCD, hRt, hRt2, hRf⟩ := id hR
  refine r_ev (by decide +kernel) (show (2 : Nat) ≤ mm_nL 182 by decide +kernel) ?_
  show mm_Ru 3 (0, 4, false, prog_1_method_48_code, some .int) 0 [(0, .ref 0), (1, .int x)] [] (hk M T cs) (fun r9 => r9 = ((some (.int (sp_with sg ns x)), hk M T cs)))
  refine r_iconst (v := nI 0) (by decide) dc_1_48_0 ?_
  refine r_istore_n (ls' := [(2, .int (nI 0)), (0, .ref 0), (1, .int x)]) (by decide) rfl dc_1_48_1 ?_
  refine r_iconst (v := nI 0) (by decide) dc_1_48_2 ?_
  refine r_istore_n (ls' := [(3, .int (nI 0)), (2, .int (nI 0)), (0, .ref 0), (1, .int x)]) (by decide) rfl dc_1_48_3 ?_
  refine mm_cnt (P := fun m => ∀ (ac : Int32), (ac = sp_sum (fun s => if sg 56 s = x then nI 1 else nI 0) m) → mm_Ru 3 (0, 4, false, prog_1_method_48_code, some .int) 4 [(3, .int (nI m)), (2, .int ac), (0, .ref 0), (1, .int x)] [] (hk M T cs) (fun r9 => r9 = ((some (.int (sp_with sg ns x)), hk M T cs)))) ns ?_ ?_ 0 (by omega) (nI 0) (rfl)
  · intro ac hi_m
    show mm_Ru 3 (0, 4, false, prog_1_method_48_code, some .int) 4 [(3, .int (nI ns)), (2, .int ac), (0, .ref 0), (1, .int x)] [] (hk M T cs) (fun r9 => r9 = ((some (.int (sp_with sg ns x)), hk M T cs)))
    refine r_iload_n rfl dc_1_48_4 ?_
    refine r_aload_n rfl dc_1_48_5 ?_
    refine h_get (t := cT e 0) (v := .ref 27) fx_0_68 (hF 0 (by decide)) ⟨by omega, by omega⟩ (rfl) dc_1_48_6 ?_
    refine h_callv (t := cT e 27) (as := []) (rest := [.int (nI ns)]) (v := .int (nI ns)) (M1 := hk M T cs) rfl rfl iv_0_f113 (Or.inr (Or.inr rfl)) na_6_26 (hF 27 (by decide)) ⟨by omega, by omega⟩ (show (6 : Nat) < 14 by decide) o_26 rfl (show (1 : Nat) ≤ 8 by decide) dc_1_48_9 (mm_Ev_up (by decide : 1 ≤ 3) (k_sizeL hV.2.1.2.1.2.2)) ?_
    refine r_ncge (t := 46) (by omega) (by omega) (by decide) dc_1_48_14 (fun c_14 => ?_) (fun c_14 => ?_)
    · skip
      refine r_iload_n rfl dc_1_48_46 ?_
      refine r_iret rfl dc_1_48_47 ?_
      rw [hi_m]
      rfl
    · omega
  · intro m h_m ih_m ac hi_m
    show mm_Ru 3 (0, 4, false, prog_1_method_48_code, some .int) 4 [(3, .int (nI m)), (2, .int ac), (0, .ref 0), (1, .int x)] [] (hk M T cs) (fun r9 => r9 = ((some (.int (sp_with sg ns x)), hk M T cs)))
    refine r_iload_n rfl dc_1_48_4 ?_
    refine r_aload_n rfl dc_1_48_5 ?_
    refine h_get (t := cT e 0) (v := .ref 27) fx_0_68 (hF 0 (by decide)) ⟨by omega, by omega⟩ (rfl) dc_1_48_6 ?_
    refine h_callv (t := cT e 27) (as := []) (rest := [.int (nI m)]) (v := .int (nI ns)) (M1 := hk M T cs) rfl rfl iv_0_f113 (Or.inr (Or.inr rfl)) na_6_26 (hF 27 (by decide)) ⟨by omega, by omega⟩ (show (6 : Nat) < 14 by decide) o_26 rfl (show (1 : Nat) ≤ 8 by decide) dc_1_48_9 (mm_Ev_up (by decide : 1 ≤ 3) (k_sizeL hV.2.1.2.1.2.2)) ?_
    refine r_ncge (t := 46) (by omega) (by omega) (by decide) dc_1_48_14 (fun c_14 => ?_) (fun c_14 => ?_)
    · omega
    · skip
      refine r_aload_n rfl dc_1_48_17 ?_
      refine h_get (t := cT e 0) (v := .ref 27) fx_0_68 (hF 0 (by decide)) ⟨by omega, by omega⟩ (rfl) dc_1_48_18 ?_
      refine r_iload_n rfl dc_1_48_21 ?_
      refine h_callv (t := cT e 27) (as := [.int (nI m)]) (rest := []) (v := .ref (D 7 m)) (M1 := hk M T cs) rfl rfl iv_0_f227 (Or.inr (Or.inr rfl)) na_6_40 (hF 27 (by decide)) ⟨by omega, by omega⟩ (show (6 : Nat) < 14 by decide) o_40 rfl (show (0 : Nat) ≤ 8 by decide) dc_1_48_22 (k_getL hV.2.1.2.1.2.2 m (by omega)) ?_
      refine h_cast (t := (11, 0, rl [(6, D 9 m), (5, D 8 m)])) (c := 11) (hSt m (by omega)).1 (hSt m (by omega)).2.1 (show (11 : Nat) < 14 by decide) kr_0_175 rfl dc_1_48_27 ?_
      refine h_get (t := (11, 0, rl [(6, D 9 m), (5, D 8 m)])) (v := .int (sg 56 m)) fx_0_204 (hSt m (by omega)).1 (hSt m (by omega)).2.1 (show some (Value.int _) = _ from congrArg (fun z => some (Value.int z)) ((hV.2.1.2.2.2.2 m (by omega)).2.2.2.1.2.2.2.2.2.2.1)) dc_1_48_30 ?_
      refine r_iload_n rfl dc_1_48_33 ?_
      refine r_icne (t := 40) (by decide) dc_1_48_34 (fun c_34 => ?_) (fun c_34 => ?_)
      · skip
        refine r_iinc (n := 3) (k := 1) (x := nI m) (v := nI (m + 1)) (ls' := [(3, .int (nI (m + 1))), (2, .int ac), (0, .ref 0), (1, .int x)]) rfl (nI_1 _) (by decide) rfl dc_1_48_40 ?_
        refine r_goto (t := 4) (by decide) dc_1_48_43 ?_
        exact ih_m ac ((Int32.add_zero _).symm.trans (sp_add hi_m (if_neg c_34)))
      · skip
        refine r_iinc (n := 2) (k := 1) (x := ac) (v := ac + 1) (ls' := [(2, .int (ac + 1)), (3, .int (nI m)), (0, .ref 0), (1, .int x)]) rfl (congrArg (fun z9 => ac + z9) (by decide : Int32.ofInt (1) = 1)) (by decide) rfl dc_1_48_37 ?_
        refine r_iinc (n := 3) (k := 1) (x := nI m) (v := nI (m + 1)) (ls' := [(3, .int (nI (m + 1))), (2, .int (ac + 1)), (0, .ref 0), (1, .int x)]) rfl (nI_1 _) (by decide) rfl dc_1_48_40 ?_
        refine r_goto (t := 4) (by decide) dc_1_48_43 ?_
        exact ih_m (ac + 1) (sp_add hi_m (if_pos c_34))
set_option maxHeartbeats 4000000 in
theorem k_plBy {M : mH} {T : Nat → mT} {cs sg : Nat → Nat → Int32} {io : Nat → Int32} {e : Nat → Nat} {D : Nat → Nat → Nat} {nh nx ns nf ny tp : Nat} {cm : Nat → Nat} {w : Nat → Nat → Nat} {cn : Nat → Nat} {wc : Nat → Nat → Nat} (hV : CV M T cs io sg e D nh nx ns nf ny tp cm w cn wc) (x : Int32) : mm_Ev 4 179 [.ref 0, .int x] (hk M T cs) ((some (.int (sp_pby sg ns x)), hk M T cs)) := by
  obtain ⟨⟨hM, hMs, hW⟩, hC, hT, hR, hJ⟩ := id hV
  obtain ⟨hF, ⟨hL0, hL1, hL2⟩, hSc, hAg, hSt⟩ := id hC
  obtain ⟨⟨⟨h3, hnh⟩, ⟨h4, hnx⟩, ⟨h5, hns⟩, ⟨h7, hnf⟩, ⟨h6, hny⟩, ⟨h23, htp⟩⟩, hRa, hRb, hRs, hRs2, hRs3, hRx, hCD, hRt, hRt2, hRf⟩ := id hR
  refine r_ev (by decide +kernel) (show (2 : Nat) ≤ mm_nL 179 by decide +kernel) ?_
  show mm_Ru 3 (0, 5, false, prog_1_method_46_code, some .int) 0 [(0, .ref 0), (1, .int x)] [] (hk M T cs) (fun r9 => r9 = ((some (.int (sp_pby sg ns x)), hk M T cs)))
  refine r_iconst (v := nI 0) (by decide) dc_1_46_0 ?_
  refine r_istore_n (ls' := [(2, .int (nI 0)), (0, .ref 0), (1, .int x)]) (by decide) rfl dc_1_46_1 ?_
  refine r_iconst (v := nI 0) (by decide) dc_1_46_2 ?_
  refine r_istore_n (ls' := [(3, .int (nI 0)), (2, .int (nI 0)), (0, .ref 0), (1, .int x)]) (by decide) rfl dc_1_46_3 ?_
  refine mm_cnt (P := fun m => ∀ (ac : Int32), (ac = sp_sum (fun s => if sg 56 s = nI 1 ∧ sg 58 s = x then nI 1 else nI 0) m) → mm_Ru 3 (0, 5, false, prog_1_method_46_code, some .int) 4 [(3, .int (nI m)), (2, .int ac), (0, .ref 0), (1, .int x)] [] (hk M T cs) (fun r9 => r9 = ((some (.int (sp_pby sg ns x)), hk M T cs)))) ns ?_ ?_ 0 (by omega) (nI 0) (rfl)
  · intro ac hi_m
    show mm_Ru 3 (0, 5, false, prog_1_method_46_code, some .int) 4 [(3, .int (nI ns)), (2, .int ac), (0, .ref 0), (1, .int x)] [] (hk M T cs) (fun r9 => r9 = ((some (.int (sp_pby sg ns x)), hk M T cs)))
    refine r_iload_n rfl dc_1_46_4 ?_
    refine r_aload_n rfl dc_1_46_5 ?_
    refine h_get (t := cT e 0) (v := .ref 27) fx_0_68 (hF 0 (by decide)) ⟨by omega, by omega⟩ (rfl) dc_1_46_6 ?_
    refine h_callv (t := cT e 27) (as := []) (rest := [.int (nI ns)]) (v := .int (nI ns)) (M1 := hk M T cs) rfl rfl iv_0_f113 (Or.inr (Or.inr rfl)) na_6_26 (hF 27 (by decide)) ⟨by omega, by omega⟩ (show (6 : Nat) < 14 by decide) o_26 rfl (show (1 : Nat) ≤ 8 by decide) dc_1_46_9 (mm_Ev_up (by decide : 1 ≤ 3) (k_sizeL hV.2.1.2.1.2.2)) ?_
    refine r_ncge (t := 59) (by omega) (by omega) (by decide) dc_1_46_14 (fun c_14 => ?_) (fun c_14 => ?_)
    · skip
      refine r_iload_n rfl dc_1_46_59 ?_
      refine r_iret rfl dc_1_46_60 ?_
      rw [hi_m]
      rfl
    · omega
  · intro m h_m ih_m ac hi_m
    show mm_Ru 3 (0, 5, false, prog_1_method_46_code, some .int) 4 [(3, .int (nI m)), (2, .int ac), (0, .ref 0), (1, .int x)] [] (hk M T cs) (fun r9 => r9 = ((some (.int (sp_pby sg ns x)), hk M T cs)))
    refine r_iload_n rfl dc_1_46_4 ?_
    refine r_aload_n rfl dc_1_46_5 ?_
    refine h_get (t := cT e 0) (v := .ref 27) fx_0_68 (hF 0 (by decide)) ⟨by omega, by omega⟩ (rfl) dc_1_46_6 ?_
    refine h_callv (t := cT e 27) (as := []) (rest := [.int (nI m)]) (v := .int (nI ns)) (M1 := hk M T cs) rfl rfl iv_0_f113 (Or.inr (Or.inr rfl)) na_6_26 (hF 27 (by decide)) ⟨by omega, by omega⟩ (show (6 : Nat) < 14 by decide) o_26 rfl (show (1 : Nat) ≤ 8 by decide) dc_1_46_9 (mm_Ev_up (by decide : 1 ≤ 3) (k_sizeL hV.2.1.2.1.2.2)) ?_
    refine r_ncge (t := 59) (by omega) (by omega) (by decide) dc_1_46_14 (fun c_14 => ?_) (fun c_14 => ?_)
    · omega
    · skip
      refine r_aload_n rfl dc_1_46_17 ?_
      refine h_get (t := cT e 0) (v := .ref 27) fx_0_68 (hF 0 (by decide)) ⟨by omega, by omega⟩ (rfl) dc_1_46_18 ?_
      refine r_iload_n rfl dc_1_46_21 ?_
      refine h_callv (t := cT e 27) (as := [.int (nI m)]) (rest := []) (v := .ref (D 7 m)) (M1 := hk M T cs) rfl rfl iv_0_f227 (Or.inr (Or.inr rfl)) na_6_40 (hF 27 (by decide)) ⟨by omega, by omega⟩ (show (6 : Nat) < 14 by decide) o_40 rfl (show (0 : Nat) ≤ 8 by decide) dc_1_46_22 (k_getL hV.2.1.2.1.2.2 m (by omega)) ?_
      refine h_cast (t := (11, 0, rl [(6, D 9 m), (5, D 8 m)])) (c := 11) (hSt m (by omega)).1 (hSt m (by omega)).2.1 (show (11 : Nat) < 14 by decide) kr_0_175 rfl dc_1_46_27 ?_
      refine r_astore (ls' := [(4, .ref (D 7 m)), (3, .int (nI m)), (2, .int ac), (0, .ref 0), (1, .int x)]) (by decide) rfl dc_1_46_30 ?_
      refine r_aload rfl dc_1_46_32 ?_
      refine h_get (t := (11, 0, rl [(6, D 9 m), (5, D 8 m)])) (v := .int (sg 56 m)) fx_0_204 (hSt m (by omega)).1 (hSt m (by omega)).2.1 (show some (Value.int _) = _ from congrArg (fun z => some (Value.int z)) ((hV.2.1.2.2.2.2 m (by omega)).2.2.2.1.2.2.2.2.2.2.1)) dc_1_46_34 ?_
      refine r_iconst (v := nI 1) (by decide) dc_1_46_37 ?_
      refine r_icne (t := 53) (by decide) dc_1_46_38 (fun c_38 => ?_) (fun c_38 => ?_)
      · skip
        refine r_iinc (n := 3) (k := 1) (x := nI m) (v := nI (m + 1)) (ls' := [(3, .int (nI (m + 1))), (4, .ref (D 7 m)), (2, .int ac), (0, .ref 0), (1, .int x)]) rfl (nI_1 _) (by decide) rfl dc_1_46_53 ?_
        refine r_goto (t := 4) (by decide) dc_1_46_56 ?_
        refine r_ls [(3, .int (nI (m + 1))), (2, .int ac), (0, .ref 0), (1, .int x)] (mm_ndk_of [3, 2, 0, 1] rfl (by decide)) (mm_sub_cons rfl (mm_sub_cons rfl (mm_sub_cons rfl (mm_sub_cons rfl (mm_sub_nil _))))) ?_
        exact ih_m ac ((Int32.add_zero _).symm.trans (sp_add hi_m (if_neg (fun z => c_38 z.1))))
      · skip
        refine r_aload rfl dc_1_46_41 ?_
        refine h_get (t := (11, 0, rl [(6, D 9 m), (5, D 8 m)])) (v := .int (sg 58 m)) fx_0_356 (hSt m (by omega)).1 (hSt m (by omega)).2.1 (show some (Value.int _) = _ from congrArg (fun z => some (Value.int z)) ((hV.2.1.2.2.2.2 m (by omega)).2.2.2.1.2.2.2.2.2.2.2)) dc_1_46_43 ?_
        refine r_iload_n rfl dc_1_46_46 ?_
        refine r_icne (t := 53) (by decide) dc_1_46_47 (fun c_47 => ?_) (fun c_47 => ?_)
        · skip
          refine r_iinc (n := 3) (k := 1) (x := nI m) (v := nI (m + 1)) (ls' := [(3, .int (nI (m + 1))), (4, .ref (D 7 m)), (2, .int ac), (0, .ref 0), (1, .int x)]) rfl (nI_1 _) (by decide) rfl dc_1_46_53 ?_
          refine r_goto (t := 4) (by decide) dc_1_46_56 ?_
          refine r_ls [(3, .int (nI (m + 1))), (2, .int ac), (0, .ref 0), (1, .int x)] (mm_ndk_of [3, 2, 0, 1] rfl (by decide)) (mm_sub_cons rfl (mm_sub_cons rfl (mm_sub_cons rfl (mm_sub_cons rfl (mm_sub_nil _))))) ?_
          exact ih_m ac ((Int32.add_zero _).symm.trans (sp_add hi_m (if_neg (fun z => c_47 z.2))))
        · skip
          refine r_iinc (n := 2) (k := 1) (x := ac) (v := ac + 1) (ls' := [(2, .int (ac + 1)), (4, .ref (D 7 m)), (3, .int (nI m)), (0, .ref 0), (1, .int x)]) rfl (congrArg (fun z9 => ac + z9) (by decide : Int32.ofInt (1) = 1)) (by decide) rfl dc_1_46_50 ?_
          refine r_iinc (n := 3) (k := 1) (x := nI m) (v := nI (m + 1)) (ls' := [(3, .int (nI (m + 1))), (2, .int (ac + 1)), (4, .ref (D 7 m)), (0, .ref 0), (1, .int x)]) rfl (nI_1 _) (by decide) rfl dc_1_46_53 ?_
          refine r_goto (t := 4) (by decide) dc_1_46_56 ?_
          refine r_ls [(3, .int (nI (m + 1))), (2, .int (ac + 1)), (0, .ref 0), (1, .int x)] (mm_ndk_of [3, 2, 0, 1] rfl (by decide)) (mm_sub_cons rfl (mm_sub_cons rfl (mm_sub_cons rfl (mm_sub_cons rfl (mm_sub_nil _))))) ?_
          exact ih_m (ac + 1) (sp_add hi_m (if_pos ⟨c_38, c_47⟩))
theorem hst_iff {sg : Nat → Nat → Int32} {s h : Nat} (hh : h < 2 ^ 31) : hst sg s = nI h ↔ sg 56 s = nI 1 ∧ sg 57 s = nI h := by
  unfold hst
  by_cases z : sg 56 s = nI 1
  · rw [if_pos z]
    exact ⟨fun y => ⟨z, y⟩, fun y => y.2⟩
  · rw [if_neg z]
    exact ⟨fun y => absurd y.symm (nI_nm1 hh), fun y => absurd y.1 z⟩
set_option maxHeartbeats 4000000 in
theorem k_plAt {M : mH} {T : Nat → mT} {cs sg : Nat → Nat → Int32} {io : Nat → Int32} {e : Nat → Nat} {D : Nat → Nat → Nat} {nh nx ns nf ny tp : Nat} {cm : Nat → Nat} {w : Nat → Nat → Nat} {cn : Nat → Nat} {wc : Nat → Nat → Nat} (hV : CV M T cs io sg e D nh nx ns nf ny tp cm w cn wc) (h : Nat) (hh : h < nh) : mm_Ev 4 184 [.ref 0, .int (nI h)] (hk M T cs) ((some (.int (sp_pin sg ns (nI h))), hk M T cs)) := by
  obtain ⟨⟨hM, hMs, hW⟩, hC, hT, hR, hJ⟩ := id hV
  obtain ⟨hF, ⟨hL0, hL1, hL2⟩, hSc, hAg, hSt⟩ := id hC
  obtain ⟨⟨⟨h3, hnh⟩, ⟨h4, hnx⟩, ⟨h5, hns⟩, ⟨h7, hnf⟩, ⟨h6, hny⟩, ⟨h23, htp⟩⟩, hRa, hRb, hRs, hRs2, hRs3, hRx, hCD, hRt, hRt2, hRf⟩ := id hR
  refine r_ev (by decide +kernel) (show (2 : Nat) ≤ mm_nL 184 by decide +kernel) ?_
  show mm_Ru 3 (0, 4, false, prog_1_method_47_code, some .int) 0 [(0, .ref 0), (1, .int (nI h))] [] (hk M T cs) (fun r9 => r9 = ((some (.int (sp_pin sg ns (nI h))), hk M T cs)))
  refine r_iconst (v := nI 0) (by decide) dc_1_47_0 ?_
  refine r_istore_n (ls' := [(2, .int (nI 0)), (0, .ref 0), (1, .int (nI h))]) (by decide) rfl dc_1_47_1 ?_
  refine r_iconst (v := nI 0) (by decide) dc_1_47_2 ?_
  refine r_istore_n (ls' := [(3, .int (nI 0)), (2, .int (nI 0)), (0, .ref 0), (1, .int (nI h))]) (by decide) rfl dc_1_47_3 ?_
  refine mm_cnt (P := fun m => ∀ (ac : Int32), (ac = sp_sum (fun s => if sg 56 s = nI 1 ∧ sg 57 s = nI h then nI 1 else nI 0) m) → mm_Ru 3 (0, 4, false, prog_1_method_47_code, some .int) 4 [(3, .int (nI m)), (2, .int ac), (0, .ref 0), (1, .int (nI h))] [] (hk M T cs) (fun r9 => r9 = ((some (.int (sp_pin sg ns (nI h))), hk M T cs)))) ns ?_ ?_ 0 (by omega) (nI 0) (rfl)
  · intro ac hi_m
    show mm_Ru 3 (0, 4, false, prog_1_method_47_code, some .int) 4 [(3, .int (nI ns)), (2, .int ac), (0, .ref 0), (1, .int (nI h))] [] (hk M T cs) (fun r9 => r9 = ((some (.int (sp_pin sg ns (nI h))), hk M T cs)))
    refine r_iload_n rfl dc_1_47_4 ?_
    refine r_aload_n rfl dc_1_47_5 ?_
    refine h_get (t := cT e 0) (v := .ref 27) fx_0_68 (hF 0 (by decide)) ⟨by omega, by omega⟩ (rfl) dc_1_47_6 ?_
    refine h_callv (t := cT e 27) (as := []) (rest := [.int (nI ns)]) (v := .int (nI ns)) (M1 := hk M T cs) rfl rfl iv_0_f113 (Or.inr (Or.inr rfl)) na_6_26 (hF 27 (by decide)) ⟨by omega, by omega⟩ (show (6 : Nat) < 14 by decide) o_26 rfl (show (1 : Nat) ≤ 8 by decide) dc_1_47_9 (mm_Ev_up (by decide : 1 ≤ 3) (k_sizeL hV.2.1.2.1.2.2)) ?_
    refine r_ncge (t := 46) (by omega) (by omega) (by decide) dc_1_47_14 (fun c_14 => ?_) (fun c_14 => ?_)
    · skip
      refine r_iload_n rfl dc_1_47_46 ?_
      refine r_iret rfl dc_1_47_47 ?_
      rw [hi_m]
      rfl
    · omega
  · intro m h_m ih_m ac hi_m
    show mm_Ru 3 (0, 4, false, prog_1_method_47_code, some .int) 4 [(3, .int (nI m)), (2, .int ac), (0, .ref 0), (1, .int (nI h))] [] (hk M T cs) (fun r9 => r9 = ((some (.int (sp_pin sg ns (nI h))), hk M T cs)))
    refine r_iload_n rfl dc_1_47_4 ?_
    refine r_aload_n rfl dc_1_47_5 ?_
    refine h_get (t := cT e 0) (v := .ref 27) fx_0_68 (hF 0 (by decide)) ⟨by omega, by omega⟩ (rfl) dc_1_47_6 ?_
    refine h_callv (t := cT e 27) (as := []) (rest := [.int (nI m)]) (v := .int (nI ns)) (M1 := hk M T cs) rfl rfl iv_0_f113 (Or.inr (Or.inr rfl)) na_6_26 (hF 27 (by decide)) ⟨by omega, by omega⟩ (show (6 : Nat) < 14 by decide) o_26 rfl (show (1 : Nat) ≤ 8 by decide) dc_1_47_9 (mm_Ev_up (by decide : 1 ≤ 3) (k_sizeL hV.2.1.2.1.2.2)) ?_
    refine r_ncge (t := 46) (by omega) (by omega) (by decide) dc_1_47_14 (fun c_14 => ?_) (fun c_14 => ?_)
    · omega
    · skip
      refine r_aload_n rfl dc_1_47_17 ?_
      refine h_get (t := cT e 0) (v := .ref 27) fx_0_68 (hF 0 (by decide)) ⟨by omega, by omega⟩ (rfl) dc_1_47_18 ?_
      refine r_iload_n rfl dc_1_47_21 ?_
      refine h_callv (t := cT e 27) (as := [.int (nI m)]) (rest := []) (v := .ref (D 7 m)) (M1 := hk M T cs) rfl rfl iv_0_f227 (Or.inr (Or.inr rfl)) na_6_40 (hF 27 (by decide)) ⟨by omega, by omega⟩ (show (6 : Nat) < 14 by decide) o_40 rfl (show (0 : Nat) ≤ 8 by decide) dc_1_47_22 (k_getL hV.2.1.2.1.2.2 m (by omega)) ?_
      refine h_cast (t := (11, 0, rl [(6, D 9 m), (5, D 8 m)])) (c := 11) (hSt m (by omega)).1 (hSt m (by omega)).2.1 (show (11 : Nat) < 14 by decide) kr_0_175 rfl dc_1_47_27 ?_
      refine h_callv (t := (11, 0, rl [(6, D 9 m), (5, D 8 m)])) (as := []) (rest := []) (v := .int (hst sg m)) (M1 := hk M T cs) rfl rfl iv_0_v261 (Or.inl rfl) na_1_118 (hSt m (by omega)).1 (hSt m (by omega)).2.1 (show (11 : Nat) < 14 by decide) o_118 rfl (show (0 : Nat) ≤ 8 by decide) dc_1_47_30 (mm_Ev_up (by decide : 2 ≤ 3) (k_host M T cs sg D m _ (hV.2.1.2.2.2.2 m (by omega)) (inN_tN (hRt m (by omega)).2.2.2.2.2.2.1 (by decide)).2)) ?_
      refine r_iload_n rfl dc_1_47_33 ?_
      refine r_icne (t := 40) (by decide) dc_1_47_34 (fun c_34 => ?_) (fun c_34 => ?_)
      · skip
        refine r_iinc (n := 3) (k := 1) (x := nI m) (v := nI (m + 1)) (ls' := [(3, .int (nI (m + 1))), (2, .int ac), (0, .ref 0), (1, .int (nI h))]) rfl (nI_1 _) (by decide) rfl dc_1_47_40 ?_
        refine r_goto (t := 4) (by decide) dc_1_47_43 ?_
        exact ih_m ac ((Int32.add_zero _).symm.trans (sp_add hi_m (if_neg (fun z => c_34 ((hst_iff (by omega)).mpr z)))))
      · skip
        refine r_iinc (n := 2) (k := 1) (x := ac) (v := ac + 1) (ls' := [(2, .int (ac + 1)), (3, .int (nI m)), (0, .ref 0), (1, .int (nI h))]) rfl (congrArg (fun z9 => ac + z9) (by decide : Int32.ofInt (1) = 1)) (by decide) rfl dc_1_47_37 ?_
        refine r_iinc (n := 3) (k := 1) (x := nI m) (v := nI (m + 1)) (ls' := [(3, .int (nI (m + 1))), (2, .int (ac + 1)), (0, .ref 0), (1, .int (nI h))]) rfl (nI_1 _) (by decide) rfl dc_1_47_40 ?_
        refine r_goto (t := 4) (by decide) dc_1_47_43 ?_
        exact ih_m (ac + 1) (sp_add hi_m (if_pos ((hst_iff (by omega)).mp c_34)))
set_option maxHeartbeats 4000000 in
theorem k_balOf {M : mH} {T : Nat → mT} {cs sg : Nat → Nat → Int32} {io : Nat → Int32} {e : Nat → Nat} {D : Nat → Nat → Nat} {nh nx ns nf ny tp : Nat} {cm : Nat → Nat} {w : Nat → Nat → Nat} {cn : Nat → Nat} {wc : Nat → Nat → Nat} (hV : CV M T cs io sg e D nh nx ns nf ny tp cm w cn wc) (x : Nat) (hx : x < nx) : mm_Ev 6 144 [.ref 0, .int (nI x)] (hk M T cs) ((some (.int (sp_bal sg ns x)), hk M T cs)) := by
  obtain ⟨⟨hM, hMs, hW⟩, hC, hT, hR, hJ⟩ := id hV
  obtain ⟨hF, ⟨hL0, hL1, hL2⟩, hSc, hAg, hSt⟩ := id hC
  obtain ⟨⟨⟨h3, hnh⟩, ⟨h4, hnx⟩, ⟨h5, hns⟩, ⟨h7, hnf⟩, ⟨h6, hny⟩, ⟨h23, htp⟩⟩, hRa, hRb, hRs, hRs2, hRs3, hRx, hCD, hRt, hRt2, hRf⟩ := id hR
  refine r_ev (by decide +kernel) (show (2 : Nat) ≤ mm_nL 144 by decide +kernel) ?_
  show mm_Ru 5 (0, 5, false, prog_1_method_45_code, some .int) 0 [(0, .ref 0), (1, .int (nI x))] [] (hk M T cs) (fun r9 => r9 = ((some (.int (sp_bal sg ns x)), hk M T cs)))
  refine r_iconst (v := nI 0) (by decide) dc_1_45_0 ?_
  refine r_istore_n (ls' := [(2, .int (nI 0)), (0, .ref 0), (1, .int (nI x))]) (by decide) rfl dc_1_45_1 ?_
  refine r_iconst (v := nI 0) (by decide) dc_1_45_2 ?_
  refine r_istore_n (ls' := [(3, .int (nI 0)), (2, .int (nI 0)), (0, .ref 0), (1, .int (nI x))]) (by decide) rfl dc_1_45_3 ?_
  refine mm_cnt (P := fun m => ∀ (ac : Int32), (ac = sp_sum (fun s => if sg 58 s = nI x ∧ (sg 56 s = nI 1 ∨ sg 56 s = nI 3) then (if sg 51 s = sg 27 x then nI 1 else -1) else nI 0) m) → mm_Ru 5 (0, 5, false, prog_1_method_45_code, some .int) 4 [(3, .int (nI m)), (2, .int ac), (0, .ref 0), (1, .int (nI x))] [] (hk M T cs) (fun r9 => r9 = ((some (.int (sp_bal sg ns x)), hk M T cs)))) ns ?_ ?_ 0 (by omega) (nI 0) (rfl)
  · intro ac hi_m
    show mm_Ru 5 (0, 5, false, prog_1_method_45_code, some .int) 4 [(3, .int (nI ns)), (2, .int ac), (0, .ref 0), (1, .int (nI x))] [] (hk M T cs) (fun r9 => r9 = ((some (.int (sp_bal sg ns x)), hk M T cs)))
    refine r_iload_n rfl dc_1_45_4 ?_
    refine r_nzlt (t := 64) (by omega) (by decide) dc_1_45_5 ?_
    refine r_iload_n rfl dc_1_45_8 ?_
    refine r_aload_n rfl dc_1_45_9 ?_
    refine h_get (t := cT e 0) (v := .ref 27) fx_0_68 (hF 0 (by decide)) ⟨by omega, by omega⟩ (rfl) dc_1_45_10 ?_
    refine h_callv (t := cT e 27) (as := []) (rest := [.int (nI ns)]) (v := .int (nI ns)) (M1 := hk M T cs) rfl rfl iv_0_f113 (Or.inr (Or.inr rfl)) na_6_26 (hF 27 (by decide)) ⟨by omega, by omega⟩ (show (6 : Nat) < 14 by decide) o_26 rfl (show (1 : Nat) ≤ 8 by decide) dc_1_45_13 (mm_Ev_up (by decide : 1 ≤ 5) (k_sizeL hV.2.1.2.1.2.2)) ?_
    refine r_ncge (t := 64) (by omega) (by omega) (by decide) dc_1_45_18 (fun c_18 => ?_) (fun c_18 => ?_)
    · skip
      refine r_iload_n rfl dc_1_45_64 ?_
      refine r_iret rfl dc_1_45_65 ?_
      rw [hi_m]
      rfl
    · omega
  · intro m h_m ih_m ac hi_m
    show mm_Ru 5 (0, 5, false, prog_1_method_45_code, some .int) 4 [(3, .int (nI m)), (2, .int ac), (0, .ref 0), (1, .int (nI x))] [] (hk M T cs) (fun r9 => r9 = ((some (.int (sp_bal sg ns x)), hk M T cs)))
    refine r_iload_n rfl dc_1_45_4 ?_
    refine r_nzlt (t := 64) (by omega) (by decide) dc_1_45_5 ?_
    refine r_iload_n rfl dc_1_45_8 ?_
    refine r_aload_n rfl dc_1_45_9 ?_
    refine h_get (t := cT e 0) (v := .ref 27) fx_0_68 (hF 0 (by decide)) ⟨by omega, by omega⟩ (rfl) dc_1_45_10 ?_
    refine h_callv (t := cT e 27) (as := []) (rest := [.int (nI m)]) (v := .int (nI ns)) (M1 := hk M T cs) rfl rfl iv_0_f113 (Or.inr (Or.inr rfl)) na_6_26 (hF 27 (by decide)) ⟨by omega, by omega⟩ (show (6 : Nat) < 14 by decide) o_26 rfl (show (1 : Nat) ≤ 8 by decide) dc_1_45_13 (mm_Ev_up (by decide : 1 ≤ 5) (k_sizeL hV.2.1.2.1.2.2)) ?_
    refine r_ncge (t := 64) (by omega) (by omega) (by decide) dc_1_45_18 (fun c_18 => ?_) (fun c_18 => ?_)
    · omega
    · skip
      refine r_aload_n rfl dc_1_45_21 ?_
      refine h_get (t := cT e 0) (v := .ref 27) fx_0_68 (hF 0 (by decide)) ⟨by omega, by omega⟩ (rfl) dc_1_45_22 ?_
      refine r_iload_n rfl dc_1_45_25 ?_
      refine h_callv (t := cT e 27) (as := [.int (nI m)]) (rest := []) (v := .ref (D 7 m)) (M1 := hk M T cs) rfl rfl iv_0_f227 (Or.inr (Or.inr rfl)) na_6_40 (hF 27 (by decide)) ⟨by omega, by omega⟩ (show (6 : Nat) < 14 by decide) o_40 rfl (show (0 : Nat) ≤ 8 by decide) dc_1_45_26 (mm_Ev_up (by decide : 3 ≤ 5) (k_getL hV.2.1.2.1.2.2 m (by omega))) ?_
      refine h_cast (t := (11, 0, rl [(6, D 9 m), (5, D 8 m)])) (c := 11) (hSt m (by omega)).1 (hSt m (by omega)).2.1 (show (11 : Nat) < 14 by decide) kr_0_175 rfl dc_1_45_31 ?_
      refine r_astore (ls' := [(4, .ref (D 7 m)), (3, .int (nI m)), (2, .int ac), (0, .ref 0), (1, .int (nI x))]) (by decide) rfl dc_1_45_34 ?_
      refine r_aload rfl dc_1_45_36 ?_
      refine h_get (t := (11, 0, rl [(6, D 9 m), (5, D 8 m)])) (v := .int (sg 58 m)) fx_0_356 (hSt m (by omega)).1 (hSt m (by omega)).2.1 (show some (Value.int _) = _ from congrArg (fun z => some (Value.int z)) ((hV.2.1.2.2.2.2 m (by omega)).2.2.2.1.2.2.2.2.2.2.2)) dc_1_45_38 ?_
      refine r_iload_n rfl dc_1_45_41 ?_
      refine r_icne (t := 58) (by decide) dc_1_45_42 (fun c_42 => ?_) (fun c_42 => ?_)
      · skip
        refine r_iinc (n := 3) (k := 1) (x := nI m) (v := nI (m + 1)) (ls' := [(3, .int (nI (m + 1))), (4, .ref (D 7 m)), (2, .int ac), (0, .ref 0), (1, .int (nI x))]) rfl (nI_1 _) (by decide) rfl dc_1_45_58 ?_
        refine r_goto (t := 4) (by decide) dc_1_45_61 ?_
        refine r_ls [(3, .int (nI (m + 1))), (2, .int ac), (0, .ref 0), (1, .int (nI x))] (mm_ndk_of [3, 2, 0, 1] rfl (by decide)) (mm_sub_cons rfl (mm_sub_cons rfl (mm_sub_cons rfl (mm_sub_cons rfl (mm_sub_nil _))))) ?_
        exact ih_m ac ((Int32.add_zero _).symm.trans (sp_add hi_m (if_neg (fun z => c_42 z.1))))
      · skip
        refine r_iload_n rfl dc_1_45_45 ?_
        refine r_aload_n rfl dc_1_45_46 ?_
        refine r_aload rfl dc_1_45_47 ?_
        refine h_get (t := (11, 0, rl [(6, D 9 m), (5, D 8 m)])) (v := .int (sg 51 m)) fx_0_264 (hSt m (by omega)).1 (hSt m (by omega)).2.1 (show some (Value.int _) = _ from congrArg (fun z => some (Value.int z)) ((hV.2.1.2.2.2.2 m (by omega)).2.2.2.1.1)) dc_1_45_49 ?_
        refine r_iload_n rfl dc_1_45_52 ?_
        refine h_callv (t := cT e 0) (as := [.int (sg 51 m), .int (nI x)]) (rest := [.int ac]) (v := .int (if sg 27 x = sg 51 m then nI 1 else -1)) (M1 := hk M T cs) rfl rfl iv_0_v359 (Or.inl rfl) na_1_120 (hF 0 (by decide)) ⟨by omega, by omega⟩ (show (0 : Nat) < 14 by decide) o_120 rfl (show (1 : Nat) ≤ 8 by decide) dc_1_45_53 (k_wayOf hV x hx (sg 51 m)) ?_
        refine r_iadd (v := ac + (if sg 27 x = sg 51 m then nI 1 else -1)) (rfl) dc_1_45_56 ?_
        refine r_istore_n (ls' := [(2, .int (ac + (if sg 27 x = sg 51 m then nI 1 else -1))), (4, .ref (D 7 m)), (3, .int (nI m)), (0, .ref 0), (1, .int (nI x))]) (by decide) rfl dc_1_45_57 ?_
        refine r_iinc (n := 3) (k := 1) (x := nI m) (v := nI (m + 1)) (ls' := [(3, .int (nI (m + 1))), (2, .int (ac + (if sg 27 x = sg 51 m then nI 1 else -1))), (4, .ref (D 7 m)), (0, .ref 0), (1, .int (nI x))]) rfl (nI_1 _) (by decide) rfl dc_1_45_58 ?_
        refine r_goto (t := 4) (by decide) dc_1_45_61 ?_
        refine r_ls [(3, .int (nI (m + 1))), (2, .int (ac + (if sg 27 x = sg 51 m then nI 1 else -1))), (0, .ref 0), (1, .int (nI x))] (mm_ndk_of [3, 2, 0, 1] rfl (by decide)) (mm_sub_cons rfl (mm_sub_cons rfl (mm_sub_cons rfl (mm_sub_cons rfl (mm_sub_nil _))))) ?_
        exact ih_m (ac + (if sg 27 x = sg 51 m then nI 1 else -1)) (sp_add hi_m ((if_pos ⟨c_42, (hRt m h_m).2.2.2.2.2.2.2.2.2.elim (fun z => absurd (c_42.symm.trans z.2.2) (nI_nm1 (by omega))) (fun z => z.1)⟩).trans (by by_cases y : sg 51 m = sg 27 x; rw [if_pos y, if_pos y.symm]; rw [if_neg y, if_neg (fun v => y v.symm)])))
set_option maxHeartbeats 4000000 in
theorem k_balN {M : mH} {T : Nat → mT} {cs sg : Nat → Nat → Int32} {io : Nat → Int32} {e : Nat → Nat} {D : Nat → Nat → Nat} {nh nx ns nf ny tp : Nat} {cm : Nat → Nat} {w : Nat → Nat → Nat} {cn : Nat → Nat} {wc : Nat → Nat → Nat} (hV : CV M T cs io sg e D nh nx ns nf ny tp cm w cn wc) (x : Int32) (hx : x < 0) : mm_Ev 1 144 [.ref 0, .int x] (hk M T cs) ((some (.int (nI 0)), hk M T cs)) := by
  obtain ⟨⟨hM, hMs, hW⟩, hC, hT, hR, hJ⟩ := id hV
  obtain ⟨hF, ⟨hL0, hL1, hL2⟩, hSc, hAg, hSt⟩ := id hC
  obtain ⟨⟨⟨h3, hnh⟩, ⟨h4, hnx⟩, ⟨h5, hns⟩, ⟨h7, hnf⟩, ⟨h6, hny⟩, ⟨h23, htp⟩⟩, hRa, hRb, hRs, hRs2, hRs3, hRx, hCD, hRt, hRt2, hRf⟩ := id hR
  refine r_ev (by decide +kernel) (show (2 : Nat) ≤ mm_nL 144 by decide +kernel) ?_
  show mm_Ru 0 (0, 5, false, prog_1_method_45_code, some .int) 0 [(0, .ref 0), (1, .int x)] [] (hk M T cs) (fun r9 => r9 = ((some (.int (nI 0)), hk M T cs)))
  refine r_iconst (v := nI 0) (by decide) dc_1_45_0 ?_
  refine r_istore_n (ls' := [(2, .int (nI 0)), (0, .ref 0), (1, .int x)]) (by decide) rfl dc_1_45_1 ?_
  refine r_iconst (v := nI 0) (by decide) dc_1_45_2 ?_
  refine r_istore_n (ls' := [(3, .int (nI 0)), (2, .int (nI 0)), (0, .ref 0), (1, .int x)]) (by decide) rfl dc_1_45_3 ?_
  refine r_iload_n rfl dc_1_45_4 ?_
  refine r_iflt (t := 64) (by decide) dc_1_45_5 (fun c_5 => ?_) (fun c_5 => ?_)
  · skip
    refine r_iload_n rfl dc_1_45_64 ?_
    exact r_iret rfl dc_1_45_65 (rfl)
  · exact absurd hx c_5
set_option maxHeartbeats 4000000 in
theorem k_balH {M : mH} {T : Nat → mT} {cs sg : Nat → Nat → Int32} {io : Nat → Int32} {e : Nat → Nat} {D : Nat → Nat → Nat} {nh nx ns nf ny tp : Nat} {cm : Nat → Nat} {w : Nat → Nat → Nat} {cn : Nat → Nat} {wc : Nat → Nat → Nat} (hV : CV M T cs io sg e D nh nx ns nf ny tp cm w cn wc) (x : Int32) (hx0 : 0 ≤ x) (hx : nI nx ≤ x) : mm_Ev 4 144 [.ref 0, .int x] (hk M T cs) ((some (.int (nI 0)), hk M T cs)) := by
  obtain ⟨⟨hM, hMs, hW⟩, hC, hT, hR, hJ⟩ := id hV
  obtain ⟨hF, ⟨hL0, hL1, hL2⟩, hSc, hAg, hSt⟩ := id hC
  obtain ⟨⟨⟨h3, hnh⟩, ⟨h4, hnx⟩, ⟨h5, hns⟩, ⟨h7, hnf⟩, ⟨h6, hny⟩, ⟨h23, htp⟩⟩, hRa, hRb, hRs, hRs2, hRs3, hRx, hCD, hRt, hRt2, hRf⟩ := id hR
  have hnb : ∀ s, s < ns → ¬ sg 58 s = x := fun s hs z => by
    rcases (hRt s hs).2.2.2.2.2.2.2.2.2 with ⟨-, -, y⟩ | ⟨-, y, p, h1, -, h2, -⟩
    · rw [← z, y] at hx0
      exact absurd hx0 (by decide)
    · rw [← z, h2] at hx
      exact nI_ge h1 (by omega) hx
  refine r_ev (by decide +kernel) (show (2 : Nat) ≤ mm_nL 144 by decide +kernel) ?_
  show mm_Ru 3 (0, 5, false, prog_1_method_45_code, some .int) 0 [(0, .ref 0), (1, .int x)] [] (hk M T cs) (fun r9 => r9 = ((some (.int (nI 0)), hk M T cs)))
  refine r_iconst (v := nI 0) (by decide) dc_1_45_0 ?_
  refine r_istore_n (ls' := [(2, .int (nI 0)), (0, .ref 0), (1, .int x)]) (by decide) rfl dc_1_45_1 ?_
  refine r_iconst (v := nI 0) (by decide) dc_1_45_2 ?_
  refine r_istore_n (ls' := [(3, .int (nI 0)), (2, .int (nI 0)), (0, .ref 0), (1, .int x)]) (by decide) rfl dc_1_45_3 ?_
  refine mm_cnt (P := fun m => mm_Ru 3 (0, 5, false, prog_1_method_45_code, some .int) 4 [(3, .int (nI m)), (2, .int (nI 0)), (0, .ref 0), (1, .int x)] [] (hk M T cs) (fun r9 => r9 = ((some (.int (nI 0)), hk M T cs)))) ns ?_ ?_ 0 (by omega)
  · show mm_Ru 3 (0, 5, false, prog_1_method_45_code, some .int) 4 [(3, .int (nI ns)), (2, .int (nI 0)), (0, .ref 0), (1, .int x)] [] (hk M T cs) (fun r9 => r9 = ((some (.int (nI 0)), hk M T cs)))
    refine r_iload_n rfl dc_1_45_4 ?_
    refine r_iflt (t := 64) (by decide) dc_1_45_5 (fun c_5 => ?_) (fun c_5 => ?_)
    · exact absurd c_5 (Int32.not_lt.mpr hx0)
    · skip
      refine r_iload_n rfl dc_1_45_8 ?_
      refine r_aload_n rfl dc_1_45_9 ?_
      refine h_get (t := cT e 0) (v := .ref 27) fx_0_68 (hF 0 (by decide)) ⟨by omega, by omega⟩ (rfl) dc_1_45_10 ?_
      refine h_callv (t := cT e 27) (as := []) (rest := [.int (nI ns)]) (v := .int (nI ns)) (M1 := hk M T cs) rfl rfl iv_0_f113 (Or.inr (Or.inr rfl)) na_6_26 (hF 27 (by decide)) ⟨by omega, by omega⟩ (show (6 : Nat) < 14 by decide) o_26 rfl (show (1 : Nat) ≤ 8 by decide) dc_1_45_13 (mm_Ev_up (by decide : 1 ≤ 3) (k_sizeL hV.2.1.2.1.2.2)) ?_
      refine r_ncge (t := 64) (by omega) (by omega) (by decide) dc_1_45_18 (fun c_18 => ?_) (fun c_18 => ?_)
      · skip
        refine r_iload_n rfl dc_1_45_64 ?_
        exact r_iret rfl dc_1_45_65 (rfl)
      · omega
  · intro m h_m ih_m 
    show mm_Ru 3 (0, 5, false, prog_1_method_45_code, some .int) 4 [(3, .int (nI m)), (2, .int (nI 0)), (0, .ref 0), (1, .int x)] [] (hk M T cs) (fun r9 => r9 = ((some (.int (nI 0)), hk M T cs)))
    refine r_iload_n rfl dc_1_45_4 ?_
    refine r_iflt (t := 64) (by decide) dc_1_45_5 (fun c_5 => ?_) (fun c_5 => ?_)
    · exact absurd c_5 (Int32.not_lt.mpr hx0)
    · skip
      refine r_iload_n rfl dc_1_45_8 ?_
      refine r_aload_n rfl dc_1_45_9 ?_
      refine h_get (t := cT e 0) (v := .ref 27) fx_0_68 (hF 0 (by decide)) ⟨by omega, by omega⟩ (rfl) dc_1_45_10 ?_
      refine h_callv (t := cT e 27) (as := []) (rest := [.int (nI m)]) (v := .int (nI ns)) (M1 := hk M T cs) rfl rfl iv_0_f113 (Or.inr (Or.inr rfl)) na_6_26 (hF 27 (by decide)) ⟨by omega, by omega⟩ (show (6 : Nat) < 14 by decide) o_26 rfl (show (1 : Nat) ≤ 8 by decide) dc_1_45_13 (mm_Ev_up (by decide : 1 ≤ 3) (k_sizeL hV.2.1.2.1.2.2)) ?_
      refine r_ncge (t := 64) (by omega) (by omega) (by decide) dc_1_45_18 (fun c_18 => ?_) (fun c_18 => ?_)
      · omega
      · skip
        refine r_aload_n rfl dc_1_45_21 ?_
        refine h_get (t := cT e 0) (v := .ref 27) fx_0_68 (hF 0 (by decide)) ⟨by omega, by omega⟩ (rfl) dc_1_45_22 ?_
        refine r_iload_n rfl dc_1_45_25 ?_
        refine h_callv (t := cT e 27) (as := [.int (nI m)]) (rest := []) (v := .ref (D 7 m)) (M1 := hk M T cs) rfl rfl iv_0_f227 (Or.inr (Or.inr rfl)) na_6_40 (hF 27 (by decide)) ⟨by omega, by omega⟩ (show (6 : Nat) < 14 by decide) o_40 rfl (show (0 : Nat) ≤ 8 by decide) dc_1_45_26 (k_getL hV.2.1.2.1.2.2 m (by omega)) ?_
        refine h_cast (t := (11, 0, rl [(6, D 9 m), (5, D 8 m)])) (c := 11) (hSt m (by omega)).1 (hSt m (by omega)).2.1 (show (11 : Nat) < 14 by decide) kr_0_175 rfl dc_1_45_31 ?_
        refine r_astore (ls' := [(4, .ref (D 7 m)), (3, .int (nI m)), (2, .int (nI 0)), (0, .ref 0), (1, .int x)]) (by decide) rfl dc_1_45_34 ?_
        refine r_aload rfl dc_1_45_36 ?_
        refine h_get (t := (11, 0, rl [(6, D 9 m), (5, D 8 m)])) (v := .int (sg 58 m)) fx_0_356 (hSt m (by omega)).1 (hSt m (by omega)).2.1 (show some (Value.int _) = _ from congrArg (fun z => some (Value.int z)) ((hV.2.1.2.2.2.2 m (by omega)).2.2.2.1.2.2.2.2.2.2.2)) dc_1_45_38 ?_
        refine r_iload_n rfl dc_1_45_41 ?_
        refine r_icne (t := 58) (by decide) dc_1_45_42 (fun c_42 => ?_) (fun c_42 => ?_)
        · skip
          refine r_iinc (n := 3) (k := 1) (x := nI m) (v := nI (m + 1)) (ls' := [(3, .int (nI (m + 1))), (4, .ref (D 7 m)), (2, .int (nI 0)), (0, .ref 0), (1, .int x)]) rfl (nI_1 _) (by decide) rfl dc_1_45_58 ?_
          refine r_goto (t := 4) (by decide) dc_1_45_61 ?_
          refine r_ls [(3, .int (nI (m + 1))), (2, .int (nI 0)), (0, .ref 0), (1, .int x)] (mm_ndk_of [3, 2, 0, 1] rfl (by decide)) (mm_sub_cons rfl (mm_sub_cons rfl (mm_sub_cons rfl (mm_sub_cons rfl (mm_sub_nil _))))) ?_
          exact ih_m
        · exact absurd c_42 (hnb m h_m)
