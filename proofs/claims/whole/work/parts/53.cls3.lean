/-! schools and their courses -/
theorem dc_18_49_0 : decode prog_18_method_49_code 0 = .ok (.iload_n 0, 1) := by decide +kernel
theorem dc_18_49_1 : decode prog_18_method_49_code 1 = .ok (.iload_n 0, 1) := by decide +kernel
theorem dc_18_49_2 : decode prog_18_method_49_code 2 = .ok (.iconst 1, 1) := by decide +kernel
theorem dc_18_49_3 : decode prog_18_method_49_code 3 = .ok (.iushr, 1) := by decide +kernel
theorem dc_18_49_4 : decode prog_18_method_49_code 4 = .ok (.ldc_w 265, 3) := by decide +kernel
theorem dc_18_49_7 : decode prog_18_method_49_code 7 = .ok (.iand, 1) := by decide +kernel
theorem dc_18_49_8 : decode prog_18_method_49_code 8 = .ok (.isub, 1) := by decide +kernel
theorem dc_18_49_9 : decode prog_18_method_49_code 9 = .ok (.istore_n 0, 1) := by decide +kernel
theorem dc_18_49_10 : decode prog_18_method_49_code 10 = .ok (.iload_n 0, 1) := by decide +kernel
theorem dc_18_49_11 : decode prog_18_method_49_code 11 = .ok (.ldc_w 266, 3) := by decide +kernel
theorem dc_18_49_14 : decode prog_18_method_49_code 14 = .ok (.iand, 1) := by decide +kernel
theorem dc_18_49_15 : decode prog_18_method_49_code 15 = .ok (.iload_n 0, 1) := by decide +kernel
theorem dc_18_49_16 : decode prog_18_method_49_code 16 = .ok (.iconst 2, 1) := by decide +kernel
theorem dc_18_49_17 : decode prog_18_method_49_code 17 = .ok (.iushr, 1) := by decide +kernel
theorem dc_18_49_18 : decode prog_18_method_49_code 18 = .ok (.ldc_w 266, 3) := by decide +kernel
theorem dc_18_49_21 : decode prog_18_method_49_code 21 = .ok (.iand, 1) := by decide +kernel
theorem dc_18_49_22 : decode prog_18_method_49_code 22 = .ok (.iadd, 1) := by decide +kernel
theorem dc_18_49_23 : decode prog_18_method_49_code 23 = .ok (.istore_n 0, 1) := by decide +kernel
theorem dc_18_49_24 : decode prog_18_method_49_code 24 = .ok (.iload_n 0, 1) := by decide +kernel
theorem dc_18_49_25 : decode prog_18_method_49_code 25 = .ok (.iload_n 0, 1) := by decide +kernel
theorem dc_18_49_26 : decode prog_18_method_49_code 26 = .ok (.iconst 4, 1) := by decide +kernel
theorem dc_18_49_27 : decode prog_18_method_49_code 27 = .ok (.iushr, 1) := by decide +kernel
theorem dc_18_49_28 : decode prog_18_method_49_code 28 = .ok (.iadd, 1) := by decide +kernel
theorem dc_18_49_29 : decode prog_18_method_49_code 29 = .ok (.ldc_w 267, 3) := by decide +kernel
theorem dc_18_49_32 : decode prog_18_method_49_code 32 = .ok (.iand, 1) := by decide +kernel
theorem dc_18_49_33 : decode prog_18_method_49_code 33 = .ok (.istore_n 0, 1) := by decide +kernel
theorem dc_18_49_34 : decode prog_18_method_49_code 34 = .ok (.iload_n 0, 1) := by decide +kernel
theorem dc_18_49_35 : decode prog_18_method_49_code 35 = .ok (.iload_n 0, 1) := by decide +kernel
theorem dc_18_49_36 : decode prog_18_method_49_code 36 = .ok (.bipush 8, 2) := by decide +kernel
theorem dc_18_49_38 : decode prog_18_method_49_code 38 = .ok (.iushr, 1) := by decide +kernel
theorem dc_18_49_39 : decode prog_18_method_49_code 39 = .ok (.iadd, 1) := by decide +kernel
theorem dc_18_49_40 : decode prog_18_method_49_code 40 = .ok (.istore_n 0, 1) := by decide +kernel
theorem dc_18_49_41 : decode prog_18_method_49_code 41 = .ok (.iload_n 0, 1) := by decide +kernel
theorem dc_18_49_42 : decode prog_18_method_49_code 42 = .ok (.iload_n 0, 1) := by decide +kernel
theorem dc_18_49_43 : decode prog_18_method_49_code 43 = .ok (.bipush 16, 2) := by decide +kernel
theorem dc_18_49_45 : decode prog_18_method_49_code 45 = .ok (.iushr, 1) := by decide +kernel
theorem dc_18_49_46 : decode prog_18_method_49_code 46 = .ok (.iadd, 1) := by decide +kernel
theorem dc_18_49_47 : decode prog_18_method_49_code 47 = .ok (.istore_n 0, 1) := by decide +kernel
theorem dc_18_49_48 : decode prog_18_method_49_code 48 = .ok (.iload_n 0, 1) := by decide +kernel
theorem dc_18_49_49 : decode prog_18_method_49_code 49 = .ok (.bipush 63, 2) := by decide +kernel
theorem dc_18_49_51 : decode prog_18_method_49_code 51 = .ok (.iand, 1) := by decide +kernel
theorem dc_18_49_52 : decode prog_18_method_49_code 52 = .ok (.ireturn, 1) := by decide +kernel
theorem dc_9_2_0 : decode prog_9_method_2_code 0 = .ok (.aload_n 0, 1) := by decide +kernel
theorem dc_9_2_1 : decode prog_9_method_2_code 1 = .ok (.getfield 29, 3) := by decide +kernel
theorem dc_9_2_4 : decode prog_9_method_2_code 4 = .ok (.aload_n 0, 1) := by decide +kernel
theorem dc_9_2_5 : decode prog_9_method_2_code 5 = .ok (.getfield 26, 3) := by decide +kernel
theorem dc_9_2_8 : decode prog_9_method_2_code 8 = .ok (.isub, 1) := by decide +kernel
theorem dc_9_2_9 : decode prog_9_method_2_code 9 = .ok (.iconst 1, 1) := by decide +kernel
theorem dc_9_2_10 : decode prog_9_method_2_code 10 = .ok (.iadd, 1) := by decide +kernel
theorem dc_9_2_11 : decode prog_9_method_2_code 11 = .ok (.ireturn, 1) := by decide +kernel
theorem dc_9_3_0 : decode prog_9_method_3_code 0 = .ok (.aload_n 0, 1) := by decide +kernel
theorem dc_9_3_1 : decode prog_9_method_3_code 1 = .ok (.invokevirtual 35, 3) := by decide +kernel
theorem dc_9_3_4 : decode prog_9_method_3_code 4 = .ok (.istore_n 3, 1) := by decide +kernel
theorem dc_9_3_5 : decode prog_9_method_3_code 5 = .ok (.iload_n 3, 1) := by decide +kernel
theorem dc_9_3_6 : decode prog_9_method_3_code 6 = .ok (.ifCond .le 11, 3) := by decide +kernel
theorem dc_9_3_9 : decode prog_9_method_3_code 9 = .ok (.iload_n 1, 1) := by decide +kernel
theorem dc_9_3_10 : decode prog_9_method_3_code 10 = .ok (.iload_n 2, 1) := by decide +kernel
theorem dc_9_3_11 : decode prog_9_method_3_code 11 = .ok (.imul, 1) := by decide +kernel
theorem dc_9_3_12 : decode prog_9_method_3_code 12 = .ok (.iload_n 3, 1) := by decide +kernel
theorem dc_9_3_13 : decode prog_9_method_3_code 13 = .ok (.idiv, 1) := by decide +kernel
theorem dc_9_3_14 : decode prog_9_method_3_code 14 = .ok (.goto 4, 3) := by decide +kernel
theorem dc_9_3_18 : decode prog_9_method_3_code 18 = .ok (.ireturn, 1) := by decide +kernel
theorem dc_9_4_0 : decode prog_9_method_4_code 0 = .ok (.iconst 0, 1) := by decide +kernel
theorem dc_9_4_1 : decode prog_9_method_4_code 1 = .ok (.istore_n 3, 1) := by decide +kernel
theorem dc_9_4_2 : decode prog_9_method_4_code 2 = .ok (.iconst 1, 1) := by decide +kernel
theorem dc_9_4_3 : decode prog_9_method_4_code 3 = .ok (.aload_n 0, 1) := by decide +kernel
theorem dc_9_4_4 : decode prog_9_method_4_code 4 = .ok (.getfield 10, 3) := by decide +kernel
theorem dc_9_4_7 : decode prog_9_method_4_code 7 = .ok (.invokeinterface 39 1, 5) := by decide +kernel
theorem dc_9_4_12 : decode prog_9_method_4_code 12 = .ok (.bipush 6, 2) := by decide +kernel
theorem dc_9_4_14 : decode prog_9_method_4_code 14 = .ok (.invokestatic 44, 3) := by decide +kernel
theorem dc_9_4_17 : decode prog_9_method_4_code 17 = .ok (.ishl, 1) := by decide +kernel
theorem dc_9_4_18 : decode prog_9_method_4_code 18 = .ok (.istore 4, 2) := by decide +kernel
theorem dc_9_4_20 : decode prog_9_method_4_code 20 = .ok (.iconst 1, 1) := by decide +kernel
theorem dc_9_4_21 : decode prog_9_method_4_code 21 = .ok (.istore 5, 2) := by decide +kernel
theorem dc_9_4_23 : decode prog_9_method_4_code 23 = .ok (.iload 5, 2) := by decide +kernel
theorem dc_9_4_25 : decode prog_9_method_4_code 25 = .ok (.iload 4, 2) := by decide +kernel
theorem dc_9_4_27 : decode prog_9_method_4_code 27 = .ok (.if_icmp .ge 33, 3) := by decide +kernel
theorem dc_9_4_30 : decode prog_9_method_4_code 30 = .ok (.aload_n 0, 1) := by decide +kernel
theorem dc_9_4_31 : decode prog_9_method_4_code 31 = .ok (.iload 5, 2) := by decide +kernel
theorem dc_9_4_33 : decode prog_9_method_4_code 33 = .ok (.iload_n 2, 1) := by decide +kernel
theorem dc_9_4_34 : decode prog_9_method_4_code 34 = .ok (.invokevirtual 50, 3) := by decide +kernel
theorem dc_9_4_37 : decode prog_9_method_4_code 37 = .ok (.ifCond .eq 17, 3) := by decide +kernel
theorem dc_9_4_40 : decode prog_9_method_4_code 40 = .ok (.aload_n 0, 1) := by decide +kernel
theorem dc_9_4_41 : decode prog_9_method_4_code 41 = .ok (.iload 5, 2) := by decide +kernel
theorem dc_9_4_43 : decode prog_9_method_4_code 43 = .ok (.iload_n 3, 1) := by decide +kernel
theorem dc_9_4_44 : decode prog_9_method_4_code 44 = .ok (.iload_n 1, 1) := by decide +kernel
theorem dc_9_4_45 : decode prog_9_method_4_code 45 = .ok (.invokevirtual 54, 3) := by decide +kernel
theorem dc_9_4_48 : decode prog_9_method_4_code 48 = .ok (.ifCond .eq 6, 3) := by decide +kernel
theorem dc_9_4_51 : decode prog_9_method_4_code 51 = .ok (.iload 5, 2) := by decide +kernel
theorem dc_9_4_53 : decode prog_9_method_4_code 53 = .ok (.istore_n 3, 1) := by decide +kernel
theorem dc_9_4_54 : decode prog_9_method_4_code 54 = .ok (.iinc 5 1, 3) := by decide +kernel
theorem dc_9_4_57 : decode prog_9_method_4_code 57 = .ok (.goto (-34), 3) := by decide +kernel
theorem dc_9_4_60 : decode prog_9_method_4_code 60 = .ok (.iload_n 3, 1) := by decide +kernel
theorem dc_9_4_61 : decode prog_9_method_4_code 61 = .ok (.ireturn, 1) := by decide +kernel
theorem dc_9_5_0 : decode prog_9_method_5_code 0 = .ok (.iconst 0, 1) := by decide +kernel
theorem dc_9_5_1 : decode prog_9_method_5_code 1 = .ok (.istore_n 2, 1) := by decide +kernel
theorem dc_9_5_2 : decode prog_9_method_5_code 2 = .ok (.iconst 0, 1) := by decide +kernel
theorem dc_9_5_3 : decode prog_9_method_5_code 3 = .ok (.istore_n 3, 1) := by decide +kernel
theorem dc_9_5_4 : decode prog_9_method_5_code 4 = .ok (.iload_n 3, 1) := by decide +kernel
theorem dc_9_5_5 : decode prog_9_method_5_code 5 = .ok (.aload_n 0, 1) := by decide +kernel
theorem dc_9_5_6 : decode prog_9_method_5_code 6 = .ok (.getfield 10, 3) := by decide +kernel
theorem dc_9_5_9 : decode prog_9_method_5_code 9 = .ok (.invokeinterface 39 1, 5) := by decide +kernel
theorem dc_9_5_14 : decode prog_9_method_5_code 14 = .ok (.if_icmp .ge 40, 3) := by decide +kernel
theorem dc_9_5_17 : decode prog_9_method_5_code 17 = .ok (.iload_n 2, 1) := by decide +kernel
theorem dc_9_5_18 : decode prog_9_method_5_code 18 = .ok (.iload_n 1, 1) := by decide +kernel
theorem dc_9_5_19 : decode prog_9_method_5_code 19 = .ok (.iload_n 3, 1) := by decide +kernel
theorem dc_9_5_20 : decode prog_9_method_5_code 20 = .ok (.invokestatic 58, 3) := by decide +kernel
theorem dc_9_5_23 : decode prog_9_method_5_code 23 = .ok (.ifCond .eq 22, 3) := by decide +kernel
theorem dc_9_5_26 : decode prog_9_method_5_code 26 = .ok (.aload_n 0, 1) := by decide +kernel
theorem dc_9_5_27 : decode prog_9_method_5_code 27 = .ok (.getfield 10, 3) := by decide +kernel
theorem dc_9_5_30 : decode prog_9_method_5_code 30 = .ok (.iload_n 3, 1) := by decide +kernel
theorem dc_9_5_31 : decode prog_9_method_5_code 31 = .ok (.invokeinterface 61 2, 5) := by decide +kernel
theorem dc_9_5_36 : decode prog_9_method_5_code 36 = .ok (.checkcast 65, 3) := by decide +kernel
theorem dc_9_5_39 : decode prog_9_method_5_code 39 = .ok (.getfield 67, 3) := by decide +kernel
theorem dc_9_5_42 : decode prog_9_method_5_code 42 = .ok (.goto 4, 3) := by decide +kernel
theorem dc_9_5_45 : decode prog_9_method_5_code 45 = .ok (.iconst 0, 1) := by decide +kernel
theorem dc_9_5_46 : decode prog_9_method_5_code 46 = .ok (.iadd, 1) := by decide +kernel
theorem dc_9_5_47 : decode prog_9_method_5_code 47 = .ok (.istore_n 2, 1) := by decide +kernel
theorem dc_9_5_48 : decode prog_9_method_5_code 48 = .ok (.iinc 3 1, 3) := by decide +kernel
theorem dc_9_5_51 : decode prog_9_method_5_code 51 = .ok (.goto (-47), 3) := by decide +kernel
theorem dc_9_5_54 : decode prog_9_method_5_code 54 = .ok (.iload_n 2, 1) := by decide +kernel
theorem dc_9_5_55 : decode prog_9_method_5_code 55 = .ok (.ireturn, 1) := by decide +kernel
theorem dc_9_6_0 : decode prog_9_method_6_code 0 = .ok (.iconst 0, 1) := by decide +kernel
theorem dc_9_6_1 : decode prog_9_method_6_code 1 = .ok (.istore_n 2, 1) := by decide +kernel
theorem dc_9_6_2 : decode prog_9_method_6_code 2 = .ok (.iconst 0, 1) := by decide +kernel
theorem dc_9_6_3 : decode prog_9_method_6_code 3 = .ok (.istore_n 3, 1) := by decide +kernel
theorem dc_9_6_4 : decode prog_9_method_6_code 4 = .ok (.iload_n 3, 1) := by decide +kernel
theorem dc_9_6_5 : decode prog_9_method_6_code 5 = .ok (.aload_n 0, 1) := by decide +kernel
theorem dc_9_6_6 : decode prog_9_method_6_code 6 = .ok (.getfield 10, 3) := by decide +kernel
theorem dc_9_6_9 : decode prog_9_method_6_code 9 = .ok (.invokeinterface 39 1, 5) := by decide +kernel
theorem dc_9_6_14 : decode prog_9_method_6_code 14 = .ok (.if_icmp .ge 40, 3) := by decide +kernel
theorem dc_9_6_17 : decode prog_9_method_6_code 17 = .ok (.iload_n 2, 1) := by decide +kernel
theorem dc_9_6_18 : decode prog_9_method_6_code 18 = .ok (.iload_n 1, 1) := by decide +kernel
theorem dc_9_6_19 : decode prog_9_method_6_code 19 = .ok (.iload_n 3, 1) := by decide +kernel
theorem dc_9_6_20 : decode prog_9_method_6_code 20 = .ok (.invokestatic 58, 3) := by decide +kernel
theorem dc_9_6_23 : decode prog_9_method_6_code 23 = .ok (.ifCond .eq 22, 3) := by decide +kernel
theorem dc_9_6_26 : decode prog_9_method_6_code 26 = .ok (.aload_n 0, 1) := by decide +kernel
theorem dc_9_6_27 : decode prog_9_method_6_code 27 = .ok (.getfield 10, 3) := by decide +kernel
theorem dc_9_6_30 : decode prog_9_method_6_code 30 = .ok (.iload_n 3, 1) := by decide +kernel
theorem dc_9_6_31 : decode prog_9_method_6_code 31 = .ok (.invokeinterface 61 2, 5) := by decide +kernel
theorem dc_9_6_36 : decode prog_9_method_6_code 36 = .ok (.checkcast 65, 3) := by decide +kernel
theorem dc_9_6_39 : decode prog_9_method_6_code 39 = .ok (.getfield 70, 3) := by decide +kernel
theorem dc_9_6_42 : decode prog_9_method_6_code 42 = .ok (.goto 4, 3) := by decide +kernel
theorem dc_9_6_45 : decode prog_9_method_6_code 45 = .ok (.iconst 0, 1) := by decide +kernel
theorem dc_9_6_46 : decode prog_9_method_6_code 46 = .ok (.ior, 1) := by decide +kernel
theorem dc_9_6_47 : decode prog_9_method_6_code 47 = .ok (.istore_n 2, 1) := by decide +kernel
theorem dc_9_6_48 : decode prog_9_method_6_code 48 = .ok (.iinc 3 1, 3) := by decide +kernel
theorem dc_9_6_51 : decode prog_9_method_6_code 51 = .ok (.goto (-47), 3) := by decide +kernel
theorem dc_9_6_54 : decode prog_9_method_6_code 54 = .ok (.iload_n 2, 1) := by decide +kernel
theorem dc_9_6_55 : decode prog_9_method_6_code 55 = .ok (.ireturn, 1) := by decide +kernel
theorem dc_9_7_0 : decode prog_9_method_7_code 0 = .ok (.iload_n 0, 1) := by decide +kernel
theorem dc_9_7_1 : decode prog_9_method_7_code 1 = .ok (.iload_n 1, 1) := by decide +kernel
theorem dc_9_7_2 : decode prog_9_method_7_code 2 = .ok (.ishr, 1) := by decide +kernel
theorem dc_9_7_3 : decode prog_9_method_7_code 3 = .ok (.iconst 1, 1) := by decide +kernel
theorem dc_9_7_4 : decode prog_9_method_7_code 4 = .ok (.iand, 1) := by decide +kernel
theorem dc_9_7_5 : decode prog_9_method_7_code 5 = .ok (.iconst 1, 1) := by decide +kernel
theorem dc_9_7_6 : decode prog_9_method_7_code 6 = .ok (.if_icmp .ne 7, 3) := by decide +kernel
theorem dc_9_7_9 : decode prog_9_method_7_code 9 = .ok (.iconst 1, 1) := by decide +kernel
theorem dc_9_7_10 : decode prog_9_method_7_code 10 = .ok (.goto 4, 3) := by decide +kernel
theorem dc_9_7_13 : decode prog_9_method_7_code 13 = .ok (.iconst 0, 1) := by decide +kernel
theorem dc_9_7_14 : decode prog_9_method_7_code 14 = .ok (.ireturn, 1) := by decide +kernel
theorem dc_9_8_0 : decode prog_9_method_8_code 0 = .ok (.iconst 0, 1) := by decide +kernel
theorem dc_9_8_1 : decode prog_9_method_8_code 1 = .ok (.istore_n 3, 1) := by decide +kernel
theorem dc_9_8_2 : decode prog_9_method_8_code 2 = .ok (.iconst 0, 1) := by decide +kernel
theorem dc_9_8_3 : decode prog_9_method_8_code 3 = .ok (.istore 4, 2) := by decide +kernel
theorem dc_9_8_5 : decode prog_9_method_8_code 5 = .ok (.iload 4, 2) := by decide +kernel
theorem dc_9_8_7 : decode prog_9_method_8_code 7 = .ok (.aload_n 0, 1) := by decide +kernel
theorem dc_9_8_8 : decode prog_9_method_8_code 8 = .ok (.getfield 10, 3) := by decide +kernel
theorem dc_9_8_11 : decode prog_9_method_8_code 11 = .ok (.invokeinterface 39 1, 5) := by decide +kernel
theorem dc_9_8_16 : decode prog_9_method_8_code 16 = .ok (.if_icmp .ge 71, 3) := by decide +kernel
theorem dc_9_8_19 : decode prog_9_method_8_code 19 = .ok (.iload_n 1, 1) := by decide +kernel
theorem dc_9_8_20 : decode prog_9_method_8_code 20 = .ok (.iload 4, 2) := by decide +kernel
theorem dc_9_8_22 : decode prog_9_method_8_code 22 = .ok (.invokestatic 58, 3) := by decide +kernel
theorem dc_9_8_25 : decode prog_9_method_8_code 25 = .ok (.ifCond .eq 56, 3) := by decide +kernel
theorem dc_9_8_28 : decode prog_9_method_8_code 28 = .ok (.aload_n 0, 1) := by decide +kernel
theorem dc_9_8_29 : decode prog_9_method_8_code 29 = .ok (.getfield 10, 3) := by decide +kernel
theorem dc_9_8_32 : decode prog_9_method_8_code 32 = .ok (.iload 4, 2) := by decide +kernel
theorem dc_9_8_34 : decode prog_9_method_8_code 34 = .ok (.invokeinterface 61 2, 5) := by decide +kernel
theorem dc_9_8_39 : decode prog_9_method_8_code 39 = .ok (.checkcast 65, 3) := by decide +kernel
theorem dc_9_8_42 : decode prog_9_method_8_code 42 = .ok (.astore 5, 2) := by decide +kernel
theorem dc_9_8_44 : decode prog_9_method_8_code 44 = .ok (.aload 5, 2) := by decide +kernel
theorem dc_9_8_46 : decode prog_9_method_8_code 46 = .ok (.getfield 73, 3) := by decide +kernel
theorem dc_9_8_49 : decode prog_9_method_8_code 49 = .ok (.ifCond .ne 22, 3) := by decide +kernel
theorem dc_9_8_52 : decode prog_9_method_8_code 52 = .ok (.aload 5, 2) := by decide +kernel
theorem dc_9_8_54 : decode prog_9_method_8_code 54 = .ok (.getfield 77, 3) := by decide +kernel
theorem dc_9_8_57 : decode prog_9_method_8_code 57 = .ok (.iload_n 2, 1) := by decide +kernel
theorem dc_9_8_58 : decode prog_9_method_8_code 58 = .ok (.if_icmp .gt 13, 3) := by decide +kernel
theorem dc_9_8_61 : decode prog_9_method_8_code 61 = .ok (.iload_n 3, 1) := by decide +kernel
theorem dc_9_8_62 : decode prog_9_method_8_code 62 = .ok (.aload 5, 2) := by decide +kernel
theorem dc_9_8_64 : decode prog_9_method_8_code 64 = .ok (.getfield 80, 3) := by decide +kernel
theorem dc_9_8_67 : decode prog_9_method_8_code 67 = .ok (.iand, 1) := by decide +kernel
theorem dc_9_8_68 : decode prog_9_method_8_code 68 = .ok (.ifCond .eq 5, 3) := by decide +kernel
theorem dc_9_8_71 : decode prog_9_method_8_code 71 = .ok (.iconst 0, 1) := by decide +kernel
theorem dc_9_8_72 : decode prog_9_method_8_code 72 = .ok (.ireturn, 1) := by decide +kernel
theorem dc_9_8_73 : decode prog_9_method_8_code 73 = .ok (.iload_n 3, 1) := by decide +kernel
theorem dc_9_8_74 : decode prog_9_method_8_code 74 = .ok (.aload 5, 2) := by decide +kernel
theorem dc_9_8_76 : decode prog_9_method_8_code 76 = .ok (.getfield 80, 3) := by decide +kernel
theorem dc_9_8_79 : decode prog_9_method_8_code 79 = .ok (.ior, 1) := by decide +kernel
theorem dc_9_8_80 : decode prog_9_method_8_code 80 = .ok (.istore_n 3, 1) := by decide +kernel
theorem dc_9_8_81 : decode prog_9_method_8_code 81 = .ok (.iinc 4 1, 3) := by decide +kernel
theorem dc_9_8_84 : decode prog_9_method_8_code 84 = .ok (.goto (-79), 3) := by decide +kernel
theorem dc_9_8_87 : decode prog_9_method_8_code 87 = .ok (.aload_n 0, 1) := by decide +kernel
theorem dc_9_8_88 : decode prog_9_method_8_code 88 = .ok (.iload_n 1, 1) := by decide +kernel
theorem dc_9_8_89 : decode prog_9_method_8_code 89 = .ok (.invokevirtual 83, 3) := by decide +kernel
theorem dc_9_8_92 : decode prog_9_method_8_code 92 = .ok (.bipush 12, 2) := by decide +kernel
theorem dc_9_8_94 : decode prog_9_method_8_code 94 = .ok (.if_icmp .gt 7, 3) := by decide +kernel
theorem dc_9_8_97 : decode prog_9_method_8_code 97 = .ok (.iconst 1, 1) := by decide +kernel
theorem dc_9_8_98 : decode prog_9_method_8_code 98 = .ok (.goto 4, 3) := by decide +kernel
theorem dc_9_8_101 : decode prog_9_method_8_code 101 = .ok (.iconst 0, 1) := by decide +kernel
theorem dc_9_8_102 : decode prog_9_method_8_code 102 = .ok (.ireturn, 1) := by decide +kernel
theorem dc_9_9_0 : decode prog_9_method_9_code 0 = .ok (.aload_n 0, 1) := by decide +kernel
theorem dc_9_9_1 : decode prog_9_method_9_code 1 = .ok (.iload_n 1, 1) := by decide +kernel
theorem dc_9_9_2 : decode prog_9_method_9_code 2 = .ok (.invokevirtual 87, 3) := by decide +kernel
theorem dc_9_9_5 : decode prog_9_method_9_code 5 = .ok (.iload_n 3, 1) := by decide +kernel
theorem dc_9_9_6 : decode prog_9_method_9_code 6 = .ok (.iand, 1) := by decide +kernel
theorem dc_9_9_7 : decode prog_9_method_9_code 7 = .ok (.invokestatic 90, 3) := by decide +kernel
theorem dc_9_9_10 : decode prog_9_method_9_code 10 = .ok (.aload_n 0, 1) := by decide +kernel
theorem dc_9_9_11 : decode prog_9_method_9_code 11 = .ok (.iload_n 2, 1) := by decide +kernel
theorem dc_9_9_12 : decode prog_9_method_9_code 12 = .ok (.invokevirtual 87, 3) := by decide +kernel
theorem dc_9_9_15 : decode prog_9_method_9_code 15 = .ok (.iload_n 3, 1) := by decide +kernel
theorem dc_9_9_16 : decode prog_9_method_9_code 16 = .ok (.iand, 1) := by decide +kernel
theorem dc_9_9_17 : decode prog_9_method_9_code 17 = .ok (.invokestatic 90, 3) := by decide +kernel
theorem dc_9_9_20 : decode prog_9_method_9_code 20 = .ok (.isub, 1) := by decide +kernel
theorem dc_9_9_21 : decode prog_9_method_9_code 21 = .ok (.istore 4, 2) := by decide +kernel
theorem dc_9_9_23 : decode prog_9_method_9_code 23 = .ok (.iload 4, 2) := by decide +kernel
theorem dc_9_9_25 : decode prog_9_method_9_code 25 = .ok (.ifCond .gt 21, 3) := by decide +kernel
theorem dc_9_9_28 : decode prog_9_method_9_code 28 = .ok (.iload 4, 2) := by decide +kernel
theorem dc_9_9_30 : decode prog_9_method_9_code 30 = .ok (.ifCond .ne 20, 3) := by decide +kernel
theorem dc_9_9_33 : decode prog_9_method_9_code 33 = .ok (.aload_n 0, 1) := by decide +kernel
theorem dc_9_9_34 : decode prog_9_method_9_code 34 = .ok (.iload_n 1, 1) := by decide +kernel
theorem dc_9_9_35 : decode prog_9_method_9_code 35 = .ok (.invokevirtual 83, 3) := by decide +kernel
theorem dc_9_9_38 : decode prog_9_method_9_code 38 = .ok (.aload_n 0, 1) := by decide +kernel
theorem dc_9_9_39 : decode prog_9_method_9_code 39 = .ok (.iload_n 2, 1) := by decide +kernel
theorem dc_9_9_40 : decode prog_9_method_9_code 40 = .ok (.invokevirtual 83, 3) := by decide +kernel
theorem dc_9_9_43 : decode prog_9_method_9_code 43 = .ok (.if_icmp .ge 7, 3) := by decide +kernel
theorem dc_9_9_46 : decode prog_9_method_9_code 46 = .ok (.iconst 1, 1) := by decide +kernel
theorem dc_9_9_47 : decode prog_9_method_9_code 47 = .ok (.goto 4, 3) := by decide +kernel
theorem dc_9_9_50 : decode prog_9_method_9_code 50 = .ok (.iconst 0, 1) := by decide +kernel
theorem dc_9_9_51 : decode prog_9_method_9_code 51 = .ok (.ireturn, 1) := by decide +kernel
theorem iv_9_f39 : mm_iv 9 (.invokeinterface 39 1) = some (6, 26) := by decide +kernel
theorem iv_9_f61 : mm_iv 9 (.invokeinterface 61 2) = some (6, 40) := by decide +kernel
theorem iv_9_s44 : mm_iv 9 (.invokestatic 44) = some (0, 37) := by decide +kernel
theorem iv_9_s58 : mm_iv 9 (.invokestatic 58) = some (0, 151) := by decide +kernel
theorem iv_9_s90 : mm_iv 9 (.invokestatic 90) = some (0, 155) := by decide +kernel
theorem iv_9_v35 : mm_iv 9 (.invokevirtual 35) = some (1, 168) := by decide +kernel
theorem iv_9_v50 : mm_iv 9 (.invokevirtual 50) = some (1, 150) := by decide +kernel
theorem iv_9_v54 : mm_iv 9 (.invokevirtual 54) = some (1, 153) := by decide +kernel
theorem iv_9_v83 : mm_iv 9 (.invokevirtual 83) = some (1, 152) := by decide +kernel
theorem iv_9_v87 : mm_iv 9 (.invokevirtual 87) = some (1, 154) := by decide +kernel
theorem kr_9_65 : mm_kr 9 65 = some 12 := by decide +kernel
theorem nr_26_265 : mm_nr 26 265 = some (nI 1431655765) := by decide +kernel
theorem nr_26_266 : mm_nr 26 266 = some (nI 858993459) := by decide +kernel
theorem nr_26_267 : mm_nr 26 267 = some (nI 252645135) := by decide +kernel
theorem o_150 : mm_o 150 = 9 := by decide +kernel
theorem o_152 : mm_o 152 = 9 := by decide +kernel
theorem o_153 : mm_o 153 = 9 := by decide +kernel
theorem o_154 : mm_o 154 = 9 := by decide +kernel
theorem o_168 : mm_o 168 = 9 := by decide +kernel
theorem o_26 : mm_o 26 = 6 := by decide +kernel
theorem o_40 : mm_o 40 = 6 := by decide +kernel
theorem na_0_151 : mm_nas 0 151 = 2 := by decide +kernel
theorem na_0_155 : mm_nas 0 155 = 1 := by decide +kernel
theorem na_0_37 : mm_nas 0 37 = 2 := by decide +kernel
theorem na_1_150 : mm_nas 1 150 = 3 := by decide +kernel
theorem na_1_152 : mm_nas 1 152 = 2 := by decide +kernel
theorem na_1_153 : mm_nas 1 153 = 4 := by decide +kernel
theorem na_1_154 : mm_nas 1 154 = 2 := by decide +kernel
theorem na_1_168 : mm_nas 1 168 = 1 := by decide +kernel
theorem na_6_26 : mm_nas 6 26 = 1 := by decide +kernel
theorem na_6_40 : mm_nas 6 40 = 2 := by decide +kernel
/-- a list of n things, at ad -/
def LsR (M : mH) (T : Nat → mT) (cs : Nat → Nat → Int32) (l ed n : Nat) (ad : Nat → Nat) : Prop := T l = (6, 0, rl [(0, ed)]) ∧ inC M l ∧ cs l 1 = nI n ∧ n ≤ 100 ∧ (n = 0 ∧ ed = 1000000 ∨ 0 < n ∧ ∃ c r, T ed = (23, c, r) ∧ inC M ed ∧ n ≤ c ∧ c ≤ 1000 ∧ ∀ i, i < n → r i = some (ad i))
theorem k_sizeL {M : mH} {T : Nat → mT} {cs : Nat → Nat → Int32} {l ed n : Nat} {ad : Nat → Nat} (h : LsR M T cs l ed n ad) : mm_Ev 1 26 [.ref l] (hk M T cs) (some (.int (nI n)), hk M T cs) := by
  have h9 := k_size M T cs l ed h.1 h.2.1
  rwa [h.2.2.1] at h9
theorem k_getL {M : mH} {T : Nat → mT} {cs : Nat → Nat → Int32} {l ed n : Nat} {ad : Nat → Nat} (h : LsR M T cs l ed n ad) (i : Nat) (hi : i < n) : mm_Ev 3 40 [.ref l, .int (nI i)] (hk M T cs) (some (.ref (ad i)), hk M T cs) := by
  obtain ⟨h1, h2, h3, h4, h5⟩ := h
  rcases h5 with ⟨q, -⟩ | ⟨-, c, r, he, heC, hc, hc2, hr⟩
  · omega
  · exact k_get M T cs l ed c i (ad i) r h1 h2 he heC (by omega) (by omega) (hr i hi) n h3 hi (by omega)
def CoR (M : mH) (T : Nat → mT) (cs sg : Nat → Nat → Int32) (a j : Nat) : Prop := T a = (12, 0, rl []) ∧ inC M a ∧ cs a 0 = sg 17 j ∧ cs a 1 = sg 18 j ∧ cs a 2 = sg 19 j ∧ cs a 3 = sg 20 j ∧ cs a 4 = sg 21 j
def ScR (M : mH) (T : Nat → mT) (cs sg : Nat → Nat → Int32) (D : Nat → Nat → Nat) (h cm : Nat) : Prop := T (D 0 h) = (9, 0, rl [(6, D 1 h)]) ∧ inC M (D 0 h) ∧ (cs (D 0 h) 0 = sg 9 h ∧ cs (D 0 h) 1 = sg 10 h ∧ cs (D 0 h) 2 = sg 13 h ∧ cs (D 0 h) 3 = sg 14 h ∧ cs (D 0 h) 4 = sg 15 h ∧ cs (D 0 h) 5 = sg 11 h) ∧ LsR M T cs (D 1 h) (D 2 h) cm (fun c => D 3 (6 * h + c)) ∧ (∀ c, c < cm → CoR M T cs sg (D 3 (6 * h + c)) (6 * h + c))
set_option maxHeartbeats 4000000 in
theorem k_termDays (M : mH) (T : Nat → mT) (cs : Nat → Nat → Int32) (sg : Nat → Nat → Int32) (D : Nat → Nat → Nat) (h cm : Nat) (hs : ScR M T cs sg D h cm) (hcm6 : cm ≤ 6) : mm_Ev 1 168 [.ref (D 0 h)] (hk M T cs) ((some (.int (sg 14 h - sg 13 h + nI 1)), hk M T cs)) := by
  obtain ⟨hS, hSC, ⟨f0, f1, f2, f3, f4, f5⟩, hL, hC⟩ := id hs
  refine r_ev (by decide +kernel) (show (1 : Nat) ≤ mm_nL 168 by decide +kernel) ?_
  show mm_Ru 0 (9, 1, false, prog_9_method_2_code, some .int) 0 [(0, .ref (D 0 h))] [] (hk M T cs) (fun r9 => r9 = ((some (.int (sg 14 h - sg 13 h + nI 1)), hk M T cs)))
  refine r_aload_n rfl dc_9_2_0 ?_
  refine h_get (t := (9, 0, rl [(6, D 1 h)])) (v := .int (sg 14 h)) fx_9_29 hS hSC (show some (Value.int _) = _ from congrArg (fun z => some (Value.int z)) (f3)) dc_9_2_1 ?_
  refine r_aload_n rfl dc_9_2_4 ?_
  refine h_get (t := (9, 0, rl [(6, D 1 h)])) (v := .int (sg 13 h)) fx_9_26 hS hSC (show some (Value.int _) = _ from congrArg (fun z => some (Value.int z)) (f2)) dc_9_2_5 ?_
  refine r_isub (v := (sg 14 h) - (sg 13 h)) (rfl) dc_9_2_8 ?_
  refine r_iconst (v := nI 1) (by decide) dc_9_2_9 ?_
  refine r_iadd (v := ((sg 14 h) - (sg 13 h)) + (nI 1)) (rfl) dc_9_2_10 ?_
  exact r_iret rfl dc_9_2_11 (rfl)
set_option maxHeartbeats 4000000 in
theorem k_partOf (M : mH) (T : Nat → mT) (cs : Nat → Nat → Int32) (sg : Nat → Nat → Int32) (D : Nat → Nat → Nat) (h cm : Nat) (hs : ScR M T cs sg D h cm) (hcm6 : cm ≤ 6) (td : Nat) (htd : sg 14 h - sg 13 h + nI 1 = nI td) (htp : 0 < td) (htb : td ≤ 400) (x y : Int32) : mm_Ev 2 169 [.ref (D 0 h), .int x, .int y] (hk M T cs) ((some (.int (x * y / nI td)), hk M T cs)) := by
  obtain ⟨hS, hSC, ⟨f0, f1, f2, f3, f4, f5⟩, hL, hC⟩ := id hs
  refine r_ev (by decide +kernel) (show (3 : Nat) ≤ mm_nL 169 by decide +kernel) ?_
  show mm_Ru 1 (9, 4, false, prog_9_method_3_code, some .int) 0 [(0, .ref (D 0 h)), (1, .int x), (2, .int y)] [] (hk M T cs) (fun r9 => r9 = ((some (.int (x * y / nI td)), hk M T cs)))
  refine r_aload_n rfl dc_9_3_0 ?_
  refine h_callv (t := (9, 0, rl [(6, D 1 h)])) (as := []) (rest := []) (v := .int (nI td)) (M1 := hk M T cs) rfl rfl iv_9_v35 (Or.inl rfl) na_1_168 hS hSC (show (9 : Nat) < 14 by decide) o_168 rfl (show (0 : Nat) ≤ 8 by decide) dc_9_3_1 (htd ▸ k_termDays M T cs sg D h cm hs hcm6) ?_
  refine r_istore_n (ls' := [(3, .int (nI td)), (0, .ref (D 0 h)), (1, .int x), (2, .int y)]) (by decide) rfl dc_9_3_4 ?_
  refine r_iload_n rfl dc_9_3_5 ?_
  refine r_nzle (t := 17) (by omega) (by decide) dc_9_3_6 (fun c_6 => ?_) (fun c_6 => ?_)
  · omega
  · skip
    refine r_iload_n rfl dc_9_3_9 ?_
    refine r_iload_n rfl dc_9_3_10 ?_
    refine r_imul (v := x * y) (rfl) dc_9_3_11 ?_
    refine r_iload_n rfl dc_9_3_12 ?_
    refine r_idiv (v := x * y / nI td) (nI_ne0 htp (by omega)) (rfl) dc_9_3_13 ?_
    refine r_goto (t := 18) (by decide) dc_9_3_14 ?_
    exact r_iret rfl dc_9_3_18 (rfl)
set_option maxHeartbeats 4000000 in
theorem k_hasC (N : mH) (set : Int32) (c : Nat) : mm_Ev 1 151 [.int set, .int (nI c)] (N) ((some (.int (pI (sp_bt set c = nI 1))), N)) := by
  refine r_ev (by decide +kernel) (show (2 : Nat) ≤ mm_nL 151 by decide +kernel) ?_
  show mm_Ru 0 (9, 2, false, prog_9_method_7_code, some .boolean) 0 [(0, .int set), (1, .int (nI c))] [] (N) (fun r9 => r9 = ((some (.int (pI (sp_bt set c = nI 1))), N)))
  refine r_iload_n rfl dc_9_7_0 ?_
  refine r_iload_n rfl dc_9_7_1 ?_
  refine r_ishr (v := set >>> (nI c &&& 31)) (rfl) dc_9_7_2 ?_
  refine r_iconst (v := nI 1) (by decide) dc_9_7_3 ?_
  refine r_iand (v := sp_bt set c) (rfl) dc_9_7_4 ?_
  refine r_iconst (v := nI 1) (by decide) dc_9_7_5 ?_
  refine r_icne (t := 13) (by decide) dc_9_7_6 (fun c_6 => ?_) (fun c_6 => ?_)
  · skip
    refine r_iconst (v := nI 0) (by decide) dc_9_7_13 ?_
    refine r_zret rfl (by decide) dc_9_7_14 ?_
    rw [pI_f c_6]
  · skip
    refine r_iconst (v := nI 1) (by decide) dc_9_7_9 ?_
    refine r_goto (t := 14) (by decide) dc_9_7_10 ?_
    refine r_zret rfl (by decide) dc_9_7_14 ?_
    rw [pI_t c_6]
theorem sp_bt_01 (set : Int32) (c : Nat) : sp_bt set c = 0 ∨ sp_bt set c = nI 1 := by
  unfold sp_bt
  generalize set >>> (nI c &&& 31) = x
  obtain ⟨j, hj, e⟩ := pk_andE x (m := nI 1) 1 (by decide)
  rw [e]
  rcases (by omega : j = 0 ∨ j = 1) with rfl | rfl
  · exact Or.inl rfl
  · exact Or.inr rfl
theorem sp_bt_n1 {set : Int32} {c : Nat} (h : ¬ sp_bt set c = nI 1) : sp_bt set c = 0 := (sp_bt_01 set c).resolve_right h
theorem sp_bt_1n {set : Int32} {c : Nat} (h : sp_bt set c = nI 1) : ¬ sp_bt set c = 0 := fun q => absurd (h.symm.trans q) (by decide)
def tpF (sg : Nat → Nat → Int32) (h : Nat) (set : Int32) : Nat → Int32
  | 0 => nI 0
  | c + 1 => if sp_bt set c = 0 then tpF sg h set c else tpF sg h set c ||| sg 17 (6 * h + c)
theorem i32_orand (a b c : Int32) : (a ||| b) &&& c = (a &&& c) ||| (b &&& c) := by
  apply Int32.toBitVec_inj.mp
  simp only [Int32.toBitVec_and, Int32.toBitVec_or]
  ext i hi
  simp [Bool.and_or_distrib_right]
theorem tpF_and (sg : Nat → Nat → Int32) (s h : Nat) (set : Int32) : ∀ c, tpF sg h set c &&& sg 55 s = sp_tp sg s h set c
  | 0 => by
    show nI 0 &&& sg 55 s = nI 0
    rw [nI_0, Int32.zero_and]
  | c + 1 => by
    have ih := tpF_and sg s h set c
    unfold tpF sp_tp
    split
    · exact ih
    · rw [i32_orand, ih]
set_option maxHeartbeats 4000000 in
theorem k_creditsOf (M : mH) (T : Nat → mT) (cs : Nat → Nat → Int32) (sg : Nat → Nat → Int32) (D : Nat → Nat → Nat) (h cm : Nat) (hs : ScR M T cs sg D h cm) (hcm6 : cm ≤ 6) (set : Int32) : mm_Ev 4 152 [.ref (D 0 h), .int set] (hk M T cs) ((some (.int (sp_cr sg h set cm)), hk M T cs)) := by
  obtain ⟨hS, hSC, ⟨f0, f1, f2, f3, f4, f5⟩, hL, hC⟩ := id hs
  refine r_ev (by decide +kernel) (show (2 : Nat) ≤ mm_nL 152 by decide +kernel) ?_
  show mm_Ru 3 (9, 4, false, prog_9_method_5_code, some .int) 0 [(0, .ref (D 0 h)), (1, .int set)] [] (hk M T cs) (fun r9 => r9 = ((some (.int (sp_cr sg h set cm)), hk M T cs)))
  refine r_iconst (v := nI 0) (by decide) dc_9_5_0 ?_
  refine r_istore_n (ls' := [(2, .int (nI 0)), (0, .ref (D 0 h)), (1, .int set)]) (by decide) rfl dc_9_5_1 ?_
  refine r_iconst (v := nI 0) (by decide) dc_9_5_2 ?_
  refine r_istore_n (ls' := [(3, .int (nI 0)), (2, .int (nI 0)), (0, .ref (D 0 h)), (1, .int set)]) (by decide) rfl dc_9_5_3 ?_
  refine mm_cnt (P := fun m => ∀ (acc : Int32), (acc = sp_cr sg h set m) → mm_Ru 3 (9, 4, false, prog_9_method_5_code, some .int) 4 [(3, .int (nI m)), (2, .int acc), (0, .ref (D 0 h)), (1, .int set)] [] (hk M T cs) (fun r9 => r9 = ((some (.int (sp_cr sg h set cm)), hk M T cs)))) cm ?_ ?_ 0 (by omega) (nI 0) (rfl)
  · intro acc hi_m
    show mm_Ru 3 (9, 4, false, prog_9_method_5_code, some .int) 4 [(3, .int (nI cm)), (2, .int acc), (0, .ref (D 0 h)), (1, .int set)] [] (hk M T cs) (fun r9 => r9 = ((some (.int (sp_cr sg h set cm)), hk M T cs)))
    refine r_iload_n rfl dc_9_5_4 ?_
    refine r_aload_n rfl dc_9_5_5 ?_
    refine h_get (t := (9, 0, rl [(6, D 1 h)])) (v := .ref (D 1 h)) fx_9_10 hS hSC (rfl) dc_9_5_6 ?_
    refine h_callv (t := (6, 0, rl [(0, D 2 h)])) (as := []) (rest := [.int (nI cm)]) (v := .int (nI cm)) (M1 := hk M T cs) rfl rfl iv_9_f39 (Or.inr (Or.inr rfl)) na_6_26 hL.1 hL.2.1 (show (6 : Nat) < 14 by decide) o_26 rfl (show (1 : Nat) ≤ 8 by decide) dc_9_5_9 (mm_Ev_up (by decide : 1 ≤ 3) (k_sizeL hL)) ?_
    refine r_ncge (t := 54) (by omega) (by omega) (by decide) dc_9_5_14 (fun c_14 => ?_) (fun c_14 => ?_)
    · skip
      refine r_iload_n rfl dc_9_5_54 ?_
      refine r_iret rfl dc_9_5_55 ?_
      rw [hi_m]
    · omega
  · intro m h_m ih_m acc hi_m
    show mm_Ru 3 (9, 4, false, prog_9_method_5_code, some .int) 4 [(3, .int (nI m)), (2, .int acc), (0, .ref (D 0 h)), (1, .int set)] [] (hk M T cs) (fun r9 => r9 = ((some (.int (sp_cr sg h set cm)), hk M T cs)))
    refine r_iload_n rfl dc_9_5_4 ?_
    refine r_aload_n rfl dc_9_5_5 ?_
    refine h_get (t := (9, 0, rl [(6, D 1 h)])) (v := .ref (D 1 h)) fx_9_10 hS hSC (rfl) dc_9_5_6 ?_
    refine h_callv (t := (6, 0, rl [(0, D 2 h)])) (as := []) (rest := [.int (nI m)]) (v := .int (nI cm)) (M1 := hk M T cs) rfl rfl iv_9_f39 (Or.inr (Or.inr rfl)) na_6_26 hL.1 hL.2.1 (show (6 : Nat) < 14 by decide) o_26 rfl (show (1 : Nat) ≤ 8 by decide) dc_9_5_9 (mm_Ev_up (by decide : 1 ≤ 3) (k_sizeL hL)) ?_
    refine r_ncge (t := 54) (by omega) (by omega) (by decide) dc_9_5_14 (fun c_14 => ?_) (fun c_14 => ?_)
    · omega
    · skip
      refine r_iload_n rfl dc_9_5_17 ?_
      refine r_iload_n rfl dc_9_5_18 ?_
      refine r_iload_n rfl dc_9_5_19 ?_
      refine h_callS (as := [.int set, .int (nI m)]) (rest := [.int acc]) (v := .int (pI (sp_bt set m = nI 1))) rfl rfl iv_9_s58 (Or.inl rfl) na_0_151 rfl (show (1 : Nat) ≤ 8 by decide) dc_9_5_20 (mm_Ev_up (by decide : 1 ≤ 3) (k_hasC _ set m)) ?_
      refine r_ifeq (t := 45) (by decide) dc_9_5_23 (fun c_23 => ?_) (fun c_23 => ?_)
      · skip
        refine r_iconst (v := nI 0) (by decide) dc_9_5_45 ?_
        refine r_iadd (v := acc + (nI 0)) (rfl) dc_9_5_46 ?_
        refine r_istore_n (ls' := [(2, .int (acc + (nI 0))), (3, .int (nI m)), (0, .ref (D 0 h)), (1, .int set)]) (by decide) rfl dc_9_5_47 ?_
        refine r_iinc (x := nI m) (v := nI (m + 1)) (ls' := [(3, .int (nI (m + 1))), (2, .int (acc + (nI 0))), (0, .ref (D 0 h)), (1, .int set)]) rfl (nI_1 _) (by decide) rfl dc_9_5_48 ?_
        refine r_goto (t := 4) (by decide) dc_9_5_51 ?_
        exact ih_m (acc + (nI 0)) (by rw [hi_m]; show _ = if _ then _ else _; rw [if_pos (sp_bt_n1 (pI_eq0 c_23))]; exact Int32.add_zero _)
      · skip
        refine r_aload_n rfl dc_9_5_26 ?_
        refine h_get (t := (9, 0, rl [(6, D 1 h)])) (v := .ref (D 1 h)) fx_9_10 hS hSC (rfl) dc_9_5_27 ?_
        refine r_iload_n rfl dc_9_5_30 ?_
        refine h_callv (t := (6, 0, rl [(0, D 2 h)])) (as := [.int (nI m)]) (rest := [.int acc]) (v := .ref (D 3 (6 * h + m))) (M1 := hk M T cs) rfl rfl iv_9_f61 (Or.inr (Or.inr rfl)) na_6_40 hL.1 hL.2.1 (show (6 : Nat) < 14 by decide) o_40 rfl (show (1 : Nat) ≤ 8 by decide) dc_9_5_31 (k_getL hL m (by omega)) ?_
        refine h_cast (t := (12, 0, rl [])) (c := 12) (hC m (by omega)).1 (hC m (by omega)).2.1 (show (12 : Nat) < 14 by decide) kr_9_65 rfl dc_9_5_36 ?_
        refine h_get (t := (12, 0, rl [])) (v := .int (sg 18 (6 * h + m))) fx_9_67 (hC m (by omega)).1 (hC m (by omega)).2.1 (show some (Value.int _) = _ from congrArg (fun z => some (Value.int z)) ((hC m (by omega)).2.2.2.1)) dc_9_5_39 ?_
        refine r_goto (t := 46) (by decide) dc_9_5_42 ?_
        refine r_iadd (v := acc + (sg 18 (6 * h + m))) (rfl) dc_9_5_46 ?_
        refine r_istore_n (ls' := [(2, .int (acc + (sg 18 (6 * h + m)))), (3, .int (nI m)), (0, .ref (D 0 h)), (1, .int set)]) (by decide) rfl dc_9_5_47 ?_
        refine r_iinc (x := nI m) (v := nI (m + 1)) (ls' := [(3, .int (nI (m + 1))), (2, .int (acc + (sg 18 (6 * h + m)))), (0, .ref (D 0 h)), (1, .int set)]) rfl (nI_1 _) (by decide) rfl dc_9_5_48 ?_
        refine r_goto (t := 4) (by decide) dc_9_5_51 ?_
        exact ih_m (acc + (sg 18 (6 * h + m))) (by rw [hi_m]; show _ = if _ then _ else _; rw [if_neg (sp_bt_1n (pI_ne c_23))])
set_option maxHeartbeats 4000000 in
theorem k_topicsOf (M : mH) (T : Nat → mT) (cs : Nat → Nat → Int32) (sg : Nat → Nat → Int32) (D : Nat → Nat → Nat) (h cm : Nat) (hs : ScR M T cs sg D h cm) (hcm6 : cm ≤ 6) (set : Int32) : mm_Ev 4 154 [.ref (D 0 h), .int set] (hk M T cs) ((some (.int (tpF sg h set cm)), hk M T cs)) := by
  obtain ⟨hS, hSC, ⟨f0, f1, f2, f3, f4, f5⟩, hL, hC⟩ := id hs
  refine r_ev (by decide +kernel) (show (2 : Nat) ≤ mm_nL 154 by decide +kernel) ?_
  show mm_Ru 3 (9, 4, false, prog_9_method_6_code, some .int) 0 [(0, .ref (D 0 h)), (1, .int set)] [] (hk M T cs) (fun r9 => r9 = ((some (.int (tpF sg h set cm)), hk M T cs)))
  refine r_iconst (v := nI 0) (by decide) dc_9_6_0 ?_
  refine r_istore_n (ls' := [(2, .int (nI 0)), (0, .ref (D 0 h)), (1, .int set)]) (by decide) rfl dc_9_6_1 ?_
  refine r_iconst (v := nI 0) (by decide) dc_9_6_2 ?_
  refine r_istore_n (ls' := [(3, .int (nI 0)), (2, .int (nI 0)), (0, .ref (D 0 h)), (1, .int set)]) (by decide) rfl dc_9_6_3 ?_
  refine mm_cnt (P := fun m => ∀ (acc : Int32), (acc = tpF sg h set m) → mm_Ru 3 (9, 4, false, prog_9_method_6_code, some .int) 4 [(3, .int (nI m)), (2, .int acc), (0, .ref (D 0 h)), (1, .int set)] [] (hk M T cs) (fun r9 => r9 = ((some (.int (tpF sg h set cm)), hk M T cs)))) cm ?_ ?_ 0 (by omega) (nI 0) (rfl)
  · intro acc hi_m
    show mm_Ru 3 (9, 4, false, prog_9_method_6_code, some .int) 4 [(3, .int (nI cm)), (2, .int acc), (0, .ref (D 0 h)), (1, .int set)] [] (hk M T cs) (fun r9 => r9 = ((some (.int (tpF sg h set cm)), hk M T cs)))
    refine r_iload_n rfl dc_9_6_4 ?_
    refine r_aload_n rfl dc_9_6_5 ?_
    refine h_get (t := (9, 0, rl [(6, D 1 h)])) (v := .ref (D 1 h)) fx_9_10 hS hSC (rfl) dc_9_6_6 ?_
    refine h_callv (t := (6, 0, rl [(0, D 2 h)])) (as := []) (rest := [.int (nI cm)]) (v := .int (nI cm)) (M1 := hk M T cs) rfl rfl iv_9_f39 (Or.inr (Or.inr rfl)) na_6_26 hL.1 hL.2.1 (show (6 : Nat) < 14 by decide) o_26 rfl (show (1 : Nat) ≤ 8 by decide) dc_9_6_9 (mm_Ev_up (by decide : 1 ≤ 3) (k_sizeL hL)) ?_
    refine r_ncge (t := 54) (by omega) (by omega) (by decide) dc_9_6_14 (fun c_14 => ?_) (fun c_14 => ?_)
    · skip
      refine r_iload_n rfl dc_9_6_54 ?_
      refine r_iret rfl dc_9_6_55 ?_
      rw [hi_m]
    · omega
  · intro m h_m ih_m acc hi_m
    show mm_Ru 3 (9, 4, false, prog_9_method_6_code, some .int) 4 [(3, .int (nI m)), (2, .int acc), (0, .ref (D 0 h)), (1, .int set)] [] (hk M T cs) (fun r9 => r9 = ((some (.int (tpF sg h set cm)), hk M T cs)))
    refine r_iload_n rfl dc_9_6_4 ?_
    refine r_aload_n rfl dc_9_6_5 ?_
    refine h_get (t := (9, 0, rl [(6, D 1 h)])) (v := .ref (D 1 h)) fx_9_10 hS hSC (rfl) dc_9_6_6 ?_
    refine h_callv (t := (6, 0, rl [(0, D 2 h)])) (as := []) (rest := [.int (nI m)]) (v := .int (nI cm)) (M1 := hk M T cs) rfl rfl iv_9_f39 (Or.inr (Or.inr rfl)) na_6_26 hL.1 hL.2.1 (show (6 : Nat) < 14 by decide) o_26 rfl (show (1 : Nat) ≤ 8 by decide) dc_9_6_9 (mm_Ev_up (by decide : 1 ≤ 3) (k_sizeL hL)) ?_
    refine r_ncge (t := 54) (by omega) (by omega) (by decide) dc_9_6_14 (fun c_14 => ?_) (fun c_14 => ?_)
    · omega
    · skip
      refine r_iload_n rfl dc_9_6_17 ?_
      refine r_iload_n rfl dc_9_6_18 ?_
      refine r_iload_n rfl dc_9_6_19 ?_
      refine h_callS (as := [.int set, .int (nI m)]) (rest := [.int acc]) (v := .int (pI (sp_bt set m = nI 1))) rfl rfl iv_9_s58 (Or.inl rfl) na_0_151 rfl (show (1 : Nat) ≤ 8 by decide) dc_9_6_20 (mm_Ev_up (by decide : 1 ≤ 3) (k_hasC _ set m)) ?_
      refine r_ifeq (t := 45) (by decide) dc_9_6_23 (fun c_23 => ?_) (fun c_23 => ?_)
      · skip
        refine r_iconst (v := nI 0) (by decide) dc_9_6_45 ?_
        refine r_ior (v := acc ||| (nI 0)) (rfl) dc_9_6_46 ?_
        refine r_istore_n (ls' := [(2, .int (acc ||| (nI 0))), (3, .int (nI m)), (0, .ref (D 0 h)), (1, .int set)]) (by decide) rfl dc_9_6_47 ?_
        refine r_iinc (x := nI m) (v := nI (m + 1)) (ls' := [(3, .int (nI (m + 1))), (2, .int (acc ||| (nI 0))), (0, .ref (D 0 h)), (1, .int set)]) rfl (nI_1 _) (by decide) rfl dc_9_6_48 ?_
        refine r_goto (t := 4) (by decide) dc_9_6_51 ?_
        exact ih_m (acc ||| (nI 0)) (by rw [hi_m]; show _ = if _ then _ else _; rw [if_pos (sp_bt_n1 (pI_eq0 c_23))]; exact Int32.or_zero)
      · skip
        refine r_aload_n rfl dc_9_6_26 ?_
        refine h_get (t := (9, 0, rl [(6, D 1 h)])) (v := .ref (D 1 h)) fx_9_10 hS hSC (rfl) dc_9_6_27 ?_
        refine r_iload_n rfl dc_9_6_30 ?_
        refine h_callv (t := (6, 0, rl [(0, D 2 h)])) (as := [.int (nI m)]) (rest := [.int acc]) (v := .ref (D 3 (6 * h + m))) (M1 := hk M T cs) rfl rfl iv_9_f61 (Or.inr (Or.inr rfl)) na_6_40 hL.1 hL.2.1 (show (6 : Nat) < 14 by decide) o_40 rfl (show (1 : Nat) ≤ 8 by decide) dc_9_6_31 (k_getL hL m (by omega)) ?_
        refine h_cast (t := (12, 0, rl [])) (c := 12) (hC m (by omega)).1 (hC m (by omega)).2.1 (show (12 : Nat) < 14 by decide) kr_9_65 rfl dc_9_6_36 ?_
        refine h_get (t := (12, 0, rl [])) (v := .int (sg 17 (6 * h + m))) fx_9_70 (hC m (by omega)).1 (hC m (by omega)).2.1 (show some (Value.int _) = _ from congrArg (fun z => some (Value.int z)) ((hC m (by omega)).2.2.1)) dc_9_6_39 ?_
        refine r_goto (t := 46) (by decide) dc_9_6_42 ?_
        refine r_ior (v := acc ||| (sg 17 (6 * h + m))) (rfl) dc_9_6_46 ?_
        refine r_istore_n (ls' := [(2, .int (acc ||| (sg 17 (6 * h + m)))), (3, .int (nI m)), (0, .ref (D 0 h)), (1, .int set)]) (by decide) rfl dc_9_6_47 ?_
        refine r_iinc (x := nI m) (v := nI (m + 1)) (ls' := [(3, .int (nI (m + 1))), (2, .int (acc ||| (sg 17 (6 * h + m)))), (0, .ref (D 0 h)), (1, .int set)]) rfl (nI_1 _) (by decide) rfl dc_9_6_48 ?_
        refine r_goto (t := 4) (by decide) dc_9_6_51 ?_
        exact ih_m (acc ||| (sg 17 (6 * h + m))) (by rw [hi_m]; show _ = if _ then _ else _; rw [if_neg (sp_bt_1n (pI_ne c_23))])
set_option maxHeartbeats 4000000 in
theorem k_canBe (M : mH) (T : Nat → mT) (cs : Nat → Nat → Int32) (sg : Nat → Nat → Int32) (D : Nat → Nat → Nat) (h cm : Nat) (hs : ScR M T cs sg D h cm) (hcm6 : cm ≤ 6) (set lev : Int32) : mm_Ev 5 150 [.ref (D 0 h), .int set, .int lev] (hk M T cs) ((some (.int (pI (sp_can sg h lev set cm))), hk M T cs)) := by
  obtain ⟨hS, hSC, ⟨f0, f1, f2, f3, f4, f5⟩, hL, hC⟩ := id hs
  refine r_ev (by decide +kernel) (show (3 : Nat) ≤ mm_nL 150 by decide +kernel) ?_
  show mm_Ru 4 (9, 6, false, prog_9_method_8_code, some .boolean) 0 [(0, .ref (D 0 h)), (1, .int set), (2, .int lev)] [] (hk M T cs) (fun r9 => r9 = ((some (.int (pI (sp_can sg h lev set cm))), hk M T cs)))
  refine r_iconst (v := nI 0) (by decide) dc_9_8_0 ?_
  refine r_istore_n (ls' := [(3, .int (nI 0)), (0, .ref (D 0 h)), (1, .int set), (2, .int lev)]) (by decide) rfl dc_9_8_1 ?_
  refine r_iconst (v := nI 0) (by decide) dc_9_8_2 ?_
  refine r_istore (ls' := [(4, .int (nI 0)), (3, .int (nI 0)), (0, .ref (D 0 h)), (1, .int set), (2, .int lev)]) (by decide) rfl dc_9_8_3 ?_
  refine mm_cnt (P := fun m => ∀ (acc : Int32), (acc = sp_hr sg h set m ∧ ∀ j, j < m → sp_gd sg h lev set j) → mm_Ru 4 (9, 6, false, prog_9_method_8_code, some .boolean) 5 [(4, .int (nI m)), (3, .int acc), (0, .ref (D 0 h)), (1, .int set), (2, .int lev)] [] (hk M T cs) (fun r9 => r9 = ((some (.int (pI (sp_can sg h lev set cm))), hk M T cs)))) cm ?_ ?_ 0 (by omega) (nI 0) (⟨rfl, fun j hj => absurd hj (Nat.not_lt_zero j)⟩)
  · intro acc hi_m
    show mm_Ru 4 (9, 6, false, prog_9_method_8_code, some .boolean) 5 [(4, .int (nI cm)), (3, .int acc), (0, .ref (D 0 h)), (1, .int set), (2, .int lev)] [] (hk M T cs) (fun r9 => r9 = ((some (.int (pI (sp_can sg h lev set cm))), hk M T cs)))
    refine r_iload rfl dc_9_8_5 ?_
    refine r_aload_n rfl dc_9_8_7 ?_
    refine h_get (t := (9, 0, rl [(6, D 1 h)])) (v := .ref (D 1 h)) fx_9_10 hS hSC (rfl) dc_9_8_8 ?_
    refine h_callv (t := (6, 0, rl [(0, D 2 h)])) (as := []) (rest := [.int (nI cm)]) (v := .int (nI cm)) (M1 := hk M T cs) rfl rfl iv_9_f39 (Or.inr (Or.inr rfl)) na_6_26 hL.1 hL.2.1 (show (6 : Nat) < 14 by decide) o_26 rfl (show (1 : Nat) ≤ 8 by decide) dc_9_8_11 (mm_Ev_up (by decide : 1 ≤ 4) (k_sizeL hL)) ?_
    refine r_ncge (t := 87) (by omega) (by omega) (by decide) dc_9_8_16 (fun c_16 => ?_) (fun c_16 => ?_)
    · skip
      refine r_aload_n rfl dc_9_8_87 ?_
      refine r_iload_n rfl dc_9_8_88 ?_
      refine h_callv (t := (9, 0, rl [(6, D 1 h)])) (as := [.int set]) (rest := []) (v := .int (sp_cr sg h set cm)) (M1 := hk M T cs) rfl rfl iv_9_v83 (Or.inl rfl) na_1_152 hS hSC (show (9 : Nat) < 14 by decide) o_152 rfl (show (0 : Nat) ≤ 8 by decide) dc_9_8_89 (k_creditsOf M T cs sg D h cm hs hcm6 set) ?_
      refine r_bipush (v := nI 12) (by decide) dc_9_8_92 ?_
      refine r_icgt (t := 101) (by decide) dc_9_8_94 (fun c_94 => ?_) (fun c_94 => ?_)
      · skip
        refine r_iconst (v := nI 0) (by decide) dc_9_8_101 ?_
        refine r_zret rfl (by decide) dc_9_8_102 ?_
        rw [pI_f (P := sp_can sg h lev set cm) (fun y => absurd c_94 (Int32.not_lt.mpr y.2))]
      · skip
        refine r_iconst (v := nI 1) (by decide) dc_9_8_97 ?_
        refine r_goto (t := 102) (by decide) dc_9_8_98 ?_
        refine r_zret rfl (by decide) dc_9_8_102 ?_
        rw [pI_t (P := sp_can sg h lev set cm) ⟨hi_m.2, Int32.not_lt.mp c_94⟩]
    · omega
  · intro m h_m ih_m acc hi_m
    show mm_Ru 4 (9, 6, false, prog_9_method_8_code, some .boolean) 5 [(4, .int (nI m)), (3, .int acc), (0, .ref (D 0 h)), (1, .int set), (2, .int lev)] [] (hk M T cs) (fun r9 => r9 = ((some (.int (pI (sp_can sg h lev set cm))), hk M T cs)))
    refine r_iload rfl dc_9_8_5 ?_
    refine r_aload_n rfl dc_9_8_7 ?_
    refine h_get (t := (9, 0, rl [(6, D 1 h)])) (v := .ref (D 1 h)) fx_9_10 hS hSC (rfl) dc_9_8_8 ?_
    refine h_callv (t := (6, 0, rl [(0, D 2 h)])) (as := []) (rest := [.int (nI m)]) (v := .int (nI cm)) (M1 := hk M T cs) rfl rfl iv_9_f39 (Or.inr (Or.inr rfl)) na_6_26 hL.1 hL.2.1 (show (6 : Nat) < 14 by decide) o_26 rfl (show (1 : Nat) ≤ 8 by decide) dc_9_8_11 (mm_Ev_up (by decide : 1 ≤ 4) (k_sizeL hL)) ?_
    refine r_ncge (t := 87) (by omega) (by omega) (by decide) dc_9_8_16 (fun c_16 => ?_) (fun c_16 => ?_)
    · omega
    · skip
      refine r_iload_n rfl dc_9_8_19 ?_
      refine r_iload rfl dc_9_8_20 ?_
      refine h_callS (as := [.int set, .int (nI m)]) (rest := []) (v := .int (pI (sp_bt set m = nI 1))) rfl rfl iv_9_s58 (Or.inl rfl) na_0_151 rfl (show (0 : Nat) ≤ 8 by decide) dc_9_8_22 (mm_Ev_up (by decide : 1 ≤ 4) (k_hasC _ set m)) ?_
      refine r_ifeq (t := 81) (by decide) dc_9_8_25 (fun c_25 => ?_) (fun c_25 => ?_)
      · skip
        refine r_iinc (x := nI m) (v := nI (m + 1)) (ls' := [(4, .int (nI (m + 1))), (3, .int acc), (0, .ref (D 0 h)), (1, .int set), (2, .int lev)]) rfl (nI_1 _) (by decide) rfl dc_9_8_81 ?_
        refine r_goto (t := 5) (by decide) dc_9_8_84 ?_
        exact ih_m acc (⟨by rw [hi_m.1]; show _ = if _ then _ else _; rw [if_pos (sp_bt_n1 (pI_eq0 c_25))], fun j hj => by rcases (by omega : j < m ∨ j = m) with q | rfl; exact hi_m.2 j q; exact Or.inl (sp_bt_n1 (pI_eq0 c_25))⟩)
      · skip
        refine r_aload_n rfl dc_9_8_28 ?_
        refine h_get (t := (9, 0, rl [(6, D 1 h)])) (v := .ref (D 1 h)) fx_9_10 hS hSC (rfl) dc_9_8_29 ?_
        refine r_iload rfl dc_9_8_32 ?_
        refine h_callv (t := (6, 0, rl [(0, D 2 h)])) (as := [.int (nI m)]) (rest := []) (v := .ref (D 3 (6 * h + m))) (M1 := hk M T cs) rfl rfl iv_9_f61 (Or.inr (Or.inr rfl)) na_6_40 hL.1 hL.2.1 (show (6 : Nat) < 14 by decide) o_40 rfl (show (0 : Nat) ≤ 8 by decide) dc_9_8_34 (mm_Ev_up (by decide : 3 ≤ 4) (k_getL hL m (by omega))) ?_
        refine h_cast (t := (12, 0, rl [])) (c := 12) (hC m (by omega)).1 (hC m (by omega)).2.1 (show (12 : Nat) < 14 by decide) kr_9_65 rfl dc_9_8_39 ?_
        refine r_astore (ls' := [(5, .ref (D 3 (6 * h + m))), (4, .int (nI m)), (3, .int acc), (0, .ref (D 0 h)), (1, .int set), (2, .int lev)]) (by decide) rfl dc_9_8_42 ?_
        refine r_aload rfl dc_9_8_44 ?_
        refine h_get (t := (12, 0, rl [])) (v := .int (sg 21 (6 * h + m))) fx_9_73 (hC m (by omega)).1 (hC m (by omega)).2.1 (show some (Value.int _) = _ from congrArg (fun z => some (Value.int z)) ((hC m (by omega)).2.2.2.2.2.2)) dc_9_8_46 ?_
        refine r_ifne (t := 71) (by decide) dc_9_8_49 (fun c_49 => ?_) (fun c_49 => ?_)
        · skip
          refine r_iconst (v := nI 0) (by decide) dc_9_8_71 ?_
          refine r_zret rfl (by decide) dc_9_8_72 ?_
          rw [pI_f (P := sp_can sg h lev set cm) (fun y => (y.1 m h_m).elim (fun z => sp_bt_1n (pI_ne c_25) z) (fun z => c_49 z.1))]
        · skip
          refine r_aload rfl dc_9_8_52 ?_
          refine h_get (t := (12, 0, rl [])) (v := .int (sg 19 (6 * h + m))) fx_9_77 (hC m (by omega)).1 (hC m (by omega)).2.1 (show some (Value.int _) = _ from congrArg (fun z => some (Value.int z)) ((hC m (by omega)).2.2.2.2.1)) dc_9_8_54 ?_
          refine r_iload_n rfl dc_9_8_57 ?_
          refine r_icgt (t := 71) (by decide) dc_9_8_58 (fun c_58 => ?_) (fun c_58 => ?_)
          · skip
            refine r_iconst (v := nI 0) (by decide) dc_9_8_71 ?_
            refine r_zret rfl (by decide) dc_9_8_72 ?_
            rw [pI_f (P := sp_can sg h lev set cm) (fun y => (y.1 m h_m).elim (fun z => sp_bt_1n (pI_ne c_25) z) (fun z => z.2.1 c_58))]
          · skip
            refine r_iload_n rfl dc_9_8_61 ?_
            refine r_aload rfl dc_9_8_62 ?_
            refine h_get (t := (12, 0, rl [])) (v := .int (sg 20 (6 * h + m))) fx_9_80 (hC m (by omega)).1 (hC m (by omega)).2.1 (show some (Value.int _) = _ from congrArg (fun z => some (Value.int z)) ((hC m (by omega)).2.2.2.2.2.1)) dc_9_8_64 ?_
            refine r_iand (v := acc &&& (sg 20 (6 * h + m))) (rfl) dc_9_8_67 ?_
            refine r_ifeq (t := 73) (by decide) dc_9_8_68 (fun c_68 => ?_) (fun c_68 => ?_)
            · skip
              refine r_iload_n rfl dc_9_8_73 ?_
              refine r_aload rfl dc_9_8_74 ?_
              refine h_get (t := (12, 0, rl [])) (v := .int (sg 20 (6 * h + m))) fx_9_80 (hC m (by omega)).1 (hC m (by omega)).2.1 (show some (Value.int _) = _ from congrArg (fun z => some (Value.int z)) ((hC m (by omega)).2.2.2.2.2.1)) dc_9_8_76 ?_
              refine r_ior (v := acc ||| (sg 20 (6 * h + m))) (rfl) dc_9_8_79 ?_
              refine r_istore_n (ls' := [(3, .int (acc ||| (sg 20 (6 * h + m)))), (5, .ref (D 3 (6 * h + m))), (4, .int (nI m)), (0, .ref (D 0 h)), (1, .int set), (2, .int lev)]) (by decide) rfl dc_9_8_80 ?_
              refine r_iinc (x := nI m) (v := nI (m + 1)) (ls' := [(4, .int (nI (m + 1))), (3, .int (acc ||| (sg 20 (6 * h + m)))), (5, .ref (D 3 (6 * h + m))), (0, .ref (D 0 h)), (1, .int set), (2, .int lev)]) rfl (nI_1 _) (by decide) rfl dc_9_8_81 ?_
              refine r_goto (t := 5) (by decide) dc_9_8_84 ?_
              refine r_ls [(4, .int (nI (m + 1))), (3, .int (acc ||| (sg 20 (6 * h + m)))), (0, .ref (D 0 h)), (1, .int set), (2, .int lev)] (mm_ndk_of [4, 3, 0, 1, 2] rfl (by decide)) (mm_sub_cons rfl (mm_sub_cons rfl (mm_sub_cons rfl (mm_sub_cons rfl (mm_sub_cons rfl (mm_sub_nil _)))))) ?_
              exact ih_m (acc ||| (sg 20 (6 * h + m))) (⟨by rw [hi_m.1]; show _ = if _ then _ else _; rw [if_neg (sp_bt_1n (pI_ne c_25))], fun j hj => by rcases (by omega : j < m ∨ j = m) with q | rfl; exact hi_m.2 j q; exact Or.inr ⟨c_49, Int32.not_lt.mpr (Int32.not_lt.mp c_58), hi_m.1 ▸ c_68⟩⟩)
            · skip
              refine r_iconst (v := nI 0) (by decide) dc_9_8_71 ?_
              refine r_zret rfl (by decide) dc_9_8_72 ?_
              rw [pI_f (P := sp_can sg h lev set cm) (fun y => (y.1 m h_m).elim (fun z => sp_bt_1n (pI_ne c_25) z) (fun z => c_68 (hi_m.1 ▸ z.2.2)))]
def bc1 (x : Int32) : Int32 := x - ((x.toUInt32 >>> (Int32.toUInt32 (nI 1) &&& Int32.toUInt32 31)).toInt32 &&& nI 1431655765)
def bc2 (x : Int32) : Int32 := (x &&& nI 858993459) + ((x.toUInt32 >>> (Int32.toUInt32 (nI 2) &&& Int32.toUInt32 31)).toInt32 &&& nI 858993459)
def bc3 (x : Int32) : Int32 := (x + (x.toUInt32 >>> (Int32.toUInt32 (nI 4) &&& Int32.toUInt32 31)).toInt32) &&& nI 252645135
def bc4 (x : Int32) : Int32 := x + (x.toUInt32 >>> (Int32.toUInt32 (nI 8) &&& Int32.toUInt32 31)).toInt32
def bc5 (x : Int32) : Int32 := x + (x.toUInt32 >>> (Int32.toUInt32 (nI 16) &&& Int32.toUInt32 31)).toInt32
def bcI (x : Int32) : Int32 := bc5 (bc4 (bc3 (bc2 (bc1 x)))) &&& nI 63
theorem bc_all : (List.range 4096).all (fun n => decide (bcI (nI n) = sp_bits (nI n))) = true := by decide +kernel
theorem bc_eq {x : Int32} {n : Nat} (h : x = nI n) (hn : n < 4096) : bcI x = sp_bits x := by
  subst h
  exact of_decide_eq_true (List.all_eq_true.mp bc_all n (List.mem_range.mpr hn))
theorem and_lt (x : Int32) {n : Nat} (hn : n < 4096) : ∃ m, m < 4096 ∧ x &&& nI n = nI m := by
  refine ⟨(x &&& nI n).toBitVec.toNat, ?_, ?_⟩
  · have h1 : (x &&& nI n).toBitVec.toNat = x.toBitVec.toNat &&& (nI n).toBitVec.toNat := by
      rw [Int32.toBitVec_and, BitVec.toNat_and]
    rw [h1, pk_tn (by omega)]
    exact Nat.lt_of_le_of_lt Nat.and_le_right hn
  · apply Int32.toBitVec_inj.mp
    apply BitVec.eq_of_toNat_eq
    rw [pk_tn (BitVec.isLt _)]
set_option maxHeartbeats 4000000 in
theorem k_bitC (N : mH) (x : Int32) : mm_Ev 1 155 [.int x] (N) ((some (.int (bcI x)), N)) := by
  refine r_ev (by decide +kernel) (show (1 : Nat) ≤ mm_nL 155 by decide +kernel) ?_
  show mm_Ru 0 (26, 1, false, prog_18_method_49_code, some .int) 0 [(0, .int x)] [] (N) (fun r9 => r9 = ((some (.int (bcI x)), N)))
  refine r_iload_n rfl dc_18_49_0 ?_
  refine r_iload_n rfl dc_18_49_1 ?_
  refine r_iconst (v := nI 1) (by decide) dc_18_49_2 ?_
  refine r_iushr (v := (x.toUInt32 >>> ((nI 1).toUInt32 &&& Int32.toUInt32 31)).toInt32) (rfl) dc_18_49_3 ?_
  refine r_ldc_w (v := nI 1431655765) nr_26_265 dc_18_49_4 ?_
  refine r_iand (v := ((x.toUInt32 >>> ((nI 1).toUInt32 &&& Int32.toUInt32 31)).toInt32) &&& (nI 1431655765)) (rfl) dc_18_49_7 ?_
  refine r_isub (v := bc1 (x)) (rfl) dc_18_49_8 ?_
  refine r_istore_n (ls' := [(0, .int (bc1 (x)))]) (by decide) rfl dc_18_49_9 ?_
  refine r_iload_n rfl dc_18_49_10 ?_
  refine r_ldc_w (v := nI 858993459) nr_26_266 dc_18_49_11 ?_
  refine r_iand (v := (bc1 (x)) &&& (nI 858993459)) (rfl) dc_18_49_14 ?_
  refine r_iload_n rfl dc_18_49_15 ?_
  refine r_iconst (v := nI 2) (by decide) dc_18_49_16 ?_
  refine r_iushr (v := ((bc1 (x)).toUInt32 >>> ((nI 2).toUInt32 &&& Int32.toUInt32 31)).toInt32) (rfl) dc_18_49_17 ?_
  refine r_ldc_w (v := nI 858993459) nr_26_266 dc_18_49_18 ?_
  refine r_iand (v := (((bc1 (x)).toUInt32 >>> ((nI 2).toUInt32 &&& Int32.toUInt32 31)).toInt32) &&& (nI 858993459)) (rfl) dc_18_49_21 ?_
  refine r_iadd (v := bc2 (bc1 x)) (rfl) dc_18_49_22 ?_
  refine r_istore_n (ls' := [(0, .int (bc2 (bc1 x)))]) (by decide) rfl dc_18_49_23 ?_
  refine r_iload_n rfl dc_18_49_24 ?_
  refine r_iload_n rfl dc_18_49_25 ?_
  refine r_iconst (v := nI 4) (by decide) dc_18_49_26 ?_
  refine r_iushr (v := ((bc2 (bc1 x)).toUInt32 >>> ((nI 4).toUInt32 &&& Int32.toUInt32 31)).toInt32) (rfl) dc_18_49_27 ?_
  refine r_iadd (v := (bc2 (bc1 x)) + (((bc2 (bc1 x)).toUInt32 >>> ((nI 4).toUInt32 &&& Int32.toUInt32 31)).toInt32)) (rfl) dc_18_49_28 ?_
  refine r_ldc_w (v := nI 252645135) nr_26_267 dc_18_49_29 ?_
  refine r_iand (v := bc3 (bc2 (bc1 x))) (rfl) dc_18_49_32 ?_
  refine r_istore_n (ls' := [(0, .int (bc3 (bc2 (bc1 x))))]) (by decide) rfl dc_18_49_33 ?_
  refine r_iload_n rfl dc_18_49_34 ?_
  refine r_iload_n rfl dc_18_49_35 ?_
  refine r_bipush (v := nI 8) (by decide) dc_18_49_36 ?_
  refine r_iushr (v := ((bc3 (bc2 (bc1 x))).toUInt32 >>> ((nI 8).toUInt32 &&& Int32.toUInt32 31)).toInt32) (rfl) dc_18_49_38 ?_
  refine r_iadd (v := bc4 (bc3 (bc2 (bc1 x)))) (rfl) dc_18_49_39 ?_
  refine r_istore_n (ls' := [(0, .int (bc4 (bc3 (bc2 (bc1 x)))))]) (by decide) rfl dc_18_49_40 ?_
  refine r_iload_n rfl dc_18_49_41 ?_
  refine r_iload_n rfl dc_18_49_42 ?_
  refine r_bipush (v := nI 16) (by decide) dc_18_49_43 ?_
  refine r_iushr (v := ((bc4 (bc3 (bc2 (bc1 x)))).toUInt32 >>> ((nI 16).toUInt32 &&& Int32.toUInt32 31)).toInt32) (rfl) dc_18_49_45 ?_
  refine r_iadd (v := bc5 (bc4 (bc3 (bc2 (bc1 x))))) (rfl) dc_18_49_46 ?_
  refine r_istore_n (ls' := [(0, .int (bc5 (bc4 (bc3 (bc2 (bc1 x))))))]) (by decide) rfl dc_18_49_47 ?_
  refine r_iload_n rfl dc_18_49_48 ?_
  refine r_bipush (v := nI 63) (by decide) dc_18_49_49 ?_
  refine r_iand (v := bcI x) (rfl) dc_18_49_51 ?_
  exact r_iret rfl dc_18_49_52 (rfl)
theorem bet_iff {a b c d : Int32} (P : Prop) (hP : P ↔ (¬ a - b < 0 ∧ (a - b = 0 → c < d))) : P ↔ (0 < a - b ∨ (a - b = 0 ∧ c < d)) := by
  rw [hP]
  constructor
  · rintro ⟨h1, h2⟩
    by_cases h : a - b = 0
    · exact Or.inr ⟨h, h2 h⟩
    · exact Or.inl (Int32.lt_of_le_of_ne (Int32.not_lt.mp h1) (fun q => h q.symm))
  · rintro (h | ⟨h1, h2⟩)
    · exact ⟨Int32.not_lt.mpr (Int32.le_of_lt h), fun q => absurd h (by rw [q]; decide)⟩
    · exact ⟨by rw [h1]; decide, fun _ => h2⟩
set_option maxHeartbeats 4000000 in
theorem k_isBetter (M : mH) (T : Nat → mT) (cs : Nat → Nat → Int32) (sg : Nat → Nat → Int32) (D : Nat → Nat → Nat) (h cm : Nat) (hs : ScR M T cs sg D h cm) (hcm6 : cm ≤ 6) (s nd : Nat) (h55 : sg 55 s = nI nd) (hnd : nd < 4096) (m b : Nat) : mm_Ev 5 153 [.ref (D 0 h), .int (nI m), .int (nI b), .int (sg 55 s)] (hk M T cs) ((some (.int (pI (sp_bet sg s h cm m b))), hk M T cs)) := by
  obtain ⟨hS, hSC, ⟨f0, f1, f2, f3, f4, f5⟩, hL, hC⟩ := id hs
  have hbc : ∀ z : Nat, bcI (sp_tp sg s h (nI z) cm) = sp_bits (sp_tp sg s h (nI z) cm) := fun z => by
    obtain ⟨y, hy, ey⟩ := and_lt (tpF sg h (nI z) cm) hnd
    rw [← h55, tpF_and] at ey
    exact bc_eq ey hy
  refine r_ev (by decide +kernel) (show (4 : Nat) ≤ mm_nL 153 by decide +kernel) ?_
  show mm_Ru 4 (9, 5, false, prog_9_method_9_code, some .boolean) 0 [(0, .ref (D 0 h)), (1, .int (nI m)), (2, .int (nI b)), (3, .int (sg 55 s))] [] (hk M T cs) (fun r9 => r9 = ((some (.int (pI (sp_bet sg s h cm m b))), hk M T cs)))
  refine r_aload_n rfl dc_9_9_0 ?_
  refine r_iload_n rfl dc_9_9_1 ?_
  refine h_callv (t := (9, 0, rl [(6, D 1 h)])) (as := [.int (nI m)]) (rest := []) (v := .int (tpF sg h (nI m) cm)) (M1 := hk M T cs) rfl rfl iv_9_v87 (Or.inl rfl) na_1_154 hS hSC (show (9 : Nat) < 14 by decide) o_154 rfl (show (0 : Nat) ≤ 8 by decide) dc_9_9_2 (k_topicsOf M T cs sg D h cm hs hcm6 (nI m)) ?_
  refine r_iload_n rfl dc_9_9_5 ?_
  refine r_iand (v := sp_tp sg s h (nI m) cm) (tpF_and sg s h (nI m) cm) dc_9_9_6 ?_
  refine h_callS (as := [.int (sp_tp sg s h (nI m) cm)]) (rest := []) (v := .int (sp_bits (sp_tp sg s h (nI m) cm))) rfl rfl iv_9_s90 (Or.inl rfl) na_0_155 rfl (show (0 : Nat) ≤ 8 by decide) dc_9_9_7 (hbc m ▸ mm_Ev_up (by decide : 1 ≤ 4) (k_bitC _ _)) ?_
  refine r_aload_n rfl dc_9_9_10 ?_
  refine r_iload_n rfl dc_9_9_11 ?_
  refine h_callv (t := (9, 0, rl [(6, D 1 h)])) (as := [.int (nI b)]) (rest := [.int (sp_bits (sp_tp sg s h (nI m) cm))]) (v := .int (tpF sg h (nI b) cm)) (M1 := hk M T cs) rfl rfl iv_9_v87 (Or.inl rfl) na_1_154 hS hSC (show (9 : Nat) < 14 by decide) o_154 rfl (show (1 : Nat) ≤ 8 by decide) dc_9_9_12 (k_topicsOf M T cs sg D h cm hs hcm6 (nI b)) ?_
  refine r_iload_n rfl dc_9_9_15 ?_
  refine r_iand (v := sp_tp sg s h (nI b) cm) (tpF_and sg s h (nI b) cm) dc_9_9_16 ?_
  refine h_callS (as := [.int (sp_tp sg s h (nI b) cm)]) (rest := [.int (sp_bits (sp_tp sg s h (nI m) cm))]) (v := .int (sp_bits (sp_tp sg s h (nI b) cm))) rfl rfl iv_9_s90 (Or.inl rfl) na_0_155 rfl (show (1 : Nat) ≤ 8 by decide) dc_9_9_17 (hbc b ▸ mm_Ev_up (by decide : 1 ≤ 4) (k_bitC _ _)) ?_
  refine r_isub (v := (sp_bits (sp_tp sg s h (nI m) cm)) - (sp_bits (sp_tp sg s h (nI b) cm))) (rfl) dc_9_9_20 ?_
  refine r_istore (ls' := [(4, .int ((sp_bits (sp_tp sg s h (nI m) cm)) - (sp_bits (sp_tp sg s h (nI b) cm)))), (0, .ref (D 0 h)), (1, .int (nI m)), (2, .int (nI b)), (3, .int (sg 55 s))]) (by decide) rfl dc_9_9_21 ?_
  refine r_iload rfl dc_9_9_23 ?_
  refine r_ifgt (t := 46) (by decide) dc_9_9_25 (fun c_25 => ?_) (fun c_25 => ?_)
  · skip
    refine r_iconst (v := nI 1) (by decide) dc_9_9_46 ?_
    refine r_goto (t := 51) (by decide) dc_9_9_47 ?_
    refine r_zret rfl (by decide) dc_9_9_51 ?_
    rw [pI_t (P := sp_bet sg s h cm m b) ((bet_iff (sp_bet sg s h cm m b) Iff.rfl).mpr (Or.inl c_25))]
  · skip
    refine r_iload rfl dc_9_9_28 ?_
    refine r_ifne (t := 50) (by decide) dc_9_9_30 (fun c_30 => ?_) (fun c_30 => ?_)
    · skip
      refine r_iconst (v := nI 0) (by decide) dc_9_9_50 ?_
      refine r_zret rfl (by decide) dc_9_9_51 ?_
      rw [pI_f (P := sp_bet sg s h cm m b) (fun z => ((bet_iff (sp_bet sg s h cm m b) Iff.rfl).mp z).elim c_25 (fun y => c_30 y.1))]
    · skip
      refine r_aload_n rfl dc_9_9_33 ?_
      refine r_iload_n rfl dc_9_9_34 ?_
      refine h_callv (t := (9, 0, rl [(6, D 1 h)])) (as := [.int (nI m)]) (rest := []) (v := .int (sp_cr sg h (nI m) cm)) (M1 := hk M T cs) rfl rfl iv_9_v83 (Or.inl rfl) na_1_152 hS hSC (show (9 : Nat) < 14 by decide) o_152 rfl (show (0 : Nat) ≤ 8 by decide) dc_9_9_35 (k_creditsOf M T cs sg D h cm hs hcm6 (nI m)) ?_
      refine r_aload_n rfl dc_9_9_38 ?_
      refine r_iload_n rfl dc_9_9_39 ?_
      refine h_callv (t := (9, 0, rl [(6, D 1 h)])) (as := [.int (nI b)]) (rest := [.int (sp_cr sg h (nI m) cm)]) (v := .int (sp_cr sg h (nI b) cm)) (M1 := hk M T cs) rfl rfl iv_9_v83 (Or.inl rfl) na_1_152 hS hSC (show (9 : Nat) < 14 by decide) o_152 rfl (show (1 : Nat) ≤ 8 by decide) dc_9_9_40 (k_creditsOf M T cs sg D h cm hs hcm6 (nI b)) ?_
      refine r_icge (t := 50) (by decide) dc_9_9_43 (fun c_43 => ?_) (fun c_43 => ?_)
      · skip
        refine r_iconst (v := nI 0) (by decide) dc_9_9_50 ?_
        refine r_zret rfl (by decide) dc_9_9_51 ?_
        rw [pI_f (P := sp_bet sg s h cm m b) (fun z => ((bet_iff (sp_bet sg s h cm m b) Iff.rfl).mp z).elim c_25 (fun y => absurd y.2 (Int32.not_lt.mpr c_43)))]
      · skip
        refine r_iconst (v := nI 1) (by decide) dc_9_9_46 ?_
        refine r_goto (t := 51) (by decide) dc_9_9_47 ?_
        refine r_zret rfl (by decide) dc_9_9_51 ?_
        rw [pI_t (P := sp_bet sg s h cm m b) ((bet_iff (sp_bet sg s h cm m b) Iff.rfl).mpr (Or.inr ⟨c_30, Int32.not_le.mp c_43⟩))]
set_option maxHeartbeats 4000000 in
theorem k_bestSet (M : mH) (T : Nat → mT) (cs : Nat → Nat → Int32) (sg : Nat → Nat → Int32) (D : Nat → Nat → Nat) (h cm : Nat) (hs : ScR M T cs sg D h cm) (hcm6 : cm ≤ 6) (s nd : Nat) (h55 : sg 55 s = nI nd) (hnd : nd < 4096) (lev : Int32) (ne : Nat) (hne : nI 1 <<< (nI cm &&& 31) = nI ne) (hn64 : ne ≤ 64) (hn1 : 1 ≤ ne) : mm_Ev 6 149 [.ref (D 0 h), .int (sg 55 s), .int lev] (hk M T cs) ((some (.int (nI (sp_bst sg s h cm lev ne))), hk M T cs)) := by
  obtain ⟨hS, hSC, ⟨f0, f1, f2, f3, f4, f5⟩, hL, hC⟩ := id hs
  refine r_ev (by decide +kernel) (show (3 : Nat) ≤ mm_nL 149 by decide +kernel) ?_
  show mm_Ru 5 (9, 6, false, prog_9_method_4_code, some .int) 0 [(0, .ref (D 0 h)), (1, .int (sg 55 s)), (2, .int lev)] [] (hk M T cs) (fun r9 => r9 = ((some (.int (nI (sp_bst sg s h cm lev ne))), hk M T cs)))
  refine r_iconst (v := nI 0) (by decide) dc_9_4_0 ?_
  refine r_istore_n (ls' := [(3, .int (nI 0)), (0, .ref (D 0 h)), (1, .int (sg 55 s)), (2, .int lev)]) (by decide) rfl dc_9_4_1 ?_
  refine r_iconst (v := nI 1) (by decide) dc_9_4_2 ?_
  refine r_aload_n rfl dc_9_4_3 ?_
  refine h_get (t := (9, 0, rl [(6, D 1 h)])) (v := .ref (D 1 h)) fx_9_10 hS hSC (rfl) dc_9_4_4 ?_
  refine h_callv (t := (6, 0, rl [(0, D 2 h)])) (as := []) (rest := [.int (nI 1)]) (v := .int (nI cm)) (M1 := hk M T cs) rfl rfl iv_9_f39 (Or.inr (Or.inr rfl)) na_6_26 hL.1 hL.2.1 (show (6 : Nat) < 14 by decide) o_26 rfl (show (1 : Nat) ≤ 8 by decide) dc_9_4_7 (mm_Ev_up (by decide : 1 ≤ 5) (k_sizeL hL)) ?_
  refine r_bipush (v := nI 6) (by decide) dc_9_4_12 ?_
  refine h_callS (as := [.int (nI cm), .int (nI 6)]) (rest := [.int (nI 1)]) (v := .int (nI cm)) rfl rfl iv_9_s44 (Or.inl rfl) na_0_37 rfl (show (1 : Nat) ≤ 8 by decide) dc_9_4_14 (mm_Ev_up (by decide : 1 ≤ 5) ((show mn (nI cm) (nI 6) = nI cm by rw [mn_n (by omega) (by omega), Nat.min_eq_left hcm6]) ▸ k_min _ (nI cm) (nI 6))) ?_
  refine r_ishl (v := nI ne) (hne) dc_9_4_17 ?_
  refine r_istore (ls' := [(4, .int (nI ne)), (3, .int (nI 0)), (0, .ref (D 0 h)), (1, .int (sg 55 s)), (2, .int lev)]) (by decide) rfl dc_9_4_18 ?_
  refine r_iconst (v := nI 1) (by decide) dc_9_4_20 ?_
  refine r_istore (ls' := [(5, .int (nI 1)), (4, .int (nI ne)), (3, .int (nI 0)), (0, .ref (D 0 h)), (1, .int (sg 55 s)), (2, .int lev)]) (by decide) rfl dc_9_4_21 ?_
  refine r_ls [(5, .int (nI 1)), (3, .int (nI 0)), (0, .ref (D 0 h)), (1, .int (sg 55 s)), (2, .int lev), (4, .int (nI ne))] (mm_ndk_of [5, 3, 0, 1, 2, 4] rfl (by decide)) (mm_sub_cons rfl (mm_sub_cons rfl (mm_sub_cons rfl (mm_sub_cons rfl (mm_sub_cons rfl (mm_sub_cons rfl (mm_sub_nil _))))))) ?_
  rw [show (nI 0) = nI (sp_bst sg s h cm lev 1) from congrArg nI (if_neg (fun z => absurd z.1 (by decide))).symm]
  refine mm_cnt (P := fun m => (1 ≤ m) → mm_Ru 5 (9, 6, false, prog_9_method_4_code, some .int) 23 [(5, .int (nI m)), (3, .int (nI (sp_bst sg s h cm lev m))), (0, .ref (D 0 h)), (1, .int (sg 55 s)), (2, .int lev), (4, .int (nI ne))] [] (hk M T cs) (fun r9 => r9 = ((some (.int (nI (sp_bst sg s h cm lev ne))), hk M T cs)))) ne ?_ ?_ 1 (by omega) (Nat.le_refl 1)
  · intro  hi_m
    show mm_Ru 5 (9, 6, false, prog_9_method_4_code, some .int) 23 [(5, .int (nI ne)), (3, .int (nI (sp_bst sg s h cm lev ne))), (0, .ref (D 0 h)), (1, .int (sg 55 s)), (2, .int lev), (4, .int (nI ne))] [] (hk M T cs) (fun r9 => r9 = ((some (.int (nI (sp_bst sg s h cm lev ne))), hk M T cs)))
    refine r_iload rfl dc_9_4_23 ?_
    refine r_iload rfl dc_9_4_25 ?_
    refine r_ncge (t := 60) (by omega) (by omega) (by decide) dc_9_4_27 (fun c_27 => ?_) (fun c_27 => ?_)
    · skip
      refine r_iload_n rfl dc_9_4_60 ?_
      exact r_iret rfl dc_9_4_61 (rfl)
    · omega
  · intro m h_m ih_m  hi_m
    show mm_Ru 5 (9, 6, false, prog_9_method_4_code, some .int) 23 [(5, .int (nI m)), (3, .int (nI (sp_bst sg s h cm lev m))), (0, .ref (D 0 h)), (1, .int (sg 55 s)), (2, .int lev), (4, .int (nI ne))] [] (hk M T cs) (fun r9 => r9 = ((some (.int (nI (sp_bst sg s h cm lev ne))), hk M T cs)))
    refine r_iload rfl dc_9_4_23 ?_
    refine r_iload rfl dc_9_4_25 ?_
    refine r_ncge (t := 60) (by omega) (by omega) (by decide) dc_9_4_27 (fun c_27 => ?_) (fun c_27 => ?_)
    · omega
    · skip
      refine r_aload_n rfl dc_9_4_30 ?_
      refine r_iload rfl dc_9_4_31 ?_
      refine r_iload_n rfl dc_9_4_33 ?_
      refine h_callv (t := (9, 0, rl [(6, D 1 h)])) (as := [.int (nI m), .int lev]) (rest := []) (v := .int (pI (sp_can sg h lev (nI m) cm))) (M1 := hk M T cs) rfl rfl iv_9_v50 (Or.inl rfl) na_1_150 hS hSC (show (9 : Nat) < 14 by decide) o_150 rfl (show (0 : Nat) ≤ 8 by decide) dc_9_4_34 (k_canBe M T cs sg D h cm hs hcm6 (nI m) lev) ?_
      refine r_ifeq (t := 54) (by decide) dc_9_4_37 (fun c_37 => ?_) (fun c_37 => ?_)
      · skip
        refine r_iinc (x := nI m) (v := nI (m + 1)) (ls' := [(5, .int (nI (m + 1))), (3, .int (nI (sp_bst sg s h cm lev m))), (0, .ref (D 0 h)), (1, .int (sg 55 s)), (2, .int lev), (4, .int (nI ne))]) rfl (nI_1 _) (by decide) rfl dc_9_4_54 ?_
        refine r_goto (t := 23) (by decide) dc_9_4_57 ?_
        have e9 : sp_bst sg s h cm lev (m + 1) = sp_bst sg s h cm lev m := if_neg (fun z => pI_eq0 c_37 z.2.1)
        rw [e9] at ih_m
        exact ih_m (by omega)
      · skip
        refine r_aload_n rfl dc_9_4_40 ?_
        refine r_iload rfl dc_9_4_41 ?_
        refine r_iload_n rfl dc_9_4_43 ?_
        refine r_iload_n rfl dc_9_4_44 ?_
        refine h_callv (t := (9, 0, rl [(6, D 1 h)])) (as := [.int (nI m), .int (nI (sp_bst sg s h cm lev m)), .int (sg 55 s)]) (rest := []) (v := .int (pI (sp_bet sg s h cm m (sp_bst sg s h cm lev m)))) (M1 := hk M T cs) rfl rfl iv_9_v54 (Or.inl rfl) na_1_153 hS hSC (show (9 : Nat) < 14 by decide) o_153 rfl (show (0 : Nat) ≤ 8 by decide) dc_9_4_45 (k_isBetter M T cs sg D h cm hs hcm6 s nd h55 hnd m (sp_bst sg s h cm lev m)) ?_
        refine r_ifeq (t := 54) (by decide) dc_9_4_48 (fun c_48 => ?_) (fun c_48 => ?_)
        · skip
          refine r_iinc (x := nI m) (v := nI (m + 1)) (ls' := [(5, .int (nI (m + 1))), (3, .int (nI (sp_bst sg s h cm lev m))), (0, .ref (D 0 h)), (1, .int (sg 55 s)), (2, .int lev), (4, .int (nI ne))]) rfl (nI_1 _) (by decide) rfl dc_9_4_54 ?_
          refine r_goto (t := 23) (by decide) dc_9_4_57 ?_
          have e9 : sp_bst sg s h cm lev (m + 1) = sp_bst sg s h cm lev m := if_neg (fun z => pI_eq0 c_48 z.2.2)
          rw [e9] at ih_m
          exact ih_m (by omega)
        · skip
          refine r_iload rfl dc_9_4_51 ?_
          refine r_istore_n (ls' := [(3, .int (nI m)), (5, .int (nI m)), (0, .ref (D 0 h)), (1, .int (sg 55 s)), (2, .int lev), (4, .int (nI ne))]) (by decide) rfl dc_9_4_53 ?_
          refine r_iinc (x := nI m) (v := nI (m + 1)) (ls' := [(5, .int (nI (m + 1))), (3, .int (nI m)), (0, .ref (D 0 h)), (1, .int (sg 55 s)), (2, .int lev), (4, .int (nI ne))]) rfl (nI_1 _) (by decide) rfl dc_9_4_54 ?_
          refine r_goto (t := 23) (by decide) dc_9_4_57 ?_
          have e9 : sp_bst sg s h cm lev (m + 1) = m := if_pos ⟨hi_m, pI_ne c_37, pI_ne c_48⟩
          rw [e9] at ih_m
          exact ih_m (by omega)
