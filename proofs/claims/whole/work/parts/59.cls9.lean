/-! bounds, pieces of plans -/
theorem dc_3_2_0 : decode prog_3_method_2_code 0 = .ok (.aload_n 0, 1) := by decide +kernel
theorem dc_3_2_1 : decode prog_3_method_2_code 1 = .ok (.getfield 9, 3) := by decide +kernel
theorem dc_3_2_4 : decode prog_3_method_2_code 4 = .ok (.sipush 1000, 3) := by decide +kernel
theorem dc_3_2_7 : decode prog_3_method_2_code 7 = .ok (.invokestatic 33, 3) := by decide +kernel
theorem dc_3_2_10 : decode prog_3_method_2_code 10 = .ok (.aload_n 0, 1) := by decide +kernel
theorem dc_3_2_11 : decode prog_3_method_2_code 11 = .ok (.getfield 15, 3) := by decide +kernel
theorem dc_3_2_14 : decode prog_3_method_2_code 14 = .ok (.sipush 1000, 3) := by decide +kernel
theorem dc_3_2_17 : decode prog_3_method_2_code 17 = .ok (.invokestatic 33, 3) := by decide +kernel
theorem dc_3_2_20 : decode prog_3_method_2_code 20 = .ok (.aload_n 0, 1) := by decide +kernel
theorem dc_3_2_21 : decode prog_3_method_2_code 21 = .ok (.getfield 18, 3) := by decide +kernel
theorem dc_3_2_24 : decode prog_3_method_2_code 24 = .ok (.sipush 1000, 3) := by decide +kernel
theorem dc_3_2_27 : decode prog_3_method_2_code 27 = .ok (.invokestatic 33, 3) := by decide +kernel
theorem dc_3_2_30 : decode prog_3_method_2_code 30 = .ok (.aload_n 0, 1) := by decide +kernel
theorem dc_3_2_31 : decode prog_3_method_2_code 31 = .ok (.getfield 21, 3) := by decide +kernel
theorem dc_3_2_34 : decode prog_3_method_2_code 34 = .ok (.iconst 0, 1) := by decide +kernel
theorem dc_3_2_35 : decode prog_3_method_2_code 35 = .ok (.invokestatic 33, 3) := by decide +kernel
theorem dc_3_2_38 : decode prog_3_method_2_code 38 = .ok (.aload_n 0, 1) := by decide +kernel
theorem dc_3_2_39 : decode prog_3_method_2_code 39 = .ok (.getfield 24, 3) := by decide +kernel
theorem dc_3_2_42 : decode prog_3_method_2_code 42 = .ok (.iconst 0, 1) := by decide +kernel
theorem dc_3_2_43 : decode prog_3_method_2_code 43 = .ok (.invokestatic 33, 3) := by decide +kernel
theorem dc_3_2_46 : decode prog_3_method_2_code 46 = .ok (.aload_n 0, 1) := by decide +kernel
theorem dc_3_2_47 : decode prog_3_method_2_code 47 = .ok (.getfield 27, 3) := by decide +kernel
theorem dc_3_2_50 : decode prog_3_method_2_code 50 = .ok (.iconst 0, 1) := by decide +kernel
theorem dc_3_2_51 : decode prog_3_method_2_code 51 = .ok (.invokestatic 33, 3) := by decide +kernel
theorem dc_3_2_54 : decode prog_3_method_2_code 54 = .ok (.aload_n 0, 1) := by decide +kernel
theorem dc_3_2_55 : decode prog_3_method_2_code 55 = .ok (.getfield 30, 3) := by decide +kernel
theorem dc_3_2_58 : decode prog_3_method_2_code 58 = .ok (.iconst 0, 1) := by decide +kernel
theorem dc_3_2_59 : decode prog_3_method_2_code 59 = .ok (.invokestatic 33, 3) := by decide +kernel
theorem dc_3_2_62 : decode prog_3_method_2_code 62 = .ok (.return_, 1) := by decide +kernel
theorem dc_3_3_0 : decode prog_3_method_3_code 0 = .ok (.iload_n 1, 1) := by decide +kernel
theorem dc_3_3_1 : decode prog_3_method_3_code 1 = .ok (.ifCond .lt 16, 3) := by decide +kernel
theorem dc_3_3_4 : decode prog_3_method_3_code 4 = .ok (.iload_n 1, 1) := by decide +kernel
theorem dc_3_3_5 : decode prog_3_method_3_code 5 = .ok (.bipush 8, 2) := by decide +kernel
theorem dc_3_3_7 : decode prog_3_method_3_code 7 = .ok (.if_icmp .ge 10, 3) := by decide +kernel
theorem dc_3_3_10 : decode prog_3_method_3_code 10 = .ok (.aload_n 0, 1) := by decide +kernel
theorem dc_3_3_11 : decode prog_3_method_3_code 11 = .ok (.getfield 18, 3) := by decide +kernel
theorem dc_3_3_14 : decode prog_3_method_3_code 14 = .ok (.iload_n 1, 1) := by decide +kernel
theorem dc_3_3_15 : decode prog_3_method_3_code 15 = .ok (.iload_n 2, 1) := by decide +kernel
theorem dc_3_3_16 : decode prog_3_method_3_code 16 = .ok (.iastore, 1) := by decide +kernel
theorem dc_3_3_17 : decode prog_3_method_3_code 17 = .ok (.return_, 1) := by decide +kernel
theorem dc_3_4_0 : decode prog_3_method_4_code 0 = .ok (.iload_n 1, 1) := by decide +kernel
theorem dc_3_4_1 : decode prog_3_method_4_code 1 = .ok (.ifCond .lt 23, 3) := by decide +kernel
theorem dc_3_4_4 : decode prog_3_method_4_code 4 = .ok (.iload_n 1, 1) := by decide +kernel
theorem dc_3_4_5 : decode prog_3_method_4_code 5 = .ok (.bipush 12, 2) := by decide +kernel
theorem dc_3_4_7 : decode prog_3_method_4_code 7 = .ok (.if_icmp .ge 17, 3) := by decide +kernel
theorem dc_3_4_10 : decode prog_3_method_4_code 10 = .ok (.aload_n 0, 1) := by decide +kernel
theorem dc_3_4_11 : decode prog_3_method_4_code 11 = .ok (.getfield 9, 3) := by decide +kernel
theorem dc_3_4_14 : decode prog_3_method_4_code 14 = .ok (.iload_n 1, 1) := by decide +kernel
theorem dc_3_4_15 : decode prog_3_method_4_code 15 = .ok (.iload_n 2, 1) := by decide +kernel
theorem dc_3_4_16 : decode prog_3_method_4_code 16 = .ok (.iastore, 1) := by decide +kernel
theorem dc_3_4_17 : decode prog_3_method_4_code 17 = .ok (.aload_n 0, 1) := by decide +kernel
theorem dc_3_4_18 : decode prog_3_method_4_code 18 = .ok (.getfield 15, 3) := by decide +kernel
theorem dc_3_4_21 : decode prog_3_method_4_code 21 = .ok (.iload_n 1, 1) := by decide +kernel
theorem dc_3_4_22 : decode prog_3_method_4_code 22 = .ok (.iload_n 3, 1) := by decide +kernel
theorem dc_3_4_23 : decode prog_3_method_4_code 23 = .ok (.iastore, 1) := by decide +kernel
theorem dc_3_4_24 : decode prog_3_method_4_code 24 = .ok (.return_, 1) := by decide +kernel
theorem dc_3_5_0 : decode prog_3_method_5_code 0 = .ok (.iload_n 1, 1) := by decide +kernel
theorem dc_3_5_1 : decode prog_3_method_5_code 1 = .ok (.ifCond .lt 19, 3) := by decide +kernel
theorem dc_3_5_4 : decode prog_3_method_5_code 4 = .ok (.iload_n 1, 1) := by decide +kernel
theorem dc_3_5_5 : decode prog_3_method_5_code 5 = .ok (.bipush 12, 2) := by decide +kernel
theorem dc_3_5_7 : decode prog_3_method_5_code 7 = .ok (.if_icmp .ge 13, 3) := by decide +kernel
theorem dc_3_5_10 : decode prog_3_method_5_code 10 = .ok (.iload_n 2, 1) := by decide +kernel
theorem dc_3_5_11 : decode prog_3_method_5_code 11 = .ok (.ifCond .lt 9, 3) := by decide +kernel
theorem dc_3_5_14 : decode prog_3_method_5_code 14 = .ok (.iload_n 2, 1) := by decide +kernel
theorem dc_3_5_15 : decode prog_3_method_5_code 15 = .ok (.bipush 8, 2) := by decide +kernel
theorem dc_3_5_17 : decode prog_3_method_5_code 17 = .ok (.if_icmp .lt 4, 3) := by decide +kernel
theorem dc_3_5_20 : decode prog_3_method_5_code 20 = .ok (.return_, 1) := by decide +kernel
theorem dc_3_5_21 : decode prog_3_method_5_code 21 = .ok (.aload_n 0, 1) := by decide +kernel
theorem dc_3_5_22 : decode prog_3_method_5_code 22 = .ok (.getfield 30, 3) := by decide +kernel
theorem dc_3_5_25 : decode prog_3_method_5_code 25 = .ok (.iload_n 2, 1) := by decide +kernel
theorem dc_3_5_26 : decode prog_3_method_5_code 26 = .ok (.dup2, 1) := by decide +kernel
theorem dc_3_5_27 : decode prog_3_method_5_code 27 = .ok (.iaload, 1) := by decide +kernel
theorem dc_3_5_28 : decode prog_3_method_5_code 28 = .ok (.iload 4, 2) := by decide +kernel
theorem dc_3_5_30 : decode prog_3_method_5_code 30 = .ok (.iadd, 1) := by decide +kernel
theorem dc_3_5_31 : decode prog_3_method_5_code 31 = .ok (.iastore, 1) := by decide +kernel
theorem dc_3_5_32 : decode prog_3_method_5_code 32 = .ok (.iload_n 3, 1) := by decide +kernel
theorem dc_3_5_33 : decode prog_3_method_5_code 33 = .ok (.ifCond .le 17, 3) := by decide +kernel
theorem dc_3_5_36 : decode prog_3_method_5_code 36 = .ok (.aload_n 0, 1) := by decide +kernel
theorem dc_3_5_37 : decode prog_3_method_5_code 37 = .ok (.getfield 21, 3) := by decide +kernel
theorem dc_3_5_40 : decode prog_3_method_5_code 40 = .ok (.iload_n 1, 1) := by decide +kernel
theorem dc_3_5_41 : decode prog_3_method_5_code 41 = .ok (.dup2, 1) := by decide +kernel
theorem dc_3_5_42 : decode prog_3_method_5_code 42 = .ok (.iaload, 1) := by decide +kernel
theorem dc_3_5_43 : decode prog_3_method_5_code 43 = .ok (.iload 4, 2) := by decide +kernel
theorem dc_3_5_45 : decode prog_3_method_5_code 45 = .ok (.iadd, 1) := by decide +kernel
theorem dc_3_5_46 : decode prog_3_method_5_code 46 = .ok (.iastore, 1) := by decide +kernel
theorem dc_3_5_47 : decode prog_3_method_5_code 47 = .ok (.goto 14, 3) := by decide +kernel
theorem dc_3_5_50 : decode prog_3_method_5_code 50 = .ok (.aload_n 0, 1) := by decide +kernel
theorem dc_3_5_51 : decode prog_3_method_5_code 51 = .ok (.getfield 24, 3) := by decide +kernel
theorem dc_3_5_54 : decode prog_3_method_5_code 54 = .ok (.iload_n 1, 1) := by decide +kernel
theorem dc_3_5_55 : decode prog_3_method_5_code 55 = .ok (.dup2, 1) := by decide +kernel
theorem dc_3_5_56 : decode prog_3_method_5_code 56 = .ok (.iaload, 1) := by decide +kernel
theorem dc_3_5_57 : decode prog_3_method_5_code 57 = .ok (.iload 4, 2) := by decide +kernel
theorem dc_3_5_59 : decode prog_3_method_5_code 59 = .ok (.iadd, 1) := by decide +kernel
theorem dc_3_5_60 : decode prog_3_method_5_code 60 = .ok (.iastore, 1) := by decide +kernel
theorem dc_3_5_61 : decode prog_3_method_5_code 61 = .ok (.aload_n 0, 1) := by decide +kernel
theorem dc_3_5_62 : decode prog_3_method_5_code 62 = .ok (.getfield 27, 3) := by decide +kernel
theorem dc_3_5_65 : decode prog_3_method_5_code 65 = .ok (.iload_n 1, 1) := by decide +kernel
theorem dc_3_5_66 : decode prog_3_method_5_code 66 = .ok (.dup2, 1) := by decide +kernel
theorem dc_3_5_67 : decode prog_3_method_5_code 67 = .ok (.iaload, 1) := by decide +kernel
theorem dc_3_5_68 : decode prog_3_method_5_code 68 = .ok (.iload_n 3, 1) := by decide +kernel
theorem dc_3_5_69 : decode prog_3_method_5_code 69 = .ok (.iload 4, 2) := by decide +kernel
theorem dc_3_5_71 : decode prog_3_method_5_code 71 = .ok (.imul, 1) := by decide +kernel
theorem dc_3_5_72 : decode prog_3_method_5_code 72 = .ok (.iadd, 1) := by decide +kernel
theorem dc_3_5_73 : decode prog_3_method_5_code 73 = .ok (.iastore, 1) := by decide +kernel
theorem dc_3_5_74 : decode prog_3_method_5_code 74 = .ok (.return_, 1) := by decide +kernel
theorem dc_3_6_0 : decode prog_3_method_6_code 0 = .ok (.iload_n 1, 1) := by decide +kernel
theorem dc_3_6_1 : decode prog_3_method_6_code 1 = .ok (.ifCond .lt 21, 3) := by decide +kernel
theorem dc_3_6_4 : decode prog_3_method_6_code 4 = .ok (.iload_n 1, 1) := by decide +kernel
theorem dc_3_6_5 : decode prog_3_method_6_code 5 = .ok (.bipush 12, 2) := by decide +kernel
theorem dc_3_6_7 : decode prog_3_method_6_code 7 = .ok (.if_icmp .ge 15, 3) := by decide +kernel
theorem dc_3_6_10 : decode prog_3_method_6_code 10 = .ok (.aload_n 0, 1) := by decide +kernel
theorem dc_3_6_11 : decode prog_3_method_6_code 11 = .ok (.getfield 27, 3) := by decide +kernel
theorem dc_3_6_14 : decode prog_3_method_6_code 14 = .ok (.iload_n 1, 1) := by decide +kernel
theorem dc_3_6_15 : decode prog_3_method_6_code 15 = .ok (.dup2, 1) := by decide +kernel
theorem dc_3_6_16 : decode prog_3_method_6_code 16 = .ok (.iaload, 1) := by decide +kernel
theorem dc_3_6_17 : decode prog_3_method_6_code 17 = .ok (.iload_n 2, 1) := by decide +kernel
theorem dc_3_6_18 : decode prog_3_method_6_code 18 = .ok (.iload_n 3, 1) := by decide +kernel
theorem dc_3_6_19 : decode prog_3_method_6_code 19 = .ok (.imul, 1) := by decide +kernel
theorem dc_3_6_20 : decode prog_3_method_6_code 20 = .ok (.iadd, 1) := by decide +kernel
theorem dc_3_6_21 : decode prog_3_method_6_code 21 = .ok (.iastore, 1) := by decide +kernel
theorem dc_3_6_22 : decode prog_3_method_6_code 22 = .ok (.return_, 1) := by decide +kernel
theorem dc_3_7_0 : decode prog_3_method_7_code 0 = .ok (.iload_n 1, 1) := by decide +kernel
theorem dc_3_7_1 : decode prog_3_method_7_code 1 = .ok (.ifCond .lt 19, 3) := by decide +kernel
theorem dc_3_7_4 : decode prog_3_method_7_code 4 = .ok (.iload_n 1, 1) := by decide +kernel
theorem dc_3_7_5 : decode prog_3_method_7_code 5 = .ok (.bipush 12, 2) := by decide +kernel
theorem dc_3_7_7 : decode prog_3_method_7_code 7 = .ok (.if_icmp .ge 13, 3) := by decide +kernel
theorem dc_3_7_10 : decode prog_3_method_7_code 10 = .ok (.iload_n 2, 1) := by decide +kernel
theorem dc_3_7_11 : decode prog_3_method_7_code 11 = .ok (.ifCond .lt 9, 3) := by decide +kernel
theorem dc_3_7_14 : decode prog_3_method_7_code 14 = .ok (.iload_n 2, 1) := by decide +kernel
theorem dc_3_7_15 : decode prog_3_method_7_code 15 = .ok (.bipush 8, 2) := by decide +kernel
theorem dc_3_7_17 : decode prog_3_method_7_code 17 = .ok (.if_icmp .lt 5, 3) := by decide +kernel
theorem dc_3_7_22 : decode prog_3_method_7_code 22 = .ok (.iload_n 3, 1) := by decide +kernel
theorem dc_3_7_23 : decode prog_3_method_7_code 23 = .ok (.ifCond .le 12, 3) := by decide +kernel
theorem dc_3_7_26 : decode prog_3_method_7_code 26 = .ok (.aload_n 0, 1) := by decide +kernel
theorem dc_3_7_27 : decode prog_3_method_7_code 27 = .ok (.getfield 21, 3) := by decide +kernel
theorem dc_3_7_30 : decode prog_3_method_7_code 30 = .ok (.iload_n 1, 1) := by decide +kernel
theorem dc_3_7_31 : decode prog_3_method_7_code 31 = .ok (.iaload, 1) := by decide +kernel
theorem dc_3_7_32 : decode prog_3_method_7_code 32 = .ok (.goto 9, 3) := by decide +kernel
theorem dc_3_7_35 : decode prog_3_method_7_code 35 = .ok (.aload_n 0, 1) := by decide +kernel
theorem dc_3_7_36 : decode prog_3_method_7_code 36 = .ok (.getfield 24, 3) := by decide +kernel
theorem dc_3_7_39 : decode prog_3_method_7_code 39 = .ok (.iload_n 1, 1) := by decide +kernel
theorem dc_3_7_40 : decode prog_3_method_7_code 40 = .ok (.iaload, 1) := by decide +kernel
theorem dc_3_7_41 : decode prog_3_method_7_code 41 = .ok (.istore 4, 2) := by decide +kernel
theorem dc_3_7_43 : decode prog_3_method_7_code 43 = .ok (.iload 4, 2) := by decide +kernel
theorem dc_3_7_45 : decode prog_3_method_7_code 45 = .ok (.aload_n 0, 1) := by decide +kernel
theorem dc_3_7_46 : decode prog_3_method_7_code 46 = .ok (.getfield 9, 3) := by decide +kernel
theorem dc_3_7_49 : decode prog_3_method_7_code 49 = .ok (.iload_n 1, 1) := by decide +kernel
theorem dc_3_7_50 : decode prog_3_method_7_code 50 = .ok (.iaload, 1) := by decide +kernel
theorem dc_3_7_51 : decode prog_3_method_7_code 51 = .ok (.if_icmp .ge 22, 3) := by decide +kernel
theorem dc_3_7_54 : decode prog_3_method_7_code 54 = .ok (.aload_n 0, 1) := by decide +kernel
theorem dc_3_7_55 : decode prog_3_method_7_code 55 = .ok (.getfield 30, 3) := by decide +kernel
theorem dc_3_7_58 : decode prog_3_method_7_code 58 = .ok (.iload_n 2, 1) := by decide +kernel
theorem dc_3_7_59 : decode prog_3_method_7_code 59 = .ok (.iaload, 1) := by decide +kernel
theorem dc_3_7_60 : decode prog_3_method_7_code 60 = .ok (.aload_n 0, 1) := by decide +kernel
theorem dc_3_7_61 : decode prog_3_method_7_code 61 = .ok (.getfield 18, 3) := by decide +kernel
theorem dc_3_7_64 : decode prog_3_method_7_code 64 = .ok (.iload_n 2, 1) := by decide +kernel
theorem dc_3_7_65 : decode prog_3_method_7_code 65 = .ok (.iaload, 1) := by decide +kernel
theorem dc_3_7_66 : decode prog_3_method_7_code 66 = .ok (.if_icmp .ge 7, 3) := by decide +kernel
theorem dc_3_7_69 : decode prog_3_method_7_code 69 = .ok (.iconst 1, 1) := by decide +kernel
theorem dc_3_7_70 : decode prog_3_method_7_code 70 = .ok (.goto 4, 3) := by decide +kernel
theorem dc_3_7_73 : decode prog_3_method_7_code 73 = .ok (.iconst 0, 1) := by decide +kernel
theorem dc_3_7_74 : decode prog_3_method_7_code 74 = .ok (.ireturn, 1) := by decide +kernel
theorem dc_3_8_0 : decode prog_3_method_8_code 0 = .ok (.iconst 0, 1) := by decide +kernel
theorem dc_3_8_1 : decode prog_3_method_8_code 1 = .ok (.istore_n 1, 1) := by decide +kernel
theorem dc_3_8_2 : decode prog_3_method_8_code 2 = .ok (.iload_n 1, 1) := by decide +kernel
theorem dc_3_8_3 : decode prog_3_method_8_code 3 = .ok (.bipush 8, 2) := by decide +kernel
theorem dc_3_8_5 : decode prog_3_method_8_code 5 = .ok (.if_icmp .ge 26, 3) := by decide +kernel
theorem dc_3_8_8 : decode prog_3_method_8_code 8 = .ok (.aload_n 0, 1) := by decide +kernel
theorem dc_3_8_9 : decode prog_3_method_8_code 9 = .ok (.getfield 30, 3) := by decide +kernel
theorem dc_3_8_12 : decode prog_3_method_8_code 12 = .ok (.iload_n 1, 1) := by decide +kernel
theorem dc_3_8_13 : decode prog_3_method_8_code 13 = .ok (.iaload, 1) := by decide +kernel
theorem dc_3_8_14 : decode prog_3_method_8_code 14 = .ok (.aload_n 0, 1) := by decide +kernel
theorem dc_3_8_15 : decode prog_3_method_8_code 15 = .ok (.getfield 18, 3) := by decide +kernel
theorem dc_3_8_18 : decode prog_3_method_8_code 18 = .ok (.iload_n 1, 1) := by decide +kernel
theorem dc_3_8_19 : decode prog_3_method_8_code 19 = .ok (.iaload, 1) := by decide +kernel
theorem dc_3_8_20 : decode prog_3_method_8_code 20 = .ok (.if_icmp .le 5, 3) := by decide +kernel
theorem dc_3_8_23 : decode prog_3_method_8_code 23 = .ok (.iconst 0, 1) := by decide +kernel
theorem dc_3_8_24 : decode prog_3_method_8_code 24 = .ok (.ireturn, 1) := by decide +kernel
theorem dc_3_8_25 : decode prog_3_method_8_code 25 = .ok (.iinc 1 1, 3) := by decide +kernel
theorem dc_3_8_28 : decode prog_3_method_8_code 28 = .ok (.goto (-26), 3) := by decide +kernel
theorem dc_3_8_31 : decode prog_3_method_8_code 31 = .ok (.iconst 0, 1) := by decide +kernel
theorem dc_3_8_32 : decode prog_3_method_8_code 32 = .ok (.istore_n 1, 1) := by decide +kernel
theorem dc_3_8_33 : decode prog_3_method_8_code 33 = .ok (.iload_n 1, 1) := by decide +kernel
theorem dc_3_8_34 : decode prog_3_method_8_code 34 = .ok (.bipush 12, 2) := by decide +kernel
theorem dc_3_8_36 : decode prog_3_method_8_code 36 = .ok (.if_icmp .ge 41, 3) := by decide +kernel
theorem dc_3_8_39 : decode prog_3_method_8_code 39 = .ok (.aload_n 0, 1) := by decide +kernel
theorem dc_3_8_40 : decode prog_3_method_8_code 40 = .ok (.getfield 21, 3) := by decide +kernel
theorem dc_3_8_43 : decode prog_3_method_8_code 43 = .ok (.iload_n 1, 1) := by decide +kernel
theorem dc_3_8_44 : decode prog_3_method_8_code 44 = .ok (.iaload, 1) := by decide +kernel
theorem dc_3_8_45 : decode prog_3_method_8_code 45 = .ok (.aload_n 0, 1) := by decide +kernel
theorem dc_3_8_46 : decode prog_3_method_8_code 46 = .ok (.getfield 9, 3) := by decide +kernel
theorem dc_3_8_49 : decode prog_3_method_8_code 49 = .ok (.iload_n 1, 1) := by decide +kernel
theorem dc_3_8_50 : decode prog_3_method_8_code 50 = .ok (.iaload, 1) := by decide +kernel
theorem dc_3_8_51 : decode prog_3_method_8_code 51 = .ok (.if_icmp .gt 18, 3) := by decide +kernel
theorem dc_3_8_54 : decode prog_3_method_8_code 54 = .ok (.aload_n 0, 1) := by decide +kernel
theorem dc_3_8_55 : decode prog_3_method_8_code 55 = .ok (.getfield 24, 3) := by decide +kernel
theorem dc_3_8_58 : decode prog_3_method_8_code 58 = .ok (.iload_n 1, 1) := by decide +kernel
theorem dc_3_8_59 : decode prog_3_method_8_code 59 = .ok (.iaload, 1) := by decide +kernel
theorem dc_3_8_60 : decode prog_3_method_8_code 60 = .ok (.aload_n 0, 1) := by decide +kernel
theorem dc_3_8_61 : decode prog_3_method_8_code 61 = .ok (.getfield 9, 3) := by decide +kernel
theorem dc_3_8_64 : decode prog_3_method_8_code 64 = .ok (.iload_n 1, 1) := by decide +kernel
theorem dc_3_8_65 : decode prog_3_method_8_code 65 = .ok (.iaload, 1) := by decide +kernel
theorem dc_3_8_66 : decode prog_3_method_8_code 66 = .ok (.if_icmp .le 5, 3) := by decide +kernel
theorem dc_3_8_69 : decode prog_3_method_8_code 69 = .ok (.iconst 0, 1) := by decide +kernel
theorem dc_3_8_70 : decode prog_3_method_8_code 70 = .ok (.ireturn, 1) := by decide +kernel
theorem dc_3_8_71 : decode prog_3_method_8_code 71 = .ok (.iinc 1 1, 3) := by decide +kernel
theorem dc_3_8_74 : decode prog_3_method_8_code 74 = .ok (.goto (-41), 3) := by decide +kernel
theorem dc_3_8_77 : decode prog_3_method_8_code 77 = .ok (.iconst 1, 1) := by decide +kernel
theorem dc_3_8_78 : decode prog_3_method_8_code 78 = .ok (.ireturn, 1) := by decide +kernel
theorem dc_3_9_0 : decode prog_3_method_9_code 0 = .ok (.iconst 0, 1) := by decide +kernel
theorem dc_3_9_1 : decode prog_3_method_9_code 1 = .ok (.istore_n 3, 1) := by decide +kernel
theorem dc_3_9_2 : decode prog_3_method_9_code 2 = .ok (.iload_n 3, 1) := by decide +kernel
theorem dc_3_9_3 : decode prog_3_method_9_code 3 = .ok (.bipush 12, 2) := by decide +kernel
theorem dc_3_9_5 : decode prog_3_method_9_code 5 = .ok (.if_icmp .ge 62, 3) := by decide +kernel
theorem dc_3_9_8 : decode prog_3_method_9_code 8 = .ok (.iload_n 3, 1) := by decide +kernel
theorem dc_3_9_9 : decode prog_3_method_9_code 9 = .ok (.aload_n 1, 1) := by decide +kernel
theorem dc_3_9_10 : decode prog_3_method_9_code 10 = .ok (.arraylength, 1) := by decide +kernel
theorem dc_3_9_11 : decode prog_3_method_9_code 11 = .ok (.if_icmp .ge 56, 3) := by decide +kernel
theorem dc_3_9_14 : decode prog_3_method_9_code 14 = .ok (.iload_n 3, 1) := by decide +kernel
theorem dc_3_9_15 : decode prog_3_method_9_code 15 = .ok (.aload_n 2, 1) := by decide +kernel
theorem dc_3_9_16 : decode prog_3_method_9_code 16 = .ok (.arraylength, 1) := by decide +kernel
theorem dc_3_9_17 : decode prog_3_method_9_code 17 = .ok (.if_icmp .ge 50, 3) := by decide +kernel
theorem dc_3_9_20 : decode prog_3_method_9_code 20 = .ok (.aload_n 0, 1) := by decide +kernel
theorem dc_3_9_21 : decode prog_3_method_9_code 21 = .ok (.getfield 27, 3) := by decide +kernel
theorem dc_3_9_24 : decode prog_3_method_9_code 24 = .ok (.iload_n 3, 1) := by decide +kernel
theorem dc_3_9_25 : decode prog_3_method_9_code 25 = .ok (.iaload, 1) := by decide +kernel
theorem dc_3_9_26 : decode prog_3_method_9_code 26 = .ok (.aload_n 2, 1) := by decide +kernel
theorem dc_3_9_27 : decode prog_3_method_9_code 27 = .ok (.iload_n 3, 1) := by decide +kernel
theorem dc_3_9_28 : decode prog_3_method_9_code 28 = .ok (.iaload, 1) := by decide +kernel
theorem dc_3_9_29 : decode prog_3_method_9_code 29 = .ok (.isub, 1) := by decide +kernel
theorem dc_3_9_30 : decode prog_3_method_9_code 30 = .ok (.aload_n 0, 1) := by decide +kernel
theorem dc_3_9_31 : decode prog_3_method_9_code 31 = .ok (.getfield 15, 3) := by decide +kernel
theorem dc_3_9_34 : decode prog_3_method_9_code 34 = .ok (.iload_n 3, 1) := by decide +kernel
theorem dc_3_9_35 : decode prog_3_method_9_code 35 = .ok (.iaload, 1) := by decide +kernel
theorem dc_3_9_36 : decode prog_3_method_9_code 36 = .ok (.if_icmp .gt 23, 3) := by decide +kernel
theorem dc_3_9_39 : decode prog_3_method_9_code 39 = .ok (.aload_n 0, 1) := by decide +kernel
theorem dc_3_9_40 : decode prog_3_method_9_code 40 = .ok (.getfield 27, 3) := by decide +kernel
theorem dc_3_9_43 : decode prog_3_method_9_code 43 = .ok (.iload_n 3, 1) := by decide +kernel
theorem dc_3_9_44 : decode prog_3_method_9_code 44 = .ok (.iaload, 1) := by decide +kernel
theorem dc_3_9_45 : decode prog_3_method_9_code 45 = .ok (.aload_n 1, 1) := by decide +kernel
theorem dc_3_9_46 : decode prog_3_method_9_code 46 = .ok (.iload_n 3, 1) := by decide +kernel
theorem dc_3_9_47 : decode prog_3_method_9_code 47 = .ok (.iaload, 1) := by decide +kernel
theorem dc_3_9_48 : decode prog_3_method_9_code 48 = .ok (.iadd, 1) := by decide +kernel
theorem dc_3_9_49 : decode prog_3_method_9_code 49 = .ok (.aload_n 0, 1) := by decide +kernel
theorem dc_3_9_50 : decode prog_3_method_9_code 50 = .ok (.getfield 15, 3) := by decide +kernel
theorem dc_3_9_53 : decode prog_3_method_9_code 53 = .ok (.iload_n 3, 1) := by decide +kernel
theorem dc_3_9_54 : decode prog_3_method_9_code 54 = .ok (.iaload, 1) := by decide +kernel
theorem dc_3_9_55 : decode prog_3_method_9_code 55 = .ok (.ineg, 1) := by decide +kernel
theorem dc_3_9_56 : decode prog_3_method_9_code 56 = .ok (.if_icmp .ge 5, 3) := by decide +kernel
theorem dc_3_9_59 : decode prog_3_method_9_code 59 = .ok (.iconst 0, 1) := by decide +kernel
theorem dc_3_9_60 : decode prog_3_method_9_code 60 = .ok (.ireturn, 1) := by decide +kernel
theorem dc_3_9_61 : decode prog_3_method_9_code 61 = .ok (.iinc 3 1, 3) := by decide +kernel
theorem dc_3_9_64 : decode prog_3_method_9_code 64 = .ok (.goto (-62), 3) := by decide +kernel
theorem dc_3_9_67 : decode prog_3_method_9_code 67 = .ok (.iconst 1, 1) := by decide +kernel
theorem dc_3_9_68 : decode prog_3_method_9_code 68 = .ok (.ireturn, 1) := by decide +kernel
theorem dc_7_10_0 : decode prog_7_method_10_code 0 = .ok (.aload_n 0, 1) := by decide +kernel
theorem dc_7_10_1 : decode prog_7_method_10_code 1 = .ok (.iload_n 1, 1) := by decide +kernel
theorem dc_7_10_2 : decode prog_7_method_10_code 2 = .ok (.invokevirtual 88, 3) := by decide +kernel
theorem dc_7_10_5 : decode prog_7_method_10_code 5 = .ok (.ifCond .eq 19, 3) := by decide +kernel
theorem dc_7_10_8 : decode prog_7_method_10_code 8 = .ok (.aload_n 0, 1) := by decide +kernel
theorem dc_7_10_9 : decode prog_7_method_10_code 9 = .ok (.getfield 39, 3) := by decide +kernel
theorem dc_7_10_12 : decode prog_7_method_10_code 12 = .ok (.iload_n 1, 1) := by decide +kernel
theorem dc_7_10_13 : decode prog_7_method_10_code 13 = .ok (.aaload, 1) := by decide +kernel
theorem dc_7_10_14 : decode prog_7_method_10_code 14 = .ok (.aload_n 0, 1) := by decide +kernel
theorem dc_7_10_15 : decode prog_7_method_10_code 15 = .ok (.getfield 60, 3) := by decide +kernel
theorem dc_7_10_18 : decode prog_7_method_10_code 18 = .ok (.iload_n 1, 1) := by decide +kernel
theorem dc_7_10_19 : decode prog_7_method_10_code 19 = .ok (.iaload, 1) := by decide +kernel
theorem dc_7_10_20 : decode prog_7_method_10_code 20 = .ok (.iaload, 1) := by decide +kernel
theorem dc_7_10_21 : decode prog_7_method_10_code 21 = .ok (.goto 4, 3) := by decide +kernel
theorem dc_7_10_25 : decode prog_7_method_10_code 25 = .ok (.ireturn, 1) := by decide +kernel
theorem dc_7_11_0 : decode prog_7_method_11_code 0 = .ok (.iload_n 1, 1) := by decide +kernel
theorem dc_7_11_1 : decode prog_7_method_11_code 1 = .ok (.ifCond .lt 32, 3) := by decide +kernel
theorem dc_7_11_4 : decode prog_7_method_11_code 4 = .ok (.iload_n 1, 1) := by decide +kernel
theorem dc_7_11_5 : decode prog_7_method_11_code 5 = .ok (.bipush 7, 2) := by decide +kernel
theorem dc_7_11_7 : decode prog_7_method_11_code 7 = .ok (.if_icmp .ge 26, 3) := by decide +kernel
theorem dc_7_11_10 : decode prog_7_method_11_code 10 = .ok (.aload_n 0, 1) := by decide +kernel
theorem dc_7_11_11 : decode prog_7_method_11_code 11 = .ok (.getfield 60, 3) := by decide +kernel
theorem dc_7_11_14 : decode prog_7_method_11_code 14 = .ok (.iload_n 1, 1) := by decide +kernel
theorem dc_7_11_15 : decode prog_7_method_11_code 15 = .ok (.iaload, 1) := by decide +kernel
theorem dc_7_11_16 : decode prog_7_method_11_code 16 = .ok (.ifCond .lt 17, 3) := by decide +kernel
theorem dc_7_11_19 : decode prog_7_method_11_code 19 = .ok (.aload_n 0, 1) := by decide +kernel
theorem dc_7_11_20 : decode prog_7_method_11_code 20 = .ok (.getfield 60, 3) := by decide +kernel
theorem dc_7_11_23 : decode prog_7_method_11_code 23 = .ok (.iload_n 1, 1) := by decide +kernel
theorem dc_7_11_24 : decode prog_7_method_11_code 24 = .ok (.iaload, 1) := by decide +kernel
theorem dc_7_11_25 : decode prog_7_method_11_code 25 = .ok (.iconst 5, 1) := by decide +kernel
theorem dc_7_11_26 : decode prog_7_method_11_code 26 = .ok (.if_icmp .ge 7, 3) := by decide +kernel
theorem dc_7_11_29 : decode prog_7_method_11_code 29 = .ok (.iconst 1, 1) := by decide +kernel
theorem dc_7_11_30 : decode prog_7_method_11_code 30 = .ok (.goto 4, 3) := by decide +kernel
theorem dc_7_11_34 : decode prog_7_method_11_code 34 = .ok (.ireturn, 1) := by decide +kernel
theorem dc_7_2_0 : decode prog_7_method_2_code 0 = .ok (.aload_n 0, 1) := by decide +kernel
theorem dc_7_2_1 : decode prog_7_method_2_code 1 = .ok (.iconst 0, 1) := by decide +kernel
theorem dc_7_2_2 : decode prog_7_method_2_code 2 = .ok (.putfield 20, 3) := by decide +kernel
theorem dc_7_2_5 : decode prog_7_method_2_code 5 = .ok (.aload_n 0, 1) := by decide +kernel
theorem dc_7_2_6 : decode prog_7_method_2_code 6 = .ok (.getfield 14, 3) := by decide +kernel
theorem dc_7_2_9 : decode prog_7_method_2_code 9 = .ok (.invokevirtual 67, 3) := by decide +kernel
theorem dc_7_2_12 : decode prog_7_method_2_code 12 = .ok (.return_, 1) := by decide +kernel
theorem dc_7_3_0 : decode prog_7_method_3_code 0 = .ok (.aload_n 0, 1) := by decide +kernel
theorem dc_7_3_1 : decode prog_7_method_3_code 1 = .ok (.getfield 20, 3) := by decide +kernel
theorem dc_7_3_4 : decode prog_7_method_3_code 4 = .ok (.ifCond .lt 42, 3) := by decide +kernel
theorem dc_7_3_7 : decode prog_7_method_3_code 7 = .ok (.aload_n 0, 1) := by decide +kernel
theorem dc_7_3_8 : decode prog_7_method_3_code 8 = .ok (.getfield 20, 3) := by decide +kernel
theorem dc_7_3_11 : decode prog_7_method_3_code 11 = .ok (.bipush 7, 2) := by decide +kernel
theorem dc_7_3_13 : decode prog_7_method_3_code 13 = .ok (.if_icmp .ge 33, 3) := by decide +kernel
theorem dc_7_3_16 : decode prog_7_method_3_code 16 = .ok (.aload_n 0, 1) := by decide +kernel
theorem dc_7_3_17 : decode prog_7_method_3_code 17 = .ok (.getfield 24, 3) := by decide +kernel
theorem dc_7_3_20 : decode prog_7_method_3_code 20 = .ok (.aload_n 0, 1) := by decide +kernel
theorem dc_7_3_21 : decode prog_7_method_3_code 21 = .ok (.getfield 20, 3) := by decide +kernel
theorem dc_7_3_24 : decode prog_7_method_3_code 24 = .ok (.iload_n 1, 1) := by decide +kernel
theorem dc_7_3_25 : decode prog_7_method_3_code 25 = .ok (.iastore, 1) := by decide +kernel
theorem dc_7_3_26 : decode prog_7_method_3_code 26 = .ok (.aload_n 0, 1) := by decide +kernel
theorem dc_7_3_27 : decode prog_7_method_3_code 27 = .ok (.getfield 28, 3) := by decide +kernel
theorem dc_7_3_30 : decode prog_7_method_3_code 30 = .ok (.aload_n 0, 1) := by decide +kernel
theorem dc_7_3_31 : decode prog_7_method_3_code 31 = .ok (.getfield 20, 3) := by decide +kernel
theorem dc_7_3_34 : decode prog_7_method_3_code 34 = .ok (.iconst 0, 1) := by decide +kernel
theorem dc_7_3_35 : decode prog_7_method_3_code 35 = .ok (.iastore, 1) := by decide +kernel
theorem dc_7_3_36 : decode prog_7_method_3_code 36 = .ok (.aload_n 0, 1) := by decide +kernel
theorem dc_7_3_37 : decode prog_7_method_3_code 37 = .ok (.dup, 1) := by decide +kernel
theorem dc_7_3_38 : decode prog_7_method_3_code 38 = .ok (.getfield 20, 3) := by decide +kernel
theorem dc_7_3_41 : decode prog_7_method_3_code 41 = .ok (.iconst 1, 1) := by decide +kernel
theorem dc_7_3_42 : decode prog_7_method_3_code 42 = .ok (.iadd, 1) := by decide +kernel
theorem dc_7_3_43 : decode prog_7_method_3_code 43 = .ok (.putfield 20, 3) := by decide +kernel
theorem dc_7_3_46 : decode prog_7_method_3_code 46 = .ok (.return_, 1) := by decide +kernel
theorem dc_7_4_0 : decode prog_7_method_4_code 0 = .ok (.iload_n 1, 1) := by decide +kernel
theorem dc_7_4_1 : decode prog_7_method_4_code 1 = .ok (.ifCond .lt 28, 3) := by decide +kernel
theorem dc_7_4_4 : decode prog_7_method_4_code 4 = .ok (.iload_n 1, 1) := by decide +kernel
theorem dc_7_4_5 : decode prog_7_method_4_code 5 = .ok (.getstatic 70, 3) := by decide +kernel
theorem dc_7_4_8 : decode prog_7_method_4_code 8 = .ok (.arraylength, 1) := by decide +kernel
theorem dc_7_4_9 : decode prog_7_method_4_code 9 = .ok (.if_icmp .ge 20, 3) := by decide +kernel
theorem dc_7_4_12 : decode prog_7_method_4_code 12 = .ok (.aload_n 0, 1) := by decide +kernel
theorem dc_7_4_13 : decode prog_7_method_4_code 13 = .ok (.iload_n 1, 1) := by decide +kernel
theorem dc_7_4_14 : decode prog_7_method_4_code 14 = .ok (.iload_n 2, 1) := by decide +kernel
theorem dc_7_4_15 : decode prog_7_method_4_code 15 = .ok (.iload_n 3, 1) := by decide +kernel
theorem dc_7_4_16 : decode prog_7_method_4_code 16 = .ok (.iload 4, 2) := by decide +kernel
theorem dc_7_4_18 : decode prog_7_method_4_code 18 = .ok (.getstatic 70, 3) := by decide +kernel
theorem dc_7_4_21 : decode prog_7_method_4_code 21 = .ok (.iload_n 1, 1) := by decide +kernel
theorem dc_7_4_22 : decode prog_7_method_4_code 22 = .ok (.iaload, 1) := by decide +kernel
theorem dc_7_4_23 : decode prog_7_method_4_code 23 = .ok (.iload 5, 2) := by decide +kernel
theorem dc_7_4_25 : decode prog_7_method_4_code 25 = .ok (.isub, 1) := by decide +kernel
theorem dc_7_4_26 : decode prog_7_method_4_code 26 = .ok (.invokevirtual 73, 3) := by decide +kernel
theorem dc_7_4_29 : decode prog_7_method_4_code 29 = .ok (.return_, 1) := by decide +kernel
theorem dc_7_5_0 : decode prog_7_method_5_code 0 = .ok (.aload_n 0, 1) := by decide +kernel
theorem dc_7_5_1 : decode prog_7_method_5_code 1 = .ok (.iconst (-1), 1) := by decide +kernel
theorem dc_7_5_2 : decode prog_7_method_5_code 2 = .ok (.iconst (-1), 1) := by decide +kernel
theorem dc_7_5_3 : decode prog_7_method_5_code 3 = .ok (.iconst (-1), 1) := by decide +kernel
theorem dc_7_5_4 : decode prog_7_method_5_code 4 = .ok (.iconst 0, 1) := by decide +kernel
theorem dc_7_5_5 : decode prog_7_method_5_code 5 = .ok (.iload_n 1, 1) := by decide +kernel
theorem dc_7_5_6 : decode prog_7_method_5_code 6 = .ok (.ineg, 1) := by decide +kernel
theorem dc_7_5_7 : decode prog_7_method_5_code 7 = .ok (.invokevirtual 73, 3) := by decide +kernel
theorem dc_7_5_10 : decode prog_7_method_5_code 10 = .ok (.return_, 1) := by decide +kernel
theorem dc_7_6_0 : decode prog_7_method_6_code 0 = .ok (.aload_n 0, 1) := by decide +kernel
theorem dc_7_6_1 : decode prog_7_method_6_code 1 = .ok (.getfield 20, 3) := by decide +kernel
theorem dc_7_6_4 : decode prog_7_method_6_code 4 = .ok (.iconst 1, 1) := by decide +kernel
theorem dc_7_6_5 : decode prog_7_method_6_code 5 = .ok (.isub, 1) := by decide +kernel
theorem dc_7_6_6 : decode prog_7_method_6_code 6 = .ok (.istore 6, 2) := by decide +kernel
theorem dc_7_6_8 : decode prog_7_method_6_code 8 = .ok (.iload 6, 2) := by decide +kernel
theorem dc_7_6_10 : decode prog_7_method_6_code 10 = .ok (.ifCond .lt 31, 3) := by decide +kernel
theorem dc_7_6_13 : decode prog_7_method_6_code 13 = .ok (.iload 6, 2) := by decide +kernel
theorem dc_7_6_15 : decode prog_7_method_6_code 15 = .ok (.bipush 7, 2) := by decide +kernel
theorem dc_7_6_17 : decode prog_7_method_6_code 17 = .ok (.if_icmp .ge 24, 3) := by decide +kernel
theorem dc_7_6_20 : decode prog_7_method_6_code 20 = .ok (.aload_n 0, 1) := by decide +kernel
theorem dc_7_6_21 : decode prog_7_method_6_code 21 = .ok (.getfield 28, 3) := by decide +kernel
theorem dc_7_6_24 : decode prog_7_method_6_code 24 = .ok (.iload 6, 2) := by decide +kernel
theorem dc_7_6_26 : decode prog_7_method_6_code 26 = .ok (.iaload, 1) := by decide +kernel
theorem dc_7_6_27 : decode prog_7_method_6_code 27 = .ok (.ifCond .lt 14, 3) := by decide +kernel
theorem dc_7_6_30 : decode prog_7_method_6_code 30 = .ok (.aload_n 0, 1) := by decide +kernel
theorem dc_7_6_31 : decode prog_7_method_6_code 31 = .ok (.getfield 28, 3) := by decide +kernel
theorem dc_7_6_34 : decode prog_7_method_6_code 34 = .ok (.iload 6, 2) := by decide +kernel
theorem dc_7_6_36 : decode prog_7_method_6_code 36 = .ok (.iaload, 1) := by decide +kernel
theorem dc_7_6_37 : decode prog_7_method_6_code 37 = .ok (.iconst 5, 1) := by decide +kernel
theorem dc_7_6_38 : decode prog_7_method_6_code 38 = .ok (.if_icmp .lt 4, 3) := by decide +kernel
theorem dc_7_6_42 : decode prog_7_method_6_code 42 = .ok (.aload_n 0, 1) := by decide +kernel
theorem dc_7_6_43 : decode prog_7_method_6_code 43 = .ok (.getfield 28, 3) := by decide +kernel
theorem dc_7_6_46 : decode prog_7_method_6_code 46 = .ok (.iload 6, 2) := by decide +kernel
theorem dc_7_6_48 : decode prog_7_method_6_code 48 = .ok (.iaload, 1) := by decide +kernel
theorem dc_7_6_49 : decode prog_7_method_6_code 49 = .ok (.istore 7, 2) := by decide +kernel
theorem dc_7_6_51 : decode prog_7_method_6_code 51 = .ok (.aload_n 0, 1) := by decide +kernel
theorem dc_7_6_52 : decode prog_7_method_6_code 52 = .ok (.getfield 33, 3) := by decide +kernel
theorem dc_7_6_55 : decode prog_7_method_6_code 55 = .ok (.iload 6, 2) := by decide +kernel
theorem dc_7_6_57 : decode prog_7_method_6_code 57 = .ok (.aaload, 1) := by decide +kernel
theorem dc_7_6_58 : decode prog_7_method_6_code 58 = .ok (.iload 7, 2) := by decide +kernel
theorem dc_7_6_60 : decode prog_7_method_6_code 60 = .ok (.iload_n 1, 1) := by decide +kernel
theorem dc_7_6_61 : decode prog_7_method_6_code 61 = .ok (.iastore, 1) := by decide +kernel
theorem dc_7_6_62 : decode prog_7_method_6_code 62 = .ok (.aload_n 0, 1) := by decide +kernel
theorem dc_7_6_63 : decode prog_7_method_6_code 63 = .ok (.getfield 36, 3) := by decide +kernel
theorem dc_7_6_66 : decode prog_7_method_6_code 66 = .ok (.iload 6, 2) := by decide +kernel
theorem dc_7_6_68 : decode prog_7_method_6_code 68 = .ok (.aaload, 1) := by decide +kernel
theorem dc_7_6_69 : decode prog_7_method_6_code 69 = .ok (.iload 7, 2) := by decide +kernel
theorem dc_7_6_71 : decode prog_7_method_6_code 71 = .ok (.iload_n 2, 1) := by decide +kernel
theorem dc_7_6_72 : decode prog_7_method_6_code 72 = .ok (.iastore, 1) := by decide +kernel
theorem dc_7_6_73 : decode prog_7_method_6_code 73 = .ok (.aload_n 0, 1) := by decide +kernel
theorem dc_7_6_74 : decode prog_7_method_6_code 74 = .ok (.getfield 39, 3) := by decide +kernel
theorem dc_7_6_77 : decode prog_7_method_6_code 77 = .ok (.iload 6, 2) := by decide +kernel
theorem dc_7_6_79 : decode prog_7_method_6_code 79 = .ok (.aaload, 1) := by decide +kernel
theorem dc_7_6_80 : decode prog_7_method_6_code 80 = .ok (.iload 7, 2) := by decide +kernel
theorem dc_7_6_82 : decode prog_7_method_6_code 82 = .ok (.iload_n 3, 1) := by decide +kernel
theorem dc_7_6_83 : decode prog_7_method_6_code 83 = .ok (.iastore, 1) := by decide +kernel
theorem dc_7_6_84 : decode prog_7_method_6_code 84 = .ok (.aload_n 0, 1) := by decide +kernel
theorem dc_7_6_85 : decode prog_7_method_6_code 85 = .ok (.getfield 42, 3) := by decide +kernel
theorem dc_7_6_88 : decode prog_7_method_6_code 88 = .ok (.iload 6, 2) := by decide +kernel
theorem dc_7_6_90 : decode prog_7_method_6_code 90 = .ok (.aaload, 1) := by decide +kernel
theorem dc_7_6_91 : decode prog_7_method_6_code 91 = .ok (.iload 7, 2) := by decide +kernel
theorem dc_7_6_93 : decode prog_7_method_6_code 93 = .ok (.iload 4, 2) := by decide +kernel
theorem dc_7_6_95 : decode prog_7_method_6_code 95 = .ok (.iastore, 1) := by decide +kernel
theorem dc_7_6_96 : decode prog_7_method_6_code 96 = .ok (.aload_n 0, 1) := by decide +kernel
theorem dc_7_6_97 : decode prog_7_method_6_code 97 = .ok (.getfield 45, 3) := by decide +kernel
theorem dc_7_6_100 : decode prog_7_method_6_code 100 = .ok (.iload 6, 2) := by decide +kernel
theorem dc_7_6_102 : decode prog_7_method_6_code 102 = .ok (.aaload, 1) := by decide +kernel
theorem dc_7_6_103 : decode prog_7_method_6_code 103 = .ok (.iload 7, 2) := by decide +kernel
theorem dc_7_6_105 : decode prog_7_method_6_code 105 = .ok (.iload 5, 2) := by decide +kernel
theorem dc_7_6_107 : decode prog_7_method_6_code 107 = .ok (.iastore, 1) := by decide +kernel
theorem dc_7_6_108 : decode prog_7_method_6_code 108 = .ok (.aload_n 0, 1) := by decide +kernel
theorem dc_7_6_109 : decode prog_7_method_6_code 109 = .ok (.getfield 28, 3) := by decide +kernel
theorem dc_7_6_112 : decode prog_7_method_6_code 112 = .ok (.iload 6, 2) := by decide +kernel
theorem dc_7_6_114 : decode prog_7_method_6_code 114 = .ok (.dup2, 1) := by decide +kernel
theorem dc_7_6_115 : decode prog_7_method_6_code 115 = .ok (.iaload, 1) := by decide +kernel
theorem dc_7_6_116 : decode prog_7_method_6_code 116 = .ok (.iconst 1, 1) := by decide +kernel
theorem dc_7_6_117 : decode prog_7_method_6_code 117 = .ok (.iadd, 1) := by decide +kernel
theorem dc_7_6_118 : decode prog_7_method_6_code 118 = .ok (.iastore, 1) := by decide +kernel
theorem dc_7_6_119 : decode prog_7_method_6_code 119 = .ok (.return_, 1) := by decide +kernel
theorem dc_7_8_0 : decode prog_7_method_8_code 0 = .ok (.iload_n 1, 1) := by decide +kernel
theorem dc_7_8_1 : decode prog_7_method_8_code 1 = .ok (.ifCond .lt 18, 3) := by decide +kernel
theorem dc_7_8_4 : decode prog_7_method_8_code 4 = .ok (.iload_n 1, 1) := by decide +kernel
theorem dc_7_8_5 : decode prog_7_method_8_code 5 = .ok (.bipush 7, 2) := by decide +kernel
theorem dc_7_8_7 : decode prog_7_method_8_code 7 = .ok (.if_icmp .ge 12, 3) := by decide +kernel
theorem dc_7_8_10 : decode prog_7_method_8_code 10 = .ok (.aload_n 0, 1) := by decide +kernel
theorem dc_7_8_11 : decode prog_7_method_8_code 11 = .ok (.getfield 24, 3) := by decide +kernel
theorem dc_7_8_14 : decode prog_7_method_8_code 14 = .ok (.iload_n 1, 1) := by decide +kernel
theorem dc_7_8_15 : decode prog_7_method_8_code 15 = .ok (.iaload, 1) := by decide +kernel
theorem dc_7_8_16 : decode prog_7_method_8_code 16 = .ok (.goto 4, 3) := by decide +kernel
theorem dc_7_8_20 : decode prog_7_method_8_code 20 = .ok (.ireturn, 1) := by decide +kernel
theorem dc_7_9_0 : decode prog_7_method_9_code 0 = .ok (.aload_n 0, 1) := by decide +kernel
theorem dc_7_9_1 : decode prog_7_method_9_code 1 = .ok (.iload_n 1, 1) := by decide +kernel
theorem dc_7_9_2 : decode prog_7_method_9_code 2 = .ok (.invokevirtual 88, 3) := by decide +kernel
theorem dc_7_9_5 : decode prog_7_method_9_code 5 = .ok (.ifCond .eq 19, 3) := by decide +kernel
theorem dc_7_9_8 : decode prog_7_method_9_code 8 = .ok (.aload_n 0, 1) := by decide +kernel
theorem dc_7_9_9 : decode prog_7_method_9_code 9 = .ok (.getfield 33, 3) := by decide +kernel
theorem dc_7_9_12 : decode prog_7_method_9_code 12 = .ok (.iload_n 1, 1) := by decide +kernel
theorem dc_7_9_13 : decode prog_7_method_9_code 13 = .ok (.aaload, 1) := by decide +kernel
theorem dc_7_9_14 : decode prog_7_method_9_code 14 = .ok (.aload_n 0, 1) := by decide +kernel
theorem dc_7_9_15 : decode prog_7_method_9_code 15 = .ok (.getfield 60, 3) := by decide +kernel
theorem dc_7_9_18 : decode prog_7_method_9_code 18 = .ok (.iload_n 1, 1) := by decide +kernel
theorem dc_7_9_19 : decode prog_7_method_9_code 19 = .ok (.iaload, 1) := by decide +kernel
theorem dc_7_9_20 : decode prog_7_method_9_code 20 = .ok (.iaload, 1) := by decide +kernel
theorem dc_7_9_21 : decode prog_7_method_9_code 21 = .ok (.goto 4, 3) := by decide +kernel
theorem dc_7_9_25 : decode prog_7_method_9_code 25 = .ok (.ireturn, 1) := by decide +kernel
theorem iv_7_v67 : mm_iv 7 (.invokevirtual 67) = some (1, 113) := by decide +kernel
theorem iv_7_v73 : mm_iv 7 (.invokevirtual 73) = some (1, 122) := by decide +kernel
theorem iv_7_v88 : mm_iv 7 (.invokevirtual 88) = some (1, 136) := by decide +kernel
theorem iv_8_s33 : mm_iv 8 (.invokestatic 33) = some (0, 2) := by decide +kernel
theorem o_113 : mm_o 113 = 8 := by decide +kernel
theorem o_122 : mm_o 122 = 7 := by decide +kernel
theorem o_136 : mm_o 136 = 7 := by decide +kernel
theorem na_1_113 : mm_nas 1 113 = 1 := by decide +kernel
theorem na_1_122 : mm_nas 1 122 = 6 := by decide +kernel
theorem na_1_136 : mm_nas 1 136 = 2 := by decide +kernel
def BClr (cs : Nat → Nat → Int32) : Prop := (∀ x, x < 12 → cs 30 x = nI 1000 ∧ cs 31 x = nI 1000 ∧ cs 33 x = nI 0 ∧ cs 34 x = nI 0 ∧ cs 35 x = nI 0) ∧ ∀ h, h < 8 → cs 32 h = nI 1000 ∧ cs 36 h = nI 0
theorem pk_s1 (n : Nat) : nI (n + 1) - nI 1 = nI n := nI_pred n
set_option maxHeartbeats 4000000 in
theorem k_bclear (M : mH) (hM : 157 ≤ M.1) (T : Nat → mT) (e : Nat → Nat) (hF : ShF T e) (cs : Nat → Nat → Int32) : ∃ (cs1 : Nat → Nat → Int32), (BClr cs1 ∧ ∀ a, a < 30 ∨ 36 < a → cs1 a = cs a) ∧ mm_Ev 2 113 [.ref 29] (hk M T cs) ((none, hk M T cs1)) := by
  have hq9 : ∃ z, (fun r9 => ∃ (cs1 : Nat → Nat → Int32), (BClr cs1 ∧ ∀ a, a < 30 ∨ 36 < a → cs1 a = cs a) ∧ r9 = ((none, hk M T cs1))) z ∧ mm_Ev 2 113 [.ref 29] (hk M T cs) z := by
    refine r_evQ (by decide +kernel) (show (1 : Nat) ≤ mm_nL 113 by decide +kernel) ?_
    show mm_Ru 1 (8, 1, false, prog_3_method_2_code, none) 0 [(0, .ref 29)] [] (hk M T cs) (fun r9 => ∃ (cs1 : Nat → Nat → Int32), (BClr cs1 ∧ ∀ a, a < 30 ∨ 36 < a → cs1 a = cs a) ∧ r9 = ((none, hk M T cs1)))
    refine r_aload_n rfl dc_3_2_0 ?_
    refine h_get (t := cT e 29) (v := .ref 30) fx_8_9 (hF 29 (by decide)) ⟨by omega, by omega⟩ (rfl) dc_3_2_1 ?_
    refine r_sipush (v := nI 1000) (by decide) dc_3_2_4 ?_
    refine h_callS0 (as := [.ref 30, .int (nI 1000)]) (rest := []) (M1 := hk M T (wA cs 30 (fl (cs 30) 12 (nI 1000)))) rfl rfl iv_8_s33 (Or.inl rfl) na_0_2 rfl (show (0 : Nat) ≤ 8 by decide) dc_3_2_7 (k_fill M T cs 30 12 _ (nI 1000) (hF 30 (by decide)) ⟨by omega, by omega⟩ (by decide)) ?_
    refine r_aload_n rfl dc_3_2_10 ?_
    refine h_get (t := cT e 29) (v := .ref 31) fx_8_15 (hF 29 (by decide)) ⟨by omega, by omega⟩ (rfl) dc_3_2_11 ?_
    refine r_sipush (v := nI 1000) (by decide) dc_3_2_14 ?_
    refine h_callS0 (as := [.ref 31, .int (nI 1000)]) (rest := []) (M1 := hk M T (wA (wA cs 30 (fl (cs 30) 12 (nI 1000))) 31 (fl ((wA cs 30 (fl (cs 30) 12 (nI 1000))) 31) 12 (nI 1000)))) rfl rfl iv_8_s33 (Or.inl rfl) na_0_2 rfl (show (0 : Nat) ≤ 8 by decide) dc_3_2_17 (k_fill M T (wA cs 30 (fl (cs 30) 12 (nI 1000))) 31 12 _ (nI 1000) (hF 31 (by decide)) ⟨by omega, by omega⟩ (by decide)) ?_
    refine r_aload_n rfl dc_3_2_20 ?_
    refine h_get (t := cT e 29) (v := .ref 32) fx_8_18 (hF 29 (by decide)) ⟨by omega, by omega⟩ (rfl) dc_3_2_21 ?_
    refine r_sipush (v := nI 1000) (by decide) dc_3_2_24 ?_
    refine h_callS0 (as := [.ref 32, .int (nI 1000)]) (rest := []) (M1 := hk M T (wA (wA (wA cs 30 (fl (cs 30) 12 (nI 1000))) 31 (fl ((wA cs 30 (fl (cs 30) 12 (nI 1000))) 31) 12 (nI 1000))) 32 (fl ((wA (wA cs 30 (fl (cs 30) 12 (nI 1000))) 31 (fl ((wA cs 30 (fl (cs 30) 12 (nI 1000))) 31) 12 (nI 1000))) 32) 8 (nI 1000)))) rfl rfl iv_8_s33 (Or.inl rfl) na_0_2 rfl (show (0 : Nat) ≤ 8 by decide) dc_3_2_27 (k_fill M T (wA (wA cs 30 (fl (cs 30) 12 (nI 1000))) 31 (fl ((wA cs 30 (fl (cs 30) 12 (nI 1000))) 31) 12 (nI 1000))) 32 8 _ (nI 1000) (hF 32 (by decide)) ⟨by omega, by omega⟩ (by decide)) ?_
    refine r_aload_n rfl dc_3_2_30 ?_
    refine h_get (t := cT e 29) (v := .ref 33) fx_8_21 (hF 29 (by decide)) ⟨by omega, by omega⟩ (rfl) dc_3_2_31 ?_
    refine r_iconst (v := nI 0) (by decide) dc_3_2_34 ?_
    refine h_callS0 (as := [.ref 33, .int (nI 0)]) (rest := []) (M1 := hk M T (wA (wA (wA (wA cs 30 (fl (cs 30) 12 (nI 1000))) 31 (fl ((wA cs 30 (fl (cs 30) 12 (nI 1000))) 31) 12 (nI 1000))) 32 (fl ((wA (wA cs 30 (fl (cs 30) 12 (nI 1000))) 31 (fl ((wA cs 30 (fl (cs 30) 12 (nI 1000))) 31) 12 (nI 1000))) 32) 8 (nI 1000))) 33 (fl ((wA (wA (wA cs 30 (fl (cs 30) 12 (nI 1000))) 31 (fl ((wA cs 30 (fl (cs 30) 12 (nI 1000))) 31) 12 (nI 1000))) 32 (fl ((wA (wA cs 30 (fl (cs 30) 12 (nI 1000))) 31 (fl ((wA cs 30 (fl (cs 30) 12 (nI 1000))) 31) 12 (nI 1000))) 32) 8 (nI 1000))) 33) 12 (nI 0)))) rfl rfl iv_8_s33 (Or.inl rfl) na_0_2 rfl (show (0 : Nat) ≤ 8 by decide) dc_3_2_35 (k_fill M T (wA (wA (wA cs 30 (fl (cs 30) 12 (nI 1000))) 31 (fl ((wA cs 30 (fl (cs 30) 12 (nI 1000))) 31) 12 (nI 1000))) 32 (fl ((wA (wA cs 30 (fl (cs 30) 12 (nI 1000))) 31 (fl ((wA cs 30 (fl (cs 30) 12 (nI 1000))) 31) 12 (nI 1000))) 32) 8 (nI 1000))) 33 12 _ (nI 0) (hF 33 (by decide)) ⟨by omega, by omega⟩ (by decide)) ?_
    refine r_aload_n rfl dc_3_2_38 ?_
    refine h_get (t := cT e 29) (v := .ref 34) fx_8_24 (hF 29 (by decide)) ⟨by omega, by omega⟩ (rfl) dc_3_2_39 ?_
    refine r_iconst (v := nI 0) (by decide) dc_3_2_42 ?_
    refine h_callS0 (as := [.ref 34, .int (nI 0)]) (rest := []) (M1 := hk M T (wA (wA (wA (wA (wA cs 30 (fl (cs 30) 12 (nI 1000))) 31 (fl ((wA cs 30 (fl (cs 30) 12 (nI 1000))) 31) 12 (nI 1000))) 32 (fl ((wA (wA cs 30 (fl (cs 30) 12 (nI 1000))) 31 (fl ((wA cs 30 (fl (cs 30) 12 (nI 1000))) 31) 12 (nI 1000))) 32) 8 (nI 1000))) 33 (fl ((wA (wA (wA cs 30 (fl (cs 30) 12 (nI 1000))) 31 (fl ((wA cs 30 (fl (cs 30) 12 (nI 1000))) 31) 12 (nI 1000))) 32 (fl ((wA (wA cs 30 (fl (cs 30) 12 (nI 1000))) 31 (fl ((wA cs 30 (fl (cs 30) 12 (nI 1000))) 31) 12 (nI 1000))) 32) 8 (nI 1000))) 33) 12 (nI 0))) 34 (fl ((wA (wA (wA (wA cs 30 (fl (cs 30) 12 (nI 1000))) 31 (fl ((wA cs 30 (fl (cs 30) 12 (nI 1000))) 31) 12 (nI 1000))) 32 (fl ((wA (wA cs 30 (fl (cs 30) 12 (nI 1000))) 31 (fl ((wA cs 30 (fl (cs 30) 12 (nI 1000))) 31) 12 (nI 1000))) 32) 8 (nI 1000))) 33 (fl ((wA (wA (wA cs 30 (fl (cs 30) 12 (nI 1000))) 31 (fl ((wA cs 30 (fl (cs 30) 12 (nI 1000))) 31) 12 (nI 1000))) 32 (fl ((wA (wA cs 30 (fl (cs 30) 12 (nI 1000))) 31 (fl ((wA cs 30 (fl (cs 30) 12 (nI 1000))) 31) 12 (nI 1000))) 32) 8 (nI 1000))) 33) 12 (nI 0))) 34) 12 (nI 0)))) rfl rfl iv_8_s33 (Or.inl rfl) na_0_2 rfl (show (0 : Nat) ≤ 8 by decide) dc_3_2_43 (k_fill M T (wA (wA (wA (wA cs 30 (fl (cs 30) 12 (nI 1000))) 31 (fl ((wA cs 30 (fl (cs 30) 12 (nI 1000))) 31) 12 (nI 1000))) 32 (fl ((wA (wA cs 30 (fl (cs 30) 12 (nI 1000))) 31 (fl ((wA cs 30 (fl (cs 30) 12 (nI 1000))) 31) 12 (nI 1000))) 32) 8 (nI 1000))) 33 (fl ((wA (wA (wA cs 30 (fl (cs 30) 12 (nI 1000))) 31 (fl ((wA cs 30 (fl (cs 30) 12 (nI 1000))) 31) 12 (nI 1000))) 32 (fl ((wA (wA cs 30 (fl (cs 30) 12 (nI 1000))) 31 (fl ((wA cs 30 (fl (cs 30) 12 (nI 1000))) 31) 12 (nI 1000))) 32) 8 (nI 1000))) 33) 12 (nI 0))) 34 12 _ (nI 0) (hF 34 (by decide)) ⟨by omega, by omega⟩ (by decide)) ?_
    refine r_aload_n rfl dc_3_2_46 ?_
    refine h_get (t := cT e 29) (v := .ref 35) fx_8_27 (hF 29 (by decide)) ⟨by omega, by omega⟩ (rfl) dc_3_2_47 ?_
    refine r_iconst (v := nI 0) (by decide) dc_3_2_50 ?_
    refine h_callS0 (as := [.ref 35, .int (nI 0)]) (rest := []) (M1 := hk M T (wA (wA (wA (wA (wA (wA cs 30 (fl (cs 30) 12 (nI 1000))) 31 (fl ((wA cs 30 (fl (cs 30) 12 (nI 1000))) 31) 12 (nI 1000))) 32 (fl ((wA (wA cs 30 (fl (cs 30) 12 (nI 1000))) 31 (fl ((wA cs 30 (fl (cs 30) 12 (nI 1000))) 31) 12 (nI 1000))) 32) 8 (nI 1000))) 33 (fl ((wA (wA (wA cs 30 (fl (cs 30) 12 (nI 1000))) 31 (fl ((wA cs 30 (fl (cs 30) 12 (nI 1000))) 31) 12 (nI 1000))) 32 (fl ((wA (wA cs 30 (fl (cs 30) 12 (nI 1000))) 31 (fl ((wA cs 30 (fl (cs 30) 12 (nI 1000))) 31) 12 (nI 1000))) 32) 8 (nI 1000))) 33) 12 (nI 0))) 34 (fl ((wA (wA (wA (wA cs 30 (fl (cs 30) 12 (nI 1000))) 31 (fl ((wA cs 30 (fl (cs 30) 12 (nI 1000))) 31) 12 (nI 1000))) 32 (fl ((wA (wA cs 30 (fl (cs 30) 12 (nI 1000))) 31 (fl ((wA cs 30 (fl (cs 30) 12 (nI 1000))) 31) 12 (nI 1000))) 32) 8 (nI 1000))) 33 (fl ((wA (wA (wA cs 30 (fl (cs 30) 12 (nI 1000))) 31 (fl ((wA cs 30 (fl (cs 30) 12 (nI 1000))) 31) 12 (nI 1000))) 32 (fl ((wA (wA cs 30 (fl (cs 30) 12 (nI 1000))) 31 (fl ((wA cs 30 (fl (cs 30) 12 (nI 1000))) 31) 12 (nI 1000))) 32) 8 (nI 1000))) 33) 12 (nI 0))) 34) 12 (nI 0))) 35 (fl ((wA (wA (wA (wA (wA cs 30 (fl (cs 30) 12 (nI 1000))) 31 (fl ((wA cs 30 (fl (cs 30) 12 (nI 1000))) 31) 12 (nI 1000))) 32 (fl ((wA (wA cs 30 (fl (cs 30) 12 (nI 1000))) 31 (fl ((wA cs 30 (fl (cs 30) 12 (nI 1000))) 31) 12 (nI 1000))) 32) 8 (nI 1000))) 33 (fl ((wA (wA (wA cs 30 (fl (cs 30) 12 (nI 1000))) 31 (fl ((wA cs 30 (fl (cs 30) 12 (nI 1000))) 31) 12 (nI 1000))) 32 (fl ((wA (wA cs 30 (fl (cs 30) 12 (nI 1000))) 31 (fl ((wA cs 30 (fl (cs 30) 12 (nI 1000))) 31) 12 (nI 1000))) 32) 8 (nI 1000))) 33) 12 (nI 0))) 34 (fl ((wA (wA (wA (wA cs 30 (fl (cs 30) 12 (nI 1000))) 31 (fl ((wA cs 30 (fl (cs 30) 12 (nI 1000))) 31) 12 (nI 1000))) 32 (fl ((wA (wA cs 30 (fl (cs 30) 12 (nI 1000))) 31 (fl ((wA cs 30 (fl (cs 30) 12 (nI 1000))) 31) 12 (nI 1000))) 32) 8 (nI 1000))) 33 (fl ((wA (wA (wA cs 30 (fl (cs 30) 12 (nI 1000))) 31 (fl ((wA cs 30 (fl (cs 30) 12 (nI 1000))) 31) 12 (nI 1000))) 32 (fl ((wA (wA cs 30 (fl (cs 30) 12 (nI 1000))) 31 (fl ((wA cs 30 (fl (cs 30) 12 (nI 1000))) 31) 12 (nI 1000))) 32) 8 (nI 1000))) 33) 12 (nI 0))) 34) 12 (nI 0))) 35) 12 (nI 0)))) rfl rfl iv_8_s33 (Or.inl rfl) na_0_2 rfl (show (0 : Nat) ≤ 8 by decide) dc_3_2_51 (k_fill M T (wA (wA (wA (wA (wA cs 30 (fl (cs 30) 12 (nI 1000))) 31 (fl ((wA cs 30 (fl (cs 30) 12 (nI 1000))) 31) 12 (nI 1000))) 32 (fl ((wA (wA cs 30 (fl (cs 30) 12 (nI 1000))) 31 (fl ((wA cs 30 (fl (cs 30) 12 (nI 1000))) 31) 12 (nI 1000))) 32) 8 (nI 1000))) 33 (fl ((wA (wA (wA cs 30 (fl (cs 30) 12 (nI 1000))) 31 (fl ((wA cs 30 (fl (cs 30) 12 (nI 1000))) 31) 12 (nI 1000))) 32 (fl ((wA (wA cs 30 (fl (cs 30) 12 (nI 1000))) 31 (fl ((wA cs 30 (fl (cs 30) 12 (nI 1000))) 31) 12 (nI 1000))) 32) 8 (nI 1000))) 33) 12 (nI 0))) 34 (fl ((wA (wA (wA (wA cs 30 (fl (cs 30) 12 (nI 1000))) 31 (fl ((wA cs 30 (fl (cs 30) 12 (nI 1000))) 31) 12 (nI 1000))) 32 (fl ((wA (wA cs 30 (fl (cs 30) 12 (nI 1000))) 31 (fl ((wA cs 30 (fl (cs 30) 12 (nI 1000))) 31) 12 (nI 1000))) 32) 8 (nI 1000))) 33 (fl ((wA (wA (wA cs 30 (fl (cs 30) 12 (nI 1000))) 31 (fl ((wA cs 30 (fl (cs 30) 12 (nI 1000))) 31) 12 (nI 1000))) 32 (fl ((wA (wA cs 30 (fl (cs 30) 12 (nI 1000))) 31 (fl ((wA cs 30 (fl (cs 30) 12 (nI 1000))) 31) 12 (nI 1000))) 32) 8 (nI 1000))) 33) 12 (nI 0))) 34) 12 (nI 0))) 35 12 _ (nI 0) (hF 35 (by decide)) ⟨by omega, by omega⟩ (by decide)) ?_
    refine r_aload_n rfl dc_3_2_54 ?_
    refine h_get (t := cT e 29) (v := .ref 36) fx_8_30 (hF 29 (by decide)) ⟨by omega, by omega⟩ (rfl) dc_3_2_55 ?_
    refine r_iconst (v := nI 0) (by decide) dc_3_2_58 ?_
    refine h_callS0 (as := [.ref 36, .int (nI 0)]) (rest := []) (M1 := hk M T (wA (wA (wA (wA (wA (wA (wA cs 30 (fl (cs 30) 12 (nI 1000))) 31 (fl ((wA cs 30 (fl (cs 30) 12 (nI 1000))) 31) 12 (nI 1000))) 32 (fl ((wA (wA cs 30 (fl (cs 30) 12 (nI 1000))) 31 (fl ((wA cs 30 (fl (cs 30) 12 (nI 1000))) 31) 12 (nI 1000))) 32) 8 (nI 1000))) 33 (fl ((wA (wA (wA cs 30 (fl (cs 30) 12 (nI 1000))) 31 (fl ((wA cs 30 (fl (cs 30) 12 (nI 1000))) 31) 12 (nI 1000))) 32 (fl ((wA (wA cs 30 (fl (cs 30) 12 (nI 1000))) 31 (fl ((wA cs 30 (fl (cs 30) 12 (nI 1000))) 31) 12 (nI 1000))) 32) 8 (nI 1000))) 33) 12 (nI 0))) 34 (fl ((wA (wA (wA (wA cs 30 (fl (cs 30) 12 (nI 1000))) 31 (fl ((wA cs 30 (fl (cs 30) 12 (nI 1000))) 31) 12 (nI 1000))) 32 (fl ((wA (wA cs 30 (fl (cs 30) 12 (nI 1000))) 31 (fl ((wA cs 30 (fl (cs 30) 12 (nI 1000))) 31) 12 (nI 1000))) 32) 8 (nI 1000))) 33 (fl ((wA (wA (wA cs 30 (fl (cs 30) 12 (nI 1000))) 31 (fl ((wA cs 30 (fl (cs 30) 12 (nI 1000))) 31) 12 (nI 1000))) 32 (fl ((wA (wA cs 30 (fl (cs 30) 12 (nI 1000))) 31 (fl ((wA cs 30 (fl (cs 30) 12 (nI 1000))) 31) 12 (nI 1000))) 32) 8 (nI 1000))) 33) 12 (nI 0))) 34) 12 (nI 0))) 35 (fl ((wA (wA (wA (wA (wA cs 30 (fl (cs 30) 12 (nI 1000))) 31 (fl ((wA cs 30 (fl (cs 30) 12 (nI 1000))) 31) 12 (nI 1000))) 32 (fl ((wA (wA cs 30 (fl (cs 30) 12 (nI 1000))) 31 (fl ((wA cs 30 (fl (cs 30) 12 (nI 1000))) 31) 12 (nI 1000))) 32) 8 (nI 1000))) 33 (fl ((wA (wA (wA cs 30 (fl (cs 30) 12 (nI 1000))) 31 (fl ((wA cs 30 (fl (cs 30) 12 (nI 1000))) 31) 12 (nI 1000))) 32 (fl ((wA (wA cs 30 (fl (cs 30) 12 (nI 1000))) 31 (fl ((wA cs 30 (fl (cs 30) 12 (nI 1000))) 31) 12 (nI 1000))) 32) 8 (nI 1000))) 33) 12 (nI 0))) 34 (fl ((wA (wA (wA (wA cs 30 (fl (cs 30) 12 (nI 1000))) 31 (fl ((wA cs 30 (fl (cs 30) 12 (nI 1000))) 31) 12 (nI 1000))) 32 (fl ((wA (wA cs 30 (fl (cs 30) 12 (nI 1000))) 31 (fl ((wA cs 30 (fl (cs 30) 12 (nI 1000))) 31) 12 (nI 1000))) 32) 8 (nI 1000))) 33 (fl ((wA (wA (wA cs 30 (fl (cs 30) 12 (nI 1000))) 31 (fl ((wA cs 30 (fl (cs 30) 12 (nI 1000))) 31) 12 (nI 1000))) 32 (fl ((wA (wA cs 30 (fl (cs 30) 12 (nI 1000))) 31 (fl ((wA cs 30 (fl (cs 30) 12 (nI 1000))) 31) 12 (nI 1000))) 32) 8 (nI 1000))) 33) 12 (nI 0))) 34) 12 (nI 0))) 35) 12 (nI 0))) 36 (fl ((wA (wA (wA (wA (wA (wA cs 30 (fl (cs 30) 12 (nI 1000))) 31 (fl ((wA cs 30 (fl (cs 30) 12 (nI 1000))) 31) 12 (nI 1000))) 32 (fl ((wA (wA cs 30 (fl (cs 30) 12 (nI 1000))) 31 (fl ((wA cs 30 (fl (cs 30) 12 (nI 1000))) 31) 12 (nI 1000))) 32) 8 (nI 1000))) 33 (fl ((wA (wA (wA cs 30 (fl (cs 30) 12 (nI 1000))) 31 (fl ((wA cs 30 (fl (cs 30) 12 (nI 1000))) 31) 12 (nI 1000))) 32 (fl ((wA (wA cs 30 (fl (cs 30) 12 (nI 1000))) 31 (fl ((wA cs 30 (fl (cs 30) 12 (nI 1000))) 31) 12 (nI 1000))) 32) 8 (nI 1000))) 33) 12 (nI 0))) 34 (fl ((wA (wA (wA (wA cs 30 (fl (cs 30) 12 (nI 1000))) 31 (fl ((wA cs 30 (fl (cs 30) 12 (nI 1000))) 31) 12 (nI 1000))) 32 (fl ((wA (wA cs 30 (fl (cs 30) 12 (nI 1000))) 31 (fl ((wA cs 30 (fl (cs 30) 12 (nI 1000))) 31) 12 (nI 1000))) 32) 8 (nI 1000))) 33 (fl ((wA (wA (wA cs 30 (fl (cs 30) 12 (nI 1000))) 31 (fl ((wA cs 30 (fl (cs 30) 12 (nI 1000))) 31) 12 (nI 1000))) 32 (fl ((wA (wA cs 30 (fl (cs 30) 12 (nI 1000))) 31 (fl ((wA cs 30 (fl (cs 30) 12 (nI 1000))) 31) 12 (nI 1000))) 32) 8 (nI 1000))) 33) 12 (nI 0))) 34) 12 (nI 0))) 35 (fl ((wA (wA (wA (wA (wA cs 30 (fl (cs 30) 12 (nI 1000))) 31 (fl ((wA cs 30 (fl (cs 30) 12 (nI 1000))) 31) 12 (nI 1000))) 32 (fl ((wA (wA cs 30 (fl (cs 30) 12 (nI 1000))) 31 (fl ((wA cs 30 (fl (cs 30) 12 (nI 1000))) 31) 12 (nI 1000))) 32) 8 (nI 1000))) 33 (fl ((wA (wA (wA cs 30 (fl (cs 30) 12 (nI 1000))) 31 (fl ((wA cs 30 (fl (cs 30) 12 (nI 1000))) 31) 12 (nI 1000))) 32 (fl ((wA (wA cs 30 (fl (cs 30) 12 (nI 1000))) 31 (fl ((wA cs 30 (fl (cs 30) 12 (nI 1000))) 31) 12 (nI 1000))) 32) 8 (nI 1000))) 33) 12 (nI 0))) 34 (fl ((wA (wA (wA (wA cs 30 (fl (cs 30) 12 (nI 1000))) 31 (fl ((wA cs 30 (fl (cs 30) 12 (nI 1000))) 31) 12 (nI 1000))) 32 (fl ((wA (wA cs 30 (fl (cs 30) 12 (nI 1000))) 31 (fl ((wA cs 30 (fl (cs 30) 12 (nI 1000))) 31) 12 (nI 1000))) 32) 8 (nI 1000))) 33 (fl ((wA (wA (wA cs 30 (fl (cs 30) 12 (nI 1000))) 31 (fl ((wA cs 30 (fl (cs 30) 12 (nI 1000))) 31) 12 (nI 1000))) 32 (fl ((wA (wA cs 30 (fl (cs 30) 12 (nI 1000))) 31 (fl ((wA cs 30 (fl (cs 30) 12 (nI 1000))) 31) 12 (nI 1000))) 32) 8 (nI 1000))) 33) 12 (nI 0))) 34) 12 (nI 0))) 35) 12 (nI 0))) 36) 8 (nI 0)))) rfl rfl iv_8_s33 (Or.inl rfl) na_0_2 rfl (show (0 : Nat) ≤ 8 by decide) dc_3_2_59 (k_fill M T (wA (wA (wA (wA (wA (wA cs 30 (fl (cs 30) 12 (nI 1000))) 31 (fl ((wA cs 30 (fl (cs 30) 12 (nI 1000))) 31) 12 (nI 1000))) 32 (fl ((wA (wA cs 30 (fl (cs 30) 12 (nI 1000))) 31 (fl ((wA cs 30 (fl (cs 30) 12 (nI 1000))) 31) 12 (nI 1000))) 32) 8 (nI 1000))) 33 (fl ((wA (wA (wA cs 30 (fl (cs 30) 12 (nI 1000))) 31 (fl ((wA cs 30 (fl (cs 30) 12 (nI 1000))) 31) 12 (nI 1000))) 32 (fl ((wA (wA cs 30 (fl (cs 30) 12 (nI 1000))) 31 (fl ((wA cs 30 (fl (cs 30) 12 (nI 1000))) 31) 12 (nI 1000))) 32) 8 (nI 1000))) 33) 12 (nI 0))) 34 (fl ((wA (wA (wA (wA cs 30 (fl (cs 30) 12 (nI 1000))) 31 (fl ((wA cs 30 (fl (cs 30) 12 (nI 1000))) 31) 12 (nI 1000))) 32 (fl ((wA (wA cs 30 (fl (cs 30) 12 (nI 1000))) 31 (fl ((wA cs 30 (fl (cs 30) 12 (nI 1000))) 31) 12 (nI 1000))) 32) 8 (nI 1000))) 33 (fl ((wA (wA (wA cs 30 (fl (cs 30) 12 (nI 1000))) 31 (fl ((wA cs 30 (fl (cs 30) 12 (nI 1000))) 31) 12 (nI 1000))) 32 (fl ((wA (wA cs 30 (fl (cs 30) 12 (nI 1000))) 31 (fl ((wA cs 30 (fl (cs 30) 12 (nI 1000))) 31) 12 (nI 1000))) 32) 8 (nI 1000))) 33) 12 (nI 0))) 34) 12 (nI 0))) 35 (fl ((wA (wA (wA (wA (wA cs 30 (fl (cs 30) 12 (nI 1000))) 31 (fl ((wA cs 30 (fl (cs 30) 12 (nI 1000))) 31) 12 (nI 1000))) 32 (fl ((wA (wA cs 30 (fl (cs 30) 12 (nI 1000))) 31 (fl ((wA cs 30 (fl (cs 30) 12 (nI 1000))) 31) 12 (nI 1000))) 32) 8 (nI 1000))) 33 (fl ((wA (wA (wA cs 30 (fl (cs 30) 12 (nI 1000))) 31 (fl ((wA cs 30 (fl (cs 30) 12 (nI 1000))) 31) 12 (nI 1000))) 32 (fl ((wA (wA cs 30 (fl (cs 30) 12 (nI 1000))) 31 (fl ((wA cs 30 (fl (cs 30) 12 (nI 1000))) 31) 12 (nI 1000))) 32) 8 (nI 1000))) 33) 12 (nI 0))) 34 (fl ((wA (wA (wA (wA cs 30 (fl (cs 30) 12 (nI 1000))) 31 (fl ((wA cs 30 (fl (cs 30) 12 (nI 1000))) 31) 12 (nI 1000))) 32 (fl ((wA (wA cs 30 (fl (cs 30) 12 (nI 1000))) 31 (fl ((wA cs 30 (fl (cs 30) 12 (nI 1000))) 31) 12 (nI 1000))) 32) 8 (nI 1000))) 33 (fl ((wA (wA (wA cs 30 (fl (cs 30) 12 (nI 1000))) 31 (fl ((wA cs 30 (fl (cs 30) 12 (nI 1000))) 31) 12 (nI 1000))) 32 (fl ((wA (wA cs 30 (fl (cs 30) 12 (nI 1000))) 31 (fl ((wA cs 30 (fl (cs 30) 12 (nI 1000))) 31) 12 (nI 1000))) 32) 8 (nI 1000))) 33) 12 (nI 0))) 34) 12 (nI 0))) 35) 12 (nI 0))) 36 8 _ (nI 0) (hF 36 (by decide)) ⟨by omega, by omega⟩ (by decide)) ?_
    refine r_vret rfl dc_3_2_62 ?_
    exact ⟨_, ⟨⟨fun x hx => by simp [wA, fl, hx], fun x hx => by simp [wA, fl, hx]⟩, fun a ha => by simp only [wA]; repeat rw [if_neg (by omega)]⟩, rfl⟩
  obtain ⟨z9, ⟨cs1, p9, e9⟩, h9⟩ := hq9
  subst e9
  exact ⟨cs1, p9, h9⟩
set_option maxHeartbeats 4000000 in
theorem k_setBeds (M : mH) (hM : 157 ≤ M.1) (T : Nat → mT) (e : Nat → Nat) (hF : ShF T e) (cs : Nat → Nat → Int32) (h : Nat) (v : Int32) (hh : h < 8) : mm_Ev 1 115 [.ref 29, .int (nI h), .int v] (hk M T cs) ((none, hk M T (w1 cs 32 h v))) := by
  refine r_ev (by decide +kernel) (show (3 : Nat) ≤ mm_nL 115 by decide +kernel) ?_
  show mm_Ru 0 (8, 3, false, prog_3_method_3_code, none) 0 [(0, .ref 29), (1, .int (nI h)), (2, .int v)] [] (hk M T cs) (fun r9 => r9 = ((none, hk M T (w1 cs 32 h v))))
  refine r_iload_n rfl dc_3_3_0 ?_
  refine r_nzlt (t := 17) (by omega) (by decide) dc_3_3_1 ?_
  refine r_iload_n rfl dc_3_3_4 ?_
  refine r_bipush (v := nI 8) (by decide) dc_3_3_5 ?_
  refine r_ncge (t := 17) (by omega) (by omega) (by decide) dc_3_3_7 (fun c_7 => ?_) (fun c_7 => ?_)
  · omega
  · skip
    refine r_aload_n rfl dc_3_3_10 ?_
    refine h_get (t := cT e 29) (v := .ref 32) fx_8_18 (hF 29 (by decide)) ⟨by omega, by omega⟩ (rfl) dc_3_3_11 ?_
    refine r_iload_n rfl dc_3_3_14 ?_
    refine r_iload_n rfl dc_3_3_15 ?_
    refine h_ist (n := 8) (e := h) (hF 32 (by decide)) ⟨by omega, by omega⟩ (show h < 8 by omega) (by omega) dc_3_3_16 ?_
    exact r_vret rfl dc_3_3_17 (rfl)
set_option maxHeartbeats 4000000 in
theorem k_setAg (M : mH) (hM : 157 ≤ M.1) (T : Nat → mT) (e : Nat → Nat) (hF : ShF T e) (cs : Nat → Nat → Int32) (x : Nat) (a b : Int32) (hx : x < 12) : mm_Ev 1 116 [.ref 29, .int (nI x), .int a, .int b] (hk M T cs) ((none, hk M T (w1 (w1 cs 30 x a) 31 x b))) := by
  refine r_ev (by decide +kernel) (show (4 : Nat) ≤ mm_nL 116 by decide +kernel) ?_
  show mm_Ru 0 (8, 4, false, prog_3_method_4_code, none) 0 [(0, .ref 29), (1, .int (nI x)), (2, .int a), (3, .int b)] [] (hk M T cs) (fun r9 => r9 = ((none, hk M T (w1 (w1 cs 30 x a) 31 x b))))
  refine r_iload_n rfl dc_3_4_0 ?_
  refine r_nzlt (t := 24) (by omega) (by decide) dc_3_4_1 ?_
  refine r_iload_n rfl dc_3_4_4 ?_
  refine r_bipush (v := nI 12) (by decide) dc_3_4_5 ?_
  refine r_ncge (t := 24) (by omega) (by omega) (by decide) dc_3_4_7 (fun c_7 => ?_) (fun c_7 => ?_)
  · omega
  · skip
    refine r_aload_n rfl dc_3_4_10 ?_
    refine h_get (t := cT e 29) (v := .ref 30) fx_8_9 (hF 29 (by decide)) ⟨by omega, by omega⟩ (rfl) dc_3_4_11 ?_
    refine r_iload_n rfl dc_3_4_14 ?_
    refine r_iload_n rfl dc_3_4_15 ?_
    refine h_ist (n := 12) (e := x) (hF 30 (by decide)) ⟨by omega, by omega⟩ (show x < 12 by omega) (by omega) dc_3_4_16 ?_
    refine r_aload_n rfl dc_3_4_17 ?_
    refine h_get (t := cT e 29) (v := .ref 31) fx_8_15 (hF 29 (by decide)) ⟨by omega, by omega⟩ (rfl) dc_3_4_18 ?_
    refine r_iload_n rfl dc_3_4_21 ?_
    refine r_iload_n rfl dc_3_4_22 ?_
    refine h_ist (n := 12) (e := x) (hF 31 (by decide)) ⟨by omega, by omega⟩ (show x < 12 by omega) (by omega) dc_3_4_23 ?_
    exact r_vret rfl dc_3_4_24 (rfl)
set_option maxHeartbeats 4000000 in
theorem k_addGp (M : mH) (hM : 157 ≤ M.1) (T : Nat → mT) (e : Nat → Nat) (hF : ShF T e) (cs : Nat → Nat → Int32) (x h : Nat) (n : Int32) (hx : x < 12) (hh : h < 8) : mm_Ev 1 124 [.ref 29, .int (nI x), .int (nI h), .int (nI 1), .int n] (hk M T cs) ((none, hk M T (w1 (w1 (w1 cs 36 h (cs 36 h + n)) 33 x (cs 33 x + n)) 35 x (cs 35 x + (nI 1) * n)))) := by
  refine r_ev (by decide +kernel) (show (5 : Nat) ≤ mm_nL 124 by decide +kernel) ?_
  show mm_Ru 0 (8, 5, false, prog_3_method_5_code, none) 0 [(0, .ref 29), (1, .int (nI x)), (2, .int (nI h)), (3, .int (nI 1)), (4, .int n)] [] (hk M T cs) (fun r9 => r9 = ((none, hk M T (w1 (w1 (w1 cs 36 h (cs 36 h + n)) 33 x (cs 33 x + n)) 35 x (cs 35 x + (nI 1) * n)))))
  refine r_iload_n rfl dc_3_5_0 ?_
  refine r_nzlt (t := 20) (by omega) (by decide) dc_3_5_1 ?_
  refine r_iload_n rfl dc_3_5_4 ?_
  refine r_bipush (v := nI 12) (by decide) dc_3_5_5 ?_
  refine r_ncge (t := 20) (by omega) (by omega) (by decide) dc_3_5_7 (fun c_7 => ?_) (fun c_7 => ?_)
  · omega
  · skip
    refine r_iload_n rfl dc_3_5_10 ?_
    refine r_nzlt (t := 20) (by omega) (by decide) dc_3_5_11 ?_
    refine r_iload_n rfl dc_3_5_14 ?_
    refine r_bipush (v := nI 8) (by decide) dc_3_5_15 ?_
    refine r_nclt (t := 21) (by omega) (by omega) (by decide) dc_3_5_17 (fun c_17 => ?_) (fun c_17 => ?_)
    · skip
      refine r_aload_n rfl dc_3_5_21 ?_
      refine h_get (t := cT e 29) (v := .ref 36) fx_8_30 (hF 29 (by decide)) ⟨by omega, by omega⟩ (rfl) dc_3_5_22 ?_
      refine r_iload_n rfl dc_3_5_25 ?_
      refine r_dup2 ⟨rfl, rfl⟩ dc_3_5_26 ?_
      refine h_ild (n := 8) (e := h) (v := cs 36 h) (hF 36 (by decide)) ⟨by omega, by omega⟩ (show h < 8 by omega) (by omega) (rfl) dc_3_5_27 ?_
      refine r_iload rfl dc_3_5_28 ?_
      refine r_iadd (v := (cs 36 h) + n) (rfl) dc_3_5_30 ?_
      refine h_ist (n := 8) (e := h) (hF 36 (by decide)) ⟨by omega, by omega⟩ (show h < 8 by omega) (by omega) dc_3_5_31 ?_
      refine r_iload_n rfl dc_3_5_32 ?_
      refine r_ifle (t := 50) (by decide) dc_3_5_33 (fun c_33 => ?_) (fun c_33 => ?_)
      · exact absurd c_33 (by decide)
      · skip
        refine r_aload_n rfl dc_3_5_36 ?_
        refine h_get (t := cT e 29) (v := .ref 33) fx_8_21 (hF 29 (by decide)) ⟨by omega, by omega⟩ (rfl) dc_3_5_37 ?_
        refine r_iload_n rfl dc_3_5_40 ?_
        refine r_dup2 ⟨rfl, rfl⟩ dc_3_5_41 ?_
        refine h_ild (n := 12) (e := x) (v := cs 33 x) (hF 33 (by decide)) ⟨by omega, by omega⟩ (show x < 12 by omega) (by omega) (rfl) dc_3_5_42 ?_
        refine r_iload rfl dc_3_5_43 ?_
        refine r_iadd (v := (cs 33 x) + n) (rfl) dc_3_5_45 ?_
        refine h_ist (n := 12) (e := x) (hF 33 (by decide)) ⟨by omega, by omega⟩ (show x < 12 by omega) (by omega) dc_3_5_46 ?_
        refine r_goto (t := 61) (by decide) dc_3_5_47 ?_
        refine r_aload_n rfl dc_3_5_61 ?_
        refine h_get (t := cT e 29) (v := .ref 35) fx_8_27 (hF 29 (by decide)) ⟨by omega, by omega⟩ (rfl) dc_3_5_62 ?_
        refine r_iload_n rfl dc_3_5_65 ?_
        refine r_dup2 ⟨rfl, rfl⟩ dc_3_5_66 ?_
        refine h_ild (n := 12) (e := x) (v := cs 35 x) (hF 35 (by decide)) ⟨by omega, by omega⟩ (show x < 12 by omega) (by omega) (rfl) dc_3_5_67 ?_
        refine r_iload_n rfl dc_3_5_68 ?_
        refine r_iload rfl dc_3_5_69 ?_
        refine r_imul (v := (nI 1) * n) (rfl) dc_3_5_71 ?_
        refine r_iadd (v := (cs 35 x) + ((nI 1) * n)) (rfl) dc_3_5_72 ?_
        refine h_ist (n := 12) (e := x) (hF 35 (by decide)) ⟨by omega, by omega⟩ (show x < 12 by omega) (by omega) dc_3_5_73 ?_
        exact r_vret rfl dc_3_5_74 (rfl)
    · omega
set_option maxHeartbeats 4000000 in
theorem k_roomp (M : mH) (hM : 157 ≤ M.1) (T : Nat → mT) (e : Nat → Nat) (hF : ShF T e) (cs : Nat → Nat → Int32) (x h : Nat) (hx : x < 12) (hh : h < 8) : mm_Ev 1 132 [.ref 29, .int (nI x), .int (nI h), .int (nI 1)] (hk M T cs) ((some (.int (pI (cs 33 x < cs 30 x ∧ cs 36 h < cs 32 h))), hk M T cs)) := by
  refine r_ev (by decide +kernel) (show (4 : Nat) ≤ mm_nL 132 by decide +kernel) ?_
  show mm_Ru 0 (8, 5, false, prog_3_method_7_code, some .boolean) 0 [(0, .ref 29), (1, .int (nI x)), (2, .int (nI h)), (3, .int (nI 1))] [] (hk M T cs) (fun r9 => r9 = ((some (.int (pI (cs 33 x < cs 30 x ∧ cs 36 h < cs 32 h))), hk M T cs)))
  refine r_iload_n rfl dc_3_7_0 ?_
  refine r_nzlt (t := 20) (by omega) (by decide) dc_3_7_1 ?_
  refine r_iload_n rfl dc_3_7_4 ?_
  refine r_bipush (v := nI 12) (by decide) dc_3_7_5 ?_
  refine r_ncge (t := 20) (by omega) (by omega) (by decide) dc_3_7_7 (fun c_7 => ?_) (fun c_7 => ?_)
  · omega
  · skip
    refine r_iload_n rfl dc_3_7_10 ?_
    refine r_nzlt (t := 20) (by omega) (by decide) dc_3_7_11 ?_
    refine r_iload_n rfl dc_3_7_14 ?_
    refine r_bipush (v := nI 8) (by decide) dc_3_7_15 ?_
    refine r_nclt (t := 22) (by omega) (by omega) (by decide) dc_3_7_17 (fun c_17 => ?_) (fun c_17 => ?_)
    · skip
      refine r_iload_n rfl dc_3_7_22 ?_
      refine r_ifle (t := 35) (by decide) dc_3_7_23 (fun c_23 => ?_) (fun c_23 => ?_)
      · exact absurd c_23 (by decide)
      · skip
        refine r_aload_n rfl dc_3_7_26 ?_
        refine h_get (t := cT e 29) (v := .ref 33) fx_8_21 (hF 29 (by decide)) ⟨by omega, by omega⟩ (rfl) dc_3_7_27 ?_
        refine r_iload_n rfl dc_3_7_30 ?_
        refine h_ild (n := 12) (e := x) (v := cs 33 x) (hF 33 (by decide)) ⟨by omega, by omega⟩ (show x < 12 by omega) (by omega) (rfl) dc_3_7_31 ?_
        refine r_goto (t := 41) (by decide) dc_3_7_32 ?_
        refine r_istore (ls' := [(4, .int (cs 33 x)), (0, .ref 29), (1, .int (nI x)), (2, .int (nI h)), (3, .int (nI 1))]) (by decide) rfl dc_3_7_41 ?_
        refine r_iload rfl dc_3_7_43 ?_
        refine r_aload_n rfl dc_3_7_45 ?_
        refine h_get (t := cT e 29) (v := .ref 30) fx_8_9 (hF 29 (by decide)) ⟨by omega, by omega⟩ (rfl) dc_3_7_46 ?_
        refine r_iload_n rfl dc_3_7_49 ?_
        refine h_ild (n := 12) (e := x) (v := cs 30 x) (hF 30 (by decide)) ⟨by omega, by omega⟩ (show x < 12 by omega) (by omega) (rfl) dc_3_7_50 ?_
        refine r_icge (t := 73) (by decide) dc_3_7_51 (fun c_51 => ?_) (fun c_51 => ?_)
        · skip
          refine r_iconst (v := nI 0) (by decide) dc_3_7_73 ?_
          refine r_zret rfl (by decide) dc_3_7_74 ?_
          rw [pI_f (fun z => absurd z.1 (Int32.not_lt.mpr c_51))]
        · skip
          refine r_aload_n rfl dc_3_7_54 ?_
          refine h_get (t := cT e 29) (v := .ref 36) fx_8_30 (hF 29 (by decide)) ⟨by omega, by omega⟩ (rfl) dc_3_7_55 ?_
          refine r_iload_n rfl dc_3_7_58 ?_
          refine h_ild (n := 8) (e := h) (v := cs 36 h) (hF 36 (by decide)) ⟨by omega, by omega⟩ (show h < 8 by omega) (by omega) (rfl) dc_3_7_59 ?_
          refine r_aload_n rfl dc_3_7_60 ?_
          refine h_get (t := cT e 29) (v := .ref 32) fx_8_18 (hF 29 (by decide)) ⟨by omega, by omega⟩ (rfl) dc_3_7_61 ?_
          refine r_iload_n rfl dc_3_7_64 ?_
          refine h_ild (n := 8) (e := h) (v := cs 32 h) (hF 32 (by decide)) ⟨by omega, by omega⟩ (show h < 8 by omega) (by omega) (rfl) dc_3_7_65 ?_
          refine r_icge (t := 73) (by decide) dc_3_7_66 (fun c_66 => ?_) (fun c_66 => ?_)
          · skip
            refine r_iconst (v := nI 0) (by decide) dc_3_7_73 ?_
            refine r_zret rfl (by decide) dc_3_7_74 ?_
            rw [pI_f (fun z => absurd z.2 (Int32.not_lt.mpr c_66))]
          · skip
            refine r_iconst (v := nI 1) (by decide) dc_3_7_69 ?_
            refine r_goto (t := 74) (by decide) dc_3_7_70 ?_
            refine r_zret rfl (by decide) dc_3_7_74 ?_
            rw [pI_t ⟨Int32.not_le.mp c_51, Int32.not_le.mp c_66⟩]
    · omega
set_option maxHeartbeats 4000000 in
theorem k_addGm (M : mH) (hM : 157 ≤ M.1) (T : Nat → mT) (e : Nat → Nat) (hF : ShF T e) (cs : Nat → Nat → Int32) (x h : Nat) (n : Int32) (hx : x < 12) (hh : h < 8) : mm_Ev 1 124 [.ref 29, .int (nI x), .int (nI h), .int ((-1)), .int n] (hk M T cs) ((none, hk M T (w1 (w1 (w1 cs 36 h (cs 36 h + n)) 34 x (cs 34 x + n)) 35 x (cs 35 x + ((-1)) * n)))) := by
  refine r_ev (by decide +kernel) (show (5 : Nat) ≤ mm_nL 124 by decide +kernel) ?_
  show mm_Ru 0 (8, 5, false, prog_3_method_5_code, none) 0 [(0, .ref 29), (1, .int (nI x)), (2, .int (nI h)), (3, .int ((-1))), (4, .int n)] [] (hk M T cs) (fun r9 => r9 = ((none, hk M T (w1 (w1 (w1 cs 36 h (cs 36 h + n)) 34 x (cs 34 x + n)) 35 x (cs 35 x + ((-1)) * n)))))
  refine r_iload_n rfl dc_3_5_0 ?_
  refine r_nzlt (t := 20) (by omega) (by decide) dc_3_5_1 ?_
  refine r_iload_n rfl dc_3_5_4 ?_
  refine r_bipush (v := nI 12) (by decide) dc_3_5_5 ?_
  refine r_ncge (t := 20) (by omega) (by omega) (by decide) dc_3_5_7 (fun c_7 => ?_) (fun c_7 => ?_)
  · omega
  · skip
    refine r_iload_n rfl dc_3_5_10 ?_
    refine r_nzlt (t := 20) (by omega) (by decide) dc_3_5_11 ?_
    refine r_iload_n rfl dc_3_5_14 ?_
    refine r_bipush (v := nI 8) (by decide) dc_3_5_15 ?_
    refine r_nclt (t := 21) (by omega) (by omega) (by decide) dc_3_5_17 (fun c_17 => ?_) (fun c_17 => ?_)
    · skip
      refine r_aload_n rfl dc_3_5_21 ?_
      refine h_get (t := cT e 29) (v := .ref 36) fx_8_30 (hF 29 (by decide)) ⟨by omega, by omega⟩ (rfl) dc_3_5_22 ?_
      refine r_iload_n rfl dc_3_5_25 ?_
      refine r_dup2 ⟨rfl, rfl⟩ dc_3_5_26 ?_
      refine h_ild (n := 8) (e := h) (v := cs 36 h) (hF 36 (by decide)) ⟨by omega, by omega⟩ (show h < 8 by omega) (by omega) (rfl) dc_3_5_27 ?_
      refine r_iload rfl dc_3_5_28 ?_
      refine r_iadd (v := (cs 36 h) + n) (rfl) dc_3_5_30 ?_
      refine h_ist (n := 8) (e := h) (hF 36 (by decide)) ⟨by omega, by omega⟩ (show h < 8 by omega) (by omega) dc_3_5_31 ?_
      refine r_iload_n rfl dc_3_5_32 ?_
      refine r_ifle (t := 50) (by decide) dc_3_5_33 (fun c_33 => ?_) (fun c_33 => ?_)
      · skip
        refine r_aload_n rfl dc_3_5_50 ?_
        refine h_get (t := cT e 29) (v := .ref 34) fx_8_24 (hF 29 (by decide)) ⟨by omega, by omega⟩ (rfl) dc_3_5_51 ?_
        refine r_iload_n rfl dc_3_5_54 ?_
        refine r_dup2 ⟨rfl, rfl⟩ dc_3_5_55 ?_
        refine h_ild (n := 12) (e := x) (v := cs 34 x) (hF 34 (by decide)) ⟨by omega, by omega⟩ (show x < 12 by omega) (by omega) (rfl) dc_3_5_56 ?_
        refine r_iload rfl dc_3_5_57 ?_
        refine r_iadd (v := (cs 34 x) + n) (rfl) dc_3_5_59 ?_
        refine h_ist (n := 12) (e := x) (hF 34 (by decide)) ⟨by omega, by omega⟩ (show x < 12 by omega) (by omega) dc_3_5_60 ?_
        refine r_aload_n rfl dc_3_5_61 ?_
        refine h_get (t := cT e 29) (v := .ref 35) fx_8_27 (hF 29 (by decide)) ⟨by omega, by omega⟩ (rfl) dc_3_5_62 ?_
        refine r_iload_n rfl dc_3_5_65 ?_
        refine r_dup2 ⟨rfl, rfl⟩ dc_3_5_66 ?_
        refine h_ild (n := 12) (e := x) (v := cs 35 x) (hF 35 (by decide)) ⟨by omega, by omega⟩ (show x < 12 by omega) (by omega) (rfl) dc_3_5_67 ?_
        refine r_iload_n rfl dc_3_5_68 ?_
        refine r_iload rfl dc_3_5_69 ?_
        refine r_imul (v := ((-1)) * n) (rfl) dc_3_5_71 ?_
        refine r_iadd (v := (cs 35 x) + (((-1)) * n)) (rfl) dc_3_5_72 ?_
        refine h_ist (n := 12) (e := x) (hF 35 (by decide)) ⟨by omega, by omega⟩ (show x < 12 by omega) (by omega) dc_3_5_73 ?_
        exact r_vret rfl dc_3_5_74 (rfl)
      · exact absurd c_33 (by decide)
    · omega
set_option maxHeartbeats 4000000 in
theorem k_roomm (M : mH) (hM : 157 ≤ M.1) (T : Nat → mT) (e : Nat → Nat) (hF : ShF T e) (cs : Nat → Nat → Int32) (x h : Nat) (hx : x < 12) (hh : h < 8) : mm_Ev 1 132 [.ref 29, .int (nI x), .int (nI h), .int ((-1))] (hk M T cs) ((some (.int (pI (cs 34 x < cs 30 x ∧ cs 36 h < cs 32 h))), hk M T cs)) := by
  refine r_ev (by decide +kernel) (show (4 : Nat) ≤ mm_nL 132 by decide +kernel) ?_
  show mm_Ru 0 (8, 5, false, prog_3_method_7_code, some .boolean) 0 [(0, .ref 29), (1, .int (nI x)), (2, .int (nI h)), (3, .int ((-1)))] [] (hk M T cs) (fun r9 => r9 = ((some (.int (pI (cs 34 x < cs 30 x ∧ cs 36 h < cs 32 h))), hk M T cs)))
  refine r_iload_n rfl dc_3_7_0 ?_
  refine r_nzlt (t := 20) (by omega) (by decide) dc_3_7_1 ?_
  refine r_iload_n rfl dc_3_7_4 ?_
  refine r_bipush (v := nI 12) (by decide) dc_3_7_5 ?_
  refine r_ncge (t := 20) (by omega) (by omega) (by decide) dc_3_7_7 (fun c_7 => ?_) (fun c_7 => ?_)
  · omega
  · skip
    refine r_iload_n rfl dc_3_7_10 ?_
    refine r_nzlt (t := 20) (by omega) (by decide) dc_3_7_11 ?_
    refine r_iload_n rfl dc_3_7_14 ?_
    refine r_bipush (v := nI 8) (by decide) dc_3_7_15 ?_
    refine r_nclt (t := 22) (by omega) (by omega) (by decide) dc_3_7_17 (fun c_17 => ?_) (fun c_17 => ?_)
    · skip
      refine r_iload_n rfl dc_3_7_22 ?_
      refine r_ifle (t := 35) (by decide) dc_3_7_23 (fun c_23 => ?_) (fun c_23 => ?_)
      · skip
        refine r_aload_n rfl dc_3_7_35 ?_
        refine h_get (t := cT e 29) (v := .ref 34) fx_8_24 (hF 29 (by decide)) ⟨by omega, by omega⟩ (rfl) dc_3_7_36 ?_
        refine r_iload_n rfl dc_3_7_39 ?_
        refine h_ild (n := 12) (e := x) (v := cs 34 x) (hF 34 (by decide)) ⟨by omega, by omega⟩ (show x < 12 by omega) (by omega) (rfl) dc_3_7_40 ?_
        refine r_istore (ls' := [(4, .int (cs 34 x)), (0, .ref 29), (1, .int (nI x)), (2, .int (nI h)), (3, .int ((-1)))]) (by decide) rfl dc_3_7_41 ?_
        refine r_iload rfl dc_3_7_43 ?_
        refine r_aload_n rfl dc_3_7_45 ?_
        refine h_get (t := cT e 29) (v := .ref 30) fx_8_9 (hF 29 (by decide)) ⟨by omega, by omega⟩ (rfl) dc_3_7_46 ?_
        refine r_iload_n rfl dc_3_7_49 ?_
        refine h_ild (n := 12) (e := x) (v := cs 30 x) (hF 30 (by decide)) ⟨by omega, by omega⟩ (show x < 12 by omega) (by omega) (rfl) dc_3_7_50 ?_
        refine r_icge (t := 73) (by decide) dc_3_7_51 (fun c_51 => ?_) (fun c_51 => ?_)
        · skip
          refine r_iconst (v := nI 0) (by decide) dc_3_7_73 ?_
          refine r_zret rfl (by decide) dc_3_7_74 ?_
          rw [pI_f (fun z => absurd z.1 (Int32.not_lt.mpr c_51))]
        · skip
          refine r_aload_n rfl dc_3_7_54 ?_
          refine h_get (t := cT e 29) (v := .ref 36) fx_8_30 (hF 29 (by decide)) ⟨by omega, by omega⟩ (rfl) dc_3_7_55 ?_
          refine r_iload_n rfl dc_3_7_58 ?_
          refine h_ild (n := 8) (e := h) (v := cs 36 h) (hF 36 (by decide)) ⟨by omega, by omega⟩ (show h < 8 by omega) (by omega) (rfl) dc_3_7_59 ?_
          refine r_aload_n rfl dc_3_7_60 ?_
          refine h_get (t := cT e 29) (v := .ref 32) fx_8_18 (hF 29 (by decide)) ⟨by omega, by omega⟩ (rfl) dc_3_7_61 ?_
          refine r_iload_n rfl dc_3_7_64 ?_
          refine h_ild (n := 8) (e := h) (v := cs 32 h) (hF 32 (by decide)) ⟨by omega, by omega⟩ (show h < 8 by omega) (by omega) (rfl) dc_3_7_65 ?_
          refine r_icge (t := 73) (by decide) dc_3_7_66 (fun c_66 => ?_) (fun c_66 => ?_)
          · skip
            refine r_iconst (v := nI 0) (by decide) dc_3_7_73 ?_
            refine r_zret rfl (by decide) dc_3_7_74 ?_
            rw [pI_f (fun z => absurd z.2 (Int32.not_lt.mpr c_66))]
          · skip
            refine r_iconst (v := nI 1) (by decide) dc_3_7_69 ?_
            refine r_goto (t := 74) (by decide) dc_3_7_70 ?_
            refine r_zret rfl (by decide) dc_3_7_74 ?_
            rw [pI_t ⟨Int32.not_le.mp c_51, Int32.not_le.mp c_66⟩]
      · exact absurd c_23 (by decide)
    · omega
set_option maxHeartbeats 4000000 in
theorem k_addG0 (M : mH) (hM : 157 ≤ M.1) (T : Nat → mT) (e : Nat → Nat) (hF : ShF T e) (cs : Nat → Nat → Int32) (h way n : Int32) : mm_Ev 1 124 [.ref 29, .int ((-1)), .int h, .int way, .int n] (hk M T cs) ((none, hk M T cs)) := by
  refine r_ev (by decide +kernel) (show (5 : Nat) ≤ mm_nL 124 by decide +kernel) ?_
  show mm_Ru 0 (8, 5, false, prog_3_method_5_code, none) 0 [(0, .ref 29), (1, .int ((-1))), (2, .int h), (3, .int way), (4, .int n)] [] (hk M T cs) (fun r9 => r9 = ((none, hk M T cs)))
  refine r_iload_n rfl dc_3_5_0 ?_
  refine r_iflt (t := 20) (by decide) dc_3_5_1 (fun c_1 => ?_) (fun c_1 => ?_)
  · skip
    exact r_vret rfl dc_3_5_20 (rfl)
  · exact absurd (by decide) c_1
set_option maxHeartbeats 4000000 in
theorem k_addB (M : mH) (hM : 157 ≤ M.1) (T : Nat → mT) (e : Nat → Nat) (hF : ShF T e) (cs : Nat → Nat → Int32) (x : Nat) (way n : Int32) (hx : x < 12) : mm_Ev 1 125 [.ref 29, .int (nI x), .int way, .int n] (hk M T cs) ((none, hk M T (w1 cs 35 x (cs 35 x + way * n)))) := by
  refine r_ev (by decide +kernel) (show (4 : Nat) ≤ mm_nL 125 by decide +kernel) ?_
  show mm_Ru 0 (8, 4, false, prog_3_method_6_code, none) 0 [(0, .ref 29), (1, .int (nI x)), (2, .int way), (3, .int n)] [] (hk M T cs) (fun r9 => r9 = ((none, hk M T (w1 cs 35 x (cs 35 x + way * n)))))
  refine r_iload_n rfl dc_3_6_0 ?_
  refine r_nzlt (t := 22) (by omega) (by decide) dc_3_6_1 ?_
  refine r_iload_n rfl dc_3_6_4 ?_
  refine r_bipush (v := nI 12) (by decide) dc_3_6_5 ?_
  refine r_ncge (t := 22) (by omega) (by omega) (by decide) dc_3_6_7 (fun c_7 => ?_) (fun c_7 => ?_)
  · omega
  · skip
    refine r_aload_n rfl dc_3_6_10 ?_
    refine h_get (t := cT e 29) (v := .ref 35) fx_8_27 (hF 29 (by decide)) ⟨by omega, by omega⟩ (rfl) dc_3_6_11 ?_
    refine r_iload_n rfl dc_3_6_14 ?_
    refine r_dup2 ⟨rfl, rfl⟩ dc_3_6_15 ?_
    refine h_ild (n := 12) (e := x) (v := cs 35 x) (hF 35 (by decide)) ⟨by omega, by omega⟩ (show x < 12 by omega) (by omega) (rfl) dc_3_6_16 ?_
    refine r_iload_n rfl dc_3_6_17 ?_
    refine r_iload_n rfl dc_3_6_18 ?_
    refine r_imul (v := way * n) (rfl) dc_3_6_19 ?_
    refine r_iadd (v := (cs 35 x) + (way * n)) (rfl) dc_3_6_20 ?_
    refine h_ist (n := 12) (e := x) (hF 35 (by decide)) ⟨by omega, by omega⟩ (show x < 12 by omega) (by omega) dc_3_6_21 ?_
    exact r_vret rfl dc_3_6_22 (rfl)
def numK (cs : Nat → Nat → Int32) : Prop := (∀ h, h < 8 → cs 36 h ≤ cs 32 h) ∧ ∀ x, x < 12 → cs 33 x ≤ cs 30 x ∧ cs 34 x ≤ cs 30 x
def canB (cs : Nat → Nat → Int32) (i : Nat) : Prop := ∀ x, x < 12 → cs 35 x - cs (90 + i) x ≤ cs 31 x ∧ -cs 31 x ≤ cs 35 x + cs (81 + i) x
set_option maxHeartbeats 4000000 in
theorem k_numK (M : mH) (hM : 157 ≤ M.1) (T : Nat → mT) (e : Nat → Nat) (hF : ShF T e) (cs : Nat → Nat → Int32) : mm_Ev 1 129 [.ref 29] (hk M T cs) ((some (.int (pI (numK cs))), hk M T cs)) := by
  refine r_ev (by decide +kernel) (show (1 : Nat) ≤ mm_nL 129 by decide +kernel) ?_
  show mm_Ru 0 (8, 2, false, prog_3_method_8_code, some .boolean) 0 [(0, .ref 29)] [] (hk M T cs) (fun r9 => r9 = ((some (.int (pI (numK cs))), hk M T cs)))
  refine r_iconst (v := nI 0) (by decide) dc_3_8_0 ?_
  refine r_istore_n (ls' := [(1, .int (nI 0)), (0, .ref 29)]) (by decide) rfl dc_3_8_1 ?_
  refine mm_cnt (P := fun m => (∀ j, j < m → cs 36 j ≤ cs 32 j) → mm_Ru 0 (8, 2, false, prog_3_method_8_code, some .boolean) 2 [(1, .int (nI m)), (0, .ref 29)] [] (hk M T cs) (fun r9 => r9 = ((some (.int (pI (numK cs))), hk M T cs)))) 8 ?_ ?_ 0 (by omega) (fun j hj => absurd hj (Nat.not_lt_zero j))
  · intro  hi_m
    show mm_Ru 0 (8, 2, false, prog_3_method_8_code, some .boolean) 2 [(1, .int (nI 8)), (0, .ref 29)] [] (hk M T cs) (fun r9 => r9 = ((some (.int (pI (numK cs))), hk M T cs)))
    refine r_iload_n rfl dc_3_8_2 ?_
    refine r_bipush (v := nI 8) (by decide) dc_3_8_3 ?_
    refine r_ncge (t := 31) (by omega) (by omega) (by decide) dc_3_8_5 (fun c_5 => ?_) (fun c_5 => ?_)
    · skip
      refine r_iconst (v := nI 0) (by decide) dc_3_8_31 ?_
      refine r_istore_n (ls' := [(1, .int (nI 0)), (0, .ref 29)]) (by decide) rfl dc_3_8_32 ?_
      refine mm_cnt (P := fun k => (∀ j, j < k → cs 33 j ≤ cs 30 j ∧ cs 34 j ≤ cs 30 j) → mm_Ru 0 (8, 2, false, prog_3_method_8_code, some .boolean) 33 [(1, .int (nI k)), (0, .ref 29)] [] (hk M T cs) (fun r9 => r9 = ((some (.int (pI (numK cs))), hk M T cs)))) 12 ?_ ?_ 0 (by omega) (fun j hj => absurd hj (Nat.not_lt_zero j))
      · intro  hi_k
        show mm_Ru 0 (8, 2, false, prog_3_method_8_code, some .boolean) 33 [(1, .int (nI 12)), (0, .ref 29)] [] (hk M T cs) (fun r9 => r9 = ((some (.int (pI (numK cs))), hk M T cs)))
        refine r_iload_n rfl dc_3_8_33 ?_
        refine r_bipush (v := nI 12) (by decide) dc_3_8_34 ?_
        refine r_ncge (t := 77) (by omega) (by omega) (by decide) dc_3_8_36 (fun c_36 => ?_) (fun c_36 => ?_)
        · skip
          refine r_iconst (v := nI 1) (by decide) dc_3_8_77 ?_
          refine r_zret rfl (by decide) dc_3_8_78 ?_
          rw [pI_t (P := numK cs) ⟨hi_m, hi_k⟩]
        · omega
      · intro k h_k ih_k  hi_k
        show mm_Ru 0 (8, 2, false, prog_3_method_8_code, some .boolean) 33 [(1, .int (nI k)), (0, .ref 29)] [] (hk M T cs) (fun r9 => r9 = ((some (.int (pI (numK cs))), hk M T cs)))
        refine r_iload_n rfl dc_3_8_33 ?_
        refine r_bipush (v := nI 12) (by decide) dc_3_8_34 ?_
        refine r_ncge (t := 77) (by omega) (by omega) (by decide) dc_3_8_36 (fun c_36 => ?_) (fun c_36 => ?_)
        · omega
        · skip
          refine r_aload_n rfl dc_3_8_39 ?_
          refine h_get (t := cT e 29) (v := .ref 33) fx_8_21 (hF 29 (by decide)) ⟨by omega, by omega⟩ (rfl) dc_3_8_40 ?_
          refine r_iload_n rfl dc_3_8_43 ?_
          refine h_ild (n := 12) (e := k) (v := cs 33 k) (hF 33 (by decide)) ⟨by omega, by omega⟩ (show k < 12 by omega) (by omega) (rfl) dc_3_8_44 ?_
          refine r_aload_n rfl dc_3_8_45 ?_
          refine h_get (t := cT e 29) (v := .ref 30) fx_8_9 (hF 29 (by decide)) ⟨by omega, by omega⟩ (rfl) dc_3_8_46 ?_
          refine r_iload_n rfl dc_3_8_49 ?_
          refine h_ild (n := 12) (e := k) (v := cs 30 k) (hF 30 (by decide)) ⟨by omega, by omega⟩ (show k < 12 by omega) (by omega) (rfl) dc_3_8_50 ?_
          refine r_icgt (t := 69) (by decide) dc_3_8_51 (fun c_51 => ?_) (fun c_51 => ?_)
          · skip
            refine r_iconst (v := nI 0) (by decide) dc_3_8_69 ?_
            refine r_zret rfl (by decide) dc_3_8_70 ?_
            rw [pI_f (P := numK cs) (fun z => absurd (z.2 k h_k).1 (Int32.not_le.mpr c_51))]
          · skip
            refine r_aload_n rfl dc_3_8_54 ?_
            refine h_get (t := cT e 29) (v := .ref 34) fx_8_24 (hF 29 (by decide)) ⟨by omega, by omega⟩ (rfl) dc_3_8_55 ?_
            refine r_iload_n rfl dc_3_8_58 ?_
            refine h_ild (n := 12) (e := k) (v := cs 34 k) (hF 34 (by decide)) ⟨by omega, by omega⟩ (show k < 12 by omega) (by omega) (rfl) dc_3_8_59 ?_
            refine r_aload_n rfl dc_3_8_60 ?_
            refine h_get (t := cT e 29) (v := .ref 30) fx_8_9 (hF 29 (by decide)) ⟨by omega, by omega⟩ (rfl) dc_3_8_61 ?_
            refine r_iload_n rfl dc_3_8_64 ?_
            refine h_ild (n := 12) (e := k) (v := cs 30 k) (hF 30 (by decide)) ⟨by omega, by omega⟩ (show k < 12 by omega) (by omega) (rfl) dc_3_8_65 ?_
            refine r_icle (t := 71) (by decide) dc_3_8_66 (fun c_66 => ?_) (fun c_66 => ?_)
            · skip
              refine r_iinc (n := 1) (k := 1) (x := nI k) (v := nI (k + 1)) (ls' := [(1, .int (nI (k + 1))), (0, .ref 29)]) rfl (nI_1 _) (by decide) rfl dc_3_8_71 ?_
              refine r_goto (t := 33) (by decide) dc_3_8_74 ?_
              exact ih_k (fun j hj => by rcases (by omega : j < k ∨ j = k) with q | rfl; exact hi_k j q; exact ⟨Int32.not_lt.mp c_51, c_66⟩)
            · skip
              refine r_iconst (v := nI 0) (by decide) dc_3_8_69 ?_
              refine r_zret rfl (by decide) dc_3_8_70 ?_
              rw [pI_f (P := numK cs) (fun z => absurd (z.2 k h_k).2 c_66)]
    · omega
  · intro m h_m ih_m  hi_m
    show mm_Ru 0 (8, 2, false, prog_3_method_8_code, some .boolean) 2 [(1, .int (nI m)), (0, .ref 29)] [] (hk M T cs) (fun r9 => r9 = ((some (.int (pI (numK cs))), hk M T cs)))
    refine r_iload_n rfl dc_3_8_2 ?_
    refine r_bipush (v := nI 8) (by decide) dc_3_8_3 ?_
    refine r_ncge (t := 31) (by omega) (by omega) (by decide) dc_3_8_5 (fun c_5 => ?_) (fun c_5 => ?_)
    · omega
    · skip
      refine r_aload_n rfl dc_3_8_8 ?_
      refine h_get (t := cT e 29) (v := .ref 36) fx_8_30 (hF 29 (by decide)) ⟨by omega, by omega⟩ (rfl) dc_3_8_9 ?_
      refine r_iload_n rfl dc_3_8_12 ?_
      refine h_ild (n := 8) (e := m) (v := cs 36 m) (hF 36 (by decide)) ⟨by omega, by omega⟩ (show m < 8 by omega) (by omega) (rfl) dc_3_8_13 ?_
      refine r_aload_n rfl dc_3_8_14 ?_
      refine h_get (t := cT e 29) (v := .ref 32) fx_8_18 (hF 29 (by decide)) ⟨by omega, by omega⟩ (rfl) dc_3_8_15 ?_
      refine r_iload_n rfl dc_3_8_18 ?_
      refine h_ild (n := 8) (e := m) (v := cs 32 m) (hF 32 (by decide)) ⟨by omega, by omega⟩ (show m < 8 by omega) (by omega) (rfl) dc_3_8_19 ?_
      refine r_icle (t := 25) (by decide) dc_3_8_20 (fun c_20 => ?_) (fun c_20 => ?_)
      · skip
        refine r_iinc (n := 1) (k := 1) (x := nI m) (v := nI (m + 1)) (ls' := [(1, .int (nI (m + 1))), (0, .ref 29)]) rfl (nI_1 _) (by decide) rfl dc_3_8_25 ?_
        refine r_goto (t := 2) (by decide) dc_3_8_28 ?_
        exact ih_m (fun j hj => by rcases (by omega : j < m ∨ j = m) with q | rfl; exact hi_m j q; exact c_20)
      · skip
        refine r_iconst (v := nI 0) (by decide) dc_3_8_23 ?_
        refine r_zret rfl (by decide) dc_3_8_24 ?_
        rw [pI_f (P := numK cs) (fun z => absurd (z.1 m h_m) c_20)]
set_option maxHeartbeats 4000000 in
theorem k_canB (M : mH) (hM : 157 ≤ M.1) (T : Nat → mT) (e : Nat → Nat) (hF : ShF T e) (cs : Nat → Nat → Int32) (i : Nat) (hi : i < 8) : mm_Ev 1 131 [.ref 29, .ref (81 + i), .ref (90 + i)] (hk M T cs) ((some (.int (pI (canB cs i))), hk M T cs)) := by
  refine r_ev (by decide +kernel) (show (3 : Nat) ≤ mm_nL 131 by decide +kernel) ?_
  show mm_Ru 0 (8, 4, false, prog_3_method_9_code, some .boolean) 0 [(0, .ref 29), (1, .ref (81 + i)), (2, .ref (90 + i))] [] (hk M T cs) (fun r9 => r9 = ((some (.int (pI (canB cs i))), hk M T cs)))
  refine r_iconst (v := nI 0) (by decide) dc_3_9_0 ?_
  refine r_istore_n (ls' := [(3, .int (nI 0)), (0, .ref 29), (1, .ref (81 + i)), (2, .ref (90 + i))]) (by decide) rfl dc_3_9_1 ?_
  refine mm_cnt (P := fun m => (∀ j, j < m → cs 35 j - cs (90 + i) j ≤ cs 31 j ∧ -cs 31 j ≤ cs 35 j + cs (81 + i) j) → mm_Ru 0 (8, 4, false, prog_3_method_9_code, some .boolean) 2 [(3, .int (nI m)), (0, .ref 29), (1, .ref (81 + i)), (2, .ref (90 + i))] [] (hk M T cs) (fun r9 => r9 = ((some (.int (pI (canB cs i))), hk M T cs)))) 12 ?_ ?_ 0 (by omega) (fun j hj => absurd hj (Nat.not_lt_zero j))
  · intro  hi_m
    show mm_Ru 0 (8, 4, false, prog_3_method_9_code, some .boolean) 2 [(3, .int (nI 12)), (0, .ref 29), (1, .ref (81 + i)), (2, .ref (90 + i))] [] (hk M T cs) (fun r9 => r9 = ((some (.int (pI (canB cs i))), hk M T cs)))
    refine r_iload_n rfl dc_3_9_2 ?_
    refine r_bipush (v := nI 12) (by decide) dc_3_9_3 ?_
    refine r_ncge (t := 67) (by omega) (by omega) (by decide) dc_3_9_5 (fun c_5 => ?_) (fun c_5 => ?_)
    · skip
      refine r_iconst (v := nI 1) (by decide) dc_3_9_67 ?_
      refine r_zret rfl (by decide) dc_3_9_68 ?_
      rw [pI_t (P := canB cs i) hi_m]
    · omega
  · intro m h_m ih_m  hi_m
    show mm_Ru 0 (8, 4, false, prog_3_method_9_code, some .boolean) 2 [(3, .int (nI m)), (0, .ref 29), (1, .ref (81 + i)), (2, .ref (90 + i))] [] (hk M T cs) (fun r9 => r9 = ((some (.int (pI (canB cs i))), hk M T cs)))
    refine r_iload_n rfl dc_3_9_2 ?_
    refine r_bipush (v := nI 12) (by decide) dc_3_9_3 ?_
    refine r_ncge (t := 67) (by omega) (by omega) (by decide) dc_3_9_5 (fun c_5 => ?_) (fun c_5 => ?_)
    · omega
    · skip
      refine r_iload_n rfl dc_3_9_8 ?_
      refine r_aload_n rfl dc_3_9_9 ?_
      refine h_len (c := 20) (n := 12) ((hF (81 + i) (by omega)).trans (cR_80 e i (by omega))) (Or.inl rfl) ⟨by omega, by omega⟩ dc_3_9_10 ?_
      refine r_ncge (t := 67) (by omega) (by omega) (by decide) dc_3_9_11 (fun c_11 => ?_) (fun c_11 => ?_)
      · omega
      · skip
        refine r_iload_n rfl dc_3_9_14 ?_
        refine r_aload_n rfl dc_3_9_15 ?_
        refine h_len (c := 20) (n := 12) ((hF (90 + i) (by omega)).trans (cR_89 e i (by omega))) (Or.inl rfl) ⟨by omega, by omega⟩ dc_3_9_16 ?_
        refine r_ncge (t := 67) (by omega) (by omega) (by decide) dc_3_9_17 (fun c_17 => ?_) (fun c_17 => ?_)
        · omega
        · skip
          refine r_aload_n rfl dc_3_9_20 ?_
          refine h_get (t := cT e 29) (v := .ref 35) fx_8_27 (hF 29 (by decide)) ⟨by omega, by omega⟩ (rfl) dc_3_9_21 ?_
          refine r_iload_n rfl dc_3_9_24 ?_
          refine h_ild (n := 12) (e := m) (v := cs 35 m) (hF 35 (by decide)) ⟨by omega, by omega⟩ (show m < 12 by omega) (by omega) (rfl) dc_3_9_25 ?_
          refine r_aload_n rfl dc_3_9_26 ?_
          refine r_iload_n rfl dc_3_9_27 ?_
          refine h_ild (n := 12) (e := m) (v := cs (90 + i) m) ((hF (90 + i) (by omega)).trans (cR_89 e i (by omega))) ⟨by omega, by omega⟩ (show m < 12 by omega) (by omega) (rfl) dc_3_9_28 ?_
          refine r_isub (v := (cs 35 m) - (cs (90 + i) m)) (rfl) dc_3_9_29 ?_
          refine r_aload_n rfl dc_3_9_30 ?_
          refine h_get (t := cT e 29) (v := .ref 31) fx_8_15 (hF 29 (by decide)) ⟨by omega, by omega⟩ (rfl) dc_3_9_31 ?_
          refine r_iload_n rfl dc_3_9_34 ?_
          refine h_ild (n := 12) (e := m) (v := cs 31 m) (hF 31 (by decide)) ⟨by omega, by omega⟩ (show m < 12 by omega) (by omega) (rfl) dc_3_9_35 ?_
          refine r_icgt (t := 59) (by decide) dc_3_9_36 (fun c_36 => ?_) (fun c_36 => ?_)
          · skip
            refine r_iconst (v := nI 0) (by decide) dc_3_9_59 ?_
            refine r_zret rfl (by decide) dc_3_9_60 ?_
            rw [pI_f (P := canB cs i) (fun z => absurd (z m h_m).1 (Int32.not_le.mpr c_36))]
          · skip
            refine r_aload_n rfl dc_3_9_39 ?_
            refine h_get (t := cT e 29) (v := .ref 35) fx_8_27 (hF 29 (by decide)) ⟨by omega, by omega⟩ (rfl) dc_3_9_40 ?_
            refine r_iload_n rfl dc_3_9_43 ?_
            refine h_ild (n := 12) (e := m) (v := cs 35 m) (hF 35 (by decide)) ⟨by omega, by omega⟩ (show m < 12 by omega) (by omega) (rfl) dc_3_9_44 ?_
            refine r_aload_n rfl dc_3_9_45 ?_
            refine r_iload_n rfl dc_3_9_46 ?_
            refine h_ild (n := 12) (e := m) (v := cs (81 + i) m) ((hF (81 + i) (by omega)).trans (cR_80 e i (by omega))) ⟨by omega, by omega⟩ (show m < 12 by omega) (by omega) (rfl) dc_3_9_47 ?_
            refine r_iadd (v := (cs 35 m) + (cs (81 + i) m)) (rfl) dc_3_9_48 ?_
            refine r_aload_n rfl dc_3_9_49 ?_
            refine h_get (t := cT e 29) (v := .ref 31) fx_8_15 (hF 29 (by decide)) ⟨by omega, by omega⟩ (rfl) dc_3_9_50 ?_
            refine r_iload_n rfl dc_3_9_53 ?_
            refine h_ild (n := 12) (e := m) (v := cs 31 m) (hF 31 (by decide)) ⟨by omega, by omega⟩ (show m < 12 by omega) (by omega) (rfl) dc_3_9_54 ?_
            refine r_ineg (v := -(cs 31 m)) (rfl) dc_3_9_55 ?_
            refine r_icge (t := 61) (by decide) dc_3_9_56 (fun c_56 => ?_) (fun c_56 => ?_)
            · skip
              refine r_iinc (n := 3) (k := 1) (x := nI m) (v := nI (m + 1)) (ls' := [(3, .int (nI (m + 1))), (0, .ref 29), (1, .ref (81 + i)), (2, .ref (90 + i))]) rfl (nI_1 _) (by decide) rfl dc_3_9_61 ?_
              refine r_goto (t := 2) (by decide) dc_3_9_64 ?_
              exact ih_m (fun j hj => by rcases (by omega : j < m ∨ j = m) with q | rfl; exact hi_m j q; exact ⟨Int32.not_lt.mp c_36, c_56⟩)
            · skip
              refine r_iconst (v := nI 0) (by decide) dc_3_9_59 ?_
              refine r_zret rfl (by decide) dc_3_9_60 ?_
              rw [pI_f (P := canB cs i) (fun z => absurd (z m h_m).2 c_56)]
set_option maxHeartbeats 4000000 in
theorem k_pclear (M : mH) (hM : 157 ≤ M.1) (T : Nat → mT) (e : Nat → Nat) (hF : ShF T e) (cs : Nat → Nat → Int32) : ∃ (cs1 : Nat → Nat → Int32), (BClr cs1 ∧ cs1 28 1 = nI 0 ∧ (∀ a, a < 28 ∨ 36 < a → cs1 a = cs a) ∧ cs1 28 14 = cs 28 14) ∧ mm_Ev 3 112 [.ref 28] (hk M T cs) ((none, hk M T cs1)) := by
  have hq9 : ∃ z, (fun r9 => ∃ (cs1 : Nat → Nat → Int32), (BClr cs1 ∧ cs1 28 1 = nI 0 ∧ (∀ a, a < 28 ∨ 36 < a → cs1 a = cs a) ∧ cs1 28 14 = cs 28 14) ∧ r9 = ((none, hk M T cs1))) z ∧ mm_Ev 3 112 [.ref 28] (hk M T cs) z := by
    refine r_evQ (by decide +kernel) (show (1 : Nat) ≤ mm_nL 112 by decide +kernel) ?_
    show mm_Ru 2 (7, 1, false, prog_7_method_2_code, none) 0 [(0, .ref 28)] [] (hk M T cs) (fun r9 => ∃ (cs1 : Nat → Nat → Int32), (BClr cs1 ∧ cs1 28 1 = nI 0 ∧ (∀ a, a < 28 ∨ 36 < a → cs1 a = cs a) ∧ cs1 28 14 = cs 28 14) ∧ r9 = ((none, hk M T cs1)))
    refine r_aload_n rfl dc_7_2_0 ?_
    refine r_iconst (v := nI 0) (by decide) dc_7_2_1 ?_
    refine h_pint (t := cT e 28) fx_7_20 (hF 28 (by decide)) ⟨by omega, by omega⟩ (Or.inl fn_7_1) ty_7_1 (pi_7_1 _ _ _ _) dc_7_2_2 ?_
    refine r_aload_n rfl dc_7_2_5 ?_
    refine h_get (t := cT e 28) (v := .ref 29) fx_7_14 (hF 28 (by decide)) ⟨by omega, by omega⟩ (rfl) dc_7_2_6 ?_
    obtain ⟨cs1, ⟨hc1, hc2⟩, hev⟩ := k_bclear M hM T e hF (w1 cs 28 1 (nI 0))
    refine h_call0 (t := cT e 29) (as := []) (rest := []) (M1 := hk M T cs1) rfl rfl iv_7_v67 (Or.inl rfl) na_1_113 (hF 29 (by decide)) ⟨by omega, by omega⟩ (show (8 : Nat) < 14 by decide) o_113 rfl (show (0 : Nat) ≤ 8 by decide) dc_7_2_9 (hev) ?_
    refine r_vret rfl dc_7_2_12 ?_
    exact ⟨_, ⟨hc1, (congrFun (hc2 28 (by omega)) 1).trans rfl, fun a ha => (hc2 a (by omega)).trans (w1_n _ _ _ (by omega)), (congrFun (hc2 28 (by omega)) 14).trans rfl⟩, rfl⟩
  obtain ⟨z9, ⟨cs1, p9, e9⟩, h9⟩ := hq9
  subst e9
  exact ⟨cs1, p9, h9⟩
set_option maxHeartbeats 4000000 in
theorem k_addSt (M : mH) (hM : 157 ≤ M.1) (T : Nat → mT) (e : Nat → Nat) (hF : ShF T e) (cs : Nat → Nat → Int32) (n : Nat) (hsz : cs 28 1 = nI n) (hn : n < 7) (s : Int32) : mm_Ev 1 119 [.ref 28, .int s] (hk M T cs) ((none, hk M T (w1 (w1 (w1 cs 37 n s) 38 n (nI 0)) 28 1 (nI (n + 1))))) := by
  refine r_ev (by decide +kernel) (show (2 : Nat) ≤ mm_nL 119 by decide +kernel) ?_
  show mm_Ru 0 (7, 2, false, prog_7_method_3_code, none) 0 [(0, .ref 28), (1, .int s)] [] (hk M T cs) (fun r9 => r9 = ((none, hk M T (w1 (w1 (w1 cs 37 n s) 38 n (nI 0)) 28 1 (nI (n + 1))))))
  refine r_aload_n rfl dc_7_3_0 ?_
  refine h_get (t := cT e 28) (v := .int (nI n)) fx_7_20 (hF 28 (by decide)) ⟨by omega, by omega⟩ (show some (Value.int _) = _ from congrArg (fun z => some (Value.int z)) (hsz)) dc_7_3_1 ?_
  refine r_nzlt (t := 46) (by omega) (by decide) dc_7_3_4 ?_
  refine r_aload_n rfl dc_7_3_7 ?_
  refine h_get (t := cT e 28) (v := .int (nI n)) fx_7_20 (hF 28 (by decide)) ⟨by omega, by omega⟩ (show some (Value.int _) = _ from congrArg (fun z => some (Value.int z)) (hsz)) dc_7_3_8 ?_
  refine r_bipush (v := nI 7) (by decide) dc_7_3_11 ?_
  refine r_ncge (t := 46) (by omega) (by omega) (by decide) dc_7_3_13 (fun c_13 => ?_) (fun c_13 => ?_)
  · omega
  · skip
    refine r_aload_n rfl dc_7_3_16 ?_
    refine h_get (t := cT e 28) (v := .ref 37) fx_7_24 (hF 28 (by decide)) ⟨by omega, by omega⟩ (rfl) dc_7_3_17 ?_
    refine r_aload_n rfl dc_7_3_20 ?_
    refine h_get (t := cT e 28) (v := .int (nI n)) fx_7_20 (hF 28 (by decide)) ⟨by omega, by omega⟩ (show some (Value.int _) = _ from congrArg (fun z => some (Value.int z)) (hsz)) dc_7_3_21 ?_
    refine r_iload_n rfl dc_7_3_24 ?_
    refine h_ist (n := 7) (e := n) (hF 37 (by decide)) ⟨by omega, by omega⟩ (show n < 7 by omega) (by omega) dc_7_3_25 ?_
    refine r_aload_n rfl dc_7_3_26 ?_
    refine h_get (t := cT e 28) (v := .ref 38) fx_7_28 (hF 28 (by decide)) ⟨by omega, by omega⟩ (rfl) dc_7_3_27 ?_
    refine r_aload_n rfl dc_7_3_30 ?_
    refine h_get (t := cT e 28) (v := .int (nI n)) fx_7_20 (hF 28 (by decide)) ⟨by omega, by omega⟩ (show some (Value.int _) = _ from congrArg (fun z => some (Value.int z)) (hsz)) dc_7_3_31 ?_
    refine r_iconst (v := nI 0) (by decide) dc_7_3_34 ?_
    refine h_ist (n := 7) (e := n) (hF 38 (by decide)) ⟨by omega, by omega⟩ (show n < 7 by omega) (by omega) dc_7_3_35 ?_
    refine r_aload_n rfl dc_7_3_36 ?_
    refine r_dup rfl dc_7_3_37 ?_
    refine h_get (t := cT e 28) (v := .int (nI n)) fx_7_20 (hF 28 (by decide)) ⟨by omega, by omega⟩ (show some (Value.int _) = _ from congrArg (fun z => some (Value.int z)) (hsz)) dc_7_3_38 ?_
    refine r_iconst (v := nI 1) (by decide) dc_7_3_41 ?_
    refine r_iadd (v := nI (n + 1)) (nI_add _ _) dc_7_3_42 ?_
    refine h_pint (t := cT e 28) fx_7_20 (hF 28 (by decide)) ⟨by omega, by omega⟩ (Or.inl fn_7_1) ty_7_1 (pi_7_1 _ _ _ _) dc_7_3_43 ?_
    exact r_vret rfl dc_7_3_46 (rfl)
set_option maxHeartbeats 4000000 in
theorem k_putO (M : mH) (hM : 157 ≤ M.1) (T : Nat → mT) (e : Nat → Nat) (hF : ShF T e) (cs : Nat → Nat → Int32) (n o : Nat) (hsz : cs 28 1 = nI (n + 1)) (hn : n < 7) (ho : cs 38 n = nI o) (ho5 : o < 5) (w h x y z : Int32) : mm_Ev 1 122 [.ref 28, .int w, .int h, .int x, .int y, .int z] (hk M T cs) ((none, hk M T (w1 (w1 (w1 (w1 (w1 (w1 cs (40 + n) o w) (48 + n) o h) (56 + n) o x) (64 + n) o y) (72 + n) o z) 38 n (nI (o + 1))))) := by
  refine r_ev (by decide +kernel) (show (6 : Nat) ≤ mm_nL 122 by decide +kernel) ?_
  show mm_Ru 0 (7, 8, false, prog_7_method_6_code, none) 0 [(0, .ref 28), (1, .int w), (2, .int h), (3, .int x), (4, .int y), (5, .int z)] [] (hk M T cs) (fun r9 => r9 = ((none, hk M T (w1 (w1 (w1 (w1 (w1 (w1 cs (40 + n) o w) (48 + n) o h) (56 + n) o x) (64 + n) o y) (72 + n) o z) 38 n (nI (o + 1))))))
  refine r_aload_n rfl dc_7_6_0 ?_
  refine h_get (t := cT e 28) (v := .int (nI (n + 1))) fx_7_20 (hF 28 (by decide)) ⟨by omega, by omega⟩ (show some (Value.int _) = _ from congrArg (fun z => some (Value.int z)) (hsz)) dc_7_6_1 ?_
  refine r_iconst (v := nI 1) (by decide) dc_7_6_4 ?_
  refine r_isub (v := nI n) (pk_s1 n) dc_7_6_5 ?_
  refine r_istore (ls' := [(6, .int (nI n)), (0, .ref 28), (1, .int w), (2, .int h), (3, .int x), (4, .int y), (5, .int z)]) (by decide) rfl dc_7_6_6 ?_
  refine r_iload rfl dc_7_6_8 ?_
  refine r_nzlt (t := 41) (by omega) (by decide) dc_7_6_10 ?_
  refine r_iload rfl dc_7_6_13 ?_
  refine r_bipush (v := nI 7) (by decide) dc_7_6_15 ?_
  refine r_ncge (t := 41) (by omega) (by omega) (by decide) dc_7_6_17 (fun c_17 => ?_) (fun c_17 => ?_)
  · omega
  · skip
    refine r_aload_n rfl dc_7_6_20 ?_
    refine h_get (t := cT e 28) (v := .ref 38) fx_7_28 (hF 28 (by decide)) ⟨by omega, by omega⟩ (rfl) dc_7_6_21 ?_
    refine r_iload rfl dc_7_6_24 ?_
    refine h_ild (n := 7) (e := n) (v := nI o) (hF 38 (by decide)) ⟨by omega, by omega⟩ (show n < 7 by omega) (by omega) (ho) dc_7_6_26 ?_
    refine r_nzlt (t := 41) (by omega) (by decide) dc_7_6_27 ?_
    refine r_aload_n rfl dc_7_6_30 ?_
    refine h_get (t := cT e 28) (v := .ref 38) fx_7_28 (hF 28 (by decide)) ⟨by omega, by omega⟩ (rfl) dc_7_6_31 ?_
    refine r_iload rfl dc_7_6_34 ?_
    refine h_ild (n := 7) (e := n) (v := nI o) (hF 38 (by decide)) ⟨by omega, by omega⟩ (show n < 7 by omega) (by omega) (ho) dc_7_6_36 ?_
    refine r_iconst (v := nI 5) (by decide) dc_7_6_37 ?_
    refine r_nclt (t := 42) (by omega) (by omega) (by decide) dc_7_6_38 (fun c_38 => ?_) (fun c_38 => ?_)
    · skip
      refine r_aload_n rfl dc_7_6_42 ?_
      refine h_get (t := cT e 28) (v := .ref 38) fx_7_28 (hF 28 (by decide)) ⟨by omega, by omega⟩ (rfl) dc_7_6_43 ?_
      refine r_iload rfl dc_7_6_46 ?_
      refine h_ild (n := 7) (e := n) (v := nI o) (hF 38 (by decide)) ⟨by omega, by omega⟩ (show n < 7 by omega) (by omega) (ho) dc_7_6_48 ?_
      refine r_istore (ls' := [(7, .int (nI o)), (6, .int (nI n)), (0, .ref 28), (1, .int w), (2, .int h), (3, .int x), (4, .int y), (5, .int z)]) (by decide) rfl dc_7_6_49 ?_
      refine r_aload_n rfl dc_7_6_51 ?_
      refine h_get (t := cT e 28) (v := .ref 39) fx_7_33 (hF 28 (by decide)) ⟨by omega, by omega⟩ (rfl) dc_7_6_52 ?_
      refine r_iload rfl dc_7_6_55 ?_
      refine h_aal (c := 24) (n := 7) (e := n) (y := 40 + n) (hF 39 (by decide)) (Or.inr rfl) ⟨by omega, by omega⟩ (by omega) (by omega) (if_pos (by omega)) dc_7_6_57 ?_
      refine r_iload rfl dc_7_6_58 ?_
      refine r_iload_n rfl dc_7_6_60 ?_
      refine h_ist (n := 5) (e := o) ((hF (40 + n) (by omega)).trans (cR_39 e n (by omega))) ⟨by omega, by omega⟩ (show o < 5 by omega) (by omega) dc_7_6_61 ?_
      refine r_aload_n rfl dc_7_6_62 ?_
      refine h_get (t := cT e 28) (v := .ref 47) fx_7_36 (hF 28 (by decide)) ⟨by omega, by omega⟩ (rfl) dc_7_6_63 ?_
      refine r_iload rfl dc_7_6_66 ?_
      refine h_aal (c := 24) (n := 7) (e := n) (y := 48 + n) (hF 47 (by decide)) (Or.inr rfl) ⟨by omega, by omega⟩ (by omega) (by omega) (if_pos (by omega)) dc_7_6_68 ?_
      refine r_iload rfl dc_7_6_69 ?_
      refine r_iload_n rfl dc_7_6_71 ?_
      refine h_ist (n := 5) (e := o) ((hF (48 + n) (by omega)).trans (cR_47 e n (by omega))) ⟨by omega, by omega⟩ (show o < 5 by omega) (by omega) dc_7_6_72 ?_
      refine r_aload_n rfl dc_7_6_73 ?_
      refine h_get (t := cT e 28) (v := .ref 55) fx_7_39 (hF 28 (by decide)) ⟨by omega, by omega⟩ (rfl) dc_7_6_74 ?_
      refine r_iload rfl dc_7_6_77 ?_
      refine h_aal (c := 24) (n := 7) (e := n) (y := 56 + n) (hF 55 (by decide)) (Or.inr rfl) ⟨by omega, by omega⟩ (by omega) (by omega) (if_pos (by omega)) dc_7_6_79 ?_
      refine r_iload rfl dc_7_6_80 ?_
      refine r_iload_n rfl dc_7_6_82 ?_
      refine h_ist (n := 5) (e := o) ((hF (56 + n) (by omega)).trans (cR_55 e n (by omega))) ⟨by omega, by omega⟩ (show o < 5 by omega) (by omega) dc_7_6_83 ?_
      refine r_aload_n rfl dc_7_6_84 ?_
      refine h_get (t := cT e 28) (v := .ref 63) fx_7_42 (hF 28 (by decide)) ⟨by omega, by omega⟩ (rfl) dc_7_6_85 ?_
      refine r_iload rfl dc_7_6_88 ?_
      refine h_aal (c := 24) (n := 7) (e := n) (y := 64 + n) (hF 63 (by decide)) (Or.inr rfl) ⟨by omega, by omega⟩ (by omega) (by omega) (if_pos (by omega)) dc_7_6_90 ?_
      refine r_iload rfl dc_7_6_91 ?_
      refine r_iload rfl dc_7_6_93 ?_
      refine h_ist (n := 5) (e := o) ((hF (64 + n) (by omega)).trans (cR_63 e n (by omega))) ⟨by omega, by omega⟩ (show o < 5 by omega) (by omega) dc_7_6_95 ?_
      refine r_aload_n rfl dc_7_6_96 ?_
      refine h_get (t := cT e 28) (v := .ref 71) fx_7_45 (hF 28 (by decide)) ⟨by omega, by omega⟩ (rfl) dc_7_6_97 ?_
      refine r_iload rfl dc_7_6_100 ?_
      refine h_aal (c := 24) (n := 7) (e := n) (y := 72 + n) (hF 71 (by decide)) (Or.inr rfl) ⟨by omega, by omega⟩ (by omega) (by omega) (if_pos (by omega)) dc_7_6_102 ?_
      refine r_iload rfl dc_7_6_103 ?_
      refine r_iload rfl dc_7_6_105 ?_
      refine h_ist (n := 5) (e := o) ((hF (72 + n) (by omega)).trans (cR_71 e n (by omega))) ⟨by omega, by omega⟩ (show o < 5 by omega) (by omega) dc_7_6_107 ?_
      refine r_aload_n rfl dc_7_6_108 ?_
      refine h_get (t := cT e 28) (v := .ref 38) fx_7_28 (hF 28 (by decide)) ⟨by omega, by omega⟩ (rfl) dc_7_6_109 ?_
      refine r_iload rfl dc_7_6_112 ?_
      refine r_dup2 ⟨rfl, rfl⟩ dc_7_6_114 ?_
      refine h_ild (n := 7) (e := n) (v := nI o) (hF 38 (by decide)) ⟨by omega, by omega⟩ (show n < 7 by omega) (by omega) ((w1_o _ _ (Or.inl (by omega))).trans ((w1_o _ _ (Or.inl (by omega))).trans ((w1_o _ _ (Or.inl (by omega))).trans ((w1_o _ _ (Or.inl (by omega))).trans ((w1_o _ _ (Or.inl (by omega))).trans ho))))) dc_7_6_115 ?_
      refine r_iconst (v := nI 1) (by decide) dc_7_6_116 ?_
      refine r_iadd (v := nI (o + 1)) (nI_add _ _) dc_7_6_117 ?_
      refine h_ist (n := 7) (e := n) (hF 38 (by decide)) ⟨by omega, by omega⟩ (show n < 7 by omega) (by omega) dc_7_6_118 ?_
      exact r_vret rfl dc_7_6_119 (rfl)
    · omega
set_option maxHeartbeats 4000000 in
theorem k_addNo (M : mH) (hM : 157 ≤ M.1) (T : Nat → mT) (e : Nat → Nat) (hF : ShF T e) (cs : Nat → Nat → Int32) (n o : Nat) (hsz : cs 28 1 = nI (n + 1)) (hn : n < 7) (ho : cs 38 n = nI o) (ho5 : o < 5) (p : Int32) : mm_Ev 2 123 [.ref 28, .int p] (hk M T cs) ((none, hk M T (w1 (w1 (w1 (w1 (w1 (w1 cs (40 + n) o (-1)) (48 + n) o (-1)) (56 + n) o (-1)) (64 + n) o (nI 0)) (72 + n) o (-p)) 38 n (nI (o + 1))))) := by
  refine r_ev (by decide +kernel) (show (2 : Nat) ≤ mm_nL 123 by decide +kernel) ?_
  show mm_Ru 1 (7, 2, false, prog_7_method_5_code, none) 0 [(0, .ref 28), (1, .int p)] [] (hk M T cs) (fun r9 => r9 = ((none, hk M T (w1 (w1 (w1 (w1 (w1 (w1 cs (40 + n) o (-1)) (48 + n) o (-1)) (56 + n) o (-1)) (64 + n) o (nI 0)) (72 + n) o (-p)) 38 n (nI (o + 1))))))
  refine r_aload_n rfl dc_7_5_0 ?_
  refine r_iconst (v := -1) (by decide) dc_7_5_1 ?_
  refine r_iconst (v := -1) (by decide) dc_7_5_2 ?_
  refine r_iconst (v := -1) (by decide) dc_7_5_3 ?_
  refine r_iconst (v := nI 0) (by decide) dc_7_5_4 ?_
  refine r_iload_n rfl dc_7_5_5 ?_
  refine r_ineg (v := -p) (rfl) dc_7_5_6 ?_
  refine h_call0 (t := cT e 28) (as := [.int ((-1)), .int ((-1)), .int ((-1)), .int (nI 0), .int (-p)]) (rest := []) (M1 := hk M T (w1 (w1 (w1 (w1 (w1 (w1 cs (40 + n) o (-1)) (48 + n) o (-1)) (56 + n) o (-1)) (64 + n) o (nI 0)) (72 + n) o (-p)) 38 n (nI (o + 1)))) rfl rfl iv_7_v73 (Or.inl rfl) na_1_122 (hF 28 (by decide)) ⟨by omega, by omega⟩ (show (7 : Nat) < 14 by decide) o_122 rfl (show (0 : Nat) ≤ 8 by decide) dc_7_5_7 (k_putO M hM T e hF cs n o hsz hn ho ho5 (-1) (-1) (-1) (nI 0) (-p)) ?_
  exact r_vret rfl dc_7_5_10 (rfl)
theorem h_gst {d o nL pc : Nat} {ini : Bool} {b : ByteArray} {ret : Option FieldType} {ls : List (Nat × Value)} {st : List Value} {N : mH} {R : Option Value × mH → Prop} {x : Nat} {v : Value} (hx : mm_gt o x = some v) (hd : decode b pc = .ok (.getstatic x, 3)) (kk : mm_Ru d (o, nL, ini, b, ret) (pc + 3) ls (v :: st) N R) : mm_Ru d (o, nL, ini, b, ret) pc ls st N R := r_st (C := (o, nL, ini, b, ret)) hd rfl rfl rfl (by
  simp only [mm_st]
  rw [hx]) kk
theorem h_sta {M : mH} {T : Nat → mT} {cs : Nat → Nat → Int32} (hS : M.1 ≤ 1000000) {a : Nat} (ha : 1000000 ≤ a) : (hk M T cs).2.2 a = M.2.2 a := if_neg (fun z => by omega)
theorem h_wlen {d o nL pc : Nat} {ini : Bool} {b : ByteArray} {ret : Option FieldType} {ls : List (Nat × Value)} {st : List Value} {M : mH} {T : Nat → mT} {cs : Nat → Nat → Int32} {R : Option Value × mH → Prop} (hS : M.1 ≤ 1000000) (hW : M.2.2 1000001 = .inl (0, 4, .inl mm_worth)) (hd : decode b pc = .ok (.arraylength, 1)) (kk : mm_Ru d (o, nL, ini, b, ret) (pc + 1) ls (.int (nI 4) :: st) (hk M T cs) R) : mm_Ru d (o, nL, ini, b, ret) pc ls (.ref 1000001 :: st) (hk M T cs) R := r_alen (by
  unfold mm_lg
  rw [h_sta hS (by decide), hW]
  dsimp only
  exact if_pos ⟨by unfold mm_ok mm_sta; simp, by decide⟩) hd kk
theorem h_wld {d o nL pc : Nat} {ini : Bool} {b : ByteArray} {ret : Option FieldType} {ls : List (Nat × Value)} {st : List Value} {M : mH} {T : Nat → mT} {cs : Nat → Nat → Int32} {R : Option Value × mH → Prop} {j : Nat} (hS : M.1 ≤ 1000000) (hW : M.2.2 1000001 = .inl (0, 4, .inl mm_worth)) (hj : j < 4) (hd : decode b pc = .ok (.iaload, 1)) (kk : mm_Ru d (o, nL, ini, b, ret) (pc + 1) ls (.int (mm_worth j) :: st) (hk M T cs) R) : mm_Ru d (o, nL, ini, b, ret) pc ls (.int (nI j) :: .ref 1000001 :: st) (hk M T cs) R := r_iaload (by
  unfold mm_ai
  rw [h_sta hS (by decide), hW]
  dsimp only
  rw [nI_clamp (by omega)]
  exact if_pos ⟨by unfold mm_ok mm_sta; simp, by decide, fun z => z.elim (fun z => nI_pos (by omega) z) (fun z => by omega)⟩) hd kk
theorem gt_7_70 : mm_gt 7 70 = some (.ref 1000001) := by decide +kernel
set_option maxHeartbeats 4000000 in
theorem k_addO (M : mH) (hM : 157 ≤ M.1) (T : Nat → mT) (e : Nat → Nat) (hF : ShF T e) (cs : Nat → Nat → Int32) (hS : M.1 ≤ 1000000) (hW : M.2.2 1000001 = .inl (0, 4, .inl mm_worth)) (n o : Nat) (hsz : cs 28 1 = nI (n + 1)) (hn : n < 7) (ho : cs 38 n = nI o) (ho5 : o < 5) (w : Nat) (hw : w < 4) (h x y p : Int32) : mm_Ev 2 121 [.ref 28, .int (nI w), .int h, .int x, .int y, .int p] (hk M T cs) ((none, hk M T (w1 (w1 (w1 (w1 (w1 (w1 cs (40 + n) o (nI w)) (48 + n) o h) (56 + n) o x) (64 + n) o y) (72 + n) o (mm_worth w - p)) 38 n (nI (o + 1))))) := by
  refine r_ev (by decide +kernel) (show (6 : Nat) ≤ mm_nL 121 by decide +kernel) ?_
  show mm_Ru 1 (7, 6, false, prog_7_method_4_code, none) 0 [(0, .ref 28), (1, .int (nI w)), (2, .int h), (3, .int x), (4, .int y), (5, .int p)] [] (hk M T cs) (fun r9 => r9 = ((none, hk M T (w1 (w1 (w1 (w1 (w1 (w1 cs (40 + n) o (nI w)) (48 + n) o h) (56 + n) o x) (64 + n) o y) (72 + n) o (mm_worth w - p)) 38 n (nI (o + 1))))))
  refine r_iload_n rfl dc_7_4_0 ?_
  refine r_nzlt (t := 29) (by omega) (by decide) dc_7_4_1 ?_
  refine r_iload_n rfl dc_7_4_4 ?_
  refine h_gst gt_7_70 dc_7_4_5 ?_
  refine h_wlen hS hW dc_7_4_8 ?_
  refine r_ncge (t := 29) (by omega) (by omega) (by decide) dc_7_4_9 (fun c_9 => ?_) (fun c_9 => ?_)
  · omega
  · skip
    refine r_aload_n rfl dc_7_4_12 ?_
    refine r_iload_n rfl dc_7_4_13 ?_
    refine r_iload_n rfl dc_7_4_14 ?_
    refine r_iload_n rfl dc_7_4_15 ?_
    refine r_iload rfl dc_7_4_16 ?_
    refine h_gst gt_7_70 dc_7_4_18 ?_
    refine r_iload_n rfl dc_7_4_21 ?_
    refine h_wld (j := w) hS hW hw dc_7_4_22 ?_
    refine r_iload rfl dc_7_4_23 ?_
    refine r_isub (v := (mm_worth w) - p) (rfl) dc_7_4_25 ?_
    refine h_call0 (t := cT e 28) (as := [.int (nI w), .int h, .int x, .int y, .int ((mm_worth w) - p)]) (rest := []) (M1 := hk M T (w1 (w1 (w1 (w1 (w1 (w1 cs (40 + n) o (nI w)) (48 + n) o h) (56 + n) o x) (64 + n) o y) (72 + n) o (mm_worth w - p)) 38 n (nI (o + 1)))) rfl rfl iv_7_v73 (Or.inl rfl) na_1_122 (hF 28 (by decide)) ⟨by omega, by omega⟩ (show (7 : Nat) < 14 by decide) o_122 rfl (show (0 : Nat) ≤ 8 by decide) dc_7_4_26 (k_putO M hM T e hF cs n o hsz hn ho ho5 (nI w) h x y (mm_worth w - p)) ?_
    exact r_vret rfl dc_7_4_29 (rfl)
set_option maxHeartbeats 4000000 in
theorem k_stOf (M : mH) (hM : 157 ≤ M.1) (T : Nat → mT) (e : Nat → Nat) (hF : ShF T e) (cs : Nat → Nat → Int32) (i : Nat) (hi : i < 7) : mm_Ev 1 134 [.ref 28, .int (nI i)] (hk M T cs) ((some (.int (cs 37 i)), hk M T cs)) := by
  refine r_ev (by decide +kernel) (show (2 : Nat) ≤ mm_nL 134 by decide +kernel) ?_
  show mm_Ru 0 (7, 2, false, prog_7_method_8_code, some .int) 0 [(0, .ref 28), (1, .int (nI i))] [] (hk M T cs) (fun r9 => r9 = ((some (.int (cs 37 i)), hk M T cs)))
  refine r_iload_n rfl dc_7_8_0 ?_
  refine r_nzlt (t := 19) (by omega) (by decide) dc_7_8_1 ?_
  refine r_iload_n rfl dc_7_8_4 ?_
  refine r_bipush (v := nI 7) (by decide) dc_7_8_5 ?_
  refine r_ncge (t := 19) (by omega) (by omega) (by decide) dc_7_8_7 (fun c_7 => ?_) (fun c_7 => ?_)
  · omega
  · skip
    refine r_aload_n rfl dc_7_8_10 ?_
    refine h_get (t := cT e 28) (v := .ref 37) fx_7_24 (hF 28 (by decide)) ⟨by omega, by omega⟩ (rfl) dc_7_8_11 ?_
    refine r_iload_n rfl dc_7_8_14 ?_
    refine h_ild (n := 7) (e := i) (v := cs 37 i) (hF 37 (by decide)) ⟨by omega, by omega⟩ (show i < 7 by omega) (by omega) (rfl) dc_7_8_15 ?_
    refine r_goto (t := 20) (by decide) dc_7_8_16 ?_
    exact r_iret rfl dc_7_8_20 (rfl)
set_option maxHeartbeats 4000000 in
theorem k_isCh (M : mH) (hM : 157 ≤ M.1) (T : Nat → mT) (e : Nat → Nat) (hF : ShF T e) (cs : Nat → Nat → Int32) (i o : Nat) (hi : i < 7) (ho : cs 99 i = nI o) (ho5 : o < 5) : mm_Ev 1 136 [.ref 28, .int (nI i)] (hk M T cs) ((some (.int (nI 1)), hk M T cs)) := by
  refine r_ev (by decide +kernel) (show (2 : Nat) ≤ mm_nL 136 by decide +kernel) ?_
  show mm_Ru 0 (7, 2, false, prog_7_method_11_code, some .boolean) 0 [(0, .ref 28), (1, .int (nI i))] [] (hk M T cs) (fun r9 => r9 = ((some (.int (nI 1)), hk M T cs)))
  refine r_iload_n rfl dc_7_11_0 ?_
  refine r_nzlt (t := 33) (by omega) (by decide) dc_7_11_1 ?_
  refine r_iload_n rfl dc_7_11_4 ?_
  refine r_bipush (v := nI 7) (by decide) dc_7_11_5 ?_
  refine r_ncge (t := 33) (by omega) (by omega) (by decide) dc_7_11_7 (fun c_7 => ?_) (fun c_7 => ?_)
  · omega
  · skip
    refine r_aload_n rfl dc_7_11_10 ?_
    refine h_get (t := cT e 28) (v := .ref 99) fx_7_60 (hF 28 (by decide)) ⟨by omega, by omega⟩ (rfl) dc_7_11_11 ?_
    refine r_iload_n rfl dc_7_11_14 ?_
    refine h_ild (n := 7) (e := i) (v := nI o) (hF 99 (by decide)) ⟨by omega, by omega⟩ (show i < 7 by omega) (by omega) (ho) dc_7_11_15 ?_
    refine r_nzlt (t := 33) (by omega) (by decide) dc_7_11_16 ?_
    refine r_aload_n rfl dc_7_11_19 ?_
    refine h_get (t := cT e 28) (v := .ref 99) fx_7_60 (hF 28 (by decide)) ⟨by omega, by omega⟩ (rfl) dc_7_11_20 ?_
    refine r_iload_n rfl dc_7_11_23 ?_
    refine h_ild (n := 7) (e := i) (v := nI o) (hF 99 (by decide)) ⟨by omega, by omega⟩ (show i < 7 by omega) (by omega) (ho) dc_7_11_24 ?_
    refine r_iconst (v := nI 5) (by decide) dc_7_11_25 ?_
    refine r_ncge (t := 33) (by omega) (by omega) (by decide) dc_7_11_26 (fun c_26 => ?_) (fun c_26 => ?_)
    · omega
    · skip
      refine r_iconst (v := nI 1) (by decide) dc_7_11_29 ?_
      refine r_goto (t := 34) (by decide) dc_7_11_30 ?_
      exact r_zret rfl (by decide) dc_7_11_34 (rfl)
set_option maxHeartbeats 4000000 in
theorem k_wishOf (M : mH) (hM : 157 ≤ M.1) (T : Nat → mT) (e : Nat → Nat) (hF : ShF T e) (cs : Nat → Nat → Int32) (i o : Nat) (hi : i < 7) (ho : cs 99 i = nI o) (ho5 : o < 5) : mm_Ev 2 135 [.ref 28, .int (nI i)] (hk M T cs) ((some (.int (cs (40 + i) o)), hk M T cs)) := by
  refine r_ev (by decide +kernel) (show (2 : Nat) ≤ mm_nL 135 by decide +kernel) ?_
  show mm_Ru 1 (7, 2, false, prog_7_method_9_code, some .int) 0 [(0, .ref 28), (1, .int (nI i))] [] (hk M T cs) (fun r9 => r9 = ((some (.int (cs (40 + i) o)), hk M T cs)))
  refine r_aload_n rfl dc_7_9_0 ?_
  refine r_iload_n rfl dc_7_9_1 ?_
  refine h_callv (t := cT e 28) (as := [.int (nI i)]) (rest := []) (v := .int (nI 1)) (M1 := hk M T cs) rfl rfl iv_7_v88 (Or.inl rfl) na_1_136 (hF 28 (by decide)) ⟨by omega, by omega⟩ (show (7 : Nat) < 14 by decide) o_136 rfl (show (0 : Nat) ≤ 8 by decide) dc_7_9_2 (k_isCh M hM T e hF cs i o hi ho ho5) ?_
  refine r_ifeq (t := 24) (by decide) dc_7_9_5 (fun c_5 => ?_) (fun c_5 => ?_)
  · exact absurd c_5 (by decide)
  · skip
    refine r_aload_n rfl dc_7_9_8 ?_
    refine h_get (t := cT e 28) (v := .ref 39) fx_7_33 (hF 28 (by decide)) ⟨by omega, by omega⟩ (rfl) dc_7_9_9 ?_
    refine r_iload_n rfl dc_7_9_12 ?_
    refine h_aal (c := 24) (n := 7) (e := i) (y := 40 + i) (hF 39 (by decide)) (Or.inr rfl) ⟨by omega, by omega⟩ (by omega) (by omega) (if_pos (by omega)) dc_7_9_13 ?_
    refine r_aload_n rfl dc_7_9_14 ?_
    refine h_get (t := cT e 28) (v := .ref 99) fx_7_60 (hF 28 (by decide)) ⟨by omega, by omega⟩ (rfl) dc_7_9_15 ?_
    refine r_iload_n rfl dc_7_9_18 ?_
    refine h_ild (n := 7) (e := i) (v := nI o) (hF 99 (by decide)) ⟨by omega, by omega⟩ (show i < 7 by omega) (by omega) (ho) dc_7_9_19 ?_
    refine h_ild (n := 5) (e := o) (v := cs (40 + i) o) ((hF (40 + i) (by omega)).trans (cR_39 e i (by omega))) ⟨by omega, by omega⟩ (show o < 5 by omega) (by omega) (rfl) dc_7_9_20 ?_
    refine r_goto (t := 25) (by decide) dc_7_9_21 ?_
    exact r_iret rfl dc_7_9_25 (rfl)
set_option maxHeartbeats 4000000 in
theorem k_agrOf (M : mH) (hM : 157 ≤ M.1) (T : Nat → mT) (e : Nat → Nat) (hF : ShF T e) (cs : Nat → Nat → Int32) (i o : Nat) (hi : i < 7) (ho : cs 99 i = nI o) (ho5 : o < 5) : mm_Ev 2 137 [.ref 28, .int (nI i)] (hk M T cs) ((some (.int (cs (56 + i) o)), hk M T cs)) := by
  refine r_ev (by decide +kernel) (show (2 : Nat) ≤ mm_nL 137 by decide +kernel) ?_
  show mm_Ru 1 (7, 2, false, prog_7_method_10_code, some .int) 0 [(0, .ref 28), (1, .int (nI i))] [] (hk M T cs) (fun r9 => r9 = ((some (.int (cs (56 + i) o)), hk M T cs)))
  refine r_aload_n rfl dc_7_10_0 ?_
  refine r_iload_n rfl dc_7_10_1 ?_
  refine h_callv (t := cT e 28) (as := [.int (nI i)]) (rest := []) (v := .int (nI 1)) (M1 := hk M T cs) rfl rfl iv_7_v88 (Or.inl rfl) na_1_136 (hF 28 (by decide)) ⟨by omega, by omega⟩ (show (7 : Nat) < 14 by decide) o_136 rfl (show (0 : Nat) ≤ 8 by decide) dc_7_10_2 (k_isCh M hM T e hF cs i o hi ho ho5) ?_
  refine r_ifeq (t := 24) (by decide) dc_7_10_5 (fun c_5 => ?_) (fun c_5 => ?_)
  · exact absurd c_5 (by decide)
  · skip
    refine r_aload_n rfl dc_7_10_8 ?_
    refine h_get (t := cT e 28) (v := .ref 55) fx_7_39 (hF 28 (by decide)) ⟨by omega, by omega⟩ (rfl) dc_7_10_9 ?_
    refine r_iload_n rfl dc_7_10_12 ?_
    refine h_aal (c := 24) (n := 7) (e := i) (y := 56 + i) (hF 55 (by decide)) (Or.inr rfl) ⟨by omega, by omega⟩ (by omega) (by omega) (if_pos (by omega)) dc_7_10_13 ?_
    refine r_aload_n rfl dc_7_10_14 ?_
    refine h_get (t := cT e 28) (v := .ref 99) fx_7_60 (hF 28 (by decide)) ⟨by omega, by omega⟩ (rfl) dc_7_10_15 ?_
    refine r_iload_n rfl dc_7_10_18 ?_
    refine h_ild (n := 7) (e := i) (v := nI o) (hF 99 (by decide)) ⟨by omega, by omega⟩ (show i < 7 by omega) (by omega) (ho) dc_7_10_19 ?_
    refine h_ild (n := 5) (e := o) (v := cs (56 + i) o) ((hF (56 + i) (by omega)).trans (cR_55 e i (by omega))) ⟨by omega, by omega⟩ (show o < 5 by omega) (by omega) (rfl) dc_7_10_20 ?_
    refine r_goto (t := 25) (by decide) dc_7_10_21 ?_
    exact r_iret rfl dc_7_10_25 (rfl)
