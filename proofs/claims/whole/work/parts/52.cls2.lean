/-! scales -/
theorem dc_8_2_0 : decode prog_8_method_2_code 0 = .ok (.iload_n 1, 1) := by decide +kernel
theorem dc_8_2_1 : decode prog_8_method_2_code 1 = .ok (.iconst 0, 1) := by decide +kernel
theorem dc_8_2_2 : decode prog_8_method_2_code 2 = .ok (.iconst 3, 1) := by decide +kernel
theorem dc_8_2_3 : decode prog_8_method_2_code 3 = .ok (.invokestatic 22, 3) := by decide +kernel
theorem dc_8_2_6 : decode prog_8_method_2_code 6 = .ok (.ifCond .eq 17, 3) := by decide +kernel
theorem dc_8_2_9 : decode prog_8_method_2_code 9 = .ok (.iload_n 2, 1) := by decide +kernel
theorem dc_8_2_10 : decode prog_8_method_2_code 10 = .ok (.iconst 0, 1) := by decide +kernel
theorem dc_8_2_11 : decode prog_8_method_2_code 11 = .ok (.bipush 10, 2) := by decide +kernel
theorem dc_8_2_13 : decode prog_8_method_2_code 13 = .ok (.invokestatic 22, 3) := by decide +kernel
theorem dc_8_2_16 : decode prog_8_method_2_code 16 = .ok (.ifCond .eq 7, 3) := by decide +kernel
theorem dc_8_2_19 : decode prog_8_method_2_code 19 = .ok (.iconst 1, 1) := by decide +kernel
theorem dc_8_2_20 : decode prog_8_method_2_code 20 = .ok (.goto 4, 3) := by decide +kernel
theorem dc_8_2_23 : decode prog_8_method_2_code 23 = .ok (.iconst 0, 1) := by decide +kernel
theorem dc_8_2_24 : decode prog_8_method_2_code 24 = .ok (.ireturn, 1) := by decide +kernel
theorem dc_8_3_0 : decode prog_8_method_3_code 0 = .ok (.aload_n 0, 1) := by decide +kernel
theorem dc_8_3_1 : decode prog_8_method_3_code 1 = .ok (.iload_n 1, 1) := by decide +kernel
theorem dc_8_3_2 : decode prog_8_method_3_code 2 = .ok (.iload_n 2, 1) := by decide +kernel
theorem dc_8_3_3 : decode prog_8_method_3_code 3 = .ok (.invokevirtual 26, 3) := by decide +kernel
theorem dc_8_3_6 : decode prog_8_method_3_code 6 = .ok (.ifCond .eq 14, 3) := by decide +kernel
theorem dc_8_3_9 : decode prog_8_method_3_code 9 = .ok (.iload_n 3, 1) := by decide +kernel
theorem dc_8_3_10 : decode prog_8_method_3_code 10 = .ok (.iconst 0, 1) := by decide +kernel
theorem dc_8_3_11 : decode prog_8_method_3_code 11 = .ok (.sipush 999, 3) := by decide +kernel
theorem dc_8_3_14 : decode prog_8_method_3_code 14 = .ok (.invokestatic 22, 3) := by decide +kernel
theorem dc_8_3_17 : decode prog_8_method_3_code 17 = .ok (.ifCond .ne 5, 3) := by decide +kernel
theorem dc_8_3_20 : decode prog_8_method_3_code 20 = .ok (.iconst 0, 1) := by decide +kernel
theorem dc_8_3_21 : decode prog_8_method_3_code 21 = .ok (.ireturn, 1) := by decide +kernel
theorem dc_8_3_22 : decode prog_8_method_3_code 22 = .ok (.aload_n 0, 1) := by decide +kernel
theorem dc_8_3_23 : decode prog_8_method_3_code 23 = .ok (.getfield 13, 3) := by decide +kernel
theorem dc_8_3_26 : decode prog_8_method_3_code 26 = .ok (.iload_n 1, 1) := by decide +kernel
theorem dc_8_3_27 : decode prog_8_method_3_code 27 = .ok (.aaload, 1) := by decide +kernel
theorem dc_8_3_28 : decode prog_8_method_3_code 28 = .ok (.iload_n 2, 1) := by decide +kernel
theorem dc_8_3_29 : decode prog_8_method_3_code 29 = .ok (.iload_n 3, 1) := by decide +kernel
theorem dc_8_3_30 : decode prog_8_method_3_code 30 = .ok (.iastore, 1) := by decide +kernel
theorem dc_8_3_31 : decode prog_8_method_3_code 31 = .ok (.iconst 1, 1) := by decide +kernel
theorem dc_8_3_32 : decode prog_8_method_3_code 32 = .ok (.ireturn, 1) := by decide +kernel
theorem dc_8_4_0 : decode prog_8_method_4_code 0 = .ok (.aload_n 0, 1) := by decide +kernel
theorem dc_8_4_1 : decode prog_8_method_4_code 1 = .ok (.iload_n 1, 1) := by decide +kernel
theorem dc_8_4_2 : decode prog_8_method_4_code 2 = .ok (.bipush 11, 2) := by decide +kernel
theorem dc_8_4_4 : decode prog_8_method_4_code 4 = .ok (.invokevirtual 30, 3) := by decide +kernel
theorem dc_8_4_7 : decode prog_8_method_4_code 7 = .ok (.ifCond .le 17, 3) := by decide +kernel
theorem dc_8_4_10 : decode prog_8_method_4_code 10 = .ok (.aload_n 0, 1) := by decide +kernel
theorem dc_8_4_11 : decode prog_8_method_4_code 11 = .ok (.iload_n 2, 1) := by decide +kernel
theorem dc_8_4_12 : decode prog_8_method_4_code 12 = .ok (.bipush 11, 2) := by decide +kernel
theorem dc_8_4_14 : decode prog_8_method_4_code 14 = .ok (.invokevirtual 30, 3) := by decide +kernel
theorem dc_8_4_17 : decode prog_8_method_4_code 17 = .ok (.ifCond .le 7, 3) := by decide +kernel
theorem dc_8_4_20 : decode prog_8_method_4_code 20 = .ok (.iconst 1, 1) := by decide +kernel
theorem dc_8_4_21 : decode prog_8_method_4_code 21 = .ok (.goto 4, 3) := by decide +kernel
theorem dc_8_4_24 : decode prog_8_method_4_code 24 = .ok (.iconst 0, 1) := by decide +kernel
theorem dc_8_4_25 : decode prog_8_method_4_code 25 = .ok (.ireturn, 1) := by decide +kernel
theorem dc_8_5_0 : decode prog_8_method_5_code 0 = .ok (.aload_n 0, 1) := by decide +kernel
theorem dc_8_5_1 : decode prog_8_method_5_code 1 = .ok (.iload_n 1, 1) := by decide +kernel
theorem dc_8_5_2 : decode prog_8_method_5_code 2 = .ok (.iload_n 3, 1) := by decide +kernel
theorem dc_8_5_3 : decode prog_8_method_5_code 3 = .ok (.invokevirtual 26, 3) := by decide +kernel
theorem dc_8_5_6 : decode prog_8_method_5_code 6 = .ok (.ifCond .eq 12, 3) := by decide +kernel
theorem dc_8_5_9 : decode prog_8_method_5_code 9 = .ok (.aload_n 0, 1) := by decide +kernel
theorem dc_8_5_10 : decode prog_8_method_5_code 10 = .ok (.iload_n 2, 1) := by decide +kernel
theorem dc_8_5_11 : decode prog_8_method_5_code 11 = .ok (.iload_n 3, 1) := by decide +kernel
theorem dc_8_5_12 : decode prog_8_method_5_code 12 = .ok (.invokevirtual 26, 3) := by decide +kernel
theorem dc_8_5_15 : decode prog_8_method_5_code 15 = .ok (.ifCond .ne 5, 3) := by decide +kernel
theorem dc_8_5_20 : decode prog_8_method_5_code 20 = .ok (.iconst 2, 1) := by decide +kernel
theorem dc_8_5_21 : decode prog_8_method_5_code 21 = .ok (.aload_n 0, 1) := by decide +kernel
theorem dc_8_5_22 : decode prog_8_method_5_code 22 = .ok (.iload_n 1, 1) := by decide +kernel
theorem dc_8_5_23 : decode prog_8_method_5_code 23 = .ok (.iload_n 3, 1) := by decide +kernel
theorem dc_8_5_24 : decode prog_8_method_5_code 24 = .ok (.invokevirtual 30, 3) := by decide +kernel
theorem dc_8_5_27 : decode prog_8_method_5_code 27 = .ok (.imul, 1) := by decide +kernel
theorem dc_8_5_28 : decode prog_8_method_5_code 28 = .ok (.aload_n 0, 1) := by decide +kernel
theorem dc_8_5_29 : decode prog_8_method_5_code 29 = .ok (.getfield 13, 3) := by decide +kernel
theorem dc_8_5_32 : decode prog_8_method_5_code 32 = .ok (.iload_n 1, 1) := by decide +kernel
theorem dc_8_5_33 : decode prog_8_method_5_code 33 = .ok (.aaload, 1) := by decide +kernel
theorem dc_8_5_34 : decode prog_8_method_5_code 34 = .ok (.iload_n 3, 1) := by decide +kernel
theorem dc_8_5_35 : decode prog_8_method_5_code 35 = .ok (.iaload, 1) := by decide +kernel
theorem dc_8_5_36 : decode prog_8_method_5_code 36 = .ok (.iadd, 1) := by decide +kernel
theorem dc_8_5_37 : decode prog_8_method_5_code 37 = .ok (.aload_n 0, 1) := by decide +kernel
theorem dc_8_5_38 : decode prog_8_method_5_code 38 = .ok (.iload_n 2, 1) := by decide +kernel
theorem dc_8_5_39 : decode prog_8_method_5_code 39 = .ok (.bipush 11, 2) := by decide +kernel
theorem dc_8_5_41 : decode prog_8_method_5_code 41 = .ok (.invokevirtual 30, 3) := by decide +kernel
theorem dc_8_5_44 : decode prog_8_method_5_code 44 = .ok (.imul, 1) := by decide +kernel
theorem dc_8_5_45 : decode prog_8_method_5_code 45 = .ok (.istore 4, 2) := by decide +kernel
theorem dc_8_5_47 : decode prog_8_method_5_code 47 = .ok (.iconst 2, 1) := by decide +kernel
theorem dc_8_5_48 : decode prog_8_method_5_code 48 = .ok (.aload_n 0, 1) := by decide +kernel
theorem dc_8_5_49 : decode prog_8_method_5_code 49 = .ok (.iload_n 1, 1) := by decide +kernel
theorem dc_8_5_50 : decode prog_8_method_5_code 50 = .ok (.bipush 11, 2) := by decide +kernel
theorem dc_8_5_52 : decode prog_8_method_5_code 52 = .ok (.invokevirtual 30, 3) := by decide +kernel
theorem dc_8_5_55 : decode prog_8_method_5_code 55 = .ok (.imul, 1) := by decide +kernel
theorem dc_8_5_56 : decode prog_8_method_5_code 56 = .ok (.istore 5, 2) := by decide +kernel
theorem dc_8_5_58 : decode prog_8_method_5_code 58 = .ok (.iconst (-1), 1) := by decide +kernel
theorem dc_8_5_59 : decode prog_8_method_5_code 59 = .ok (.istore 6, 2) := by decide +kernel
theorem dc_8_5_61 : decode prog_8_method_5_code 61 = .ok (.iconst 0, 1) := by decide +kernel
theorem dc_8_5_62 : decode prog_8_method_5_code 62 = .ok (.istore 7, 2) := by decide +kernel
theorem dc_8_5_64 : decode prog_8_method_5_code 64 = .ok (.iload 7, 2) := by decide +kernel
theorem dc_8_5_66 : decode prog_8_method_5_code 66 = .ok (.bipush 11, 2) := by decide +kernel
theorem dc_8_5_68 : decode prog_8_method_5_code 68 = .ok (.if_icmp .ge 40, 3) := by decide +kernel
theorem dc_8_5_71 : decode prog_8_method_5_code 71 = .ok (.aload_n 0, 1) := by decide +kernel
theorem dc_8_5_72 : decode prog_8_method_5_code 72 = .ok (.getfield 13, 3) := by decide +kernel
theorem dc_8_5_75 : decode prog_8_method_5_code 75 = .ok (.iload_n 2, 1) := by decide +kernel
theorem dc_8_5_76 : decode prog_8_method_5_code 76 = .ok (.aaload, 1) := by decide +kernel
theorem dc_8_5_77 : decode prog_8_method_5_code 77 = .ok (.iload 7, 2) := by decide +kernel
theorem dc_8_5_79 : decode prog_8_method_5_code 79 = .ok (.iaload, 1) := by decide +kernel
theorem dc_8_5_80 : decode prog_8_method_5_code 80 = .ok (.ifCond .le 22, 3) := by decide +kernel
theorem dc_8_5_83 : decode prog_8_method_5_code 83 = .ok (.aload_n 0, 1) := by decide +kernel
theorem dc_8_5_84 : decode prog_8_method_5_code 84 = .ok (.iload_n 2, 1) := by decide +kernel
theorem dc_8_5_85 : decode prog_8_method_5_code 85 = .ok (.iload 7, 2) := by decide +kernel
theorem dc_8_5_87 : decode prog_8_method_5_code 87 = .ok (.invokevirtual 30, 3) := by decide +kernel
theorem dc_8_5_90 : decode prog_8_method_5_code 90 = .ok (.iload 5, 2) := by decide +kernel
theorem dc_8_5_92 : decode prog_8_method_5_code 92 = .ok (.imul, 1) := by decide +kernel
theorem dc_8_5_93 : decode prog_8_method_5_code 93 = .ok (.iload 4, 2) := by decide +kernel
theorem dc_8_5_95 : decode prog_8_method_5_code 95 = .ok (.if_icmp .gt 7, 3) := by decide +kernel
theorem dc_8_5_98 : decode prog_8_method_5_code 98 = .ok (.iload 7, 2) := by decide +kernel
theorem dc_8_5_100 : decode prog_8_method_5_code 100 = .ok (.istore 6, 2) := by decide +kernel
theorem dc_8_5_102 : decode prog_8_method_5_code 102 = .ok (.iinc 7 1, 3) := by decide +kernel
theorem dc_8_5_105 : decode prog_8_method_5_code 105 = .ok (.goto (-41), 3) := by decide +kernel
theorem dc_8_5_108 : decode prog_8_method_5_code 108 = .ok (.iload 6, 2) := by decide +kernel
theorem dc_8_5_110 : decode prog_8_method_5_code 110 = .ok (.ireturn, 1) := by decide +kernel
theorem dc_8_6_0 : decode prog_8_method_6_code 0 = .ok (.iconst 0, 1) := by decide +kernel
theorem dc_8_6_1 : decode prog_8_method_6_code 1 = .ok (.istore 4, 2) := by decide +kernel
theorem dc_8_6_3 : decode prog_8_method_6_code 3 = .ok (.iload 4, 2) := by decide +kernel
theorem dc_8_6_5 : decode prog_8_method_6_code 5 = .ok (.bipush 11, 2) := by decide +kernel
theorem dc_8_6_7 : decode prog_8_method_6_code 7 = .ok (.if_icmp .ge 24, 3) := by decide +kernel
theorem dc_8_6_10 : decode prog_8_method_6_code 10 = .ok (.aload_n 0, 1) := by decide +kernel
theorem dc_8_6_11 : decode prog_8_method_6_code 11 = .ok (.iload_n 1, 1) := by decide +kernel
theorem dc_8_6_12 : decode prog_8_method_6_code 12 = .ok (.iload_n 3, 1) := by decide +kernel
theorem dc_8_6_13 : decode prog_8_method_6_code 13 = .ok (.iload_n 2, 1) := by decide +kernel
theorem dc_8_6_14 : decode prog_8_method_6_code 14 = .ok (.iload 4, 2) := by decide +kernel
theorem dc_8_6_16 : decode prog_8_method_6_code 16 = .ok (.invokevirtual 34, 3) := by decide +kernel
theorem dc_8_6_19 : decode prog_8_method_6_code 19 = .ok (.ifCond .eq 6, 3) := by decide +kernel
theorem dc_8_6_22 : decode prog_8_method_6_code 22 = .ok (.iload 4, 2) := by decide +kernel
theorem dc_8_6_24 : decode prog_8_method_6_code 24 = .ok (.ireturn, 1) := by decide +kernel
theorem dc_8_6_25 : decode prog_8_method_6_code 25 = .ok (.iinc 4 1, 3) := by decide +kernel
theorem dc_8_6_28 : decode prog_8_method_6_code 28 = .ok (.goto (-25), 3) := by decide +kernel
theorem dc_8_6_31 : decode prog_8_method_6_code 31 = .ok (.aload_n 0, 1) := by decide +kernel
theorem dc_8_6_32 : decode prog_8_method_6_code 32 = .ok (.iload_n 1, 1) := by decide +kernel
theorem dc_8_6_33 : decode prog_8_method_6_code 33 = .ok (.iload_n 2, 1) := by decide +kernel
theorem dc_8_6_34 : decode prog_8_method_6_code 34 = .ok (.iload_n 3, 1) := by decide +kernel
theorem dc_8_6_35 : decode prog_8_method_6_code 35 = .ok (.invokevirtual 38, 3) := by decide +kernel
theorem dc_8_6_38 : decode prog_8_method_6_code 38 = .ok (.ireturn, 1) := by decide +kernel
theorem dc_8_7_0 : decode prog_8_method_7_code 0 = .ok (.bipush 10, 2) := by decide +kernel
theorem dc_8_7_2 : decode prog_8_method_7_code 2 = .ok (.istore 4, 2) := by decide +kernel
theorem dc_8_7_4 : decode prog_8_method_7_code 4 = .ok (.iload 4, 2) := by decide +kernel
theorem dc_8_7_6 : decode prog_8_method_7_code 6 = .ok (.ifCond .lt 24, 3) := by decide +kernel
theorem dc_8_7_9 : decode prog_8_method_7_code 9 = .ok (.aload_n 0, 1) := by decide +kernel
theorem dc_8_7_10 : decode prog_8_method_7_code 10 = .ok (.iload_n 1, 1) := by decide +kernel
theorem dc_8_7_11 : decode prog_8_method_7_code 11 = .ok (.iload_n 3, 1) := by decide +kernel
theorem dc_8_7_12 : decode prog_8_method_7_code 12 = .ok (.iload_n 2, 1) := by decide +kernel
theorem dc_8_7_13 : decode prog_8_method_7_code 13 = .ok (.iload 4, 2) := by decide +kernel
theorem dc_8_7_15 : decode prog_8_method_7_code 15 = .ok (.invokevirtual 34, 3) := by decide +kernel
theorem dc_8_7_18 : decode prog_8_method_7_code 18 = .ok (.ifCond .eq 6, 3) := by decide +kernel
theorem dc_8_7_21 : decode prog_8_method_7_code 21 = .ok (.iload 4, 2) := by decide +kernel
theorem dc_8_7_23 : decode prog_8_method_7_code 23 = .ok (.ireturn, 1) := by decide +kernel
theorem dc_8_7_24 : decode prog_8_method_7_code 24 = .ok (.iinc 4 (-1), 3) := by decide +kernel
theorem dc_8_7_27 : decode prog_8_method_7_code 27 = .ok (.goto (-23), 3) := by decide +kernel
theorem dc_8_7_30 : decode prog_8_method_7_code 30 = .ok (.aload_n 0, 1) := by decide +kernel
theorem dc_8_7_31 : decode prog_8_method_7_code 31 = .ok (.iload_n 1, 1) := by decide +kernel
theorem dc_8_7_32 : decode prog_8_method_7_code 32 = .ok (.iload_n 2, 1) := by decide +kernel
theorem dc_8_7_33 : decode prog_8_method_7_code 33 = .ok (.iload_n 3, 1) := by decide +kernel
theorem dc_8_7_34 : decode prog_8_method_7_code 34 = .ok (.invokevirtual 38, 3) := by decide +kernel
theorem dc_8_7_37 : decode prog_8_method_7_code 37 = .ok (.ireturn, 1) := by decide +kernel
theorem dc_8_8_0 : decode prog_8_method_8_code 0 = .ok (.aload_n 0, 1) := by decide +kernel
theorem dc_8_8_1 : decode prog_8_method_8_code 1 = .ok (.iload_n 1, 1) := by decide +kernel
theorem dc_8_8_2 : decode prog_8_method_8_code 2 = .ok (.iload_n 2, 1) := by decide +kernel
theorem dc_8_8_3 : decode prog_8_method_8_code 3 = .ok (.invokevirtual 26, 3) := by decide +kernel
theorem dc_8_8_6 : decode prog_8_method_8_code 6 = .ok (.ifCond .eq 36, 3) := by decide +kernel
theorem dc_8_8_9 : decode prog_8_method_8_code 9 = .ok (.aload_n 0, 1) := by decide +kernel
theorem dc_8_8_10 : decode prog_8_method_8_code 10 = .ok (.iload_n 3, 1) := by decide +kernel
theorem dc_8_8_11 : decode prog_8_method_8_code 11 = .ok (.iload 4, 2) := by decide +kernel
theorem dc_8_8_13 : decode prog_8_method_8_code 13 = .ok (.invokevirtual 26, 3) := by decide +kernel
theorem dc_8_8_16 : decode prog_8_method_8_code 16 = .ok (.ifCond .eq 26, 3) := by decide +kernel
theorem dc_8_8_19 : decode prog_8_method_8_code 19 = .ok (.aload_n 0, 1) := by decide +kernel
theorem dc_8_8_20 : decode prog_8_method_8_code 20 = .ok (.getfield 13, 3) := by decide +kernel
theorem dc_8_8_23 : decode prog_8_method_8_code 23 = .ok (.iload_n 1, 1) := by decide +kernel
theorem dc_8_8_24 : decode prog_8_method_8_code 24 = .ok (.aaload, 1) := by decide +kernel
theorem dc_8_8_25 : decode prog_8_method_8_code 25 = .ok (.iload_n 2, 1) := by decide +kernel
theorem dc_8_8_26 : decode prog_8_method_8_code 26 = .ok (.iaload, 1) := by decide +kernel
theorem dc_8_8_27 : decode prog_8_method_8_code 27 = .ok (.ifCond .eq 15, 3) := by decide +kernel
theorem dc_8_8_30 : decode prog_8_method_8_code 30 = .ok (.aload_n 0, 1) := by decide +kernel
theorem dc_8_8_31 : decode prog_8_method_8_code 31 = .ok (.getfield 13, 3) := by decide +kernel
theorem dc_8_8_34 : decode prog_8_method_8_code 34 = .ok (.iload_n 3, 1) := by decide +kernel
theorem dc_8_8_35 : decode prog_8_method_8_code 35 = .ok (.aaload, 1) := by decide +kernel
theorem dc_8_8_36 : decode prog_8_method_8_code 36 = .ok (.iload 4, 2) := by decide +kernel
theorem dc_8_8_38 : decode prog_8_method_8_code 38 = .ok (.iaload, 1) := by decide +kernel
theorem dc_8_8_39 : decode prog_8_method_8_code 39 = .ok (.ifCond .ne 5, 3) := by decide +kernel
theorem dc_8_8_42 : decode prog_8_method_8_code 42 = .ok (.iconst 0, 1) := by decide +kernel
theorem dc_8_8_43 : decode prog_8_method_8_code 43 = .ok (.ireturn, 1) := by decide +kernel
theorem dc_8_8_44 : decode prog_8_method_8_code 44 = .ok (.aload_n 0, 1) := by decide +kernel
theorem dc_8_8_45 : decode prog_8_method_8_code 45 = .ok (.iload_n 1, 1) := by decide +kernel
theorem dc_8_8_46 : decode prog_8_method_8_code 46 = .ok (.bipush 11, 2) := by decide +kernel
theorem dc_8_8_48 : decode prog_8_method_8_code 48 = .ok (.invokevirtual 30, 3) := by decide +kernel
theorem dc_8_8_51 : decode prog_8_method_8_code 51 = .ok (.istore 5, 2) := by decide +kernel
theorem dc_8_8_53 : decode prog_8_method_8_code 53 = .ok (.aload_n 0, 1) := by decide +kernel
theorem dc_8_8_54 : decode prog_8_method_8_code 54 = .ok (.iload_n 3, 1) := by decide +kernel
theorem dc_8_8_55 : decode prog_8_method_8_code 55 = .ok (.bipush 11, 2) := by decide +kernel
theorem dc_8_8_57 : decode prog_8_method_8_code 57 = .ok (.invokevirtual 30, 3) := by decide +kernel
theorem dc_8_8_60 : decode prog_8_method_8_code 60 = .ok (.istore 6, 2) := by decide +kernel
theorem dc_8_8_62 : decode prog_8_method_8_code 62 = .ok (.aload_n 0, 1) := by decide +kernel
theorem dc_8_8_63 : decode prog_8_method_8_code 63 = .ok (.iload_n 1, 1) := by decide +kernel
theorem dc_8_8_64 : decode prog_8_method_8_code 64 = .ok (.iload_n 2, 1) := by decide +kernel
theorem dc_8_8_65 : decode prog_8_method_8_code 65 = .ok (.invokevirtual 30, 3) := by decide +kernel
theorem dc_8_8_68 : decode prog_8_method_8_code 68 = .ok (.iload 6, 2) := by decide +kernel
theorem dc_8_8_70 : decode prog_8_method_8_code 70 = .ok (.imul, 1) := by decide +kernel
theorem dc_8_8_71 : decode prog_8_method_8_code 71 = .ok (.aload_n 0, 1) := by decide +kernel
theorem dc_8_8_72 : decode prog_8_method_8_code 72 = .ok (.iload_n 3, 1) := by decide +kernel
theorem dc_8_8_73 : decode prog_8_method_8_code 73 = .ok (.iload 4, 2) := by decide +kernel
theorem dc_8_8_75 : decode prog_8_method_8_code 75 = .ok (.iconst 1, 1) := by decide +kernel
theorem dc_8_8_76 : decode prog_8_method_8_code 76 = .ok (.iadd, 1) := by decide +kernel
theorem dc_8_8_77 : decode prog_8_method_8_code 77 = .ok (.invokevirtual 30, 3) := by decide +kernel
theorem dc_8_8_80 : decode prog_8_method_8_code 80 = .ok (.iload 5, 2) := by decide +kernel
theorem dc_8_8_82 : decode prog_8_method_8_code 82 = .ok (.imul, 1) := by decide +kernel
theorem dc_8_8_83 : decode prog_8_method_8_code 83 = .ok (.if_icmp .ge 31, 3) := by decide +kernel
theorem dc_8_8_86 : decode prog_8_method_8_code 86 = .ok (.aload_n 0, 1) := by decide +kernel
theorem dc_8_8_87 : decode prog_8_method_8_code 87 = .ok (.iload_n 3, 1) := by decide +kernel
theorem dc_8_8_88 : decode prog_8_method_8_code 88 = .ok (.iload 4, 2) := by decide +kernel
theorem dc_8_8_90 : decode prog_8_method_8_code 90 = .ok (.invokevirtual 30, 3) := by decide +kernel
theorem dc_8_8_93 : decode prog_8_method_8_code 93 = .ok (.iload 5, 2) := by decide +kernel
theorem dc_8_8_95 : decode prog_8_method_8_code 95 = .ok (.imul, 1) := by decide +kernel
theorem dc_8_8_96 : decode prog_8_method_8_code 96 = .ok (.aload_n 0, 1) := by decide +kernel
theorem dc_8_8_97 : decode prog_8_method_8_code 97 = .ok (.iload_n 1, 1) := by decide +kernel
theorem dc_8_8_98 : decode prog_8_method_8_code 98 = .ok (.iload_n 2, 1) := by decide +kernel
theorem dc_8_8_99 : decode prog_8_method_8_code 99 = .ok (.iconst 1, 1) := by decide +kernel
theorem dc_8_8_100 : decode prog_8_method_8_code 100 = .ok (.iadd, 1) := by decide +kernel
theorem dc_8_8_101 : decode prog_8_method_8_code 101 = .ok (.invokevirtual 30, 3) := by decide +kernel
theorem dc_8_8_104 : decode prog_8_method_8_code 104 = .ok (.iload 6, 2) := by decide +kernel
theorem dc_8_8_106 : decode prog_8_method_8_code 106 = .ok (.imul, 1) := by decide +kernel
theorem dc_8_8_107 : decode prog_8_method_8_code 107 = .ok (.if_icmp .ge 7, 3) := by decide +kernel
theorem dc_8_8_110 : decode prog_8_method_8_code 110 = .ok (.iconst 1, 1) := by decide +kernel
theorem dc_8_8_111 : decode prog_8_method_8_code 111 = .ok (.goto 4, 3) := by decide +kernel
theorem dc_8_8_114 : decode prog_8_method_8_code 114 = .ok (.iconst 0, 1) := by decide +kernel
theorem dc_8_8_115 : decode prog_8_method_8_code 115 = .ok (.ireturn, 1) := by decide +kernel
theorem dc_8_9_0 : decode prog_8_method_9_code 0 = .ok (.iconst 0, 1) := by decide +kernel
theorem dc_8_9_1 : decode prog_8_method_9_code 1 = .ok (.istore_n 3, 1) := by decide +kernel
theorem dc_8_9_2 : decode prog_8_method_9_code 2 = .ok (.iconst 0, 1) := by decide +kernel
theorem dc_8_9_3 : decode prog_8_method_9_code 3 = .ok (.istore 4, 2) := by decide +kernel
theorem dc_8_9_5 : decode prog_8_method_9_code 5 = .ok (.iload 4, 2) := by decide +kernel
theorem dc_8_9_7 : decode prog_8_method_9_code 7 = .ok (.iload_n 2, 1) := by decide +kernel
theorem dc_8_9_8 : decode prog_8_method_9_code 8 = .ok (.if_icmp .ge 42, 3) := by decide +kernel
theorem dc_8_9_11 : decode prog_8_method_9_code 11 = .ok (.iload 4, 2) := by decide +kernel
theorem dc_8_9_13 : decode prog_8_method_9_code 13 = .ok (.bipush 11, 2) := by decide +kernel
theorem dc_8_9_15 : decode prog_8_method_9_code 15 = .ok (.if_icmp .ge 35, 3) := by decide +kernel
theorem dc_8_9_18 : decode prog_8_method_9_code 18 = .ok (.iload_n 3, 1) := by decide +kernel
theorem dc_8_9_19 : decode prog_8_method_9_code 19 = .ok (.aload_n 0, 1) := by decide +kernel
theorem dc_8_9_20 : decode prog_8_method_9_code 20 = .ok (.iload_n 1, 1) := by decide +kernel
theorem dc_8_9_21 : decode prog_8_method_9_code 21 = .ok (.iload 4, 2) := by decide +kernel
theorem dc_8_9_23 : decode prog_8_method_9_code 23 = .ok (.invokevirtual 26, 3) := by decide +kernel
theorem dc_8_9_26 : decode prog_8_method_9_code 26 = .ok (.ifCond .eq 15, 3) := by decide +kernel
theorem dc_8_9_29 : decode prog_8_method_9_code 29 = .ok (.aload_n 0, 1) := by decide +kernel
theorem dc_8_9_30 : decode prog_8_method_9_code 30 = .ok (.getfield 13, 3) := by decide +kernel
theorem dc_8_9_33 : decode prog_8_method_9_code 33 = .ok (.iload_n 1, 1) := by decide +kernel
theorem dc_8_9_34 : decode prog_8_method_9_code 34 = .ok (.aaload, 1) := by decide +kernel
theorem dc_8_9_35 : decode prog_8_method_9_code 35 = .ok (.iload 4, 2) := by decide +kernel
theorem dc_8_9_37 : decode prog_8_method_9_code 37 = .ok (.iaload, 1) := by decide +kernel
theorem dc_8_9_38 : decode prog_8_method_9_code 38 = .ok (.goto 4, 3) := by decide +kernel
theorem dc_8_9_42 : decode prog_8_method_9_code 42 = .ok (.iadd, 1) := by decide +kernel
theorem dc_8_9_43 : decode prog_8_method_9_code 43 = .ok (.istore_n 3, 1) := by decide +kernel
theorem dc_8_9_44 : decode prog_8_method_9_code 44 = .ok (.iinc 4 1, 3) := by decide +kernel
theorem dc_8_9_47 : decode prog_8_method_9_code 47 = .ok (.goto (-42), 3) := by decide +kernel
theorem dc_8_9_50 : decode prog_8_method_9_code 50 = .ok (.iload_n 3, 1) := by decide +kernel
theorem dc_8_9_51 : decode prog_8_method_9_code 51 = .ok (.ireturn, 1) := by decide +kernel
theorem iv_1_s22 : mm_iv 1 (.invokestatic 22) = some (3, 13) := by decide +kernel
theorem iv_1_v26 : mm_iv 1 (.invokevirtual 26) = some (1, 16) := by decide +kernel
theorem iv_1_v30 : mm_iv 1 (.invokevirtual 30) = some (1, 19) := by decide +kernel
theorem iv_1_v34 : mm_iv 1 (.invokevirtual 34) = some (1, 22) := by decide +kernel
theorem iv_1_v38 : mm_iv 1 (.invokevirtual 38) = some (1, 20) := by decide +kernel
theorem o_16 : mm_o 16 = 1 := by decide +kernel
theorem o_19 : mm_o 19 = 1 := by decide +kernel
theorem o_20 : mm_o 20 = 1 := by decide +kernel
theorem o_22 : mm_o 22 = 1 := by decide +kernel
theorem na_1_16 : mm_nas 1 16 = 3 := by decide +kernel
theorem na_1_19 : mm_nas 1 19 = 3 := by decide +kernel
theorem na_1_20 : mm_nas 1 20 = 4 := by decide +kernel
theorem na_1_22 : mm_nas 1 22 = 5 := by decide +kernel
theorem na_3_13 : mm_nas 3 13 = 3 := by decide +kernel
def dI (k : Nat) : Int32 := nI k + (-1)
theorem dI_S (k : Nat) : dI (k + 1) = nI k := pk_m1 k
theorem sp_in_0 {v lo hi : Int32} (h : sp_in v lo hi = 0) : ¬ (lo ≤ v ∧ v ≤ hi) := fun q => absurd ((sp_in_c (Int32.not_lt.mpr q.1) (Int32.not_lt.mpr q.2)).symm.trans h) (by decide)
theorem sp_in_1 {v lo hi : Int32} (h : ¬ sp_in v lo hi = 0) : lo ≤ v ∧ v ≤ hi := Classical.byContradiction (fun q => h (if_neg q))
def gMk (s m : Int32) : Prop := (nI 0 ≤ s ∧ s ≤ nI 3) ∧ (nI 0 ≤ m ∧ m ≤ nI 10)
set_option maxHeartbeats 4000000 in
theorem k_isMark (M : mH) (hM : 157 ≤ M.1) (T : Nat → mT) (e : Nat → Nat) (hF : ShF T e) (cs : Nat → Nat → Int32) (s m : Int32) : mm_Ev 2 16 [.ref 4, .int s, .int m] (hk M T cs) ((some (.int (pI (gMk s m))), hk M T cs)) := by
  refine r_ev (by decide +kernel) (show (3 : Nat) ≤ mm_nL 16 by decide +kernel) ?_
  show mm_Ru 1 (1, 3, false, prog_8_method_2_code, some .boolean) 0 [(0, .ref 4), (1, .int s), (2, .int m)] [] (hk M T cs) (fun r9 => r9 = ((some (.int (pI (gMk s m))), hk M T cs)))
  refine r_iload_n rfl dc_8_2_0 ?_
  refine r_iconst (v := nI 0) (by decide) dc_8_2_1 ?_
  refine r_iconst (v := nI 3) (by decide) dc_8_2_2 ?_
  refine h_callS (as := [.int s, .int (nI 0), .int (nI 3)]) (rest := []) (v := .int (sp_in s (nI 0) (nI 3))) rfl rfl iv_1_s22 (Or.inr rfl) na_3_13 rfl (show (0 : Nat) ≤ 8 by decide) dc_8_2_3 (k_in _ s (nI 0) (nI 3)) ?_
  refine r_ifeq (t := 23) (by decide) dc_8_2_6 (fun c_6 => ?_) (fun c_6 => ?_)
  · skip
    refine r_iconst (v := nI 0) (by decide) dc_8_2_23 ?_
    refine r_zret rfl (by decide) dc_8_2_24 ?_
    rw [pI_f (P := gMk s m) (fun z => sp_in_0 c_6 z.1)]
  · skip
    refine r_iload_n rfl dc_8_2_9 ?_
    refine r_iconst (v := nI 0) (by decide) dc_8_2_10 ?_
    refine r_bipush (v := nI 10) (by decide) dc_8_2_11 ?_
    refine h_callS (as := [.int m, .int (nI 0), .int (nI 10)]) (rest := []) (v := .int (sp_in m (nI 0) (nI 10))) rfl rfl iv_1_s22 (Or.inr rfl) na_3_13 rfl (show (0 : Nat) ≤ 8 by decide) dc_8_2_13 (k_in _ m (nI 0) (nI 10)) ?_
    refine r_ifeq (t := 23) (by decide) dc_8_2_16 (fun c_16 => ?_) (fun c_16 => ?_)
    · skip
      refine r_iconst (v := nI 0) (by decide) dc_8_2_23 ?_
      refine r_zret rfl (by decide) dc_8_2_24 ?_
      rw [pI_f (P := gMk s m) (fun z => sp_in_0 c_16 z.2)]
    · skip
      refine r_iconst (v := nI 1) (by decide) dc_8_2_19 ?_
      refine r_goto (t := 24) (by decide) dc_8_2_20 ?_
      refine r_zret rfl (by decide) dc_8_2_24 ?_
      rw [pI_t (P := gMk s m) ⟨sp_in_1 c_6, sp_in_1 c_16⟩]
theorem gMk_n {s m : Nat} (hs : s < 4) (hm : m < 11) : gMk (nI s) (nI m) := ⟨⟨nI_le (Nat.zero_le _) (by omega), nI_le (by omega) (by omega)⟩, ⟨nI_le (Nat.zero_le _) (by omega), nI_le (by omega) (by omega)⟩⟩
theorem k_isMarkT (M : mH) (hM : 157 ≤ M.1) (T : Nat → mT) (e : Nat → Nat) (hF : ShF T e) (cs : Nat → Nat → Int32) (s m : Nat) (hs : s < 4) (hm : m < 11) : mm_Ev 2 16 [.ref 4, .int (nI s), .int (nI m)] (hk M T cs) (some (.int (nI 1)), hk M T cs) := by
  have h := k_isMark M hM T e hF cs (nI s) (nI m)
  rwa [pI_t (gMk_n hs hm)] at h
set_option maxHeartbeats 4000000 in
theorem k_setHad_ok (M : mH) (hM : 157 ≤ M.1) (T : Nat → mT) (e : Nat → Nat) (hF : ShF T e) (cs : Nat → Nat → Int32) (c m n : Nat) (hc : c < 4) (hm : m < 11) (hn : n ≤ 999) : mm_Ev 3 15 [.ref 4, .int (nI c), .int (nI m), .int (nI n)] (hk M T cs) ((some (.int (nI 1)), hk M T (w1 cs (6 + c) m (nI n)))) := by
  refine r_ev (by decide +kernel) (show (4 : Nat) ≤ mm_nL 15 by decide +kernel) ?_
  show mm_Ru 2 (1, 4, false, prog_8_method_3_code, some .boolean) 0 [(0, .ref 4), (1, .int (nI c)), (2, .int (nI m)), (3, .int (nI n))] [] (hk M T cs) (fun r9 => r9 = ((some (.int (nI 1)), hk M T (w1 cs (6 + c) m (nI n)))))
  refine r_aload_n rfl dc_8_3_0 ?_
  refine r_iload_n rfl dc_8_3_1 ?_
  refine r_iload_n rfl dc_8_3_2 ?_
  refine h_callv (t := cT e 4) (as := [.int (nI c), .int (nI m)]) (rest := []) (v := .int (nI 1)) (M1 := hk M T cs) rfl rfl iv_1_v26 (Or.inl rfl) na_1_16 (hF 4 (by decide)) ⟨by omega, by omega⟩ (show (1 : Nat) < 14 by decide) o_16 rfl (show (0 : Nat) ≤ 8 by decide) dc_8_3_3 (k_isMarkT M hM T e hF cs c m (by omega) (by omega)) ?_
  refine r_ifeq (t := 20) (by decide) dc_8_3_6 (fun c_6 => ?_) (fun c_6 => ?_)
  · exact absurd c_6 (by decide)
  · skip
    refine r_iload_n rfl dc_8_3_9 ?_
    refine r_iconst (v := nI 0) (by decide) dc_8_3_10 ?_
    refine r_sipush (v := nI 999) (by decide) dc_8_3_11 ?_
    refine h_callS (as := [.int (nI n), .int (nI 0), .int (nI 999)]) (rest := []) (v := .int (nI 1)) rfl rfl iv_1_s22 (Or.inr rfl) na_3_13 rfl (show (0 : Nat) ≤ 8 by decide) dc_8_3_14 (mm_Ev_up (by decide : 1 ≤ 2) (k_inT _ n 0 999 (by omega) (by omega) (by decide))) ?_
    refine r_ifne (t := 22) (by decide) dc_8_3_17 (fun c_17 => ?_) (fun c_17 => ?_)
    · skip
      refine r_aload_n rfl dc_8_3_22 ?_
      refine h_get (t := cT e 4) (v := .ref 5) fx_1_13 (hF 4 (by decide)) ⟨by omega, by omega⟩ (rfl) dc_8_3_23 ?_
      refine r_iload_n rfl dc_8_3_26 ?_
      refine h_aal (c := 24) (n := 4) (e := c) (y := 6 + c) (hF 5 (by decide)) (Or.inr rfl) ⟨by omega, by omega⟩ (by omega) (by omega) (if_pos (by omega)) dc_8_3_27 ?_
      refine r_iload_n rfl dc_8_3_28 ?_
      refine r_iload_n rfl dc_8_3_29 ?_
      refine h_ist (n := 11) (e := m) ((hF (6 + c) (by omega)).trans (cR_5 e c (by omega))) ⟨by omega, by omega⟩ (show m < 11 by omega) (by omega) dc_8_3_30 ?_
      refine r_iconst (v := nI 1) (by decide) dc_8_3_31 ?_
      exact r_zret rfl (by decide) dc_8_3_32 (rfl)
    · exact absurd c_17 (by decide)
set_option maxHeartbeats 4000000 in
theorem k_setHad_no (M : mH) (hM : 157 ≤ M.1) (T : Nat → mT) (e : Nat → Nat) (hF : ShF T e) (cs : Nat → Nat → Int32) (c m n : Int32) (hno : ¬ gd_had c m n) : mm_Ev 3 15 [.ref 4, .int c, .int m, .int n] (hk M T cs) ((some (.int (nI 0)), hk M T cs)) := by
  refine r_ev (by decide +kernel) (show (4 : Nat) ≤ mm_nL 15 by decide +kernel) ?_
  show mm_Ru 2 (1, 4, false, prog_8_method_3_code, some .boolean) 0 [(0, .ref 4), (1, .int c), (2, .int m), (3, .int n)] [] (hk M T cs) (fun r9 => r9 = ((some (.int (nI 0)), hk M T cs)))
  refine r_aload_n rfl dc_8_3_0 ?_
  refine r_iload_n rfl dc_8_3_1 ?_
  refine r_iload_n rfl dc_8_3_2 ?_
  refine h_callv (t := cT e 4) (as := [.int c, .int m]) (rest := []) (v := .int (pI (gMk c m))) (M1 := hk M T cs) rfl rfl iv_1_v26 (Or.inl rfl) na_1_16 (hF 4 (by decide)) ⟨by omega, by omega⟩ (show (1 : Nat) < 14 by decide) o_16 rfl (show (0 : Nat) ≤ 8 by decide) dc_8_3_3 (k_isMark M hM T e hF cs c m) ?_
  refine r_ifeq (t := 20) (by decide) dc_8_3_6 (fun c_6 => ?_) (fun c_6 => ?_)
  · skip
    refine r_iconst (v := nI 0) (by decide) dc_8_3_20 ?_
    exact r_zret rfl (by decide) dc_8_3_21 (rfl)
  · skip
    refine r_iload_n rfl dc_8_3_9 ?_
    refine r_iconst (v := nI 0) (by decide) dc_8_3_10 ?_
    refine r_sipush (v := nI 999) (by decide) dc_8_3_11 ?_
    refine h_callS (as := [.int n, .int (nI 0), .int (nI 999)]) (rest := []) (v := .int (sp_in n (nI 0) (nI 999))) rfl rfl iv_1_s22 (Or.inr rfl) na_3_13 rfl (show (0 : Nat) ≤ 8 by decide) dc_8_3_14 (mm_Ev_up (by decide : 1 ≤ 2) (k_in _ n (nI 0) (nI 999))) ?_
    refine r_ifne (t := 22) (by decide) dc_8_3_17 (fun c_17 => ?_) (fun c_17 => ?_)
    · skip
      exact absurd ⟨(pI_ne c_6).1, (pI_ne c_6).2, sp_in_1 c_17⟩ hno
    · skip
      refine r_iconst (v := nI 0) (by decide) dc_8_3_20 ?_
      exact r_zret rfl (by decide) dc_8_3_21 (rfl)
set_option maxHeartbeats 4000000 in
theorem k_below (M : mH) (hM : 157 ≤ M.1) (T : Nat → mT) (e : Nat → Nat) (hF : ShF T e) (cs : Nat → Nat → Int32) (sg : Nat → Nat → Int32) (hsc : ∀ i, i < 4 → ∀ m, m < 11 → cs (6 + i) m = sg 2 (11 * i + m)) (c mk : Nat) (hc : c < 4) (hk9 : mk ≤ 11) : mm_Ev 3 19 [.ref 4, .int (nI c), .int (nI mk)] (hk M T cs) ((some (.int (sp_below sg c mk)), hk M T cs)) := by
  refine r_ev (by decide +kernel) (show (3 : Nat) ≤ mm_nL 19 by decide +kernel) ?_
  show mm_Ru 2 (1, 5, false, prog_8_method_9_code, some .int) 0 [(0, .ref 4), (1, .int (nI c)), (2, .int (nI mk))] [] (hk M T cs) (fun r9 => r9 = ((some (.int (sp_below sg c mk)), hk M T cs)))
  refine r_iconst (v := nI 0) (by decide) dc_8_9_0 ?_
  refine r_istore_n (ls' := [(3, .int (nI 0)), (0, .ref 4), (1, .int (nI c)), (2, .int (nI mk))]) (by decide) rfl dc_8_9_1 ?_
  refine r_iconst (v := nI 0) (by decide) dc_8_9_2 ?_
  refine r_istore (ls' := [(4, .int (nI 0)), (3, .int (nI 0)), (0, .ref 4), (1, .int (nI c)), (2, .int (nI mk))]) (by decide) rfl dc_8_9_3 ?_
  refine mm_cnt (P := fun m => ∀ (acc : Int32), (acc = sp_below sg c m) → mm_Ru 2 (1, 5, false, prog_8_method_9_code, some .int) 5 [(4, .int (nI m)), (3, .int acc), (0, .ref 4), (1, .int (nI c)), (2, .int (nI mk))] [] (hk M T cs) (fun r9 => r9 = ((some (.int (sp_below sg c mk)), hk M T cs)))) mk ?_ ?_ 0 (by omega) (nI 0) (rfl)
  · intro acc hi_m
    show mm_Ru 2 (1, 5, false, prog_8_method_9_code, some .int) 5 [(4, .int (nI mk)), (3, .int acc), (0, .ref 4), (1, .int (nI c)), (2, .int (nI mk))] [] (hk M T cs) (fun r9 => r9 = ((some (.int (sp_below sg c mk)), hk M T cs)))
    refine r_iload rfl dc_8_9_5 ?_
    refine r_iload_n rfl dc_8_9_7 ?_
    refine r_ncge (t := 50) (by omega) (by omega) (by decide) dc_8_9_8 (fun c_8 => ?_) (fun c_8 => ?_)
    · skip
      refine r_iload_n rfl dc_8_9_50 ?_
      refine r_iret rfl dc_8_9_51 ?_
      rw [hi_m]
    · omega
  · intro m h_m ih_m acc hi_m
    show mm_Ru 2 (1, 5, false, prog_8_method_9_code, some .int) 5 [(4, .int (nI m)), (3, .int acc), (0, .ref 4), (1, .int (nI c)), (2, .int (nI mk))] [] (hk M T cs) (fun r9 => r9 = ((some (.int (sp_below sg c mk)), hk M T cs)))
    refine r_iload rfl dc_8_9_5 ?_
    refine r_iload_n rfl dc_8_9_7 ?_
    refine r_ncge (t := 50) (by omega) (by omega) (by decide) dc_8_9_8 (fun c_8 => ?_) (fun c_8 => ?_)
    · omega
    · skip
      refine r_iload rfl dc_8_9_11 ?_
      refine r_bipush (v := nI 11) (by decide) dc_8_9_13 ?_
      refine r_ncge (t := 50) (by omega) (by omega) (by decide) dc_8_9_15 (fun c_15 => ?_) (fun c_15 => ?_)
      · omega
      · skip
        refine r_iload_n rfl dc_8_9_18 ?_
        refine r_aload_n rfl dc_8_9_19 ?_
        refine r_iload_n rfl dc_8_9_20 ?_
        refine r_iload rfl dc_8_9_21 ?_
        refine h_callv (t := cT e 4) (as := [.int (nI c), .int (nI m)]) (rest := [.int acc]) (v := .int (nI 1)) (M1 := hk M T cs) rfl rfl iv_1_v26 (Or.inl rfl) na_1_16 (hF 4 (by decide)) ⟨by omega, by omega⟩ (show (1 : Nat) < 14 by decide) o_16 rfl (show (1 : Nat) ≤ 8 by decide) dc_8_9_23 (k_isMarkT M hM T e hF cs c m (by omega) (by omega)) ?_
        refine r_ifeq (t := 41) (by decide) dc_8_9_26 (fun c_26 => ?_) (fun c_26 => ?_)
        · exact absurd c_26 (by decide)
        · skip
          refine r_aload_n rfl dc_8_9_29 ?_
          refine h_get (t := cT e 4) (v := .ref 5) fx_1_13 (hF 4 (by decide)) ⟨by omega, by omega⟩ (rfl) dc_8_9_30 ?_
          refine r_iload_n rfl dc_8_9_33 ?_
          refine h_aal (c := 24) (n := 4) (e := c) (y := 6 + c) (hF 5 (by decide)) (Or.inr rfl) ⟨by omega, by omega⟩ (by omega) (by omega) (if_pos (by omega)) dc_8_9_34 ?_
          refine r_iload rfl dc_8_9_35 ?_
          refine h_ild (n := 11) (e := m) (v := sg 2 (11 * c + m)) ((hF (6 + c) (by omega)).trans (cR_5 e c (by omega))) ⟨by omega, by omega⟩ (show m < 11 by omega) (by omega) (hsc c hc m (by omega)) dc_8_9_37 ?_
          refine r_goto (t := 42) (by decide) dc_8_9_38 ?_
          refine r_iadd (v := acc + (sg 2 (11 * c + m))) (rfl) dc_8_9_42 ?_
          refine r_istore_n (ls' := [(3, .int (acc + (sg 2 (11 * c + m)))), (4, .int (nI m)), (0, .ref 4), (1, .int (nI c)), (2, .int (nI mk))]) (by decide) rfl dc_8_9_43 ?_
          refine r_iinc (x := nI m) (v := nI (m + 1)) (ls' := [(4, .int (nI (m + 1))), (3, .int (acc + (sg 2 (11 * c + m)))), (0, .ref 4), (1, .int (nI c)), (2, .int (nI mk))]) rfl (nI_1 _) (by decide) rfl dc_8_9_44 ?_
          refine r_goto (t := 5) (by decide) dc_8_9_47 ?_
          exact ih_m (acc + (sg 2 (11 * c + m))) (by rw [hi_m]; rfl)
set_option maxHeartbeats 4000000 in
theorem k_canTurn (M : mH) (hM : 157 ≤ M.1) (T : Nat → mT) (e : Nat → Nat) (hF : ShF T e) (cs : Nat → Nat → Int32) (sg : Nat → Nat → Int32) (hsc : ∀ i, i < 4 → ∀ m, m < 11 → cs (6 + i) m = sg 2 (11 * i + m)) (c x : Nat) (hc : c < 4) (hx : x < 4) : mm_Ev 4 18 [.ref 4, .int (nI c), .int (nI x)] (hk M T cs) ((some (.int (pI (0 < sp_below sg c 11 ∧ 0 < sp_below sg x 11))), hk M T cs)) := by
  refine r_ev (by decide +kernel) (show (3 : Nat) ≤ mm_nL 18 by decide +kernel) ?_
  show mm_Ru 3 (1, 3, false, prog_8_method_4_code, some .boolean) 0 [(0, .ref 4), (1, .int (nI c)), (2, .int (nI x))] [] (hk M T cs) (fun r9 => r9 = ((some (.int (pI (0 < sp_below sg c 11 ∧ 0 < sp_below sg x 11))), hk M T cs)))
  refine r_aload_n rfl dc_8_4_0 ?_
  refine r_iload_n rfl dc_8_4_1 ?_
  refine r_bipush (v := nI 11) (by decide) dc_8_4_2 ?_
  refine h_callv (t := cT e 4) (as := [.int (nI c), .int (nI 11)]) (rest := []) (v := .int (sp_below sg c 11)) (M1 := hk M T cs) rfl rfl iv_1_v30 (Or.inl rfl) na_1_19 (hF 4 (by decide)) ⟨by omega, by omega⟩ (show (1 : Nat) < 14 by decide) o_19 rfl (show (0 : Nat) ≤ 8 by decide) dc_8_4_4 (mm_Ev_up (by decide : 3 ≤ 3) (k_below M hM T e hF cs sg hsc c 11 (by omega) (by omega))) ?_
  refine r_ifle (t := 24) (by decide) dc_8_4_7 (fun c_7 => ?_) (fun c_7 => ?_)
  · skip
    refine r_iconst (v := nI 0) (by decide) dc_8_4_24 ?_
    refine r_zret rfl (by decide) dc_8_4_25 ?_
    rw [pI_f (fun z => absurd c_7 (Int32.not_le.mpr z.1))]
  · skip
    refine r_aload_n rfl dc_8_4_10 ?_
    refine r_iload_n rfl dc_8_4_11 ?_
    refine r_bipush (v := nI 11) (by decide) dc_8_4_12 ?_
    refine h_callv (t := cT e 4) (as := [.int (nI x), .int (nI 11)]) (rest := []) (v := .int (sp_below sg x 11)) (M1 := hk M T cs) rfl rfl iv_1_v30 (Or.inl rfl) na_1_19 (hF 4 (by decide)) ⟨by omega, by omega⟩ (show (1 : Nat) < 14 by decide) o_19 rfl (show (0 : Nat) ≤ 8 by decide) dc_8_4_14 (mm_Ev_up (by decide : 3 ≤ 3) (k_below M hM T e hF cs sg hsc x 11 (by omega) (by omega))) ?_
    refine r_ifle (t := 24) (by decide) dc_8_4_17 (fun c_17 => ?_) (fun c_17 => ?_)
    · skip
      refine r_iconst (v := nI 0) (by decide) dc_8_4_24 ?_
      refine r_zret rfl (by decide) dc_8_4_25 ?_
      rw [pI_f (fun z => absurd c_17 (Int32.not_le.mpr z.2))]
    · skip
      refine r_iconst (v := nI 1) (by decide) dc_8_4_20 ?_
      refine r_goto (t := 25) (by decide) dc_8_4_21 ?_
      refine r_zret rfl (by decide) dc_8_4_25 ?_
      rw [pI_t ⟨Int32.not_le.mp c_7, Int32.not_le.mp c_17⟩]
set_option maxHeartbeats 4000000 in
theorem k_turned (M : mH) (hM : 157 ≤ M.1) (T : Nat → mT) (e : Nat → Nat) (hF : ShF T e) (cs : Nat → Nat → Int32) (sg : Nat → Nat → Int32) (hsc : ∀ i, i < 4 → ∀ m, m < 11 → cs (6 + i) m = sg 2 (11 * i + m)) (fr to mk : Nat) (hf : fr < 4) (ht : to < 4) (hk9 : mk < 11) (hz : ∀ j, j < 44 → sg 2 j ≤ 0 → sg 2 j = 0) : mm_Ev 4 20 [.ref 4, .int (nI fr), .int (nI to), .int (nI mk)] (hk M T cs) ((some (.int (sp_tu sg fr to mk 11)), hk M T cs)) := by
  refine r_ev (by decide +kernel) (show (4 : Nat) ≤ mm_nL 20 by decide +kernel) ?_
  show mm_Ru 3 (1, 8, false, prog_8_method_5_code, some .int) 0 [(0, .ref 4), (1, .int (nI fr)), (2, .int (nI to)), (3, .int (nI mk))] [] (hk M T cs) (fun r9 => r9 = ((some (.int (sp_tu sg fr to mk 11)), hk M T cs)))
  refine r_aload_n rfl dc_8_5_0 ?_
  refine r_iload_n rfl dc_8_5_1 ?_
  refine r_iload_n rfl dc_8_5_2 ?_
  refine h_callv (t := cT e 4) (as := [.int (nI fr), .int (nI mk)]) (rest := []) (v := .int (nI 1)) (M1 := hk M T cs) rfl rfl iv_1_v26 (Or.inl rfl) na_1_16 (hF 4 (by decide)) ⟨by omega, by omega⟩ (show (1 : Nat) < 14 by decide) o_16 rfl (show (0 : Nat) ≤ 8 by decide) dc_8_5_3 (mm_Ev_up (by decide : 2 ≤ 3) (k_isMarkT M hM T e hF cs fr mk (by omega) (by omega))) ?_
  refine r_ifeq (t := 18) (by decide) dc_8_5_6 (fun c_6 => ?_) (fun c_6 => ?_)
  · exact absurd c_6 (by decide)
  · skip
    refine r_aload_n rfl dc_8_5_9 ?_
    refine r_iload_n rfl dc_8_5_10 ?_
    refine r_iload_n rfl dc_8_5_11 ?_
    refine h_callv (t := cT e 4) (as := [.int (nI to), .int (nI mk)]) (rest := []) (v := .int (nI 1)) (M1 := hk M T cs) rfl rfl iv_1_v26 (Or.inl rfl) na_1_16 (hF 4 (by decide)) ⟨by omega, by omega⟩ (show (1 : Nat) < 14 by decide) o_16 rfl (show (0 : Nat) ≤ 8 by decide) dc_8_5_12 (mm_Ev_up (by decide : 2 ≤ 3) (k_isMarkT M hM T e hF cs to mk (by omega) (by omega))) ?_
    refine r_ifne (t := 20) (by decide) dc_8_5_15 (fun c_15 => ?_) (fun c_15 => ?_)
    · skip
      refine r_iconst (v := nI 2) (by decide) dc_8_5_20 ?_
      refine r_aload_n rfl dc_8_5_21 ?_
      refine r_iload_n rfl dc_8_5_22 ?_
      refine r_iload_n rfl dc_8_5_23 ?_
      refine h_callv (t := cT e 4) (as := [.int (nI fr), .int (nI mk)]) (rest := [.int (nI 2)]) (v := .int (sp_below sg fr mk)) (M1 := hk M T cs) rfl rfl iv_1_v30 (Or.inl rfl) na_1_19 (hF 4 (by decide)) ⟨by omega, by omega⟩ (show (1 : Nat) < 14 by decide) o_19 rfl (show (1 : Nat) ≤ 8 by decide) dc_8_5_24 (mm_Ev_up (by decide : 3 ≤ 3) (k_below M hM T e hF cs sg hsc fr mk (by omega) (by omega))) ?_
      refine r_imul (v := nI 2 * sp_below sg fr mk) (rfl) dc_8_5_27 ?_
      refine r_aload_n rfl dc_8_5_28 ?_
      refine h_get (t := cT e 4) (v := .ref 5) fx_1_13 (hF 4 (by decide)) ⟨by omega, by omega⟩ (rfl) dc_8_5_29 ?_
      refine r_iload_n rfl dc_8_5_32 ?_
      refine h_aal (c := 24) (n := 4) (e := fr) (y := 6 + fr) (hF 5 (by decide)) (Or.inr rfl) ⟨by omega, by omega⟩ (by omega) (by omega) (if_pos (by omega)) dc_8_5_33 ?_
      refine r_iload_n rfl dc_8_5_34 ?_
      refine h_ild (n := 11) (e := mk) (v := sg 2 (11 * fr + mk)) ((hF (6 + fr) (by omega)).trans (cR_5 e fr (by omega))) ⟨by omega, by omega⟩ (show mk < 11 by omega) (by omega) (hsc fr hf mk hk9) dc_8_5_35 ?_
      refine r_iadd (v := (nI 2 * sp_below sg fr mk) + (sg 2 (11 * fr + mk))) (rfl) dc_8_5_36 ?_
      refine r_aload_n rfl dc_8_5_37 ?_
      refine r_iload_n rfl dc_8_5_38 ?_
      refine r_bipush (v := nI 11) (by decide) dc_8_5_39 ?_
      refine h_callv (t := cT e 4) (as := [.int (nI to), .int (nI 11)]) (rest := [.int ((nI 2 * sp_below sg fr mk) + (sg 2 (11 * fr + mk)))]) (v := .int (sp_below sg to 11)) (M1 := hk M T cs) rfl rfl iv_1_v30 (Or.inl rfl) na_1_19 (hF 4 (by decide)) ⟨by omega, by omega⟩ (show (1 : Nat) < 14 by decide) o_19 rfl (show (1 : Nat) ≤ 8 by decide) dc_8_5_41 (mm_Ev_up (by decide : 3 ≤ 3) (k_below M hM T e hF cs sg hsc to 11 (by omega) (by omega))) ?_
      refine r_imul (v := ((nI 2 * sp_below sg fr mk) + (sg 2 (11 * fr + mk))) * (sp_below sg to 11)) (rfl) dc_8_5_44 ?_
      refine r_istore (ls' := [(4, .int (((nI 2 * sp_below sg fr mk) + (sg 2 (11 * fr + mk))) * (sp_below sg to 11))), (0, .ref 4), (1, .int (nI fr)), (2, .int (nI to)), (3, .int (nI mk))]) (by decide) rfl dc_8_5_45 ?_
      refine r_iconst (v := nI 2) (by decide) dc_8_5_47 ?_
      refine r_aload_n rfl dc_8_5_48 ?_
      refine r_iload_n rfl dc_8_5_49 ?_
      refine r_bipush (v := nI 11) (by decide) dc_8_5_50 ?_
      refine h_callv (t := cT e 4) (as := [.int (nI fr), .int (nI 11)]) (rest := [.int (nI 2)]) (v := .int (sp_below sg fr 11)) (M1 := hk M T cs) rfl rfl iv_1_v30 (Or.inl rfl) na_1_19 (hF 4 (by decide)) ⟨by omega, by omega⟩ (show (1 : Nat) < 14 by decide) o_19 rfl (show (1 : Nat) ≤ 8 by decide) dc_8_5_52 (mm_Ev_up (by decide : 3 ≤ 3) (k_below M hM T e hF cs sg hsc fr 11 (by omega) (by omega))) ?_
      refine r_imul (v := (nI 2) * (sp_below sg fr 11)) (rfl) dc_8_5_55 ?_
      refine r_istore (ls' := [(5, .int ((nI 2) * (sp_below sg fr 11))), (4, .int (((nI 2 * sp_below sg fr mk) + (sg 2 (11 * fr + mk))) * (sp_below sg to 11))), (0, .ref 4), (1, .int (nI fr)), (2, .int (nI to)), (3, .int (nI mk))]) (by decide) rfl dc_8_5_56 ?_
      refine r_iconst (v := -1) (by decide) dc_8_5_58 ?_
      refine r_istore (ls' := [(6, .int ((-1))), (5, .int ((nI 2) * (sp_below sg fr 11))), (4, .int (((nI 2 * sp_below sg fr mk) + (sg 2 (11 * fr + mk))) * (sp_below sg to 11))), (0, .ref 4), (1, .int (nI fr)), (2, .int (nI to)), (3, .int (nI mk))]) (by decide) rfl dc_8_5_59 ?_
      refine r_iconst (v := nI 0) (by decide) dc_8_5_61 ?_
      refine r_istore (ls' := [(7, .int (nI 0)), (6, .int ((-1))), (5, .int ((nI 2) * (sp_below sg fr 11))), (4, .int (((nI 2 * sp_below sg fr mk) + (sg 2 (11 * fr + mk))) * (sp_below sg to 11))), (0, .ref 4), (1, .int (nI fr)), (2, .int (nI to)), (3, .int (nI mk))]) (by decide) rfl dc_8_5_62 ?_
      refine r_ls [(7, .int (nI 0)), (6, .int ((-1))), (0, .ref 4), (1, .int (nI fr)), (2, .int (nI to)), (3, .int (nI mk)), (4, .int (((nI 2 * sp_below sg fr mk) + (sg 2 (11 * fr + mk))) * (sp_below sg to 11))), (5, .int ((nI 2) * (sp_below sg fr 11)))] (mm_ndk_of [7, 6, 0, 1, 2, 3, 4, 5] rfl (by decide)) (mm_sub_cons rfl (mm_sub_cons rfl (mm_sub_cons rfl (mm_sub_cons rfl (mm_sub_cons rfl (mm_sub_cons rfl (mm_sub_cons rfl (mm_sub_cons rfl (mm_sub_nil _))))))))) ?_
      refine mm_cnt (P := fun m => ∀ (acc : Int32), (acc = sp_tu sg fr to mk m) → mm_Ru 3 (1, 8, false, prog_8_method_5_code, some .int) 64 [(7, .int (nI m)), (6, .int acc), (0, .ref 4), (1, .int (nI fr)), (2, .int (nI to)), (3, .int (nI mk)), (4, .int (((nI 2 * sp_below sg fr mk) + (sg 2 (11 * fr + mk))) * (sp_below sg to 11))), (5, .int ((nI 2) * (sp_below sg fr 11)))] [] (hk M T cs) (fun r9 => r9 = ((some (.int (sp_tu sg fr to mk 11)), hk M T cs)))) 11 ?_ ?_ 0 (by omega) ((-1)) (rfl)
      · intro acc hi_m
        show mm_Ru 3 (1, 8, false, prog_8_method_5_code, some .int) 64 [(7, .int (nI 11)), (6, .int acc), (0, .ref 4), (1, .int (nI fr)), (2, .int (nI to)), (3, .int (nI mk)), (4, .int (((nI 2 * sp_below sg fr mk) + (sg 2 (11 * fr + mk))) * (sp_below sg to 11))), (5, .int ((nI 2) * (sp_below sg fr 11)))] [] (hk M T cs) (fun r9 => r9 = ((some (.int (sp_tu sg fr to mk 11)), hk M T cs)))
        refine r_iload rfl dc_8_5_64 ?_
        refine r_bipush (v := nI 11) (by decide) dc_8_5_66 ?_
        refine r_ncge (t := 108) (by omega) (by omega) (by decide) dc_8_5_68 (fun c_68 => ?_) (fun c_68 => ?_)
        · skip
          refine r_iload rfl dc_8_5_108 ?_
          refine r_iret rfl dc_8_5_110 ?_
          rw [hi_m]
        · omega
      · intro m h_m ih_m acc hi_m
        show mm_Ru 3 (1, 8, false, prog_8_method_5_code, some .int) 64 [(7, .int (nI m)), (6, .int acc), (0, .ref 4), (1, .int (nI fr)), (2, .int (nI to)), (3, .int (nI mk)), (4, .int (((nI 2 * sp_below sg fr mk) + (sg 2 (11 * fr + mk))) * (sp_below sg to 11))), (5, .int ((nI 2) * (sp_below sg fr 11)))] [] (hk M T cs) (fun r9 => r9 = ((some (.int (sp_tu sg fr to mk 11)), hk M T cs)))
        refine r_iload rfl dc_8_5_64 ?_
        refine r_bipush (v := nI 11) (by decide) dc_8_5_66 ?_
        refine r_ncge (t := 108) (by omega) (by omega) (by decide) dc_8_5_68 (fun c_68 => ?_) (fun c_68 => ?_)
        · omega
        · skip
          refine r_aload_n rfl dc_8_5_71 ?_
          refine h_get (t := cT e 4) (v := .ref 5) fx_1_13 (hF 4 (by decide)) ⟨by omega, by omega⟩ (rfl) dc_8_5_72 ?_
          refine r_iload_n rfl dc_8_5_75 ?_
          refine h_aal (c := 24) (n := 4) (e := to) (y := 6 + to) (hF 5 (by decide)) (Or.inr rfl) ⟨by omega, by omega⟩ (by omega) (by omega) (if_pos (by omega)) dc_8_5_76 ?_
          refine r_iload rfl dc_8_5_77 ?_
          refine h_ild (n := 11) (e := m) (v := sg 2 (11 * to + m)) ((hF (6 + to) (by omega)).trans (cR_5 e to (by omega))) ⟨by omega, by omega⟩ (show m < 11 by omega) (by omega) (hsc to ht m (by omega)) dc_8_5_79 ?_
          refine r_ifle (t := 102) (by decide) dc_8_5_80 (fun c_80 => ?_) (fun c_80 => ?_)
          · skip
            refine r_iinc (x := nI m) (v := nI (m + 1)) (ls' := [(7, .int (nI (m + 1))), (6, .int acc), (0, .ref 4), (1, .int (nI fr)), (2, .int (nI to)), (3, .int (nI mk)), (4, .int (((nI 2 * sp_below sg fr mk) + (sg 2 (11 * fr + mk))) * (sp_below sg to 11))), (5, .int ((nI 2) * (sp_below sg fr 11)))]) rfl (nI_1 _) (by decide) rfl dc_8_5_102 ?_
            refine r_goto (t := 64) (by decide) dc_8_5_105 ?_
            exact ih_m acc (by unfold sp_tu; rw [if_neg (show ¬ sp_tuC sg fr to mk m from fun z => z.1 (hz _ (by omega) c_80))]; exact hi_m)
          · skip
            refine r_aload_n rfl dc_8_5_83 ?_
            refine r_iload_n rfl dc_8_5_84 ?_
            refine r_iload rfl dc_8_5_85 ?_
            refine h_callv (t := cT e 4) (as := [.int (nI to), .int (nI m)]) (rest := []) (v := .int (sp_below sg to m)) (M1 := hk M T cs) rfl rfl iv_1_v30 (Or.inl rfl) na_1_19 (hF 4 (by decide)) ⟨by omega, by omega⟩ (show (1 : Nat) < 14 by decide) o_19 rfl (show (0 : Nat) ≤ 8 by decide) dc_8_5_87 (mm_Ev_up (by decide : 3 ≤ 3) (k_below M hM T e hF cs sg hsc to m (by omega) (by omega))) ?_
            refine r_iload rfl dc_8_5_90 ?_
            refine r_imul (v := (sp_below sg to m) * ((nI 2) * (sp_below sg fr 11))) (rfl) dc_8_5_92 ?_
            refine r_iload rfl dc_8_5_93 ?_
            refine r_icgt (t := 102) (by decide) dc_8_5_95 (fun c_95 => ?_) (fun c_95 => ?_)
            · skip
              refine r_iinc (x := nI m) (v := nI (m + 1)) (ls' := [(7, .int (nI (m + 1))), (6, .int acc), (0, .ref 4), (1, .int (nI fr)), (2, .int (nI to)), (3, .int (nI mk)), (4, .int (((nI 2 * sp_below sg fr mk) + (sg 2 (11 * fr + mk))) * (sp_below sg to 11))), (5, .int ((nI 2) * (sp_below sg fr 11)))]) rfl (nI_1 _) (by decide) rfl dc_8_5_102 ?_
              refine r_goto (t := 64) (by decide) dc_8_5_105 ?_
              exact ih_m acc (by unfold sp_tu; rw [if_neg (show ¬ sp_tuC sg fr to mk m from fun z => absurd c_95 (Int32.not_lt.mpr z.2))]; exact hi_m)
            · skip
              refine r_iload rfl dc_8_5_98 ?_
              refine r_istore (ls' := [(6, .int (nI m)), (7, .int (nI m)), (0, .ref 4), (1, .int (nI fr)), (2, .int (nI to)), (3, .int (nI mk)), (4, .int (((nI 2 * sp_below sg fr mk) + (sg 2 (11 * fr + mk))) * (sp_below sg to 11))), (5, .int ((nI 2) * (sp_below sg fr 11)))]) (by decide) rfl dc_8_5_100 ?_
              refine r_iinc (x := nI m) (v := nI (m + 1)) (ls' := [(7, .int (nI (m + 1))), (6, .int (nI m)), (0, .ref 4), (1, .int (nI fr)), (2, .int (nI to)), (3, .int (nI mk)), (4, .int (((nI 2 * sp_below sg fr mk) + (sg 2 (11 * fr + mk))) * (sp_below sg to 11))), (5, .int ((nI 2) * (sp_below sg fr 11)))]) rfl (nI_1 _) (by decide) rfl dc_8_5_102 ?_
              refine r_goto (t := 64) (by decide) dc_8_5_105 ?_
              exact ih_m (nI m) (by unfold sp_tu; rw [if_pos (show sp_tuC sg fr to mk m from ⟨fun z => by rw [z] at c_80; exact absurd (by decide : (0 : Int32) ≤ 0) c_80, Int32.not_lt.mp c_95⟩)])
    · exact absurd c_15 (by decide)
def shP (sg : Nat → Nat → Int32) (fr mk to ot : Nat) : Prop := ¬ sg 2 (11 * fr + mk) = 0 ∧ ¬ sg 2 (11 * to + ot) = 0 ∧ sp_below sg fr mk * sp_below sg to 11 < sp_below sg to (ot + 1) * sp_below sg fr 11 ∧ sp_below sg to ot * sp_below sg fr 11 < sp_below sg fr (mk + 1) * sp_below sg to 11
set_option maxHeartbeats 4000000 in
theorem k_isShared (M : mH) (hM : 157 ≤ M.1) (T : Nat → mT) (e : Nat → Nat) (hF : ShF T e) (cs : Nat → Nat → Int32) (sg : Nat → Nat → Int32) (hsc : ∀ i, i < 4 → ∀ m, m < 11 → cs (6 + i) m = sg 2 (11 * i + m)) (fr mk to ot : Nat) (hf : fr < 4) (ht : to < 4) (hk9 : mk < 11) (ho : ot < 11) : mm_Ev 4 22 [.ref 4, .int (nI fr), .int (nI mk), .int (nI to), .int (nI ot)] (hk M T cs) ((some (.int (pI (shP sg fr mk to ot))), hk M T cs)) := by
  refine r_ev (by decide +kernel) (show (5 : Nat) ≤ mm_nL 22 by decide +kernel) ?_
  show mm_Ru 3 (1, 7, false, prog_8_method_8_code, some .boolean) 0 [(0, .ref 4), (1, .int (nI fr)), (2, .int (nI mk)), (3, .int (nI to)), (4, .int (nI ot))] [] (hk M T cs) (fun r9 => r9 = ((some (.int (pI (shP sg fr mk to ot))), hk M T cs)))
  refine r_aload_n rfl dc_8_8_0 ?_
  refine r_iload_n rfl dc_8_8_1 ?_
  refine r_iload_n rfl dc_8_8_2 ?_
  refine h_callv (t := cT e 4) (as := [.int (nI fr), .int (nI mk)]) (rest := []) (v := .int (nI 1)) (M1 := hk M T cs) rfl rfl iv_1_v26 (Or.inl rfl) na_1_16 (hF 4 (by decide)) ⟨by omega, by omega⟩ (show (1 : Nat) < 14 by decide) o_16 rfl (show (0 : Nat) ≤ 8 by decide) dc_8_8_3 (mm_Ev_up (by decide : 2 ≤ 3) (k_isMarkT M hM T e hF cs fr mk (by omega) (by omega))) ?_
  refine r_ifeq (t := 42) (by decide) dc_8_8_6 (fun c_6 => ?_) (fun c_6 => ?_)
  · exact absurd c_6 (by decide)
  · skip
    refine r_aload_n rfl dc_8_8_9 ?_
    refine r_iload_n rfl dc_8_8_10 ?_
    refine r_iload rfl dc_8_8_11 ?_
    refine h_callv (t := cT e 4) (as := [.int (nI to), .int (nI ot)]) (rest := []) (v := .int (nI 1)) (M1 := hk M T cs) rfl rfl iv_1_v26 (Or.inl rfl) na_1_16 (hF 4 (by decide)) ⟨by omega, by omega⟩ (show (1 : Nat) < 14 by decide) o_16 rfl (show (0 : Nat) ≤ 8 by decide) dc_8_8_13 (mm_Ev_up (by decide : 2 ≤ 3) (k_isMarkT M hM T e hF cs to ot (by omega) (by omega))) ?_
    refine r_ifeq (t := 42) (by decide) dc_8_8_16 (fun c_16 => ?_) (fun c_16 => ?_)
    · exact absurd c_16 (by decide)
    · skip
      refine r_aload_n rfl dc_8_8_19 ?_
      refine h_get (t := cT e 4) (v := .ref 5) fx_1_13 (hF 4 (by decide)) ⟨by omega, by omega⟩ (rfl) dc_8_8_20 ?_
      refine r_iload_n rfl dc_8_8_23 ?_
      refine h_aal (c := 24) (n := 4) (e := fr) (y := 6 + fr) (hF 5 (by decide)) (Or.inr rfl) ⟨by omega, by omega⟩ (by omega) (by omega) (if_pos (by omega)) dc_8_8_24 ?_
      refine r_iload_n rfl dc_8_8_25 ?_
      refine h_ild (n := 11) (e := mk) (v := sg 2 (11 * fr + mk)) ((hF (6 + fr) (by omega)).trans (cR_5 e fr (by omega))) ⟨by omega, by omega⟩ (show mk < 11 by omega) (by omega) (hsc fr hf mk hk9) dc_8_8_26 ?_
      refine r_ifeq (t := 42) (by decide) dc_8_8_27 (fun c_27 => ?_) (fun c_27 => ?_)
      · skip
        refine r_iconst (v := nI 0) (by decide) dc_8_8_42 ?_
        refine r_zret rfl (by decide) dc_8_8_43 ?_
        rw [pI_f (P := shP sg fr mk to ot) (fun z => z.1 c_27)]
      · skip
        refine r_aload_n rfl dc_8_8_30 ?_
        refine h_get (t := cT e 4) (v := .ref 5) fx_1_13 (hF 4 (by decide)) ⟨by omega, by omega⟩ (rfl) dc_8_8_31 ?_
        refine r_iload_n rfl dc_8_8_34 ?_
        refine h_aal (c := 24) (n := 4) (e := to) (y := 6 + to) (hF 5 (by decide)) (Or.inr rfl) ⟨by omega, by omega⟩ (by omega) (by omega) (if_pos (by omega)) dc_8_8_35 ?_
        refine r_iload rfl dc_8_8_36 ?_
        refine h_ild (n := 11) (e := ot) (v := sg 2 (11 * to + ot)) ((hF (6 + to) (by omega)).trans (cR_5 e to (by omega))) ⟨by omega, by omega⟩ (show ot < 11 by omega) (by omega) (hsc to ht ot ho) dc_8_8_38 ?_
        refine r_ifne (t := 44) (by decide) dc_8_8_39 (fun c_39 => ?_) (fun c_39 => ?_)
        · skip
          refine r_aload_n rfl dc_8_8_44 ?_
          refine r_iload_n rfl dc_8_8_45 ?_
          refine r_bipush (v := nI 11) (by decide) dc_8_8_46 ?_
          refine h_callv (t := cT e 4) (as := [.int (nI fr), .int (nI 11)]) (rest := []) (v := .int (sp_below sg fr 11)) (M1 := hk M T cs) rfl rfl iv_1_v30 (Or.inl rfl) na_1_19 (hF 4 (by decide)) ⟨by omega, by omega⟩ (show (1 : Nat) < 14 by decide) o_19 rfl (show (0 : Nat) ≤ 8 by decide) dc_8_8_48 (mm_Ev_up (by decide : 3 ≤ 3) (k_below M hM T e hF cs sg hsc fr 11 (by omega) (by omega))) ?_
          refine r_istore (ls' := [(5, .int (sp_below sg fr 11)), (0, .ref 4), (1, .int (nI fr)), (2, .int (nI mk)), (3, .int (nI to)), (4, .int (nI ot))]) (by decide) rfl dc_8_8_51 ?_
          refine r_aload_n rfl dc_8_8_53 ?_
          refine r_iload_n rfl dc_8_8_54 ?_
          refine r_bipush (v := nI 11) (by decide) dc_8_8_55 ?_
          refine h_callv (t := cT e 4) (as := [.int (nI to), .int (nI 11)]) (rest := []) (v := .int (sp_below sg to 11)) (M1 := hk M T cs) rfl rfl iv_1_v30 (Or.inl rfl) na_1_19 (hF 4 (by decide)) ⟨by omega, by omega⟩ (show (1 : Nat) < 14 by decide) o_19 rfl (show (0 : Nat) ≤ 8 by decide) dc_8_8_57 (mm_Ev_up (by decide : 3 ≤ 3) (k_below M hM T e hF cs sg hsc to 11 (by omega) (by omega))) ?_
          refine r_istore (ls' := [(6, .int (sp_below sg to 11)), (5, .int (sp_below sg fr 11)), (0, .ref 4), (1, .int (nI fr)), (2, .int (nI mk)), (3, .int (nI to)), (4, .int (nI ot))]) (by decide) rfl dc_8_8_60 ?_
          refine r_aload_n rfl dc_8_8_62 ?_
          refine r_iload_n rfl dc_8_8_63 ?_
          refine r_iload_n rfl dc_8_8_64 ?_
          refine h_callv (t := cT e 4) (as := [.int (nI fr), .int (nI mk)]) (rest := []) (v := .int (sp_below sg fr mk)) (M1 := hk M T cs) rfl rfl iv_1_v30 (Or.inl rfl) na_1_19 (hF 4 (by decide)) ⟨by omega, by omega⟩ (show (1 : Nat) < 14 by decide) o_19 rfl (show (0 : Nat) ≤ 8 by decide) dc_8_8_65 (mm_Ev_up (by decide : 3 ≤ 3) (k_below M hM T e hF cs sg hsc fr mk (by omega) (by omega))) ?_
          refine r_iload rfl dc_8_8_68 ?_
          refine r_imul (v := (sp_below sg fr mk) * (sp_below sg to 11)) (rfl) dc_8_8_70 ?_
          refine r_aload_n rfl dc_8_8_71 ?_
          refine r_iload_n rfl dc_8_8_72 ?_
          refine r_iload rfl dc_8_8_73 ?_
          refine r_iconst (v := nI 1) (by decide) dc_8_8_75 ?_
          refine r_iadd (v := nI (ot + 1)) (nI_add _ _) dc_8_8_76 ?_
          refine h_callv (t := cT e 4) (as := [.int (nI to), .int (nI (ot + 1))]) (rest := [.int ((sp_below sg fr mk) * (sp_below sg to 11))]) (v := .int (sp_below sg to (ot + 1))) (M1 := hk M T cs) rfl rfl iv_1_v30 (Or.inl rfl) na_1_19 (hF 4 (by decide)) ⟨by omega, by omega⟩ (show (1 : Nat) < 14 by decide) o_19 rfl (show (1 : Nat) ≤ 8 by decide) dc_8_8_77 (mm_Ev_up (by decide : 3 ≤ 3) (k_below M hM T e hF cs sg hsc to (ot + 1) (by omega) (by omega))) ?_
          refine r_iload rfl dc_8_8_80 ?_
          refine r_imul (v := (sp_below sg to (ot + 1)) * (sp_below sg fr 11)) (rfl) dc_8_8_82 ?_
          refine r_icge (t := 114) (by decide) dc_8_8_83 (fun c_83 => ?_) (fun c_83 => ?_)
          · skip
            refine r_iconst (v := nI 0) (by decide) dc_8_8_114 ?_
            refine r_zret rfl (by decide) dc_8_8_115 ?_
            rw [pI_f (P := shP sg fr mk to ot) (fun z => absurd z.2.2.1 (Int32.not_lt.mpr c_83))]
          · skip
            refine r_aload_n rfl dc_8_8_86 ?_
            refine r_iload_n rfl dc_8_8_87 ?_
            refine r_iload rfl dc_8_8_88 ?_
            refine h_callv (t := cT e 4) (as := [.int (nI to), .int (nI ot)]) (rest := []) (v := .int (sp_below sg to ot)) (M1 := hk M T cs) rfl rfl iv_1_v30 (Or.inl rfl) na_1_19 (hF 4 (by decide)) ⟨by omega, by omega⟩ (show (1 : Nat) < 14 by decide) o_19 rfl (show (0 : Nat) ≤ 8 by decide) dc_8_8_90 (mm_Ev_up (by decide : 3 ≤ 3) (k_below M hM T e hF cs sg hsc to ot (by omega) (by omega))) ?_
            refine r_iload rfl dc_8_8_93 ?_
            refine r_imul (v := (sp_below sg to ot) * (sp_below sg fr 11)) (rfl) dc_8_8_95 ?_
            refine r_aload_n rfl dc_8_8_96 ?_
            refine r_iload_n rfl dc_8_8_97 ?_
            refine r_iload_n rfl dc_8_8_98 ?_
            refine r_iconst (v := nI 1) (by decide) dc_8_8_99 ?_
            refine r_iadd (v := nI (mk + 1)) (nI_add _ _) dc_8_8_100 ?_
            refine h_callv (t := cT e 4) (as := [.int (nI fr), .int (nI (mk + 1))]) (rest := [.int ((sp_below sg to ot) * (sp_below sg fr 11))]) (v := .int (sp_below sg fr (mk + 1))) (M1 := hk M T cs) rfl rfl iv_1_v30 (Or.inl rfl) na_1_19 (hF 4 (by decide)) ⟨by omega, by omega⟩ (show (1 : Nat) < 14 by decide) o_19 rfl (show (1 : Nat) ≤ 8 by decide) dc_8_8_101 (mm_Ev_up (by decide : 3 ≤ 3) (k_below M hM T e hF cs sg hsc fr (mk + 1) (by omega) (by omega))) ?_
            refine r_iload rfl dc_8_8_104 ?_
            refine r_imul (v := (sp_below sg fr (mk + 1)) * (sp_below sg to 11)) (rfl) dc_8_8_106 ?_
            refine r_icge (t := 114) (by decide) dc_8_8_107 (fun c_107 => ?_) (fun c_107 => ?_)
            · skip
              refine r_iconst (v := nI 0) (by decide) dc_8_8_114 ?_
              refine r_zret rfl (by decide) dc_8_8_115 ?_
              rw [pI_f (P := shP sg fr mk to ot) (fun z => absurd z.2.2.2 (Int32.not_lt.mpr c_107))]
            · skip
              refine r_iconst (v := nI 1) (by decide) dc_8_8_110 ?_
              refine r_goto (t := 115) (by decide) dc_8_8_111 ?_
              refine r_zret rfl (by decide) dc_8_8_115 ?_
              rw [pI_t (P := shP sg fr mk to ot) ⟨c_27, c_39, Int32.not_le.mp c_83, Int32.not_le.mp c_107⟩]
        · skip
          refine r_iconst (v := nI 0) (by decide) dc_8_8_42 ?_
          refine r_zret rfl (by decide) dc_8_8_43 ?_
          rw [pI_f (P := shP sg fr mk to ot) (fun z => z.2.1 c_39)]
set_option maxHeartbeats 4000000 in
theorem k_least (M : mH) (hM : 157 ≤ M.1) (T : Nat → mT) (e : Nat → Nat) (hF : ShF T e) (cs : Nat → Nat → Int32) (sg : Nat → Nat → Int32) (hsc : ∀ i, i < 4 → ∀ m, m < 11 → cs (6 + i) m = sg 2 (11 * i + m)) (fr to mk : Nat) (hf : fr < 4) (ht : to < 4) (hk9 : mk < 11) (hz : ∀ j, j < 44 → sg 2 j ≤ 0 → sg 2 j = 0) : ∃ (q : Int32), ((∃ m, m < 11 ∧ shP sg fr mk to m ∧ (∀ j, j < m → ¬ shP sg fr mk to j) ∧ q = nI m) ∨ ((∀ j, j < 11 → ¬ shP sg fr mk to j) ∧ q = sp_tu sg fr to mk 11)) ∧ mm_Ev 5 21 [.ref 4, .int (nI fr), .int (nI to), .int (nI mk)] (hk M T cs) ((some (.int q), hk M T cs)) := by
  have hq9 : ∃ z, (fun r9 => ∃ (q : Int32), ((∃ m, m < 11 ∧ shP sg fr mk to m ∧ (∀ j, j < m → ¬ shP sg fr mk to j) ∧ q = nI m) ∨ ((∀ j, j < 11 → ¬ shP sg fr mk to j) ∧ q = sp_tu sg fr to mk 11)) ∧ r9 = ((some (.int q), hk M T cs))) z ∧ mm_Ev 5 21 [.ref 4, .int (nI fr), .int (nI to), .int (nI mk)] (hk M T cs) z := by
    refine r_evQ (by decide +kernel) (show (4 : Nat) ≤ mm_nL 21 by decide +kernel) ?_
    show mm_Ru 4 (1, 5, false, prog_8_method_6_code, some .int) 0 [(0, .ref 4), (1, .int (nI fr)), (2, .int (nI to)), (3, .int (nI mk))] [] (hk M T cs) (fun r9 => ∃ (q : Int32), ((∃ m, m < 11 ∧ shP sg fr mk to m ∧ (∀ j, j < m → ¬ shP sg fr mk to j) ∧ q = nI m) ∨ ((∀ j, j < 11 → ¬ shP sg fr mk to j) ∧ q = sp_tu sg fr to mk 11)) ∧ r9 = ((some (.int q), hk M T cs)))
    refine r_iconst (v := nI 0) (by decide) dc_8_6_0 ?_
    refine r_istore (ls' := [(4, .int (nI 0)), (0, .ref 4), (1, .int (nI fr)), (2, .int (nI to)), (3, .int (nI mk))]) (by decide) rfl dc_8_6_1 ?_
    refine mm_cnt (P := fun m => (∀ j, j < m → ¬ shP sg fr mk to j) → mm_Ru 4 (1, 5, false, prog_8_method_6_code, some .int) 3 [(4, .int (nI m)), (0, .ref 4), (1, .int (nI fr)), (2, .int (nI to)), (3, .int (nI mk))] [] (hk M T cs) (fun r9 => ∃ (q : Int32), ((∃ m, m < 11 ∧ shP sg fr mk to m ∧ (∀ j, j < m → ¬ shP sg fr mk to j) ∧ q = nI m) ∨ ((∀ j, j < 11 → ¬ shP sg fr mk to j) ∧ q = sp_tu sg fr to mk 11)) ∧ r9 = ((some (.int q), hk M T cs)))) 11 ?_ ?_ 0 (by omega) (fun j h => absurd h (Nat.not_lt_zero j))
    · intro  hi_m
      show mm_Ru 4 (1, 5, false, prog_8_method_6_code, some .int) 3 [(4, .int (nI 11)), (0, .ref 4), (1, .int (nI fr)), (2, .int (nI to)), (3, .int (nI mk))] [] (hk M T cs) (fun r9 => ∃ (q : Int32), ((∃ m, m < 11 ∧ shP sg fr mk to m ∧ (∀ j, j < m → ¬ shP sg fr mk to j) ∧ q = nI m) ∨ ((∀ j, j < 11 → ¬ shP sg fr mk to j) ∧ q = sp_tu sg fr to mk 11)) ∧ r9 = ((some (.int q), hk M T cs)))
      refine r_iload rfl dc_8_6_3 ?_
      refine r_bipush (v := nI 11) (by decide) dc_8_6_5 ?_
      refine r_ncge (t := 31) (by omega) (by omega) (by decide) dc_8_6_7 (fun c_7 => ?_) (fun c_7 => ?_)
      · skip
        refine r_aload_n rfl dc_8_6_31 ?_
        refine r_iload_n rfl dc_8_6_32 ?_
        refine r_iload_n rfl dc_8_6_33 ?_
        refine r_iload_n rfl dc_8_6_34 ?_
        refine h_callv (t := cT e 4) (as := [.int (nI fr), .int (nI to), .int (nI mk)]) (rest := []) (v := .int (sp_tu sg fr to mk 11)) (M1 := hk M T cs) rfl rfl iv_1_v38 (Or.inl rfl) na_1_20 (hF 4 (by decide)) ⟨by omega, by omega⟩ (show (1 : Nat) < 14 by decide) o_20 rfl (show (0 : Nat) ≤ 8 by decide) dc_8_6_35 (k_turned M hM T e hF cs sg hsc fr to mk hf ht hk9 hz) ?_
        refine r_iret rfl dc_8_6_38 ?_
        exact ⟨_, Or.inr ⟨hi_m, rfl⟩, rfl⟩
      · omega
    · intro m h_m ih_m  hi_m
      show mm_Ru 4 (1, 5, false, prog_8_method_6_code, some .int) 3 [(4, .int (nI m)), (0, .ref 4), (1, .int (nI fr)), (2, .int (nI to)), (3, .int (nI mk))] [] (hk M T cs) (fun r9 => ∃ (q : Int32), ((∃ m, m < 11 ∧ shP sg fr mk to m ∧ (∀ j, j < m → ¬ shP sg fr mk to j) ∧ q = nI m) ∨ ((∀ j, j < 11 → ¬ shP sg fr mk to j) ∧ q = sp_tu sg fr to mk 11)) ∧ r9 = ((some (.int q), hk M T cs)))
      refine r_iload rfl dc_8_6_3 ?_
      refine r_bipush (v := nI 11) (by decide) dc_8_6_5 ?_
      refine r_ncge (t := 31) (by omega) (by omega) (by decide) dc_8_6_7 (fun c_7 => ?_) (fun c_7 => ?_)
      · omega
      · skip
        refine r_aload_n rfl dc_8_6_10 ?_
        refine r_iload_n rfl dc_8_6_11 ?_
        refine r_iload_n rfl dc_8_6_12 ?_
        refine r_iload_n rfl dc_8_6_13 ?_
        refine r_iload rfl dc_8_6_14 ?_
        refine h_callv (t := cT e 4) (as := [.int (nI fr), .int (nI mk), .int (nI to), .int (nI m)]) (rest := []) (v := .int (pI (shP sg fr mk to m))) (M1 := hk M T cs) rfl rfl iv_1_v34 (Or.inl rfl) na_1_22 (hF 4 (by decide)) ⟨by omega, by omega⟩ (show (1 : Nat) < 14 by decide) o_22 rfl (show (0 : Nat) ≤ 8 by decide) dc_8_6_16 (k_isShared M hM T e hF cs sg hsc fr mk to m (by omega) (by omega) (by omega) (by omega)) ?_
        refine r_ifeq (t := 25) (by decide) dc_8_6_19 (fun c_19 => ?_) (fun c_19 => ?_)
        · skip
          refine r_iinc (x := nI m) (v := nI (m + 1)) (ls' := [(4, .int (nI (m + 1))), (0, .ref 4), (1, .int (nI fr)), (2, .int (nI to)), (3, .int (nI mk))]) rfl (nI_1 _) (by decide) rfl dc_8_6_25 ?_
          refine r_goto (t := 3) (by decide) dc_8_6_28 ?_
          exact ih_m (fun j hj => by rcases (by omega : j < m ∨ j = m) with q | rfl; exact hi_m j q; exact pI_eq0 c_19)
        · skip
          refine r_iload rfl dc_8_6_22 ?_
          refine r_iret rfl dc_8_6_24 ?_
          exact ⟨_, Or.inl ⟨m, h_m, pI_ne c_19, hi_m, rfl⟩, rfl⟩
  obtain ⟨z9, ⟨q, p9, e9⟩, h9⟩ := hq9
  subst e9
  exact ⟨q, p9, h9⟩
set_option maxHeartbeats 4000000 in
theorem k_great (M : mH) (hM : 157 ≤ M.1) (T : Nat → mT) (e : Nat → Nat) (hF : ShF T e) (cs : Nat → Nat → Int32) (sg : Nat → Nat → Int32) (hsc : ∀ i, i < 4 → ∀ m, m < 11 → cs (6 + i) m = sg 2 (11 * i + m)) (fr to mk : Nat) (hf : fr < 4) (ht : to < 4) (hk9 : mk < 11) (hz : ∀ j, j < 44 → sg 2 j ≤ 0 → sg 2 j = 0) : ∃ (q : Int32), ((∃ m, m < 11 ∧ shP sg fr mk to m ∧ (∀ j, j < 11 → m + 1 ≤ j → ¬ shP sg fr mk to j) ∧ q = nI m) ∨ ((∀ j, j < 11 → ¬ shP sg fr mk to j) ∧ q = sp_tu sg fr to mk 11)) ∧ mm_Ev 5 23 [.ref 4, .int (nI fr), .int (nI to), .int (nI mk)] (hk M T cs) ((some (.int q), hk M T cs)) := by
  have hq9 : ∃ z, (fun r9 => ∃ (q : Int32), ((∃ m, m < 11 ∧ shP sg fr mk to m ∧ (∀ j, j < 11 → m + 1 ≤ j → ¬ shP sg fr mk to j) ∧ q = nI m) ∨ ((∀ j, j < 11 → ¬ shP sg fr mk to j) ∧ q = sp_tu sg fr to mk 11)) ∧ r9 = ((some (.int q), hk M T cs))) z ∧ mm_Ev 5 23 [.ref 4, .int (nI fr), .int (nI to), .int (nI mk)] (hk M T cs) z := by
    refine r_evQ (by decide +kernel) (show (4 : Nat) ≤ mm_nL 23 by decide +kernel) ?_
    show mm_Ru 4 (1, 5, false, prog_8_method_7_code, some .int) 0 [(0, .ref 4), (1, .int (nI fr)), (2, .int (nI to)), (3, .int (nI mk))] [] (hk M T cs) (fun r9 => ∃ (q : Int32), ((∃ m, m < 11 ∧ shP sg fr mk to m ∧ (∀ j, j < 11 → m + 1 ≤ j → ¬ shP sg fr mk to j) ∧ q = nI m) ∨ ((∀ j, j < 11 → ¬ shP sg fr mk to j) ∧ q = sp_tu sg fr to mk 11)) ∧ r9 = ((some (.int q), hk M T cs)))
    refine r_bipush (v := nI 10) (by decide) dc_8_7_0 ?_
    refine r_istore (ls' := [(4, .int (nI 10)), (0, .ref 4), (1, .int (nI fr)), (2, .int (nI to)), (3, .int (nI mk))]) (by decide) rfl dc_8_7_2 ?_
    suffices hdn : ∀ m, m ≤ 11 → ((∀ j, j < 11 → m ≤ j → ¬ shP sg fr mk to j) → mm_Ru 4 (1, 5, false, prog_8_method_7_code, some .int) 4 [(4, .int (dI m)), (0, .ref 4), (1, .int (nI fr)), (2, .int (nI to)), (3, .int (nI mk))] [] (hk M T cs) (fun r9 => ∃ (q : Int32), ((∃ m, m < 11 ∧ shP sg fr mk to m ∧ (∀ j, j < 11 → m + 1 ≤ j → ¬ shP sg fr mk to j) ∧ q = nI m) ∨ ((∀ j, j < 11 → ¬ shP sg fr mk to j) ∧ q = sp_tu sg fr to mk 11)) ∧ r9 = ((some (.int q), hk M T cs)))) from hdn 11 (by omega) (fun j h h2 => absurd h (by omega))
    intro m
    induction m with
    | zero =>
      intro h_m  hi_m
      show mm_Ru 4 (1, 5, false, prog_8_method_7_code, some .int) 4 [(4, .int (dI 0)), (0, .ref 4), (1, .int (nI fr)), (2, .int (nI to)), (3, .int (nI mk))] [] (hk M T cs) (fun r9 => ∃ (q : Int32), ((∃ m, m < 11 ∧ shP sg fr mk to m ∧ (∀ j, j < 11 → m + 1 ≤ j → ¬ shP sg fr mk to j) ∧ q = nI m) ∨ ((∀ j, j < 11 → ¬ shP sg fr mk to j) ∧ q = sp_tu sg fr to mk 11)) ∧ r9 = ((some (.int q), hk M T cs)))
      refine r_iload rfl dc_8_7_4 ?_
      refine r_iflt (t := 30) (by decide) dc_8_7_6 (fun c_6 => ?_) (fun c_6 => ?_)
      · skip
        refine r_aload_n rfl dc_8_7_30 ?_
        refine r_iload_n rfl dc_8_7_31 ?_
        refine r_iload_n rfl dc_8_7_32 ?_
        refine r_iload_n rfl dc_8_7_33 ?_
        refine h_callv (t := cT e 4) (as := [.int (nI fr), .int (nI to), .int (nI mk)]) (rest := []) (v := .int (sp_tu sg fr to mk 11)) (M1 := hk M T cs) rfl rfl iv_1_v38 (Or.inl rfl) na_1_20 (hF 4 (by decide)) ⟨by omega, by omega⟩ (show (1 : Nat) < 14 by decide) o_20 rfl (show (0 : Nat) ≤ 8 by decide) dc_8_7_34 (k_turned M hM T e hF cs sg hsc fr to mk hf ht hk9 hz) ?_
        refine r_iret rfl dc_8_7_37 ?_
        exact ⟨_, Or.inr ⟨fun j hj => hi_m j hj (Nat.zero_le _), rfl⟩, rfl⟩
      · exact absurd (by decide) c_6
    | succ m ih_m =>
      intro h_m  hi_m
      rw [dI_S]
      show mm_Ru 4 (1, 5, false, prog_8_method_7_code, some .int) 4 [(4, .int (nI m)), (0, .ref 4), (1, .int (nI fr)), (2, .int (nI to)), (3, .int (nI mk))] [] (hk M T cs) (fun r9 => ∃ (q : Int32), ((∃ m, m < 11 ∧ shP sg fr mk to m ∧ (∀ j, j < 11 → m + 1 ≤ j → ¬ shP sg fr mk to j) ∧ q = nI m) ∨ ((∀ j, j < 11 → ¬ shP sg fr mk to j) ∧ q = sp_tu sg fr to mk 11)) ∧ r9 = ((some (.int q), hk M T cs)))
      refine r_iload rfl dc_8_7_4 ?_
      refine r_nzlt (t := 30) (by omega) (by decide) dc_8_7_6 ?_
      refine r_aload_n rfl dc_8_7_9 ?_
      refine r_iload_n rfl dc_8_7_10 ?_
      refine r_iload_n rfl dc_8_7_11 ?_
      refine r_iload_n rfl dc_8_7_12 ?_
      refine r_iload rfl dc_8_7_13 ?_
      refine h_callv (t := cT e 4) (as := [.int (nI fr), .int (nI mk), .int (nI to), .int (nI m)]) (rest := []) (v := .int (pI (shP sg fr mk to m))) (M1 := hk M T cs) rfl rfl iv_1_v34 (Or.inl rfl) na_1_22 (hF 4 (by decide)) ⟨by omega, by omega⟩ (show (1 : Nat) < 14 by decide) o_22 rfl (show (0 : Nat) ≤ 8 by decide) dc_8_7_15 (k_isShared M hM T e hF cs sg hsc fr mk to m (by omega) (by omega) (by omega) (by omega)) ?_
      refine r_ifeq (t := 24) (by decide) dc_8_7_18 (fun c_18 => ?_) (fun c_18 => ?_)
      · skip
        refine r_iinc (x := nI m) (v := nI m + (-1)) (ls' := [(4, .int (nI m + (-1))), (0, .ref 4), (1, .int (nI fr)), (2, .int (nI to)), (3, .int (nI mk))]) rfl (congrArg (fun z9 => (nI m) + z9) (by decide : Int32.ofInt (-1) = -1)) (by decide) rfl dc_8_7_24 ?_
        refine r_goto (t := 4) (by decide) dc_8_7_27 ?_
        exact ih_m (by omega) (fun j hj h2 => by rcases (by omega : m + 1 ≤ j ∨ j = m) with q | rfl; exact hi_m j hj q; exact pI_eq0 c_18)
      · skip
        refine r_iload rfl dc_8_7_21 ?_
        refine r_iret rfl dc_8_7_23 ?_
        exact ⟨_, Or.inl ⟨m, by omega, pI_ne c_18, hi_m, rfl⟩, rfl⟩
  obtain ⟨z9, ⟨q, p9, e9⟩, h9⟩ := hq9
  subst e9
  exact ⟨q, p9, h9⟩
