/-! the reference: small methods -/
theorem dc_14_10_0 : decode prog_14_method_10_code 0 = .ok (.iload_n 1, 1) := by decide +kernel
theorem dc_14_10_1 : decode prog_14_method_10_code 1 = .ok (.ifCond .lt 15, 3) := by decide +kernel
theorem dc_14_10_4 : decode prog_14_method_10_code 4 = .ok (.iload_n 1, 1) := by decide +kernel
theorem dc_14_10_5 : decode prog_14_method_10_code 5 = .ok (.aload_n 0, 1) := by decide +kernel
theorem dc_14_10_6 : decode prog_14_method_10_code 6 = .ok (.getfield 200, 3) := by decide +kernel
theorem dc_14_10_9 : decode prog_14_method_10_code 9 = .ok (.if_icmp .ge 7, 3) := by decide +kernel
theorem dc_14_10_12 : decode prog_14_method_10_code 12 = .ok (.iconst 1, 1) := by decide +kernel
theorem dc_14_10_13 : decode prog_14_method_10_code 13 = .ok (.goto 4, 3) := by decide +kernel
theorem dc_14_10_16 : decode prog_14_method_10_code 16 = .ok (.iconst 0, 1) := by decide +kernel
theorem dc_14_10_17 : decode prog_14_method_10_code 17 = .ok (.ireturn, 1) := by decide +kernel
theorem dc_14_27_0 : decode prog_14_method_27_code 0 = .ok (.iload_n 1, 1) := by decide +kernel
theorem dc_14_27_1 : decode prog_14_method_27_code 1 = .ok (.ifCond .lt 15, 3) := by decide +kernel
theorem dc_14_27_4 : decode prog_14_method_27_code 4 = .ok (.iload_n 1, 1) := by decide +kernel
theorem dc_14_27_5 : decode prog_14_method_27_code 5 = .ok (.aload_n 0, 1) := by decide +kernel
theorem dc_14_27_6 : decode prog_14_method_27_code 6 = .ok (.getfield 290, 3) := by decide +kernel
theorem dc_14_27_9 : decode prog_14_method_27_code 9 = .ok (.if_icmp .ge 7, 3) := by decide +kernel
theorem dc_14_27_12 : decode prog_14_method_27_code 12 = .ok (.iconst 1, 1) := by decide +kernel
theorem dc_14_27_13 : decode prog_14_method_27_code 13 = .ok (.goto 4, 3) := by decide +kernel
theorem dc_14_27_16 : decode prog_14_method_27_code 16 = .ok (.iconst 0, 1) := by decide +kernel
theorem dc_14_27_17 : decode prog_14_method_27_code 17 = .ok (.ireturn, 1) := by decide +kernel
theorem dc_14_36_0 : decode prog_14_method_36_code 0 = .ok (.iload_n 1, 1) := by decide +kernel
theorem dc_14_36_1 : decode prog_14_method_36_code 1 = .ok (.ifCond .lt 15, 3) := by decide +kernel
theorem dc_14_36_4 : decode prog_14_method_36_code 4 = .ok (.iload_n 1, 1) := by decide +kernel
theorem dc_14_36_5 : decode prog_14_method_36_code 5 = .ok (.aload_n 0, 1) := by decide +kernel
theorem dc_14_36_6 : decode prog_14_method_36_code 6 = .ok (.getfield 320, 3) := by decide +kernel
theorem dc_14_36_9 : decode prog_14_method_36_code 9 = .ok (.if_icmp .ge 7, 3) := by decide +kernel
theorem dc_14_36_12 : decode prog_14_method_36_code 12 = .ok (.iconst 1, 1) := by decide +kernel
theorem dc_14_36_13 : decode prog_14_method_36_code 13 = .ok (.goto 4, 3) := by decide +kernel
theorem dc_14_36_16 : decode prog_14_method_36_code 16 = .ok (.iconst 0, 1) := by decide +kernel
theorem dc_14_36_17 : decode prog_14_method_36_code 17 = .ok (.ireturn, 1) := by decide +kernel
theorem dc_14_39_0 : decode prog_14_method_39_code 0 = .ok (.aload_n 0, 1) := by decide +kernel
theorem dc_14_39_1 : decode prog_14_method_39_code 1 = .ok (.getfield 138, 3) := by decide +kernel
theorem dc_14_39_4 : decode prog_14_method_39_code 4 = .ok (.iconst 4, 1) := by decide +kernel
theorem dc_14_39_5 : decode prog_14_method_39_code 5 = .ok (.iload_n 1, 1) := by decide +kernel
theorem dc_14_39_6 : decode prog_14_method_39_code 6 = .ok (.imul, 1) := by decide +kernel
theorem dc_14_39_7 : decode prog_14_method_39_code 7 = .ok (.aload_n 0, 1) := by decide +kernel
theorem dc_14_39_8 : decode prog_14_method_39_code 8 = .ok (.getfield 22, 3) := by decide +kernel
theorem dc_14_39_11 : decode prog_14_method_39_code 11 = .ok (.iload_n 2, 1) := by decide +kernel
theorem dc_14_39_12 : decode prog_14_method_39_code 12 = .ok (.iaload, 1) := by decide +kernel
theorem dc_14_39_13 : decode prog_14_method_39_code 13 = .ok (.iadd, 1) := by decide +kernel
theorem dc_14_39_14 : decode prog_14_method_39_code 14 = .ok (.iaload, 1) := by decide +kernel
theorem dc_14_39_15 : decode prog_14_method_39_code 15 = .ok (.istore_n 3, 1) := by decide +kernel
theorem dc_14_39_16 : decode prog_14_method_39_code 16 = .ok (.iload_n 3, 1) := by decide +kernel
theorem dc_14_39_17 : decode prog_14_method_39_code 17 = .ok (.iconst (-1), 1) := by decide +kernel
theorem dc_14_39_18 : decode prog_14_method_39_code 18 = .ok (.if_icmp .ne 7, 3) := by decide +kernel
theorem dc_14_39_21 : decode prog_14_method_39_code 21 = .ok (.iconst 0, 1) := by decide +kernel
theorem dc_14_39_22 : decode prog_14_method_39_code 22 = .ok (.goto 4, 3) := by decide +kernel
theorem dc_14_39_25 : decode prog_14_method_39_code 25 = .ok (.iload_n 3, 1) := by decide +kernel
theorem dc_14_39_26 : decode prog_14_method_39_code 26 = .ok (.ireturn, 1) := by decide +kernel
theorem dc_14_42_0 : decode prog_14_method_42_code 0 = .ok (.aload_n 0, 1) := by decide +kernel
theorem dc_14_42_1 : decode prog_14_method_42_code 1 = .ok (.getfield 329, 3) := by decide +kernel
theorem dc_14_42_4 : decode prog_14_method_42_code 4 = .ok (.aload_n 0, 1) := by decide +kernel
theorem dc_14_42_5 : decode prog_14_method_42_code 5 = .ok (.getfield 78, 3) := by decide +kernel
theorem dc_14_42_8 : decode prog_14_method_42_code 8 = .ok (.iload_n 1, 1) := by decide +kernel
theorem dc_14_42_9 : decode prog_14_method_42_code 9 = .ok (.iaload, 1) := by decide +kernel
theorem dc_14_42_10 : decode prog_14_method_42_code 10 = .ok (.if_icmp .lt 20, 3) := by decide +kernel
theorem dc_14_42_13 : decode prog_14_method_42_code 13 = .ok (.aload_n 0, 1) := by decide +kernel
theorem dc_14_42_14 : decode prog_14_method_42_code 14 = .ok (.getfield 329, 3) := by decide +kernel
theorem dc_14_42_17 : decode prog_14_method_42_code 17 = .ok (.aload_n 0, 1) := by decide +kernel
theorem dc_14_42_18 : decode prog_14_method_42_code 18 = .ok (.getfield 81, 3) := by decide +kernel
theorem dc_14_42_21 : decode prog_14_method_42_code 21 = .ok (.iload_n 1, 1) := by decide +kernel
theorem dc_14_42_22 : decode prog_14_method_42_code 22 = .ok (.iaload, 1) := by decide +kernel
theorem dc_14_42_23 : decode prog_14_method_42_code 23 = .ok (.if_icmp .gt 7, 3) := by decide +kernel
theorem dc_14_42_26 : decode prog_14_method_42_code 26 = .ok (.iconst 1, 1) := by decide +kernel
theorem dc_14_42_27 : decode prog_14_method_42_code 27 = .ok (.goto 4, 3) := by decide +kernel
theorem dc_14_42_30 : decode prog_14_method_42_code 30 = .ok (.iconst 0, 1) := by decide +kernel
theorem dc_14_42_31 : decode prog_14_method_42_code 31 = .ok (.ireturn, 1) := by decide +kernel
theorem dc_14_45_0 : decode prog_14_method_45_code 0 = .ok (.iconst 0, 1) := by decide +kernel
theorem dc_14_45_1 : decode prog_14_method_45_code 1 = .ok (.istore_n 2, 1) := by decide +kernel
theorem dc_14_45_2 : decode prog_14_method_45_code 2 = .ok (.iconst 0, 1) := by decide +kernel
theorem dc_14_45_3 : decode prog_14_method_45_code 3 = .ok (.istore_n 3, 1) := by decide +kernel
theorem dc_14_45_4 : decode prog_14_method_45_code 4 = .ok (.iload_n 3, 1) := by decide +kernel
theorem dc_14_45_5 : decode prog_14_method_45_code 5 = .ok (.aload_n 0, 1) := by decide +kernel
theorem dc_14_45_6 : decode prog_14_method_45_code 6 = .ok (.getfield 320, 3) := by decide +kernel
theorem dc_14_45_9 : decode prog_14_method_45_code 9 = .ok (.if_icmp .ge 65, 3) := by decide +kernel
theorem dc_14_45_12 : decode prog_14_method_45_code 12 = .ok (.aload_n 0, 1) := by decide +kernel
theorem dc_14_45_13 : decode prog_14_method_45_code 13 = .ok (.getfield 129, 3) := by decide +kernel
theorem dc_14_45_16 : decode prog_14_method_45_code 16 = .ok (.iload_n 3, 1) := by decide +kernel
theorem dc_14_45_17 : decode prog_14_method_45_code 17 = .ok (.iaload, 1) := by decide +kernel
theorem dc_14_45_18 : decode prog_14_method_45_code 18 = .ok (.iload_n 1, 1) := by decide +kernel
theorem dc_14_45_19 : decode prog_14_method_45_code 19 = .ok (.if_icmp .ne 49, 3) := by decide +kernel
theorem dc_14_45_22 : decode prog_14_method_45_code 22 = .ok (.aload_n 0, 1) := by decide +kernel
theorem dc_14_45_23 : decode prog_14_method_45_code 23 = .ok (.getfield 123, 3) := by decide +kernel
theorem dc_14_45_26 : decode prog_14_method_45_code 26 = .ok (.iload_n 3, 1) := by decide +kernel
theorem dc_14_45_27 : decode prog_14_method_45_code 27 = .ok (.iaload, 1) := by decide +kernel
theorem dc_14_45_28 : decode prog_14_method_45_code 28 = .ok (.iconst 1, 1) := by decide +kernel
theorem dc_14_45_29 : decode prog_14_method_45_code 29 = .ok (.if_icmp .eq 16, 3) := by decide +kernel
theorem dc_14_45_32 : decode prog_14_method_45_code 32 = .ok (.aload_n 0, 1) := by decide +kernel
theorem dc_14_45_33 : decode prog_14_method_45_code 33 = .ok (.getfield 123, 3) := by decide +kernel
theorem dc_14_45_36 : decode prog_14_method_45_code 36 = .ok (.iload_n 3, 1) := by decide +kernel
theorem dc_14_45_37 : decode prog_14_method_45_code 37 = .ok (.iaload, 1) := by decide +kernel
theorem dc_14_45_38 : decode prog_14_method_45_code 38 = .ok (.iconst 3, 1) := by decide +kernel
theorem dc_14_45_39 : decode prog_14_method_45_code 39 = .ok (.if_icmp .eq 6, 3) := by decide +kernel
theorem dc_14_45_42 : decode prog_14_method_45_code 42 = .ok (.goto 26, 3) := by decide +kernel
theorem dc_14_45_45 : decode prog_14_method_45_code 45 = .ok (.iload_n 2, 1) := by decide +kernel
theorem dc_14_45_46 : decode prog_14_method_45_code 46 = .ok (.aload_n 0, 1) := by decide +kernel
theorem dc_14_45_47 : decode prog_14_method_45_code 47 = .ok (.getfield 108, 3) := by decide +kernel
theorem dc_14_45_50 : decode prog_14_method_45_code 50 = .ok (.iload_n 3, 1) := by decide +kernel
theorem dc_14_45_51 : decode prog_14_method_45_code 51 = .ok (.iaload, 1) := by decide +kernel
theorem dc_14_45_52 : decode prog_14_method_45_code 52 = .ok (.aload_n 0, 1) := by decide +kernel
theorem dc_14_45_53 : decode prog_14_method_45_code 53 = .ok (.getfield 63, 3) := by decide +kernel
theorem dc_14_45_56 : decode prog_14_method_45_code 56 = .ok (.iload_n 1, 1) := by decide +kernel
theorem dc_14_45_57 : decode prog_14_method_45_code 57 = .ok (.iaload, 1) := by decide +kernel
theorem dc_14_45_58 : decode prog_14_method_45_code 58 = .ok (.if_icmp .ne 7, 3) := by decide +kernel
theorem dc_14_45_61 : decode prog_14_method_45_code 61 = .ok (.iconst 1, 1) := by decide +kernel
theorem dc_14_45_62 : decode prog_14_method_45_code 62 = .ok (.goto 4, 3) := by decide +kernel
theorem dc_14_45_65 : decode prog_14_method_45_code 65 = .ok (.iconst (-1), 1) := by decide +kernel
theorem dc_14_45_66 : decode prog_14_method_45_code 66 = .ok (.iadd, 1) := by decide +kernel
theorem dc_14_45_67 : decode prog_14_method_45_code 67 = .ok (.istore_n 2, 1) := by decide +kernel
theorem dc_14_45_68 : decode prog_14_method_45_code 68 = .ok (.iinc 3 1, 3) := by decide +kernel
theorem dc_14_45_71 : decode prog_14_method_45_code 71 = .ok (.goto (-67), 3) := by decide +kernel
theorem dc_14_45_74 : decode prog_14_method_45_code 74 = .ok (.iload_n 2, 1) := by decide +kernel
theorem dc_14_45_75 : decode prog_14_method_45_code 75 = .ok (.ireturn, 1) := by decide +kernel
theorem dc_14_46_0 : decode prog_14_method_46_code 0 = .ok (.iconst 0, 1) := by decide +kernel
theorem dc_14_46_1 : decode prog_14_method_46_code 1 = .ok (.istore_n 3, 1) := by decide +kernel
theorem dc_14_46_2 : decode prog_14_method_46_code 2 = .ok (.iconst 0, 1) := by decide +kernel
theorem dc_14_46_3 : decode prog_14_method_46_code 3 = .ok (.istore 4, 2) := by decide +kernel
theorem dc_14_46_5 : decode prog_14_method_46_code 5 = .ok (.iload 4, 2) := by decide +kernel
theorem dc_14_46_7 : decode prog_14_method_46_code 7 = .ok (.aload_n 0, 1) := by decide +kernel
theorem dc_14_46_8 : decode prog_14_method_46_code 8 = .ok (.getfield 320, 3) := by decide +kernel
theorem dc_14_46_11 : decode prog_14_method_46_code 11 = .ok (.if_icmp .ge 50, 3) := by decide +kernel
theorem dc_14_46_14 : decode prog_14_method_46_code 14 = .ok (.iload_n 3, 1) := by decide +kernel
theorem dc_14_46_15 : decode prog_14_method_46_code 15 = .ok (.aload_n 0, 1) := by decide +kernel
theorem dc_14_46_16 : decode prog_14_method_46_code 16 = .ok (.getfield 123, 3) := by decide +kernel
theorem dc_14_46_19 : decode prog_14_method_46_code 19 = .ok (.iload 4, 2) := by decide +kernel
theorem dc_14_46_21 : decode prog_14_method_46_code 21 = .ok (.iaload, 1) := by decide +kernel
theorem dc_14_46_22 : decode prog_14_method_46_code 22 = .ok (.iconst 1, 1) := by decide +kernel
theorem dc_14_46_23 : decode prog_14_method_46_code 23 = .ok (.if_icmp .ne 29, 3) := by decide +kernel
theorem dc_14_46_26 : decode prog_14_method_46_code 26 = .ok (.aload_n 0, 1) := by decide +kernel
theorem dc_14_46_27 : decode prog_14_method_46_code 27 = .ok (.getfield 129, 3) := by decide +kernel
theorem dc_14_46_30 : decode prog_14_method_46_code 30 = .ok (.iload 4, 2) := by decide +kernel
theorem dc_14_46_32 : decode prog_14_method_46_code 32 = .ok (.iaload, 1) := by decide +kernel
theorem dc_14_46_33 : decode prog_14_method_46_code 33 = .ok (.iload_n 1, 1) := by decide +kernel
theorem dc_14_46_34 : decode prog_14_method_46_code 34 = .ok (.if_icmp .ne 18, 3) := by decide +kernel
theorem dc_14_46_37 : decode prog_14_method_46_code 37 = .ok (.aload_n 0, 1) := by decide +kernel
theorem dc_14_46_38 : decode prog_14_method_46_code 38 = .ok (.getfield 108, 3) := by decide +kernel
theorem dc_14_46_41 : decode prog_14_method_46_code 41 = .ok (.iload 4, 2) := by decide +kernel
theorem dc_14_46_43 : decode prog_14_method_46_code 43 = .ok (.iaload, 1) := by decide +kernel
theorem dc_14_46_44 : decode prog_14_method_46_code 44 = .ok (.iload_n 2, 1) := by decide +kernel
theorem dc_14_46_45 : decode prog_14_method_46_code 45 = .ok (.if_icmp .ne 7, 3) := by decide +kernel
theorem dc_14_46_48 : decode prog_14_method_46_code 48 = .ok (.iconst 1, 1) := by decide +kernel
theorem dc_14_46_49 : decode prog_14_method_46_code 49 = .ok (.goto 4, 3) := by decide +kernel
theorem dc_14_46_52 : decode prog_14_method_46_code 52 = .ok (.iconst 0, 1) := by decide +kernel
theorem dc_14_46_53 : decode prog_14_method_46_code 53 = .ok (.iadd, 1) := by decide +kernel
theorem dc_14_46_54 : decode prog_14_method_46_code 54 = .ok (.istore_n 3, 1) := by decide +kernel
theorem dc_14_46_55 : decode prog_14_method_46_code 55 = .ok (.iinc 4 1, 3) := by decide +kernel
theorem dc_14_46_58 : decode prog_14_method_46_code 58 = .ok (.goto (-53), 3) := by decide +kernel
theorem dc_14_46_61 : decode prog_14_method_46_code 61 = .ok (.iload_n 3, 1) := by decide +kernel
theorem dc_14_46_62 : decode prog_14_method_46_code 62 = .ok (.ireturn, 1) := by decide +kernel
theorem dc_14_47_0 : decode prog_14_method_47_code 0 = .ok (.iconst 0, 1) := by decide +kernel
theorem dc_14_47_1 : decode prog_14_method_47_code 1 = .ok (.istore_n 2, 1) := by decide +kernel
theorem dc_14_47_2 : decode prog_14_method_47_code 2 = .ok (.iconst 0, 1) := by decide +kernel
theorem dc_14_47_3 : decode prog_14_method_47_code 3 = .ok (.istore_n 3, 1) := by decide +kernel
theorem dc_14_47_4 : decode prog_14_method_47_code 4 = .ok (.iload_n 3, 1) := by decide +kernel
theorem dc_14_47_5 : decode prog_14_method_47_code 5 = .ok (.aload_n 0, 1) := by decide +kernel
theorem dc_14_47_6 : decode prog_14_method_47_code 6 = .ok (.getfield 320, 3) := by decide +kernel
theorem dc_14_47_9 : decode prog_14_method_47_code 9 = .ok (.if_icmp .ge 37, 3) := by decide +kernel
theorem dc_14_47_12 : decode prog_14_method_47_code 12 = .ok (.iload_n 2, 1) := by decide +kernel
theorem dc_14_47_13 : decode prog_14_method_47_code 13 = .ok (.aload_n 0, 1) := by decide +kernel
theorem dc_14_47_14 : decode prog_14_method_47_code 14 = .ok (.getfield 123, 3) := by decide +kernel
theorem dc_14_47_17 : decode prog_14_method_47_code 17 = .ok (.iload_n 3, 1) := by decide +kernel
theorem dc_14_47_18 : decode prog_14_method_47_code 18 = .ok (.iaload, 1) := by decide +kernel
theorem dc_14_47_19 : decode prog_14_method_47_code 19 = .ok (.iconst 1, 1) := by decide +kernel
theorem dc_14_47_20 : decode prog_14_method_47_code 20 = .ok (.if_icmp .ne 17, 3) := by decide +kernel
theorem dc_14_47_23 : decode prog_14_method_47_code 23 = .ok (.aload_n 0, 1) := by decide +kernel
theorem dc_14_47_24 : decode prog_14_method_47_code 24 = .ok (.getfield 126, 3) := by decide +kernel
theorem dc_14_47_27 : decode prog_14_method_47_code 27 = .ok (.iload_n 3, 1) := by decide +kernel
theorem dc_14_47_28 : decode prog_14_method_47_code 28 = .ok (.iaload, 1) := by decide +kernel
theorem dc_14_47_29 : decode prog_14_method_47_code 29 = .ok (.iload_n 1, 1) := by decide +kernel
theorem dc_14_47_30 : decode prog_14_method_47_code 30 = .ok (.if_icmp .ne 7, 3) := by decide +kernel
theorem dc_14_47_33 : decode prog_14_method_47_code 33 = .ok (.iconst 1, 1) := by decide +kernel
theorem dc_14_47_34 : decode prog_14_method_47_code 34 = .ok (.goto 4, 3) := by decide +kernel
theorem dc_14_47_37 : decode prog_14_method_47_code 37 = .ok (.iconst 0, 1) := by decide +kernel
theorem dc_14_47_38 : decode prog_14_method_47_code 38 = .ok (.iadd, 1) := by decide +kernel
theorem dc_14_47_39 : decode prog_14_method_47_code 39 = .ok (.istore_n 2, 1) := by decide +kernel
theorem dc_14_47_40 : decode prog_14_method_47_code 40 = .ok (.iinc 3 1, 3) := by decide +kernel
theorem dc_14_47_43 : decode prog_14_method_47_code 43 = .ok (.goto (-39), 3) := by decide +kernel
theorem dc_14_47_46 : decode prog_14_method_47_code 46 = .ok (.iload_n 2, 1) := by decide +kernel
theorem dc_14_47_47 : decode prog_14_method_47_code 47 = .ok (.ireturn, 1) := by decide +kernel
theorem dc_14_67_0 : decode prog_14_method_67_code 0 = .ok (.iconst 0, 1) := by decide +kernel
theorem dc_14_67_1 : decode prog_14_method_67_code 1 = .ok (.istore_n 1, 1) := by decide +kernel
theorem dc_14_67_2 : decode prog_14_method_67_code 2 = .ok (.iconst 0, 1) := by decide +kernel
theorem dc_14_67_3 : decode prog_14_method_67_code 3 = .ok (.istore_n 2, 1) := by decide +kernel
theorem dc_14_67_4 : decode prog_14_method_67_code 4 = .ok (.iload_n 2, 1) := by decide +kernel
theorem dc_14_67_5 : decode prog_14_method_67_code 5 = .ok (.bipush 12, 2) := by decide +kernel
theorem dc_14_67_7 : decode prog_14_method_67_code 7 = .ok (.if_icmp .ge 17, 3) := by decide +kernel
theorem dc_14_67_10 : decode prog_14_method_67_code 10 = .ok (.iload_n 1, 1) := by decide +kernel
theorem dc_14_67_11 : decode prog_14_method_67_code 11 = .ok (.iload_n 0, 1) := by decide +kernel
theorem dc_14_67_12 : decode prog_14_method_67_code 12 = .ok (.iload_n 2, 1) := by decide +kernel
theorem dc_14_67_13 : decode prog_14_method_67_code 13 = .ok (.ishr, 1) := by decide +kernel
theorem dc_14_67_14 : decode prog_14_method_67_code 14 = .ok (.iconst 1, 1) := by decide +kernel
theorem dc_14_67_15 : decode prog_14_method_67_code 15 = .ok (.iand, 1) := by decide +kernel
theorem dc_14_67_16 : decode prog_14_method_67_code 16 = .ok (.iadd, 1) := by decide +kernel
theorem dc_14_67_17 : decode prog_14_method_67_code 17 = .ok (.istore_n 1, 1) := by decide +kernel
theorem dc_14_67_18 : decode prog_14_method_67_code 18 = .ok (.iinc 2 1, 3) := by decide +kernel
theorem dc_14_67_21 : decode prog_14_method_67_code 21 = .ok (.goto (-17), 3) := by decide +kernel
theorem dc_14_67_24 : decode prog_14_method_67_code 24 = .ok (.iload_n 1, 1) := by decide +kernel
theorem dc_14_67_25 : decode prog_14_method_67_code 25 = .ok (.ireturn, 1) := by decide +kernel
theorem dc_14_70_0 : decode prog_14_method_70_code 0 = .ok (.iconst 0, 1) := by decide +kernel
theorem dc_14_70_1 : decode prog_14_method_70_code 1 = .ok (.istore_n 2, 1) := by decide +kernel
theorem dc_14_70_2 : decode prog_14_method_70_code 2 = .ok (.iload_n 2, 1) := by decide +kernel
theorem dc_14_70_3 : decode prog_14_method_70_code 3 = .ok (.aload_n 0, 1) := by decide +kernel
theorem dc_14_70_4 : decode prog_14_method_70_code 4 = .ok (.getfield 419, 3) := by decide +kernel
theorem dc_14_70_7 : decode prog_14_method_70_code 7 = .ok (.if_icmp .ge 26, 3) := by decide +kernel
theorem dc_14_70_10 : decode prog_14_method_70_code 10 = .ok (.aload_n 0, 1) := by decide +kernel
theorem dc_14_70_11 : decode prog_14_method_70_code 11 = .ok (.getfield 168, 3) := by decide +kernel
theorem dc_14_70_14 : decode prog_14_method_70_code 14 = .ok (.iload_n 2, 1) := by decide +kernel
theorem dc_14_70_15 : decode prog_14_method_70_code 15 = .ok (.iaload, 1) := by decide +kernel
theorem dc_14_70_16 : decode prog_14_method_70_code 16 = .ok (.iload_n 1, 1) := by decide +kernel
theorem dc_14_70_17 : decode prog_14_method_70_code 17 = .ok (.if_icmp .ne 10, 3) := by decide +kernel
theorem dc_14_70_20 : decode prog_14_method_70_code 20 = .ok (.aload_n 0, 1) := by decide +kernel
theorem dc_14_70_21 : decode prog_14_method_70_code 21 = .ok (.getfield 168, 3) := by decide +kernel
theorem dc_14_70_24 : decode prog_14_method_70_code 24 = .ok (.iload_n 2, 1) := by decide +kernel
theorem dc_14_70_25 : decode prog_14_method_70_code 25 = .ok (.iconst (-1), 1) := by decide +kernel
theorem dc_14_70_26 : decode prog_14_method_70_code 26 = .ok (.iastore, 1) := by decide +kernel
theorem dc_14_70_27 : decode prog_14_method_70_code 27 = .ok (.iinc 2 1, 3) := by decide +kernel
theorem dc_14_70_30 : decode prog_14_method_70_code 30 = .ok (.goto (-28), 3) := by decide +kernel
theorem dc_14_70_33 : decode prog_14_method_70_code 33 = .ok (.return_, 1) := by decide +kernel
theorem dc_14_71_0 : decode prog_14_method_71_code 0 = .ok (.iload_n 0, 1) := by decide +kernel
theorem dc_14_71_1 : decode prog_14_method_71_code 1 = .ok (.ifCond .lt 14, 3) := by decide +kernel
theorem dc_14_71_4 : decode prog_14_method_71_code 4 = .ok (.iload_n 0, 1) := by decide +kernel
theorem dc_14_71_5 : decode prog_14_method_71_code 5 = .ok (.sipush 360, 3) := by decide +kernel
theorem dc_14_71_8 : decode prog_14_method_71_code 8 = .ok (.if_icmp .ge 7, 3) := by decide +kernel
theorem dc_14_71_11 : decode prog_14_method_71_code 11 = .ok (.iconst 1, 1) := by decide +kernel
theorem dc_14_71_12 : decode prog_14_method_71_code 12 = .ok (.goto 4, 3) := by decide +kernel
theorem dc_14_71_15 : decode prog_14_method_71_code 15 = .ok (.iconst 0, 1) := by decide +kernel
theorem dc_14_71_16 : decode prog_14_method_71_code 16 = .ok (.ireturn, 1) := by decide +kernel
theorem dc_14_73_0 : decode prog_14_method_73_code 0 = .ok (.iconst (-1), 1) := by decide +kernel
theorem dc_14_73_1 : decode prog_14_method_73_code 1 = .ok (.istore 4, 2) := by decide +kernel
theorem dc_14_73_3 : decode prog_14_method_73_code 3 = .ok (.iconst 0, 1) := by decide +kernel
theorem dc_14_73_4 : decode prog_14_method_73_code 4 = .ok (.istore 5, 2) := by decide +kernel
theorem dc_14_73_6 : decode prog_14_method_73_code 6 = .ok (.iload 5, 2) := by decide +kernel
theorem dc_14_73_8 : decode prog_14_method_73_code 8 = .ok (.aload_n 0, 1) := by decide +kernel
theorem dc_14_73_9 : decode prog_14_method_73_code 9 = .ok (.getfield 419, 3) := by decide +kernel
theorem dc_14_73_12 : decode prog_14_method_73_code 12 = .ok (.if_icmp .ge 51, 3) := by decide +kernel
theorem dc_14_73_15 : decode prog_14_method_73_code 15 = .ok (.aload_n 0, 1) := by decide +kernel
theorem dc_14_73_16 : decode prog_14_method_73_code 16 = .ok (.getfield 168, 3) := by decide +kernel
theorem dc_14_73_19 : decode prog_14_method_73_code 19 = .ok (.iload 5, 2) := by decide +kernel
theorem dc_14_73_21 : decode prog_14_method_73_code 21 = .ok (.iaload, 1) := by decide +kernel
theorem dc_14_73_22 : decode prog_14_method_73_code 22 = .ok (.iload_n 1, 1) := by decide +kernel
theorem dc_14_73_23 : decode prog_14_method_73_code 23 = .ok (.if_icmp .ne 34, 3) := by decide +kernel
theorem dc_14_73_26 : decode prog_14_method_73_code 26 = .ok (.aload_n 0, 1) := by decide +kernel
theorem dc_14_73_27 : decode prog_14_method_73_code 27 = .ok (.getfield 171, 3) := by decide +kernel
theorem dc_14_73_30 : decode prog_14_method_73_code 30 = .ok (.iload 5, 2) := by decide +kernel
theorem dc_14_73_32 : decode prog_14_method_73_code 32 = .ok (.iaload, 1) := by decide +kernel
theorem dc_14_73_33 : decode prog_14_method_73_code 33 = .ok (.iload_n 2, 1) := by decide +kernel
theorem dc_14_73_34 : decode prog_14_method_73_code 34 = .ok (.if_icmp .ne 23, 3) := by decide +kernel
theorem dc_14_73_37 : decode prog_14_method_73_code 37 = .ok (.aload_n 0, 1) := by decide +kernel
theorem dc_14_73_38 : decode prog_14_method_73_code 38 = .ok (.getfield 177, 3) := by decide +kernel
theorem dc_14_73_41 : decode prog_14_method_73_code 41 = .ok (.iload 5, 2) := by decide +kernel
theorem dc_14_73_43 : decode prog_14_method_73_code 43 = .ok (.iaload, 1) := by decide +kernel
theorem dc_14_73_44 : decode prog_14_method_73_code 44 = .ok (.iload_n 3, 1) := by decide +kernel
theorem dc_14_73_45 : decode prog_14_method_73_code 45 = .ok (.if_icmp .gt 12, 3) := by decide +kernel
theorem dc_14_73_48 : decode prog_14_method_73_code 48 = .ok (.aload_n 0, 1) := by decide +kernel
theorem dc_14_73_49 : decode prog_14_method_73_code 49 = .ok (.getfield 174, 3) := by decide +kernel
theorem dc_14_73_52 : decode prog_14_method_73_code 52 = .ok (.iload 5, 2) := by decide +kernel
theorem dc_14_73_54 : decode prog_14_method_73_code 54 = .ok (.iaload, 1) := by decide +kernel
theorem dc_14_73_55 : decode prog_14_method_73_code 55 = .ok (.istore 4, 2) := by decide +kernel
theorem dc_14_73_57 : decode prog_14_method_73_code 57 = .ok (.iinc 5 1, 3) := by decide +kernel
theorem dc_14_73_60 : decode prog_14_method_73_code 60 = .ok (.goto (-54), 3) := by decide +kernel
theorem dc_14_73_63 : decode prog_14_method_73_code 63 = .ok (.iload 4, 2) := by decide +kernel
theorem dc_14_73_65 : decode prog_14_method_73_code 65 = .ok (.ireturn, 1) := by decide +kernel
theorem dc_14_85_0 : decode prog_14_method_85_code 0 = .ok (.iconst 0, 1) := by decide +kernel
theorem dc_14_85_1 : decode prog_14_method_85_code 1 = .ok (.istore_n 2, 1) := by decide +kernel
theorem dc_14_85_2 : decode prog_14_method_85_code 2 = .ok (.iconst 0, 1) := by decide +kernel
theorem dc_14_85_3 : decode prog_14_method_85_code 3 = .ok (.istore_n 3, 1) := by decide +kernel
theorem dc_14_85_4 : decode prog_14_method_85_code 4 = .ok (.iload_n 3, 1) := by decide +kernel
theorem dc_14_85_5 : decode prog_14_method_85_code 5 = .ok (.aload_n 0, 1) := by decide +kernel
theorem dc_14_85_6 : decode prog_14_method_85_code 6 = .ok (.getfield 320, 3) := by decide +kernel
theorem dc_14_85_9 : decode prog_14_method_85_code 9 = .ok (.if_icmp .ge 37, 3) := by decide +kernel
theorem dc_14_85_12 : decode prog_14_method_85_code 12 = .ok (.iload_n 2, 1) := by decide +kernel
theorem dc_14_85_13 : decode prog_14_method_85_code 13 = .ok (.aload_n 0, 1) := by decide +kernel
theorem dc_14_85_14 : decode prog_14_method_85_code 14 = .ok (.getfield 123, 3) := by decide +kernel
theorem dc_14_85_17 : decode prog_14_method_85_code 17 = .ok (.iload_n 3, 1) := by decide +kernel
theorem dc_14_85_18 : decode prog_14_method_85_code 18 = .ok (.iaload, 1) := by decide +kernel
theorem dc_14_85_19 : decode prog_14_method_85_code 19 = .ok (.iconst 1, 1) := by decide +kernel
theorem dc_14_85_20 : decode prog_14_method_85_code 20 = .ok (.if_icmp .ne 17, 3) := by decide +kernel
theorem dc_14_85_23 : decode prog_14_method_85_code 23 = .ok (.aload_n 0, 1) := by decide +kernel
theorem dc_14_85_24 : decode prog_14_method_85_code 24 = .ok (.getfield 129, 3) := by decide +kernel
theorem dc_14_85_27 : decode prog_14_method_85_code 27 = .ok (.iload_n 3, 1) := by decide +kernel
theorem dc_14_85_28 : decode prog_14_method_85_code 28 = .ok (.iaload, 1) := by decide +kernel
theorem dc_14_85_29 : decode prog_14_method_85_code 29 = .ok (.iload_n 1, 1) := by decide +kernel
theorem dc_14_85_30 : decode prog_14_method_85_code 30 = .ok (.if_icmp .ne 7, 3) := by decide +kernel
theorem dc_14_85_33 : decode prog_14_method_85_code 33 = .ok (.iconst 1, 1) := by decide +kernel
theorem dc_14_85_34 : decode prog_14_method_85_code 34 = .ok (.goto 4, 3) := by decide +kernel
theorem dc_14_85_37 : decode prog_14_method_85_code 37 = .ok (.iconst 0, 1) := by decide +kernel
theorem dc_14_85_38 : decode prog_14_method_85_code 38 = .ok (.iadd, 1) := by decide +kernel
theorem dc_14_85_39 : decode prog_14_method_85_code 39 = .ok (.istore_n 2, 1) := by decide +kernel
theorem dc_14_85_40 : decode prog_14_method_85_code 40 = .ok (.iinc 3 1, 3) := by decide +kernel
theorem dc_14_85_43 : decode prog_14_method_85_code 43 = .ok (.goto (-39), 3) := by decide +kernel
theorem dc_14_85_46 : decode prog_14_method_85_code 46 = .ok (.iload_n 2, 1) := by decide +kernel
theorem dc_14_85_47 : decode prog_14_method_85_code 47 = .ok (.ireturn, 1) := by decide +kernel
theorem dc_14_87_0 : decode prog_14_method_87_code 0 = .ok (.iconst 0, 1) := by decide +kernel
theorem dc_14_87_1 : decode prog_14_method_87_code 1 = .ok (.istore_n 2, 1) := by decide +kernel
theorem dc_14_87_2 : decode prog_14_method_87_code 2 = .ok (.iconst 0, 1) := by decide +kernel
theorem dc_14_87_3 : decode prog_14_method_87_code 3 = .ok (.istore_n 3, 1) := by decide +kernel
theorem dc_14_87_4 : decode prog_14_method_87_code 4 = .ok (.iload_n 3, 1) := by decide +kernel
theorem dc_14_87_5 : decode prog_14_method_87_code 5 = .ok (.aload_n 0, 1) := by decide +kernel
theorem dc_14_87_6 : decode prog_14_method_87_code 6 = .ok (.getfield 320, 3) := by decide +kernel
theorem dc_14_87_9 : decode prog_14_method_87_code 9 = .ok (.if_icmp .ge 27, 3) := by decide +kernel
theorem dc_14_87_12 : decode prog_14_method_87_code 12 = .ok (.iload_n 2, 1) := by decide +kernel
theorem dc_14_87_13 : decode prog_14_method_87_code 13 = .ok (.aload_n 0, 1) := by decide +kernel
theorem dc_14_87_14 : decode prog_14_method_87_code 14 = .ok (.getfield 123, 3) := by decide +kernel
theorem dc_14_87_17 : decode prog_14_method_87_code 17 = .ok (.iload_n 3, 1) := by decide +kernel
theorem dc_14_87_18 : decode prog_14_method_87_code 18 = .ok (.iaload, 1) := by decide +kernel
theorem dc_14_87_19 : decode prog_14_method_87_code 19 = .ok (.iload_n 1, 1) := by decide +kernel
theorem dc_14_87_20 : decode prog_14_method_87_code 20 = .ok (.if_icmp .ne 7, 3) := by decide +kernel
theorem dc_14_87_23 : decode prog_14_method_87_code 23 = .ok (.iconst 1, 1) := by decide +kernel
theorem dc_14_87_24 : decode prog_14_method_87_code 24 = .ok (.goto 4, 3) := by decide +kernel
theorem dc_14_87_27 : decode prog_14_method_87_code 27 = .ok (.iconst 0, 1) := by decide +kernel
theorem dc_14_87_28 : decode prog_14_method_87_code 28 = .ok (.iadd, 1) := by decide +kernel
theorem dc_14_87_29 : decode prog_14_method_87_code 29 = .ok (.istore_n 2, 1) := by decide +kernel
theorem dc_14_87_30 : decode prog_14_method_87_code 30 = .ok (.iinc 3 1, 3) := by decide +kernel
theorem dc_14_87_33 : decode prog_14_method_87_code 33 = .ok (.goto (-29), 3) := by decide +kernel
theorem dc_14_87_36 : decode prog_14_method_87_code 36 = .ok (.iload_n 2, 1) := by decide +kernel
theorem dc_14_87_37 : decode prog_14_method_87_code 37 = .ok (.ireturn, 1) := by decide +kernel
theorem nI_add0 (x : Int32) : x + nI 0 = x := Int32.add_zero x
theorem nI_one : nI 1 = 1 := rfl
theorem sp_S (f : Nat → Int32) (n : Nat) : sp_sum f (n + 1) = sp_sum f n + f n := rfl
def sp_is (v n : Int32) : Int32 := if 0 ≤ v ∧ v < n then 1 else 0
theorem sp_is_a {v : Int32} (n : Int32) (h : v < 0) : sp_is v n = 0 := if_neg (fun q => absurd h (Int32.not_lt.mpr q.1))
theorem sp_is_b {v n : Int32} (h : n ≤ v) : sp_is v n = 0 := if_neg (fun q => absurd q.2 (Int32.not_lt.mpr h))
theorem sp_is_c {v n : Int32} (h1 : ¬ v < 0) (h2 : ¬ n ≤ v) : sp_is v n = 1 := if_pos ⟨Int32.not_lt.mp h1, Int32.not_le.mp h2⟩
set_option maxHeartbeats 4000000 in
theorem c_isSchool (M : mH) (hM : 157 ≤ M.1) (io : Nat → Int32) (sg : Nat → Nat → Int32) (v : Int32) : mm_Ev 1 196 [.ref 100, .int v] (rf_mk M io sg) ((some (.int (sp_is v (io 3))), rf_mk M io sg)) := by
  refine r_ev (by decide +kernel) (show (2 : Nat) ≤ mm_nL 196 by decide +kernel) ?_
  show mm_Ru 0 (13, 2, false, prog_14_method_10_code, some .boolean) 0 [(0, .ref 100), (1, .int v)] [] (rf_mk M io sg) (fun z => z = ((some (.int (sp_is v (io 3))), rf_mk M io sg)))
  refine r_iload_n rfl dc_14_10_0 ?_
  refine r_iflt (t := 16) (by decide) dc_14_10_1 (fun c_1 => ?_) (fun c_1 => ?_)
  · skip
    refine r_iconst (v := nI 0) (by decide) dc_14_10_16 ?_
    refine r_zret rfl (by decide) dc_14_10_17 ?_
    rw [sp_is_a _ c_1]
    rfl
  · skip
    refine r_iload_n rfl dc_14_10_4 ?_
    refine r_aload_n rfl dc_14_10_5 ?_
    refine q_get (v := .int (io 3)) rx_200 hM rfl dc_14_10_6 ?_
    refine r_icge (t := 16) (by decide) dc_14_10_9 (fun c_9 => ?_) (fun c_9 => ?_)
    · skip
      refine r_iconst (v := nI 0) (by decide) dc_14_10_16 ?_
      refine r_zret rfl (by decide) dc_14_10_17 ?_
      rw [sp_is_b c_9]
      rfl
    · skip
      refine r_iconst (v := nI 1) (by decide) dc_14_10_12 ?_
      refine r_goto (t := 17) (by decide) dc_14_10_13 ?_
      refine r_zret rfl (by decide) dc_14_10_17 ?_
      rw [sp_is_c c_1 c_9]
      rfl
set_option maxHeartbeats 4000000 in
theorem c_isAgreement (M : mH) (hM : 157 ≤ M.1) (io : Nat → Int32) (sg : Nat → Nat → Int32) (v : Int32) : mm_Ev 1 212 [.ref 100, .int v] (rf_mk M io sg) ((some (.int (sp_is v (io 4))), rf_mk M io sg)) := by
  refine r_ev (by decide +kernel) (show (2 : Nat) ≤ mm_nL 212 by decide +kernel) ?_
  show mm_Ru 0 (13, 2, false, prog_14_method_27_code, some .boolean) 0 [(0, .ref 100), (1, .int v)] [] (rf_mk M io sg) (fun z => z = ((some (.int (sp_is v (io 4))), rf_mk M io sg)))
  refine r_iload_n rfl dc_14_27_0 ?_
  refine r_iflt (t := 16) (by decide) dc_14_27_1 (fun c_1 => ?_) (fun c_1 => ?_)
  · skip
    refine r_iconst (v := nI 0) (by decide) dc_14_27_16 ?_
    refine r_zret rfl (by decide) dc_14_27_17 ?_
    rw [sp_is_a _ c_1]
    rfl
  · skip
    refine r_iload_n rfl dc_14_27_4 ?_
    refine r_aload_n rfl dc_14_27_5 ?_
    refine q_get (v := .int (io 4)) rx_290 hM rfl dc_14_27_6 ?_
    refine r_icge (t := 16) (by decide) dc_14_27_9 (fun c_9 => ?_) (fun c_9 => ?_)
    · skip
      refine r_iconst (v := nI 0) (by decide) dc_14_27_16 ?_
      refine r_zret rfl (by decide) dc_14_27_17 ?_
      rw [sp_is_b c_9]
      rfl
    · skip
      refine r_iconst (v := nI 1) (by decide) dc_14_27_12 ?_
      refine r_goto (t := 17) (by decide) dc_14_27_13 ?_
      refine r_zret rfl (by decide) dc_14_27_17 ?_
      rw [sp_is_c c_1 c_9]
      rfl
set_option maxHeartbeats 4000000 in
theorem c_isStudent (M : mH) (hM : 157 ≤ M.1) (io : Nat → Int32) (sg : Nat → Nat → Int32) (v : Int32) : mm_Ev 1 222 [.ref 100, .int v] (rf_mk M io sg) ((some (.int (sp_is v (io 5))), rf_mk M io sg)) := by
  refine r_ev (by decide +kernel) (show (2 : Nat) ≤ mm_nL 222 by decide +kernel) ?_
  show mm_Ru 0 (13, 2, false, prog_14_method_36_code, some .boolean) 0 [(0, .ref 100), (1, .int v)] [] (rf_mk M io sg) (fun z => z = ((some (.int (sp_is v (io 5))), rf_mk M io sg)))
  refine r_iload_n rfl dc_14_36_0 ?_
  refine r_iflt (t := 16) (by decide) dc_14_36_1 (fun c_1 => ?_) (fun c_1 => ?_)
  · skip
    refine r_iconst (v := nI 0) (by decide) dc_14_36_16 ?_
    refine r_zret rfl (by decide) dc_14_36_17 ?_
    rw [sp_is_a _ c_1]
    rfl
  · skip
    refine r_iload_n rfl dc_14_36_4 ?_
    refine r_aload_n rfl dc_14_36_5 ?_
    refine q_get (v := .int (io 5)) rx_320 hM rfl dc_14_36_6 ?_
    refine r_icge (t := 16) (by decide) dc_14_36_9 (fun c_9 => ?_) (fun c_9 => ?_)
    · skip
      refine r_iconst (v := nI 0) (by decide) dc_14_36_16 ?_
      refine r_zret rfl (by decide) dc_14_36_17 ?_
      rw [sp_is_b c_9]
      rfl
    · skip
      refine r_iconst (v := nI 1) (by decide) dc_14_36_12 ?_
      refine r_goto (t := 17) (by decide) dc_14_36_13 ?_
      refine r_zret rfl (by decide) dc_14_36_17 ?_
      rw [sp_is_c c_1 c_9]
      rfl
set_option maxHeartbeats 4000000 in
theorem c_isDay (N : mH) (v : Int32) : mm_Ev 1 256 [.int v] (N) ((some (.int (sp_is v (nI 360))), N)) := by
  refine r_ev (by decide +kernel) (show (1 : Nat) ≤ mm_nL 256 by decide +kernel) ?_
  show mm_Ru 0 (13, 1, false, prog_14_method_71_code, some .boolean) 0 [(0, .int v)] [] (N) (fun z => z = ((some (.int (sp_is v (nI 360))), N)))
  refine r_iload_n rfl dc_14_71_0 ?_
  refine r_iflt (t := 15) (by decide) dc_14_71_1 (fun c_1 => ?_) (fun c_1 => ?_)
  · skip
    refine r_iconst (v := nI 0) (by decide) dc_14_71_15 ?_
    refine r_zret rfl (by decide) dc_14_71_16 ?_
    rw [sp_is_a _ c_1]
    rfl
  · skip
    refine r_iload_n rfl dc_14_71_4 ?_
    refine r_sipush (v := nI 360) (by decide) dc_14_71_5 ?_
    refine r_icge (t := 15) (by decide) dc_14_71_8 (fun c_8 => ?_) (fun c_8 => ?_)
    · skip
      refine r_iconst (v := nI 0) (by decide) dc_14_71_15 ?_
      refine r_zret rfl (by decide) dc_14_71_16 ?_
      rw [sp_is_b c_8]
      rfl
    · skip
      refine r_iconst (v := nI 1) (by decide) dc_14_71_11 ?_
      refine r_goto (t := 16) (by decide) dc_14_71_12 ?_
      refine r_zret rfl (by decide) dc_14_71_16 ?_
      rw [sp_is_c c_1 c_8]
      rfl
def sp_inf (io : Nat → Int32) (sg : Nat → Nat → Int32) (x : Nat) : Int32 := if sg 32 x ≤ io 6 ∧ io 6 ≤ sg 33 x then 1 else 0
set_option maxHeartbeats 4000000 in
theorem c_isInForce (M : mH) (hM : 157 ≤ M.1) (io : Nat → Int32) (sg : Nat → Nat → Int32) (x : Nat) (hx : x < 12) : mm_Ev 1 227 [.ref 100, .int (nI x)] (rf_mk M io sg) ((some (.int (sp_inf io sg x)), rf_mk M io sg)) := by
  refine r_ev (by decide +kernel) (show (2 : Nat) ≤ mm_nL 227 by decide +kernel) ?_
  show mm_Ru 0 (13, 2, false, prog_14_method_42_code, some .boolean) 0 [(0, .ref 100), (1, .int (nI x))] [] (rf_mk M io sg) (fun z => z = ((some (.int (sp_inf io sg x)), rf_mk M io sg)))
  refine r_aload_n rfl dc_14_42_0 ?_
  refine q_get (v := .int (io 6)) rx_329 hM rfl dc_14_42_1 ?_
  refine r_aload_n rfl dc_14_42_4 ?_
  refine q_get (v := .ref 123) rx_78 hM rfl dc_14_42_5 ?_
  refine r_iload_n rfl dc_14_42_8 ?_
  refine q_ild (e := x) (v := sg 32 x) (by decide) (by decide) hM rfl (show x < 12 by omega) (by omega) (rfl) dc_14_42_9 ?_
  refine r_iclt (t := 30) (by decide) dc_14_42_10 (fun c_10 => ?_) (fun c_10 => ?_)
  · skip
    refine r_iconst (v := nI 0) (by decide) dc_14_42_30 ?_
    refine r_zret rfl (by decide) dc_14_42_31 ?_
    unfold sp_inf
    rw [if_neg (fun q => absurd c_10 (Int32.not_lt.mpr q.1))]
    rfl
  · skip
    refine r_aload_n rfl dc_14_42_13 ?_
    refine q_get (v := .int (io 6)) rx_329 hM rfl dc_14_42_14 ?_
    refine r_aload_n rfl dc_14_42_17 ?_
    refine q_get (v := .ref 124) rx_81 hM rfl dc_14_42_18 ?_
    refine r_iload_n rfl dc_14_42_21 ?_
    refine q_ild (e := x) (v := sg 33 x) (by decide) (by decide) hM rfl (show x < 12 by omega) (by omega) (rfl) dc_14_42_22 ?_
    refine r_icgt (t := 30) (by decide) dc_14_42_23 (fun c_23 => ?_) (fun c_23 => ?_)
    · skip
      refine r_iconst (v := nI 0) (by decide) dc_14_42_30 ?_
      refine r_zret rfl (by decide) dc_14_42_31 ?_
      unfold sp_inf
      rw [if_neg (fun q => absurd c_23 (Int32.not_lt.mpr q.2))]
      rfl
    · skip
      refine r_iconst (v := nI 1) (by decide) dc_14_42_26 ?_
      refine r_goto (t := 31) (by decide) dc_14_42_27 ?_
      refine r_zret rfl (by decide) dc_14_42_31 ?_
      unfold sp_inf
      rw [if_pos ⟨Int32.not_lt.mp c_10, Int32.not_lt.mp c_23⟩]
      rfl
def sp_lev (sg : Nat → Nat → Int32) (s tg : Nat) : Int32 := if sg 61 (4 * s + tg) = -1 then nI 0 else sg 61 (4 * s + tg)
set_option maxHeartbeats 4000000 in
theorem c_levelIn (M : mH) (hM : 157 ≤ M.1) (io : Nat → Int32) (sg : Nat → Nat → Int32) (s h tg : Nat) (hs : s < 16) (hh : h < 8) (htg : sg 10 h = nI tg) (ht : tg < 4) : mm_Ev 1 228 [.ref 100, .int (nI s), .int (nI h)] (rf_mk M io sg) ((some (.int (sp_lev sg s tg)), rf_mk M io sg)) := by
  refine r_ev (by decide +kernel) (show (3 : Nat) ≤ mm_nL 228 by decide +kernel) ?_
  show mm_Ru 0 (13, 4, false, prog_14_method_39_code, some .int) 0 [(0, .ref 100), (1, .int (nI s)), (2, .int (nI h))] [] (rf_mk M io sg) (fun z => z = ((some (.int (sp_lev sg s tg)), rf_mk M io sg)))
  refine r_aload_n rfl dc_14_39_0 ?_
  refine q_get (v := .ref 143) rx_138 hM rfl dc_14_39_1 ?_
  refine r_iconst (v := nI 4) (by decide) dc_14_39_4 ?_
  refine r_iload_n rfl dc_14_39_5 ?_
  refine r_imul (v := nI (4 * s)) (pk_mul _ _) dc_14_39_6 ?_
  refine r_aload_n rfl dc_14_39_7 ?_
  refine q_get (v := .ref 105) rx_22 hM rfl dc_14_39_8 ?_
  refine r_iload_n rfl dc_14_39_11 ?_
  refine q_ild (e := h) (v := nI tg) (by decide) (by decide) hM rfl (show h < 8 by omega) (by omega) (htg) dc_14_39_12 ?_
  refine r_iadd (v := nI (4 * s + tg)) (nI_add _ _) dc_14_39_13 ?_
  refine q_ild (e := 4 * s + tg) (v := sg 61 (4 * s + tg)) (by decide) (by decide) hM rfl (show 4 * s + tg < 64 by omega) (by omega) (rfl) dc_14_39_14 ?_
  refine r_istore_n (ls' := [(3, .int (sg 61 (4 * s + tg))), (0, .ref 100), (1, .int (nI s)), (2, .int (nI h))]) (by decide) rfl dc_14_39_15 ?_
  refine r_iload_n rfl dc_14_39_16 ?_
  refine r_iconst (v := -1) (by decide) dc_14_39_17 ?_
  refine r_icne (t := 25) (by decide) dc_14_39_18 (fun c_18 => ?_) (fun c_18 => ?_)
  · skip
    refine r_iload_n rfl dc_14_39_25 ?_
    refine r_iret rfl dc_14_39_26 ?_
    unfold sp_lev
    rw [if_neg c_18]
    try rfl
  · skip
    refine r_iconst (v := nI 0) (by decide) dc_14_39_21 ?_
    refine r_goto (t := 26) (by decide) dc_14_39_22 ?_
    refine r_iret rfl dc_14_39_26 ?_
    unfold sp_lev
    rw [if_pos c_18]
    try rfl
def sp_with (sg : Nat → Nat → Int32) (ns : Nat) (how : Int32) : Int32 := sp_sum (fun s => if sg 56 s = how then nI 1 else nI 0) ns
set_option maxHeartbeats 4000000 in
theorem c_with (M : mH) (hM : 157 ≤ M.1) (io : Nat → Int32) (sg : Nat → Nat → Int32) (ns : Nat) (h5 : io 5 = nI ns) (hns : ns ≤ 16) (how : Int32) : mm_Ev 1 272 [.ref 100, .int how] (rf_mk M io sg) ((some (.int (sp_with sg ns how)), rf_mk M io sg)) := by
  refine r_ev (by decide +kernel) (show (2 : Nat) ≤ mm_nL 272 by decide +kernel) ?_
  show mm_Ru 0 (13, 4, false, prog_14_method_87_code, some .int) 0 [(0, .ref 100), (1, .int how)] [] (rf_mk M io sg) (fun z => z = ((some (.int (sp_with sg ns how)), rf_mk M io sg)))
  refine r_iconst (v := nI 0) (by decide) dc_14_87_0 ?_
  refine r_istore_n (ls' := [(2, .int (nI 0)), (0, .ref 100), (1, .int how)]) (by decide) rfl dc_14_87_1 ?_
  refine r_iconst (v := nI 0) (by decide) dc_14_87_2 ?_
  refine r_istore_n (ls' := [(3, .int (nI 0)), (2, .int (nI 0)), (0, .ref 100), (1, .int how)]) (by decide) rfl dc_14_87_3 ?_
  refine mm_cnt (P := fun m => ∀ (acc : Int32), (acc = sp_sum (fun s => if sg 56 s = how then nI 1 else nI 0) m) → mm_Ru 0 (13, 4, false, prog_14_method_87_code, some .int) 4 [(3, .int (nI m)), (2, .int acc), (0, .ref 100), (1, .int how)] [] (rf_mk M io sg) (fun z => z = ((some (.int (sp_with sg ns how)), rf_mk M io sg)))) ns ?_ ?_ 0 (by omega) (nI 0) (rfl)
  · intro acc hi_m
    show mm_Ru 0 (13, 4, false, prog_14_method_87_code, some .int) 4 [(3, .int (nI ns)), (2, .int acc), (0, .ref 100), (1, .int how)] [] (rf_mk M io sg) (fun z => z = ((some (.int (sp_with sg ns how)), rf_mk M io sg)))
    refine r_iload_n rfl dc_14_87_4 ?_
    refine r_aload_n rfl dc_14_87_5 ?_
    refine q_get (v := .int (nI ns)) rx_320 hM (congrArg (fun z => some (Value.int z)) (h5)) dc_14_87_6 ?_
    refine r_ncge (t := 36) (by omega) (by omega) (by decide) dc_14_87_9 (fun c_9 => ?_) (fun c_9 => ?_)
    · skip
      refine r_iload_n rfl dc_14_87_36 ?_
      refine r_iret rfl dc_14_87_37 ?_
      rw [hi_m]
      first | rfl | simp [sp_with sg ns how]
    · omega
  · intro m h_m ih_m acc hi_m
    show mm_Ru 0 (13, 4, false, prog_14_method_87_code, some .int) 4 [(3, .int (nI m)), (2, .int acc), (0, .ref 100), (1, .int how)] [] (rf_mk M io sg) (fun z => z = ((some (.int (sp_with sg ns how)), rf_mk M io sg)))
    refine r_iload_n rfl dc_14_87_4 ?_
    refine r_aload_n rfl dc_14_87_5 ?_
    refine q_get (v := .int (nI ns)) rx_320 hM (congrArg (fun z => some (Value.int z)) (h5)) dc_14_87_6 ?_
    refine r_ncge (t := 36) (by omega) (by omega) (by decide) dc_14_87_9 (fun c_9 => ?_) (fun c_9 => ?_)
    · omega
    · skip
      refine r_iload_n rfl dc_14_87_12 ?_
      refine r_aload_n rfl dc_14_87_13 ?_
      refine q_get (v := .ref 138) rx_123 hM rfl dc_14_87_14 ?_
      refine r_iload_n rfl dc_14_87_17 ?_
      refine q_ild (e := m) (v := sg 56 m) (by decide) (by decide) hM rfl (show m < 16 by omega) (by omega) (rfl) dc_14_87_18 ?_
      refine r_iload_n rfl dc_14_87_19 ?_
      refine r_icne (t := 27) (by decide) dc_14_87_20 (fun c_20 => ?_) (fun c_20 => ?_)
      · skip
        refine r_iconst (v := nI 0) (by decide) dc_14_87_27 ?_
        refine r_iadd (v := acc + (nI 0)) (rfl) dc_14_87_28 ?_
        refine r_istore_n (ls' := [(2, .int (acc + (nI 0))), (3, .int (nI m)), (0, .ref 100), (1, .int how)]) (by decide) rfl dc_14_87_29 ?_
        refine r_iinc (x := nI m) (v := nI (m + 1)) (ls' := [(3, .int (nI (m + 1))), (2, .int (acc + (nI 0))), (0, .ref 100), (1, .int how)]) rfl (nI_1 _) (by decide) rfl dc_14_87_30 ?_
        refine r_goto (t := 4) (by decide) dc_14_87_33 ?_
        exact ih_m (acc + (nI 0)) (by simp [sp_S, hi_m, nI_add0, c_9, c_20])
      · skip
        refine r_iconst (v := nI 1) (by decide) dc_14_87_23 ?_
        refine r_goto (t := 28) (by decide) dc_14_87_24 ?_
        refine r_iadd (v := acc + (nI 1)) (rfl) dc_14_87_28 ?_
        refine r_istore_n (ls' := [(2, .int (acc + (nI 1))), (3, .int (nI m)), (0, .ref 100), (1, .int how)]) (by decide) rfl dc_14_87_29 ?_
        refine r_iinc (x := nI m) (v := nI (m + 1)) (ls' := [(3, .int (nI (m + 1))), (2, .int (acc + (nI 1))), (0, .ref 100), (1, .int how)]) rfl (nI_1 _) (by decide) rfl dc_14_87_30 ?_
        refine r_goto (t := 4) (by decide) dc_14_87_33 ?_
        exact ih_m (acc + (nI 1)) (by simp [sp_S, hi_m, nI_add0, c_9, c_20])
def sp_pin (sg : Nat → Nat → Int32) (ns : Nat) (h : Int32) : Int32 := sp_sum (fun s => if sg 56 s = nI 1 ∧ sg 57 s = h then nI 1 else nI 0) ns
set_option maxHeartbeats 4000000 in
theorem c_placedIn (M : mH) (hM : 157 ≤ M.1) (io : Nat → Int32) (sg : Nat → Nat → Int32) (ns : Nat) (h5 : io 5 = nI ns) (hns : ns ≤ 16) (h : Int32) : mm_Ev 1 233 [.ref 100, .int h] (rf_mk M io sg) ((some (.int (sp_pin sg ns h)), rf_mk M io sg)) := by
  refine r_ev (by decide +kernel) (show (2 : Nat) ≤ mm_nL 233 by decide +kernel) ?_
  show mm_Ru 0 (13, 4, false, prog_14_method_47_code, some .int) 0 [(0, .ref 100), (1, .int h)] [] (rf_mk M io sg) (fun z => z = ((some (.int (sp_pin sg ns h)), rf_mk M io sg)))
  refine r_iconst (v := nI 0) (by decide) dc_14_47_0 ?_
  refine r_istore_n (ls' := [(2, .int (nI 0)), (0, .ref 100), (1, .int h)]) (by decide) rfl dc_14_47_1 ?_
  refine r_iconst (v := nI 0) (by decide) dc_14_47_2 ?_
  refine r_istore_n (ls' := [(3, .int (nI 0)), (2, .int (nI 0)), (0, .ref 100), (1, .int h)]) (by decide) rfl dc_14_47_3 ?_
  refine mm_cnt (P := fun m => ∀ (acc : Int32), (acc = sp_sum (fun s => if sg 56 s = nI 1 ∧ sg 57 s = h then nI 1 else nI 0) m) → mm_Ru 0 (13, 4, false, prog_14_method_47_code, some .int) 4 [(3, .int (nI m)), (2, .int acc), (0, .ref 100), (1, .int h)] [] (rf_mk M io sg) (fun z => z = ((some (.int (sp_pin sg ns h)), rf_mk M io sg)))) ns ?_ ?_ 0 (by omega) (nI 0) (rfl)
  · intro acc hi_m
    show mm_Ru 0 (13, 4, false, prog_14_method_47_code, some .int) 4 [(3, .int (nI ns)), (2, .int acc), (0, .ref 100), (1, .int h)] [] (rf_mk M io sg) (fun z => z = ((some (.int (sp_pin sg ns h)), rf_mk M io sg)))
    refine r_iload_n rfl dc_14_47_4 ?_
    refine r_aload_n rfl dc_14_47_5 ?_
    refine q_get (v := .int (nI ns)) rx_320 hM (congrArg (fun z => some (Value.int z)) (h5)) dc_14_47_6 ?_
    refine r_ncge (t := 46) (by omega) (by omega) (by decide) dc_14_47_9 (fun c_9 => ?_) (fun c_9 => ?_)
    · skip
      refine r_iload_n rfl dc_14_47_46 ?_
      refine r_iret rfl dc_14_47_47 ?_
      rw [hi_m]
      first | rfl | simp [sp_pin sg ns h]
    · omega
  · intro m h_m ih_m acc hi_m
    show mm_Ru 0 (13, 4, false, prog_14_method_47_code, some .int) 4 [(3, .int (nI m)), (2, .int acc), (0, .ref 100), (1, .int h)] [] (rf_mk M io sg) (fun z => z = ((some (.int (sp_pin sg ns h)), rf_mk M io sg)))
    refine r_iload_n rfl dc_14_47_4 ?_
    refine r_aload_n rfl dc_14_47_5 ?_
    refine q_get (v := .int (nI ns)) rx_320 hM (congrArg (fun z => some (Value.int z)) (h5)) dc_14_47_6 ?_
    refine r_ncge (t := 46) (by omega) (by omega) (by decide) dc_14_47_9 (fun c_9 => ?_) (fun c_9 => ?_)
    · omega
    · skip
      refine r_iload_n rfl dc_14_47_12 ?_
      refine r_aload_n rfl dc_14_47_13 ?_
      refine q_get (v := .ref 138) rx_123 hM rfl dc_14_47_14 ?_
      refine r_iload_n rfl dc_14_47_17 ?_
      refine q_ild (e := m) (v := sg 56 m) (by decide) (by decide) hM rfl (show m < 16 by omega) (by omega) (rfl) dc_14_47_18 ?_
      refine r_iconst (v := nI 1) (by decide) dc_14_47_19 ?_
      refine r_icne (t := 37) (by decide) dc_14_47_20 (fun c_20 => ?_) (fun c_20 => ?_)
      · skip
        refine r_iconst (v := nI 0) (by decide) dc_14_47_37 ?_
        refine r_iadd (v := acc + (nI 0)) (rfl) dc_14_47_38 ?_
        refine r_istore_n (ls' := [(2, .int (acc + (nI 0))), (3, .int (nI m)), (0, .ref 100), (1, .int h)]) (by decide) rfl dc_14_47_39 ?_
        refine r_iinc (x := nI m) (v := nI (m + 1)) (ls' := [(3, .int (nI (m + 1))), (2, .int (acc + (nI 0))), (0, .ref 100), (1, .int h)]) rfl (nI_1 _) (by decide) rfl dc_14_47_40 ?_
        refine r_goto (t := 4) (by decide) dc_14_47_43 ?_
        exact ih_m (acc + (nI 0)) (by simp [sp_S, hi_m, nI_add0, c_9, c_20])
      · skip
        refine r_aload_n rfl dc_14_47_23 ?_
        refine q_get (v := .ref 139) rx_126 hM rfl dc_14_47_24 ?_
        refine r_iload_n rfl dc_14_47_27 ?_
        refine q_ild (e := m) (v := sg 57 m) (by decide) (by decide) hM rfl (show m < 16 by omega) (by omega) (rfl) dc_14_47_28 ?_
        refine r_iload_n rfl dc_14_47_29 ?_
        refine r_icne (t := 37) (by decide) dc_14_47_30 (fun c_30 => ?_) (fun c_30 => ?_)
        · skip
          refine r_iconst (v := nI 0) (by decide) dc_14_47_37 ?_
          refine r_iadd (v := acc + (nI 0)) (rfl) dc_14_47_38 ?_
          refine r_istore_n (ls' := [(2, .int (acc + (nI 0))), (3, .int (nI m)), (0, .ref 100), (1, .int h)]) (by decide) rfl dc_14_47_39 ?_
          refine r_iinc (x := nI m) (v := nI (m + 1)) (ls' := [(3, .int (nI (m + 1))), (2, .int (acc + (nI 0))), (0, .ref 100), (1, .int h)]) rfl (nI_1 _) (by decide) rfl dc_14_47_40 ?_
          refine r_goto (t := 4) (by decide) dc_14_47_43 ?_
          exact ih_m (acc + (nI 0)) (by simp [sp_S, hi_m, nI_add0, c_9, c_20, c_30])
        · skip
          refine r_iconst (v := nI 1) (by decide) dc_14_47_33 ?_
          refine r_goto (t := 38) (by decide) dc_14_47_34 ?_
          refine r_iadd (v := acc + (nI 1)) (rfl) dc_14_47_38 ?_
          refine r_istore_n (ls' := [(2, .int (acc + (nI 1))), (3, .int (nI m)), (0, .ref 100), (1, .int h)]) (by decide) rfl dc_14_47_39 ?_
          refine r_iinc (x := nI m) (v := nI (m + 1)) (ls' := [(3, .int (nI (m + 1))), (2, .int (acc + (nI 1))), (0, .ref 100), (1, .int h)]) rfl (nI_1 _) (by decide) rfl dc_14_47_40 ?_
          refine r_goto (t := 4) (by decide) dc_14_47_43 ?_
          exact ih_m (acc + (nI 1)) (by simp [sp_S, hi_m, nI_add0, c_9, c_20, c_30])
def sp_pby (sg : Nat → Nat → Int32) (ns : Nat) (x : Int32) : Int32 := sp_sum (fun s => if sg 56 s = nI 1 ∧ sg 58 s = x then nI 1 else nI 0) ns
set_option maxHeartbeats 4000000 in
theorem c_placedBy (M : mH) (hM : 157 ≤ M.1) (io : Nat → Int32) (sg : Nat → Nat → Int32) (ns : Nat) (h5 : io 5 = nI ns) (hns : ns ≤ 16) (x : Int32) : mm_Ev 1 270 [.ref 100, .int x] (rf_mk M io sg) ((some (.int (sp_pby sg ns x)), rf_mk M io sg)) := by
  refine r_ev (by decide +kernel) (show (2 : Nat) ≤ mm_nL 270 by decide +kernel) ?_
  show mm_Ru 0 (13, 4, false, prog_14_method_85_code, some .int) 0 [(0, .ref 100), (1, .int x)] [] (rf_mk M io sg) (fun z => z = ((some (.int (sp_pby sg ns x)), rf_mk M io sg)))
  refine r_iconst (v := nI 0) (by decide) dc_14_85_0 ?_
  refine r_istore_n (ls' := [(2, .int (nI 0)), (0, .ref 100), (1, .int x)]) (by decide) rfl dc_14_85_1 ?_
  refine r_iconst (v := nI 0) (by decide) dc_14_85_2 ?_
  refine r_istore_n (ls' := [(3, .int (nI 0)), (2, .int (nI 0)), (0, .ref 100), (1, .int x)]) (by decide) rfl dc_14_85_3 ?_
  refine mm_cnt (P := fun m => ∀ (acc : Int32), (acc = sp_sum (fun s => if sg 56 s = nI 1 ∧ sg 58 s = x then nI 1 else nI 0) m) → mm_Ru 0 (13, 4, false, prog_14_method_85_code, some .int) 4 [(3, .int (nI m)), (2, .int acc), (0, .ref 100), (1, .int x)] [] (rf_mk M io sg) (fun z => z = ((some (.int (sp_pby sg ns x)), rf_mk M io sg)))) ns ?_ ?_ 0 (by omega) (nI 0) (rfl)
  · intro acc hi_m
    show mm_Ru 0 (13, 4, false, prog_14_method_85_code, some .int) 4 [(3, .int (nI ns)), (2, .int acc), (0, .ref 100), (1, .int x)] [] (rf_mk M io sg) (fun z => z = ((some (.int (sp_pby sg ns x)), rf_mk M io sg)))
    refine r_iload_n rfl dc_14_85_4 ?_
    refine r_aload_n rfl dc_14_85_5 ?_
    refine q_get (v := .int (nI ns)) rx_320 hM (congrArg (fun z => some (Value.int z)) (h5)) dc_14_85_6 ?_
    refine r_ncge (t := 46) (by omega) (by omega) (by decide) dc_14_85_9 (fun c_9 => ?_) (fun c_9 => ?_)
    · skip
      refine r_iload_n rfl dc_14_85_46 ?_
      refine r_iret rfl dc_14_85_47 ?_
      rw [hi_m]
      first | rfl | simp [sp_pby sg ns x]
    · omega
  · intro m h_m ih_m acc hi_m
    show mm_Ru 0 (13, 4, false, prog_14_method_85_code, some .int) 4 [(3, .int (nI m)), (2, .int acc), (0, .ref 100), (1, .int x)] [] (rf_mk M io sg) (fun z => z = ((some (.int (sp_pby sg ns x)), rf_mk M io sg)))
    refine r_iload_n rfl dc_14_85_4 ?_
    refine r_aload_n rfl dc_14_85_5 ?_
    refine q_get (v := .int (nI ns)) rx_320 hM (congrArg (fun z => some (Value.int z)) (h5)) dc_14_85_6 ?_
    refine r_ncge (t := 46) (by omega) (by omega) (by decide) dc_14_85_9 (fun c_9 => ?_) (fun c_9 => ?_)
    · omega
    · skip
      refine r_iload_n rfl dc_14_85_12 ?_
      refine r_aload_n rfl dc_14_85_13 ?_
      refine q_get (v := .ref 138) rx_123 hM rfl dc_14_85_14 ?_
      refine r_iload_n rfl dc_14_85_17 ?_
      refine q_ild (e := m) (v := sg 56 m) (by decide) (by decide) hM rfl (show m < 16 by omega) (by omega) (rfl) dc_14_85_18 ?_
      refine r_iconst (v := nI 1) (by decide) dc_14_85_19 ?_
      refine r_icne (t := 37) (by decide) dc_14_85_20 (fun c_20 => ?_) (fun c_20 => ?_)
      · skip
        refine r_iconst (v := nI 0) (by decide) dc_14_85_37 ?_
        refine r_iadd (v := acc + (nI 0)) (rfl) dc_14_85_38 ?_
        refine r_istore_n (ls' := [(2, .int (acc + (nI 0))), (3, .int (nI m)), (0, .ref 100), (1, .int x)]) (by decide) rfl dc_14_85_39 ?_
        refine r_iinc (x := nI m) (v := nI (m + 1)) (ls' := [(3, .int (nI (m + 1))), (2, .int (acc + (nI 0))), (0, .ref 100), (1, .int x)]) rfl (nI_1 _) (by decide) rfl dc_14_85_40 ?_
        refine r_goto (t := 4) (by decide) dc_14_85_43 ?_
        exact ih_m (acc + (nI 0)) (by simp [sp_S, hi_m, nI_add0, c_9, c_20])
      · skip
        refine r_aload_n rfl dc_14_85_23 ?_
        refine q_get (v := .ref 140) rx_129 hM rfl dc_14_85_24 ?_
        refine r_iload_n rfl dc_14_85_27 ?_
        refine q_ild (e := m) (v := sg 58 m) (by decide) (by decide) hM rfl (show m < 16 by omega) (by omega) (rfl) dc_14_85_28 ?_
        refine r_iload_n rfl dc_14_85_29 ?_
        refine r_icne (t := 37) (by decide) dc_14_85_30 (fun c_30 => ?_) (fun c_30 => ?_)
        · skip
          refine r_iconst (v := nI 0) (by decide) dc_14_85_37 ?_
          refine r_iadd (v := acc + (nI 0)) (rfl) dc_14_85_38 ?_
          refine r_istore_n (ls' := [(2, .int (acc + (nI 0))), (3, .int (nI m)), (0, .ref 100), (1, .int x)]) (by decide) rfl dc_14_85_39 ?_
          refine r_iinc (x := nI m) (v := nI (m + 1)) (ls' := [(3, .int (nI (m + 1))), (2, .int (acc + (nI 0))), (0, .ref 100), (1, .int x)]) rfl (nI_1 _) (by decide) rfl dc_14_85_40 ?_
          refine r_goto (t := 4) (by decide) dc_14_85_43 ?_
          exact ih_m (acc + (nI 0)) (by simp [sp_S, hi_m, nI_add0, c_9, c_20, c_30])
        · skip
          refine r_iconst (v := nI 1) (by decide) dc_14_85_33 ?_
          refine r_goto (t := 38) (by decide) dc_14_85_34 ?_
          refine r_iadd (v := acc + (nI 1)) (rfl) dc_14_85_38 ?_
          refine r_istore_n (ls' := [(2, .int (acc + (nI 1))), (3, .int (nI m)), (0, .ref 100), (1, .int x)]) (by decide) rfl dc_14_85_39 ?_
          refine r_iinc (x := nI m) (v := nI (m + 1)) (ls' := [(3, .int (nI (m + 1))), (2, .int (acc + (nI 1))), (0, .ref 100), (1, .int x)]) rfl (nI_1 _) (by decide) rfl dc_14_85_40 ?_
          refine r_goto (t := 4) (by decide) dc_14_85_43 ?_
          exact ih_m (acc + (nI 1)) (by simp [sp_S, hi_m, nI_add0, c_9, c_20, c_30])
def sp_gof (sg : Nat → Nat → Int32) (ns : Nat) (x h : Int32) : Int32 := sp_sum (fun s => if sg 56 s = nI 1 ∧ sg 58 s = x ∧ sg 51 s = h then nI 1 else nI 0) ns
set_option maxHeartbeats 4000000 in
theorem c_goingFrom (M : mH) (hM : 157 ≤ M.1) (io : Nat → Int32) (sg : Nat → Nat → Int32) (ns : Nat) (h5 : io 5 = nI ns) (hns : ns ≤ 16) (x h : Int32) : mm_Ev 1 232 [.ref 100, .int x, .int h] (rf_mk M io sg) ((some (.int (sp_gof sg ns x h)), rf_mk M io sg)) := by
  refine r_ev (by decide +kernel) (show (3 : Nat) ≤ mm_nL 232 by decide +kernel) ?_
  show mm_Ru 0 (13, 5, false, prog_14_method_46_code, some .int) 0 [(0, .ref 100), (1, .int x), (2, .int h)] [] (rf_mk M io sg) (fun z => z = ((some (.int (sp_gof sg ns x h)), rf_mk M io sg)))
  refine r_iconst (v := nI 0) (by decide) dc_14_46_0 ?_
  refine r_istore_n (ls' := [(3, .int (nI 0)), (0, .ref 100), (1, .int x), (2, .int h)]) (by decide) rfl dc_14_46_1 ?_
  refine r_iconst (v := nI 0) (by decide) dc_14_46_2 ?_
  refine r_istore (ls' := [(4, .int (nI 0)), (3, .int (nI 0)), (0, .ref 100), (1, .int x), (2, .int h)]) (by decide) rfl dc_14_46_3 ?_
  refine mm_cnt (P := fun m => ∀ (acc : Int32), (acc = sp_sum (fun s => if sg 56 s = nI 1 ∧ sg 58 s = x ∧ sg 51 s = h then nI 1 else nI 0) m) → mm_Ru 0 (13, 5, false, prog_14_method_46_code, some .int) 5 [(4, .int (nI m)), (3, .int acc), (0, .ref 100), (1, .int x), (2, .int h)] [] (rf_mk M io sg) (fun z => z = ((some (.int (sp_gof sg ns x h)), rf_mk M io sg)))) ns ?_ ?_ 0 (by omega) (nI 0) (rfl)
  · intro acc hi_m
    show mm_Ru 0 (13, 5, false, prog_14_method_46_code, some .int) 5 [(4, .int (nI ns)), (3, .int acc), (0, .ref 100), (1, .int x), (2, .int h)] [] (rf_mk M io sg) (fun z => z = ((some (.int (sp_gof sg ns x h)), rf_mk M io sg)))
    refine r_iload rfl dc_14_46_5 ?_
    refine r_aload_n rfl dc_14_46_7 ?_
    refine q_get (v := .int (nI ns)) rx_320 hM (congrArg (fun z => some (Value.int z)) (h5)) dc_14_46_8 ?_
    refine r_ncge (t := 61) (by omega) (by omega) (by decide) dc_14_46_11 (fun c_11 => ?_) (fun c_11 => ?_)
    · skip
      refine r_iload_n rfl dc_14_46_61 ?_
      refine r_iret rfl dc_14_46_62 ?_
      rw [hi_m]
      first | rfl | simp [sp_gof sg ns x h]
    · omega
  · intro m h_m ih_m acc hi_m
    show mm_Ru 0 (13, 5, false, prog_14_method_46_code, some .int) 5 [(4, .int (nI m)), (3, .int acc), (0, .ref 100), (1, .int x), (2, .int h)] [] (rf_mk M io sg) (fun z => z = ((some (.int (sp_gof sg ns x h)), rf_mk M io sg)))
    refine r_iload rfl dc_14_46_5 ?_
    refine r_aload_n rfl dc_14_46_7 ?_
    refine q_get (v := .int (nI ns)) rx_320 hM (congrArg (fun z => some (Value.int z)) (h5)) dc_14_46_8 ?_
    refine r_ncge (t := 61) (by omega) (by omega) (by decide) dc_14_46_11 (fun c_11 => ?_) (fun c_11 => ?_)
    · omega
    · skip
      refine r_iload_n rfl dc_14_46_14 ?_
      refine r_aload_n rfl dc_14_46_15 ?_
      refine q_get (v := .ref 138) rx_123 hM rfl dc_14_46_16 ?_
      refine r_iload rfl dc_14_46_19 ?_
      refine q_ild (e := m) (v := sg 56 m) (by decide) (by decide) hM rfl (show m < 16 by omega) (by omega) (rfl) dc_14_46_21 ?_
      refine r_iconst (v := nI 1) (by decide) dc_14_46_22 ?_
      refine r_icne (t := 52) (by decide) dc_14_46_23 (fun c_23 => ?_) (fun c_23 => ?_)
      · skip
        refine r_iconst (v := nI 0) (by decide) dc_14_46_52 ?_
        refine r_iadd (v := acc + (nI 0)) (rfl) dc_14_46_53 ?_
        refine r_istore_n (ls' := [(3, .int (acc + (nI 0))), (4, .int (nI m)), (0, .ref 100), (1, .int x), (2, .int h)]) (by decide) rfl dc_14_46_54 ?_
        refine r_iinc (x := nI m) (v := nI (m + 1)) (ls' := [(4, .int (nI (m + 1))), (3, .int (acc + (nI 0))), (0, .ref 100), (1, .int x), (2, .int h)]) rfl (nI_1 _) (by decide) rfl dc_14_46_55 ?_
        refine r_goto (t := 5) (by decide) dc_14_46_58 ?_
        exact ih_m (acc + (nI 0)) (by simp [sp_S, hi_m, nI_add0, c_11, c_23])
      · skip
        refine r_aload_n rfl dc_14_46_26 ?_
        refine q_get (v := .ref 140) rx_129 hM rfl dc_14_46_27 ?_
        refine r_iload rfl dc_14_46_30 ?_
        refine q_ild (e := m) (v := sg 58 m) (by decide) (by decide) hM rfl (show m < 16 by omega) (by omega) (rfl) dc_14_46_32 ?_
        refine r_iload_n rfl dc_14_46_33 ?_
        refine r_icne (t := 52) (by decide) dc_14_46_34 (fun c_34 => ?_) (fun c_34 => ?_)
        · skip
          refine r_iconst (v := nI 0) (by decide) dc_14_46_52 ?_
          refine r_iadd (v := acc + (nI 0)) (rfl) dc_14_46_53 ?_
          refine r_istore_n (ls' := [(3, .int (acc + (nI 0))), (4, .int (nI m)), (0, .ref 100), (1, .int x), (2, .int h)]) (by decide) rfl dc_14_46_54 ?_
          refine r_iinc (x := nI m) (v := nI (m + 1)) (ls' := [(4, .int (nI (m + 1))), (3, .int (acc + (nI 0))), (0, .ref 100), (1, .int x), (2, .int h)]) rfl (nI_1 _) (by decide) rfl dc_14_46_55 ?_
          refine r_goto (t := 5) (by decide) dc_14_46_58 ?_
          exact ih_m (acc + (nI 0)) (by simp [sp_S, hi_m, nI_add0, c_11, c_23, c_34])
        · skip
          refine r_aload_n rfl dc_14_46_37 ?_
          refine q_get (v := .ref 133) rx_108 hM rfl dc_14_46_38 ?_
          refine r_iload rfl dc_14_46_41 ?_
          refine q_ild (e := m) (v := sg 51 m) (by decide) (by decide) hM rfl (show m < 16 by omega) (by omega) (rfl) dc_14_46_43 ?_
          refine r_iload_n rfl dc_14_46_44 ?_
          refine r_icne (t := 52) (by decide) dc_14_46_45 (fun c_45 => ?_) (fun c_45 => ?_)
          · skip
            refine r_iconst (v := nI 0) (by decide) dc_14_46_52 ?_
            refine r_iadd (v := acc + (nI 0)) (rfl) dc_14_46_53 ?_
            refine r_istore_n (ls' := [(3, .int (acc + (nI 0))), (4, .int (nI m)), (0, .ref 100), (1, .int x), (2, .int h)]) (by decide) rfl dc_14_46_54 ?_
            refine r_iinc (x := nI m) (v := nI (m + 1)) (ls' := [(4, .int (nI (m + 1))), (3, .int (acc + (nI 0))), (0, .ref 100), (1, .int x), (2, .int h)]) rfl (nI_1 _) (by decide) rfl dc_14_46_55 ?_
            refine r_goto (t := 5) (by decide) dc_14_46_58 ?_
            exact ih_m (acc + (nI 0)) (by simp [sp_S, hi_m, nI_add0, c_11, c_23, c_34, c_45])
          · skip
            refine r_iconst (v := nI 1) (by decide) dc_14_46_48 ?_
            refine r_goto (t := 53) (by decide) dc_14_46_49 ?_
            refine r_iadd (v := acc + (nI 1)) (rfl) dc_14_46_53 ?_
            refine r_istore_n (ls' := [(3, .int (acc + (nI 1))), (4, .int (nI m)), (0, .ref 100), (1, .int x), (2, .int h)]) (by decide) rfl dc_14_46_54 ?_
            refine r_iinc (x := nI m) (v := nI (m + 1)) (ls' := [(4, .int (nI (m + 1))), (3, .int (acc + (nI 1))), (0, .ref 100), (1, .int x), (2, .int h)]) rfl (nI_1 _) (by decide) rfl dc_14_46_55 ?_
            refine r_goto (t := 5) (by decide) dc_14_46_58 ?_
            exact ih_m (acc + (nI 1)) (by simp [sp_S, hi_m, nI_add0, c_11, c_23, c_34, c_45])
def sp_bal (sg : Nat → Nat → Int32) (ns x : Nat) : Int32 := sp_sum (fun s => if sg 58 s = nI x ∧ (sg 56 s = nI 1 ∨ sg 56 s = nI 3) then (if sg 51 s = sg 27 x then nI 1 else -1) else nI 0) ns
set_option maxHeartbeats 4000000 in
theorem c_balanceOf (M : mH) (hM : 157 ≤ M.1) (io : Nat → Int32) (sg : Nat → Nat → Int32) (ns : Nat) (h5 : io 5 = nI ns) (hns : ns ≤ 16) (x : Nat) (hx : x < 12) : mm_Ev 1 231 [.ref 100, .int (nI x)] (rf_mk M io sg) ((some (.int (sp_bal sg ns x)), rf_mk M io sg)) := by
  refine r_ev (by decide +kernel) (show (2 : Nat) ≤ mm_nL 231 by decide +kernel) ?_
  show mm_Ru 0 (13, 4, false, prog_14_method_45_code, some .int) 0 [(0, .ref 100), (1, .int (nI x))] [] (rf_mk M io sg) (fun z => z = ((some (.int (sp_bal sg ns x)), rf_mk M io sg)))
  refine r_iconst (v := nI 0) (by decide) dc_14_45_0 ?_
  refine r_istore_n (ls' := [(2, .int (nI 0)), (0, .ref 100), (1, .int (nI x))]) (by decide) rfl dc_14_45_1 ?_
  refine r_iconst (v := nI 0) (by decide) dc_14_45_2 ?_
  refine r_istore_n (ls' := [(3, .int (nI 0)), (2, .int (nI 0)), (0, .ref 100), (1, .int (nI x))]) (by decide) rfl dc_14_45_3 ?_
  refine mm_cnt (P := fun m => ∀ (acc : Int32), (acc = sp_sum (fun s => if sg 58 s = nI x ∧ (sg 56 s = nI 1 ∨ sg 56 s = nI 3) then (if sg 51 s = sg 27 x then nI 1 else -1) else nI 0) m) → mm_Ru 0 (13, 4, false, prog_14_method_45_code, some .int) 4 [(3, .int (nI m)), (2, .int acc), (0, .ref 100), (1, .int (nI x))] [] (rf_mk M io sg) (fun z => z = ((some (.int (sp_bal sg ns x)), rf_mk M io sg)))) ns ?_ ?_ 0 (by omega) (nI 0) (rfl)
  · intro acc hi_m
    show mm_Ru 0 (13, 4, false, prog_14_method_45_code, some .int) 4 [(3, .int (nI ns)), (2, .int acc), (0, .ref 100), (1, .int (nI x))] [] (rf_mk M io sg) (fun z => z = ((some (.int (sp_bal sg ns x)), rf_mk M io sg)))
    refine r_iload_n rfl dc_14_45_4 ?_
    refine r_aload_n rfl dc_14_45_5 ?_
    refine q_get (v := .int (nI ns)) rx_320 hM (congrArg (fun z => some (Value.int z)) (h5)) dc_14_45_6 ?_
    refine r_ncge (t := 74) (by omega) (by omega) (by decide) dc_14_45_9 (fun c_9 => ?_) (fun c_9 => ?_)
    · skip
      refine r_iload_n rfl dc_14_45_74 ?_
      refine r_iret rfl dc_14_45_75 ?_
      rw [hi_m]
      first | rfl | simp [sp_bal sg ns x]
    · omega
  · intro m h_m ih_m acc hi_m
    show mm_Ru 0 (13, 4, false, prog_14_method_45_code, some .int) 4 [(3, .int (nI m)), (2, .int acc), (0, .ref 100), (1, .int (nI x))] [] (rf_mk M io sg) (fun z => z = ((some (.int (sp_bal sg ns x)), rf_mk M io sg)))
    refine r_iload_n rfl dc_14_45_4 ?_
    refine r_aload_n rfl dc_14_45_5 ?_
    refine q_get (v := .int (nI ns)) rx_320 hM (congrArg (fun z => some (Value.int z)) (h5)) dc_14_45_6 ?_
    refine r_ncge (t := 74) (by omega) (by omega) (by decide) dc_14_45_9 (fun c_9 => ?_) (fun c_9 => ?_)
    · omega
    · skip
      refine r_aload_n rfl dc_14_45_12 ?_
      refine q_get (v := .ref 140) rx_129 hM rfl dc_14_45_13 ?_
      refine r_iload_n rfl dc_14_45_16 ?_
      refine q_ild (e := m) (v := sg 58 m) (by decide) (by decide) hM rfl (show m < 16 by omega) (by omega) (rfl) dc_14_45_17 ?_
      refine r_iload_n rfl dc_14_45_18 ?_
      refine r_icne (t := 68) (by decide) dc_14_45_19 (fun c_19 => ?_) (fun c_19 => ?_)
      · skip
        refine r_iinc (x := nI m) (v := nI (m + 1)) (ls' := [(3, .int (nI (m + 1))), (2, .int acc), (0, .ref 100), (1, .int (nI x))]) rfl (nI_1 _) (by decide) rfl dc_14_45_68 ?_
        refine r_goto (t := 4) (by decide) dc_14_45_71 ?_
        exact ih_m acc (by simp [sp_S, hi_m, nI_add0, c_9, c_19])
      · skip
        refine r_aload_n rfl dc_14_45_22 ?_
        refine q_get (v := .ref 138) rx_123 hM rfl dc_14_45_23 ?_
        refine r_iload_n rfl dc_14_45_26 ?_
        refine q_ild (e := m) (v := sg 56 m) (by decide) (by decide) hM rfl (show m < 16 by omega) (by omega) (rfl) dc_14_45_27 ?_
        refine r_iconst (v := nI 1) (by decide) dc_14_45_28 ?_
        refine r_iceq (t := 45) (by decide) dc_14_45_29 (fun c_29 => ?_) (fun c_29 => ?_)
        · skip
          refine r_iload_n rfl dc_14_45_45 ?_
          refine r_aload_n rfl dc_14_45_46 ?_
          refine q_get (v := .ref 133) rx_108 hM rfl dc_14_45_47 ?_
          refine r_iload_n rfl dc_14_45_50 ?_
          refine q_ild (e := m) (v := sg 51 m) (by decide) (by decide) hM rfl (show m < 16 by omega) (by omega) (rfl) dc_14_45_51 ?_
          refine r_aload_n rfl dc_14_45_52 ?_
          refine q_get (v := .ref 118) rx_63 hM rfl dc_14_45_53 ?_
          refine r_iload_n rfl dc_14_45_56 ?_
          refine q_ild (e := x) (v := sg 27 x) (by decide) (by decide) hM rfl (show x < 12 by omega) (by omega) (rfl) dc_14_45_57 ?_
          refine r_icne (t := 65) (by decide) dc_14_45_58 (fun c_58 => ?_) (fun c_58 => ?_)
          · skip
            refine r_iconst (v := -1) (by decide) dc_14_45_65 ?_
            refine r_iadd (v := acc + ((-1))) (rfl) dc_14_45_66 ?_
            refine r_istore_n (ls' := [(2, .int (acc + ((-1)))), (3, .int (nI m)), (0, .ref 100), (1, .int (nI x))]) (by decide) rfl dc_14_45_67 ?_
            refine r_iinc (x := nI m) (v := nI (m + 1)) (ls' := [(3, .int (nI (m + 1))), (2, .int (acc + ((-1)))), (0, .ref 100), (1, .int (nI x))]) rfl (nI_1 _) (by decide) rfl dc_14_45_68 ?_
            refine r_goto (t := 4) (by decide) dc_14_45_71 ?_
            exact ih_m (acc + ((-1))) (by simp [sp_S, hi_m, nI_add0, c_9, c_19, c_29, c_58])
          · skip
            refine r_iconst (v := nI 1) (by decide) dc_14_45_61 ?_
            refine r_goto (t := 66) (by decide) dc_14_45_62 ?_
            refine r_iadd (v := acc + (nI 1)) (rfl) dc_14_45_66 ?_
            refine r_istore_n (ls' := [(2, .int (acc + (nI 1))), (3, .int (nI m)), (0, .ref 100), (1, .int (nI x))]) (by decide) rfl dc_14_45_67 ?_
            refine r_iinc (x := nI m) (v := nI (m + 1)) (ls' := [(3, .int (nI (m + 1))), (2, .int (acc + (nI 1))), (0, .ref 100), (1, .int (nI x))]) rfl (nI_1 _) (by decide) rfl dc_14_45_68 ?_
            refine r_goto (t := 4) (by decide) dc_14_45_71 ?_
            exact ih_m (acc + (nI 1)) (by simp [sp_S, hi_m, nI_add0, c_9, c_19, c_29, c_58])
        · skip
          refine r_aload_n rfl dc_14_45_32 ?_
          refine q_get (v := .ref 138) rx_123 hM rfl dc_14_45_33 ?_
          refine r_iload_n rfl dc_14_45_36 ?_
          refine q_ild (e := m) (v := sg 56 m) (by decide) (by decide) hM rfl (show m < 16 by omega) (by omega) (rfl) dc_14_45_37 ?_
          refine r_iconst (v := nI 3) (by decide) dc_14_45_38 ?_
          refine r_iceq (t := 45) (by decide) dc_14_45_39 (fun c_39 => ?_) (fun c_39 => ?_)
          · skip
            refine r_iload_n rfl dc_14_45_45 ?_
            refine r_aload_n rfl dc_14_45_46 ?_
            refine q_get (v := .ref 133) rx_108 hM rfl dc_14_45_47 ?_
            refine r_iload_n rfl dc_14_45_50 ?_
            refine q_ild (e := m) (v := sg 51 m) (by decide) (by decide) hM rfl (show m < 16 by omega) (by omega) (rfl) dc_14_45_51 ?_
            refine r_aload_n rfl dc_14_45_52 ?_
            refine q_get (v := .ref 118) rx_63 hM rfl dc_14_45_53 ?_
            refine r_iload_n rfl dc_14_45_56 ?_
            refine q_ild (e := x) (v := sg 27 x) (by decide) (by decide) hM rfl (show x < 12 by omega) (by omega) (rfl) dc_14_45_57 ?_
            refine r_icne (t := 65) (by decide) dc_14_45_58 (fun c_58 => ?_) (fun c_58 => ?_)
            · skip
              refine r_iconst (v := -1) (by decide) dc_14_45_65 ?_
              refine r_iadd (v := acc + ((-1))) (rfl) dc_14_45_66 ?_
              refine r_istore_n (ls' := [(2, .int (acc + ((-1)))), (3, .int (nI m)), (0, .ref 100), (1, .int (nI x))]) (by decide) rfl dc_14_45_67 ?_
              refine r_iinc (x := nI m) (v := nI (m + 1)) (ls' := [(3, .int (nI (m + 1))), (2, .int (acc + ((-1)))), (0, .ref 100), (1, .int (nI x))]) rfl (nI_1 _) (by decide) rfl dc_14_45_68 ?_
              refine r_goto (t := 4) (by decide) dc_14_45_71 ?_
              exact ih_m (acc + ((-1))) (by simp [sp_S, hi_m, nI_add0, c_9, c_19, c_29, c_39, c_58])
            · skip
              refine r_iconst (v := nI 1) (by decide) dc_14_45_61 ?_
              refine r_goto (t := 66) (by decide) dc_14_45_62 ?_
              refine r_iadd (v := acc + (nI 1)) (rfl) dc_14_45_66 ?_
              refine r_istore_n (ls' := [(2, .int (acc + (nI 1))), (3, .int (nI m)), (0, .ref 100), (1, .int (nI x))]) (by decide) rfl dc_14_45_67 ?_
              refine r_iinc (x := nI m) (v := nI (m + 1)) (ls' := [(3, .int (nI (m + 1))), (2, .int (acc + (nI 1))), (0, .ref 100), (1, .int (nI x))]) rfl (nI_1 _) (by decide) rfl dc_14_45_68 ?_
              refine r_goto (t := 4) (by decide) dc_14_45_71 ?_
              exact ih_m (acc + (nI 1)) (by simp [sp_S, hi_m, nI_add0, c_9, c_19, c_29, c_39, c_58])
          · skip
            refine r_goto (t := 68) (by decide) dc_14_45_42 ?_
            refine r_iinc (x := nI m) (v := nI (m + 1)) (ls' := [(3, .int (nI (m + 1))), (2, .int acc), (0, .ref 100), (1, .int (nI x))]) rfl (nI_1 _) (by decide) rfl dc_14_45_68 ?_
            refine r_goto (t := 4) (by decide) dc_14_45_71 ?_
            exact ih_m acc (by simp [sp_S, hi_m, nI_add0, c_9, c_19, c_29, c_39])
def sp_bits (x : Int32) : Int32 := sp_sum (fun k => x >>> (nI k &&& 31) &&& nI 1) 12
set_option maxHeartbeats 4000000 in
theorem c_bits (N : mH) (x : Int32) : mm_Ev 1 254 [.int x] (N) ((some (.int (sp_bits x)), N)) := by
  refine r_ev (by decide +kernel) (show (1 : Nat) ≤ mm_nL 254 by decide +kernel) ?_
  show mm_Ru 0 (13, 3, false, prog_14_method_67_code, some .int) 0 [(0, .int x)] [] (N) (fun z => z = ((some (.int (sp_bits x)), N)))
  refine r_iconst (v := nI 0) (by decide) dc_14_67_0 ?_
  refine r_istore_n (ls' := [(1, .int (nI 0)), (0, .int x)]) (by decide) rfl dc_14_67_1 ?_
  refine r_iconst (v := nI 0) (by decide) dc_14_67_2 ?_
  refine r_istore_n (ls' := [(2, .int (nI 0)), (1, .int (nI 0)), (0, .int x)]) (by decide) rfl dc_14_67_3 ?_
  refine mm_cnt (P := fun m => ∀ (acc : Int32), (acc = sp_sum (fun k => x >>> (nI k &&& 31) &&& nI 1) m) → mm_Ru 0 (13, 3, false, prog_14_method_67_code, some .int) 4 [(2, .int (nI m)), (1, .int acc), (0, .int x)] [] (N) (fun z => z = ((some (.int (sp_bits x)), N)))) 12 ?_ ?_ 0 (by omega) (nI 0) (rfl)
  · intro acc hi_m
    show mm_Ru 0 (13, 3, false, prog_14_method_67_code, some .int) 4 [(2, .int (nI 12)), (1, .int acc), (0, .int x)] [] (N) (fun z => z = ((some (.int (sp_bits x)), N)))
    refine r_iload_n rfl dc_14_67_4 ?_
    refine r_bipush (v := nI 12) (by decide) dc_14_67_5 ?_
    refine r_ncge (t := 24) (by omega) (by omega) (by decide) dc_14_67_7 (fun c_7 => ?_) (fun c_7 => ?_)
    · skip
      refine r_iload_n rfl dc_14_67_24 ?_
      refine r_iret rfl dc_14_67_25 ?_
      rw [hi_m]
      rfl
    · omega
  · intro m h_m ih_m acc hi_m
    show mm_Ru 0 (13, 3, false, prog_14_method_67_code, some .int) 4 [(2, .int (nI m)), (1, .int acc), (0, .int x)] [] (N) (fun z => z = ((some (.int (sp_bits x)), N)))
    refine r_iload_n rfl dc_14_67_4 ?_
    refine r_bipush (v := nI 12) (by decide) dc_14_67_5 ?_
    refine r_ncge (t := 24) (by omega) (by omega) (by decide) dc_14_67_7 (fun c_7 => ?_) (fun c_7 => ?_)
    · omega
    · skip
      refine r_iload_n rfl dc_14_67_10 ?_
      refine r_iload_n rfl dc_14_67_11 ?_
      refine r_iload_n rfl dc_14_67_12 ?_
      refine r_ishr (v := x >>> (nI m &&& 31)) (rfl) dc_14_67_13 ?_
      refine r_iconst (v := nI 1) (by decide) dc_14_67_14 ?_
      refine r_iand (v := (x >>> (nI m &&& 31)) &&& (nI 1)) (rfl) dc_14_67_15 ?_
      refine r_iadd (v := acc + ((x >>> (nI m &&& 31)) &&& (nI 1))) (rfl) dc_14_67_16 ?_
      refine r_istore_n (ls' := [(1, .int (acc + ((x >>> (nI m &&& 31)) &&& (nI 1)))), (2, .int (nI m)), (0, .int x)]) (by decide) rfl dc_14_67_17 ?_
      refine r_iinc (x := nI m) (v := nI (m + 1)) (ls' := [(2, .int (nI (m + 1))), (1, .int (acc + ((x >>> (nI m &&& 31)) &&& (nI 1)))), (0, .int x)]) rfl (nI_1 _) (by decide) rfl dc_14_67_18 ?_
      refine r_goto (t := 4) (by decide) dc_14_67_21 ?_
      exact ih_m (acc + ((x >>> (nI m &&& 31)) &&& (nI 1))) (by rw [sp_S, hi_m])
def sp_kn (sg : Nat → Nat → Int32) (s w t : Int32) : Nat → Int32
  | 0 => -1
  | n + 1 => if sg 78 n = s ∧ sg 79 n = w ∧ sg 81 n ≤ t then sg 80 n else sp_kn sg s w t n
set_option maxHeartbeats 4000000 in
theorem c_knownOf (M : mH) (hM : 157 ≤ M.1) (io : Nat → Int32) (sg : Nat → Nat → Int32) (nf : Nat) (h7 : io 7 = nI nf) (hnf : nf ≤ 200) (s w t : Int32) : mm_Ev 1 258 [.ref 100, .int s, .int w, .int t] (rf_mk M io sg) ((some (.int (sp_kn sg s w t nf)), rf_mk M io sg)) := by
  refine r_ev (by decide +kernel) (show (4 : Nat) ≤ mm_nL 258 by decide +kernel) ?_
  show mm_Ru 0 (13, 6, false, prog_14_method_73_code, some .int) 0 [(0, .ref 100), (1, .int s), (2, .int w), (3, .int t)] [] (rf_mk M io sg) (fun z => z = ((some (.int (sp_kn sg s w t nf)), rf_mk M io sg)))
  refine r_iconst (v := -1) (by decide) dc_14_73_0 ?_
  refine r_istore (ls' := [(4, .int ((-1))), (0, .ref 100), (1, .int s), (2, .int w), (3, .int t)]) (by decide) rfl dc_14_73_1 ?_
  refine r_iconst (v := nI 0) (by decide) dc_14_73_3 ?_
  refine r_istore (ls' := [(5, .int (nI 0)), (4, .int ((-1))), (0, .ref 100), (1, .int s), (2, .int w), (3, .int t)]) (by decide) rfl dc_14_73_4 ?_
  refine mm_cnt (P := fun m => ∀ (acc : Int32), (acc = sp_kn sg s w t m) → mm_Ru 0 (13, 6, false, prog_14_method_73_code, some .int) 6 [(5, .int (nI m)), (4, .int acc), (0, .ref 100), (1, .int s), (2, .int w), (3, .int t)] [] (rf_mk M io sg) (fun z => z = ((some (.int (sp_kn sg s w t nf)), rf_mk M io sg)))) nf ?_ ?_ 0 (by omega) ((-1)) (rfl)
  · intro acc hi_m
    show mm_Ru 0 (13, 6, false, prog_14_method_73_code, some .int) 6 [(5, .int (nI nf)), (4, .int acc), (0, .ref 100), (1, .int s), (2, .int w), (3, .int t)] [] (rf_mk M io sg) (fun z => z = ((some (.int (sp_kn sg s w t nf)), rf_mk M io sg)))
    refine r_iload rfl dc_14_73_6 ?_
    refine r_aload_n rfl dc_14_73_8 ?_
    refine q_get (v := .int (nI nf)) rx_419 hM (congrArg (fun z => some (Value.int z)) (h7)) dc_14_73_9 ?_
    refine r_ncge (t := 63) (by omega) (by omega) (by decide) dc_14_73_12 (fun c_12 => ?_) (fun c_12 => ?_)
    · skip
      refine r_iload rfl dc_14_73_63 ?_
      refine r_iret rfl dc_14_73_65 ?_
      rw [hi_m]
    · omega
  · intro m h_m ih_m acc hi_m
    show mm_Ru 0 (13, 6, false, prog_14_method_73_code, some .int) 6 [(5, .int (nI m)), (4, .int acc), (0, .ref 100), (1, .int s), (2, .int w), (3, .int t)] [] (rf_mk M io sg) (fun z => z = ((some (.int (sp_kn sg s w t nf)), rf_mk M io sg)))
    refine r_iload rfl dc_14_73_6 ?_
    refine r_aload_n rfl dc_14_73_8 ?_
    refine q_get (v := .int (nI nf)) rx_419 hM (congrArg (fun z => some (Value.int z)) (h7)) dc_14_73_9 ?_
    refine r_ncge (t := 63) (by omega) (by omega) (by decide) dc_14_73_12 (fun c_12 => ?_) (fun c_12 => ?_)
    · omega
    · skip
      refine r_aload_n rfl dc_14_73_15 ?_
      refine q_get (v := .ref 153) rx_168 hM rfl dc_14_73_16 ?_
      refine r_iload rfl dc_14_73_19 ?_
      refine q_ild (e := m) (v := sg 78 m) (by decide) (by decide) hM rfl (show m < 200 by omega) (by omega) (rfl) dc_14_73_21 ?_
      refine r_iload_n rfl dc_14_73_22 ?_
      refine r_icne (t := 57) (by decide) dc_14_73_23 (fun c_23 => ?_) (fun c_23 => ?_)
      · skip
        refine r_iinc (x := nI m) (v := nI (m + 1)) (ls' := [(5, .int (nI (m + 1))), (4, .int acc), (0, .ref 100), (1, .int s), (2, .int w), (3, .int t)]) rfl (nI_1 _) (by decide) rfl dc_14_73_57 ?_
        refine r_goto (t := 6) (by decide) dc_14_73_60 ?_
        exact ih_m acc (by unfold sp_kn; rw [if_neg (fun q => c_23 q.1)]; exact hi_m)
      · skip
        refine r_aload_n rfl dc_14_73_26 ?_
        refine q_get (v := .ref 154) rx_171 hM rfl dc_14_73_27 ?_
        refine r_iload rfl dc_14_73_30 ?_
        refine q_ild (e := m) (v := sg 79 m) (by decide) (by decide) hM rfl (show m < 200 by omega) (by omega) (rfl) dc_14_73_32 ?_
        refine r_iload_n rfl dc_14_73_33 ?_
        refine r_icne (t := 57) (by decide) dc_14_73_34 (fun c_34 => ?_) (fun c_34 => ?_)
        · skip
          refine r_iinc (x := nI m) (v := nI (m + 1)) (ls' := [(5, .int (nI (m + 1))), (4, .int acc), (0, .ref 100), (1, .int s), (2, .int w), (3, .int t)]) rfl (nI_1 _) (by decide) rfl dc_14_73_57 ?_
          refine r_goto (t := 6) (by decide) dc_14_73_60 ?_
          exact ih_m acc (by unfold sp_kn; rw [if_neg (fun q => c_34 q.2.1)]; exact hi_m)
        · skip
          refine r_aload_n rfl dc_14_73_37 ?_
          refine q_get (v := .ref 156) rx_177 hM rfl dc_14_73_38 ?_
          refine r_iload rfl dc_14_73_41 ?_
          refine q_ild (e := m) (v := sg 81 m) (by decide) (by decide) hM rfl (show m < 200 by omega) (by omega) (rfl) dc_14_73_43 ?_
          refine r_iload_n rfl dc_14_73_44 ?_
          refine r_icgt (t := 57) (by decide) dc_14_73_45 (fun c_45 => ?_) (fun c_45 => ?_)
          · skip
            refine r_iinc (x := nI m) (v := nI (m + 1)) (ls' := [(5, .int (nI (m + 1))), (4, .int acc), (0, .ref 100), (1, .int s), (2, .int w), (3, .int t)]) rfl (nI_1 _) (by decide) rfl dc_14_73_57 ?_
            refine r_goto (t := 6) (by decide) dc_14_73_60 ?_
            exact ih_m acc (by unfold sp_kn; rw [if_neg (fun q => absurd c_45 (Int32.not_lt.mpr q.2.2))]; exact hi_m)
          · skip
            refine r_aload_n rfl dc_14_73_48 ?_
            refine q_get (v := .ref 155) rx_174 hM rfl dc_14_73_49 ?_
            refine r_iload rfl dc_14_73_52 ?_
            refine q_ild (e := m) (v := sg 80 m) (by decide) (by decide) hM rfl (show m < 200 by omega) (by omega) (rfl) dc_14_73_54 ?_
            refine r_istore (ls' := [(4, .int (sg 80 m)), (5, .int (nI m)), (0, .ref 100), (1, .int s), (2, .int w), (3, .int t)]) (by decide) rfl dc_14_73_55 ?_
            refine r_iinc (x := nI m) (v := nI (m + 1)) (ls' := [(5, .int (nI (m + 1))), (4, .int (sg 80 m)), (0, .ref 100), (1, .int s), (2, .int w), (3, .int t)]) rfl (nI_1 _) (by decide) rfl dc_14_73_57 ?_
            refine r_goto (t := 6) (by decide) dc_14_73_60 ?_
            exact ih_m (sg 80 m) (by unfold sp_kn; rw [if_pos ⟨c_23, c_34, Int32.not_lt.mp c_45⟩])
/-- the first n FACTS of s are nobody's any more -/
def sp_fo (f : Nat → Int32) (s : Int32) : Nat → Nat → Int32
  | 0 => f
  | n + 1 => if f n = s then upd (sp_fo f s n) n (-1) else sp_fo f s n
theorem sp_fo_S (f : Nat → Int32) (s : Int32) (n : Nat) : sp_fo f s (n + 1) = if f n = s then upd (sp_fo f s n) n (-1) else sp_fo f s n := rfl
theorem sp_fo_hi (f : Nat → Int32) (s : Int32) : ∀ n j, n ≤ j → sp_fo f s n j = f j
  | 0, _, _ => rfl
  | n + 1, j, h => by
    unfold sp_fo
    split
    · rw [show upd (sp_fo f s n) n (-1) j = sp_fo f s n j from if_neg (by omega)]
      exact sp_fo_hi f s n j (by omega)
    · exact sp_fo_hi f s n j (by omega)
theorem va_up_id {α : Type} (f : Nat → α) (k : Nat) : va_up f k (f k) = f := by
  funext j
  unfold va_up
  split
  · rename_i h; rw [h]
  · rfl
set_option maxHeartbeats 4000000 in
theorem c_forgets (M : mH) (hM : 157 ≤ M.1) (io : Nat → Int32) (sg : Nat → Nat → Int32) (nf : Nat) (h7 : io 7 = nI nf) (hnf : nf ≤ 200) (s : Int32) : mm_Ev 1 245 [.ref 100, .int s] (rf_mk M io (va_up sg 78 (sp_fo (sg 78) s 0))) ((none, rf_mk M io (va_up sg 78 (sp_fo (sg 78) s nf)))) := by
  refine r_ev (by decide +kernel) (show (2 : Nat) ≤ mm_nL 245 by decide +kernel) ?_
  show mm_Ru 0 (13, 3, false, prog_14_method_70_code, none) 0 [(0, .ref 100), (1, .int s)] [] (rf_mk M io (va_up sg 78 (sp_fo (sg 78) s 0))) (fun z => z = ((none, rf_mk M io (va_up sg 78 (sp_fo (sg 78) s nf)))))
  refine r_iconst (v := nI 0) (by decide) dc_14_70_0 ?_
  refine r_istore_n (ls' := [(2, .int (nI 0)), (0, .ref 100), (1, .int s)]) (by decide) rfl dc_14_70_1 ?_
  refine mm_cnt (P := fun m => mm_Ru 0 (13, 3, false, prog_14_method_70_code, none) 2 [(2, .int (nI m)), (0, .ref 100), (1, .int s)] [] (rf_mk M io (va_up sg 78 (sp_fo (sg 78) s m))) (fun z => z = ((none, rf_mk M io (va_up sg 78 (sp_fo (sg 78) s nf)))))) nf ?_ ?_ 0 (by omega)
  · show mm_Ru 0 (13, 3, false, prog_14_method_70_code, none) 2 [(2, .int (nI nf)), (0, .ref 100), (1, .int s)] [] (rf_mk M io (va_up sg 78 (sp_fo (sg 78) s nf))) (fun z => z = ((none, rf_mk M io (va_up sg 78 (sp_fo (sg 78) s nf)))))
    refine r_iload_n rfl dc_14_70_2 ?_
    refine r_aload_n rfl dc_14_70_3 ?_
    refine q_get (v := .int (nI nf)) rx_419 hM (congrArg (fun z => some (Value.int z)) (h7)) dc_14_70_4 ?_
    refine r_ncge (t := 33) (by omega) (by omega) (by decide) dc_14_70_7 (fun c_7 => ?_) (fun c_7 => ?_)
    · skip
      refine r_vret rfl dc_14_70_33 ?_
      rfl
    · omega
  · intro m h_m ih_m 
    show mm_Ru 0 (13, 3, false, prog_14_method_70_code, none) 2 [(2, .int (nI m)), (0, .ref 100), (1, .int s)] [] (rf_mk M io (va_up sg 78 (sp_fo (sg 78) s m))) (fun z => z = ((none, rf_mk M io (va_up sg 78 (sp_fo (sg 78) s nf)))))
    refine r_iload_n rfl dc_14_70_2 ?_
    refine r_aload_n rfl dc_14_70_3 ?_
    refine q_get (v := .int (nI nf)) rx_419 hM (congrArg (fun z => some (Value.int z)) (h7)) dc_14_70_4 ?_
    refine r_ncge (t := 33) (by omega) (by omega) (by decide) dc_14_70_7 (fun c_7 => ?_) (fun c_7 => ?_)
    · omega
    · skip
      refine r_aload_n rfl dc_14_70_10 ?_
      refine q_get (v := .ref 153) rx_168 hM rfl dc_14_70_11 ?_
      refine r_iload_n rfl dc_14_70_14 ?_
      refine q_ild (e := m) (v := (va_up sg 78 (sp_fo (sg 78) s m)) 78 m) (by decide) (by decide) hM rfl (show m < 200 by omega) (by omega) (rfl) dc_14_70_15 ?_
      refine r_iload_n rfl dc_14_70_16 ?_
      refine r_icne (t := 27) (by decide) dc_14_70_17 (fun c_17 => ?_) (fun c_17 => ?_)
      · skip
        refine r_iinc (x := nI m) (v := nI (m + 1)) (ls' := [(2, .int (nI (m + 1))), (0, .ref 100), (1, .int s)]) rfl (nI_1 _) (by decide) rfl dc_14_70_27 ?_
        refine r_goto (t := 2) (by decide) dc_14_70_30 ?_
        have e17 : ¬ sg 78 m = s := fun q => c_17 ((sp_fo_hi (sg 78) s m m (Nat.le_refl _)).trans q)
        rw [sp_fo_S, if_neg e17] at ih_m
        exact ih_m
      · skip
        refine r_aload_n rfl dc_14_70_20 ?_
        refine q_get (v := .ref 153) rx_168 hM rfl dc_14_70_21 ?_
        refine r_iload_n rfl dc_14_70_24 ?_
        refine r_iconst (v := -1) (by decide) dc_14_70_25 ?_
        refine q_ist (e := m) (k := 78) (by decide) (by decide) hM rfl rfl (show m < 200 by omega) (by omega) dc_14_70_26 ?_
        refine r_iinc (x := nI m) (v := nI (m + 1)) (ls' := [(2, .int (nI (m + 1))), (0, .ref 100), (1, .int s)]) rfl (nI_1 _) (by decide) rfl dc_14_70_27 ?_
        refine r_goto (t := 2) (by decide) dc_14_70_30 ?_
        have e17 : sg 78 m = s := (sp_fo_hi (sg 78) s m m (Nat.le_refl _)).symm.trans c_17
        rw [sp_fo_S, if_pos e17, ← bx_uu sg 78 (sp_fo (sg 78) s m)] at ih_m
        exact ih_m
