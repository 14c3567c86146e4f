/-! the reference: plans, their pieces -/
theorem dc_14_52_0 : decode prog_14_method_52_code 0 = .ok (.aload_n 0, 1) := by decide +kernel
theorem dc_14_52_1 : decode prog_14_method_52_code 1 = .ok (.getfield 141, 3) := by decide +kernel
theorem dc_14_52_4 : decode prog_14_method_52_code 4 = .ok (.iload_n 1, 1) := by decide +kernel
theorem dc_14_52_5 : decode prog_14_method_52_code 5 = .ok (.iaload, 1) := by decide +kernel
theorem dc_14_52_6 : decode prog_14_method_52_code 6 = .ok (.istore_n 3, 1) := by decide +kernel
theorem dc_14_52_7 : decode prog_14_method_52_code 7 = .ok (.aload_n 0, 1) := by decide +kernel
theorem dc_14_52_8 : decode prog_14_method_52_code 8 = .ok (.getfield 123, 3) := by decide +kernel
theorem dc_14_52_11 : decode prog_14_method_52_code 11 = .ok (.iload_n 3, 1) := by decide +kernel
theorem dc_14_52_12 : decode prog_14_method_52_code 12 = .ok (.iload_n 2, 1) := by decide +kernel
theorem dc_14_52_13 : decode prog_14_method_52_code 13 = .ok (.iconst 4, 1) := by decide +kernel
theorem dc_14_52_14 : decode prog_14_method_52_code 14 = .ok (.if_icmp .ne 7, 3) := by decide +kernel
theorem dc_14_52_17 : decode prog_14_method_52_code 17 = .ok (.iconst 0, 1) := by decide +kernel
theorem dc_14_52_18 : decode prog_14_method_52_code 18 = .ok (.goto 4, 3) := by decide +kernel
theorem dc_14_52_21 : decode prog_14_method_52_code 21 = .ok (.iconst 1, 1) := by decide +kernel
theorem dc_14_52_22 : decode prog_14_method_52_code 22 = .ok (.iastore, 1) := by decide +kernel
theorem dc_14_52_23 : decode prog_14_method_52_code 23 = .ok (.aload_n 0, 1) := by decide +kernel
theorem dc_14_52_24 : decode prog_14_method_52_code 24 = .ok (.getfield 126, 3) := by decide +kernel
theorem dc_14_52_27 : decode prog_14_method_52_code 27 = .ok (.iload_n 3, 1) := by decide +kernel
theorem dc_14_52_28 : decode prog_14_method_52_code 28 = .ok (.iload_n 2, 1) := by decide +kernel
theorem dc_14_52_29 : decode prog_14_method_52_code 29 = .ok (.iconst 4, 1) := by decide +kernel
theorem dc_14_52_30 : decode prog_14_method_52_code 30 = .ok (.if_icmp .ne 7, 3) := by decide +kernel
theorem dc_14_52_33 : decode prog_14_method_52_code 33 = .ok (.iconst (-1), 1) := by decide +kernel
theorem dc_14_52_34 : decode prog_14_method_52_code 34 = .ok (.goto 13, 3) := by decide +kernel
theorem dc_14_52_37 : decode prog_14_method_52_code 37 = .ok (.aload_n 0, 1) := by decide +kernel
theorem dc_14_52_38 : decode prog_14_method_52_code 38 = .ok (.getfield 135, 3) := by decide +kernel
theorem dc_14_52_41 : decode prog_14_method_52_code 41 = .ok (.iconst 4, 1) := by decide +kernel
theorem dc_14_52_42 : decode prog_14_method_52_code 42 = .ok (.iload_n 3, 1) := by decide +kernel
theorem dc_14_52_43 : decode prog_14_method_52_code 43 = .ok (.imul, 1) := by decide +kernel
theorem dc_14_52_44 : decode prog_14_method_52_code 44 = .ok (.iload_n 2, 1) := by decide +kernel
theorem dc_14_52_45 : decode prog_14_method_52_code 45 = .ok (.iadd, 1) := by decide +kernel
theorem dc_14_52_46 : decode prog_14_method_52_code 46 = .ok (.iaload, 1) := by decide +kernel
theorem dc_14_52_47 : decode prog_14_method_52_code 47 = .ok (.iastore, 1) := by decide +kernel
theorem dc_14_52_48 : decode prog_14_method_52_code 48 = .ok (.aload_n 0, 1) := by decide +kernel
theorem dc_14_52_49 : decode prog_14_method_52_code 49 = .ok (.getfield 129, 3) := by decide +kernel
theorem dc_14_52_52 : decode prog_14_method_52_code 52 = .ok (.iload_n 3, 1) := by decide +kernel
theorem dc_14_52_53 : decode prog_14_method_52_code 53 = .ok (.iload_n 2, 1) := by decide +kernel
theorem dc_14_52_54 : decode prog_14_method_52_code 54 = .ok (.iconst 4, 1) := by decide +kernel
theorem dc_14_52_55 : decode prog_14_method_52_code 55 = .ok (.if_icmp .ne 7, 3) := by decide +kernel
theorem dc_14_52_58 : decode prog_14_method_52_code 58 = .ok (.iconst (-1), 1) := by decide +kernel
theorem dc_14_52_59 : decode prog_14_method_52_code 59 = .ok (.goto 13, 3) := by decide +kernel
theorem dc_14_52_62 : decode prog_14_method_52_code 62 = .ok (.aload_n 0, 1) := by decide +kernel
theorem dc_14_52_63 : decode prog_14_method_52_code 63 = .ok (.getfield 159, 3) := by decide +kernel
theorem dc_14_52_66 : decode prog_14_method_52_code 66 = .ok (.iconst 4, 1) := by decide +kernel
theorem dc_14_52_67 : decode prog_14_method_52_code 67 = .ok (.iload_n 3, 1) := by decide +kernel
theorem dc_14_52_68 : decode prog_14_method_52_code 68 = .ok (.imul, 1) := by decide +kernel
theorem dc_14_52_69 : decode prog_14_method_52_code 69 = .ok (.iload_n 2, 1) := by decide +kernel
theorem dc_14_52_70 : decode prog_14_method_52_code 70 = .ok (.iadd, 1) := by decide +kernel
theorem dc_14_52_71 : decode prog_14_method_52_code 71 = .ok (.iaload, 1) := by decide +kernel
theorem dc_14_52_72 : decode prog_14_method_52_code 72 = .ok (.iastore, 1) := by decide +kernel
theorem dc_14_52_73 : decode prog_14_method_52_code 73 = .ok (.return_, 1) := by decide +kernel
theorem dc_14_53_0 : decode prog_14_method_53_code 0 = .ok (.aload_n 0, 1) := by decide +kernel
theorem dc_14_53_1 : decode prog_14_method_53_code 1 = .ok (.getfield 123, 3) := by decide +kernel
theorem dc_14_53_4 : decode prog_14_method_53_code 4 = .ok (.aload_n 0, 1) := by decide +kernel
theorem dc_14_53_5 : decode prog_14_method_53_code 5 = .ok (.getfield 141, 3) := by decide +kernel
theorem dc_14_53_8 : decode prog_14_method_53_code 8 = .ok (.iload_n 1, 1) := by decide +kernel
theorem dc_14_53_9 : decode prog_14_method_53_code 9 = .ok (.iaload, 1) := by decide +kernel
theorem dc_14_53_10 : decode prog_14_method_53_code 10 = .ok (.aload_n 0, 1) := by decide +kernel
theorem dc_14_53_11 : decode prog_14_method_53_code 11 = .ok (.getfield 144, 3) := by decide +kernel
theorem dc_14_53_14 : decode prog_14_method_53_code 14 = .ok (.iload_n 1, 1) := by decide +kernel
theorem dc_14_53_15 : decode prog_14_method_53_code 15 = .ok (.iaload, 1) := by decide +kernel
theorem dc_14_53_16 : decode prog_14_method_53_code 16 = .ok (.iastore, 1) := by decide +kernel
theorem dc_14_53_17 : decode prog_14_method_53_code 17 = .ok (.aload_n 0, 1) := by decide +kernel
theorem dc_14_53_18 : decode prog_14_method_53_code 18 = .ok (.getfield 126, 3) := by decide +kernel
theorem dc_14_53_21 : decode prog_14_method_53_code 21 = .ok (.aload_n 0, 1) := by decide +kernel
theorem dc_14_53_22 : decode prog_14_method_53_code 22 = .ok (.getfield 141, 3) := by decide +kernel
theorem dc_14_53_25 : decode prog_14_method_53_code 25 = .ok (.iload_n 1, 1) := by decide +kernel
theorem dc_14_53_26 : decode prog_14_method_53_code 26 = .ok (.iaload, 1) := by decide +kernel
theorem dc_14_53_27 : decode prog_14_method_53_code 27 = .ok (.aload_n 0, 1) := by decide +kernel
theorem dc_14_53_28 : decode prog_14_method_53_code 28 = .ok (.getfield 147, 3) := by decide +kernel
theorem dc_14_53_31 : decode prog_14_method_53_code 31 = .ok (.iload_n 1, 1) := by decide +kernel
theorem dc_14_53_32 : decode prog_14_method_53_code 32 = .ok (.iaload, 1) := by decide +kernel
theorem dc_14_53_33 : decode prog_14_method_53_code 33 = .ok (.iastore, 1) := by decide +kernel
theorem dc_14_53_34 : decode prog_14_method_53_code 34 = .ok (.aload_n 0, 1) := by decide +kernel
theorem dc_14_53_35 : decode prog_14_method_53_code 35 = .ok (.getfield 129, 3) := by decide +kernel
theorem dc_14_53_38 : decode prog_14_method_53_code 38 = .ok (.aload_n 0, 1) := by decide +kernel
theorem dc_14_53_39 : decode prog_14_method_53_code 39 = .ok (.getfield 141, 3) := by decide +kernel
theorem dc_14_53_42 : decode prog_14_method_53_code 42 = .ok (.iload_n 1, 1) := by decide +kernel
theorem dc_14_53_43 : decode prog_14_method_53_code 43 = .ok (.iaload, 1) := by decide +kernel
theorem dc_14_53_44 : decode prog_14_method_53_code 44 = .ok (.aload_n 0, 1) := by decide +kernel
theorem dc_14_53_45 : decode prog_14_method_53_code 45 = .ok (.getfield 150, 3) := by decide +kernel
theorem dc_14_53_48 : decode prog_14_method_53_code 48 = .ok (.iload_n 1, 1) := by decide +kernel
theorem dc_14_53_49 : decode prog_14_method_53_code 49 = .ok (.iaload, 1) := by decide +kernel
theorem dc_14_53_50 : decode prog_14_method_53_code 50 = .ok (.iastore, 1) := by decide +kernel
theorem dc_14_53_51 : decode prog_14_method_53_code 51 = .ok (.return_, 1) := by decide +kernel
theorem dc_14_54_0 : decode prog_14_method_54_code 0 = .ok (.iload_n 1, 1) := by decide +kernel
theorem dc_14_54_1 : decode prog_14_method_54_code 1 = .ok (.istore_n 2, 1) := by decide +kernel
theorem dc_14_54_2 : decode prog_14_method_54_code 2 = .ok (.aload_n 0, 1) := by decide +kernel
theorem dc_14_54_3 : decode prog_14_method_54_code 3 = .ok (.getfield 353, 3) := by decide +kernel
theorem dc_14_54_6 : decode prog_14_method_54_code 6 = .ok (.iconst 1, 1) := by decide +kernel
theorem dc_14_54_7 : decode prog_14_method_54_code 7 = .ok (.isub, 1) := by decide +kernel
theorem dc_14_54_8 : decode prog_14_method_54_code 8 = .ok (.istore_n 3, 1) := by decide +kernel
theorem dc_14_54_9 : decode prog_14_method_54_code 9 = .ok (.iload_n 3, 1) := by decide +kernel
theorem dc_14_54_10 : decode prog_14_method_54_code 10 = .ok (.ifCond .lt 78, 3) := by decide +kernel
theorem dc_14_54_13 : decode prog_14_method_54_code 13 = .ok (.aload_n 0, 1) := by decide +kernel
theorem dc_14_54_14 : decode prog_14_method_54_code 14 = .ok (.getfield 153, 3) := by decide +kernel
theorem dc_14_54_17 : decode prog_14_method_54_code 17 = .ok (.iload_n 3, 1) := by decide +kernel
theorem dc_14_54_18 : decode prog_14_method_54_code 18 = .ok (.iload_n 2, 1) := by decide +kernel
theorem dc_14_54_19 : decode prog_14_method_54_code 19 = .ok (.iconst 5, 1) := by decide +kernel
theorem dc_14_54_20 : decode prog_14_method_54_code 20 = .ok (.irem, 1) := by decide +kernel
theorem dc_14_54_21 : decode prog_14_method_54_code 21 = .ok (.iastore, 1) := by decide +kernel
theorem dc_14_54_22 : decode prog_14_method_54_code 22 = .ok (.iload_n 2, 1) := by decide +kernel
theorem dc_14_54_23 : decode prog_14_method_54_code 23 = .ok (.iconst 5, 1) := by decide +kernel
theorem dc_14_54_24 : decode prog_14_method_54_code 24 = .ok (.idiv, 1) := by decide +kernel
theorem dc_14_54_25 : decode prog_14_method_54_code 25 = .ok (.istore_n 2, 1) := by decide +kernel
theorem dc_14_54_26 : decode prog_14_method_54_code 26 = .ok (.aload_n 0, 1) := by decide +kernel
theorem dc_14_54_27 : decode prog_14_method_54_code 27 = .ok (.getfield 153, 3) := by decide +kernel
theorem dc_14_54_30 : decode prog_14_method_54_code 30 = .ok (.iload_n 3, 1) := by decide +kernel
theorem dc_14_54_31 : decode prog_14_method_54_code 31 = .ok (.iaload, 1) := by decide +kernel
theorem dc_14_54_32 : decode prog_14_method_54_code 32 = .ok (.iconst 4, 1) := by decide +kernel
theorem dc_14_54_33 : decode prog_14_method_54_code 33 = .ok (.if_icmp .ge 49, 3) := by decide +kernel
theorem dc_14_54_36 : decode prog_14_method_54_code 36 = .ok (.aload_n 0, 1) := by decide +kernel
theorem dc_14_54_37 : decode prog_14_method_54_code 37 = .ok (.getfield 153, 3) := by decide +kernel
theorem dc_14_54_40 : decode prog_14_method_54_code 40 = .ok (.iload_n 3, 1) := by decide +kernel
theorem dc_14_54_41 : decode prog_14_method_54_code 41 = .ok (.iaload, 1) := by decide +kernel
theorem dc_14_54_42 : decode prog_14_method_54_code 42 = .ok (.aload_n 0, 1) := by decide +kernel
theorem dc_14_54_43 : decode prog_14_method_54_code 43 = .ok (.getfield 132, 3) := by decide +kernel
theorem dc_14_54_46 : decode prog_14_method_54_code 46 = .ok (.aload_n 0, 1) := by decide +kernel
theorem dc_14_54_47 : decode prog_14_method_54_code 47 = .ok (.getfield 141, 3) := by decide +kernel
theorem dc_14_54_50 : decode prog_14_method_54_code 50 = .ok (.iload_n 3, 1) := by decide +kernel
theorem dc_14_54_51 : decode prog_14_method_54_code 51 = .ok (.iaload, 1) := by decide +kernel
theorem dc_14_54_52 : decode prog_14_method_54_code 52 = .ok (.iaload, 1) := by decide +kernel
theorem dc_14_54_53 : decode prog_14_method_54_code 53 = .ok (.if_icmp .ge 27, 3) := by decide +kernel
theorem dc_14_54_56 : decode prog_14_method_54_code 56 = .ok (.aload_n 0, 1) := by decide +kernel
theorem dc_14_54_57 : decode prog_14_method_54_code 57 = .ok (.getfield 159, 3) := by decide +kernel
theorem dc_14_54_60 : decode prog_14_method_54_code 60 = .ok (.iconst 4, 1) := by decide +kernel
theorem dc_14_54_61 : decode prog_14_method_54_code 61 = .ok (.aload_n 0, 1) := by decide +kernel
theorem dc_14_54_62 : decode prog_14_method_54_code 62 = .ok (.getfield 141, 3) := by decide +kernel
theorem dc_14_54_65 : decode prog_14_method_54_code 65 = .ok (.iload_n 3, 1) := by decide +kernel
theorem dc_14_54_66 : decode prog_14_method_54_code 66 = .ok (.iaload, 1) := by decide +kernel
theorem dc_14_54_67 : decode prog_14_method_54_code 67 = .ok (.imul, 1) := by decide +kernel
theorem dc_14_54_68 : decode prog_14_method_54_code 68 = .ok (.aload_n 0, 1) := by decide +kernel
theorem dc_14_54_69 : decode prog_14_method_54_code 69 = .ok (.getfield 153, 3) := by decide +kernel
theorem dc_14_54_72 : decode prog_14_method_54_code 72 = .ok (.iload_n 3, 1) := by decide +kernel
theorem dc_14_54_73 : decode prog_14_method_54_code 73 = .ok (.iaload, 1) := by decide +kernel
theorem dc_14_54_74 : decode prog_14_method_54_code 74 = .ok (.iadd, 1) := by decide +kernel
theorem dc_14_54_75 : decode prog_14_method_54_code 75 = .ok (.iaload, 1) := by decide +kernel
theorem dc_14_54_76 : decode prog_14_method_54_code 76 = .ok (.iconst (-1), 1) := by decide +kernel
theorem dc_14_54_77 : decode prog_14_method_54_code 77 = .ok (.if_icmp .ne 5, 3) := by decide +kernel
theorem dc_14_54_80 : decode prog_14_method_54_code 80 = .ok (.iconst 0, 1) := by decide +kernel
theorem dc_14_54_81 : decode prog_14_method_54_code 81 = .ok (.ireturn, 1) := by decide +kernel
theorem dc_14_54_82 : decode prog_14_method_54_code 82 = .ok (.iinc 3 (-1), 3) := by decide +kernel
theorem dc_14_54_85 : decode prog_14_method_54_code 85 = .ok (.goto (-76), 3) := by decide +kernel
theorem dc_14_54_88 : decode prog_14_method_54_code 88 = .ok (.iconst 1, 1) := by decide +kernel
theorem dc_14_54_89 : decode prog_14_method_54_code 89 = .ok (.ireturn, 1) := by decide +kernel
theorem dc_14_55_0 : decode prog_14_method_55_code 0 = .ok (.iconst 0, 1) := by decide +kernel
theorem dc_14_55_1 : decode prog_14_method_55_code 1 = .ok (.istore_n 1, 1) := by decide +kernel
theorem dc_14_55_2 : decode prog_14_method_55_code 2 = .ok (.iconst 0, 1) := by decide +kernel
theorem dc_14_55_3 : decode prog_14_method_55_code 3 = .ok (.istore_n 2, 1) := by decide +kernel
theorem dc_14_55_4 : decode prog_14_method_55_code 4 = .ok (.iload_n 2, 1) := by decide +kernel
theorem dc_14_55_5 : decode prog_14_method_55_code 5 = .ok (.aload_n 0, 1) := by decide +kernel
theorem dc_14_55_6 : decode prog_14_method_55_code 6 = .ok (.getfield 353, 3) := by decide +kernel
theorem dc_14_55_9 : decode prog_14_method_55_code 9 = .ok (.if_icmp .ge 62, 3) := by decide +kernel
theorem dc_14_55_12 : decode prog_14_method_55_code 12 = .ok (.aload_n 0, 1) := by decide +kernel
theorem dc_14_55_13 : decode prog_14_method_55_code 13 = .ok (.getfield 153, 3) := by decide +kernel
theorem dc_14_55_16 : decode prog_14_method_55_code 16 = .ok (.iload_n 2, 1) := by decide +kernel
theorem dc_14_55_17 : decode prog_14_method_55_code 17 = .ok (.iaload, 1) := by decide +kernel
theorem dc_14_55_18 : decode prog_14_method_55_code 18 = .ok (.iconst 4, 1) := by decide +kernel
theorem dc_14_55_19 : decode prog_14_method_55_code 19 = .ok (.if_icmp .ne 7, 3) := by decide +kernel
theorem dc_14_55_22 : decode prog_14_method_55_code 22 = .ok (.iconst (-1), 1) := by decide +kernel
theorem dc_14_55_23 : decode prog_14_method_55_code 23 = .ok (.goto 23, 3) := by decide +kernel
theorem dc_14_55_26 : decode prog_14_method_55_code 26 = .ok (.aload_n 0, 1) := by decide +kernel
theorem dc_14_55_27 : decode prog_14_method_55_code 27 = .ok (.getfield 135, 3) := by decide +kernel
theorem dc_14_55_30 : decode prog_14_method_55_code 30 = .ok (.iconst 4, 1) := by decide +kernel
theorem dc_14_55_31 : decode prog_14_method_55_code 31 = .ok (.aload_n 0, 1) := by decide +kernel
theorem dc_14_55_32 : decode prog_14_method_55_code 32 = .ok (.getfield 141, 3) := by decide +kernel
theorem dc_14_55_35 : decode prog_14_method_55_code 35 = .ok (.iload_n 2, 1) := by decide +kernel
theorem dc_14_55_36 : decode prog_14_method_55_code 36 = .ok (.iaload, 1) := by decide +kernel
theorem dc_14_55_37 : decode prog_14_method_55_code 37 = .ok (.imul, 1) := by decide +kernel
theorem dc_14_55_38 : decode prog_14_method_55_code 38 = .ok (.aload_n 0, 1) := by decide +kernel
theorem dc_14_55_39 : decode prog_14_method_55_code 39 = .ok (.getfield 153, 3) := by decide +kernel
theorem dc_14_55_42 : decode prog_14_method_55_code 42 = .ok (.iload_n 2, 1) := by decide +kernel
theorem dc_14_55_43 : decode prog_14_method_55_code 43 = .ok (.iaload, 1) := by decide +kernel
theorem dc_14_55_44 : decode prog_14_method_55_code 44 = .ok (.iadd, 1) := by decide +kernel
theorem dc_14_55_45 : decode prog_14_method_55_code 45 = .ok (.iaload, 1) := by decide +kernel
theorem dc_14_55_46 : decode prog_14_method_55_code 46 = .ok (.istore_n 3, 1) := by decide +kernel
theorem dc_14_55_47 : decode prog_14_method_55_code 47 = .ok (.iload_n 1, 1) := by decide +kernel
theorem dc_14_55_48 : decode prog_14_method_55_code 48 = .ok (.iload_n 3, 1) := by decide +kernel
theorem dc_14_55_49 : decode prog_14_method_55_code 49 = .ok (.aload_n 0, 1) := by decide +kernel
theorem dc_14_55_50 : decode prog_14_method_55_code 50 = .ok (.getfield 147, 3) := by decide +kernel
theorem dc_14_55_53 : decode prog_14_method_55_code 53 = .ok (.iload_n 2, 1) := by decide +kernel
theorem dc_14_55_54 : decode prog_14_method_55_code 54 = .ok (.iaload, 1) := by decide +kernel
theorem dc_14_55_55 : decode prog_14_method_55_code 55 = .ok (.if_icmp .eq 7, 3) := by decide +kernel
theorem dc_14_55_58 : decode prog_14_method_55_code 58 = .ok (.iconst 1, 1) := by decide +kernel
theorem dc_14_55_59 : decode prog_14_method_55_code 59 = .ok (.goto 4, 3) := by decide +kernel
theorem dc_14_55_62 : decode prog_14_method_55_code 62 = .ok (.iconst 0, 1) := by decide +kernel
theorem dc_14_55_63 : decode prog_14_method_55_code 63 = .ok (.iadd, 1) := by decide +kernel
theorem dc_14_55_64 : decode prog_14_method_55_code 64 = .ok (.istore_n 1, 1) := by decide +kernel
theorem dc_14_55_65 : decode prog_14_method_55_code 65 = .ok (.iinc 2 1, 3) := by decide +kernel
theorem dc_14_55_68 : decode prog_14_method_55_code 68 = .ok (.goto (-64), 3) := by decide +kernel
theorem dc_14_55_71 : decode prog_14_method_55_code 71 = .ok (.iload_n 1, 1) := by decide +kernel
theorem dc_14_55_72 : decode prog_14_method_55_code 72 = .ok (.ireturn, 1) := by decide +kernel
theorem dc_14_56_0 : decode prog_14_method_56_code 0 = .ok (.iconst 0, 1) := by decide +kernel
theorem dc_14_56_1 : decode prog_14_method_56_code 1 = .ok (.istore_n 1, 1) := by decide +kernel
theorem dc_14_56_2 : decode prog_14_method_56_code 2 = .ok (.iload_n 1, 1) := by decide +kernel
theorem dc_14_56_3 : decode prog_14_method_56_code 3 = .ok (.iconst 4, 1) := by decide +kernel
theorem dc_14_56_4 : decode prog_14_method_56_code 4 = .ok (.if_icmp .ge 16, 3) := by decide +kernel
theorem dc_14_56_7 : decode prog_14_method_56_code 7 = .ok (.aload_n 0, 1) := by decide +kernel
theorem dc_14_56_8 : decode prog_14_method_56_code 8 = .ok (.getfield 162, 3) := by decide +kernel
theorem dc_14_56_11 : decode prog_14_method_56_code 11 = .ok (.iload_n 1, 1) := by decide +kernel
theorem dc_14_56_12 : decode prog_14_method_56_code 12 = .ok (.iconst 0, 1) := by decide +kernel
theorem dc_14_56_13 : decode prog_14_method_56_code 13 = .ok (.iastore, 1) := by decide +kernel
theorem dc_14_56_14 : decode prog_14_method_56_code 14 = .ok (.iinc 1 1, 3) := by decide +kernel
theorem dc_14_56_17 : decode prog_14_method_56_code 17 = .ok (.goto (-15), 3) := by decide +kernel
theorem dc_14_56_20 : decode prog_14_method_56_code 20 = .ok (.iconst 0, 1) := by decide +kernel
theorem dc_14_56_21 : decode prog_14_method_56_code 21 = .ok (.istore_n 1, 1) := by decide +kernel
theorem dc_14_56_22 : decode prog_14_method_56_code 22 = .ok (.iload_n 1, 1) := by decide +kernel
theorem dc_14_56_23 : decode prog_14_method_56_code 23 = .ok (.aload_n 0, 1) := by decide +kernel
theorem dc_14_56_24 : decode prog_14_method_56_code 24 = .ok (.getfield 353, 3) := by decide +kernel
theorem dc_14_56_27 : decode prog_14_method_56_code 27 = .ok (.if_icmp .ge 43, 3) := by decide +kernel
theorem dc_14_56_30 : decode prog_14_method_56_code 30 = .ok (.aload_n 0, 1) := by decide +kernel
theorem dc_14_56_31 : decode prog_14_method_56_code 31 = .ok (.getfield 153, 3) := by decide +kernel
theorem dc_14_56_34 : decode prog_14_method_56_code 34 = .ok (.iload_n 1, 1) := by decide +kernel
theorem dc_14_56_35 : decode prog_14_method_56_code 35 = .ok (.iaload, 1) := by decide +kernel
theorem dc_14_56_36 : decode prog_14_method_56_code 36 = .ok (.iconst 4, 1) := by decide +kernel
theorem dc_14_56_37 : decode prog_14_method_56_code 37 = .ok (.if_icmp .ge 27, 3) := by decide +kernel
theorem dc_14_56_40 : decode prog_14_method_56_code 40 = .ok (.aload_n 0, 1) := by decide +kernel
theorem dc_14_56_41 : decode prog_14_method_56_code 41 = .ok (.getfield 162, 3) := by decide +kernel
theorem dc_14_56_44 : decode prog_14_method_56_code 44 = .ok (.aload_n 0, 1) := by decide +kernel
theorem dc_14_56_45 : decode prog_14_method_56_code 45 = .ok (.getfield 153, 3) := by decide +kernel
theorem dc_14_56_48 : decode prog_14_method_56_code 48 = .ok (.iload_n 1, 1) := by decide +kernel
theorem dc_14_56_49 : decode prog_14_method_56_code 49 = .ok (.iaload, 1) := by decide +kernel
theorem dc_14_56_50 : decode prog_14_method_56_code 50 = .ok (.aload_n 0, 1) := by decide +kernel
theorem dc_14_56_51 : decode prog_14_method_56_code 51 = .ok (.getfield 162, 3) := by decide +kernel
theorem dc_14_56_54 : decode prog_14_method_56_code 54 = .ok (.aload_n 0, 1) := by decide +kernel
theorem dc_14_56_55 : decode prog_14_method_56_code 55 = .ok (.getfield 153, 3) := by decide +kernel
theorem dc_14_56_58 : decode prog_14_method_56_code 58 = .ok (.iload_n 1, 1) := by decide +kernel
theorem dc_14_56_59 : decode prog_14_method_56_code 59 = .ok (.iaload, 1) := by decide +kernel
theorem dc_14_56_60 : decode prog_14_method_56_code 60 = .ok (.iaload, 1) := by decide +kernel
theorem dc_14_56_61 : decode prog_14_method_56_code 61 = .ok (.iconst 1, 1) := by decide +kernel
theorem dc_14_56_62 : decode prog_14_method_56_code 62 = .ok (.iadd, 1) := by decide +kernel
theorem dc_14_56_63 : decode prog_14_method_56_code 63 = .ok (.iastore, 1) := by decide +kernel
theorem dc_14_56_64 : decode prog_14_method_56_code 64 = .ok (.iinc 1 1, 3) := by decide +kernel
theorem dc_14_56_67 : decode prog_14_method_56_code 67 = .ok (.goto (-45), 3) := by decide +kernel
theorem dc_14_56_70 : decode prog_14_method_56_code 70 = .ok (.return_, 1) := by decide +kernel
theorem dc_14_57_0 : decode prog_14_method_57_code 0 = .ok (.iconst 0, 1) := by decide +kernel
theorem dc_14_57_1 : decode prog_14_method_57_code 1 = .ok (.istore_n 1, 1) := by decide +kernel
theorem dc_14_57_2 : decode prog_14_method_57_code 2 = .ok (.iload_n 1, 1) := by decide +kernel
theorem dc_14_57_3 : decode prog_14_method_57_code 3 = .ok (.iconst 4, 1) := by decide +kernel
theorem dc_14_57_4 : decode prog_14_method_57_code 4 = .ok (.if_icmp .ge 45, 3) := by decide +kernel
theorem dc_14_57_7 : decode prog_14_method_57_code 7 = .ok (.aload_n 0, 1) := by decide +kernel
theorem dc_14_57_8 : decode prog_14_method_57_code 8 = .ok (.getfield 162, 3) := by decide +kernel
theorem dc_14_57_11 : decode prog_14_method_57_code 11 = .ok (.iload_n 1, 1) := by decide +kernel
theorem dc_14_57_12 : decode prog_14_method_57_code 12 = .ok (.iaload, 1) := by decide +kernel
theorem dc_14_57_13 : decode prog_14_method_57_code 13 = .ok (.aload_n 0, 1) := by decide +kernel
theorem dc_14_57_14 : decode prog_14_method_57_code 14 = .ok (.getfield 165, 3) := by decide +kernel
theorem dc_14_57_17 : decode prog_14_method_57_code 17 = .ok (.iload_n 1, 1) := by decide +kernel
theorem dc_14_57_18 : decode prog_14_method_57_code 18 = .ok (.iaload, 1) := by decide +kernel
theorem dc_14_57_19 : decode prog_14_method_57_code 19 = .ok (.if_icmp .eq 24, 3) := by decide +kernel
theorem dc_14_57_22 : decode prog_14_method_57_code 22 = .ok (.aload_n 0, 1) := by decide +kernel
theorem dc_14_57_23 : decode prog_14_method_57_code 23 = .ok (.getfield 162, 3) := by decide +kernel
theorem dc_14_57_26 : decode prog_14_method_57_code 26 = .ok (.iload_n 1, 1) := by decide +kernel
theorem dc_14_57_27 : decode prog_14_method_57_code 27 = .ok (.iaload, 1) := by decide +kernel
theorem dc_14_57_28 : decode prog_14_method_57_code 28 = .ok (.aload_n 0, 1) := by decide +kernel
theorem dc_14_57_29 : decode prog_14_method_57_code 29 = .ok (.getfield 165, 3) := by decide +kernel
theorem dc_14_57_32 : decode prog_14_method_57_code 32 = .ok (.iload_n 1, 1) := by decide +kernel
theorem dc_14_57_33 : decode prog_14_method_57_code 33 = .ok (.iaload, 1) := by decide +kernel
theorem dc_14_57_34 : decode prog_14_method_57_code 34 = .ok (.if_icmp .le 7, 3) := by decide +kernel
theorem dc_14_57_37 : decode prog_14_method_57_code 37 = .ok (.iconst 1, 1) := by decide +kernel
theorem dc_14_57_38 : decode prog_14_method_57_code 38 = .ok (.goto 4, 3) := by decide +kernel
theorem dc_14_57_41 : decode prog_14_method_57_code 41 = .ok (.iconst 0, 1) := by decide +kernel
theorem dc_14_57_42 : decode prog_14_method_57_code 42 = .ok (.ireturn, 1) := by decide +kernel
theorem dc_14_57_43 : decode prog_14_method_57_code 43 = .ok (.iinc 1 1, 3) := by decide +kernel
theorem dc_14_57_46 : decode prog_14_method_57_code 46 = .ok (.goto (-44), 3) := by decide +kernel
theorem dc_14_57_49 : decode prog_14_method_57_code 49 = .ok (.iconst 0, 1) := by decide +kernel
theorem dc_14_57_50 : decode prog_14_method_57_code 50 = .ok (.ireturn, 1) := by decide +kernel
def P3 (sg : Nat → Nat → Int32) (a b c : Nat → Int32) : Nat → Nat → Int32 := va_up (va_up (va_up sg 56 a) 57 b) 58 c
theorem P3_P3 (sg : Nat → Nat → Int32) (a b c a2 b2 c2 : Nat → Int32) : P3 (P3 sg a b c) a2 b2 c2 = P3 sg a2 b2 c2 := by
  funext j
  simp only [P3, va_up]
  repeat' split
  all_goals first | rfl | omega
theorem P3_id (sg : Nat → Nat → Int32) : P3 sg (sg 56) (sg 57) (sg 58) = sg := va_up_id3 sg 56 57 58
/-- a row after n are put down -/
def gU (f : Nat → Int32) (wh : Nat → Nat) (val : Nat → Int32) : Nat → Nat → Int32
  | 0 => f
  | i + 1 => upd (gU f wh val i) (wh i) (val i)
theorem gU_old {f : Nat → Int32} {wh : Nat → Nat} {val : Nat → Int32} {j : Nat} : ∀ {n : Nat}, (∀ i, i < n → ¬ wh i = j) → gU f wh val n j = f j
  | 0, _ => rfl
  | n + 1, h => (if_neg (fun q => h n (Nat.lt_succ_self n) q.symm)).trans (gU_old (fun i hi => h i (by omega)))
theorem gU_hit {f g : Nat → Int32} {wh : Nat → Nat} {val : Nat → Int32} {j : Nat} : ∀ {n : Nat}, (∀ i, i < n → val i = f (wh i)) → (∃ i, i < n ∧ wh i = j) → gU g wh val n j = f j
  | 0, _, h => h.elim (fun i q => absurd q.1 (Nat.not_lt_zero i))
  | n + 1, hv, h => by
    by_cases e : wh n = j
    · subst e
      exact (if_pos rfl).trans (hv n (Nat.lt_succ_self n))
    · refine (if_neg (fun q => e q.symm)).trans (gU_hit (fun i hi => hv i (by omega)) ?_)
      obtain ⟨i, hi, q⟩ := h
      refine ⟨i, ?_, q⟩
      by_cases z : i = n
      · subst z; exact absurd q e
      · omega
theorem gU_back {f : Nat → Int32} {wh : Nat → Nat} {val old : Nat → Int32} {n : Nat} (h : ∀ i, i < n → old i = f (wh i)) : gU (gU f wh val n) wh old n = f := by
  funext j
  by_cases e : ∃ i, i < n ∧ wh i = j
  · exact gU_hit h e
  · have e2 : ∀ i, i < n → ¬ wh i = j := fun i hi q => e ⟨i, hi, q⟩
    exact (gU_old e2).trans (gU_old e2)
def cdq (code : Nat) : Nat → Nat
  | 0 => code
  | m + 1 => cdq code m / 5
theorem cdq_le (code : Nat) : ∀ m, cdq code m ≤ code
  | 0 => Nat.le_refl _
  | m + 1 => Nat.le_trans (Nat.div_le_self _ _) (cdq_le code m)
def dgt (code m : Nat) : Nat := cdq code m % 5
theorem dgt_lt (code m : Nat) : dgt code m < 5 := Nat.mod_lt _ (by decide)
/-- what a row of choices says, the last digit for the last one -/
def co (n code i : Nat) : Nat := dgt code (n - 1 - i)
def vdP (sg : Nat → Nat → Int32) (my : Nat → Nat → Int32) (s d : Nat) : Prop := d = 4 ∨ d < tN (sg 59 s) ∧ ¬ my s d = -1
def vdC (sg : Nat → Nat → Int32) (my : Nat → Nat → Int32) (wh : Nat → Nat) (n code : Nat) : Prop := ∀ i, i < n → vdP sg my (wh i) (co n code i)
def P56 (c : Nat → Nat) (i : Nat) : Int32 := if c i = 4 then nI 0 else nI 1
def P57 (sg : Nat → Nat → Int32) (wh c : Nat → Nat) (i : Nat) : Int32 := if c i = 4 then -1 else sg 60 (4 * wh i + c i)
def P58 (my : Nat → Nat → Int32) (wh c : Nat → Nat) (i : Nat) : Int32 := if c i = 4 then -1 else my (wh i) (c i)
def plS (sg my : Nat → Nat → Int32) (wh c : Nat → Nat) (n : Nat) : Nat → Nat → Int32 := P3 sg (gU (sg 56) wh (P56 c) n) (gU (sg 57) wh (P57 sg wh c) n) (gU (sg 58) wh (P58 my wh c) n)
def ct (c : Nat → Nat) (k : Nat) : Nat → Nat
  | 0 => 0
  | m + 1 => if c m = k then ct c k m + 1 else ct c k m
theorem ct_le (c : Nat → Nat) (k : Nat) : ∀ m, ct c k m ≤ m
  | 0 => Nat.le_refl 0
  | m + 1 => by
    have := ct_le c k m
    unfold ct
    split <;> omega
def lexgt (a b : Nat → Nat) : Prop := ∃ k, k < 4 ∧ (∀ j, j < k → a j = b j) ∧ b k < a k
set_option maxHeartbeats 4000000 in
theorem c_goes (M : mH) (hM : 157 ≤ M.1) (io : Nat → Int32) (sg : Nat → Nat → Int32) (n : Nat) (h71 : io 71 = nI n) (hn7 : n ≤ 7) (wh : Nat → Nat) (hwh : ∀ i, i < n → wh i < 16) (q my : Nat → Nat → Int32) (hq : ∀ i, i < n → q 62 i = nI (wh i)) (i c : Nat) (hi : i < n) (hc : c ≤ 4) (hm : ¬ c = 4 → q 68 (4 * wh i + c) = my (wh i) c) : mm_Ev 1 242 [.ref 100, .int (nI i), .int (nI c)] (rf_mk M io (sW sg q)) ((none, rf_mk M io (sW (P3 sg (upd (sg 56) (wh i) (if c = 4 then nI 0 else nI 1)) (upd (sg 57) (wh i) (if c = 4 then -1 else sg 60 (4 * wh i + c))) (upd (sg 58) (wh i) (if c = 4 then -1 else my (wh i) c))) q))) := by
  refine r_ev (by decide +kernel) (show (3 : Nat) ≤ mm_nL 242 by decide +kernel) ?_
  have h16 := hwh i hi
  show mm_Ru 0 (13, 4, false, prog_14_method_52_code, none) 0 [(0, .ref 100), (1, .int (nI i)), (2, .int (nI c))] [] (rf_mk M io (sW sg q)) (fun r9 => r9 = ((none, rf_mk M io (sW (P3 sg (upd (sg 56) (wh i) (if c = 4 then nI 0 else nI 1)) (upd (sg 57) (wh i) (if c = 4 then -1 else sg 60 (4 * wh i + c))) (upd (sg 58) (wh i) (if c = 4 then -1 else my (wh i) c))) q))))
  refine r_aload_n rfl dc_14_52_0 ?_
  refine q_get (v := .ref 144) rx_141 hM rfl dc_14_52_1 ?_
  refine r_iload_n rfl dc_14_52_4 ?_
  refine q_ild (e := i) (v := nI (wh i)) (by decide) (by decide) hM rfl (show i < 7 by omega) (by omega) (hq i hi) dc_14_52_5 ?_
  refine r_istore_n (ls' := [(3, .int (nI (wh i))), (0, .ref 100), (1, .int (nI i)), (2, .int (nI c))]) (by decide) rfl dc_14_52_6 ?_
  refine r_aload_n rfl dc_14_52_7 ?_
  refine q_get (v := .ref 138) rx_123 hM rfl dc_14_52_8 ?_
  refine r_iload_n rfl dc_14_52_11 ?_
  refine r_iload_n rfl dc_14_52_12 ?_
  refine r_iconst (v := nI 4) (by decide) dc_14_52_13 ?_
  refine r_ncne (t := 21) (by omega) (by omega) (by decide) dc_14_52_14 (fun c_14 => ?_) (fun c_14 => ?_)
  · skip
    refine r_iconst (v := nI 1) (by decide) dc_14_52_21 ?_
    refine q_ist (e := wh i) (k := 56) (by decide) (by decide) hM rfl rfl (show wh i < 16 by omega) (by omega) dc_14_52_22 ?_
    rw [sW_n 56 _ rfl]
    refine r_aload_n rfl dc_14_52_23 ?_
    refine q_get (v := .ref 139) rx_126 hM rfl dc_14_52_24 ?_
    refine r_iload_n rfl dc_14_52_27 ?_
    refine r_iload_n rfl dc_14_52_28 ?_
    refine r_iconst (v := nI 4) (by decide) dc_14_52_29 ?_
    refine r_ncne (t := 37) (by omega) (by omega) (by decide) dc_14_52_30 (fun c_30 => ?_) (fun c_30 => ?_)
    · skip
      refine r_aload_n rfl dc_14_52_37 ?_
      refine q_get (v := .ref 142) rx_135 hM rfl dc_14_52_38 ?_
      refine r_iconst (v := nI 4) (by decide) dc_14_52_41 ?_
      refine r_iload_n rfl dc_14_52_42 ?_
      refine r_imul (v := nI (4 * (wh i))) (pk_mul _ _) dc_14_52_43 ?_
      refine r_iload_n rfl dc_14_52_44 ?_
      refine r_iadd (v := nI (4 * (wh i) + c)) (nI_add _ _) dc_14_52_45 ?_
      refine q_ild (e := 4 * (wh i) + c) (v := (sW (va_up sg 56 (upd (sg 56) (wh i) (nI 1))) q) 60 (4 * (wh i) + c)) (by decide) (by decide) hM rfl (show 4 * (wh i) + c < 64 by omega) (by omega) (rfl) dc_14_52_46 ?_
      refine q_ist (e := wh i) (k := 57) (by decide) (by decide) hM rfl rfl (show wh i < 16 by omega) (by omega) dc_14_52_47 ?_
      rw [sW_n 57 _ rfl]
      refine r_aload_n rfl dc_14_52_48 ?_
      refine q_get (v := .ref 140) rx_129 hM rfl dc_14_52_49 ?_
      refine r_iload_n rfl dc_14_52_52 ?_
      refine r_iload_n rfl dc_14_52_53 ?_
      refine r_iconst (v := nI 4) (by decide) dc_14_52_54 ?_
      refine r_ncne (t := 62) (by omega) (by omega) (by decide) dc_14_52_55 (fun c_55 => ?_) (fun c_55 => ?_)
      · skip
        refine r_aload_n rfl dc_14_52_62 ?_
        refine q_get (v := .ref 150) rx_159 hM rfl dc_14_52_63 ?_
        refine r_iconst (v := nI 4) (by decide) dc_14_52_66 ?_
        refine r_iload_n rfl dc_14_52_67 ?_
        refine r_imul (v := nI (4 * (wh i))) (pk_mul _ _) dc_14_52_68 ?_
        refine r_iload_n rfl dc_14_52_69 ?_
        refine r_iadd (v := nI (4 * (wh i) + c)) (nI_add _ _) dc_14_52_70 ?_
        refine q_ild (e := 4 * (wh i) + c) (v := my (wh i) c) (by decide) (by decide) hM rfl (show 4 * (wh i) + c < 64 by omega) (by omega) (hm c_14) dc_14_52_71 ?_
        refine q_ist (e := wh i) (k := 58) (by decide) (by decide) hM rfl rfl (show wh i < 16 by omega) (by omega) dc_14_52_72 ?_
        rw [sW_n 58 _ rfl]
        refine r_vret rfl dc_14_52_73 ?_
        rw [if_neg c_14, if_neg c_14, if_neg c_14]
        rfl
      · omega
    · omega
  · skip
    refine r_iconst (v := nI 0) (by decide) dc_14_52_17 ?_
    refine r_goto (t := 22) (by decide) dc_14_52_18 ?_
    refine q_ist (e := wh i) (k := 56) (by decide) (by decide) hM rfl rfl (show wh i < 16 by omega) (by omega) dc_14_52_22 ?_
    rw [sW_n 56 _ rfl]
    refine r_aload_n rfl dc_14_52_23 ?_
    refine q_get (v := .ref 139) rx_126 hM rfl dc_14_52_24 ?_
    refine r_iload_n rfl dc_14_52_27 ?_
    refine r_iload_n rfl dc_14_52_28 ?_
    refine r_iconst (v := nI 4) (by decide) dc_14_52_29 ?_
    refine r_ncne (t := 37) (by omega) (by omega) (by decide) dc_14_52_30 (fun c_30 => ?_) (fun c_30 => ?_)
    · omega
    · skip
      refine r_iconst (v := -1) (by decide) dc_14_52_33 ?_
      refine r_goto (t := 47) (by decide) dc_14_52_34 ?_
      refine q_ist (e := wh i) (k := 57) (by decide) (by decide) hM rfl rfl (show wh i < 16 by omega) (by omega) dc_14_52_47 ?_
      rw [sW_n 57 _ rfl]
      refine r_aload_n rfl dc_14_52_48 ?_
      refine q_get (v := .ref 140) rx_129 hM rfl dc_14_52_49 ?_
      refine r_iload_n rfl dc_14_52_52 ?_
      refine r_iload_n rfl dc_14_52_53 ?_
      refine r_iconst (v := nI 4) (by decide) dc_14_52_54 ?_
      refine r_ncne (t := 62) (by omega) (by omega) (by decide) dc_14_52_55 (fun c_55 => ?_) (fun c_55 => ?_)
      · omega
      · skip
        refine r_iconst (v := -1) (by decide) dc_14_52_58 ?_
        refine r_goto (t := 72) (by decide) dc_14_52_59 ?_
        refine q_ist (e := wh i) (k := 58) (by decide) (by decide) hM rfl rfl (show wh i < 16 by omega) (by omega) dc_14_52_72 ?_
        rw [sW_n 58 _ rfl]
        refine r_vret rfl dc_14_52_73 ?_
        rw [if_pos c_14, if_pos c_14, if_pos c_14]
        rfl
set_option maxHeartbeats 4000000 in
theorem c_goesBack (M : mH) (hM : 157 ≤ M.1) (io : Nat → Int32) (sg : Nat → Nat → Int32) (n : Nat) (h71 : io 71 = nI n) (hn7 : n ≤ 7) (wh : Nat → Nat) (hwh : ∀ i, i < n → wh i < 16) (q my : Nat → Nat → Int32) (hq : ∀ i, i < n → q 62 i = nI (wh i)) (i : Nat) (hi : i < n) : mm_Ev 1 243 [.ref 100, .int (nI i)] (rf_mk M io (sW sg q)) ((none, rf_mk M io (sW (P3 sg (upd (sg 56) (wh i) (q 63 i)) (upd (sg 57) (wh i) (q 64 i)) (upd (sg 58) (wh i) (q 65 i))) q))) := by
  refine r_ev (by decide +kernel) (show (2 : Nat) ≤ mm_nL 243 by decide +kernel) ?_
  have h16 := hwh i hi
  show mm_Ru 0 (13, 2, false, prog_14_method_53_code, none) 0 [(0, .ref 100), (1, .int (nI i))] [] (rf_mk M io (sW sg q)) (fun r9 => r9 = ((none, rf_mk M io (sW (P3 sg (upd (sg 56) (wh i) (q 63 i)) (upd (sg 57) (wh i) (q 64 i)) (upd (sg 58) (wh i) (q 65 i))) q))))
  refine r_aload_n rfl dc_14_53_0 ?_
  refine q_get (v := .ref 138) rx_123 hM rfl dc_14_53_1 ?_
  refine r_aload_n rfl dc_14_53_4 ?_
  refine q_get (v := .ref 144) rx_141 hM rfl dc_14_53_5 ?_
  refine r_iload_n rfl dc_14_53_8 ?_
  refine q_ild (e := i) (v := nI (wh i)) (by decide) (by decide) hM rfl (show i < 7 by omega) (by omega) (hq i hi) dc_14_53_9 ?_
  refine r_aload_n rfl dc_14_53_10 ?_
  refine q_get (v := .ref 145) rx_144 hM rfl dc_14_53_11 ?_
  refine r_iload_n rfl dc_14_53_14 ?_
  refine q_ild (e := i) (v := (sW sg q) 63 i) (by decide) (by decide) hM rfl (show i < 7 by omega) (by omega) (rfl) dc_14_53_15 ?_
  refine q_ist (e := wh i) (k := 56) (by decide) (by decide) hM rfl rfl (show wh i < 16 by omega) (by omega) dc_14_53_16 ?_
  rw [sW_n 56 _ rfl]
  refine r_aload_n rfl dc_14_53_17 ?_
  refine q_get (v := .ref 139) rx_126 hM rfl dc_14_53_18 ?_
  refine r_aload_n rfl dc_14_53_21 ?_
  refine q_get (v := .ref 144) rx_141 hM rfl dc_14_53_22 ?_
  refine r_iload_n rfl dc_14_53_25 ?_
  refine q_ild (e := i) (v := nI (wh i)) (by decide) (by decide) hM rfl (show i < 7 by omega) (by omega) (hq i hi) dc_14_53_26 ?_
  refine r_aload_n rfl dc_14_53_27 ?_
  refine q_get (v := .ref 146) rx_147 hM rfl dc_14_53_28 ?_
  refine r_iload_n rfl dc_14_53_31 ?_
  refine q_ild (e := i) (v := (sW (va_up sg 56 (upd (sg 56) (wh i) ((sW sg q) 63 i))) q) 64 i) (by decide) (by decide) hM rfl (show i < 7 by omega) (by omega) (rfl) dc_14_53_32 ?_
  refine q_ist (e := wh i) (k := 57) (by decide) (by decide) hM rfl rfl (show wh i < 16 by omega) (by omega) dc_14_53_33 ?_
  rw [sW_n 57 _ rfl]
  refine r_aload_n rfl dc_14_53_34 ?_
  refine q_get (v := .ref 140) rx_129 hM rfl dc_14_53_35 ?_
  refine r_aload_n rfl dc_14_53_38 ?_
  refine q_get (v := .ref 144) rx_141 hM rfl dc_14_53_39 ?_
  refine r_iload_n rfl dc_14_53_42 ?_
  refine q_ild (e := i) (v := nI (wh i)) (by decide) (by decide) hM rfl (show i < 7 by omega) (by omega) (hq i hi) dc_14_53_43 ?_
  refine r_aload_n rfl dc_14_53_44 ?_
  refine q_get (v := .ref 147) rx_150 hM rfl dc_14_53_45 ?_
  refine r_iload_n rfl dc_14_53_48 ?_
  refine q_ild (e := i) (v := (sW (va_up (va_up sg 56 (upd (sg 56) (wh i) ((sW sg q) 63 i))) 57 (upd ((va_up sg 56 (upd (sg 56) (wh i) ((sW sg q) 63 i))) 57) (wh i) ((sW (va_up sg 56 (upd (sg 56) (wh i) ((sW sg q) 63 i))) q) 64 i))) q) 65 i) (by decide) (by decide) hM rfl (show i < 7 by omega) (by omega) (rfl) dc_14_53_49 ?_
  refine q_ist (e := wh i) (k := 58) (by decide) (by decide) hM rfl rfl (show wh i < 16 by omega) (by omega) dc_14_53_50 ?_
  rw [sW_n 58 _ rfl]
  exact r_vret rfl dc_14_53_51 (rfl)
theorem i_dec (n m : Nat) : nI (n - 1 - m) + (-1) = nI (n - (m + 1)) - nI 1 := by
  rw [show n - 1 - m = n - (m + 1) by omega]
  exact (Int32.sub_eq_add_neg _ _).symm
set_option maxHeartbeats 4000000 in
theorem c_isPlan (M : mH) (hM : 157 ≤ M.1) (io : Nat → Int32) (sg : Nat → Nat → Int32) (n : Nat) (h71 : io 71 = nI n) (hn7 : n ≤ 7) (wh : Nat → Nat) (hwh : ∀ i, i < n → wh i < 16) (q my : Nat → Nat → Int32) (hq : ∀ i, i < n → q 62 i = nI (wh i)) (hmy : ∀ i, i < n → ∀ k, k < tN (sg 59 (wh i)) → q 68 (4 * wh i + k) = my (wh i) k) (h59 : ∀ i, i < n → inN (sg 59 (wh i)) 4) (code : Nat) (hcd : code < 78125) : ∃ (ch : Nat → Int32), (vdC sg my wh n code → ∀ i, i < n → ch i = nI (co n code i)) ∧ mm_Ev 1 238 [.ref 100, .int (nI code)] (rf_mk M io (sW sg q)) ((some (.int (pI (vdC sg my wh n code))), rf_mk M io (sW sg (va_up q 66 ch)))) := by
  have hq9 : ∃ z, (fun r9 => ∃ (ch : Nat → Int32), (vdC sg my wh n code → ∀ i, i < n → ch i = nI (co n code i)) ∧ r9 = ((some (.int (pI (vdC sg my wh n code))), rf_mk M io (sW sg (va_up q 66 ch))))) z ∧ mm_Ev 1 238 [.ref 100, .int (nI code)] (rf_mk M io (sW sg q)) z := by
    refine r_evQ (by decide +kernel) (show (2 : Nat) ≤ mm_nL 238 by decide +kernel) ?_
    show mm_Ru 0 (13, 4, false, prog_14_method_54_code, some .boolean) 0 [(0, .ref 100), (1, .int (nI code))] [] (rf_mk M io (sW sg q)) (fun r9 => ∃ (ch : Nat → Int32), (vdC sg my wh n code → ∀ i, i < n → ch i = nI (co n code i)) ∧ r9 = ((some (.int (pI (vdC sg my wh n code))), rf_mk M io (sW sg (va_up q 66 ch)))))
    refine r_iload_n rfl dc_14_54_0 ?_
    refine r_istore_n (ls' := [(2, .int (nI code)), (0, .ref 100), (1, .int (nI code))]) (by decide) rfl dc_14_54_1 ?_
    refine r_aload_n rfl dc_14_54_2 ?_
    refine q_get (v := .int (nI n)) rx_353 hM (congrArg (fun z => some (Value.int z)) (h71)) dc_14_54_3 ?_
    refine r_iconst (v := nI 1) (by decide) dc_14_54_6 ?_
    refine r_isub (v := nI n - nI 1) (rfl) dc_14_54_7 ?_
    refine r_istore_n (ls' := [(3, .int (nI n - nI 1)), (2, .int (nI code)), (0, .ref 100), (1, .int (nI code))]) (by decide) rfl dc_14_54_8 ?_
    rw [show sW sg q = sW sg (va_up q 66 (q 66)) from by rw [va_up_id]]
    refine mm_cnt (P := fun m => ∀ (ch : Nat → Int32), (∀ i, i < n → n ≤ i + m → ch i = nI (co n code i) ∧ vdP sg my (wh i) (co n code i)) → mm_Ru 0 (13, 4, false, prog_14_method_54_code, some .boolean) 9 [(3, .int (nI (n - m) - nI 1)), (2, .int (nI (cdq code m))), (0, .ref 100), (1, .int (nI code))] [] (rf_mk M io (sW sg (va_up q 66 ch))) (fun r9 => ∃ (ch : Nat → Int32), (vdC sg my wh n code → ∀ i, i < n → ch i = nI (co n code i)) ∧ r9 = ((some (.int (pI (vdC sg my wh n code))), rf_mk M io (sW sg (va_up q 66 ch)))))) n ?_ ?_ 0 (by omega) (q 66) (fun i h1 h2 => absurd h2 (by omega))
    · intro ch hi_m
      show mm_Ru 0 (13, 4, false, prog_14_method_54_code, some .boolean) 9 [(3, .int (nI (n - n) - nI 1)), (2, .int (nI (cdq code n))), (0, .ref 100), (1, .int (nI code))] [] (rf_mk M io (sW sg (va_up q 66 ch))) (fun r9 => ∃ (ch : Nat → Int32), (vdC sg my wh n code → ∀ i, i < n → ch i = nI (co n code i)) ∧ r9 = ((some (.int (pI (vdC sg my wh n code))), rf_mk M io (sW sg (va_up q 66 ch)))))
      refine r_iload_n rfl dc_14_54_9 ?_
      refine r_iflt (t := 88) (by decide) dc_14_54_10 (fun c_10 => ?_) (fun c_10 => ?_)
      · skip
        refine r_iconst (v := nI 1) (by decide) dc_14_54_88 ?_
        refine r_zret rfl (by decide) dc_14_54_89 ?_
        rw [pI_t (P := vdC sg my wh n code) (fun i hi => (hi_m i hi (by omega)).2)]
        exact ⟨ch, fun _ i hi => (hi_m i hi (by omega)).1, rfl⟩
      · exact absurd (by rw [Nat.sub_self]; decide) c_10
    · intro m h_m ih_m ch hi_m
      have h9 : n - 1 - m < n := by omega
      have hco : co n code (n - 1 - m) = dgt code m := by unfold co; rw [show n - 1 - (n - 1 - m) = m by omega]
      have hd5 := dgt_lt code m
      have hcq := cdq_le code m
      have h16 := hwh _ h9
      have t59 := inN_tN (h59 (n - 1 - m) h9) (by decide)
      show mm_Ru 0 (13, 4, false, prog_14_method_54_code, some .boolean) 9 [(3, .int (nI (n - m) - nI 1)), (2, .int (nI (cdq code m))), (0, .ref 100), (1, .int (nI code))] [] (rf_mk M io (sW sg (va_up q 66 ch))) (fun r9 => ∃ (ch : Nat → Int32), (vdC sg my wh n code → ∀ i, i < n → ch i = nI (co n code i)) ∧ r9 = ((some (.int (pI (vdC sg my wh n code))), rf_mk M io (sW sg (va_up q 66 ch)))))
      rw [show nI (n - m) - nI 1 = nI (n - 1 - m) from (pk_sub (by omega)).trans (congrArg nI (by omega))]
      refine r_iload_n rfl dc_14_54_9 ?_
      refine r_iflt (t := 88) (by decide) dc_14_54_10 (fun c_10 => ?_) (fun c_10 => ?_)
      · exact absurd c_10 (nI_pos (by omega))
      · skip
        refine r_aload_n rfl dc_14_54_13 ?_
        refine q_get (v := .ref 148) rx_153 hM rfl dc_14_54_14 ?_
        refine r_iload_n rfl dc_14_54_17 ?_
        refine r_iload_n rfl dc_14_54_18 ?_
        refine r_iconst (v := nI 5) (by decide) dc_14_54_19 ?_
        refine r_irem (v := nI (dgt code m)) (by decide) (rm_n (by omega) (by decide) (by decide)) dc_14_54_20 ?_
        refine q_ist (e := n - 1 - m) (k := 66) (by decide) (by decide) hM rfl rfl (show n - 1 - m < 7 by omega) (by omega) dc_14_54_21 ?_
        rw [sW_s 66 _ rfl]
        rw [va_up_up]
        refine r_iload_n rfl dc_14_54_22 ?_
        refine r_iconst (v := nI 5) (by decide) dc_14_54_23 ?_
        refine r_idiv (v := nI (cdq code (m + 1))) (by decide) (pk_div (by omega) (by decide) (by decide)) dc_14_54_24 ?_
        refine r_istore_n (ls' := [(2, .int (nI (cdq code (m + 1)))), (3, .int (nI (n - 1 - m))), (0, .ref 100), (1, .int (nI code))]) (by decide) rfl dc_14_54_25 ?_
        refine r_aload_n rfl dc_14_54_26 ?_
        refine q_get (v := .ref 148) rx_153 hM rfl dc_14_54_27 ?_
        refine r_iload_n rfl dc_14_54_30 ?_
        refine q_ild (e := n - 1 - m) (v := nI (dgt code m)) (by decide) (by decide) hM rfl (show n - 1 - m < 7 by omega) (by omega) (up_s _ _ _) dc_14_54_31 ?_
        refine r_iconst (v := nI 4) (by decide) dc_14_54_32 ?_
        refine r_ncge (t := 82) (by omega) (by omega) (by decide) dc_14_54_33 (fun c_33 => ?_) (fun c_33 => ?_)
        · skip
          refine r_iinc (x := nI (n - 1 - m)) (v := nI (n - 1 - m) + (-1)) (ls' := [(3, .int (nI (n - 1 - m) + (-1))), (2, .int (nI (cdq code (m + 1)))), (0, .ref 100), (1, .int (nI code))]) rfl (congrArg (fun z9 => (nI (n - 1 - m)) + z9) (by decide : Int32.ofInt (-1) = -1)) (by decide) rfl dc_14_54_82 ?_
          refine r_goto (t := 9) (by decide) dc_14_54_85 ?_
          rw [i_dec]
          exact ih_m (upd ch (n - 1 - m) (nI (dgt code m))) (fun i h1 h2 => if e : i = n - 1 - m then (by rw [e, hco]; exact ⟨if_pos rfl, Or.inl (by omega)⟩) else ⟨(if_neg e).trans (hi_m i h1 (by omega)).1, (hi_m i h1 (by omega)).2⟩)
        · skip
          refine r_aload_n rfl dc_14_54_36 ?_
          refine q_get (v := .ref 148) rx_153 hM rfl dc_14_54_37 ?_
          refine r_iload_n rfl dc_14_54_40 ?_
          refine q_ild (e := n - 1 - m) (v := nI (dgt code m)) (by decide) (by decide) hM rfl (show n - 1 - m < 7 by omega) (by omega) (up_s _ _ _) dc_14_54_41 ?_
          refine r_aload_n rfl dc_14_54_42 ?_
          refine q_get (v := .ref 141) rx_132 hM rfl dc_14_54_43 ?_
          refine r_aload_n rfl dc_14_54_46 ?_
          refine q_get (v := .ref 144) rx_141 hM rfl dc_14_54_47 ?_
          refine r_iload_n rfl dc_14_54_50 ?_
          refine q_ild (e := n - 1 - m) (v := nI (wh (n - 1 - m))) (by decide) (by decide) hM rfl (show n - 1 - m < 7 by omega) (by omega) (hq _ h9) dc_14_54_51 ?_
          refine q_ild (e := wh (n - 1 - m)) (v := nI (tN (sg 59 (wh (n - 1 - m))))) (by decide) (by decide) hM rfl (show wh (n - 1 - m) < 16 by omega) (by omega) (t59.1) dc_14_54_52 ?_
          refine r_ncge (t := 80) (by omega) (by omega) (by decide) dc_14_54_53 (fun c_53 => ?_) (fun c_53 => ?_)
          · skip
            refine r_iconst (v := nI 0) (by decide) dc_14_54_80 ?_
            refine r_zret rfl (by decide) dc_14_54_81 ?_
            have hno : ¬ vdC sg my wh n code := fun y => by
              have y2 := y _ h9
              rw [hco] at y2
              exact y2.elim (fun z => by omega) (fun z => by have := z.1; omega)
            rw [pI_f hno]
            exact ⟨_, fun y => absurd y hno, rfl⟩
          · skip
            refine r_aload_n rfl dc_14_54_56 ?_
            refine q_get (v := .ref 150) rx_159 hM rfl dc_14_54_57 ?_
            refine r_iconst (v := nI 4) (by decide) dc_14_54_60 ?_
            refine r_aload_n rfl dc_14_54_61 ?_
            refine q_get (v := .ref 144) rx_141 hM rfl dc_14_54_62 ?_
            refine r_iload_n rfl dc_14_54_65 ?_
            refine q_ild (e := n - 1 - m) (v := nI (wh (n - 1 - m))) (by decide) (by decide) hM rfl (show n - 1 - m < 7 by omega) (by omega) (hq _ h9) dc_14_54_66 ?_
            refine r_imul (v := nI (4 * (wh (n - 1 - m)))) (pk_mul _ _) dc_14_54_67 ?_
            refine r_aload_n rfl dc_14_54_68 ?_
            refine q_get (v := .ref 148) rx_153 hM rfl dc_14_54_69 ?_
            refine r_iload_n rfl dc_14_54_72 ?_
            refine q_ild (e := n - 1 - m) (v := nI (dgt code m)) (by decide) (by decide) hM rfl (show n - 1 - m < 7 by omega) (by omega) (up_s _ _ _) dc_14_54_73 ?_
            refine r_iadd (v := nI (4 * (wh (n - 1 - m)) + (dgt code m))) (nI_add _ _) dc_14_54_74 ?_
            refine q_ild (e := 4 * (wh (n - 1 - m)) + (dgt code m)) (v := q 68 (4 * wh (n - 1 - m) + dgt code m)) (by decide) (by decide) hM rfl (show 4 * (wh (n - 1 - m)) + (dgt code m) < 64 by omega) (by omega) (rfl) dc_14_54_75 ?_
            refine r_iconst (v := -1) (by decide) dc_14_54_76 ?_
            refine r_icne (t := 82) (by decide) dc_14_54_77 (fun c_77 => ?_) (fun c_77 => ?_)
            · skip
              refine r_iinc (x := nI (n - 1 - m)) (v := nI (n - 1 - m) + (-1)) (ls' := [(3, .int (nI (n - 1 - m) + (-1))), (2, .int (nI (cdq code (m + 1)))), (0, .ref 100), (1, .int (nI code))]) rfl (congrArg (fun z9 => (nI (n - 1 - m)) + z9) (by decide : Int32.ofInt (-1) = -1)) (by decide) rfl dc_14_54_82 ?_
              refine r_goto (t := 9) (by decide) dc_14_54_85 ?_
              rw [i_dec]
              exact ih_m (upd ch (n - 1 - m) (nI (dgt code m))) (fun i h1 h2 => if e : i = n - 1 - m then (by rw [e, hco]; exact ⟨if_pos rfl, Or.inr ⟨c_53, fun z => c_77 ((hmy _ h9 _ c_53).trans z)⟩⟩) else ⟨(if_neg e).trans (hi_m i h1 (by omega)).1, (hi_m i h1 (by omega)).2⟩)
            · skip
              refine r_iconst (v := nI 0) (by decide) dc_14_54_80 ?_
              refine r_zret rfl (by decide) dc_14_54_81 ?_
              have hno : ¬ vdC sg my wh n code := fun y => by
                have y2 := y _ h9
                rw [hco] at y2
                exact y2.elim (fun z => by omega) (fun z => z.2 ((hmy _ h9 _ c_53).symm.trans c_77))
              rw [pI_f hno]
              exact ⟨_, fun y => absurd y hno, rfl⟩
  obtain ⟨z9, ⟨ch, p9, e9⟩, h9⟩ := hq9
  subst e9
  exact ⟨ch, p9, h9⟩
noncomputable def sp_ot (sg : Nat → Nat → Int32) (wh c : Nat → Nat) (old : Nat → Int32) (n : Nat) : Int32 := sp_sum (fun i => pI (¬ P57 sg wh c i = old i)) n
set_option maxHeartbeats 4000000 in
theorem c_others (M : mH) (hM : 157 ≤ M.1) (io : Nat → Int32) (sg : Nat → Nat → Int32) (n : Nat) (h71 : io 71 = nI n) (hn7 : n ≤ 7) (wh : Nat → Nat) (hwh : ∀ i, i < n → wh i < 16) (q my : Nat → Nat → Int32) (hq : ∀ i, i < n → q 62 i = nI (wh i)) (c : Nat → Nat) (hc : ∀ i, i < n → q 66 i = nI (c i)) (hc4 : ∀ i, i < n → c i ≤ 4) : mm_Ev 1 239 [.ref 100] (rf_mk M io (sW sg q)) ((some (.int (sp_ot sg wh c (q 64) n)), rf_mk M io (sW sg q))) := by
  refine r_ev (by decide +kernel) (show (1 : Nat) ≤ mm_nL 239 by decide +kernel) ?_
  show mm_Ru 0 (13, 4, false, prog_14_method_55_code, some .int) 0 [(0, .ref 100)] [] (rf_mk M io (sW sg q)) (fun r9 => r9 = ((some (.int (sp_ot sg wh c (q 64) n)), rf_mk M io (sW sg q))))
  refine r_iconst (v := nI 0) (by decide) dc_14_55_0 ?_
  refine r_istore_n (ls' := [(1, .int (nI 0)), (0, .ref 100)]) (by decide) rfl dc_14_55_1 ?_
  refine r_iconst (v := nI 0) (by decide) dc_14_55_2 ?_
  refine r_istore_n (ls' := [(2, .int (nI 0)), (1, .int (nI 0)), (0, .ref 100)]) (by decide) rfl dc_14_55_3 ?_
  refine mm_cnt (P := fun m => ∀ (acc : Int32), (acc = sp_sum (fun i => pI (¬ P57 sg wh c i = q 64 i)) m) → mm_Ru 0 (13, 4, false, prog_14_method_55_code, some .int) 4 [(2, .int (nI m)), (1, .int acc), (0, .ref 100)] [] (rf_mk M io (sW sg q)) (fun r9 => r9 = ((some (.int (sp_ot sg wh c (q 64) n)), rf_mk M io (sW sg q))))) n ?_ ?_ 0 (by omega) (nI 0) (rfl)
  · intro acc hi_m
    show mm_Ru 0 (13, 4, false, prog_14_method_55_code, some .int) 4 [(2, .int (nI n)), (1, .int acc), (0, .ref 100)] [] (rf_mk M io (sW sg q)) (fun r9 => r9 = ((some (.int (sp_ot sg wh c (q 64) n)), rf_mk M io (sW sg q))))
    refine r_iload_n rfl dc_14_55_4 ?_
    refine r_aload_n rfl dc_14_55_5 ?_
    refine q_get (v := .int (nI n)) rx_353 hM (congrArg (fun z => some (Value.int z)) (h71)) dc_14_55_6 ?_
    refine r_ncge (t := 71) (by omega) (by omega) (by decide) dc_14_55_9 (fun c_9 => ?_) (fun c_9 => ?_)
    · skip
      refine r_iload_n rfl dc_14_55_71 ?_
      refine r_iret rfl dc_14_55_72 ?_
      rw [hi_m]
      rfl
    · omega
  · intro m h_m ih_m acc hi_m
    have h16 := hwh m h_m
    have h44 := hc4 m h_m
    show mm_Ru 0 (13, 4, false, prog_14_method_55_code, some .int) 4 [(2, .int (nI m)), (1, .int acc), (0, .ref 100)] [] (rf_mk M io (sW sg q)) (fun r9 => r9 = ((some (.int (sp_ot sg wh c (q 64) n)), rf_mk M io (sW sg q))))
    refine r_iload_n rfl dc_14_55_4 ?_
    refine r_aload_n rfl dc_14_55_5 ?_
    refine q_get (v := .int (nI n)) rx_353 hM (congrArg (fun z => some (Value.int z)) (h71)) dc_14_55_6 ?_
    refine r_ncge (t := 71) (by omega) (by omega) (by decide) dc_14_55_9 (fun c_9 => ?_) (fun c_9 => ?_)
    · omega
    · skip
      refine r_aload_n rfl dc_14_55_12 ?_
      refine q_get (v := .ref 148) rx_153 hM rfl dc_14_55_13 ?_
      refine r_iload_n rfl dc_14_55_16 ?_
      refine q_ild (e := m) (v := nI (c m)) (by decide) (by decide) hM rfl (show m < 7 by omega) (by omega) (hc m h_m) dc_14_55_17 ?_
      refine r_iconst (v := nI 4) (by decide) dc_14_55_18 ?_
      refine r_ncne (t := 26) (by omega) (by omega) (by decide) dc_14_55_19 (fun c_19 => ?_) (fun c_19 => ?_)
      · skip
        refine r_aload_n rfl dc_14_55_26 ?_
        refine q_get (v := .ref 142) rx_135 hM rfl dc_14_55_27 ?_
        refine r_iconst (v := nI 4) (by decide) dc_14_55_30 ?_
        refine r_aload_n rfl dc_14_55_31 ?_
        refine q_get (v := .ref 144) rx_141 hM rfl dc_14_55_32 ?_
        refine r_iload_n rfl dc_14_55_35 ?_
        refine q_ild (e := m) (v := nI (wh m)) (by decide) (by decide) hM rfl (show m < 7 by omega) (by omega) (hq m h_m) dc_14_55_36 ?_
        refine r_imul (v := nI (4 * (wh m))) (pk_mul _ _) dc_14_55_37 ?_
        refine r_aload_n rfl dc_14_55_38 ?_
        refine q_get (v := .ref 148) rx_153 hM rfl dc_14_55_39 ?_
        refine r_iload_n rfl dc_14_55_42 ?_
        refine q_ild (e := m) (v := nI (c m)) (by decide) (by decide) hM rfl (show m < 7 by omega) (by omega) (hc m h_m) dc_14_55_43 ?_
        refine r_iadd (v := nI (4 * (wh m) + (c m))) (nI_add _ _) dc_14_55_44 ?_
        refine q_ild (e := 4 * (wh m) + (c m)) (v := (sW sg q) 60 (4 * (wh m) + (c m))) (by decide) (by decide) hM rfl (show 4 * (wh m) + (c m) < 64 by omega) (by omega) (rfl) dc_14_55_45 ?_
        refine r_istore_n (ls' := [(3, .int ((sW sg q) 60 (4 * (wh m) + (c m)))), (2, .int (nI m)), (1, .int acc), (0, .ref 100)]) (by decide) rfl dc_14_55_46 ?_
        refine r_iload_n rfl dc_14_55_47 ?_
        refine r_iload_n rfl dc_14_55_48 ?_
        refine r_aload_n rfl dc_14_55_49 ?_
        refine q_get (v := .ref 146) rx_147 hM rfl dc_14_55_50 ?_
        refine r_iload_n rfl dc_14_55_53 ?_
        refine q_ild (e := m) (v := (sW sg q) 64 m) (by decide) (by decide) hM rfl (show m < 7 by omega) (by omega) (rfl) dc_14_55_54 ?_
        refine r_iceq (t := 62) (by decide) dc_14_55_55 (fun c_55 => ?_) (fun c_55 => ?_)
        · skip
          refine r_iconst (v := nI 0) (by decide) dc_14_55_62 ?_
          refine r_iadd (v := acc + (nI 0)) (rfl) dc_14_55_63 ?_
          refine r_istore_n (ls' := [(1, .int (acc + (nI 0))), (3, .int ((sW sg q) 60 (4 * (wh m) + (c m)))), (2, .int (nI m)), (0, .ref 100)]) (by decide) rfl dc_14_55_64 ?_
          refine r_iinc (x := nI m) (v := nI (m + 1)) (ls' := [(2, .int (nI (m + 1))), (1, .int (acc + (nI 0))), (3, .int ((sW sg q) 60 (4 * (wh m) + (c m)))), (0, .ref 100)]) rfl (nI_1 _) (by decide) rfl dc_14_55_65 ?_
          refine r_goto (t := 4) (by decide) dc_14_55_68 ?_
          refine r_ls [(2, .int (nI (m + 1))), (1, .int (acc + (nI 0))), (0, .ref 100)] (mm_ndk_of [2, 1, 0] rfl (by decide)) (mm_sub_cons rfl (mm_sub_cons rfl (mm_sub_cons rfl (mm_sub_nil _)))) ?_
          exact ih_m (acc + (nI 0)) (sp_add hi_m (pI_f (fun z => z ((if_neg c_19 : P57 sg wh c m = _).trans c_55))))
        · skip
          refine r_iconst (v := nI 1) (by decide) dc_14_55_58 ?_
          refine r_goto (t := 63) (by decide) dc_14_55_59 ?_
          refine r_iadd (v := acc + (nI 1)) (rfl) dc_14_55_63 ?_
          refine r_istore_n (ls' := [(1, .int (acc + (nI 1))), (3, .int ((sW sg q) 60 (4 * (wh m) + (c m)))), (2, .int (nI m)), (0, .ref 100)]) (by decide) rfl dc_14_55_64 ?_
          refine r_iinc (x := nI m) (v := nI (m + 1)) (ls' := [(2, .int (nI (m + 1))), (1, .int (acc + (nI 1))), (3, .int ((sW sg q) 60 (4 * (wh m) + (c m)))), (0, .ref 100)]) rfl (nI_1 _) (by decide) rfl dc_14_55_65 ?_
          refine r_goto (t := 4) (by decide) dc_14_55_68 ?_
          refine r_ls [(2, .int (nI (m + 1))), (1, .int (acc + (nI 1))), (0, .ref 100)] (mm_ndk_of [2, 1, 0] rfl (by decide)) (mm_sub_cons rfl (mm_sub_cons rfl (mm_sub_cons rfl (mm_sub_nil _)))) ?_
          exact ih_m (acc + (nI 1)) (sp_add hi_m (pI_t (fun z => c_55 ((if_neg c_19 : P57 sg wh c m = _).symm.trans z))))
      · skip
        refine r_iconst (v := -1) (by decide) dc_14_55_22 ?_
        refine r_goto (t := 46) (by decide) dc_14_55_23 ?_
        refine r_istore_n (ls' := [(3, .int ((-1))), (2, .int (nI m)), (1, .int acc), (0, .ref 100)]) (by decide) rfl dc_14_55_46 ?_
        refine r_iload_n rfl dc_14_55_47 ?_
        refine r_iload_n rfl dc_14_55_48 ?_
        refine r_aload_n rfl dc_14_55_49 ?_
        refine q_get (v := .ref 146) rx_147 hM rfl dc_14_55_50 ?_
        refine r_iload_n rfl dc_14_55_53 ?_
        refine q_ild (e := m) (v := (sW sg q) 64 m) (by decide) (by decide) hM rfl (show m < 7 by omega) (by omega) (rfl) dc_14_55_54 ?_
        refine r_iceq (t := 62) (by decide) dc_14_55_55 (fun c_55 => ?_) (fun c_55 => ?_)
        · skip
          refine r_iconst (v := nI 0) (by decide) dc_14_55_62 ?_
          refine r_iadd (v := acc + (nI 0)) (rfl) dc_14_55_63 ?_
          refine r_istore_n (ls' := [(1, .int (acc + (nI 0))), (3, .int ((-1))), (2, .int (nI m)), (0, .ref 100)]) (by decide) rfl dc_14_55_64 ?_
          refine r_iinc (x := nI m) (v := nI (m + 1)) (ls' := [(2, .int (nI (m + 1))), (1, .int (acc + (nI 0))), (3, .int ((-1))), (0, .ref 100)]) rfl (nI_1 _) (by decide) rfl dc_14_55_65 ?_
          refine r_goto (t := 4) (by decide) dc_14_55_68 ?_
          refine r_ls [(2, .int (nI (m + 1))), (1, .int (acc + (nI 0))), (0, .ref 100)] (mm_ndk_of [2, 1, 0] rfl (by decide)) (mm_sub_cons rfl (mm_sub_cons rfl (mm_sub_cons rfl (mm_sub_nil _)))) ?_
          exact ih_m (acc + (nI 0)) (sp_add hi_m (pI_f (fun z => z ((if_pos c_19 : P57 sg wh c m = _).trans c_55))))
        · skip
          refine r_iconst (v := nI 1) (by decide) dc_14_55_58 ?_
          refine r_goto (t := 63) (by decide) dc_14_55_59 ?_
          refine r_iadd (v := acc + (nI 1)) (rfl) dc_14_55_63 ?_
          refine r_istore_n (ls' := [(1, .int (acc + (nI 1))), (3, .int ((-1))), (2, .int (nI m)), (0, .ref 100)]) (by decide) rfl dc_14_55_64 ?_
          refine r_iinc (x := nI m) (v := nI (m + 1)) (ls' := [(2, .int (nI (m + 1))), (1, .int (acc + (nI 1))), (3, .int ((-1))), (0, .ref 100)]) rfl (nI_1 _) (by decide) rfl dc_14_55_65 ?_
          refine r_goto (t := 4) (by decide) dc_14_55_68 ?_
          refine r_ls [(2, .int (nI (m + 1))), (1, .int (acc + (nI 1))), (0, .ref 100)] (mm_ndk_of [2, 1, 0] rfl (by decide)) (mm_sub_cons rfl (mm_sub_cons rfl (mm_sub_cons rfl (mm_sub_nil _)))) ?_
          exact ih_m (acc + (nI 1)) (sp_add hi_m (pI_t (fun z => c_55 ((if_pos c_19 : P57 sg wh c m = _).symm.trans z))))
set_option maxHeartbeats 4000000 in
theorem c_serves (M : mH) (hM : 157 ≤ M.1) (io : Nat → Int32) (sg : Nat → Nat → Int32) (n : Nat) (h71 : io 71 = nI n) (hn7 : n ≤ 7) (wh : Nat → Nat) (hwh : ∀ i, i < n → wh i < 16) (q my : Nat → Nat → Int32) (hq : ∀ i, i < n → q 62 i = nI (wh i)) (c : Nat → Nat) (hc : ∀ i, i < n → q 66 i = nI (c i)) (hc4 : ∀ i, i < n → c i ≤ 4) : ∃ (f69 : Nat → Int32), (∀ k, k < 4 → f69 k = nI (ct c k n)) ∧ mm_Ev 1 240 [.ref 100] (rf_mk M io (sW sg q)) ((none, rf_mk M io (sW sg (va_up q 69 f69)))) := by
  have hq9 : ∃ z, (fun r9 => ∃ (f69 : Nat → Int32), (∀ k, k < 4 → f69 k = nI (ct c k n)) ∧ r9 = ((none, rf_mk M io (sW sg (va_up q 69 f69))))) z ∧ mm_Ev 1 240 [.ref 100] (rf_mk M io (sW sg q)) z := by
    refine r_evQ (by decide +kernel) (show (1 : Nat) ≤ mm_nL 240 by decide +kernel) ?_
    show mm_Ru 0 (13, 2, false, prog_14_method_56_code, none) 0 [(0, .ref 100)] [] (rf_mk M io (sW sg q)) (fun r9 => ∃ (f69 : Nat → Int32), (∀ k, k < 4 → f69 k = nI (ct c k n)) ∧ r9 = ((none, rf_mk M io (sW sg (va_up q 69 f69)))))
    refine r_iconst (v := nI 0) (by decide) dc_14_56_0 ?_
    refine r_istore_n (ls' := [(1, .int (nI 0)), (0, .ref 100)]) (by decide) rfl dc_14_56_1 ?_
    refine r_iload_n rfl dc_14_56_2 ?_
    refine r_iconst (v := nI 4) (by decide) dc_14_56_3 ?_
    refine r_ncge (t := 20) (by omega) (by omega) (by decide) dc_14_56_4 (fun c_4 => ?_) (fun c_4 => ?_)
    · omega
    · skip
      refine r_aload_n rfl dc_14_56_7 ?_
      refine q_get (v := .ref 151) rx_162 hM rfl dc_14_56_8 ?_
      refine r_iload_n rfl dc_14_56_11 ?_
      refine r_iconst (v := nI 0) (by decide) dc_14_56_12 ?_
      refine q_ist (e := 0) (k := 69) (by decide) (by decide) hM rfl rfl (show 0 < 4 by omega) (by omega) dc_14_56_13 ?_
      rw [sW_s 69 _ rfl]
      refine r_iinc (x := nI 0) (v := nI 1) (ls' := [(1, .int (nI 1)), (0, .ref 100)]) rfl (by decide) (by decide) rfl dc_14_56_14 ?_
      refine r_goto (t := 2) (by decide) dc_14_56_17 ?_
      refine r_iload_n rfl dc_14_56_2 ?_
      refine r_iconst (v := nI 4) (by decide) dc_14_56_3 ?_
      refine r_ncge (t := 20) (by omega) (by omega) (by decide) dc_14_56_4 (fun c_4 => ?_) (fun c_4 => ?_)
      · omega
      · skip
        refine r_aload_n rfl dc_14_56_7 ?_
        refine q_get (v := .ref 151) rx_162 hM rfl dc_14_56_8 ?_
        refine r_iload_n rfl dc_14_56_11 ?_
        refine r_iconst (v := nI 0) (by decide) dc_14_56_12 ?_
        refine q_ist (e := 1) (k := 69) (by decide) (by decide) hM rfl rfl (show 1 < 4 by omega) (by omega) dc_14_56_13 ?_
        rw [sW_s 69 _ rfl]
        refine r_iinc (x := nI 1) (v := nI 2) (ls' := [(1, .int (nI 2)), (0, .ref 100)]) rfl (by decide) (by decide) rfl dc_14_56_14 ?_
        refine r_goto (t := 2) (by decide) dc_14_56_17 ?_
        refine r_iload_n rfl dc_14_56_2 ?_
        refine r_iconst (v := nI 4) (by decide) dc_14_56_3 ?_
        refine r_ncge (t := 20) (by omega) (by omega) (by decide) dc_14_56_4 (fun c_4 => ?_) (fun c_4 => ?_)
        · omega
        · skip
          refine r_aload_n rfl dc_14_56_7 ?_
          refine q_get (v := .ref 151) rx_162 hM rfl dc_14_56_8 ?_
          refine r_iload_n rfl dc_14_56_11 ?_
          refine r_iconst (v := nI 0) (by decide) dc_14_56_12 ?_
          refine q_ist (e := 2) (k := 69) (by decide) (by decide) hM rfl rfl (show 2 < 4 by omega) (by omega) dc_14_56_13 ?_
          rw [sW_s 69 _ rfl]
          refine r_iinc (x := nI 2) (v := nI 3) (ls' := [(1, .int (nI 3)), (0, .ref 100)]) rfl (by decide) (by decide) rfl dc_14_56_14 ?_
          refine r_goto (t := 2) (by decide) dc_14_56_17 ?_
          refine r_iload_n rfl dc_14_56_2 ?_
          refine r_iconst (v := nI 4) (by decide) dc_14_56_3 ?_
          refine r_ncge (t := 20) (by omega) (by omega) (by decide) dc_14_56_4 (fun c_4 => ?_) (fun c_4 => ?_)
          · omega
          · skip
            refine r_aload_n rfl dc_14_56_7 ?_
            refine q_get (v := .ref 151) rx_162 hM rfl dc_14_56_8 ?_
            refine r_iload_n rfl dc_14_56_11 ?_
            refine r_iconst (v := nI 0) (by decide) dc_14_56_12 ?_
            refine q_ist (e := 3) (k := 69) (by decide) (by decide) hM rfl rfl (show 3 < 4 by omega) (by omega) dc_14_56_13 ?_
            rw [sW_s 69 _ rfl]
            refine r_iinc (x := nI 3) (v := nI 4) (ls' := [(1, .int (nI 4)), (0, .ref 100)]) rfl (by decide) (by decide) rfl dc_14_56_14 ?_
            refine r_goto (t := 2) (by decide) dc_14_56_17 ?_
            refine r_iload_n rfl dc_14_56_2 ?_
            refine r_iconst (v := nI 4) (by decide) dc_14_56_3 ?_
            refine r_ncge (t := 20) (by omega) (by omega) (by decide) dc_14_56_4 (fun c_4 => ?_) (fun c_4 => ?_)
            · skip
              refine r_iconst (v := nI 0) (by decide) dc_14_56_20 ?_
              refine r_istore_n (ls' := [(1, .int (nI 0)), (0, .ref 100)]) (by decide) rfl dc_14_56_21 ?_
              simp only [va_up_up]
              refine mm_cnt (P := fun m => ∀ (f9 : Nat → Int32), (∀ k, k < 4 → f9 k = nI (ct c k m)) → mm_Ru 0 (13, 2, false, prog_14_method_56_code, none) 22 [(1, .int (nI m)), (0, .ref 100)] [] (rf_mk M io (sW sg (va_up q 69 f9))) (fun r9 => ∃ (f69 : Nat → Int32), (∀ k, k < 4 → f69 k = nI (ct c k n)) ∧ r9 = ((none, rf_mk M io (sW sg (va_up q 69 f69)))))) n ?_ ?_ 0 (by omega) (upd (upd (upd (upd (q 69) 0 (nI 0)) 1 (nI 0)) 2 (nI 0)) 3 (nI 0)) (fun k hk => by rcases (by omega : k = 0 ∨ k = 1 ∨ k = 2 ∨ k = 3) with rfl | rfl | rfl | rfl <;> rfl)
              · intro f9 hi_m
                show mm_Ru 0 (13, 2, false, prog_14_method_56_code, none) 22 [(1, .int (nI n)), (0, .ref 100)] [] (rf_mk M io (sW sg (va_up q 69 f9))) (fun r9 => ∃ (f69 : Nat → Int32), (∀ k, k < 4 → f69 k = nI (ct c k n)) ∧ r9 = ((none, rf_mk M io (sW sg (va_up q 69 f69)))))
                refine r_iload_n rfl dc_14_56_22 ?_
                refine r_aload_n rfl dc_14_56_23 ?_
                refine q_get (v := .int (nI n)) rx_353 hM (congrArg (fun z => some (Value.int z)) (h71)) dc_14_56_24 ?_
                refine r_ncge (t := 70) (by omega) (by omega) (by decide) dc_14_56_27 (fun c_27 => ?_) (fun c_27 => ?_)
                · skip
                  refine r_vret rfl dc_14_56_70 ?_
                  exact ⟨f9, hi_m, rfl⟩
                · omega
              · intro m h_m ih_m f9 hi_m
                have h44 := hc4 m h_m
                have hct := ct_le c (c m) m
                show mm_Ru 0 (13, 2, false, prog_14_method_56_code, none) 22 [(1, .int (nI m)), (0, .ref 100)] [] (rf_mk M io (sW sg (va_up q 69 f9))) (fun r9 => ∃ (f69 : Nat → Int32), (∀ k, k < 4 → f69 k = nI (ct c k n)) ∧ r9 = ((none, rf_mk M io (sW sg (va_up q 69 f69)))))
                refine r_iload_n rfl dc_14_56_22 ?_
                refine r_aload_n rfl dc_14_56_23 ?_
                refine q_get (v := .int (nI n)) rx_353 hM (congrArg (fun z => some (Value.int z)) (h71)) dc_14_56_24 ?_
                refine r_ncge (t := 70) (by omega) (by omega) (by decide) dc_14_56_27 (fun c_27 => ?_) (fun c_27 => ?_)
                · omega
                · skip
                  refine r_aload_n rfl dc_14_56_30 ?_
                  refine q_get (v := .ref 148) rx_153 hM rfl dc_14_56_31 ?_
                  refine r_iload_n rfl dc_14_56_34 ?_
                  refine q_ild (e := m) (v := nI (c m)) (by decide) (by decide) hM rfl (show m < 7 by omega) (by omega) (hc m h_m) dc_14_56_35 ?_
                  refine r_iconst (v := nI 4) (by decide) dc_14_56_36 ?_
                  refine r_ncge (t := 64) (by omega) (by omega) (by decide) dc_14_56_37 (fun c_37 => ?_) (fun c_37 => ?_)
                  · skip
                    refine r_iinc (x := nI m) (v := nI (m + 1)) (ls' := [(1, .int (nI (m + 1))), (0, .ref 100)]) rfl (nI_1 _) (by decide) rfl dc_14_56_64 ?_
                    refine r_goto (t := 22) (by decide) dc_14_56_67 ?_
                    exact ih_m f9 (fun k hk => (hi_m k hk).trans (congrArg nI (if_neg (by omega)).symm))
                  · skip
                    refine r_aload_n rfl dc_14_56_40 ?_
                    refine q_get (v := .ref 151) rx_162 hM rfl dc_14_56_41 ?_
                    refine r_aload_n rfl dc_14_56_44 ?_
                    refine q_get (v := .ref 148) rx_153 hM rfl dc_14_56_45 ?_
                    refine r_iload_n rfl dc_14_56_48 ?_
                    refine q_ild (e := m) (v := nI (c m)) (by decide) (by decide) hM rfl (show m < 7 by omega) (by omega) (hc m h_m) dc_14_56_49 ?_
                    refine r_aload_n rfl dc_14_56_50 ?_
                    refine q_get (v := .ref 151) rx_162 hM rfl dc_14_56_51 ?_
                    refine r_aload_n rfl dc_14_56_54 ?_
                    refine q_get (v := .ref 148) rx_153 hM rfl dc_14_56_55 ?_
                    refine r_iload_n rfl dc_14_56_58 ?_
                    refine q_ild (e := m) (v := nI (c m)) (by decide) (by decide) hM rfl (show m < 7 by omega) (by omega) (hc m h_m) dc_14_56_59 ?_
                    refine q_ild (e := c m) (v := nI (ct c (c m) m)) (by decide) (by decide) hM rfl (show c m < 4 by omega) (by omega) (hi_m (c m) c_37) dc_14_56_60 ?_
                    refine r_iconst (v := nI 1) (by decide) dc_14_56_61 ?_
                    refine r_iadd (v := nI (ct c (c m) m + 1)) (nI_add _ _) dc_14_56_62 ?_
                    refine q_ist (e := c m) (k := 69) (by decide) (by decide) hM rfl rfl (show c m < 4 by omega) (by omega) dc_14_56_63 ?_
                    rw [sW_s 69 _ rfl]
                    refine r_iinc (x := nI m) (v := nI (m + 1)) (ls' := [(1, .int (nI (m + 1))), (0, .ref 100)]) rfl (nI_1 _) (by decide) rfl dc_14_56_64 ?_
                    refine r_goto (t := 22) (by decide) dc_14_56_67 ?_
                    rw [va_up_up]
                    exact ih_m (upd f9 (c m) (nI (ct c (c m) m + 1))) (fun k hk => if e : k = c m then (by subst e; exact (if_pos rfl).trans (congrArg nI (if_pos rfl).symm)) else (if_neg e).trans ((hi_m k hk).trans (congrArg nI (if_neg (fun z => e z.symm)).symm)))
            · omega
  obtain ⟨z9, ⟨f69, p9, e9⟩, h9⟩ := hq9
  subst e9
  exact ⟨f69, p9, h9⟩
set_option maxHeartbeats 4000000 in
theorem c_isFairer (M : mH) (hM : 157 ≤ M.1) (io : Nat → Int32) (sg : Nat → Nat → Int32) (q : Nat → Nat → Int32) (a b : Nat → Nat) (ha : ∀ k, k < 4 → q 69 k = nI (a k)) (hb : ∀ k, k < 4 → q 70 k = nI (b k)) (hab : ∀ k, k < 4 → a k ≤ 7 ∧ b k ≤ 7) : mm_Ev 1 241 [.ref 100] (rf_mk M io (sW sg q)) ((some (.int (pI (lexgt a b))), rf_mk M io (sW sg q))) := by
  refine r_ev (by decide +kernel) (show (1 : Nat) ≤ mm_nL 241 by decide +kernel) ?_
  show mm_Ru 0 (13, 2, false, prog_14_method_57_code, some .boolean) 0 [(0, .ref 100)] [] (rf_mk M io (sW sg q)) (fun r9 => r9 = ((some (.int (pI (lexgt a b))), rf_mk M io (sW sg q))))
  refine r_iconst (v := nI 0) (by decide) dc_14_57_0 ?_
  refine r_istore_n (ls' := [(1, .int (nI 0)), (0, .ref 100)]) (by decide) rfl dc_14_57_1 ?_
  refine mm_cnt (P := fun m => (∀ j, j < m → a j = b j) → mm_Ru 0 (13, 2, false, prog_14_method_57_code, some .boolean) 2 [(1, .int (nI m)), (0, .ref 100)] [] (rf_mk M io (sW sg q)) (fun r9 => r9 = ((some (.int (pI (lexgt a b))), rf_mk M io (sW sg q))))) 4 ?_ ?_ 0 (by omega) (fun j hj => absurd hj (Nat.not_lt_zero j))
  · intro  hi_m
    show mm_Ru 0 (13, 2, false, prog_14_method_57_code, some .boolean) 2 [(1, .int (nI 4)), (0, .ref 100)] [] (rf_mk M io (sW sg q)) (fun r9 => r9 = ((some (.int (pI (lexgt a b))), rf_mk M io (sW sg q))))
    refine r_iload_n rfl dc_14_57_2 ?_
    refine r_iconst (v := nI 4) (by decide) dc_14_57_3 ?_
    refine r_ncge (t := 49) (by omega) (by omega) (by decide) dc_14_57_4 (fun c_4 => ?_) (fun c_4 => ?_)
    · skip
      refine r_iconst (v := nI 0) (by decide) dc_14_57_49 ?_
      refine r_zret rfl (by decide) dc_14_57_50 ?_
      rw [pI_f (P := lexgt a b) (fun z => by obtain ⟨k, z1, z2, z3⟩ := z; have := hi_m k z1; omega)]
    · omega
  · intro m h_m ih_m  hi_m
    have h7 := hab m h_m
    show mm_Ru 0 (13, 2, false, prog_14_method_57_code, some .boolean) 2 [(1, .int (nI m)), (0, .ref 100)] [] (rf_mk M io (sW sg q)) (fun r9 => r9 = ((some (.int (pI (lexgt a b))), rf_mk M io (sW sg q))))
    refine r_iload_n rfl dc_14_57_2 ?_
    refine r_iconst (v := nI 4) (by decide) dc_14_57_3 ?_
    refine r_ncge (t := 49) (by omega) (by omega) (by decide) dc_14_57_4 (fun c_4 => ?_) (fun c_4 => ?_)
    · omega
    · skip
      refine r_aload_n rfl dc_14_57_7 ?_
      refine q_get (v := .ref 151) rx_162 hM rfl dc_14_57_8 ?_
      refine r_iload_n rfl dc_14_57_11 ?_
      refine q_ild (e := m) (v := nI (a m)) (by decide) (by decide) hM rfl (show m < 4 by omega) (by omega) (ha m h_m) dc_14_57_12 ?_
      refine r_aload_n rfl dc_14_57_13 ?_
      refine q_get (v := .ref 152) rx_165 hM rfl dc_14_57_14 ?_
      refine r_iload_n rfl dc_14_57_17 ?_
      refine q_ild (e := m) (v := nI (b m)) (by decide) (by decide) hM rfl (show m < 4 by omega) (by omega) (hb m h_m) dc_14_57_18 ?_
      refine r_nceq (t := 43) (by omega) (by omega) (by decide) dc_14_57_19 (fun c_19 => ?_) (fun c_19 => ?_)
      · skip
        refine r_iinc (x := nI m) (v := nI (m + 1)) (ls' := [(1, .int (nI (m + 1))), (0, .ref 100)]) rfl (nI_1 _) (by decide) rfl dc_14_57_43 ?_
        refine r_goto (t := 2) (by decide) dc_14_57_46 ?_
        exact ih_m (fun j hj => if e : j = m then e ▸ c_19 else hi_m j (by omega))
      · skip
        refine r_aload_n rfl dc_14_57_22 ?_
        refine q_get (v := .ref 151) rx_162 hM rfl dc_14_57_23 ?_
        refine r_iload_n rfl dc_14_57_26 ?_
        refine q_ild (e := m) (v := nI (a m)) (by decide) (by decide) hM rfl (show m < 4 by omega) (by omega) (ha m h_m) dc_14_57_27 ?_
        refine r_aload_n rfl dc_14_57_28 ?_
        refine q_get (v := .ref 152) rx_165 hM rfl dc_14_57_29 ?_
        refine r_iload_n rfl dc_14_57_32 ?_
        refine q_ild (e := m) (v := nI (b m)) (by decide) (by decide) hM rfl (show m < 4 by omega) (by omega) (hb m h_m) dc_14_57_33 ?_
        refine r_ncle (t := 41) (by omega) (by omega) (by decide) dc_14_57_34 (fun c_34 => ?_) (fun c_34 => ?_)
        · skip
          refine r_iconst (v := nI 0) (by decide) dc_14_57_41 ?_
          refine r_zret rfl (by decide) dc_14_57_42 ?_
          rw [pI_f (P := lexgt a b) ?_]
          rintro ⟨k, z1, z2, z3⟩
          by_cases e : k < m
          · have := hi_m k e; omega
          · by_cases e2 : k = m
            · subst e2; omega
            · exact c_19 (z2 m (by omega))
        · skip
          refine r_iconst (v := nI 1) (by decide) dc_14_57_37 ?_
          refine r_goto (t := 42) (by decide) dc_14_57_38 ?_
          refine r_zret rfl (by decide) dc_14_57_42 ?_
          rw [pI_t (P := lexgt a b) ⟨m, h_m, hi_m, c_34⟩]
