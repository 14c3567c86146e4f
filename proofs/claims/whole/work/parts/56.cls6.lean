/-! agreements: small methods -/
theorem dc_2_2_0 : decode prog_2_method_2_code 0 = .ok (.iload_n 1, 1) := by decide +kernel
theorem dc_2_2_1 : decode prog_2_method_2_code 1 = .ok (.aload_n 0, 1) := by decide +kernel
theorem dc_2_2_2 : decode prog_2_method_2_code 2 = .ok (.getfield 35, 3) := by decide +kernel
theorem dc_2_2_5 : decode prog_2_method_2_code 5 = .ok (.aload_n 0, 1) := by decide +kernel
theorem dc_2_2_6 : decode prog_2_method_2_code 6 = .ok (.getfield 39, 3) := by decide +kernel
theorem dc_2_2_9 : decode prog_2_method_2_code 9 = .ok (.invokestatic 54, 3) := by decide +kernel
theorem dc_2_2_12 : decode prog_2_method_2_code 12 = .ok (.ireturn, 1) := by decide +kernel
theorem dc_2_3_0 : decode prog_2_method_3_code 0 = .ok (.aload_n 0, 1) := by decide +kernel
theorem dc_2_3_1 : decode prog_2_method_3_code 1 = .ok (.getfield 9, 3) := by decide +kernel
theorem dc_2_3_4 : decode prog_2_method_3_code 4 = .ok (.iload_n 1, 1) := by decide +kernel
theorem dc_2_3_5 : decode prog_2_method_3_code 5 = .ok (.if_icmp .ne 11, 3) := by decide +kernel
theorem dc_2_3_8 : decode prog_2_method_3_code 8 = .ok (.aload_n 0, 1) := by decide +kernel
theorem dc_2_3_9 : decode prog_2_method_3_code 9 = .ok (.getfield 15, 3) := by decide +kernel
theorem dc_2_3_12 : decode prog_2_method_3_code 12 = .ok (.iload_n 2, 1) := by decide +kernel
theorem dc_2_3_13 : decode prog_2_method_3_code 13 = .ok (.if_icmp .eq 19, 3) := by decide +kernel
theorem dc_2_3_16 : decode prog_2_method_3_code 16 = .ok (.aload_n 0, 1) := by decide +kernel
theorem dc_2_3_17 : decode prog_2_method_3_code 17 = .ok (.getfield 9, 3) := by decide +kernel
theorem dc_2_3_20 : decode prog_2_method_3_code 20 = .ok (.iload_n 2, 1) := by decide +kernel
theorem dc_2_3_21 : decode prog_2_method_3_code 21 = .ok (.if_icmp .ne 15, 3) := by decide +kernel
theorem dc_2_3_24 : decode prog_2_method_3_code 24 = .ok (.aload_n 0, 1) := by decide +kernel
theorem dc_2_3_25 : decode prog_2_method_3_code 25 = .ok (.getfield 15, 3) := by decide +kernel
theorem dc_2_3_28 : decode prog_2_method_3_code 28 = .ok (.iload_n 1, 1) := by decide +kernel
theorem dc_2_3_29 : decode prog_2_method_3_code 29 = .ok (.if_icmp .ne 7, 3) := by decide +kernel
theorem dc_2_3_32 : decode prog_2_method_3_code 32 = .ok (.iconst 1, 1) := by decide +kernel
theorem dc_2_3_33 : decode prog_2_method_3_code 33 = .ok (.goto 4, 3) := by decide +kernel
theorem dc_2_3_36 : decode prog_2_method_3_code 36 = .ok (.iconst 0, 1) := by decide +kernel
theorem dc_2_3_37 : decode prog_2_method_3_code 37 = .ok (.ireturn, 1) := by decide +kernel
theorem dc_2_4_0 : decode prog_2_method_4_code 0 = .ok (.aload_n 0, 1) := by decide +kernel
theorem dc_2_4_1 : decode prog_2_method_4_code 1 = .ok (.aload_n 1, 1) := by decide +kernel
theorem dc_2_4_2 : decode prog_2_method_4_code 2 = .ok (.getfield 9, 3) := by decide +kernel
theorem dc_2_4_5 : decode prog_2_method_4_code 5 = .ok (.aload_n 1, 1) := by decide +kernel
theorem dc_2_4_6 : decode prog_2_method_4_code 6 = .ok (.getfield 15, 3) := by decide +kernel
theorem dc_2_4_9 : decode prog_2_method_4_code 9 = .ok (.invokevirtual 58, 3) := by decide +kernel
theorem dc_2_4_12 : decode prog_2_method_4_code 12 = .ok (.ifCond .eq 29, 3) := by decide +kernel
theorem dc_2_4_15 : decode prog_2_method_4_code 15 = .ok (.aload_n 0, 1) := by decide +kernel
theorem dc_2_4_16 : decode prog_2_method_4_code 16 = .ok (.getfield 35, 3) := by decide +kernel
theorem dc_2_4_19 : decode prog_2_method_4_code 19 = .ok (.aload_n 1, 1) := by decide +kernel
theorem dc_2_4_20 : decode prog_2_method_4_code 20 = .ok (.getfield 39, 3) := by decide +kernel
theorem dc_2_4_23 : decode prog_2_method_4_code 23 = .ok (.if_icmp .gt 18, 3) := by decide +kernel
theorem dc_2_4_26 : decode prog_2_method_4_code 26 = .ok (.aload_n 1, 1) := by decide +kernel
theorem dc_2_4_27 : decode prog_2_method_4_code 27 = .ok (.getfield 35, 3) := by decide +kernel
theorem dc_2_4_30 : decode prog_2_method_4_code 30 = .ok (.aload_n 0, 1) := by decide +kernel
theorem dc_2_4_31 : decode prog_2_method_4_code 31 = .ok (.getfield 39, 3) := by decide +kernel
theorem dc_2_4_34 : decode prog_2_method_4_code 34 = .ok (.if_icmp .gt 7, 3) := by decide +kernel
theorem dc_2_4_37 : decode prog_2_method_4_code 37 = .ok (.iconst 1, 1) := by decide +kernel
theorem dc_2_4_38 : decode prog_2_method_4_code 38 = .ok (.goto 4, 3) := by decide +kernel
theorem dc_2_4_41 : decode prog_2_method_4_code 41 = .ok (.iconst 0, 1) := by decide +kernel
theorem dc_2_4_42 : decode prog_2_method_4_code 42 = .ok (.ireturn, 1) := by decide +kernel
theorem dc_2_6_0 : decode prog_2_method_6_code 0 = .ok (.iload_n 1, 1) := by decide +kernel
theorem dc_2_6_1 : decode prog_2_method_6_code 1 = .ok (.tableswitch 87 0 7 #[47, 52, 57, 62, 67, 72, 77, 82], 47) := by decide +kernel
theorem dc_2_6_48 : decode prog_2_method_6_code 48 = .ok (.aload_n 0, 1) := by decide +kernel
theorem dc_2_6_49 : decode prog_2_method_6_code 49 = .ok (.getfield 9, 3) := by decide +kernel
theorem dc_2_6_52 : decode prog_2_method_6_code 52 = .ok (.ireturn, 1) := by decide +kernel
theorem dc_2_6_53 : decode prog_2_method_6_code 53 = .ok (.aload_n 0, 1) := by decide +kernel
theorem dc_2_6_54 : decode prog_2_method_6_code 54 = .ok (.getfield 15, 3) := by decide +kernel
theorem dc_2_6_57 : decode prog_2_method_6_code 57 = .ok (.ireturn, 1) := by decide +kernel
theorem dc_2_6_58 : decode prog_2_method_6_code 58 = .ok (.aload_n 0, 1) := by decide +kernel
theorem dc_2_6_59 : decode prog_2_method_6_code 59 = .ok (.getfield 23, 3) := by decide +kernel
theorem dc_2_6_62 : decode prog_2_method_6_code 62 = .ok (.ireturn, 1) := by decide +kernel
theorem dc_2_6_63 : decode prog_2_method_6_code 63 = .ok (.aload_n 0, 1) := by decide +kernel
theorem dc_2_6_64 : decode prog_2_method_6_code 64 = .ok (.getfield 27, 3) := by decide +kernel
theorem dc_2_6_67 : decode prog_2_method_6_code 67 = .ok (.ireturn, 1) := by decide +kernel
theorem dc_2_6_68 : decode prog_2_method_6_code 68 = .ok (.aload_n 0, 1) := by decide +kernel
theorem dc_2_6_69 : decode prog_2_method_6_code 69 = .ok (.getfield 31, 3) := by decide +kernel
theorem dc_2_6_72 : decode prog_2_method_6_code 72 = .ok (.ireturn, 1) := by decide +kernel
theorem dc_2_6_73 : decode prog_2_method_6_code 73 = .ok (.aload_n 0, 1) := by decide +kernel
theorem dc_2_6_74 : decode prog_2_method_6_code 74 = .ok (.getfield 35, 3) := by decide +kernel
theorem dc_2_6_77 : decode prog_2_method_6_code 77 = .ok (.ireturn, 1) := by decide +kernel
theorem dc_2_6_78 : decode prog_2_method_6_code 78 = .ok (.aload_n 0, 1) := by decide +kernel
theorem dc_2_6_79 : decode prog_2_method_6_code 79 = .ok (.getfield 39, 3) := by decide +kernel
theorem dc_2_6_82 : decode prog_2_method_6_code 82 = .ok (.ireturn, 1) := by decide +kernel
theorem dc_2_6_83 : decode prog_2_method_6_code 83 = .ok (.aload_n 0, 1) := by decide +kernel
theorem dc_2_6_84 : decode prog_2_method_6_code 84 = .ok (.getfield 43, 3) := by decide +kernel
theorem dc_2_6_87 : decode prog_2_method_6_code 87 = .ok (.ireturn, 1) := by decide +kernel
theorem dc_2_6_88 : decode prog_2_method_6_code 88 = .ok (.iconst (-1), 1) := by decide +kernel
theorem dc_2_6_89 : decode prog_2_method_6_code 89 = .ok (.ireturn, 1) := by decide +kernel
theorem dc_2_7_0 : decode prog_2_method_7_code 0 = .ok (.iload_n 0, 1) := by decide +kernel
theorem dc_2_7_1 : decode prog_2_method_7_code 1 = .ok (.sipush 10000, 3) := by decide +kernel
theorem dc_2_7_4 : decode prog_2_method_7_code 4 = .ok (.irem, 1) := by decide +kernel
theorem dc_2_7_5 : decode prog_2_method_7_code 5 = .ok (.istore 4, 2) := by decide +kernel
theorem dc_2_7_7 : decode prog_2_method_7_code 7 = .ok (.iload_n 0, 1) := by decide +kernel
theorem dc_2_7_8 : decode prog_2_method_7_code 8 = .ok (.sipush 10000, 3) := by decide +kernel
theorem dc_2_7_11 : decode prog_2_method_7_code 11 = .ok (.idiv, 1) := by decide +kernel
theorem dc_2_7_12 : decode prog_2_method_7_code 12 = .ok (.iconst 3, 1) := by decide +kernel
theorem dc_2_7_13 : decode prog_2_method_7_code 13 = .ok (.irem, 1) := by decide +kernel
theorem dc_2_7_14 : decode prog_2_method_7_code 14 = .ok (.istore 5, 2) := by decide +kernel
theorem dc_2_7_16 : decode prog_2_method_7_code 16 = .ok (.iload_n 0, 1) := by decide +kernel
theorem dc_2_7_17 : decode prog_2_method_7_code 17 = .ok (.sipush 10000, 3) := by decide +kernel
theorem dc_2_7_20 : decode prog_2_method_7_code 20 = .ok (.idiv, 1) := by decide +kernel
theorem dc_2_7_21 : decode prog_2_method_7_code 21 = .ok (.iconst 3, 1) := by decide +kernel
theorem dc_2_7_22 : decode prog_2_method_7_code 22 = .ok (.idiv, 1) := by decide +kernel
theorem dc_2_7_23 : decode prog_2_method_7_code 23 = .ok (.tableswitch 82 0 2 #[25, 44, 63], 25) := by decide +kernel
theorem dc_2_7_48 : decode prog_2_method_7_code 48 = .ok (.iload_n 1, 1) := by decide +kernel
theorem dc_2_7_49 : decode prog_2_method_7_code 49 = .ok (.iload 5, 2) := by decide +kernel
theorem dc_2_7_51 : decode prog_2_method_7_code 51 = .ok (.iload 4, 2) := by decide +kernel
theorem dc_2_7_53 : decode prog_2_method_7_code 53 = .ok (.invokestatic 66, 3) := by decide +kernel
theorem dc_2_7_56 : decode prog_2_method_7_code 56 = .ok (.ifCond .eq 9, 3) := by decide +kernel
theorem dc_2_7_59 : decode prog_2_method_7_code 59 = .ok (.sipush 255, 3) := by decide +kernel
theorem dc_2_7_62 : decode prog_2_method_7_code 62 = .ok (.goto 4, 3) := by decide +kernel
theorem dc_2_7_65 : decode prog_2_method_7_code 65 = .ok (.iconst 0, 1) := by decide +kernel
theorem dc_2_7_66 : decode prog_2_method_7_code 66 = .ok (.ireturn, 1) := by decide +kernel
theorem dc_2_7_67 : decode prog_2_method_7_code 67 = .ok (.iload_n 2, 1) := by decide +kernel
theorem dc_2_7_68 : decode prog_2_method_7_code 68 = .ok (.iload 5, 2) := by decide +kernel
theorem dc_2_7_70 : decode prog_2_method_7_code 70 = .ok (.iload 4, 2) := by decide +kernel
theorem dc_2_7_72 : decode prog_2_method_7_code 72 = .ok (.invokestatic 66, 3) := by decide +kernel
theorem dc_2_7_75 : decode prog_2_method_7_code 75 = .ok (.ifCond .eq 9, 3) := by decide +kernel
theorem dc_2_7_78 : decode prog_2_method_7_code 78 = .ok (.sipush 255, 3) := by decide +kernel
theorem dc_2_7_81 : decode prog_2_method_7_code 81 = .ok (.goto 4, 3) := by decide +kernel
theorem dc_2_7_84 : decode prog_2_method_7_code 84 = .ok (.iconst 0, 1) := by decide +kernel
theorem dc_2_7_85 : decode prog_2_method_7_code 85 = .ok (.ireturn, 1) := by decide +kernel
theorem dc_2_7_86 : decode prog_2_method_7_code 86 = .ok (.iload_n 3, 1) := by decide +kernel
theorem dc_2_7_87 : decode prog_2_method_7_code 87 = .ok (.iload 5, 2) := by decide +kernel
theorem dc_2_7_89 : decode prog_2_method_7_code 89 = .ok (.iload 4, 2) := by decide +kernel
theorem dc_2_7_91 : decode prog_2_method_7_code 91 = .ok (.invokestatic 66, 3) := by decide +kernel
theorem dc_2_7_94 : decode prog_2_method_7_code 94 = .ok (.ifCond .eq 9, 3) := by decide +kernel
theorem dc_2_7_97 : decode prog_2_method_7_code 97 = .ok (.sipush 255, 3) := by decide +kernel
theorem dc_2_7_100 : decode prog_2_method_7_code 100 = .ok (.goto 4, 3) := by decide +kernel
theorem dc_2_7_103 : decode prog_2_method_7_code 103 = .ok (.iconst 0, 1) := by decide +kernel
theorem dc_2_7_104 : decode prog_2_method_7_code 104 = .ok (.ireturn, 1) := by decide +kernel
theorem dc_2_7_105 : decode prog_2_method_7_code 105 = .ok (.iload 5, 2) := by decide +kernel
theorem dc_2_7_107 : decode prog_2_method_7_code 107 = .ok (.iload 4, 2) := by decide +kernel
theorem dc_2_7_109 : decode prog_2_method_7_code 109 = .ok (.invokestatic 69, 3) := by decide +kernel
theorem dc_2_7_112 : decode prog_2_method_7_code 112 = .ok (.ireturn, 1) := by decide +kernel
theorem dc_2_8_0 : decode prog_2_method_8_code 0 = .ok (.iload_n 1, 1) := by decide +kernel
theorem dc_2_8_1 : decode prog_2_method_8_code 1 = .ok (.bipush 7, 2) := by decide +kernel
theorem dc_2_8_3 : decode prog_2_method_8_code 3 = .ok (.if_icmp .le 8, 3) := by decide +kernel
theorem dc_2_8_6 : decode prog_2_method_8_code 6 = .ok (.bipush 8, 2) := by decide +kernel
theorem dc_2_8_8 : decode prog_2_method_8_code 8 = .ok (.goto 4, 3) := by decide +kernel
theorem dc_2_8_11 : decode prog_2_method_8_code 11 = .ok (.iload_n 1, 1) := by decide +kernel
theorem dc_2_8_12 : decode prog_2_method_8_code 12 = .ok (.istore_n 2, 1) := by decide +kernel
theorem dc_2_8_13 : decode prog_2_method_8_code 13 = .ok (.iconst 1, 1) := by decide +kernel
theorem dc_2_8_14 : decode prog_2_method_8_code 14 = .ok (.iload_n 2, 1) := by decide +kernel
theorem dc_2_8_15 : decode prog_2_method_8_code 15 = .ok (.ishl, 1) := by decide +kernel
theorem dc_2_8_16 : decode prog_2_method_8_code 16 = .ok (.iconst 1, 1) := by decide +kernel
theorem dc_2_8_17 : decode prog_2_method_8_code 17 = .ok (.isub, 1) := by decide +kernel
theorem dc_2_8_18 : decode prog_2_method_8_code 18 = .ok (.istore_n 3, 1) := by decide +kernel
theorem dc_2_8_19 : decode prog_2_method_8_code 19 = .ok (.iconst 1, 1) := by decide +kernel
theorem dc_2_8_20 : decode prog_2_method_8_code 20 = .ok (.iload_n 2, 1) := by decide +kernel
theorem dc_2_8_21 : decode prog_2_method_8_code 21 = .ok (.ishl, 1) := by decide +kernel
theorem dc_2_8_22 : decode prog_2_method_8_code 22 = .ok (.sipush 255, 3) := by decide +kernel
theorem dc_2_8_25 : decode prog_2_method_8_code 25 = .ok (.iand, 1) := by decide +kernel
theorem dc_2_8_26 : decode prog_2_method_8_code 26 = .ok (.istore 4, 2) := by decide +kernel
theorem dc_2_8_28 : decode prog_2_method_8_code 28 = .ok (.iload_n 0, 1) := by decide +kernel
theorem dc_2_8_29 : decode prog_2_method_8_code 29 = .ok (.ifCond .ne 5, 3) := by decide +kernel
theorem dc_2_8_32 : decode prog_2_method_8_code 32 = .ok (.iload_n 3, 1) := by decide +kernel
theorem dc_2_8_33 : decode prog_2_method_8_code 33 = .ok (.ireturn, 1) := by decide +kernel
theorem dc_2_8_34 : decode prog_2_method_8_code 34 = .ok (.iload_n 0, 1) := by decide +kernel
theorem dc_2_8_35 : decode prog_2_method_8_code 35 = .ok (.iconst 1, 1) := by decide +kernel
theorem dc_2_8_36 : decode prog_2_method_8_code 36 = .ok (.if_icmp .ne 16, 3) := by decide +kernel
theorem dc_2_8_39 : decode prog_2_method_8_code 39 = .ok (.sipush 255, 3) := by decide +kernel
theorem dc_2_8_42 : decode prog_2_method_8_code 42 = .ok (.iload_n 3, 1) := by decide +kernel
theorem dc_2_8_43 : decode prog_2_method_8_code 43 = .ok (.iload 4, 2) := by decide +kernel
theorem dc_2_8_45 : decode prog_2_method_8_code 45 = .ok (.ior, 1) := by decide +kernel
theorem dc_2_8_46 : decode prog_2_method_8_code 46 = .ok (.iconst (-1), 1) := by decide +kernel
theorem dc_2_8_47 : decode prog_2_method_8_code 47 = .ok (.ixor, 1) := by decide +kernel
theorem dc_2_8_48 : decode prog_2_method_8_code 48 = .ok (.iand, 1) := by decide +kernel
theorem dc_2_8_49 : decode prog_2_method_8_code 49 = .ok (.goto 5, 3) := by decide +kernel
theorem dc_2_8_52 : decode prog_2_method_8_code 52 = .ok (.iload 4, 2) := by decide +kernel
theorem dc_2_8_54 : decode prog_2_method_8_code 54 = .ok (.ireturn, 1) := by decide +kernel
theorem dc_2_9_0 : decode prog_2_method_9_code 0 = .ok (.iload_n 1, 1) := by decide +kernel
theorem dc_2_9_1 : decode prog_2_method_9_code 1 = .ok (.ifCond .ne 14, 3) := by decide +kernel
theorem dc_2_9_4 : decode prog_2_method_9_code 4 = .ok (.iload_n 0, 1) := by decide +kernel
theorem dc_2_9_5 : decode prog_2_method_9_code 5 = .ok (.iload_n 2, 1) := by decide +kernel
theorem dc_2_9_6 : decode prog_2_method_9_code 6 = .ok (.if_icmp .ge 7, 3) := by decide +kernel
theorem dc_2_9_9 : decode prog_2_method_9_code 9 = .ok (.iconst 1, 1) := by decide +kernel
theorem dc_2_9_10 : decode prog_2_method_9_code 10 = .ok (.goto 4, 3) := by decide +kernel
theorem dc_2_9_13 : decode prog_2_method_9_code 13 = .ok (.iconst 0, 1) := by decide +kernel
theorem dc_2_9_14 : decode prog_2_method_9_code 14 = .ok (.ireturn, 1) := by decide +kernel
theorem dc_2_9_15 : decode prog_2_method_9_code 15 = .ok (.iload_n 1, 1) := by decide +kernel
theorem dc_2_9_16 : decode prog_2_method_9_code 16 = .ok (.iconst 1, 1) := by decide +kernel
theorem dc_2_9_17 : decode prog_2_method_9_code 17 = .ok (.if_icmp .ne 16, 3) := by decide +kernel
theorem dc_2_9_20 : decode prog_2_method_9_code 20 = .ok (.iload_n 0, 1) := by decide +kernel
theorem dc_2_9_21 : decode prog_2_method_9_code 21 = .ok (.iload_n 2, 1) := by decide +kernel
theorem dc_2_9_22 : decode prog_2_method_9_code 22 = .ok (.if_icmp .le 7, 3) := by decide +kernel
theorem dc_2_9_25 : decode prog_2_method_9_code 25 = .ok (.iconst 1, 1) := by decide +kernel
theorem dc_2_9_26 : decode prog_2_method_9_code 26 = .ok (.goto 17, 3) := by decide +kernel
theorem dc_2_9_29 : decode prog_2_method_9_code 29 = .ok (.iconst 0, 1) := by decide +kernel
theorem dc_2_9_30 : decode prog_2_method_9_code 30 = .ok (.goto 13, 3) := by decide +kernel
theorem dc_2_9_33 : decode prog_2_method_9_code 33 = .ok (.iload_n 0, 1) := by decide +kernel
theorem dc_2_9_34 : decode prog_2_method_9_code 34 = .ok (.iload_n 2, 1) := by decide +kernel
theorem dc_2_9_35 : decode prog_2_method_9_code 35 = .ok (.if_icmp .ne 7, 3) := by decide +kernel
theorem dc_2_9_38 : decode prog_2_method_9_code 38 = .ok (.iconst 1, 1) := by decide +kernel
theorem dc_2_9_39 : decode prog_2_method_9_code 39 = .ok (.goto 4, 3) := by decide +kernel
theorem dc_2_9_42 : decode prog_2_method_9_code 42 = .ok (.iconst 0, 1) := by decide +kernel
theorem dc_2_9_43 : decode prog_2_method_9_code 43 = .ok (.ireturn, 1) := by decide +kernel
theorem iv_10_s54 : mm_iv 10 (.invokestatic 54) = some (3, 13) := by decide +kernel
theorem iv_10_s66 : mm_iv 10 (.invokestatic 66) = some (0, 88) := by decide +kernel
theorem iv_10_s69 : mm_iv 10 (.invokestatic 69) = some (0, 89) := by decide +kernel
theorem iv_10_v58 : mm_iv 10 (.invokevirtual 58) = some (1, 98) := by decide +kernel
theorem o_98 : mm_o 98 = 10 := by decide +kernel
theorem na_0_88 : mm_nas 0 88 = 3 := by decide +kernel
theorem na_0_89 : mm_nas 0 89 = 2 := by decide +kernel
theorem na_1_98 : mm_nas 1 98 = 3 := by decide +kernel
/-- a word of the reference's codes, as the system has it -/
def encN (w : Nat) : Nat := (w / 100000 * 3 + w / 10000 % 10) * 10000 + w % 10000
def enc (w : Nat) : Int32 := if w = 1000002 then -1 else if w = 1000000 then -2 else if w = 1000001 then -3 else nI (encN w)
def okW (w : Nat) : Prop := w < 400000 ∧ w / 10000 % 10 < 3 ∨ 1000000 ≤ w ∧ w ≤ 1000002
theorem encN_lt {w : Nat} (h : w < 400000) (h2 : w / 10000 % 10 < 3) : encN w < 200000 := by
  unfold encN
  omega
theorem enc_c {w : Nat} (h : w < 400000) : enc w = nI (encN w) := by
  unfold enc
  rw [if_neg (by omega), if_neg (by omega), if_neg (by omega)]
theorem enc_ge {w : Nat} (h : okW w) (hn : ¬ enc w < 0) : w < 400000 ∧ w / 10000 % 10 < 3 := by
  rcases h with q | q
  · exact q
  · rcases (by omega : w = 1000000 ∨ w = 1000001 ∨ w = 1000002) with rfl | rfl | rfl
    · exact absurd (by decide) hn
    · exact absurd (by decide) hn
    · exact absurd (by decide) hn
theorem enc_lt {w : Nat} (h : okW w) (hn : enc w < 0) : w = 1000000 ∨ w = 1000001 ∨ w = 1000002 := by
  rcases h with q | q
  · rw [enc_c q.1] at hn
    exact absurd hn (nI_pos (by have := encN_lt q.1 q.2; omega))
  · omega
theorem enc_m1 {w : Nat} (h : w = 1000000 ∨ w = 1000001 ∨ w = 1000002) : (enc w = -1 ↔ w = 1000002) ∧ (enc w = -2 ↔ w = 1000000) ∧ (enc w = -3 ↔ w = 1000001) := by
  rcases h with rfl | rfl | rfl
  · decide
  · decide
  · decide
def AgR (M : mH) (T : Nat → mT) (cs sg : Nat → Nat → Int32) (D : Nat → Nat → Nat) (x cn : Nat) (wc : Nat → Nat) : Prop := T (D 4 x) = (10, 0, rl [(9, D 6 x), (8, D 5 x)]) ∧ inC M (D 4 x) ∧ (T (D 5 x) = (20, cn, fun _ => none) ∧ inC M (D 5 x) ∧ T (D 6 x) = (20, cn, fun _ => none) ∧ inC M (D 6 x)) ∧ (cs (D 4 x) 0 = sg 27 x ∧ cs (D 4 x) 1 = sg 28 x ∧ cs (D 4 x) 2 = sg 29 x ∧ cs (D 4 x) 3 = sg 30 x ∧ cs (D 4 x) 4 = sg 31 x ∧ cs (D 4 x) 5 = sg 32 x ∧ cs (D 4 x) 6 = sg 33 x ∧ cs (D 4 x) 7 = sg 34 x) ∧ (∀ k, k < cn → cs (D 5 x) k = enc (wc k)) ∧ cn ≤ 60 ∧ (∀ k, k < cn → okW (wc k)) ∧ okc wc cn ∧ ¬ D 5 x = D 6 x ∧ ¬ D 4 x = D 6 x
set_option maxHeartbeats 4000000 in
theorem k_inForce (M : mH) (T : Nat → mT) (cs : Nat → Nat → Int32) (sg : Nat → Nat → Int32) (D : Nat → Nat → Nat) (x cn : Nat) (wc : Nat → Nat) (hs : AgR M T cs sg D x cn wc) (y : Int32) : mm_Ev 2 109 [.ref (D 4 x), .int y] (hk M T cs) ((some (.int (sp_in y (sg 32 x) (sg 33 x))), hk M T cs)) := by
  obtain ⟨hS, hSC, ⟨hT5, hC5, hT6, hC6⟩, ⟨f0, f1, f2, f3, f4, f5, f6, f7⟩, fc, hcn, how, hoc, hn56, hn46⟩ := id hs
  refine r_ev (by decide +kernel) (show (2 : Nat) ≤ mm_nL 109 by decide +kernel) ?_
  show mm_Ru 1 (10, 2, false, prog_2_method_2_code, some .boolean) 0 [(0, .ref (D 4 x)), (1, .int y)] [] (hk M T cs) (fun r9 => r9 = ((some (.int (sp_in y (sg 32 x) (sg 33 x))), hk M T cs)))
  refine r_iload_n rfl dc_2_2_0 ?_
  refine r_aload_n rfl dc_2_2_1 ?_
  refine h_get (t := (10, 0, rl [(9, D 6 x), (8, D 5 x)])) (v := .int (sg 32 x)) fx_10_35 hS hSC (show some (Value.int _) = _ from congrArg (fun z => some (Value.int z)) (f5)) dc_2_2_2 ?_
  refine r_aload_n rfl dc_2_2_5 ?_
  refine h_get (t := (10, 0, rl [(9, D 6 x), (8, D 5 x)])) (v := .int (sg 33 x)) fx_10_39 hS hSC (show some (Value.int _) = _ from congrArg (fun z => some (Value.int z)) (f6)) dc_2_2_6 ?_
  refine h_callS (as := [.int y, .int (sg 32 x), .int (sg 33 x)]) (rest := []) (v := .int (sp_in y (sg 32 x) (sg 33 x))) rfl rfl iv_10_s54 (Or.inr rfl) na_3_13 rfl (show (0 : Nat) ≤ 8 by decide) dc_2_2_9 (k_in _ y (sg 32 x) (sg 33 x)) ?_
  exact r_zret rfl (by unfold sp_in; split <;> decide) dc_2_2_12 (rfl)
def btw (sg : Nat → Nat → Int32) (x : Nat) (a b : Int32) : Prop := sg 27 x = a ∧ sg 28 x = b ∨ sg 27 x = b ∧ sg 28 x = a
set_option maxHeartbeats 4000000 in
theorem k_between (M : mH) (T : Nat → mT) (cs : Nat → Nat → Int32) (sg : Nat → Nat → Int32) (D : Nat → Nat → Nat) (x cn : Nat) (wc : Nat → Nat) (hs : AgR M T cs sg D x cn wc) (a b : Int32) : mm_Ev 1 98 [.ref (D 4 x), .int a, .int b] (hk M T cs) ((some (.int (pI (btw sg x a b))), hk M T cs)) := by
  obtain ⟨hS, hSC, ⟨hT5, hC5, hT6, hC6⟩, ⟨f0, f1, f2, f3, f4, f5, f6, f7⟩, fc, hcn, how, hoc, hn56, hn46⟩ := id hs
  refine r_ev (by decide +kernel) (show (3 : Nat) ≤ mm_nL 98 by decide +kernel) ?_
  show mm_Ru 0 (10, 3, false, prog_2_method_3_code, some .boolean) 0 [(0, .ref (D 4 x)), (1, .int a), (2, .int b)] [] (hk M T cs) (fun r9 => r9 = ((some (.int (pI (btw sg x a b))), hk M T cs)))
  refine r_aload_n rfl dc_2_3_0 ?_
  refine h_get (t := (10, 0, rl [(9, D 6 x), (8, D 5 x)])) (v := .int (sg 27 x)) fx_10_9 hS hSC (show some (Value.int _) = _ from congrArg (fun z => some (Value.int z)) (f0)) dc_2_3_1 ?_
  refine r_iload_n rfl dc_2_3_4 ?_
  refine r_icne (t := 16) (by decide) dc_2_3_5 (fun c_5 => ?_) (fun c_5 => ?_)
  · skip
    refine r_aload_n rfl dc_2_3_16 ?_
    refine h_get (t := (10, 0, rl [(9, D 6 x), (8, D 5 x)])) (v := .int (sg 27 x)) fx_10_9 hS hSC (show some (Value.int _) = _ from congrArg (fun z => some (Value.int z)) (f0)) dc_2_3_17 ?_
    refine r_iload_n rfl dc_2_3_20 ?_
    refine r_icne (t := 36) (by decide) dc_2_3_21 (fun c_21 => ?_) (fun c_21 => ?_)
    · skip
      refine r_iconst (v := nI 0) (by decide) dc_2_3_36 ?_
      refine r_zret rfl (by decide) dc_2_3_37 ?_
      rw [pI_f (P := btw sg x a b) (fun y => y.elim (fun z => c_5 z.1) (fun z => c_21 z.1))]
    · skip
      refine r_aload_n rfl dc_2_3_24 ?_
      refine h_get (t := (10, 0, rl [(9, D 6 x), (8, D 5 x)])) (v := .int (sg 28 x)) fx_10_15 hS hSC (show some (Value.int _) = _ from congrArg (fun z => some (Value.int z)) (f1)) dc_2_3_25 ?_
      refine r_iload_n rfl dc_2_3_28 ?_
      refine r_icne (t := 36) (by decide) dc_2_3_29 (fun c_29 => ?_) (fun c_29 => ?_)
      · skip
        refine r_iconst (v := nI 0) (by decide) dc_2_3_36 ?_
        refine r_zret rfl (by decide) dc_2_3_37 ?_
        rw [pI_f (P := btw sg x a b) (fun y => y.elim (fun z => c_5 z.1) (fun z => c_29 z.2))]
      · skip
        refine r_iconst (v := nI 1) (by decide) dc_2_3_32 ?_
        refine r_goto (t := 37) (by decide) dc_2_3_33 ?_
        refine r_zret rfl (by decide) dc_2_3_37 ?_
        rw [pI_t (P := btw sg x a b) (Or.inr ⟨c_21, c_29⟩)]
  · skip
    refine r_aload_n rfl dc_2_3_8 ?_
    refine h_get (t := (10, 0, rl [(9, D 6 x), (8, D 5 x)])) (v := .int (sg 28 x)) fx_10_15 hS hSC (show some (Value.int _) = _ from congrArg (fun z => some (Value.int z)) (f1)) dc_2_3_9 ?_
    refine r_iload_n rfl dc_2_3_12 ?_
    refine r_iceq (t := 32) (by decide) dc_2_3_13 (fun c_13 => ?_) (fun c_13 => ?_)
    · skip
      refine r_iconst (v := nI 1) (by decide) dc_2_3_32 ?_
      refine r_goto (t := 37) (by decide) dc_2_3_33 ?_
      refine r_zret rfl (by decide) dc_2_3_37 ?_
      rw [pI_t (P := btw sg x a b) (Or.inl ⟨c_5, c_13⟩)]
    · skip
      refine r_aload_n rfl dc_2_3_16 ?_
      refine h_get (t := (10, 0, rl [(9, D 6 x), (8, D 5 x)])) (v := .int (sg 27 x)) fx_10_9 hS hSC (show some (Value.int _) = _ from congrArg (fun z => some (Value.int z)) (f0)) dc_2_3_17 ?_
      refine r_iload_n rfl dc_2_3_20 ?_
      refine r_icne (t := 36) (by decide) dc_2_3_21 (fun c_21 => ?_) (fun c_21 => ?_)
      · skip
        refine r_iconst (v := nI 0) (by decide) dc_2_3_36 ?_
        refine r_zret rfl (by decide) dc_2_3_37 ?_
        rw [pI_f (P := btw sg x a b) (fun y => y.elim (fun z => c_13 z.2) (fun z => c_21 z.1))]
      · skip
        refine r_aload_n rfl dc_2_3_24 ?_
        refine h_get (t := (10, 0, rl [(9, D 6 x), (8, D 5 x)])) (v := .int (sg 28 x)) fx_10_15 hS hSC (show some (Value.int _) = _ from congrArg (fun z => some (Value.int z)) (f1)) dc_2_3_25 ?_
        refine r_iload_n rfl dc_2_3_28 ?_
        refine r_icne (t := 36) (by decide) dc_2_3_29 (fun c_29 => ?_) (fun c_29 => ?_)
        · skip
          refine r_iconst (v := nI 0) (by decide) dc_2_3_36 ?_
          refine r_zret rfl (by decide) dc_2_3_37 ?_
          rw [pI_f (P := btw sg x a b) (fun y => y.elim (fun z => c_13 z.2) (fun z => c_29 z.2))]
        · skip
          refine r_iconst (v := nI 1) (by decide) dc_2_3_32 ?_
          refine r_goto (t := 37) (by decide) dc_2_3_33 ?_
          refine r_zret rfl (by decide) dc_2_3_37 ?_
          rw [pI_t (P := btw sg x a b) (Or.inr ⟨c_21, c_29⟩)]
set_option maxHeartbeats 4000000 in
theorem k_beside (M : mH) (T : Nat → mT) (cs : Nat → Nat → Int32) (sg : Nat → Nat → Int32) (D : Nat → Nat → Nat) (x cn : Nat) (wc : Nat → Nat) (hs : AgR M T cs sg D x cn wc) (y ycn : Nat) (ywc : Nat → Nat) (hs2 : AgR M T cs sg D y ycn ywc) : mm_Ev 2 97 [.ref (D 4 x), .ref (D 4 y)] (hk M T cs) ((some (.int (pI (sp_one sg x y))), hk M T cs)) := by
  obtain ⟨hS, hSC, ⟨hT5, hC5, hT6, hC6⟩, ⟨f0, f1, f2, f3, f4, f5, f6, f7⟩, fc, hcn, how, hoc, hn56, hn46⟩ := id hs
  obtain ⟨yhS, yhSC, ⟨yhT5, yhC5, yhT6, yhC6⟩, ⟨yf0, yf1, yf2, yf3, yf4, yf5, yf6, yf7⟩, yfc, yhcn, yhow, yhoc, yhn56, yhn46⟩ := id hs2
  refine r_ev (by decide +kernel) (show (2 : Nat) ≤ mm_nL 97 by decide +kernel) ?_
  show mm_Ru 1 (10, 2, false, prog_2_method_4_code, some .boolean) 0 [(0, .ref (D 4 x)), (1, .ref (D 4 y))] [] (hk M T cs) (fun r9 => r9 = ((some (.int (pI (sp_one sg x y))), hk M T cs)))
  refine r_aload_n rfl dc_2_4_0 ?_
  refine r_aload_n rfl dc_2_4_1 ?_
  refine h_get (t := (10, 0, rl [(9, D 6 y), (8, D 5 y)])) (v := .int (sg 27 y)) fx_10_9 yhS yhSC (show some (Value.int _) = _ from congrArg (fun z => some (Value.int z)) (yf0)) dc_2_4_2 ?_
  refine r_aload_n rfl dc_2_4_5 ?_
  refine h_get (t := (10, 0, rl [(9, D 6 y), (8, D 5 y)])) (v := .int (sg 28 y)) fx_10_15 yhS yhSC (show some (Value.int _) = _ from congrArg (fun z => some (Value.int z)) (yf1)) dc_2_4_6 ?_
  refine h_callv (t := (10, 0, rl [(9, D 6 x), (8, D 5 x)])) (as := [.int (sg 27 y), .int (sg 28 y)]) (rest := []) (v := .int (pI (btw sg x (sg 27 y) (sg 28 y)))) (M1 := hk M T cs) rfl rfl iv_10_v58 (Or.inl rfl) na_1_98 hS hSC (show (10 : Nat) < 14 by decide) o_98 rfl (show (0 : Nat) ≤ 8 by decide) dc_2_4_9 (k_between M T cs sg D x cn wc hs (sg 27 y) (sg 28 y)) ?_
  refine r_ifeq (t := 41) (by decide) dc_2_4_12 (fun c_12 => ?_) (fun c_12 => ?_)
  · skip
    refine r_iconst (v := nI 0) (by decide) dc_2_4_41 ?_
    refine r_zret rfl (by decide) dc_2_4_42 ?_
    rw [pI_f (P := sp_one sg x y) (fun z => pI_eq0 c_12 z.1)]
  · skip
    refine r_aload_n rfl dc_2_4_15 ?_
    refine h_get (t := (10, 0, rl [(9, D 6 x), (8, D 5 x)])) (v := .int (sg 32 x)) fx_10_35 hS hSC (show some (Value.int _) = _ from congrArg (fun z => some (Value.int z)) (f5)) dc_2_4_16 ?_
    refine r_aload_n rfl dc_2_4_19 ?_
    refine h_get (t := (10, 0, rl [(9, D 6 y), (8, D 5 y)])) (v := .int (sg 33 y)) fx_10_39 yhS yhSC (show some (Value.int _) = _ from congrArg (fun z => some (Value.int z)) (yf6)) dc_2_4_20 ?_
    refine r_icgt (t := 41) (by decide) dc_2_4_23 (fun c_23 => ?_) (fun c_23 => ?_)
    · skip
      refine r_iconst (v := nI 0) (by decide) dc_2_4_41 ?_
      refine r_zret rfl (by decide) dc_2_4_42 ?_
      rw [pI_f (P := sp_one sg x y) (fun z => absurd c_23 (Int32.not_lt.mpr z.2.1))]
    · skip
      refine r_aload_n rfl dc_2_4_26 ?_
      refine h_get (t := (10, 0, rl [(9, D 6 y), (8, D 5 y)])) (v := .int (sg 32 y)) fx_10_35 yhS yhSC (show some (Value.int _) = _ from congrArg (fun z => some (Value.int z)) (yf5)) dc_2_4_27 ?_
      refine r_aload_n rfl dc_2_4_30 ?_
      refine h_get (t := (10, 0, rl [(9, D 6 x), (8, D 5 x)])) (v := .int (sg 33 x)) fx_10_39 hS hSC (show some (Value.int _) = _ from congrArg (fun z => some (Value.int z)) (f6)) dc_2_4_31 ?_
      refine r_icgt (t := 41) (by decide) dc_2_4_34 (fun c_34 => ?_) (fun c_34 => ?_)
      · skip
        refine r_iconst (v := nI 0) (by decide) dc_2_4_41 ?_
        refine r_zret rfl (by decide) dc_2_4_42 ?_
        rw [pI_f (P := sp_one sg x y) (fun z => absurd c_34 (Int32.not_lt.mpr z.2.2))]
      · skip
        refine r_iconst (v := nI 1) (by decide) dc_2_4_37 ?_
        refine r_goto (t := 42) (by decide) dc_2_4_38 ?_
        refine r_zret rfl (by decide) dc_2_4_42 ?_
        rw [pI_t (P := sp_one sg x y) ⟨pI_ne c_12, Int32.not_lt.mp c_23, Int32.not_lt.mp c_34⟩]
set_option maxHeartbeats 4000000 in
theorem k_shown_0 (M : mH) (T : Nat → mT) (cs : Nat → Nat → Int32) (sg : Nat → Nat → Int32) (D : Nat → Nat → Nat) (x cn : Nat) (wc : Nat → Nat) (hs : AgR M T cs sg D x cn wc) : mm_Ev 1 180 [.ref (D 4 x), .int (nI 0)] (hk M T cs) ((some (.int (sg 27 x)), hk M T cs)) := by
  obtain ⟨hS, hSC, ⟨hT5, hC5, hT6, hC6⟩, ⟨f0, f1, f2, f3, f4, f5, f6, f7⟩, fc, hcn, how, hoc, hn56, hn46⟩ := id hs
  refine r_ev (by decide +kernel) (show (2 : Nat) ≤ mm_nL 180 by decide +kernel) ?_
  show mm_Ru 0 (10, 2, false, prog_2_method_6_code, some .int) 0 [(0, .ref (D 4 x)), (1, .int (nI 0))] [] (hk M T cs) (fun r9 => r9 = ((some (.int (sg 27 x)), hk M T cs)))
  refine r_iload_n rfl dc_2_6_0 ?_
  refine r_swIn (off := 47) (t := 48) (by decide +kernel) (by decide +kernel) (by decide +kernel) (by decide) dc_2_6_1 ?_
  refine r_aload_n rfl dc_2_6_48 ?_
  refine h_get (t := (10, 0, rl [(9, D 6 x), (8, D 5 x)])) (v := .int (sg 27 x)) fx_10_9 hS hSC (show some (Value.int _) = _ from congrArg (fun z => some (Value.int z)) (f0)) dc_2_6_49 ?_
  exact r_iret rfl dc_2_6_52 (rfl)
set_option maxHeartbeats 4000000 in
theorem k_shown_1 (M : mH) (T : Nat → mT) (cs : Nat → Nat → Int32) (sg : Nat → Nat → Int32) (D : Nat → Nat → Nat) (x cn : Nat) (wc : Nat → Nat) (hs : AgR M T cs sg D x cn wc) : mm_Ev 1 180 [.ref (D 4 x), .int (nI 1)] (hk M T cs) ((some (.int (sg 28 x)), hk M T cs)) := by
  obtain ⟨hS, hSC, ⟨hT5, hC5, hT6, hC6⟩, ⟨f0, f1, f2, f3, f4, f5, f6, f7⟩, fc, hcn, how, hoc, hn56, hn46⟩ := id hs
  refine r_ev (by decide +kernel) (show (2 : Nat) ≤ mm_nL 180 by decide +kernel) ?_
  show mm_Ru 0 (10, 2, false, prog_2_method_6_code, some .int) 0 [(0, .ref (D 4 x)), (1, .int (nI 1))] [] (hk M T cs) (fun r9 => r9 = ((some (.int (sg 28 x)), hk M T cs)))
  refine r_iload_n rfl dc_2_6_0 ?_
  refine r_swIn (off := 52) (t := 53) (by decide +kernel) (by decide +kernel) (by decide +kernel) (by decide) dc_2_6_1 ?_
  refine r_aload_n rfl dc_2_6_53 ?_
  refine h_get (t := (10, 0, rl [(9, D 6 x), (8, D 5 x)])) (v := .int (sg 28 x)) fx_10_15 hS hSC (show some (Value.int _) = _ from congrArg (fun z => some (Value.int z)) (f1)) dc_2_6_54 ?_
  exact r_iret rfl dc_2_6_57 (rfl)
set_option maxHeartbeats 4000000 in
theorem k_shown_2 (M : mH) (T : Nat → mT) (cs : Nat → Nat → Int32) (sg : Nat → Nat → Int32) (D : Nat → Nat → Nat) (x cn : Nat) (wc : Nat → Nat) (hs : AgR M T cs sg D x cn wc) : mm_Ev 1 180 [.ref (D 4 x), .int (nI 2)] (hk M T cs) ((some (.int (sg 29 x)), hk M T cs)) := by
  obtain ⟨hS, hSC, ⟨hT5, hC5, hT6, hC6⟩, ⟨f0, f1, f2, f3, f4, f5, f6, f7⟩, fc, hcn, how, hoc, hn56, hn46⟩ := id hs
  refine r_ev (by decide +kernel) (show (2 : Nat) ≤ mm_nL 180 by decide +kernel) ?_
  show mm_Ru 0 (10, 2, false, prog_2_method_6_code, some .int) 0 [(0, .ref (D 4 x)), (1, .int (nI 2))] [] (hk M T cs) (fun r9 => r9 = ((some (.int (sg 29 x)), hk M T cs)))
  refine r_iload_n rfl dc_2_6_0 ?_
  refine r_swIn (off := 57) (t := 58) (by decide +kernel) (by decide +kernel) (by decide +kernel) (by decide) dc_2_6_1 ?_
  refine r_aload_n rfl dc_2_6_58 ?_
  refine h_get (t := (10, 0, rl [(9, D 6 x), (8, D 5 x)])) (v := .int (sg 29 x)) fx_10_23 hS hSC (show some (Value.int _) = _ from congrArg (fun z => some (Value.int z)) (f2)) dc_2_6_59 ?_
  exact r_iret rfl dc_2_6_62 (rfl)
set_option maxHeartbeats 4000000 in
theorem k_shown_3 (M : mH) (T : Nat → mT) (cs : Nat → Nat → Int32) (sg : Nat → Nat → Int32) (D : Nat → Nat → Nat) (x cn : Nat) (wc : Nat → Nat) (hs : AgR M T cs sg D x cn wc) : mm_Ev 1 180 [.ref (D 4 x), .int (nI 3)] (hk M T cs) ((some (.int (sg 30 x)), hk M T cs)) := by
  obtain ⟨hS, hSC, ⟨hT5, hC5, hT6, hC6⟩, ⟨f0, f1, f2, f3, f4, f5, f6, f7⟩, fc, hcn, how, hoc, hn56, hn46⟩ := id hs
  refine r_ev (by decide +kernel) (show (2 : Nat) ≤ mm_nL 180 by decide +kernel) ?_
  show mm_Ru 0 (10, 2, false, prog_2_method_6_code, some .int) 0 [(0, .ref (D 4 x)), (1, .int (nI 3))] [] (hk M T cs) (fun r9 => r9 = ((some (.int (sg 30 x)), hk M T cs)))
  refine r_iload_n rfl dc_2_6_0 ?_
  refine r_swIn (off := 62) (t := 63) (by decide +kernel) (by decide +kernel) (by decide +kernel) (by decide) dc_2_6_1 ?_
  refine r_aload_n rfl dc_2_6_63 ?_
  refine h_get (t := (10, 0, rl [(9, D 6 x), (8, D 5 x)])) (v := .int (sg 30 x)) fx_10_27 hS hSC (show some (Value.int _) = _ from congrArg (fun z => some (Value.int z)) (f3)) dc_2_6_64 ?_
  exact r_iret rfl dc_2_6_67 (rfl)
set_option maxHeartbeats 4000000 in
theorem k_shown_4 (M : mH) (T : Nat → mT) (cs : Nat → Nat → Int32) (sg : Nat → Nat → Int32) (D : Nat → Nat → Nat) (x cn : Nat) (wc : Nat → Nat) (hs : AgR M T cs sg D x cn wc) : mm_Ev 1 180 [.ref (D 4 x), .int (nI 4)] (hk M T cs) ((some (.int (sg 31 x)), hk M T cs)) := by
  obtain ⟨hS, hSC, ⟨hT5, hC5, hT6, hC6⟩, ⟨f0, f1, f2, f3, f4, f5, f6, f7⟩, fc, hcn, how, hoc, hn56, hn46⟩ := id hs
  refine r_ev (by decide +kernel) (show (2 : Nat) ≤ mm_nL 180 by decide +kernel) ?_
  show mm_Ru 0 (10, 2, false, prog_2_method_6_code, some .int) 0 [(0, .ref (D 4 x)), (1, .int (nI 4))] [] (hk M T cs) (fun r9 => r9 = ((some (.int (sg 31 x)), hk M T cs)))
  refine r_iload_n rfl dc_2_6_0 ?_
  refine r_swIn (off := 67) (t := 68) (by decide +kernel) (by decide +kernel) (by decide +kernel) (by decide) dc_2_6_1 ?_
  refine r_aload_n rfl dc_2_6_68 ?_
  refine h_get (t := (10, 0, rl [(9, D 6 x), (8, D 5 x)])) (v := .int (sg 31 x)) fx_10_31 hS hSC (show some (Value.int _) = _ from congrArg (fun z => some (Value.int z)) (f4)) dc_2_6_69 ?_
  exact r_iret rfl dc_2_6_72 (rfl)
set_option maxHeartbeats 4000000 in
theorem k_shown_5 (M : mH) (T : Nat → mT) (cs : Nat → Nat → Int32) (sg : Nat → Nat → Int32) (D : Nat → Nat → Nat) (x cn : Nat) (wc : Nat → Nat) (hs : AgR M T cs sg D x cn wc) : mm_Ev 1 180 [.ref (D 4 x), .int (nI 5)] (hk M T cs) ((some (.int (sg 32 x)), hk M T cs)) := by
  obtain ⟨hS, hSC, ⟨hT5, hC5, hT6, hC6⟩, ⟨f0, f1, f2, f3, f4, f5, f6, f7⟩, fc, hcn, how, hoc, hn56, hn46⟩ := id hs
  refine r_ev (by decide +kernel) (show (2 : Nat) ≤ mm_nL 180 by decide +kernel) ?_
  show mm_Ru 0 (10, 2, false, prog_2_method_6_code, some .int) 0 [(0, .ref (D 4 x)), (1, .int (nI 5))] [] (hk M T cs) (fun r9 => r9 = ((some (.int (sg 32 x)), hk M T cs)))
  refine r_iload_n rfl dc_2_6_0 ?_
  refine r_swIn (off := 72) (t := 73) (by decide +kernel) (by decide +kernel) (by decide +kernel) (by decide) dc_2_6_1 ?_
  refine r_aload_n rfl dc_2_6_73 ?_
  refine h_get (t := (10, 0, rl [(9, D 6 x), (8, D 5 x)])) (v := .int (sg 32 x)) fx_10_35 hS hSC (show some (Value.int _) = _ from congrArg (fun z => some (Value.int z)) (f5)) dc_2_6_74 ?_
  exact r_iret rfl dc_2_6_77 (rfl)
set_option maxHeartbeats 4000000 in
theorem k_shown_6 (M : mH) (T : Nat → mT) (cs : Nat → Nat → Int32) (sg : Nat → Nat → Int32) (D : Nat → Nat → Nat) (x cn : Nat) (wc : Nat → Nat) (hs : AgR M T cs sg D x cn wc) : mm_Ev 1 180 [.ref (D 4 x), .int (nI 6)] (hk M T cs) ((some (.int (sg 33 x)), hk M T cs)) := by
  obtain ⟨hS, hSC, ⟨hT5, hC5, hT6, hC6⟩, ⟨f0, f1, f2, f3, f4, f5, f6, f7⟩, fc, hcn, how, hoc, hn56, hn46⟩ := id hs
  refine r_ev (by decide +kernel) (show (2 : Nat) ≤ mm_nL 180 by decide +kernel) ?_
  show mm_Ru 0 (10, 2, false, prog_2_method_6_code, some .int) 0 [(0, .ref (D 4 x)), (1, .int (nI 6))] [] (hk M T cs) (fun r9 => r9 = ((some (.int (sg 33 x)), hk M T cs)))
  refine r_iload_n rfl dc_2_6_0 ?_
  refine r_swIn (off := 77) (t := 78) (by decide +kernel) (by decide +kernel) (by decide +kernel) (by decide) dc_2_6_1 ?_
  refine r_aload_n rfl dc_2_6_78 ?_
  refine h_get (t := (10, 0, rl [(9, D 6 x), (8, D 5 x)])) (v := .int (sg 33 x)) fx_10_39 hS hSC (show some (Value.int _) = _ from congrArg (fun z => some (Value.int z)) (f6)) dc_2_6_79 ?_
  exact r_iret rfl dc_2_6_82 (rfl)
set_option maxHeartbeats 4000000 in
theorem k_shown_7 (M : mH) (T : Nat → mT) (cs : Nat → Nat → Int32) (sg : Nat → Nat → Int32) (D : Nat → Nat → Nat) (x cn : Nat) (wc : Nat → Nat) (hs : AgR M T cs sg D x cn wc) : mm_Ev 1 180 [.ref (D 4 x), .int (nI 7)] (hk M T cs) ((some (.int (sg 34 x)), hk M T cs)) := by
  obtain ⟨hS, hSC, ⟨hT5, hC5, hT6, hC6⟩, ⟨f0, f1, f2, f3, f4, f5, f6, f7⟩, fc, hcn, how, hoc, hn56, hn46⟩ := id hs
  refine r_ev (by decide +kernel) (show (2 : Nat) ≤ mm_nL 180 by decide +kernel) ?_
  show mm_Ru 0 (10, 2, false, prog_2_method_6_code, some .int) 0 [(0, .ref (D 4 x)), (1, .int (nI 7))] [] (hk M T cs) (fun r9 => r9 = ((some (.int (sg 34 x)), hk M T cs)))
  refine r_iload_n rfl dc_2_6_0 ?_
  refine r_swIn (off := 82) (t := 83) (by decide +kernel) (by decide +kernel) (by decide +kernel) (by decide) dc_2_6_1 ?_
  refine r_aload_n rfl dc_2_6_83 ?_
  refine h_get (t := (10, 0, rl [(9, D 6 x), (8, D 5 x)])) (v := .int (sg 34 x)) fx_10_43 hS hSC (show some (Value.int _) = _ from congrArg (fun z => some (Value.int z)) (f7)) dc_2_6_84 ?_
  exact r_iret rfl dc_2_6_87 (rfl)
set_option maxHeartbeats 4000000 in
theorem k_shown_n (M : mH) (T : Nat → mT) (cs : Nat → Nat → Int32) (sg : Nat → Nat → Int32) (D : Nat → Nat → Nat) (x cn : Nat) (wc : Nat → Nat) (hs : AgR M T cs sg D x cn wc) (y : Int32) (hx : y.toInt < 0 ∨ 7 < y.toInt) : mm_Ev 1 180 [.ref (D 4 x), .int y] (hk M T cs) ((some (.int (-1)), hk M T cs)) := by
  obtain ⟨hS, hSC, ⟨hT5, hC5, hT6, hC6⟩, ⟨f0, f1, f2, f3, f4, f5, f6, f7⟩, fc, hcn, how, hoc, hn56, hn46⟩ := id hs
  refine r_ev (by decide +kernel) (show (2 : Nat) ≤ mm_nL 180 by decide +kernel) ?_
  show mm_Ru 0 (10, 2, false, prog_2_method_6_code, some .int) 0 [(0, .ref (D 4 x)), (1, .int y)] [] (hk M T cs) (fun r9 => r9 = ((some (.int (-1)), hk M T cs)))
  refine r_iload_n rfl dc_2_6_0 ?_
  refine r_swOut (t := 88) (hx) (by decide) dc_2_6_1 ?_
  refine r_iconst (v := -1) (by decide) dc_2_6_88 ?_
  exact r_iret rfl dc_2_6_89 (rfl)
def hld (n s v : Nat) : Prop := if s = 0 then n < v else if s = 1 then v < n else n = v
set_option maxHeartbeats 4000000 in
theorem k_holds (N : mH) (n s v : Nat) (hn : n < 2 ^ 31) (hs : s < 2 ^ 31) (hv : v < 2 ^ 31) : mm_Ev 1 88 [.int (nI n), .int (nI s), .int (nI v)] (N) ((some (.int (pI (hld n s v))), N)) := by
  refine r_ev (by decide +kernel) (show (3 : Nat) ≤ mm_nL 88 by decide +kernel) ?_
  show mm_Ru 0 (10, 3, false, prog_2_method_9_code, some .boolean) 0 [(0, .int (nI n)), (1, .int (nI s)), (2, .int (nI v))] [] (N) (fun r9 => r9 = ((some (.int (pI (hld n s v))), N)))
  refine r_iload_n rfl dc_2_9_0 ?_
  refine r_nzne (t := 15) (by omega) (by decide) dc_2_9_1 (fun c_1 => ?_) (fun c_1 => ?_)
  · skip
    refine r_iload_n rfl dc_2_9_15 ?_
    refine r_iconst (v := nI 1) (by decide) dc_2_9_16 ?_
    refine r_ncne (t := 33) (by omega) (by omega) (by decide) dc_2_9_17 (fun c_17 => ?_) (fun c_17 => ?_)
    · skip
      refine r_iload_n rfl dc_2_9_33 ?_
      refine r_iload_n rfl dc_2_9_34 ?_
      refine r_ncne (t := 42) (by omega) (by omega) (by decide) dc_2_9_35 (fun c_35 => ?_) (fun c_35 => ?_)
      · skip
        refine r_iconst (v := nI 0) (by decide) dc_2_9_42 ?_
        refine r_zret rfl (by decide) dc_2_9_43 ?_
        rw [pI_f (P := hld n s v) (by unfold hld; rw [if_neg c_1, if_neg c_17]; omega)]
      · skip
        refine r_iconst (v := nI 1) (by decide) dc_2_9_38 ?_
        refine r_goto (t := 43) (by decide) dc_2_9_39 ?_
        refine r_zret rfl (by decide) dc_2_9_43 ?_
        rw [pI_t (P := hld n s v) (by unfold hld; rw [if_neg c_1, if_neg c_17]; omega)]
    · skip
      refine r_iload_n rfl dc_2_9_20 ?_
      refine r_iload_n rfl dc_2_9_21 ?_
      refine r_ncle (t := 29) (by omega) (by omega) (by decide) dc_2_9_22 (fun c_22 => ?_) (fun c_22 => ?_)
      · skip
        refine r_iconst (v := nI 0) (by decide) dc_2_9_29 ?_
        refine r_goto (t := 43) (by decide) dc_2_9_30 ?_
        refine r_zret rfl (by decide) dc_2_9_43 ?_
        rw [pI_f (P := hld n s v) (by unfold hld; rw [if_neg c_1, if_pos c_17]; omega)]
      · skip
        refine r_iconst (v := nI 1) (by decide) dc_2_9_25 ?_
        refine r_goto (t := 43) (by decide) dc_2_9_26 ?_
        refine r_zret rfl (by decide) dc_2_9_43 ?_
        rw [pI_t (P := hld n s v) (by unfold hld; rw [if_neg c_1, if_pos c_17]; omega)]
  · skip
    refine r_iload_n rfl dc_2_9_4 ?_
    refine r_iload_n rfl dc_2_9_5 ?_
    refine r_ncge (t := 13) (by omega) (by omega) (by decide) dc_2_9_6 (fun c_6 => ?_) (fun c_6 => ?_)
    · skip
      refine r_iconst (v := nI 0) (by decide) dc_2_9_13 ?_
      refine r_zret rfl (by decide) dc_2_9_14 ?_
      rw [pI_f (P := hld n s v) (by unfold hld; rw [if_pos c_1]; omega)]
    · skip
      refine r_iconst (v := nI 1) (by decide) dc_2_9_9 ?_
      refine r_goto (t := 14) (by decide) dc_2_9_10 ?_
      refine r_zret rfl (by decide) dc_2_9_14 ?_
      rw [pI_t (P := hld n s v) (by unfold hld; rw [if_pos c_1]; omega)]
def bI (k u : Nat) : Int32 := if k.testBit u = true then nI 1 else nI 0
def mS (s a : Nat) : Nat := if s = 0 then 2 ^ a - 1 else if s = 1 then 255 - ((2 ^ a - 1) ||| (2 ^ a % 256)) else 2 ^ a % 256
theorem mS_shl : ∀ a, a < 9 → nI 1 <<< (nI a &&& 31) - nI 1 = nI (2 ^ a - 1) ∧ nI 1 <<< (nI a &&& 31) &&& nI 255 = nI (2 ^ a % 256) := by decide +kernel
theorem mS_1 : ∀ a, a < 9 → nI 255 &&& ((nI (2 ^ a - 1) ||| nI (2 ^ a % 256)) ^^^ -1) = nI (255 - ((2 ^ a - 1) ||| (2 ^ a % 256))) := by decide +kernel
theorem mS_u : ∀ a, a < 9 → ∀ u, u < 8 → bI (mS 0 a) u = (if u < a then nI 1 else nI 0) ∧ bI (mS 1 a) u = (if a < u then nI 1 else nI 0) ∧ bI (mS 2 a) u = (if u = a then nI 1 else nI 0) := by decide +kernel
theorem mS_lt : ∀ a, a < 9 → mS 0 a < 256 ∧ mS 1 a < 256 ∧ mS 2 a < 256 := by decide +kernel
set_option maxHeartbeats 4000000 in
theorem k_cmpS (N : mH) (s v : Nat) (hs : s < 3) (hv : v < 2 ^ 31) : mm_Ev 1 89 [.int (nI s), .int (nI v)] (N) ((some (.int (nI (mS s (min v 8)))), N)) := by
  refine r_ev (by decide +kernel) (show (2 : Nat) ≤ mm_nL 89 by decide +kernel) ?_
  show mm_Ru 0 (10, 5, false, prog_2_method_8_code, some .int) 0 [(0, .int (nI s)), (1, .int (nI v))] [] (N) (fun r9 => r9 = ((some (.int (nI (mS s (min v 8)))), N)))
  refine r_iload_n rfl dc_2_8_0 ?_
  refine r_bipush (v := nI 7) (by decide) dc_2_8_1 ?_
  refine r_ncle (t := 11) (by omega) (by omega) (by decide) dc_2_8_3 (fun c_3 => ?_) (fun c_3 => ?_)
  · skip
    refine r_iload_n rfl dc_2_8_11 ?_
    obtain ⟨a, hae⟩ : ∃ a, a = v := ⟨v, rfl⟩
    have ha : a < 9 := by omega
    have hA := mS_shl a ha
    have hmin : min v 8 = a := by omega
    rw [hae.symm]
    
    refine r_istore_n (ls' := [(2, .int (nI a)), (0, .int (nI s)), (1, .int (nI a))]) (by decide) rfl dc_2_8_12 ?_
    refine r_iconst (v := nI 1) (by decide) dc_2_8_13 ?_
    refine r_iload_n rfl dc_2_8_14 ?_
    refine r_ishl (v := nI 1 <<< (nI a &&& 31)) (rfl) dc_2_8_15 ?_
    refine r_iconst (v := nI 1) (by decide) dc_2_8_16 ?_
    refine r_isub (v := nI (2 ^ a - 1)) (hA.1) dc_2_8_17 ?_
    refine r_istore_n (ls' := [(3, .int (nI (2 ^ a - 1))), (2, .int (nI a)), (0, .int (nI s)), (1, .int (nI a))]) (by decide) rfl dc_2_8_18 ?_
    refine r_iconst (v := nI 1) (by decide) dc_2_8_19 ?_
    refine r_iload_n rfl dc_2_8_20 ?_
    refine r_ishl (v := nI 1 <<< (nI a &&& 31)) (rfl) dc_2_8_21 ?_
    refine r_sipush (v := nI 255) (by decide) dc_2_8_22 ?_
    refine r_iand (v := nI (2 ^ a % 256)) (hA.2) dc_2_8_25 ?_
    refine r_istore (ls' := [(4, .int (nI (2 ^ a % 256))), (3, .int (nI (2 ^ a - 1))), (2, .int (nI a)), (0, .int (nI s)), (1, .int (nI a))]) (by decide) rfl dc_2_8_26 ?_
    refine r_iload_n rfl dc_2_8_28 ?_
    refine r_nzne (t := 34) (by omega) (by decide) dc_2_8_29 (fun c_29 => ?_) (fun c_29 => ?_)
    · skip
      refine r_iload_n rfl dc_2_8_34 ?_
      refine r_iconst (v := nI 1) (by decide) dc_2_8_35 ?_
      refine r_ncne (t := 52) (by omega) (by omega) (by decide) dc_2_8_36 (fun c_36 => ?_) (fun c_36 => ?_)
      · skip
        refine r_iload rfl dc_2_8_52 ?_
        refine r_iret rfl dc_2_8_54 ?_
        first | rw [hmin] | rw [show min a 8 = a by omega]
        unfold mS
        rw [if_neg c_29, if_neg c_36]
      · skip
        refine r_sipush (v := nI 255) (by decide) dc_2_8_39 ?_
        refine r_iload_n rfl dc_2_8_42 ?_
        refine r_iload rfl dc_2_8_43 ?_
        refine r_ior (v := nI (2 ^ a - 1) ||| nI (2 ^ a % 256)) (rfl) dc_2_8_45 ?_
        refine r_iconst (v := -1) (by decide) dc_2_8_46 ?_
        refine r_ixor (v := (nI (2 ^ a - 1) ||| nI (2 ^ a % 256)) ^^^ -1) (rfl) dc_2_8_47 ?_
        refine r_iand (v := nI (255 - ((2 ^ a - 1) ||| (2 ^ a % 256)))) (mS_1 a ha) dc_2_8_48 ?_
        refine r_goto (t := 54) (by decide) dc_2_8_49 ?_
        refine r_iret rfl dc_2_8_54 ?_
        first | rw [hmin] | rw [show min a 8 = a by omega]
        unfold mS
        rw [if_neg c_29, if_pos c_36]
    · skip
      refine r_iload_n rfl dc_2_8_32 ?_
      refine r_iret rfl dc_2_8_33 ?_
      first | rw [hmin] | rw [show min a 8 = a by omega]
      unfold mS
      rw [if_pos c_29]
  · skip
    refine r_bipush (v := nI 8) (by decide) dc_2_8_6 ?_
    refine r_goto (t := 12) (by decide) dc_2_8_8 ?_
    obtain ⟨a, hae⟩ : ∃ a, a = 8 := ⟨8, rfl⟩
    have ha : a < 9 := by omega
    have hA := mS_shl a ha
    have hmin : min v 8 = a := by omega
    rw [show nI 8 = nI a from congrArg nI hae.symm]
    refine r_istore_n (ls' := [(2, .int (nI a)), (0, .int (nI s)), (1, .int (nI v))]) (by decide) rfl dc_2_8_12 ?_
    refine r_iconst (v := nI 1) (by decide) dc_2_8_13 ?_
    refine r_iload_n rfl dc_2_8_14 ?_
    refine r_ishl (v := nI 1 <<< (nI a &&& 31)) (rfl) dc_2_8_15 ?_
    refine r_iconst (v := nI 1) (by decide) dc_2_8_16 ?_
    refine r_isub (v := nI (2 ^ a - 1)) (hA.1) dc_2_8_17 ?_
    refine r_istore_n (ls' := [(3, .int (nI (2 ^ a - 1))), (2, .int (nI a)), (0, .int (nI s)), (1, .int (nI v))]) (by decide) rfl dc_2_8_18 ?_
    refine r_iconst (v := nI 1) (by decide) dc_2_8_19 ?_
    refine r_iload_n rfl dc_2_8_20 ?_
    refine r_ishl (v := nI 1 <<< (nI a &&& 31)) (rfl) dc_2_8_21 ?_
    refine r_sipush (v := nI 255) (by decide) dc_2_8_22 ?_
    refine r_iand (v := nI (2 ^ a % 256)) (hA.2) dc_2_8_25 ?_
    refine r_istore (ls' := [(4, .int (nI (2 ^ a % 256))), (3, .int (nI (2 ^ a - 1))), (2, .int (nI a)), (0, .int (nI s)), (1, .int (nI v))]) (by decide) rfl dc_2_8_26 ?_
    refine r_iload_n rfl dc_2_8_28 ?_
    refine r_nzne (t := 34) (by omega) (by decide) dc_2_8_29 (fun c_29 => ?_) (fun c_29 => ?_)
    · skip
      refine r_iload_n rfl dc_2_8_34 ?_
      refine r_iconst (v := nI 1) (by decide) dc_2_8_35 ?_
      refine r_ncne (t := 52) (by omega) (by omega) (by decide) dc_2_8_36 (fun c_36 => ?_) (fun c_36 => ?_)
      · skip
        refine r_iload rfl dc_2_8_52 ?_
        refine r_iret rfl dc_2_8_54 ?_
        first | rw [hmin] | rw [show min a 8 = a by omega]
        unfold mS
        rw [if_neg c_29, if_neg c_36]
      · skip
        refine r_sipush (v := nI 255) (by decide) dc_2_8_39 ?_
        refine r_iload_n rfl dc_2_8_42 ?_
        refine r_iload rfl dc_2_8_43 ?_
        refine r_ior (v := nI (2 ^ a - 1) ||| nI (2 ^ a % 256)) (rfl) dc_2_8_45 ?_
        refine r_iconst (v := -1) (by decide) dc_2_8_46 ?_
        refine r_ixor (v := (nI (2 ^ a - 1) ||| nI (2 ^ a % 256)) ^^^ -1) (rfl) dc_2_8_47 ?_
        refine r_iand (v := nI (255 - ((2 ^ a - 1) ||| (2 ^ a % 256)))) (mS_1 a ha) dc_2_8_48 ?_
        refine r_goto (t := 54) (by decide) dc_2_8_49 ?_
        refine r_iret rfl dc_2_8_54 ?_
        first | rw [hmin] | rw [show min a 8 = a by omega]
        unfold mS
        rw [if_neg c_29, if_pos c_36]
    · skip
      refine r_iload_n rfl dc_2_8_32 ?_
      refine r_iret rfl dc_2_8_33 ?_
      first | rw [hmin] | rw [show min a 8 = a by omega]
      unfold mS
      rw [if_pos c_29]
noncomputable def cmk (g t c w : Nat) : Nat := if w / 100000 = 3 then mS (w / 10000 % 10) (min (w % 10000) 8) else @ite _ (hld (vl g t c 0 (w / 100000)) (w / 10000 % 10) (w % 10000)) (Classical.propDecidable _) 255 0
theorem bI_255 : ∀ u, u < 8 → bI 255 u = nI 1 ∧ bI 0 u = nI 0 := by decide +kernel
theorem cmk_lt (g t c : Nat) {w : Nat} (h : w < 400000) (h2 : w / 10000 % 10 < 3) : cmk g t c w < 256 := by
  unfold cmk
  split
  · have := mS_lt (min (w % 10000) 8) (by omega)
    rcases (by omega : w / 10000 % 10 = 0 ∨ w / 10000 % 10 = 1 ∨ w / 10000 % 10 = 2) with e | e | e <;> rw [e]
    · exact this.1
    · exact this.2.1
    · exact this.2.2
  · split
    · decide
    · decide
theorem cmk_u (g t c : Nat) {w u : Nat} (h : w < 400000) (h2 : w / 10000 % 10 < 3) (hu : u < 8) : bI (cmk g t c w) u = cmpv g t c u w := by
  unfold cmk
  split
  · rename_i h3
    have := mS_u (min (w % 10000) 8) (by omega) u hu
    have hv : vl g t c u (w / 100000) = u := by
      unfold vl
      rw [h3]
      rfl
    unfold cmpv
    rw [hv]
    rcases (by omega : w / 10000 % 10 = 0 ∨ w / 10000 % 10 = 1 ∨ w / 10000 % 10 = 2) with e | e | e <;> rw [e]
    · rw [this.1, if_pos rfl]
      by_cases q : u < w % 10000
      · rw [if_pos q, if_pos (by omega)]
      · rw [if_neg q, if_neg (by omega)]
    · rw [if_neg (show ¬ (1 : Nat) = 0 by decide), if_pos rfl, this.2.1]
      by_cases q : w % 10000 < u
      · rw [if_pos q, if_pos (by omega)]
      · rw [if_neg q, if_neg (by omega)]
    · rw [if_neg (show ¬ (2 : Nat) = 0 by decide), if_neg (show ¬ (2 : Nat) = 1 by decide), this.2.2]
      by_cases q : u = w % 10000
      · rw [if_pos q, if_pos (by omega)]
      · rw [if_neg q, if_neg (by omega)]
  · rename_i h3
    have hv : vl g t c u (w / 100000) = vl g t c 0 (w / 100000) := by
      unfold vl
      rcases (by omega : w / 100000 = 0 ∨ w / 100000 = 1 ∨ w / 100000 = 2) with e | e | e <;> rw [e] <;> rfl
    unfold cmpv
    rw [hv]
    generalize vl g t c 0 (w / 100000) = n
    rcases (by omega : w / 10000 % 10 = 0 ∨ w / 10000 % 10 = 1 ∨ w / 10000 % 10 = 2) with e | e | e <;> rw [e]
    · have hh : hld n 0 (w % 10000) ↔ n < w % 10000 := by
        unfold hld
        simp
      split
      · rename_i q
        rw [(bI_255 u hu).1, if_pos rfl, if_pos (hh.mp q)]
      · rename_i q
        rw [(bI_255 u hu).2, if_pos rfl, if_neg (fun z => q (hh.mpr z))]
    · have hh : hld n 1 (w % 10000) ↔ w % 10000 < n := by
        unfold hld
        simp
      split
      · rename_i q
        rw [(bI_255 u hu).1, if_neg (by decide), if_pos rfl, if_pos (hh.mp q)]
      · rename_i q
        rw [(bI_255 u hu).2, if_neg (by decide), if_pos rfl, if_neg (fun z => q (hh.mpr z))]
    · have hh : hld n 2 (w % 10000) ↔ n = w % 10000 := by
        unfold hld
        simp
      split
      · rename_i q
        rw [(bI_255 u hu).1, if_neg (by decide), if_neg (by decide), if_pos (hh.mp q)]
      · rename_i q
        rw [(bI_255 u hu).2, if_neg (by decide), if_neg (by decide), if_neg (fun z => q (hh.mpr z))]
theorem encN_d {w : Nat} (h : w < 400000) (h2 : w / 10000 % 10 < 3) : encN w % 10000 = w % 10000 ∧ encN w / 10000 = w / 100000 * 3 + w / 10000 % 10 ∧ (w / 100000 * 3 + w / 10000 % 10) % 3 = w / 10000 % 10 ∧ (w / 100000 * 3 + w / 10000 % 10) / 3 = w / 100000 := by
  unfold encN
  omega
set_option maxHeartbeats 4000000 in
theorem k_cmp_0 (N : mH) (w g t c : Nat) (hw : w < 400000) (hw2 : w / 10000 % 10 < 3) (hL : w / 100000 = 0) (hg : g < 2 ^ 31) (ht : t < 2 ^ 31) (hc : c < 2 ^ 31) : mm_Ev 2 87 [.int (nI (encN w)), .int (nI g), .int (nI t), .int (nI c)] (N) ((some (.int (nI (cmk g t c w))), N)) := by
  have hd := encN_d hw hw2
  have hlt := encN_lt hw hw2
  refine r_ev (by decide +kernel) (show (4 : Nat) ≤ mm_nL 87 by decide +kernel) ?_
  show mm_Ru 1 (10, 6, false, prog_2_method_7_code, some .int) 0 [(0, .int (nI (encN w))), (1, .int (nI g)), (2, .int (nI t)), (3, .int (nI c))] [] (N) (fun r9 => r9 = ((some (.int (nI (cmk g t c w))), N)))
  refine r_iload_n rfl dc_2_7_0 ?_
  refine r_sipush (v := nI 10000) (by decide) dc_2_7_1 ?_
  refine r_irem (v := nI (w % 10000)) (nI_ne0 (by decide) (by decide)) ((pk_rem (by omega) (by decide) (by decide)).trans (congrArg nI hd.1)) dc_2_7_4 ?_
  refine r_istore (ls' := [(4, .int (nI (w % 10000))), (0, .int (nI (encN w))), (1, .int (nI g)), (2, .int (nI t)), (3, .int (nI c))]) (by decide) rfl dc_2_7_5 ?_
  refine r_iload_n rfl dc_2_7_7 ?_
  refine r_sipush (v := nI 10000) (by decide) dc_2_7_8 ?_
  refine r_idiv (v := nI (w / 100000 * 3 + w / 10000 % 10)) (nI_ne0 (by decide) (by decide)) ((pk_div (by omega) (by decide) (by decide)).trans (congrArg nI hd.2.1)) dc_2_7_11 ?_
  refine r_iconst (v := nI 3) (by decide) dc_2_7_12 ?_
  refine r_irem (v := nI (w / 10000 % 10)) (nI_ne0 (by decide) (by decide)) ((pk_rem (by omega) (by decide) (by decide)).trans (congrArg nI hd.2.2.1)) dc_2_7_13 ?_
  refine r_istore (ls' := [(5, .int (nI (w / 10000 % 10))), (4, .int (nI (w % 10000))), (0, .int (nI (encN w))), (1, .int (nI g)), (2, .int (nI t)), (3, .int (nI c))]) (by decide) rfl dc_2_7_14 ?_
  refine r_iload_n rfl dc_2_7_16 ?_
  refine r_sipush (v := nI 10000) (by decide) dc_2_7_17 ?_
  refine r_idiv (v := nI (w / 100000 * 3 + w / 10000 % 10)) (nI_ne0 (by decide) (by decide)) ((pk_div (by omega) (by decide) (by decide)).trans (congrArg nI hd.2.1)) dc_2_7_20 ?_
  refine r_iconst (v := nI 3) (by decide) dc_2_7_21 ?_
  refine r_idiv (v := nI 0) (nI_ne0 (by decide) (by decide)) ((pk_div (by omega) (by decide) (by decide)).trans (congrArg nI (hd.2.2.2.trans hL))) dc_2_7_22 ?_
  refine r_swIn (off := 25) (t := 48) (by decide +kernel) (by decide +kernel) (by decide +kernel) (by decide) dc_2_7_23 ?_
  refine r_iload_n rfl dc_2_7_48 ?_
  refine r_iload rfl dc_2_7_49 ?_
  refine r_iload rfl dc_2_7_51 ?_
  refine h_callS (as := [.int (nI g), .int (nI (w / 10000 % 10)), .int (nI (w % 10000))]) (rest := []) (v := .int (pI (hld g (w / 10000 % 10) (w % 10000)))) rfl rfl iv_10_s66 (Or.inl rfl) na_0_88 rfl (show (0 : Nat) ≤ 8 by decide) dc_2_7_53 (k_holds _ g (w / 10000 % 10) (w % 10000) (by omega) (by omega) (by omega)) ?_
  refine r_ifeq (t := 65) (by decide) dc_2_7_56 (fun c_56 => ?_) (fun c_56 => ?_)
  · skip
    refine r_iconst (v := nI 0) (by decide) dc_2_7_65 ?_
    refine r_iret rfl dc_2_7_66 ?_
    rw [show cmk g t c w = 0 from (if_neg (by rw [hL]; decide)).trans (if_neg (by rw [hL]; exact pI_eq0 c_56))]
  · skip
    refine r_sipush (v := nI 255) (by decide) dc_2_7_59 ?_
    refine r_goto (t := 66) (by decide) dc_2_7_62 ?_
    refine r_iret rfl dc_2_7_66 ?_
    rw [show cmk g t c w = 255 from (if_neg (by rw [hL]; decide)).trans (if_pos (by rw [hL]; exact pI_ne c_56))]
set_option maxHeartbeats 4000000 in
theorem k_cmp_1 (N : mH) (w g t c : Nat) (hw : w < 400000) (hw2 : w / 10000 % 10 < 3) (hL : w / 100000 = 1) (hg : g < 2 ^ 31) (ht : t < 2 ^ 31) (hc : c < 2 ^ 31) : mm_Ev 2 87 [.int (nI (encN w)), .int (nI g), .int (nI t), .int (nI c)] (N) ((some (.int (nI (cmk g t c w))), N)) := by
  have hd := encN_d hw hw2
  have hlt := encN_lt hw hw2
  refine r_ev (by decide +kernel) (show (4 : Nat) ≤ mm_nL 87 by decide +kernel) ?_
  show mm_Ru 1 (10, 6, false, prog_2_method_7_code, some .int) 0 [(0, .int (nI (encN w))), (1, .int (nI g)), (2, .int (nI t)), (3, .int (nI c))] [] (N) (fun r9 => r9 = ((some (.int (nI (cmk g t c w))), N)))
  refine r_iload_n rfl dc_2_7_0 ?_
  refine r_sipush (v := nI 10000) (by decide) dc_2_7_1 ?_
  refine r_irem (v := nI (w % 10000)) (nI_ne0 (by decide) (by decide)) ((pk_rem (by omega) (by decide) (by decide)).trans (congrArg nI hd.1)) dc_2_7_4 ?_
  refine r_istore (ls' := [(4, .int (nI (w % 10000))), (0, .int (nI (encN w))), (1, .int (nI g)), (2, .int (nI t)), (3, .int (nI c))]) (by decide) rfl dc_2_7_5 ?_
  refine r_iload_n rfl dc_2_7_7 ?_
  refine r_sipush (v := nI 10000) (by decide) dc_2_7_8 ?_
  refine r_idiv (v := nI (w / 100000 * 3 + w / 10000 % 10)) (nI_ne0 (by decide) (by decide)) ((pk_div (by omega) (by decide) (by decide)).trans (congrArg nI hd.2.1)) dc_2_7_11 ?_
  refine r_iconst (v := nI 3) (by decide) dc_2_7_12 ?_
  refine r_irem (v := nI (w / 10000 % 10)) (nI_ne0 (by decide) (by decide)) ((pk_rem (by omega) (by decide) (by decide)).trans (congrArg nI hd.2.2.1)) dc_2_7_13 ?_
  refine r_istore (ls' := [(5, .int (nI (w / 10000 % 10))), (4, .int (nI (w % 10000))), (0, .int (nI (encN w))), (1, .int (nI g)), (2, .int (nI t)), (3, .int (nI c))]) (by decide) rfl dc_2_7_14 ?_
  refine r_iload_n rfl dc_2_7_16 ?_
  refine r_sipush (v := nI 10000) (by decide) dc_2_7_17 ?_
  refine r_idiv (v := nI (w / 100000 * 3 + w / 10000 % 10)) (nI_ne0 (by decide) (by decide)) ((pk_div (by omega) (by decide) (by decide)).trans (congrArg nI hd.2.1)) dc_2_7_20 ?_
  refine r_iconst (v := nI 3) (by decide) dc_2_7_21 ?_
  refine r_idiv (v := nI 1) (nI_ne0 (by decide) (by decide)) ((pk_div (by omega) (by decide) (by decide)).trans (congrArg nI (hd.2.2.2.trans hL))) dc_2_7_22 ?_
  refine r_swIn (off := 44) (t := 67) (by decide +kernel) (by decide +kernel) (by decide +kernel) (by decide) dc_2_7_23 ?_
  refine r_iload_n rfl dc_2_7_67 ?_
  refine r_iload rfl dc_2_7_68 ?_
  refine r_iload rfl dc_2_7_70 ?_
  refine h_callS (as := [.int (nI t), .int (nI (w / 10000 % 10)), .int (nI (w % 10000))]) (rest := []) (v := .int (pI (hld t (w / 10000 % 10) (w % 10000)))) rfl rfl iv_10_s66 (Or.inl rfl) na_0_88 rfl (show (0 : Nat) ≤ 8 by decide) dc_2_7_72 (k_holds _ t (w / 10000 % 10) (w % 10000) (by omega) (by omega) (by omega)) ?_
  refine r_ifeq (t := 84) (by decide) dc_2_7_75 (fun c_75 => ?_) (fun c_75 => ?_)
  · skip
    refine r_iconst (v := nI 0) (by decide) dc_2_7_84 ?_
    refine r_iret rfl dc_2_7_85 ?_
    rw [show cmk g t c w = 0 from (if_neg (by rw [hL]; decide)).trans (if_neg (by rw [hL]; exact pI_eq0 c_75))]
  · skip
    refine r_sipush (v := nI 255) (by decide) dc_2_7_78 ?_
    refine r_goto (t := 85) (by decide) dc_2_7_81 ?_
    refine r_iret rfl dc_2_7_85 ?_
    rw [show cmk g t c w = 255 from (if_neg (by rw [hL]; decide)).trans (if_pos (by rw [hL]; exact pI_ne c_75))]
set_option maxHeartbeats 4000000 in
theorem k_cmp_2 (N : mH) (w g t c : Nat) (hw : w < 400000) (hw2 : w / 10000 % 10 < 3) (hL : w / 100000 = 2) (hg : g < 2 ^ 31) (ht : t < 2 ^ 31) (hc : c < 2 ^ 31) : mm_Ev 2 87 [.int (nI (encN w)), .int (nI g), .int (nI t), .int (nI c)] (N) ((some (.int (nI (cmk g t c w))), N)) := by
  have hd := encN_d hw hw2
  have hlt := encN_lt hw hw2
  refine r_ev (by decide +kernel) (show (4 : Nat) ≤ mm_nL 87 by decide +kernel) ?_
  show mm_Ru 1 (10, 6, false, prog_2_method_7_code, some .int) 0 [(0, .int (nI (encN w))), (1, .int (nI g)), (2, .int (nI t)), (3, .int (nI c))] [] (N) (fun r9 => r9 = ((some (.int (nI (cmk g t c w))), N)))
  refine r_iload_n rfl dc_2_7_0 ?_
  refine r_sipush (v := nI 10000) (by decide) dc_2_7_1 ?_
  refine r_irem (v := nI (w % 10000)) (nI_ne0 (by decide) (by decide)) ((pk_rem (by omega) (by decide) (by decide)).trans (congrArg nI hd.1)) dc_2_7_4 ?_
  refine r_istore (ls' := [(4, .int (nI (w % 10000))), (0, .int (nI (encN w))), (1, .int (nI g)), (2, .int (nI t)), (3, .int (nI c))]) (by decide) rfl dc_2_7_5 ?_
  refine r_iload_n rfl dc_2_7_7 ?_
  refine r_sipush (v := nI 10000) (by decide) dc_2_7_8 ?_
  refine r_idiv (v := nI (w / 100000 * 3 + w / 10000 % 10)) (nI_ne0 (by decide) (by decide)) ((pk_div (by omega) (by decide) (by decide)).trans (congrArg nI hd.2.1)) dc_2_7_11 ?_
  refine r_iconst (v := nI 3) (by decide) dc_2_7_12 ?_
  refine r_irem (v := nI (w / 10000 % 10)) (nI_ne0 (by decide) (by decide)) ((pk_rem (by omega) (by decide) (by decide)).trans (congrArg nI hd.2.2.1)) dc_2_7_13 ?_
  refine r_istore (ls' := [(5, .int (nI (w / 10000 % 10))), (4, .int (nI (w % 10000))), (0, .int (nI (encN w))), (1, .int (nI g)), (2, .int (nI t)), (3, .int (nI c))]) (by decide) rfl dc_2_7_14 ?_
  refine r_iload_n rfl dc_2_7_16 ?_
  refine r_sipush (v := nI 10000) (by decide) dc_2_7_17 ?_
  refine r_idiv (v := nI (w / 100000 * 3 + w / 10000 % 10)) (nI_ne0 (by decide) (by decide)) ((pk_div (by omega) (by decide) (by decide)).trans (congrArg nI hd.2.1)) dc_2_7_20 ?_
  refine r_iconst (v := nI 3) (by decide) dc_2_7_21 ?_
  refine r_idiv (v := nI 2) (nI_ne0 (by decide) (by decide)) ((pk_div (by omega) (by decide) (by decide)).trans (congrArg nI (hd.2.2.2.trans hL))) dc_2_7_22 ?_
  refine r_swIn (off := 63) (t := 86) (by decide +kernel) (by decide +kernel) (by decide +kernel) (by decide) dc_2_7_23 ?_
  refine r_iload_n rfl dc_2_7_86 ?_
  refine r_iload rfl dc_2_7_87 ?_
  refine r_iload rfl dc_2_7_89 ?_
  refine h_callS (as := [.int (nI c), .int (nI (w / 10000 % 10)), .int (nI (w % 10000))]) (rest := []) (v := .int (pI (hld c (w / 10000 % 10) (w % 10000)))) rfl rfl iv_10_s66 (Or.inl rfl) na_0_88 rfl (show (0 : Nat) ≤ 8 by decide) dc_2_7_91 (k_holds _ c (w / 10000 % 10) (w % 10000) (by omega) (by omega) (by omega)) ?_
  refine r_ifeq (t := 103) (by decide) dc_2_7_94 (fun c_94 => ?_) (fun c_94 => ?_)
  · skip
    refine r_iconst (v := nI 0) (by decide) dc_2_7_103 ?_
    refine r_iret rfl dc_2_7_104 ?_
    rw [show cmk g t c w = 0 from (if_neg (by rw [hL]; decide)).trans (if_neg (by rw [hL]; exact pI_eq0 c_94))]
  · skip
    refine r_sipush (v := nI 255) (by decide) dc_2_7_97 ?_
    refine r_goto (t := 104) (by decide) dc_2_7_100 ?_
    refine r_iret rfl dc_2_7_104 ?_
    rw [show cmk g t c w = 255 from (if_neg (by rw [hL]; decide)).trans (if_pos (by rw [hL]; exact pI_ne c_94))]
set_option maxHeartbeats 4000000 in
theorem k_cmp_3 (N : mH) (w g t c : Nat) (hw : w < 400000) (hw2 : w / 10000 % 10 < 3) (hL : w / 100000 = 3) (hg : g < 2 ^ 31) (ht : t < 2 ^ 31) (hc : c < 2 ^ 31) : mm_Ev 2 87 [.int (nI (encN w)), .int (nI g), .int (nI t), .int (nI c)] (N) ((some (.int (nI (cmk g t c w))), N)) := by
  have hd := encN_d hw hw2
  have hlt := encN_lt hw hw2
  refine r_ev (by decide +kernel) (show (4 : Nat) ≤ mm_nL 87 by decide +kernel) ?_
  show mm_Ru 1 (10, 6, false, prog_2_method_7_code, some .int) 0 [(0, .int (nI (encN w))), (1, .int (nI g)), (2, .int (nI t)), (3, .int (nI c))] [] (N) (fun r9 => r9 = ((some (.int (nI (cmk g t c w))), N)))
  refine r_iload_n rfl dc_2_7_0 ?_
  refine r_sipush (v := nI 10000) (by decide) dc_2_7_1 ?_
  refine r_irem (v := nI (w % 10000)) (nI_ne0 (by decide) (by decide)) ((pk_rem (by omega) (by decide) (by decide)).trans (congrArg nI hd.1)) dc_2_7_4 ?_
  refine r_istore (ls' := [(4, .int (nI (w % 10000))), (0, .int (nI (encN w))), (1, .int (nI g)), (2, .int (nI t)), (3, .int (nI c))]) (by decide) rfl dc_2_7_5 ?_
  refine r_iload_n rfl dc_2_7_7 ?_
  refine r_sipush (v := nI 10000) (by decide) dc_2_7_8 ?_
  refine r_idiv (v := nI (w / 100000 * 3 + w / 10000 % 10)) (nI_ne0 (by decide) (by decide)) ((pk_div (by omega) (by decide) (by decide)).trans (congrArg nI hd.2.1)) dc_2_7_11 ?_
  refine r_iconst (v := nI 3) (by decide) dc_2_7_12 ?_
  refine r_irem (v := nI (w / 10000 % 10)) (nI_ne0 (by decide) (by decide)) ((pk_rem (by omega) (by decide) (by decide)).trans (congrArg nI hd.2.2.1)) dc_2_7_13 ?_
  refine r_istore (ls' := [(5, .int (nI (w / 10000 % 10))), (4, .int (nI (w % 10000))), (0, .int (nI (encN w))), (1, .int (nI g)), (2, .int (nI t)), (3, .int (nI c))]) (by decide) rfl dc_2_7_14 ?_
  refine r_iload_n rfl dc_2_7_16 ?_
  refine r_sipush (v := nI 10000) (by decide) dc_2_7_17 ?_
  refine r_idiv (v := nI (w / 100000 * 3 + w / 10000 % 10)) (nI_ne0 (by decide) (by decide)) ((pk_div (by omega) (by decide) (by decide)).trans (congrArg nI hd.2.1)) dc_2_7_20 ?_
  refine r_iconst (v := nI 3) (by decide) dc_2_7_21 ?_
  refine r_idiv (v := nI 3) (nI_ne0 (by decide) (by decide)) ((pk_div (by omega) (by decide) (by decide)).trans (congrArg nI (hd.2.2.2.trans hL))) dc_2_7_22 ?_
  refine r_swOut (t := 105) (by decide +kernel) (by decide) dc_2_7_23 ?_
  refine r_iload rfl dc_2_7_105 ?_
  refine r_iload rfl dc_2_7_107 ?_
  refine h_callS (as := [.int (nI (w / 10000 % 10)), .int (nI (w % 10000))]) (rest := []) (v := .int (nI (mS (w / 10000 % 10) (min (w % 10000) 8)))) rfl rfl iv_10_s69 (Or.inl rfl) na_0_89 rfl (show (0 : Nat) ≤ 8 by decide) dc_2_7_109 (k_cmpS _ (w / 10000 % 10) (w % 10000) (by omega) (by omega)) ?_
  refine r_iret rfl dc_2_7_112 ?_
  rw [show cmk g t c w = _ from if_pos hL]
theorem k_cmp (N : mH) (w g t c : Nat) (hw : w < 400000) (hw2 : w / 10000 % 10 < 3) (hg : g < 2 ^ 31) (ht : t < 2 ^ 31) (hc : c < 2 ^ 31) : mm_Ev 2 87 [.int (nI (encN w)), .int (nI g), .int (nI t), .int (nI c)] N (some (.int (nI (cmk g t c w))), N) := by
  rcases (by omega : w / 100000 = 0 ∨ w / 100000 = 1 ∨ w / 100000 = 2 ∨ w / 100000 = 3) with h | h | h | h
  · exact k_cmp_0 N w g t c hw hw2 h hg ht hc
  · exact k_cmp_1 N w g t c hw hw2 h hg ht hc
  · exact k_cmp_2 N w g t c hw hw2 h hg ht hc
  · exact k_cmp_3 N w g t c hw hw2 h hg ht hc
