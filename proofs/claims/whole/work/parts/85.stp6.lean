/-! calls of the law: turn, feed, year, terms -/
theorem dc_1_10_0 : decode prog_1_method_10_code 0 = .ok (.aload_n 0, 1) := by decide +kernel
theorem dc_1_10_1 : decode prog_1_method_10_code 1 = .ok (.iload_n 1, 1) := by decide +kernel
theorem dc_1_10_2 : decode prog_1_method_10_code 2 = .ok (.invokevirtual 157, 3) := by decide +kernel
theorem dc_1_10_5 : decode prog_1_method_10_code 5 = .ok (.astore 4, 2) := by decide +kernel
theorem dc_1_10_7 : decode prog_1_method_10_code 7 = .ok (.aload_n 0, 1) := by decide +kernel
theorem dc_1_10_8 : decode prog_1_method_10_code 8 = .ok (.iload_n 2, 1) := by decide +kernel
theorem dc_1_10_9 : decode prog_1_method_10_code 9 = .ok (.invokevirtual 157, 3) := by decide +kernel
theorem dc_1_10_12 : decode prog_1_method_10_code 12 = .ok (.astore 5, 2) := by decide +kernel
theorem dc_1_10_14 : decode prog_1_method_10_code 14 = .ok (.aload 4, 2) := by decide +kernel
theorem dc_1_10_16 : decode prog_1_method_10_code 16 = .ok (.ifnull 8, 3) := by decide +kernel
theorem dc_1_10_19 : decode prog_1_method_10_code 19 = .ok (.aload 5, 2) := by decide +kernel
theorem dc_1_10_21 : decode prog_1_method_10_code 21 = .ok (.ifnonnull 5, 3) := by decide +kernel
theorem dc_1_10_24 : decode prog_1_method_10_code 24 = .ok (.iconst (-1), 1) := by decide +kernel
theorem dc_1_10_25 : decode prog_1_method_10_code 25 = .ok (.ireturn, 1) := by decide +kernel
theorem dc_1_10_26 : decode prog_1_method_10_code 26 = .ok (.iload_n 3, 1) := by decide +kernel
theorem dc_1_10_27 : decode prog_1_method_10_code 27 = .ok (.tableswitch 95 0 2 #[25, 45, 65], 25) := by decide +kernel
theorem dc_1_10_52 : decode prog_1_method_10_code 52 = .ok (.aload_n 0, 1) := by decide +kernel
theorem dc_1_10_53 : decode prog_1_method_10_code 53 = .ok (.getfield 47, 3) := by decide +kernel
theorem dc_1_10_56 : decode prog_1_method_10_code 56 = .ok (.aload 4, 2) := by decide +kernel
theorem dc_1_10_58 : decode prog_1_method_10_code 58 = .ok (.aload 4, 2) := by decide +kernel
theorem dc_1_10_60 : decode prog_1_method_10_code 60 = .ok (.invokevirtual 164, 3) := by decide +kernel
theorem dc_1_10_63 : decode prog_1_method_10_code 63 = .ok (.ifCond .eq 7, 3) := by decide +kernel
theorem dc_1_10_66 : decode prog_1_method_10_code 66 = .ok (.iconst 0, 1) := by decide +kernel
theorem dc_1_10_67 : decode prog_1_method_10_code 67 = .ok (.goto 4, 3) := by decide +kernel
theorem dc_1_10_70 : decode prog_1_method_10_code 70 = .ok (.iconst 1, 1) := by decide +kernel
theorem dc_1_10_71 : decode prog_1_method_10_code 71 = .ok (.ireturn, 1) := by decide +kernel
theorem dc_1_10_72 : decode prog_1_method_10_code 72 = .ok (.aload_n 0, 1) := by decide +kernel
theorem dc_1_10_73 : decode prog_1_method_10_code 73 = .ok (.getfield 47, 3) := by decide +kernel
theorem dc_1_10_76 : decode prog_1_method_10_code 76 = .ok (.aload 5, 2) := by decide +kernel
theorem dc_1_10_78 : decode prog_1_method_10_code 78 = .ok (.aload 4, 2) := by decide +kernel
theorem dc_1_10_80 : decode prog_1_method_10_code 80 = .ok (.invokevirtual 168, 3) := by decide +kernel
theorem dc_1_10_83 : decode prog_1_method_10_code 83 = .ok (.ifCond .eq 7, 3) := by decide +kernel
theorem dc_1_10_86 : decode prog_1_method_10_code 86 = .ok (.iconst 0, 1) := by decide +kernel
theorem dc_1_10_87 : decode prog_1_method_10_code 87 = .ok (.goto 4, 3) := by decide +kernel
theorem dc_1_10_90 : decode prog_1_method_10_code 90 = .ok (.iconst 1, 1) := by decide +kernel
theorem dc_1_10_91 : decode prog_1_method_10_code 91 = .ok (.ireturn, 1) := by decide +kernel
theorem dc_1_10_92 : decode prog_1_method_10_code 92 = .ok (.aload 4, 2) := by decide +kernel
theorem dc_1_10_94 : decode prog_1_method_10_code 94 = .ok (.aload 5, 2) := by decide +kernel
theorem dc_1_10_96 : decode prog_1_method_10_code 96 = .ok (.invokevirtual 171, 3) := by decide +kernel
theorem dc_1_10_99 : decode prog_1_method_10_code 99 = .ok (.ifCond .eq 21, 3) := by decide +kernel
theorem dc_1_10_102 : decode prog_1_method_10_code 102 = .ok (.aload_n 0, 1) := by decide +kernel
theorem dc_1_10_103 : decode prog_1_method_10_code 103 = .ok (.getfield 47, 3) := by decide +kernel
theorem dc_1_10_106 : decode prog_1_method_10_code 106 = .ok (.aload 4, 2) := by decide +kernel
theorem dc_1_10_108 : decode prog_1_method_10_code 108 = .ok (.aload 5, 2) := by decide +kernel
theorem dc_1_10_110 : decode prog_1_method_10_code 110 = .ok (.invokevirtual 164, 3) := by decide +kernel
theorem dc_1_10_113 : decode prog_1_method_10_code 113 = .ok (.ifCond .ne 7, 3) := by decide +kernel
theorem dc_1_10_116 : decode prog_1_method_10_code 116 = .ok (.iconst 1, 1) := by decide +kernel
theorem dc_1_10_117 : decode prog_1_method_10_code 117 = .ok (.goto 4, 3) := by decide +kernel
theorem dc_1_10_120 : decode prog_1_method_10_code 120 = .ok (.iconst 0, 1) := by decide +kernel
theorem dc_1_10_121 : decode prog_1_method_10_code 121 = .ok (.ireturn, 1) := by decide +kernel
theorem dc_1_10_122 : decode prog_1_method_10_code 122 = .ok (.iconst (-1), 1) := by decide +kernel
theorem dc_1_10_123 : decode prog_1_method_10_code 123 = .ok (.ireturn, 1) := by decide +kernel
theorem dc_1_29_0 : decode prog_1_method_29_code 0 = .ok (.aload_n 0, 1) := by decide +kernel
theorem dc_1_29_1 : decode prog_1_method_29_code 1 = .ok (.getfield 7, 3) := by decide +kernel
theorem dc_1_29_4 : decode prog_1_method_29_code 4 = .ok (.bipush 99, 2) := by decide +kernel
theorem dc_1_29_6 : decode prog_1_method_29_code 6 = .ok (.if_icmp .lt 5, 3) := by decide +kernel
theorem dc_1_29_9 : decode prog_1_method_29_code 9 = .ok (.iconst (-1), 1) := by decide +kernel
theorem dc_1_29_10 : decode prog_1_method_29_code 10 = .ok (.ireturn, 1) := by decide +kernel
theorem dc_1_29_11 : decode prog_1_method_29_code 11 = .ok (.aload_n 0, 1) := by decide +kernel
theorem dc_1_29_12 : decode prog_1_method_29_code 12 = .ok (.dup, 1) := by decide +kernel
theorem dc_1_29_13 : decode prog_1_method_29_code 13 = .ok (.getfield 7, 3) := by decide +kernel
theorem dc_1_29_16 : decode prog_1_method_29_code 16 = .ok (.iconst 1, 1) := by decide +kernel
theorem dc_1_29_17 : decode prog_1_method_29_code 17 = .ok (.iadd, 1) := by decide +kernel
theorem dc_1_29_18 : decode prog_1_method_29_code 18 = .ok (.putfield 7, 3) := by decide +kernel
theorem dc_1_29_21 : decode prog_1_method_29_code 21 = .ok (.iconst 0, 1) := by decide +kernel
theorem dc_1_29_22 : decode prog_1_method_29_code 22 = .ok (.istore_n 1, 1) := by decide +kernel
theorem dc_1_29_23 : decode prog_1_method_29_code 23 = .ok (.iload_n 1, 1) := by decide +kernel
theorem dc_1_29_24 : decode prog_1_method_29_code 24 = .ok (.aload_n 0, 1) := by decide +kernel
theorem dc_1_29_25 : decode prog_1_method_29_code 25 = .ok (.getfield 68, 3) := by decide +kernel
theorem dc_1_29_28 : decode prog_1_method_29_code 28 = .ok (.invokeinterface 113 1, 5) := by decide +kernel
theorem dc_1_29_33 : decode prog_1_method_29_code 33 = .ok (.if_icmp .ge 25, 3) := by decide +kernel
theorem dc_1_29_36 : decode prog_1_method_29_code 36 = .ok (.aload_n 0, 1) := by decide +kernel
theorem dc_1_29_37 : decode prog_1_method_29_code 37 = .ok (.getfield 68, 3) := by decide +kernel
theorem dc_1_29_40 : decode prog_1_method_29_code 40 = .ok (.iload_n 1, 1) := by decide +kernel
theorem dc_1_29_41 : decode prog_1_method_29_code 41 = .ok (.invokeinterface 227 2, 5) := by decide +kernel
theorem dc_1_29_46 : decode prog_1_method_29_code 46 = .ok (.checkcast 175, 3) := by decide +kernel
theorem dc_1_29_49 : decode prog_1_method_29_code 49 = .ok (.invokevirtual 291, 3) := by decide +kernel
theorem dc_1_29_52 : decode prog_1_method_29_code 52 = .ok (.iinc 1 1, 3) := by decide +kernel
theorem dc_1_29_55 : decode prog_1_method_29_code 55 = .ok (.goto (-32), 3) := by decide +kernel
theorem dc_1_29_58 : decode prog_1_method_29_code 58 = .ok (.aload_n 0, 1) := by decide +kernel
theorem dc_1_29_59 : decode prog_1_method_29_code 59 = .ok (.getfield 54, 3) := by decide +kernel
theorem dc_1_29_62 : decode prog_1_method_29_code 62 = .ok (.invokevirtual 294, 3) := by decide +kernel
theorem dc_1_29_65 : decode prog_1_method_29_code 65 = .ok (.aload_n 0, 1) := by decide +kernel
theorem dc_1_29_66 : decode prog_1_method_29_code 66 = .ok (.getfield 7, 3) := by decide +kernel
theorem dc_1_29_69 : decode prog_1_method_29_code 69 = .ok (.ireturn, 1) := by decide +kernel
theorem dc_1_4_0 : decode prog_1_method_4_code 0 = .ok (.aload_n 0, 1) := by decide +kernel
theorem dc_1_4_1 : decode prog_1_method_4_code 1 = .ok (.getfield 26, 3) := by decide +kernel
theorem dc_1_4_4 : decode prog_1_method_4_code 4 = .ok (.iload_n 1, 1) := by decide +kernel
theorem dc_1_4_5 : decode prog_1_method_4_code 5 = .ok (.iload_n 3, 1) := by decide +kernel
theorem dc_1_4_6 : decode prog_1_method_4_code 6 = .ok (.invokevirtual 91, 3) := by decide +kernel
theorem dc_1_4_9 : decode prog_1_method_4_code 9 = .ok (.ifCond .eq 27, 3) := by decide +kernel
theorem dc_1_4_12 : decode prog_1_method_4_code 12 = .ok (.aload_n 0, 1) := by decide +kernel
theorem dc_1_4_13 : decode prog_1_method_4_code 13 = .ok (.getfield 26, 3) := by decide +kernel
theorem dc_1_4_16 : decode prog_1_method_4_code 16 = .ok (.iload_n 2, 1) := by decide +kernel
theorem dc_1_4_17 : decode prog_1_method_4_code 17 = .ok (.iload_n 3, 1) := by decide +kernel
theorem dc_1_4_18 : decode prog_1_method_4_code 18 = .ok (.invokevirtual 91, 3) := by decide +kernel
theorem dc_1_4_21 : decode prog_1_method_4_code 21 = .ok (.ifCond .eq 15, 3) := by decide +kernel
theorem dc_1_4_24 : decode prog_1_method_4_code 24 = .ok (.aload_n 0, 1) := by decide +kernel
theorem dc_1_4_25 : decode prog_1_method_4_code 25 = .ok (.getfield 26, 3) := by decide +kernel
theorem dc_1_4_28 : decode prog_1_method_4_code 28 = .ok (.iload_n 1, 1) := by decide +kernel
theorem dc_1_4_29 : decode prog_1_method_4_code 29 = .ok (.iload_n 2, 1) := by decide +kernel
theorem dc_1_4_30 : decode prog_1_method_4_code 30 = .ok (.invokevirtual 95, 3) := by decide +kernel
theorem dc_1_4_33 : decode prog_1_method_4_code 33 = .ok (.ifCond .ne 5, 3) := by decide +kernel
theorem dc_1_4_36 : decode prog_1_method_4_code 36 = .ok (.iconst (-1), 1) := by decide +kernel
theorem dc_1_4_37 : decode prog_1_method_4_code 37 = .ok (.ireturn, 1) := by decide +kernel
theorem dc_1_4_38 : decode prog_1_method_4_code 38 = .ok (.iload 4, 2) := by decide +kernel
theorem dc_1_4_40 : decode prog_1_method_4_code 40 = .ok (.tableswitch 61 0 2 #[28, 39, 50], 28) := by decide +kernel
theorem dc_1_4_68 : decode prog_1_method_4_code 68 = .ok (.aload_n 0, 1) := by decide +kernel
theorem dc_1_4_69 : decode prog_1_method_4_code 69 = .ok (.getfield 26, 3) := by decide +kernel
theorem dc_1_4_72 : decode prog_1_method_4_code 72 = .ok (.iload_n 1, 1) := by decide +kernel
theorem dc_1_4_73 : decode prog_1_method_4_code 73 = .ok (.iload_n 2, 1) := by decide +kernel
theorem dc_1_4_74 : decode prog_1_method_4_code 74 = .ok (.iload_n 3, 1) := by decide +kernel
theorem dc_1_4_75 : decode prog_1_method_4_code 75 = .ok (.invokevirtual 98, 3) := by decide +kernel
theorem dc_1_4_78 : decode prog_1_method_4_code 78 = .ok (.ireturn, 1) := by decide +kernel
theorem dc_1_4_79 : decode prog_1_method_4_code 79 = .ok (.aload_n 0, 1) := by decide +kernel
theorem dc_1_4_80 : decode prog_1_method_4_code 80 = .ok (.getfield 26, 3) := by decide +kernel
theorem dc_1_4_83 : decode prog_1_method_4_code 83 = .ok (.iload_n 1, 1) := by decide +kernel
theorem dc_1_4_84 : decode prog_1_method_4_code 84 = .ok (.iload_n 2, 1) := by decide +kernel
theorem dc_1_4_85 : decode prog_1_method_4_code 85 = .ok (.iload_n 3, 1) := by decide +kernel
theorem dc_1_4_86 : decode prog_1_method_4_code 86 = .ok (.invokevirtual 102, 3) := by decide +kernel
theorem dc_1_4_89 : decode prog_1_method_4_code 89 = .ok (.ireturn, 1) := by decide +kernel
theorem dc_1_4_90 : decode prog_1_method_4_code 90 = .ok (.aload_n 0, 1) := by decide +kernel
theorem dc_1_4_91 : decode prog_1_method_4_code 91 = .ok (.getfield 26, 3) := by decide +kernel
theorem dc_1_4_94 : decode prog_1_method_4_code 94 = .ok (.iload_n 1, 1) := by decide +kernel
theorem dc_1_4_95 : decode prog_1_method_4_code 95 = .ok (.iload_n 2, 1) := by decide +kernel
theorem dc_1_4_96 : decode prog_1_method_4_code 96 = .ok (.iload_n 3, 1) := by decide +kernel
theorem dc_1_4_97 : decode prog_1_method_4_code 97 = .ok (.invokevirtual 105, 3) := by decide +kernel
theorem dc_1_4_100 : decode prog_1_method_4_code 100 = .ok (.ireturn, 1) := by decide +kernel
theorem dc_1_4_101 : decode prog_1_method_4_code 101 = .ok (.iconst (-1), 1) := by decide +kernel
theorem dc_1_4_102 : decode prog_1_method_4_code 102 = .ok (.ireturn, 1) := by decide +kernel
theorem dc_1_7_0 : decode prog_1_method_7_code 0 = .ok (.aload_n 0, 1) := by decide +kernel
theorem dc_1_7_1 : decode prog_1_method_7_code 1 = .ok (.getfield 33, 3) := by decide +kernel
theorem dc_1_7_4 : decode prog_1_method_7_code 4 = .ok (.invokevirtual 135, 3) := by decide +kernel
theorem dc_1_7_7 : decode prog_1_method_7_code 7 = .ok (.ifCond .ne 5, 3) := by decide +kernel
theorem dc_1_7_10 : decode prog_1_method_7_code 10 = .ok (.iconst (-1), 1) := by decide +kernel
theorem dc_1_7_11 : decode prog_1_method_7_code 11 = .ok (.ireturn, 1) := by decide +kernel
theorem dc_1_7_12 : decode prog_1_method_7_code 12 = .ok (.aload_n 0, 1) := by decide +kernel
theorem dc_1_7_13 : decode prog_1_method_7_code 13 = .ok (.getfield 33, 3) := by decide +kernel
theorem dc_1_7_16 : decode prog_1_method_7_code 16 = .ok (.iload_n 1, 1) := by decide +kernel
theorem dc_1_7_17 : decode prog_1_method_7_code 17 = .ok (.invokevirtual 139, 3) := by decide +kernel
theorem dc_1_7_20 : decode prog_1_method_7_code 20 = .ok (.aload_n 0, 1) := by decide +kernel
theorem dc_1_7_21 : decode prog_1_method_7_code 21 = .ok (.getfield 33, 3) := by decide +kernel
theorem dc_1_7_24 : decode prog_1_method_7_code 24 = .ok (.iload_n 2, 1) := by decide +kernel
theorem dc_1_7_25 : decode prog_1_method_7_code 25 = .ok (.invokevirtual 139, 3) := by decide +kernel
theorem dc_1_7_28 : decode prog_1_method_7_code 28 = .ok (.aload_n 0, 1) := by decide +kernel
theorem dc_1_7_29 : decode prog_1_method_7_code 29 = .ok (.getfield 33, 3) := by decide +kernel
theorem dc_1_7_32 : decode prog_1_method_7_code 32 = .ok (.iload_n 3, 1) := by decide +kernel
theorem dc_1_7_33 : decode prog_1_method_7_code 33 = .ok (.invokevirtual 139, 3) := by decide +kernel
theorem dc_1_7_36 : decode prog_1_method_7_code 36 = .ok (.aload_n 0, 1) := by decide +kernel
theorem dc_1_7_37 : decode prog_1_method_7_code 37 = .ok (.getfield 33, 3) := by decide +kernel
theorem dc_1_7_40 : decode prog_1_method_7_code 40 = .ok (.iload 4, 2) := by decide +kernel
theorem dc_1_7_42 : decode prog_1_method_7_code 42 = .ok (.invokevirtual 139, 3) := by decide +kernel
theorem dc_1_7_45 : decode prog_1_method_7_code 45 = .ok (.aload_n 0, 1) := by decide +kernel
theorem dc_1_7_46 : decode prog_1_method_7_code 46 = .ok (.getfield 33, 3) := by decide +kernel
theorem dc_1_7_49 : decode prog_1_method_7_code 49 = .ok (.iload 5, 2) := by decide +kernel
theorem dc_1_7_51 : decode prog_1_method_7_code 51 = .ok (.invokevirtual 139, 3) := by decide +kernel
theorem dc_1_7_54 : decode prog_1_method_7_code 54 = .ok (.aload_n 0, 1) := by decide +kernel
theorem dc_1_7_55 : decode prog_1_method_7_code 55 = .ok (.getfield 33, 3) := by decide +kernel
theorem dc_1_7_58 : decode prog_1_method_7_code 58 = .ok (.getfield 143, 3) := by decide +kernel
theorem dc_1_7_61 : decode prog_1_method_7_code 61 = .ok (.ireturn, 1) := by decide +kernel
theorem iv_0_v102 : mm_iv 0 (.invokevirtual 102) = some (1, 21) := by decide +kernel
theorem iv_0_v105 : mm_iv 0 (.invokevirtual 105) = some (1, 23) := by decide +kernel
theorem iv_0_v135 : mm_iv 0 (.invokevirtual 135) = some (1, 45) := by decide +kernel
theorem iv_0_v139 : mm_iv 0 (.invokevirtual 139) = some (1, 46) := by decide +kernel
theorem iv_0_v164 : mm_iv 0 (.invokevirtual 164) = some (1, 91) := by decide +kernel
theorem iv_0_v168 : mm_iv 0 (.invokevirtual 168) = some (1, 96) := by decide +kernel
theorem iv_0_v171 : mm_iv 0 (.invokevirtual 171) = some (1, 97) := by decide +kernel
theorem iv_0_v291 : mm_iv 0 (.invokevirtual 291) = some (1, 172) := by decide +kernel
theorem iv_0_v294 : mm_iv 0 (.invokevirtual 294) = some (1, 173) := by decide +kernel
theorem iv_0_v91 : mm_iv 0 (.invokevirtual 91) = some (1, 16) := by decide +kernel
theorem iv_0_v95 : mm_iv 0 (.invokevirtual 95) = some (1, 18) := by decide +kernel
theorem iv_0_v98 : mm_iv 0 (.invokevirtual 98) = some (1, 20) := by decide +kernel
theorem o_172 : mm_o 172 = 11 := by decide +kernel
theorem o_173 : mm_o 173 = 5 := by decide +kernel
theorem o_18 : mm_o 18 = 1 := by decide +kernel
theorem o_21 : mm_o 21 = 1 := by decide +kernel
theorem o_23 : mm_o 23 = 1 := by decide +kernel
theorem o_45 : mm_o 45 = 2 := by decide +kernel
theorem o_46 : mm_o 46 = 2 := by decide +kernel
theorem o_91 : mm_o 91 = 4 := by decide +kernel
theorem o_96 : mm_o 96 = 4 := by decide +kernel
theorem o_97 : mm_o 97 = 10 := by decide +kernel
theorem na_1_172 : mm_nas 1 172 = 1 := by decide +kernel
theorem na_1_173 : mm_nas 1 173 = 1 := by decide +kernel
theorem na_1_18 : mm_nas 1 18 = 3 := by decide +kernel
theorem na_1_21 : mm_nas 1 21 = 4 := by decide +kernel
theorem na_1_23 : mm_nas 1 23 = 4 := by decide +kernel
theorem na_1_45 : mm_nas 1 45 = 1 := by decide +kernel
theorem na_1_46 : mm_nas 1 46 = 2 := by decide +kernel
theorem na_1_91 : mm_nas 1 91 = 3 := by decide +kernel
theorem na_1_96 : mm_nas 1 96 = 3 := by decide +kernel
theorem na_1_97 : mm_nas 1 97 = 2 := by decide +kernel
theorem li2 (w : Int32) : w = nI 0 ∨ w = nI 1 ∨ w = nI 2 ∨ (w.toInt < 0 ∨ 2 < w.toInt) := by
  by_cases h : nI 0 ≤ w ∧ w ≤ nI 2
  · obtain ⟨n, ⟨-, h9⟩, rfl⟩ := g_nat2 h (by decide) (by decide)
    rcases (by omega : n = 0 ∨ n = 1 ∨ n = 2) with rfl | rfl | rfl <;> simp
  · have := n_out h (by decide) (by decide)
    have h2 : w.toInt < 0 ∨ 2 < w.toInt := by omega
    simp [h2]
theorem out_2 {w : Int32} (h : w.toInt < 0 ∨ 2 < w.toInt) : ¬ (nI 0 ≤ w ∧ w ≤ nI 2) := fun z => by
  have a := Int32.le_iff_toInt_le.mp z.1
  have b := Int32.le_iff_toInt_le.mp z.2
  rw [nI_toInt (by decide)] at a b
  omega
theorem n_z {n : Nat} (hn : n < 2 ^ 31) : (¬ nI n = 0 ↔ 0 < n) ∧ ((0 : Int32) < nI n ↔ 0 < n) := by
  have e := @nI_eq n 0 hn (by decide)
  have f := @nI_ltI 0 n (by decide) hn
  refine ⟨?_, f⟩
  have : (nI n = 0) = (nI n = nI 0) := rfl
  rw [this, e]
  omega
theorem tu_z {sg : Nat → Nat → Int32} (h : ∀ j, j < 44 → inN (sg 2 j) 999) : ∀ j, j < 44 → sg 2 j ≤ 0 → sg 2 j = 0 := fun j hj z => by
  have q := inN_tN (h j hj) (by decide)
  rw [q.1] at z ⊢
  have : ¬ 0 < tN (sg 2 j) := fun y => absurd ((n_z (by omega)).2.mpr y) (Int32.not_lt.mpr z)
  rw [show tN (sg 2 j) = 0 by omega]
  rfl
set_option maxHeartbeats 4000000 in
theorem s_turn {M : mH} {T : Nat → mT} {cs sg : Nat → Nat → Int32} {io : Nat → Int32} {e : Nat → Nat} {D : Nat → Nat → Nat} {nh nx ns nf ny tp : Nat} {cm : Nat → Nat} {w : Nat → Nat → Nat} {cn : Nat → Nat} {wc : Nat → Nat → Nat} (hV : CV M T cs io sg e D nh nx ns nf ny tp cm w cn wc) (fr to mk wh : Int32) : ∃ (v : Value), ∃ (cs2 : Nat → Nat → Int32), ∃ (io2 : Nat → Int32), ∃ (sg2 : Nat → Nat → Int32), ∃ (nf2 : Nat), ∃ (ny2 : Nat), ∃ (tp2 : Nat), (mm_Ev 8 189 [.ref 100, .int fr, .int to, .int mk, .int wh] (rf_mk (hk M T cs2) io sg) (some v, rf_mk (hk M T cs2) io2 sg2) ∧ CV M T cs2 io2 sg2 e D nh nx ns nf2 ny2 tp2 cm w cn wc) ∧ mm_Ev 7 17 [.ref 0, .int fr, .int to, .int mk, .int wh] (hk M T cs) ((some v, hk M T cs2)) := by
  have hq9 : ∃ z, (fun r9 => ∃ (v : Value), ∃ (cs2 : Nat → Nat → Int32), ∃ (io2 : Nat → Int32), ∃ (sg2 : Nat → Nat → Int32), ∃ (nf2 : Nat), ∃ (ny2 : Nat), ∃ (tp2 : Nat), (mm_Ev 8 189 [.ref 100, .int fr, .int to, .int mk, .int wh] (rf_mk (hk M T cs2) io sg) (some v, rf_mk (hk M T cs2) io2 sg2) ∧ CV M T cs2 io2 sg2 e D nh nx ns nf2 ny2 tp2 cm w cn wc) ∧ r9 = ((some v, hk M T cs2))) z ∧ mm_Ev 7 17 [.ref 0, .int fr, .int to, .int mk, .int wh] (hk M T cs) z := by
    obtain ⟨⟨hM, hMs, hW⟩, hC, hT, hR, hJ⟩ := id hV
    obtain ⟨hF, ⟨hL0, hL1, hL2⟩, hSc, hAg, hSt⟩ := id hC
    obtain ⟨⟨⟨h3, hnh⟩, ⟨h4, hnx⟩, ⟨h5, hns⟩, ⟨h7, hnf⟩, ⟨h6, hny⟩, ⟨h23, htp⟩⟩, hRa, hRb, hRs, hRs2, hRs3, hRx, hCD, hRt, hRt2, hRf⟩ := id hR
    refine r_evQ (by decide +kernel) (show (5 : Nat) ≤ mm_nL 17 by decide +kernel) ?_
    show mm_Ru 6 (0, 5, false, prog_1_method_4_code, some .int) 0 [(0, .ref 0), (1, .int fr), (2, .int to), (3, .int mk), (4, .int wh)] [] (hk M T cs) (fun r9 => ∃ (v : Value), ∃ (cs2 : Nat → Nat → Int32), ∃ (io2 : Nat → Int32), ∃ (sg2 : Nat → Nat → Int32), ∃ (nf2 : Nat), ∃ (ny2 : Nat), ∃ (tp2 : Nat), (mm_Ev 8 189 [.ref 100, .int fr, .int to, .int mk, .int wh] (rf_mk (hk M T cs2) io sg) (some v, rf_mk (hk M T cs2) io2 sg2) ∧ CV M T cs2 io2 sg2 e D nh nx ns nf2 ny2 tp2 cm w cn wc) ∧ r9 = ((some v, hk M T cs2)))
    rcases li2 wh with rfl | rfl | rfl | hw
    · skip
      refine r_aload_n rfl dc_1_4_0 ?_
      refine h_get (t := cT e 0) (v := .ref 4) fx_0_26 (hF 0 (by decide)) ⟨by omega, by omega⟩ (rfl) dc_1_4_1 ?_
      refine r_iload_n rfl dc_1_4_4 ?_
      refine r_iload_n rfl dc_1_4_5 ?_
      by_cases h_6 : gMk fr mk
      · skip
        obtain ⟨n_1, hn_1, e_1⟩ := g_nat2 h_6.1 (by decide) (by decide)
        obtain ⟨n_3, hn_3, e_3⟩ := g_nat2 h_6.2 (by decide) (by decide)
        subst e_1
        subst e_3
        refine h_callv (t := cT e 4) (as := [.int (nI n_1), .int (nI n_3)]) (rest := []) (v := .int (nI 1)) (M1 := hk M T cs) rfl rfl iv_0_v91 (Or.inl rfl) na_1_16 (hF 4 (by decide)) ⟨by omega, by omega⟩ (show (1 : Nat) < 14 by decide) o_16 rfl (show (0 : Nat) ≤ 8 by decide) dc_1_4_6 (mm_Ev_up (by decide : 2 ≤ 6) (k_isMarkT M hM T e hF cs n_1 n_3 (by omega) (by omega))) ?_
        refine r_ifeq (t := 36) (by decide) dc_1_4_9 (fun c_9 => ?_) (fun c_9 => ?_)
        · exact absurd c_9 (by decide)
        · skip
          refine r_aload_n rfl dc_1_4_12 ?_
          refine h_get (t := cT e 0) (v := .ref 4) fx_0_26 (hF 0 (by decide)) ⟨by omega, by omega⟩ (rfl) dc_1_4_13 ?_
          refine r_iload_n rfl dc_1_4_16 ?_
          refine r_iload_n rfl dc_1_4_17 ?_
          by_cases h_18 : gMk to (nI n_3)
          · skip
            obtain ⟨n_2, hn_2, e_2⟩ := g_nat2 h_18.1 (by decide) (by decide)
            subst e_2
            refine h_callv (t := cT e 4) (as := [.int (nI n_2), .int (nI n_3)]) (rest := []) (v := .int (nI 1)) (M1 := hk M T cs) rfl rfl iv_0_v91 (Or.inl rfl) na_1_16 (hF 4 (by decide)) ⟨by omega, by omega⟩ (show (1 : Nat) < 14 by decide) o_16 rfl (show (0 : Nat) ≤ 8 by decide) dc_1_4_18 (mm_Ev_up (by decide : 2 ≤ 6) (k_isMarkT M hM T e hF cs n_2 n_3 (by omega) (by omega))) ?_
            refine r_ifeq (t := 36) (by decide) dc_1_4_21 (fun c_21 => ?_) (fun c_21 => ?_)
            · exact absurd c_21 (by decide)
            · skip
              refine r_aload_n rfl dc_1_4_24 ?_
              refine h_get (t := cT e 0) (v := .ref 4) fx_0_26 (hF 0 (by decide)) ⟨by omega, by omega⟩ (rfl) dc_1_4_25 ?_
              refine r_iload_n rfl dc_1_4_28 ?_
              refine r_iload_n rfl dc_1_4_29 ?_
              refine h_callv (t := cT e 4) (as := [.int (nI n_1), .int (nI n_2)]) (rest := []) (v := .int (pI (0 < sp_below sg n_1 11 ∧ 0 < sp_below sg n_2 11))) (M1 := hk M T cs) rfl rfl iv_0_v95 (Or.inl rfl) na_1_18 (hF 4 (by decide)) ⟨by omega, by omega⟩ (show (1 : Nat) < 14 by decide) o_18 rfl (show (0 : Nat) ≤ 8 by decide) dc_1_4_30 (mm_Ev_up (by decide : 4 ≤ 6) (k_canTurn M hM T e hF cs sg hT.2.2.1 n_1 n_2 (by omega) (by omega))) ?_
              refine r_ifne (t := 38) (by decide) dc_1_4_33 (fun c_33 => ?_) (fun c_33 => ?_)
              · skip
                refine r_iload rfl dc_1_4_38 ?_
                refine r_swIn (off := 28) (t := 68) (by decide +kernel) (by decide +kernel) (by decide +kernel) (by decide) dc_1_4_40 ?_
                refine r_aload_n rfl dc_1_4_68 ?_
                refine h_get (t := cT e 0) (v := .ref 4) fx_0_26 (hF 0 (by decide)) ⟨by omega, by omega⟩ (rfl) dc_1_4_69 ?_
                refine r_iload_n rfl dc_1_4_72 ?_
                refine r_iload_n rfl dc_1_4_73 ?_
                refine r_iload_n rfl dc_1_4_74 ?_
                refine h_callv (t := cT e 4) (as := [.int (nI n_1), .int (nI n_2), .int (nI n_3)]) (rest := []) (v := .int (sp_tu sg n_1 n_2 n_3 11)) (M1 := hk M T cs) rfl rfl iv_0_v98 (Or.inl rfl) na_1_20 (hF 4 (by decide)) ⟨by omega, by omega⟩ (show (1 : Nat) < 14 by decide) o_20 rfl (show (0 : Nat) ≤ 8 by decide) dc_1_4_75 (mm_Ev_up (by decide : 4 ≤ 6) (k_turned M hM T e hF cs sg hT.2.2.1 n_1 n_2 n_3 (by omega) (by omega) (by omega) (tu_z hRb))) ?_
                refine r_iret rfl dc_1_4_78 ?_
                have b1 := bel_n hRb (sc := n_1) (by omega) 11 (by omega)
                have b2 := bel_n hRb (sc := n_2) (by omega) 11 (by omega)
                have hy := pI_ne c_33
                rw [b1.1, b2.1, (n_z (by omega)).2, (n_z (by omega)).2] at hy
                have ha : ¬ sp_below sg n_1 11 = 0 := by rw [b1.1]; exact (n_z (by omega)).1.mpr hy.1
                have hb : ¬ sp_below sg n_2 11 = 0 := by rw [b2.1]; exact (n_z (by omega)).1.mpr hy.2
                refine ⟨_, _, io, sg, nf, ny, tp, ⟨mm_Ev_up (by decide) (c_turn_a (hk M T cs) hM io sg n_1 n_2 n_3 0 (by omega) (by omega) (by omega) (by decide) ha hb (Or.inl rfl)), hV⟩, rfl⟩
              · skip
                refine r_iconst (v := -1) (by decide) dc_1_4_36 ?_
                refine r_iret rfl dc_1_4_37 ?_
                have b1 := bel_n hRb (sc := n_1) (by omega) 11 (by omega)
                have b2 := bel_n hRb (sc := n_2) (by omega) 11 (by omega)
                have hno := pI_eq0 c_33
                rw [b1.1, b2.1, (n_z (by omega)).2, (n_z (by omega)).2] at hno
                refine ⟨_, _, io, sg, nf, ny, tp, ⟨mm_Ev_up (by decide) (c_turn_z (hk M T cs) hM io sg n_1 n_2 n_3 0 (by omega) (by omega) (by omega) (by decide) (by rw [b1.1, b2.1]; exact (by omega : bN sg n_1 11 = 0 ∨ bN sg n_2 11 = 0).imp (fun z => by rw [z]; rfl) (fun z => by rw [z]; rfl))), hV⟩, rfl⟩
          · skip
            refine h_callv (t := cT e 4) (as := [.int to, .int (nI n_3)]) (rest := []) (v := .int (nI 0)) (M1 := hk M T cs) rfl rfl iv_0_v91 (Or.inl rfl) na_1_16 (hF 4 (by decide)) ⟨by omega, by omega⟩ (show (1 : Nat) < 14 by decide) o_16 rfl (show (0 : Nat) ≤ 8 by decide) dc_1_4_18 (mm_Ev_up (by decide : 2 ≤ 6) (by have h9 := k_isMark M hM T e hF cs to (nI n_3); rw [pI_f h_18] at h9; exact h9)) ?_
            refine r_ifeq (t := 36) (by decide) dc_1_4_21 (fun c_21 => ?_) (fun c_21 => ?_)
            · skip
              refine r_iconst (v := -1) (by decide) dc_1_4_36 ?_
              refine r_iret rfl dc_1_4_37 ?_
              refine ⟨_, _, io, sg, nf, ny, tp, ⟨mm_Ev_up (by decide) (c_turn_no (hk M T cs) hM io sg _ _ _ _ (fun g => h_18 ⟨g.2.1, g.2.2.1⟩)), hV⟩, rfl⟩
            · exact absurd c_21 (by decide)
      · skip
        refine h_callv (t := cT e 4) (as := [.int fr, .int mk]) (rest := []) (v := .int (nI 0)) (M1 := hk M T cs) rfl rfl iv_0_v91 (Or.inl rfl) na_1_16 (hF 4 (by decide)) ⟨by omega, by omega⟩ (show (1 : Nat) < 14 by decide) o_16 rfl (show (0 : Nat) ≤ 8 by decide) dc_1_4_6 (mm_Ev_up (by decide : 2 ≤ 6) (by have h9 := k_isMark M hM T e hF cs fr mk; rw [pI_f h_6] at h9; exact h9)) ?_
        refine r_ifeq (t := 36) (by decide) dc_1_4_9 (fun c_9 => ?_) (fun c_9 => ?_)
        · skip
          refine r_iconst (v := -1) (by decide) dc_1_4_36 ?_
          refine r_iret rfl dc_1_4_37 ?_
          refine ⟨_, _, io, sg, nf, ny, tp, ⟨mm_Ev_up (by decide) (c_turn_no (hk M T cs) hM io sg _ _ _ _ (fun g => h_6 ⟨g.1, g.2.2.1⟩)), hV⟩, rfl⟩
        · exact absurd c_9 (by decide)
    · skip
      refine r_aload_n rfl dc_1_4_0 ?_
      refine h_get (t := cT e 0) (v := .ref 4) fx_0_26 (hF 0 (by decide)) ⟨by omega, by omega⟩ (rfl) dc_1_4_1 ?_
      refine r_iload_n rfl dc_1_4_4 ?_
      refine r_iload_n rfl dc_1_4_5 ?_
      by_cases h_6 : gMk fr mk
      · skip
        obtain ⟨n_1, hn_1, e_1⟩ := g_nat2 h_6.1 (by decide) (by decide)
        obtain ⟨n_3, hn_3, e_3⟩ := g_nat2 h_6.2 (by decide) (by decide)
        subst e_1
        subst e_3
        refine h_callv (t := cT e 4) (as := [.int (nI n_1), .int (nI n_3)]) (rest := []) (v := .int (nI 1)) (M1 := hk M T cs) rfl rfl iv_0_v91 (Or.inl rfl) na_1_16 (hF 4 (by decide)) ⟨by omega, by omega⟩ (show (1 : Nat) < 14 by decide) o_16 rfl (show (0 : Nat) ≤ 8 by decide) dc_1_4_6 (mm_Ev_up (by decide : 2 ≤ 6) (k_isMarkT M hM T e hF cs n_1 n_3 (by omega) (by omega))) ?_
        refine r_ifeq (t := 36) (by decide) dc_1_4_9 (fun c_9 => ?_) (fun c_9 => ?_)
        · exact absurd c_9 (by decide)
        · skip
          refine r_aload_n rfl dc_1_4_12 ?_
          refine h_get (t := cT e 0) (v := .ref 4) fx_0_26 (hF 0 (by decide)) ⟨by omega, by omega⟩ (rfl) dc_1_4_13 ?_
          refine r_iload_n rfl dc_1_4_16 ?_
          refine r_iload_n rfl dc_1_4_17 ?_
          by_cases h_18 : gMk to (nI n_3)
          · skip
            obtain ⟨n_2, hn_2, e_2⟩ := g_nat2 h_18.1 (by decide) (by decide)
            subst e_2
            refine h_callv (t := cT e 4) (as := [.int (nI n_2), .int (nI n_3)]) (rest := []) (v := .int (nI 1)) (M1 := hk M T cs) rfl rfl iv_0_v91 (Or.inl rfl) na_1_16 (hF 4 (by decide)) ⟨by omega, by omega⟩ (show (1 : Nat) < 14 by decide) o_16 rfl (show (0 : Nat) ≤ 8 by decide) dc_1_4_18 (mm_Ev_up (by decide : 2 ≤ 6) (k_isMarkT M hM T e hF cs n_2 n_3 (by omega) (by omega))) ?_
            refine r_ifeq (t := 36) (by decide) dc_1_4_21 (fun c_21 => ?_) (fun c_21 => ?_)
            · exact absurd c_21 (by decide)
            · skip
              refine r_aload_n rfl dc_1_4_24 ?_
              refine h_get (t := cT e 0) (v := .ref 4) fx_0_26 (hF 0 (by decide)) ⟨by omega, by omega⟩ (rfl) dc_1_4_25 ?_
              refine r_iload_n rfl dc_1_4_28 ?_
              refine r_iload_n rfl dc_1_4_29 ?_
              refine h_callv (t := cT e 4) (as := [.int (nI n_1), .int (nI n_2)]) (rest := []) (v := .int (pI (0 < sp_below sg n_1 11 ∧ 0 < sp_below sg n_2 11))) (M1 := hk M T cs) rfl rfl iv_0_v95 (Or.inl rfl) na_1_18 (hF 4 (by decide)) ⟨by omega, by omega⟩ (show (1 : Nat) < 14 by decide) o_18 rfl (show (0 : Nat) ≤ 8 by decide) dc_1_4_30 (mm_Ev_up (by decide : 4 ≤ 6) (k_canTurn M hM T e hF cs sg hT.2.2.1 n_1 n_2 (by omega) (by omega))) ?_
              refine r_ifne (t := 38) (by decide) dc_1_4_33 (fun c_33 => ?_) (fun c_33 => ?_)
              · skip
                refine r_iload rfl dc_1_4_38 ?_
                refine r_swIn (off := 39) (t := 79) (by decide +kernel) (by decide +kernel) (by decide +kernel) (by decide) dc_1_4_40 ?_
                refine r_aload_n rfl dc_1_4_79 ?_
                refine h_get (t := cT e 0) (v := .ref 4) fx_0_26 (hF 0 (by decide)) ⟨by omega, by omega⟩ (rfl) dc_1_4_80 ?_
                refine r_iload_n rfl dc_1_4_83 ?_
                refine r_iload_n rfl dc_1_4_84 ?_
                refine r_iload_n rfl dc_1_4_85 ?_
                obtain ⟨q9, hq9, hev9⟩ := k_least M hM T e hF cs sg hT.2.2.1 n_1 n_2 n_3 (by omega) (by omega) (by omega) (tu_z hRb)
                refine h_callv (t := cT e 4) (as := [.int (nI n_1), .int (nI n_2), .int (nI n_3)]) (rest := []) (v := .int q9) (M1 := hk M T cs) rfl rfl iv_0_v102 (Or.inl rfl) na_1_21 (hF 4 (by decide)) ⟨by omega, by omega⟩ (show (1 : Nat) < 14 by decide) o_21 rfl (show (0 : Nat) ≤ 8 by decide) dc_1_4_86 (mm_Ev_up (by decide : 5 ≤ 6) (hev9)) ?_
                refine r_iret rfl dc_1_4_89 ?_
                have b1 := bel_n hRb (sc := n_1) (by omega) 11 (by omega)
                have b2 := bel_n hRb (sc := n_2) (by omega) 11 (by omega)
                have hy := pI_ne c_33
                rw [b1.1, b2.1, (n_z (by omega)).2, (n_z (by omega)).2] at hy
                have ha : ¬ sp_below sg n_1 11 = 0 := by rw [b1.1]; exact (n_z (by omega)).1.mpr hy.1
                have hb : ¬ sp_below sg n_2 11 = 0 := by rw [b2.1]; exact (n_z (by omega)).1.mpr hy.2
                have sI : ∀ m, m < 11 → (shP sg n_1 n_3 n_2 m ↔ shN sg n_1 n_3 n_2 m) := fun m hm => sh_iff hRb (by omega) (by omega) (by omega) hm
                have oI : ∀ m, m < 11 → (¬ sp_ov sg n_1 n_3 n_2 m = 0 ↔ shN sg n_1 n_3 n_2 m) := fun m hm => ov_iff hRb (by omega) (by omega) (by omega) hm hy.1 hy.2
                by_cases hz : sg 2 (11 * n_1 + n_3) = 0
                · rcases hq9 with ⟨m, hm, hs, -, -⟩ | ⟨-, hq⟩
                  · exact absurd hz hs.1
                  · rw [hq]
                    refine ⟨_, _, io, sg, nf, ny, tp, ⟨mm_Ev_up (by decide) (c_turn_a (hk M T cs) hM io sg n_1 n_2 n_3 1 (by omega) (by omega) (by omega) (by decide) ha hb (Or.inr hz)), hV⟩, rfl⟩
                · rcases hq9 with ⟨m, hm, hs, hf, hq⟩ | ⟨hf, -⟩
                  · have hr := c_turn_b (hk M T cs) hM io sg n_1 n_2 n_3 1 (by omega) (by omega) (by omega) (by decide) ha hb (by decide) hz
                    rw [if_pos rfl, fi_y (f := fun q => sp_ov sg n_1 n_3 n_2 q) (m := m) (fun j hj => Classical.byContradiction fun y => hf j hj ((sI j (by omega)).mpr ((oI j (by omega)).mp y))) ((oI m hm).mpr ((sI m hm).mp hs)) (by omega) hm] at hr
                    rw [hq]
                    refine ⟨_, _, io, sg, nf, ny, tp, ⟨mm_Ev_up (by decide) (hr), hV⟩, rfl⟩
                  · obtain ⟨o, h1, h2⟩ := sh_ex (sg := sg) (fr := n_1) (mk := n_3) (to := n_2) (by omega) hy.1 hy.2 (Classical.byContradiction fun y => hz ((z_iff (hRb _ (by omega))).mpr y))
                    exact absurd ((sI o h1).mpr h2) (hf o h1)
              · skip
                refine r_iconst (v := -1) (by decide) dc_1_4_36 ?_
                refine r_iret rfl dc_1_4_37 ?_
                have b1 := bel_n hRb (sc := n_1) (by omega) 11 (by omega)
                have b2 := bel_n hRb (sc := n_2) (by omega) 11 (by omega)
                have hno := pI_eq0 c_33
                rw [b1.1, b2.1, (n_z (by omega)).2, (n_z (by omega)).2] at hno
                refine ⟨_, _, io, sg, nf, ny, tp, ⟨mm_Ev_up (by decide) (c_turn_z (hk M T cs) hM io sg n_1 n_2 n_3 1 (by omega) (by omega) (by omega) (by decide) (by rw [b1.1, b2.1]; exact (by omega : bN sg n_1 11 = 0 ∨ bN sg n_2 11 = 0).imp (fun z => by rw [z]; rfl) (fun z => by rw [z]; rfl))), hV⟩, rfl⟩
          · skip
            refine h_callv (t := cT e 4) (as := [.int to, .int (nI n_3)]) (rest := []) (v := .int (nI 0)) (M1 := hk M T cs) rfl rfl iv_0_v91 (Or.inl rfl) na_1_16 (hF 4 (by decide)) ⟨by omega, by omega⟩ (show (1 : Nat) < 14 by decide) o_16 rfl (show (0 : Nat) ≤ 8 by decide) dc_1_4_18 (mm_Ev_up (by decide : 2 ≤ 6) (by have h9 := k_isMark M hM T e hF cs to (nI n_3); rw [pI_f h_18] at h9; exact h9)) ?_
            refine r_ifeq (t := 36) (by decide) dc_1_4_21 (fun c_21 => ?_) (fun c_21 => ?_)
            · skip
              refine r_iconst (v := -1) (by decide) dc_1_4_36 ?_
              refine r_iret rfl dc_1_4_37 ?_
              refine ⟨_, _, io, sg, nf, ny, tp, ⟨mm_Ev_up (by decide) (c_turn_no (hk M T cs) hM io sg _ _ _ _ (fun g => h_18 ⟨g.2.1, g.2.2.1⟩)), hV⟩, rfl⟩
            · exact absurd c_21 (by decide)
      · skip
        refine h_callv (t := cT e 4) (as := [.int fr, .int mk]) (rest := []) (v := .int (nI 0)) (M1 := hk M T cs) rfl rfl iv_0_v91 (Or.inl rfl) na_1_16 (hF 4 (by decide)) ⟨by omega, by omega⟩ (show (1 : Nat) < 14 by decide) o_16 rfl (show (0 : Nat) ≤ 8 by decide) dc_1_4_6 (mm_Ev_up (by decide : 2 ≤ 6) (by have h9 := k_isMark M hM T e hF cs fr mk; rw [pI_f h_6] at h9; exact h9)) ?_
        refine r_ifeq (t := 36) (by decide) dc_1_4_9 (fun c_9 => ?_) (fun c_9 => ?_)
        · skip
          refine r_iconst (v := -1) (by decide) dc_1_4_36 ?_
          refine r_iret rfl dc_1_4_37 ?_
          refine ⟨_, _, io, sg, nf, ny, tp, ⟨mm_Ev_up (by decide) (c_turn_no (hk M T cs) hM io sg _ _ _ _ (fun g => h_6 ⟨g.1, g.2.2.1⟩)), hV⟩, rfl⟩
        · exact absurd c_9 (by decide)
    · skip
      refine r_aload_n rfl dc_1_4_0 ?_
      refine h_get (t := cT e 0) (v := .ref 4) fx_0_26 (hF 0 (by decide)) ⟨by omega, by omega⟩ (rfl) dc_1_4_1 ?_
      refine r_iload_n rfl dc_1_4_4 ?_
      refine r_iload_n rfl dc_1_4_5 ?_
      by_cases h_6 : gMk fr mk
      · skip
        obtain ⟨n_1, hn_1, e_1⟩ := g_nat2 h_6.1 (by decide) (by decide)
        obtain ⟨n_3, hn_3, e_3⟩ := g_nat2 h_6.2 (by decide) (by decide)
        subst e_1
        subst e_3
        refine h_callv (t := cT e 4) (as := [.int (nI n_1), .int (nI n_3)]) (rest := []) (v := .int (nI 1)) (M1 := hk M T cs) rfl rfl iv_0_v91 (Or.inl rfl) na_1_16 (hF 4 (by decide)) ⟨by omega, by omega⟩ (show (1 : Nat) < 14 by decide) o_16 rfl (show (0 : Nat) ≤ 8 by decide) dc_1_4_6 (mm_Ev_up (by decide : 2 ≤ 6) (k_isMarkT M hM T e hF cs n_1 n_3 (by omega) (by omega))) ?_
        refine r_ifeq (t := 36) (by decide) dc_1_4_9 (fun c_9 => ?_) (fun c_9 => ?_)
        · exact absurd c_9 (by decide)
        · skip
          refine r_aload_n rfl dc_1_4_12 ?_
          refine h_get (t := cT e 0) (v := .ref 4) fx_0_26 (hF 0 (by decide)) ⟨by omega, by omega⟩ (rfl) dc_1_4_13 ?_
          refine r_iload_n rfl dc_1_4_16 ?_
          refine r_iload_n rfl dc_1_4_17 ?_
          by_cases h_18 : gMk to (nI n_3)
          · skip
            obtain ⟨n_2, hn_2, e_2⟩ := g_nat2 h_18.1 (by decide) (by decide)
            subst e_2
            refine h_callv (t := cT e 4) (as := [.int (nI n_2), .int (nI n_3)]) (rest := []) (v := .int (nI 1)) (M1 := hk M T cs) rfl rfl iv_0_v91 (Or.inl rfl) na_1_16 (hF 4 (by decide)) ⟨by omega, by omega⟩ (show (1 : Nat) < 14 by decide) o_16 rfl (show (0 : Nat) ≤ 8 by decide) dc_1_4_18 (mm_Ev_up (by decide : 2 ≤ 6) (k_isMarkT M hM T e hF cs n_2 n_3 (by omega) (by omega))) ?_
            refine r_ifeq (t := 36) (by decide) dc_1_4_21 (fun c_21 => ?_) (fun c_21 => ?_)
            · exact absurd c_21 (by decide)
            · skip
              refine r_aload_n rfl dc_1_4_24 ?_
              refine h_get (t := cT e 0) (v := .ref 4) fx_0_26 (hF 0 (by decide)) ⟨by omega, by omega⟩ (rfl) dc_1_4_25 ?_
              refine r_iload_n rfl dc_1_4_28 ?_
              refine r_iload_n rfl dc_1_4_29 ?_
              refine h_callv (t := cT e 4) (as := [.int (nI n_1), .int (nI n_2)]) (rest := []) (v := .int (pI (0 < sp_below sg n_1 11 ∧ 0 < sp_below sg n_2 11))) (M1 := hk M T cs) rfl rfl iv_0_v95 (Or.inl rfl) na_1_18 (hF 4 (by decide)) ⟨by omega, by omega⟩ (show (1 : Nat) < 14 by decide) o_18 rfl (show (0 : Nat) ≤ 8 by decide) dc_1_4_30 (mm_Ev_up (by decide : 4 ≤ 6) (k_canTurn M hM T e hF cs sg hT.2.2.1 n_1 n_2 (by omega) (by omega))) ?_
              refine r_ifne (t := 38) (by decide) dc_1_4_33 (fun c_33 => ?_) (fun c_33 => ?_)
              · skip
                refine r_iload rfl dc_1_4_38 ?_
                refine r_swIn (off := 50) (t := 90) (by decide +kernel) (by decide +kernel) (by decide +kernel) (by decide) dc_1_4_40 ?_
                refine r_aload_n rfl dc_1_4_90 ?_
                refine h_get (t := cT e 0) (v := .ref 4) fx_0_26 (hF 0 (by decide)) ⟨by omega, by omega⟩ (rfl) dc_1_4_91 ?_
                refine r_iload_n rfl dc_1_4_94 ?_
                refine r_iload_n rfl dc_1_4_95 ?_
                refine r_iload_n rfl dc_1_4_96 ?_
                obtain ⟨q9, hq9, hev9⟩ := k_great M hM T e hF cs sg hT.2.2.1 n_1 n_2 n_3 (by omega) (by omega) (by omega) (tu_z hRb)
                refine h_callv (t := cT e 4) (as := [.int (nI n_1), .int (nI n_2), .int (nI n_3)]) (rest := []) (v := .int q9) (M1 := hk M T cs) rfl rfl iv_0_v105 (Or.inl rfl) na_1_23 (hF 4 (by decide)) ⟨by omega, by omega⟩ (show (1 : Nat) < 14 by decide) o_23 rfl (show (0 : Nat) ≤ 8 by decide) dc_1_4_97 (mm_Ev_up (by decide : 5 ≤ 6) (hev9)) ?_
                refine r_iret rfl dc_1_4_100 ?_
                have b1 := bel_n hRb (sc := n_1) (by omega) 11 (by omega)
                have b2 := bel_n hRb (sc := n_2) (by omega) 11 (by omega)
                have hy := pI_ne c_33
                rw [b1.1, b2.1, (n_z (by omega)).2, (n_z (by omega)).2] at hy
                have ha : ¬ sp_below sg n_1 11 = 0 := by rw [b1.1]; exact (n_z (by omega)).1.mpr hy.1
                have hb : ¬ sp_below sg n_2 11 = 0 := by rw [b2.1]; exact (n_z (by omega)).1.mpr hy.2
                have sI : ∀ m, m < 11 → (shP sg n_1 n_3 n_2 m ↔ shN sg n_1 n_3 n_2 m) := fun m hm => sh_iff hRb (by omega) (by omega) (by omega) hm
                have oI : ∀ m, m < 11 → (¬ sp_ov sg n_1 n_3 n_2 m = 0 ↔ shN sg n_1 n_3 n_2 m) := fun m hm => ov_iff hRb (by omega) (by omega) (by omega) hm hy.1 hy.2
                by_cases hz : sg 2 (11 * n_1 + n_3) = 0
                · rcases hq9 with ⟨m, hm, hs, -, -⟩ | ⟨-, hq⟩
                  · exact absurd hz hs.1
                  · rw [hq]
                    refine ⟨_, _, io, sg, nf, ny, tp, ⟨mm_Ev_up (by decide) (c_turn_a (hk M T cs) hM io sg n_1 n_2 n_3 2 (by omega) (by omega) (by omega) (by decide) ha hb (Or.inr hz)), hV⟩, rfl⟩
                · rcases hq9 with ⟨m, hm, hs, hf, hq⟩ | ⟨hf, -⟩
                  · have hr := c_turn_b (hk M T cs) hM io sg n_1 n_2 n_3 2 (by omega) (by omega) (by omega) (by decide) ha hb (by decide) hz
                    rw [if_neg (by decide), la_y (f := fun q => sp_ov sg n_1 n_3 n_2 q) (m := m) ((oI m hm).mpr ((sI m hm).mp hs)) hm (fun j hj h2 => Classical.byContradiction fun y => hf j hj h2 ((sI j (by omega)).mpr ((oI j (by omega)).mp y)))] at hr
                    rw [hq]
                    refine ⟨_, _, io, sg, nf, ny, tp, ⟨mm_Ev_up (by decide) (hr), hV⟩, rfl⟩
                  · obtain ⟨o, h1, h2⟩ := sh_ex (sg := sg) (fr := n_1) (mk := n_3) (to := n_2) (by omega) hy.1 hy.2 (Classical.byContradiction fun y => hz ((z_iff (hRb _ (by omega))).mpr y))
                    exact absurd ((sI o h1).mpr h2) (hf o h1)
              · skip
                refine r_iconst (v := -1) (by decide) dc_1_4_36 ?_
                refine r_iret rfl dc_1_4_37 ?_
                have b1 := bel_n hRb (sc := n_1) (by omega) 11 (by omega)
                have b2 := bel_n hRb (sc := n_2) (by omega) 11 (by omega)
                have hno := pI_eq0 c_33
                rw [b1.1, b2.1, (n_z (by omega)).2, (n_z (by omega)).2] at hno
                refine ⟨_, _, io, sg, nf, ny, tp, ⟨mm_Ev_up (by decide) (c_turn_z (hk M T cs) hM io sg n_1 n_2 n_3 2 (by omega) (by omega) (by omega) (by decide) (by rw [b1.1, b2.1]; exact (by omega : bN sg n_1 11 = 0 ∨ bN sg n_2 11 = 0).imp (fun z => by rw [z]; rfl) (fun z => by rw [z]; rfl))), hV⟩, rfl⟩
          · skip
            refine h_callv (t := cT e 4) (as := [.int to, .int (nI n_3)]) (rest := []) (v := .int (nI 0)) (M1 := hk M T cs) rfl rfl iv_0_v91 (Or.inl rfl) na_1_16 (hF 4 (by decide)) ⟨by omega, by omega⟩ (show (1 : Nat) < 14 by decide) o_16 rfl (show (0 : Nat) ≤ 8 by decide) dc_1_4_18 (mm_Ev_up (by decide : 2 ≤ 6) (by have h9 := k_isMark M hM T e hF cs to (nI n_3); rw [pI_f h_18] at h9; exact h9)) ?_
            refine r_ifeq (t := 36) (by decide) dc_1_4_21 (fun c_21 => ?_) (fun c_21 => ?_)
            · skip
              refine r_iconst (v := -1) (by decide) dc_1_4_36 ?_
              refine r_iret rfl dc_1_4_37 ?_
              refine ⟨_, _, io, sg, nf, ny, tp, ⟨mm_Ev_up (by decide) (c_turn_no (hk M T cs) hM io sg _ _ _ _ (fun g => h_18 ⟨g.2.1, g.2.2.1⟩)), hV⟩, rfl⟩
            · exact absurd c_21 (by decide)
      · skip
        refine h_callv (t := cT e 4) (as := [.int fr, .int mk]) (rest := []) (v := .int (nI 0)) (M1 := hk M T cs) rfl rfl iv_0_v91 (Or.inl rfl) na_1_16 (hF 4 (by decide)) ⟨by omega, by omega⟩ (show (1 : Nat) < 14 by decide) o_16 rfl (show (0 : Nat) ≤ 8 by decide) dc_1_4_6 (mm_Ev_up (by decide : 2 ≤ 6) (by have h9 := k_isMark M hM T e hF cs fr mk; rw [pI_f h_6] at h9; exact h9)) ?_
        refine r_ifeq (t := 36) (by decide) dc_1_4_9 (fun c_9 => ?_) (fun c_9 => ?_)
        · skip
          refine r_iconst (v := -1) (by decide) dc_1_4_36 ?_
          refine r_iret rfl dc_1_4_37 ?_
          refine ⟨_, _, io, sg, nf, ny, tp, ⟨mm_Ev_up (by decide) (c_turn_no (hk M T cs) hM io sg _ _ _ _ (fun g => h_6 ⟨g.1, g.2.2.1⟩)), hV⟩, rfl⟩
        · exact absurd c_9 (by decide)
    · skip
      refine r_aload_n rfl dc_1_4_0 ?_
      refine h_get (t := cT e 0) (v := .ref 4) fx_0_26 (hF 0 (by decide)) ⟨by omega, by omega⟩ (rfl) dc_1_4_1 ?_
      refine r_iload_n rfl dc_1_4_4 ?_
      refine r_iload_n rfl dc_1_4_5 ?_
      by_cases h_6 : gMk fr mk
      · skip
        obtain ⟨n_1, hn_1, e_1⟩ := g_nat2 h_6.1 (by decide) (by decide)
        obtain ⟨n_3, hn_3, e_3⟩ := g_nat2 h_6.2 (by decide) (by decide)
        subst e_1
        subst e_3
        refine h_callv (t := cT e 4) (as := [.int (nI n_1), .int (nI n_3)]) (rest := []) (v := .int (nI 1)) (M1 := hk M T cs) rfl rfl iv_0_v91 (Or.inl rfl) na_1_16 (hF 4 (by decide)) ⟨by omega, by omega⟩ (show (1 : Nat) < 14 by decide) o_16 rfl (show (0 : Nat) ≤ 8 by decide) dc_1_4_6 (mm_Ev_up (by decide : 2 ≤ 6) (k_isMarkT M hM T e hF cs n_1 n_3 (by omega) (by omega))) ?_
        refine r_ifeq (t := 36) (by decide) dc_1_4_9 (fun c_9 => ?_) (fun c_9 => ?_)
        · exact absurd c_9 (by decide)
        · skip
          refine r_aload_n rfl dc_1_4_12 ?_
          refine h_get (t := cT e 0) (v := .ref 4) fx_0_26 (hF 0 (by decide)) ⟨by omega, by omega⟩ (rfl) dc_1_4_13 ?_
          refine r_iload_n rfl dc_1_4_16 ?_
          refine r_iload_n rfl dc_1_4_17 ?_
          by_cases h_18 : gMk to (nI n_3)
          · skip
            obtain ⟨n_2, hn_2, e_2⟩ := g_nat2 h_18.1 (by decide) (by decide)
            subst e_2
            refine h_callv (t := cT e 4) (as := [.int (nI n_2), .int (nI n_3)]) (rest := []) (v := .int (nI 1)) (M1 := hk M T cs) rfl rfl iv_0_v91 (Or.inl rfl) na_1_16 (hF 4 (by decide)) ⟨by omega, by omega⟩ (show (1 : Nat) < 14 by decide) o_16 rfl (show (0 : Nat) ≤ 8 by decide) dc_1_4_18 (mm_Ev_up (by decide : 2 ≤ 6) (k_isMarkT M hM T e hF cs n_2 n_3 (by omega) (by omega))) ?_
            refine r_ifeq (t := 36) (by decide) dc_1_4_21 (fun c_21 => ?_) (fun c_21 => ?_)
            · exact absurd c_21 (by decide)
            · skip
              refine r_aload_n rfl dc_1_4_24 ?_
              refine h_get (t := cT e 0) (v := .ref 4) fx_0_26 (hF 0 (by decide)) ⟨by omega, by omega⟩ (rfl) dc_1_4_25 ?_
              refine r_iload_n rfl dc_1_4_28 ?_
              refine r_iload_n rfl dc_1_4_29 ?_
              refine h_callv (t := cT e 4) (as := [.int (nI n_1), .int (nI n_2)]) (rest := []) (v := .int (pI (0 < sp_below sg n_1 11 ∧ 0 < sp_below sg n_2 11))) (M1 := hk M T cs) rfl rfl iv_0_v95 (Or.inl rfl) na_1_18 (hF 4 (by decide)) ⟨by omega, by omega⟩ (show (1 : Nat) < 14 by decide) o_18 rfl (show (0 : Nat) ≤ 8 by decide) dc_1_4_30 (mm_Ev_up (by decide : 4 ≤ 6) (k_canTurn M hM T e hF cs sg hT.2.2.1 n_1 n_2 (by omega) (by omega))) ?_
              refine r_ifne (t := 38) (by decide) dc_1_4_33 (fun c_33 => ?_) (fun c_33 => ?_)
              · skip
                refine r_iload rfl dc_1_4_38 ?_
                refine r_swOut (t := 101) (hw) (by decide) dc_1_4_40 ?_
                refine r_iconst (v := -1) (by decide) dc_1_4_101 ?_
                refine r_iret rfl dc_1_4_102 ?_
                refine ⟨_, _, io, sg, nf, ny, tp, ⟨mm_Ev_up (by decide) (c_turn_no (hk M T cs) hM io sg _ _ _ _ (fun g => out_2 hw g.2.2.2)), hV⟩, rfl⟩
              · skip
                refine r_iconst (v := -1) (by decide) dc_1_4_36 ?_
                refine r_iret rfl dc_1_4_37 ?_
                refine ⟨_, _, io, sg, nf, ny, tp, ⟨mm_Ev_up (by decide) (c_turn_no (hk M T cs) hM io sg _ _ _ _ (fun g => out_2 hw g.2.2.2)), hV⟩, rfl⟩
          · skip
            refine h_callv (t := cT e 4) (as := [.int to, .int (nI n_3)]) (rest := []) (v := .int (nI 0)) (M1 := hk M T cs) rfl rfl iv_0_v91 (Or.inl rfl) na_1_16 (hF 4 (by decide)) ⟨by omega, by omega⟩ (show (1 : Nat) < 14 by decide) o_16 rfl (show (0 : Nat) ≤ 8 by decide) dc_1_4_18 (mm_Ev_up (by decide : 2 ≤ 6) (by have h9 := k_isMark M hM T e hF cs to (nI n_3); rw [pI_f h_18] at h9; exact h9)) ?_
            refine r_ifeq (t := 36) (by decide) dc_1_4_21 (fun c_21 => ?_) (fun c_21 => ?_)
            · skip
              refine r_iconst (v := -1) (by decide) dc_1_4_36 ?_
              refine r_iret rfl dc_1_4_37 ?_
              refine ⟨_, _, io, sg, nf, ny, tp, ⟨mm_Ev_up (by decide) (c_turn_no (hk M T cs) hM io sg _ _ _ _ (fun g => out_2 hw g.2.2.2)), hV⟩, rfl⟩
            · exact absurd c_21 (by decide)
      · skip
        refine h_callv (t := cT e 4) (as := [.int fr, .int mk]) (rest := []) (v := .int (nI 0)) (M1 := hk M T cs) rfl rfl iv_0_v91 (Or.inl rfl) na_1_16 (hF 4 (by decide)) ⟨by omega, by omega⟩ (show (1 : Nat) < 14 by decide) o_16 rfl (show (0 : Nat) ≤ 8 by decide) dc_1_4_6 (mm_Ev_up (by decide : 2 ≤ 6) (by have h9 := k_isMark M hM T e hF cs fr mk; rw [pI_f h_6] at h9; exact h9)) ?_
        refine r_ifeq (t := 36) (by decide) dc_1_4_9 (fun c_9 => ?_) (fun c_9 => ?_)
        · skip
          refine r_iconst (v := -1) (by decide) dc_1_4_36 ?_
          refine r_iret rfl dc_1_4_37 ?_
          refine ⟨_, _, io, sg, nf, ny, tp, ⟨mm_Ev_up (by decide) (c_turn_no (hk M T cs) hM io sg _ _ _ _ (fun g => out_2 hw g.2.2.2)), hV⟩, rfl⟩
        · exact absurd c_9 (by decide)
  obtain ⟨z9, ⟨v, cs2, io2, sg2, nf2, ny2, tp2, p9, e9⟩, h9⟩ := hq9
  subst e9
  exact ⟨v, cs2, io2, sg2, nf2, ny2, tp2, p9, h9⟩
theorem st_turn (fr to mk wh : Int32) : StpN 17 189 [.int fr, .int to, .int mk, .int wh] := fun M T cs sg io e D nh nx ns nf ny tp cm w cn wc hV => by
  obtain ⟨v, cs2, io2, sg2, nf2, ny2, tp2, hp, h⟩ := s_turn hV fr to mk wh
  exact ⟨v, cs2, io2, sg2, nf2, ny2, tp2, hp, mm_Ev_up (by decide) h⟩
set_option maxHeartbeats 4000000 in
theorem s_feed {M : mH} {T : Nat → mT} {cs sg : Nat → Nat → Int32} {io : Nat → Int32} {e : Nat → Nat} {D : Nat → Nat → Nat} {nh nx ns nf ny tp : Nat} {cm : Nat → Nat} {w : Nat → Nat → Nat} {cn : Nat → Nat} {wc : Nat → Nat → Nat} (hV : CV M T cs io sg e D nh nx ns nf ny tp cm w cn wc) (a b c d v5 : Int32) : ∃ (v : Value), ∃ (cs2 : Nat → Nat → Int32), ∃ (io2 : Nat → Int32), ∃ (sg2 : Nat → Nat → Int32), ∃ (nf2 : Nat), ∃ (ny2 : Nat), ∃ (tp2 : Nat), (mm_Ev 8 197 [.ref 100, .int a, .int b, .int c, .int d, .int v5] (rf_mk (hk M T cs2) io sg) (some v, rf_mk (hk M T cs2) io2 sg2) ∧ CV M T cs2 io2 sg2 e D nh nx ns nf2 ny2 tp2 cm w cn wc) ∧ mm_Ev 3 44 [.ref 0, .int a, .int b, .int c, .int d, .int v5] (hk M T cs) ((some v, hk M T cs2)) := by
  have hq9 : ∃ z, (fun r9 => ∃ (v : Value), ∃ (cs2 : Nat → Nat → Int32), ∃ (io2 : Nat → Int32), ∃ (sg2 : Nat → Nat → Int32), ∃ (nf2 : Nat), ∃ (ny2 : Nat), ∃ (tp2 : Nat), (mm_Ev 8 197 [.ref 100, .int a, .int b, .int c, .int d, .int v5] (rf_mk (hk M T cs2) io sg) (some v, rf_mk (hk M T cs2) io2 sg2) ∧ CV M T cs2 io2 sg2 e D nh nx ns nf2 ny2 tp2 cm w cn wc) ∧ r9 = ((some v, hk M T cs2))) z ∧ mm_Ev 3 44 [.ref 0, .int a, .int b, .int c, .int d, .int v5] (hk M T cs) z := by
    obtain ⟨⟨hM, hMs, hW⟩, hC, hT, hR, hJ⟩ := id hV
    obtain ⟨hF, ⟨hL0, hL1, hL2⟩, hSc, hAg, hSt⟩ := id hC
    obtain ⟨⟨⟨h3, hnh⟩, ⟨h4, hnx⟩, ⟨h5, hns⟩, ⟨h7, hnf⟩, ⟨h6, hny⟩, ⟨h23, htp⟩⟩, hRa, hRb, hRs, hRs2, hRs3, hRx, hCD, hRt, hRt2, hRf⟩ := id hR
    refine r_evQ (by decide +kernel) (show (6 : Nat) ≤ mm_nL 44 by decide +kernel) ?_
    show mm_Ru 2 (0, 6, false, prog_1_method_7_code, some .int) 0 [(0, .ref 0), (1, .int a), (2, .int b), (3, .int c), (4, .int d), (5, .int v5)] [] (hk M T cs) (fun r9 => ∃ (v : Value), ∃ (cs2 : Nat → Nat → Int32), ∃ (io2 : Nat → Int32), ∃ (sg2 : Nat → Nat → Int32), ∃ (nf2 : Nat), ∃ (ny2 : Nat), ∃ (tp2 : Nat), (mm_Ev 8 197 [.ref 100, .int a, .int b, .int c, .int d, .int v5] (rf_mk (hk M T cs2) io sg) (some v, rf_mk (hk M T cs2) io2 sg2) ∧ CV M T cs2 io2 sg2 e D nh nx ns nf2 ny2 tp2 cm w cn wc) ∧ r9 = ((some v, hk M T cs2)))
    refine r_aload_n rfl dc_1_7_0 ?_
    refine h_get (t := cT e 0) (v := .ref 10) fx_0_33 (hF 0 (by decide)) ⟨by omega, by omega⟩ (rfl) dc_1_7_1 ?_
    by_cases h_4 : tp + 20 ≤ 80
    · skip
      refine h_callv (t := cT e 10) (as := []) (rest := []) (v := .int (nI 1)) (M1 := hk M T cs) rfl rfl iv_0_v135 (Or.inl rfl) na_1_45 (hF 10 (by decide)) ⟨by omega, by omega⟩ (show (2 : Nat) < 14 by decide) o_45 rfl (show (0 : Nat) ≤ 8 by decide) dc_1_7_4 (mm_Ev_up (by decide : 1 ≤ 2) (by have h9 := k_hasRoom M hM T e hF cs tp hT.2.2.2.1.1 htp; rw [pI_t h_4] at h9; exact h9)) ?_
      refine r_ifne (t := 12) (by decide) dc_1_7_7 (fun c_7 => ?_) (fun c_7 => ?_)
      · skip
        refine r_aload_n rfl dc_1_7_12 ?_
        refine h_get (t := cT e 0) (v := .ref 10) fx_0_33 (hF 0 (by decide)) ⟨by omega, by omega⟩ (rfl) dc_1_7_13 ?_
        refine r_iload_n rfl dc_1_7_16 ?_
        refine h_call0 (t := cT e 10) (as := [.int a]) (rest := []) (M1 := hk M T (apW cs tp a)) rfl rfl iv_0_v139 (Or.inl rfl) na_1_46 (hF 10 (by decide)) ⟨by omega, by omega⟩ (show (2 : Nat) < 14 by decide) o_46 rfl (show (0 : Nat) ≤ 8 by decide) dc_1_7_17 (mm_Ev_up (by decide : 1 ≤ 2) (k_append M hM T e hF cs (tp) (hT.2.2.2.1.1) a (by omega))) ?_
        refine r_aload_n rfl dc_1_7_20 ?_
        refine h_get (t := cT e 0) (v := .ref 10) fx_0_33 (hF 0 (by decide)) ⟨by omega, by omega⟩ (rfl) dc_1_7_21 ?_
        refine r_iload_n rfl dc_1_7_24 ?_
        refine h_call0 (t := cT e 10) (as := [.int b]) (rest := []) (M1 := hk M T (apW (apW cs tp a) (tp + 4) b)) rfl rfl iv_0_v139 (Or.inl rfl) na_1_46 (hF 10 (by decide)) ⟨by omega, by omega⟩ (show (2 : Nat) < 14 by decide) o_46 rfl (show (0 : Nat) ≤ 8 by decide) dc_1_7_25 (mm_Ev_up (by decide : 1 ≤ 2) (k_append M hM T e hF (apW cs tp a) (tp + 4) ((apW_s _ _ _).trans (congrArg nI (by omega))) b (by omega))) ?_
        refine r_aload_n rfl dc_1_7_28 ?_
        refine h_get (t := cT e 0) (v := .ref 10) fx_0_33 (hF 0 (by decide)) ⟨by omega, by omega⟩ (rfl) dc_1_7_29 ?_
        refine r_iload_n rfl dc_1_7_32 ?_
        refine h_call0 (t := cT e 10) (as := [.int c]) (rest := []) (M1 := hk M T (apW (apW (apW cs tp a) (tp + 4) b) (tp + 8) c)) rfl rfl iv_0_v139 (Or.inl rfl) na_1_46 (hF 10 (by decide)) ⟨by omega, by omega⟩ (show (2 : Nat) < 14 by decide) o_46 rfl (show (0 : Nat) ≤ 8 by decide) dc_1_7_33 (mm_Ev_up (by decide : 1 ≤ 2) (k_append M hM T e hF (apW (apW cs tp a) (tp + 4) b) (tp + 8) ((apW_s _ _ _).trans (congrArg nI (by omega))) c (by omega))) ?_
        refine r_aload_n rfl dc_1_7_36 ?_
        refine h_get (t := cT e 0) (v := .ref 10) fx_0_33 (hF 0 (by decide)) ⟨by omega, by omega⟩ (rfl) dc_1_7_37 ?_
        refine r_iload rfl dc_1_7_40 ?_
        refine h_call0 (t := cT e 10) (as := [.int d]) (rest := []) (M1 := hk M T (apW (apW (apW (apW cs tp a) (tp + 4) b) (tp + 8) c) (tp + 12) d)) rfl rfl iv_0_v139 (Or.inl rfl) na_1_46 (hF 10 (by decide)) ⟨by omega, by omega⟩ (show (2 : Nat) < 14 by decide) o_46 rfl (show (0 : Nat) ≤ 8 by decide) dc_1_7_42 (mm_Ev_up (by decide : 1 ≤ 2) (k_append M hM T e hF (apW (apW (apW cs tp a) (tp + 4) b) (tp + 8) c) (tp + 12) ((apW_s _ _ _).trans (congrArg nI (by omega))) d (by omega))) ?_
        refine r_aload_n rfl dc_1_7_45 ?_
        refine h_get (t := cT e 0) (v := .ref 10) fx_0_33 (hF 0 (by decide)) ⟨by omega, by omega⟩ (rfl) dc_1_7_46 ?_
        refine r_iload rfl dc_1_7_49 ?_
        refine h_call0 (t := cT e 10) (as := [.int v5]) (rest := []) (M1 := hk M T (apW (apW (apW (apW (apW cs tp a) (tp + 4) b) (tp + 8) c) (tp + 12) d) (tp + 16) v5)) rfl rfl iv_0_v139 (Or.inl rfl) na_1_46 (hF 10 (by decide)) ⟨by omega, by omega⟩ (show (2 : Nat) < 14 by decide) o_46 rfl (show (0 : Nat) ≤ 8 by decide) dc_1_7_51 (mm_Ev_up (by decide : 1 ≤ 2) (k_append M hM T e hF (apW (apW (apW (apW cs tp a) (tp + 4) b) (tp + 8) c) (tp + 12) d) (tp + 16) ((apW_s _ _ _).trans (congrArg nI (by omega))) v5 (by omega))) ?_
        refine r_aload_n rfl dc_1_7_54 ?_
        refine h_get (t := cT e 0) (v := .ref 10) fx_0_33 (hF 0 (by decide)) ⟨by omega, by omega⟩ (rfl) dc_1_7_55 ?_
        refine h_get (t := cT e 10) (v := .int (nI (tp + 20))) fx_0_143 (hF 10 (by decide)) ⟨by omega, by omega⟩ (show some (Value.int _) = _ from congrArg (fun z => some (Value.int z)) (apW_s _ _ _)) dc_1_7_58 ?_
        refine r_iret rfl dc_1_7_61 ?_
        refine ⟨_, _, _, _, nf, ny, (tp + 20), ⟨mm_Ev_up (by decide) (c_feed_ok (hk M T (apW (apW (apW (apW (apW cs tp a) (tp + 4) b) (tp + 8) c) (tp + 12) d) (tp + 16) v5)) hM io sg tp a b c d v5 h23 h_4), CV_feed hV h_4⟩, rfl⟩
      · exact absurd c_7 (by decide)
    · skip
      refine h_callv (t := cT e 10) (as := []) (rest := []) (v := .int (nI 0)) (M1 := hk M T cs) rfl rfl iv_0_v135 (Or.inl rfl) na_1_45 (hF 10 (by decide)) ⟨by omega, by omega⟩ (show (2 : Nat) < 14 by decide) o_45 rfl (show (0 : Nat) ≤ 8 by decide) dc_1_7_4 (mm_Ev_up (by decide : 1 ≤ 2) (by have h9 := k_hasRoom M hM T e hF cs tp hT.2.2.2.1.1 htp; rw [pI_f h_4] at h9; exact h9)) ?_
      refine r_ifne (t := 12) (by decide) dc_1_7_7 (fun c_7 => ?_) (fun c_7 => ?_)
      · exact absurd c_7 (by decide)
      · skip
        refine r_iconst (v := -1) (by decide) dc_1_7_10 ?_
        refine r_iret rfl dc_1_7_11 ?_
        refine ⟨_, _, io, sg, nf, ny, tp, ⟨mm_Ev_up (by decide) (c_feed_no (hk M T cs) hM io sg tp a b c d v5 h23 htp (by omega)), hV⟩, rfl⟩
  obtain ⟨z9, ⟨v, cs2, io2, sg2, nf2, ny2, tp2, p9, e9⟩, h9⟩ := hq9
  subst e9
  exact ⟨v, cs2, io2, sg2, nf2, ny2, tp2, p9, h9⟩
theorem st_feed (a b c d v5 : Int32) : StpN 44 197 [.int a, .int b, .int c, .int d, .int v5] := fun M T cs sg io e D nh nx ns nf ny tp cm w cn wc hV => by
  obtain ⟨v, cs2, io2, sg2, nf2, ny2, tp2, hp, h⟩ := s_feed hV a b c d v5
  exact ⟨v, cs2, io2, sg2, nf2, ny2, tp2, hp, mm_Ev_up (by decide) h⟩
set_option maxHeartbeats 4000000 in
theorem s_year {M : mH} {T : Nat → mT} {cs sg : Nat → Nat → Int32} {io : Nat → Int32} {e : Nat → Nat} {D : Nat → Nat → Nat} {nh nx ns nf ny tp : Nat} {cm : Nat → Nat} {w : Nat → Nat → Nat} {cn : Nat → Nat} {wc : Nat → Nat → Nat} (hV : CV M T cs io sg e D nh nx ns nf ny tp cm w cn wc) : ∃ (v : Value), ∃ (cs2 : Nat → Nat → Int32), ∃ (io2 : Nat → Int32), ∃ (sg2 : Nat → Nat → Int32), ∃ (nf2 : Nat), ∃ (ny2 : Nat), ∃ (tp2 : Nat), (mm_Ev 8 265 [.ref 100] (rf_mk (hk M T cs2) io sg) (some v, rf_mk (hk M T cs2) io2 sg2) ∧ CV M T cs2 io2 sg2 e D nh nx ns nf2 ny2 tp2 cm w cn wc) ∧ mm_Ev 5 171 [.ref 0] (hk M T cs) ((some v, hk M T cs2)) := by
  have hq9 : ∃ z, (fun r9 => ∃ (v : Value), ∃ (cs2 : Nat → Nat → Int32), ∃ (io2 : Nat → Int32), ∃ (sg2 : Nat → Nat → Int32), ∃ (nf2 : Nat), ∃ (ny2 : Nat), ∃ (tp2 : Nat), (mm_Ev 8 265 [.ref 100] (rf_mk (hk M T cs2) io sg) (some v, rf_mk (hk M T cs2) io2 sg2) ∧ CV M T cs2 io2 sg2 e D nh nx ns nf2 ny2 tp2 cm w cn wc) ∧ r9 = ((some v, hk M T cs2))) z ∧ mm_Ev 5 171 [.ref 0] (hk M T cs) z := by
    obtain ⟨⟨hM, hMs, hW⟩, hC, hT, hR, hJ⟩ := id hV
    obtain ⟨hF, ⟨hL0, hL1, hL2⟩, hSc, hAg, hSt⟩ := id hC
    obtain ⟨⟨⟨h3, hnh⟩, ⟨h4, hnx⟩, ⟨h5, hns⟩, ⟨h7, hnf⟩, ⟨h6, hny⟩, ⟨h23, htp⟩⟩, hRa, hRb, hRs, hRs2, hRs3, hRx, hCD, hRt, hRt2, hRf⟩ := id hR
    refine r_evQ (by decide +kernel) (show (1 : Nat) ≤ mm_nL 171 by decide +kernel) ?_
    show mm_Ru 4 (0, 2, false, prog_1_method_29_code, some .int) 0 [(0, .ref 0)] [] (hk M T cs) (fun r9 => ∃ (v : Value), ∃ (cs2 : Nat → Nat → Int32), ∃ (io2 : Nat → Int32), ∃ (sg2 : Nat → Nat → Int32), ∃ (nf2 : Nat), ∃ (ny2 : Nat), ∃ (tp2 : Nat), (mm_Ev 8 265 [.ref 100] (rf_mk (hk M T cs2) io sg) (some v, rf_mk (hk M T cs2) io2 sg2) ∧ CV M T cs2 io2 sg2 e D nh nx ns nf2 ny2 tp2 cm w cn wc) ∧ r9 = ((some v, hk M T cs2)))
    refine r_aload_n rfl dc_1_29_0 ?_
    refine h_get (t := cT e 0) (v := .int (nI ny)) fx_0_7 (hF 0 (by decide)) ⟨by omega, by omega⟩ (show some (Value.int _) = _ from congrArg (fun z => some (Value.int z)) (hT.1.trans h6)) dc_1_29_1 ?_
    refine r_bipush (v := nI 99) (by decide) dc_1_29_4 ?_
    refine r_nclt (t := 11) (by omega) (by omega) (by decide) dc_1_29_6 (fun c_6 => ?_) (fun c_6 => ?_)
    · skip
      refine r_aload_n rfl dc_1_29_11 ?_
      refine r_dup rfl dc_1_29_12 ?_
      refine h_get (t := cT e 0) (v := .int (nI ny)) fx_0_7 (hF 0 (by decide)) ⟨by omega, by omega⟩ (show some (Value.int _) = _ from congrArg (fun z => some (Value.int z)) (hT.1.trans h6)) dc_1_29_13 ?_
      refine r_iconst (v := nI 1) (by decide) dc_1_29_16 ?_
      refine r_iadd (v := nI (ny + 1)) (nI_add _ _) dc_1_29_17 ?_
      refine h_pint (t := cT e 0) fx_0_7 (hF 0 (by decide)) ⟨by omega, by omega⟩ (Or.inl fn_0_0) ty_0_0 (pi_0_0 _ _ _ _) dc_1_29_18 ?_
      have hV0 := CV_yr0 hV c_6
      refine r_iconst (v := nI 0) (by decide) dc_1_29_21 ?_
      refine r_istore_n (ls' := [(1, .int (nI 0)), (0, .ref 0)]) (by decide) rfl dc_1_29_22 ?_
      refine mm_cnt (P := fun m => ∀ (cs1 : Nat → Nat → Int32), (CV M T cs1 (va_up io 6 (nI (ny + 1))) (va_up sg 56 (sp_ye (sg 56) m)) e D nh nx ns nf (ny + 1) tp cm w cn wc) → mm_Ru 4 (0, 2, false, prog_1_method_29_code, some .int) 23 [(1, .int (nI m)), (0, .ref 0)] [] (hk M T cs1) (fun r9 => ∃ (v : Value), ∃ (cs2 : Nat → Nat → Int32), ∃ (io2 : Nat → Int32), ∃ (sg2 : Nat → Nat → Int32), ∃ (nf2 : Nat), ∃ (ny2 : Nat), ∃ (tp2 : Nat), (mm_Ev 8 265 [.ref 100] (rf_mk (hk M T cs2) io sg) (some v, rf_mk (hk M T cs2) io2 sg2) ∧ CV M T cs2 io2 sg2 e D nh nx ns nf2 ny2 tp2 cm w cn wc) ∧ r9 = ((some v, hk M T cs2)))) ns ?_ ?_ 0 (by omega) (w1 cs 0 0 (nI (ny + 1))) (by rw [show va_up sg 56 (sp_ye (sg 56) 0) = sg from va_up_id sg 56]; exact hV0)
      · intro  cs1 hi_m
        show mm_Ru 4 (0, 2, false, prog_1_method_29_code, some .int) 23 [(1, .int (nI ns)), (0, .ref 0)] [] (hk M T cs1) (fun r9 => ∃ (v : Value), ∃ (cs2 : Nat → Nat → Int32), ∃ (io2 : Nat → Int32), ∃ (sg2 : Nat → Nat → Int32), ∃ (nf2 : Nat), ∃ (ny2 : Nat), ∃ (tp2 : Nat), (mm_Ev 8 265 [.ref 100] (rf_mk (hk M T cs2) io sg) (some v, rf_mk (hk M T cs2) io2 sg2) ∧ CV M T cs2 io2 sg2 e D nh nx ns nf2 ny2 tp2 cm w cn wc) ∧ r9 = ((some v, hk M T cs2)))
        refine r_iload_n rfl dc_1_29_23 ?_
        refine r_aload_n rfl dc_1_29_24 ?_
        refine h_get (t := cT e 0) (v := .ref 27) fx_0_68 (hF 0 (by decide)) ⟨by omega, by omega⟩ (rfl) dc_1_29_25 ?_
        refine h_callv (t := cT e 27) (as := []) (rest := [.int (nI ns)]) (v := .int (nI ns)) (M1 := hk M T cs1) rfl rfl iv_0_f113 (Or.inr (Or.inr rfl)) na_6_26 (hF 27 (by decide)) ⟨by omega, by omega⟩ (show (6 : Nat) < 14 by decide) o_26 rfl (show (1 : Nat) ≤ 8 by decide) dc_1_29_28 (mm_Ev_up (by decide : 1 ≤ 4) (k_sizeL hi_m.2.1.2.1.2.2)) ?_
        refine r_ncge (t := 58) (by omega) (by omega) (by decide) dc_1_29_33 (fun c_33 => ?_) (fun c_33 => ?_)
        · skip
          refine r_aload_n rfl dc_1_29_58 ?_
          refine h_get (t := cT e 0) (v := .ref 20) fx_0_54 (hF 0 (by decide)) ⟨by omega, by omega⟩ (rfl) dc_1_29_59 ?_
          refine h_call0 (t := cT e 20) (as := []) (rest := []) (M1 := hk M T (w1 (w1 cs1 20 0 (nI 0)) 20 1 (nI 0))) rfl rfl iv_0_v294 (Or.inl rfl) na_1_173 (hF 20 (by decide)) ⟨by omega, by omega⟩ (show (5 : Nat) < 14 by decide) o_173 rfl (show (0 : Nat) ≤ 8 by decide) dc_1_29_62 (mm_Ev_up (by decide : 1 ≤ 4) (k_fclear M hM T e hF cs1)) ?_
          refine r_aload_n rfl dc_1_29_65 ?_
          refine h_get (t := cT e 0) (v := .int (nI (ny + 1))) fx_0_7 (hF 0 (by decide)) ⟨by omega, by omega⟩ (show some (Value.int _) = _ from congrArg (fun z => some (Value.int z)) ((congrFun ((w1_n _ _ _ (by decide)).trans (w1_n _ _ _ (by decide))) 0).trans hi_m.2.2.1.1)) dc_1_29_66 ?_
          refine r_iret rfl dc_1_29_69 ?_
          have hr := c_year_ok (hk M T (w1 (w1 cs1 20 0 (nI 0)) 20 1 (nI 0))) hM io sg ns h5 hns ny h6 (by omega)
          rw [show va_up sg 56 (sp_ye (sg 56) 0) = sg from va_up_id sg 56] at hr
          refine ⟨_, _, _, _, 0, (ny + 1), tp, ⟨mm_Ev_up (by decide) (hr), CV_yr1 hi_m⟩, rfl⟩
        · omega
      · intro m h_m ih_m  cs1 hi_m
        show mm_Ru 4 (0, 2, false, prog_1_method_29_code, some .int) 23 [(1, .int (nI m)), (0, .ref 0)] [] (hk M T cs1) (fun r9 => ∃ (v : Value), ∃ (cs2 : Nat → Nat → Int32), ∃ (io2 : Nat → Int32), ∃ (sg2 : Nat → Nat → Int32), ∃ (nf2 : Nat), ∃ (ny2 : Nat), ∃ (tp2 : Nat), (mm_Ev 8 265 [.ref 100] (rf_mk (hk M T cs2) io sg) (some v, rf_mk (hk M T cs2) io2 sg2) ∧ CV M T cs2 io2 sg2 e D nh nx ns nf2 ny2 tp2 cm w cn wc) ∧ r9 = ((some v, hk M T cs2)))
        refine r_iload_n rfl dc_1_29_23 ?_
        refine r_aload_n rfl dc_1_29_24 ?_
        refine h_get (t := cT e 0) (v := .ref 27) fx_0_68 (hF 0 (by decide)) ⟨by omega, by omega⟩ (rfl) dc_1_29_25 ?_
        refine h_callv (t := cT e 27) (as := []) (rest := [.int (nI m)]) (v := .int (nI ns)) (M1 := hk M T cs1) rfl rfl iv_0_f113 (Or.inr (Or.inr rfl)) na_6_26 (hF 27 (by decide)) ⟨by omega, by omega⟩ (show (6 : Nat) < 14 by decide) o_26 rfl (show (1 : Nat) ≤ 8 by decide) dc_1_29_28 (mm_Ev_up (by decide : 1 ≤ 4) (k_sizeL hi_m.2.1.2.1.2.2)) ?_
        refine r_ncge (t := 58) (by omega) (by omega) (by decide) dc_1_29_33 (fun c_33 => ?_) (fun c_33 => ?_)
        · omega
        · skip
          refine r_aload_n rfl dc_1_29_36 ?_
          refine h_get (t := cT e 0) (v := .ref 27) fx_0_68 (hF 0 (by decide)) ⟨by omega, by omega⟩ (rfl) dc_1_29_37 ?_
          refine r_iload_n rfl dc_1_29_40 ?_
          refine h_callv (t := cT e 27) (as := [.int (nI m)]) (rest := []) (v := .ref (D 7 m)) (M1 := hk M T cs1) rfl rfl iv_0_f227 (Or.inr (Or.inr rfl)) na_6_40 (hF 27 (by decide)) ⟨by omega, by omega⟩ (show (6 : Nat) < 14 by decide) o_40 rfl (show (0 : Nat) ≤ 8 by decide) dc_1_29_41 (mm_Ev_up (by decide : 3 ≤ 4) (k_getL hi_m.2.1.2.1.2.2 m (by omega))) ?_
          refine h_cast (t := (11, 0, rl [(6, D 9 m), (5, D 8 m)])) (c := 11) (hSt m (by omega)).1 (hSt m (by omega)).2.1 (show (11 : Nat) < 14 by decide) kr_0_175 rfl dc_1_29_46 ?_
          have hV2 := CV_ey hi_m h_m
          rw [show va_up (va_up sg 56 (sp_ye (sg 56) m)) 56 (yeF (va_up sg 56 (sp_ye (sg 56) m) 56) m) = va_up sg 56 (sp_ye (sg 56) (m + 1)) from ye_S sg m] at hV2
          refine h_call0 (t := (11, 0, rl [(6, D 9 m), (5, D 8 m)])) (as := []) (rest := []) (M1 := hk M T (eyW cs1 (va_up sg 56 (sp_ye (sg 56) m)) (D 7 m) m)) rfl rfl iv_0_v291 (Or.inl rfl) na_1_172 (hSt m (by omega)).1 (hSt m (by omega)).2.1 (show (11 : Nat) < 14 by decide) o_172 rfl (show (0 : Nat) ≤ 8 by decide) dc_1_29_49 (mm_Ev_up (by decide : 1 ≤ 4) (k_endYear M T cs1 _ D m _ (hi_m.2.1.2.2.2.2 m h_m) (inN_tN (hRt m h_m).2.2.2.2.2.2.1 (by decide)).2)) ?_
          refine r_iinc (n := 1) (k := 1) (x := nI m) (v := nI (m + 1)) (ls' := [(1, .int (nI (m + 1))), (0, .ref 0)]) rfl (nI_1 _) (by decide) rfl dc_1_29_52 ?_
          refine r_goto (t := 23) (by decide) dc_1_29_55 ?_
          exact ih_m (eyW cs1 (va_up sg 56 (sp_ye (sg 56) m)) (D 7 m) m) (hV2)
    · skip
      refine r_iconst (v := -1) (by decide) dc_1_29_9 ?_
      refine r_iret rfl dc_1_29_10 ?_
      refine ⟨_, _, io, sg, nf, ny, tp, ⟨mm_Ev_up (by decide) (c_year_no (hk M T cs) hM io sg (by rw [h6, show ny = 99 by omega])), hV⟩, rfl⟩
  obtain ⟨z9, ⟨v, cs2, io2, sg2, nf2, ny2, tp2, p9, e9⟩, h9⟩ := hq9
  subst e9
  exact ⟨v, cs2, io2, sg2, nf2, ny2, tp2, p9, h9⟩
theorem st_year : StpN 171 265 [] := fun M T cs sg io e D nh nx ns nf ny tp cm w cn wc hV => by
  obtain ⟨v, cs2, io2, sg2, nf2, ny2, tp2, hp, h⟩ := s_year hV
  exact ⟨v, cs2, io2, sg2, nf2, ny2, tp2, hp, mm_Ev_up (by decide) h⟩
set_option maxHeartbeats 4000000 in
theorem s_terms {M : mH} {T : Nat → mT} {cs sg : Nat → Nat → Int32} {io : Nat → Int32} {e : Nat → Nat} {D : Nat → Nat → Nat} {nh nx ns nf ny tp : Nat} {cm : Nat → Nat} {w : Nat → Nat → Nat} {cn : Nat → Nat} {wc : Nat → Nat → Nat} (hV : CV M T cs io sg e D nh nx ns nf ny tp cm w cn wc) (x y wh : Int32) : ∃ (v : Value), ∃ (cs2 : Nat → Nat → Int32), ∃ (io2 : Nat → Int32), ∃ (sg2 : Nat → Nat → Int32), ∃ (nf2 : Nat), ∃ (ny2 : Nat), ∃ (tp2 : Nat), (mm_Ev 8 214 [.ref 100, .int x, .int y, .int wh] (rf_mk (hk M T cs2) io sg) (some v, rf_mk (hk M T cs2) io2 sg2) ∧ CV M T cs2 io2 sg2 e D nh nx ns nf2 ny2 tp2 cm w cn wc) ∧ mm_Ev 8 90 [.ref 0, .int x, .int y, .int wh] (hk M T cs) ((some v, hk M T cs2)) := by
  have hq9 : ∃ z, (fun r9 => ∃ (v : Value), ∃ (cs2 : Nat → Nat → Int32), ∃ (io2 : Nat → Int32), ∃ (sg2 : Nat → Nat → Int32), ∃ (nf2 : Nat), ∃ (ny2 : Nat), ∃ (tp2 : Nat), (mm_Ev 8 214 [.ref 100, .int x, .int y, .int wh] (rf_mk (hk M T cs2) io sg) (some v, rf_mk (hk M T cs2) io2 sg2) ∧ CV M T cs2 io2 sg2 e D nh nx ns nf2 ny2 tp2 cm w cn wc) ∧ r9 = ((some v, hk M T cs2))) z ∧ mm_Ev 8 90 [.ref 0, .int x, .int y, .int wh] (hk M T cs) z := by
    obtain ⟨⟨hM, hMs, hW⟩, hC, hT, hR, hJ⟩ := id hV
    obtain ⟨hF, ⟨hL0, hL1, hL2⟩, hSc, hAg, hSt⟩ := id hC
    obtain ⟨⟨⟨h3, hnh⟩, ⟨h4, hnx⟩, ⟨h5, hns⟩, ⟨h7, hnf⟩, ⟨h6, hny⟩, ⟨h23, htp⟩⟩, hRa, hRb, hRs, hRs2, hRs3, hRx, hCD, hRt, hRt2, hRf⟩ := id hR
    refine r_evQ (by decide +kernel) (show (4 : Nat) ≤ mm_nL 90 by decide +kernel) ?_
    show mm_Ru 7 (0, 6, false, prog_1_method_10_code, some .int) 0 [(0, .ref 0), (1, .int x), (2, .int y), (3, .int wh)] [] (hk M T cs) (fun r9 => ∃ (v : Value), ∃ (cs2 : Nat → Nat → Int32), ∃ (io2 : Nat → Int32), ∃ (sg2 : Nat → Nat → Int32), ∃ (nf2 : Nat), ∃ (ny2 : Nat), ∃ (tp2 : Nat), (mm_Ev 8 214 [.ref 100, .int x, .int y, .int wh] (rf_mk (hk M T cs2) io sg) (some v, rf_mk (hk M T cs2) io2 sg2) ∧ CV M T cs2 io2 sg2 e D nh nx ns nf2 ny2 tp2 cm w cn wc) ∧ r9 = ((some v, hk M T cs2)))
    rcases li2 wh with rfl | rfl | rfl | hw
    · skip
      refine r_aload_n rfl dc_1_10_0 ?_
      refine r_iload_n rfl dc_1_10_1 ?_
      by_cases h_2 : 0 ≤ x ∧ x < nI nx
      · skip
        obtain ⟨n_2, hn_2, e_2⟩ := g_lt h_2 (by omega)
        subst e_2
        refine h_callv (t := cT e 0) (as := [.int (nI n_2)]) (rest := []) (v := .ref (D 4 n_2)) (M1 := hk M T cs) rfl rfl iv_0_v157 (Or.inl rfl) na_1_85 (hF 0 (by decide)) ⟨by omega, by omega⟩ (show (0 : Nat) < 14 by decide) o_85 rfl (show (0 : Nat) ≤ 8 by decide) dc_1_10_2 (mm_Ev_up (by decide : 4 ≤ 7) (k_agAt_ok hV n_2 hn_2)) ?_
        refine r_astore (ls' := [(4, .ref (D 4 n_2)), (0, .ref 0), (1, .int (nI n_2)), (2, .int y), (3, .int (nI 0))]) (by decide) rfl dc_1_10_5 ?_
        refine r_aload_n rfl dc_1_10_7 ?_
        refine r_iload_n rfl dc_1_10_8 ?_
        by_cases h_9 : 0 ≤ y ∧ y < nI nx
        · skip
          obtain ⟨n_9, hn_9, e_9⟩ := g_lt h_9 (by omega)
          subst e_9
          refine h_callv (t := cT e 0) (as := [.int (nI n_9)]) (rest := []) (v := .ref (D 4 n_9)) (M1 := hk M T cs) rfl rfl iv_0_v157 (Or.inl rfl) na_1_85 (hF 0 (by decide)) ⟨by omega, by omega⟩ (show (0 : Nat) < 14 by decide) o_85 rfl (show (0 : Nat) ≤ 8 by decide) dc_1_10_9 (mm_Ev_up (by decide : 4 ≤ 7) (k_agAt_ok hV n_9 hn_9)) ?_
          refine r_astore (ls' := [(5, .ref (D 4 n_9)), (4, .ref (D 4 n_2)), (0, .ref 0), (1, .int (nI n_2)), (2, .int (nI n_9)), (3, .int (nI 0))]) (by decide) rfl dc_1_10_12 ?_
          refine r_aload rfl dc_1_10_14 ?_
          refine r_ifnull dc_1_10_16 ?_
          refine r_aload rfl dc_1_10_19 ?_
          refine r_ifnonnull (t := 26) (by decide) dc_1_10_21 ?_
          refine r_iload_n rfl dc_1_10_26 ?_
          refine r_swIn (off := 25) (t := 52) (by decide +kernel) (by decide +kernel) (by decide +kernel) (by decide) dc_1_10_27 ?_
          refine r_aload_n rfl dc_1_10_52 ?_
          refine h_get (t := cT e 0) (v := .ref 15) fx_0_47 (hF 0 (by decide)) ⟨by omega, by omega⟩ (rfl) dc_1_10_53 ?_
          refine r_aload rfl dc_1_10_56 ?_
          refine r_aload rfl dc_1_10_58 ?_
          obtain ⟨cs6, hf6, hev6⟩ := k_common M hM T e hF cs sg D n_2 _ _ (hAg n_2 hn_2) n_2 _ _ (hAg n_2 hn_2) (DJ_lo hJ (dvl_x (k := 6) (by decide) (by decide) hn_2)) (DJ_lo hJ (dvl_x (k := 6) (by decide) (by decide) hn_2)) (DJ_ne hJ (dvl_x (k := 4) (by decide) (by decide) hn_2) (dvl_x (k := 6) (by decide) (by decide) hn_2) (by omega)) (DJ_ne hJ (dvl_x (k := 4) (by decide) (by decide) hn_2) (dvl_x (k := 6) (by decide) (by decide) hn_2) (by omega)) (DJ_ne hJ (dvl_x (k := 5) (by decide) (by decide) hn_2) (dvl_x (k := 6) (by decide) (by decide) hn_2) (by omega)) (DJ_ne hJ (dvl_x (k := 5) (by decide) (by decide) hn_2) (dvl_x (k := 6) (by decide) (by decide) hn_2) (by omega)) (DJ_lo hJ (dvl_x (k := 4) (by decide) (by decide) hn_2)) (DJ_lo hJ (dvl_x (k := 4) (by decide) (by decide) hn_2)) (DJ_lo hJ (dvl_x (k := 5) (by decide) (by decide) hn_2)) (DJ_lo hJ (dvl_x (k := 5) (by decide) (by decide) hn_2))
          have hfc : FrC D nx cs cs6 := fun a h1 h2 => hf6 a (by omega) (h2 n_2 hn_2) (h2 n_2 hn_2)
          have heq := some_eq (wi := 1) (hRx n_2 hn_2).2.2.2.2.2.2.1 (hRx n_2 hn_2).2.2.2.2.2.2.1 (hRx n_2 hn_2).2.2.2.2.2.2.2 (hRx n_2 hn_2).2.2.2.2.2.2.2 (hCD n_2 hn_2).2.2.2.1 (hCD n_2 hn_2).2.2.2.1
          refine h_callv (t := cT e 15) (as := [.ref (D 4 n_2), .ref (D 4 n_2)]) (rest := []) (v := .int (pI (gFn (wc n_2) (wc n_2) (cn n_2) (cn n_2) 1))) (M1 := hk M T cs6) rfl rfl iv_0_v164 (Or.inl rfl) na_1_91 (hF 15 (by decide)) ⟨by omega, by omega⟩ (show (4 : Nat) < 14 by decide) o_91 rfl (show (0 : Nat) ≤ 8 by decide) dc_1_10_60 (mm_Ev_up (by decide : 6 ≤ 7) (hev6)) ?_
          refine r_ifeq (t := 70) (by decide) dc_1_10_63 (fun c_63 => ?_) (fun c_63 => ?_)
          · skip
            refine r_iconst (v := nI 1) (by decide) dc_1_10_70 ?_
            refine r_iret rfl dc_1_10_71 ?_
            obtain ⟨c4, c5, q, hr⟩ := c_terms_0 (hk M T cs6) hM io sg nx h4 hnx cm w hCD n_2 n_9 hn_2 hn_9
            rw [pI_t (fun y => pI_eq0 c_63 (heq.mpr y))] at hr
            refine ⟨_, _, io, _, nf, ny, tp, ⟨mm_Ev_up (by decide) (hr), CV_sc hV hfc (fun k h1 h2 => (up_o _ _ (by omega)).trans ((up_o _ _ (by omega)).trans (up_o _ _ (by omega)))) (fun k _ => rfl)⟩, rfl⟩
          · skip
            refine r_iconst (v := nI 0) (by decide) dc_1_10_66 ?_
            refine r_goto (t := 71) (by decide) dc_1_10_67 ?_
            refine r_iret rfl dc_1_10_71 ?_
            obtain ⟨c4, c5, q, hr⟩ := c_terms_0 (hk M T cs6) hM io sg nx h4 hnx cm w hCD n_2 n_9 hn_2 hn_9
            rw [pI_f (fun y => y (heq.mp (pI_ne c_63)))] at hr
            refine ⟨_, _, io, _, nf, ny, tp, ⟨mm_Ev_up (by decide) (hr), CV_sc hV hfc (fun k h1 h2 => (up_o _ _ (by omega)).trans ((up_o _ _ (by omega)).trans (up_o _ _ (by omega)))) (fun k _ => rfl)⟩, rfl⟩
        · skip
          refine h_callv (t := cT e 0) (as := [.int y]) (rest := []) (v := .null) (M1 := hk M T cs) rfl rfl iv_0_v157 (Or.inl rfl) na_1_85 (hF 0 (by decide)) ⟨by omega, by omega⟩ (show (0 : Nat) < 14 by decide) o_85 rfl (show (0 : Nat) ≤ 8 by decide) dc_1_10_9 (mm_Ev_up (by decide : 2 ≤ 7) (k_agAt_no hV y h_9)) ?_
          refine r_astoreZ (ls' := [(5, .null), (4, .ref (D 4 n_2)), (0, .ref 0), (1, .int (nI n_2)), (2, .int y), (3, .int (nI 0))]) (by decide) rfl dc_1_10_12 ?_
          refine r_aload rfl dc_1_10_14 ?_
          refine r_ifnull dc_1_10_16 ?_
          refine r_aloadZ rfl dc_1_10_19 ?_
          refine r_ifnonnullZ dc_1_10_21 ?_
          refine r_iconst (v := -1) (by decide) dc_1_10_24 ?_
          refine r_iret rfl dc_1_10_25 ?_
          refine ⟨_, _, io, sg, nf, ny, tp, ⟨mm_Ev_up (by decide) (c_terms_no (hk M T cs) hM io sg _ _ _ (fun g => h_9 (by rw [← h4]; exact g.2))), hV⟩, rfl⟩
      · skip
        refine h_callv (t := cT e 0) (as := [.int x]) (rest := []) (v := .null) (M1 := hk M T cs) rfl rfl iv_0_v157 (Or.inl rfl) na_1_85 (hF 0 (by decide)) ⟨by omega, by omega⟩ (show (0 : Nat) < 14 by decide) o_85 rfl (show (0 : Nat) ≤ 8 by decide) dc_1_10_2 (mm_Ev_up (by decide : 2 ≤ 7) (k_agAt_no hV x h_2)) ?_
        refine r_astoreZ (ls' := [(4, .null), (0, .ref 0), (1, .int x), (2, .int y), (3, .int (nI 0))]) (by decide) rfl dc_1_10_5 ?_
        refine r_aload_n rfl dc_1_10_7 ?_
        refine r_iload_n rfl dc_1_10_8 ?_
        by_cases h_9 : 0 ≤ y ∧ y < nI nx
        · skip
          obtain ⟨n_9, hn_9, e_9⟩ := g_lt h_9 (by omega)
          subst e_9
          refine h_callv (t := cT e 0) (as := [.int (nI n_9)]) (rest := []) (v := .ref (D 4 n_9)) (M1 := hk M T cs) rfl rfl iv_0_v157 (Or.inl rfl) na_1_85 (hF 0 (by decide)) ⟨by omega, by omega⟩ (show (0 : Nat) < 14 by decide) o_85 rfl (show (0 : Nat) ≤ 8 by decide) dc_1_10_9 (mm_Ev_up (by decide : 4 ≤ 7) (k_agAt_ok hV n_9 hn_9)) ?_
          refine r_astore (ls' := [(5, .ref (D 4 n_9)), (4, .null), (0, .ref 0), (1, .int x), (2, .int (nI n_9)), (3, .int (nI 0))]) (by decide) rfl dc_1_10_12 ?_
          refine r_aloadZ rfl dc_1_10_14 ?_
          refine r_ifnullZ (t := 24) (by decide) dc_1_10_16 ?_
          refine r_iconst (v := -1) (by decide) dc_1_10_24 ?_
          refine r_iret rfl dc_1_10_25 ?_
          refine ⟨_, _, io, sg, nf, ny, tp, ⟨mm_Ev_up (by decide) (c_terms_no (hk M T cs) hM io sg _ _ _ (fun g => h_2 (by rw [← h4]; exact g.1))), hV⟩, rfl⟩
        · skip
          refine h_callv (t := cT e 0) (as := [.int y]) (rest := []) (v := .null) (M1 := hk M T cs) rfl rfl iv_0_v157 (Or.inl rfl) na_1_85 (hF 0 (by decide)) ⟨by omega, by omega⟩ (show (0 : Nat) < 14 by decide) o_85 rfl (show (0 : Nat) ≤ 8 by decide) dc_1_10_9 (mm_Ev_up (by decide : 2 ≤ 7) (k_agAt_no hV y h_9)) ?_
          refine r_astoreZ (ls' := [(5, .null), (4, .null), (0, .ref 0), (1, .int x), (2, .int y), (3, .int (nI 0))]) (by decide) rfl dc_1_10_12 ?_
          refine r_aloadZ rfl dc_1_10_14 ?_
          refine r_ifnullZ (t := 24) (by decide) dc_1_10_16 ?_
          refine r_iconst (v := -1) (by decide) dc_1_10_24 ?_
          refine r_iret rfl dc_1_10_25 ?_
          refine ⟨_, _, io, sg, nf, ny, tp, ⟨mm_Ev_up (by decide) (c_terms_no (hk M T cs) hM io sg _ _ _ (fun g => h_2 (by rw [← h4]; exact g.1))), hV⟩, rfl⟩
    · skip
      refine r_aload_n rfl dc_1_10_0 ?_
      refine r_iload_n rfl dc_1_10_1 ?_
      by_cases h_2 : 0 ≤ x ∧ x < nI nx
      · skip
        obtain ⟨n_2, hn_2, e_2⟩ := g_lt h_2 (by omega)
        subst e_2
        refine h_callv (t := cT e 0) (as := [.int (nI n_2)]) (rest := []) (v := .ref (D 4 n_2)) (M1 := hk M T cs) rfl rfl iv_0_v157 (Or.inl rfl) na_1_85 (hF 0 (by decide)) ⟨by omega, by omega⟩ (show (0 : Nat) < 14 by decide) o_85 rfl (show (0 : Nat) ≤ 8 by decide) dc_1_10_2 (mm_Ev_up (by decide : 4 ≤ 7) (k_agAt_ok hV n_2 hn_2)) ?_
        refine r_astore (ls' := [(4, .ref (D 4 n_2)), (0, .ref 0), (1, .int (nI n_2)), (2, .int y), (3, .int (nI 1))]) (by decide) rfl dc_1_10_5 ?_
        refine r_aload_n rfl dc_1_10_7 ?_
        refine r_iload_n rfl dc_1_10_8 ?_
        by_cases h_9 : 0 ≤ y ∧ y < nI nx
        · skip
          obtain ⟨n_9, hn_9, e_9⟩ := g_lt h_9 (by omega)
          subst e_9
          refine h_callv (t := cT e 0) (as := [.int (nI n_9)]) (rest := []) (v := .ref (D 4 n_9)) (M1 := hk M T cs) rfl rfl iv_0_v157 (Or.inl rfl) na_1_85 (hF 0 (by decide)) ⟨by omega, by omega⟩ (show (0 : Nat) < 14 by decide) o_85 rfl (show (0 : Nat) ≤ 8 by decide) dc_1_10_9 (mm_Ev_up (by decide : 4 ≤ 7) (k_agAt_ok hV n_9 hn_9)) ?_
          refine r_astore (ls' := [(5, .ref (D 4 n_9)), (4, .ref (D 4 n_2)), (0, .ref 0), (1, .int (nI n_2)), (2, .int (nI n_9)), (3, .int (nI 1))]) (by decide) rfl dc_1_10_12 ?_
          refine r_aload rfl dc_1_10_14 ?_
          refine r_ifnull dc_1_10_16 ?_
          refine r_aload rfl dc_1_10_19 ?_
          refine r_ifnonnull (t := 26) (by decide) dc_1_10_21 ?_
          refine r_iload_n rfl dc_1_10_26 ?_
          refine r_swIn (off := 45) (t := 72) (by decide +kernel) (by decide +kernel) (by decide +kernel) (by decide) dc_1_10_27 ?_
          refine r_aload_n rfl dc_1_10_72 ?_
          refine h_get (t := cT e 0) (v := .ref 15) fx_0_47 (hF 0 (by decide)) ⟨by omega, by omega⟩ (rfl) dc_1_10_73 ?_
          refine r_aload rfl dc_1_10_76 ?_
          refine r_aload rfl dc_1_10_78 ?_
          obtain ⟨cs6, hf6, hev6⟩ := k_beyond M hM T e hF cs sg D n_9 _ _ (hAg n_9 hn_9) n_2 _ _ (hAg n_2 hn_2) (DJ_lo hJ (dvl_x (k := 6) (by decide) (by decide) hn_9)) (DJ_lo hJ (dvl_x (k := 6) (by decide) (by decide) hn_2)) (DJ_ne hJ (dvl_x (k := 4) (by decide) (by decide) hn_9) (dvl_x (k := 6) (by decide) (by decide) hn_2) (by omega)) (DJ_ne hJ (dvl_x (k := 4) (by decide) (by decide) hn_2) (dvl_x (k := 6) (by decide) (by decide) hn_9) (by omega)) (DJ_ne hJ (dvl_x (k := 5) (by decide) (by decide) hn_9) (dvl_x (k := 6) (by decide) (by decide) hn_2) (by omega)) (DJ_ne hJ (dvl_x (k := 5) (by decide) (by decide) hn_2) (dvl_x (k := 6) (by decide) (by decide) hn_9) (by omega)) (DJ_lo hJ (dvl_x (k := 4) (by decide) (by decide) hn_9)) (DJ_lo hJ (dvl_x (k := 4) (by decide) (by decide) hn_2)) (DJ_lo hJ (dvl_x (k := 5) (by decide) (by decide) hn_9)) (DJ_lo hJ (dvl_x (k := 5) (by decide) (by decide) hn_2))
          have hfc : FrC D nx cs cs6 := fun a h1 h2 => hf6 a (by omega) (h2 n_9 hn_9) (h2 n_2 hn_2)
          have heq := some_eq (wi := 0) (hRx n_9 hn_9).2.2.2.2.2.2.1 (hRx n_2 hn_2).2.2.2.2.2.2.1 (hRx n_9 hn_9).2.2.2.2.2.2.2 (hRx n_2 hn_2).2.2.2.2.2.2.2 (hCD n_9 hn_9).2.2.2.1 (hCD n_2 hn_2).2.2.2.1
          refine h_callv (t := cT e 15) (as := [.ref (D 4 n_9), .ref (D 4 n_2)]) (rest := []) (v := .int (pI (gFn (wc n_9) (wc n_2) (cn n_9) (cn n_2) 0))) (M1 := hk M T cs6) rfl rfl iv_0_v168 (Or.inl rfl) na_1_96 (hF 15 (by decide)) ⟨by omega, by omega⟩ (show (4 : Nat) < 14 by decide) o_96 rfl (show (0 : Nat) ≤ 8 by decide) dc_1_10_80 (mm_Ev_up (by decide : 6 ≤ 7) (hev6)) ?_
          refine r_ifeq (t := 90) (by decide) dc_1_10_83 (fun c_83 => ?_) (fun c_83 => ?_)
          · skip
            refine r_iconst (v := nI 1) (by decide) dc_1_10_90 ?_
            refine r_iret rfl dc_1_10_91 ?_
            obtain ⟨c4, c5, q, hr⟩ := c_terms_1 (hk M T cs6) hM io sg nx h4 hnx cm w hCD n_2 n_9 hn_2 hn_9
            rw [pI_t (fun y => pI_eq0 c_83 (heq.mpr y))] at hr
            refine ⟨_, _, io, _, nf, ny, tp, ⟨mm_Ev_up (by decide) (hr), CV_sc hV hfc (fun k h1 h2 => (up_o _ _ (by omega)).trans ((up_o _ _ (by omega)).trans (up_o _ _ (by omega)))) (fun k _ => rfl)⟩, rfl⟩
          · skip
            refine r_iconst (v := nI 0) (by decide) dc_1_10_86 ?_
            refine r_goto (t := 91) (by decide) dc_1_10_87 ?_
            refine r_iret rfl dc_1_10_91 ?_
            obtain ⟨c4, c5, q, hr⟩ := c_terms_1 (hk M T cs6) hM io sg nx h4 hnx cm w hCD n_2 n_9 hn_2 hn_9
            rw [pI_f (fun y => y (heq.mp (pI_ne c_83)))] at hr
            refine ⟨_, _, io, _, nf, ny, tp, ⟨mm_Ev_up (by decide) (hr), CV_sc hV hfc (fun k h1 h2 => (up_o _ _ (by omega)).trans ((up_o _ _ (by omega)).trans (up_o _ _ (by omega)))) (fun k _ => rfl)⟩, rfl⟩
        · skip
          refine h_callv (t := cT e 0) (as := [.int y]) (rest := []) (v := .null) (M1 := hk M T cs) rfl rfl iv_0_v157 (Or.inl rfl) na_1_85 (hF 0 (by decide)) ⟨by omega, by omega⟩ (show (0 : Nat) < 14 by decide) o_85 rfl (show (0 : Nat) ≤ 8 by decide) dc_1_10_9 (mm_Ev_up (by decide : 2 ≤ 7) (k_agAt_no hV y h_9)) ?_
          refine r_astoreZ (ls' := [(5, .null), (4, .ref (D 4 n_2)), (0, .ref 0), (1, .int (nI n_2)), (2, .int y), (3, .int (nI 1))]) (by decide) rfl dc_1_10_12 ?_
          refine r_aload rfl dc_1_10_14 ?_
          refine r_ifnull dc_1_10_16 ?_
          refine r_aloadZ rfl dc_1_10_19 ?_
          refine r_ifnonnullZ dc_1_10_21 ?_
          refine r_iconst (v := -1) (by decide) dc_1_10_24 ?_
          refine r_iret rfl dc_1_10_25 ?_
          refine ⟨_, _, io, sg, nf, ny, tp, ⟨mm_Ev_up (by decide) (c_terms_no (hk M T cs) hM io sg _ _ _ (fun g => h_9 (by rw [← h4]; exact g.2))), hV⟩, rfl⟩
      · skip
        refine h_callv (t := cT e 0) (as := [.int x]) (rest := []) (v := .null) (M1 := hk M T cs) rfl rfl iv_0_v157 (Or.inl rfl) na_1_85 (hF 0 (by decide)) ⟨by omega, by omega⟩ (show (0 : Nat) < 14 by decide) o_85 rfl (show (0 : Nat) ≤ 8 by decide) dc_1_10_2 (mm_Ev_up (by decide : 2 ≤ 7) (k_agAt_no hV x h_2)) ?_
        refine r_astoreZ (ls' := [(4, .null), (0, .ref 0), (1, .int x), (2, .int y), (3, .int (nI 1))]) (by decide) rfl dc_1_10_5 ?_
        refine r_aload_n rfl dc_1_10_7 ?_
        refine r_iload_n rfl dc_1_10_8 ?_
        by_cases h_9 : 0 ≤ y ∧ y < nI nx
        · skip
          obtain ⟨n_9, hn_9, e_9⟩ := g_lt h_9 (by omega)
          subst e_9
          refine h_callv (t := cT e 0) (as := [.int (nI n_9)]) (rest := []) (v := .ref (D 4 n_9)) (M1 := hk M T cs) rfl rfl iv_0_v157 (Or.inl rfl) na_1_85 (hF 0 (by decide)) ⟨by omega, by omega⟩ (show (0 : Nat) < 14 by decide) o_85 rfl (show (0 : Nat) ≤ 8 by decide) dc_1_10_9 (mm_Ev_up (by decide : 4 ≤ 7) (k_agAt_ok hV n_9 hn_9)) ?_
          refine r_astore (ls' := [(5, .ref (D 4 n_9)), (4, .null), (0, .ref 0), (1, .int x), (2, .int (nI n_9)), (3, .int (nI 1))]) (by decide) rfl dc_1_10_12 ?_
          refine r_aloadZ rfl dc_1_10_14 ?_
          refine r_ifnullZ (t := 24) (by decide) dc_1_10_16 ?_
          refine r_iconst (v := -1) (by decide) dc_1_10_24 ?_
          refine r_iret rfl dc_1_10_25 ?_
          refine ⟨_, _, io, sg, nf, ny, tp, ⟨mm_Ev_up (by decide) (c_terms_no (hk M T cs) hM io sg _ _ _ (fun g => h_2 (by rw [← h4]; exact g.1))), hV⟩, rfl⟩
        · skip
          refine h_callv (t := cT e 0) (as := [.int y]) (rest := []) (v := .null) (M1 := hk M T cs) rfl rfl iv_0_v157 (Or.inl rfl) na_1_85 (hF 0 (by decide)) ⟨by omega, by omega⟩ (show (0 : Nat) < 14 by decide) o_85 rfl (show (0 : Nat) ≤ 8 by decide) dc_1_10_9 (mm_Ev_up (by decide : 2 ≤ 7) (k_agAt_no hV y h_9)) ?_
          refine r_astoreZ (ls' := [(5, .null), (4, .null), (0, .ref 0), (1, .int x), (2, .int y), (3, .int (nI 1))]) (by decide) rfl dc_1_10_12 ?_
          refine r_aloadZ rfl dc_1_10_14 ?_
          refine r_ifnullZ (t := 24) (by decide) dc_1_10_16 ?_
          refine r_iconst (v := -1) (by decide) dc_1_10_24 ?_
          refine r_iret rfl dc_1_10_25 ?_
          refine ⟨_, _, io, sg, nf, ny, tp, ⟨mm_Ev_up (by decide) (c_terms_no (hk M T cs) hM io sg _ _ _ (fun g => h_2 (by rw [← h4]; exact g.1))), hV⟩, rfl⟩
    · skip
      refine r_aload_n rfl dc_1_10_0 ?_
      refine r_iload_n rfl dc_1_10_1 ?_
      by_cases h_2 : 0 ≤ x ∧ x < nI nx
      · skip
        obtain ⟨n_2, hn_2, e_2⟩ := g_lt h_2 (by omega)
        subst e_2
        refine h_callv (t := cT e 0) (as := [.int (nI n_2)]) (rest := []) (v := .ref (D 4 n_2)) (M1 := hk M T cs) rfl rfl iv_0_v157 (Or.inl rfl) na_1_85 (hF 0 (by decide)) ⟨by omega, by omega⟩ (show (0 : Nat) < 14 by decide) o_85 rfl (show (0 : Nat) ≤ 8 by decide) dc_1_10_2 (mm_Ev_up (by decide : 4 ≤ 7) (k_agAt_ok hV n_2 hn_2)) ?_
        refine r_astore (ls' := [(4, .ref (D 4 n_2)), (0, .ref 0), (1, .int (nI n_2)), (2, .int y), (3, .int (nI 2))]) (by decide) rfl dc_1_10_5 ?_
        refine r_aload_n rfl dc_1_10_7 ?_
        refine r_iload_n rfl dc_1_10_8 ?_
        by_cases h_9 : 0 ≤ y ∧ y < nI nx
        · skip
          obtain ⟨n_9, hn_9, e_9⟩ := g_lt h_9 (by omega)
          subst e_9
          refine h_callv (t := cT e 0) (as := [.int (nI n_9)]) (rest := []) (v := .ref (D 4 n_9)) (M1 := hk M T cs) rfl rfl iv_0_v157 (Or.inl rfl) na_1_85 (hF 0 (by decide)) ⟨by omega, by omega⟩ (show (0 : Nat) < 14 by decide) o_85 rfl (show (0 : Nat) ≤ 8 by decide) dc_1_10_9 (mm_Ev_up (by decide : 4 ≤ 7) (k_agAt_ok hV n_9 hn_9)) ?_
          refine r_astore (ls' := [(5, .ref (D 4 n_9)), (4, .ref (D 4 n_2)), (0, .ref 0), (1, .int (nI n_2)), (2, .int (nI n_9)), (3, .int (nI 2))]) (by decide) rfl dc_1_10_12 ?_
          refine r_aload rfl dc_1_10_14 ?_
          refine r_ifnull dc_1_10_16 ?_
          refine r_aload rfl dc_1_10_19 ?_
          refine r_ifnonnull (t := 26) (by decide) dc_1_10_21 ?_
          refine r_iload_n rfl dc_1_10_26 ?_
          refine r_swIn (off := 65) (t := 92) (by decide +kernel) (by decide +kernel) (by decide +kernel) (by decide) dc_1_10_27 ?_
          refine r_aload rfl dc_1_10_92 ?_
          refine r_aload rfl dc_1_10_94 ?_
          refine h_callv (t := (10, 0, rl [(9, D 6 n_2), (8, D 5 n_2)])) (as := [.ref (D 4 n_9)]) (rest := []) (v := .int (pI (sp_one sg n_2 n_9))) (M1 := hk M T cs) rfl rfl iv_0_v171 (Or.inl rfl) na_1_97 (hAg n_2 (by omega)).1 (hAg n_2 (by omega)).2.1 (show (10 : Nat) < 14 by decide) o_97 rfl (show (0 : Nat) ≤ 8 by decide) dc_1_10_96 (mm_Ev_up (by decide : 2 ≤ 7) (k_beside M T cs sg D n_2 _ _ (hAg n_2 hn_2) n_9 _ _ (hAg n_9 hn_9))) ?_
          refine r_ifeq (t := 120) (by decide) dc_1_10_99 (fun c_99 => ?_) (fun c_99 => ?_)
          · skip
            refine r_iconst (v := nI 0) (by decide) dc_1_10_120 ?_
            refine r_iret rfl dc_1_10_121 ?_
            obtain ⟨c4, c5, q, hr⟩ := c_terms_2 (hk M T cs) hM io sg nx h4 hnx cm w hCD n_2 n_9 hn_2 hn_9
            rw [pI_f (fun y => pI_eq0 c_99 y.1)] at hr
            refine ⟨_, _, io, _, nf, ny, tp, ⟨mm_Ev_up (by decide) (hr), CV_sc hV (FrC_r D nx _) (fun k h1 h2 => (up_o _ _ (by omega)).trans ((up_o _ _ (by omega)).trans (up_o _ _ (by omega)))) (fun k _ => rfl)⟩, rfl⟩
          · skip
            refine r_aload_n rfl dc_1_10_102 ?_
            refine h_get (t := cT e 0) (v := .ref 15) fx_0_47 (hF 0 (by decide)) ⟨by omega, by omega⟩ (rfl) dc_1_10_103 ?_
            refine r_aload rfl dc_1_10_106 ?_
            refine r_aload rfl dc_1_10_108 ?_
            obtain ⟨cs6, hf6, hev6⟩ := k_common M hM T e hF cs sg D n_2 _ _ (hAg n_2 hn_2) n_9 _ _ (hAg n_9 hn_9) (DJ_lo hJ (dvl_x (k := 6) (by decide) (by decide) hn_2)) (DJ_lo hJ (dvl_x (k := 6) (by decide) (by decide) hn_9)) (DJ_ne hJ (dvl_x (k := 4) (by decide) (by decide) hn_2) (dvl_x (k := 6) (by decide) (by decide) hn_9) (by omega)) (DJ_ne hJ (dvl_x (k := 4) (by decide) (by decide) hn_9) (dvl_x (k := 6) (by decide) (by decide) hn_2) (by omega)) (DJ_ne hJ (dvl_x (k := 5) (by decide) (by decide) hn_2) (dvl_x (k := 6) (by decide) (by decide) hn_9) (by omega)) (DJ_ne hJ (dvl_x (k := 5) (by decide) (by decide) hn_9) (dvl_x (k := 6) (by decide) (by decide) hn_2) (by omega)) (DJ_lo hJ (dvl_x (k := 4) (by decide) (by decide) hn_2)) (DJ_lo hJ (dvl_x (k := 4) (by decide) (by decide) hn_9)) (DJ_lo hJ (dvl_x (k := 5) (by decide) (by decide) hn_2)) (DJ_lo hJ (dvl_x (k := 5) (by decide) (by decide) hn_9))
            have hfc : FrC D nx cs cs6 := fun a h1 h2 => hf6 a (by omega) (h2 n_2 hn_2) (h2 n_9 hn_9)
            have heq := some_eq (wi := 1) (hRx n_2 hn_2).2.2.2.2.2.2.1 (hRx n_9 hn_9).2.2.2.2.2.2.1 (hRx n_2 hn_2).2.2.2.2.2.2.2 (hRx n_9 hn_9).2.2.2.2.2.2.2 (hCD n_2 hn_2).2.2.2.1 (hCD n_9 hn_9).2.2.2.1
            refine h_callv (t := cT e 15) (as := [.ref (D 4 n_2), .ref (D 4 n_9)]) (rest := []) (v := .int (pI (gFn (wc n_2) (wc n_9) (cn n_2) (cn n_9) 1))) (M1 := hk M T cs6) rfl rfl iv_0_v164 (Or.inl rfl) na_1_91 (hF 15 (by decide)) ⟨by omega, by omega⟩ (show (4 : Nat) < 14 by decide) o_91 rfl (show (0 : Nat) ≤ 8 by decide) dc_1_10_110 (mm_Ev_up (by decide : 6 ≤ 7) (hev6)) ?_
            refine r_ifne (t := 120) (by decide) dc_1_10_113 (fun c_113 => ?_) (fun c_113 => ?_)
            · skip
              refine r_iconst (v := nI 0) (by decide) dc_1_10_120 ?_
              refine r_iret rfl dc_1_10_121 ?_
              obtain ⟨c4, c5, q, hr⟩ := c_terms_2 (hk M T cs6) hM io sg nx h4 hnx cm w hCD n_2 n_9 hn_2 hn_9
              rw [pI_f (fun y => y.2 (heq.mp (pI_ne c_113)))] at hr
              refine ⟨_, _, io, _, nf, ny, tp, ⟨mm_Ev_up (by decide) (hr), CV_sc hV hfc (fun k h1 h2 => (up_o _ _ (by omega)).trans ((up_o _ _ (by omega)).trans (up_o _ _ (by omega)))) (fun k _ => rfl)⟩, rfl⟩
            · skip
              refine r_iconst (v := nI 1) (by decide) dc_1_10_116 ?_
              refine r_goto (t := 121) (by decide) dc_1_10_117 ?_
              refine r_iret rfl dc_1_10_121 ?_
              obtain ⟨c4, c5, q, hr⟩ := c_terms_2 (hk M T cs6) hM io sg nx h4 hnx cm w hCD n_2 n_9 hn_2 hn_9
              rw [pI_t ⟨pI_ne c_99, fun y => pI_eq0 c_113 (heq.mpr y)⟩] at hr
              refine ⟨_, _, io, _, nf, ny, tp, ⟨mm_Ev_up (by decide) (hr), CV_sc hV hfc (fun k h1 h2 => (up_o _ _ (by omega)).trans ((up_o _ _ (by omega)).trans (up_o _ _ (by omega)))) (fun k _ => rfl)⟩, rfl⟩
        · skip
          refine h_callv (t := cT e 0) (as := [.int y]) (rest := []) (v := .null) (M1 := hk M T cs) rfl rfl iv_0_v157 (Or.inl rfl) na_1_85 (hF 0 (by decide)) ⟨by omega, by omega⟩ (show (0 : Nat) < 14 by decide) o_85 rfl (show (0 : Nat) ≤ 8 by decide) dc_1_10_9 (mm_Ev_up (by decide : 2 ≤ 7) (k_agAt_no hV y h_9)) ?_
          refine r_astoreZ (ls' := [(5, .null), (4, .ref (D 4 n_2)), (0, .ref 0), (1, .int (nI n_2)), (2, .int y), (3, .int (nI 2))]) (by decide) rfl dc_1_10_12 ?_
          refine r_aload rfl dc_1_10_14 ?_
          refine r_ifnull dc_1_10_16 ?_
          refine r_aloadZ rfl dc_1_10_19 ?_
          refine r_ifnonnullZ dc_1_10_21 ?_
          refine r_iconst (v := -1) (by decide) dc_1_10_24 ?_
          refine r_iret rfl dc_1_10_25 ?_
          refine ⟨_, _, io, sg, nf, ny, tp, ⟨mm_Ev_up (by decide) (c_terms_no (hk M T cs) hM io sg _ _ _ (fun g => h_9 (by rw [← h4]; exact g.2))), hV⟩, rfl⟩
      · skip
        refine h_callv (t := cT e 0) (as := [.int x]) (rest := []) (v := .null) (M1 := hk M T cs) rfl rfl iv_0_v157 (Or.inl rfl) na_1_85 (hF 0 (by decide)) ⟨by omega, by omega⟩ (show (0 : Nat) < 14 by decide) o_85 rfl (show (0 : Nat) ≤ 8 by decide) dc_1_10_2 (mm_Ev_up (by decide : 2 ≤ 7) (k_agAt_no hV x h_2)) ?_
        refine r_astoreZ (ls' := [(4, .null), (0, .ref 0), (1, .int x), (2, .int y), (3, .int (nI 2))]) (by decide) rfl dc_1_10_5 ?_
        refine r_aload_n rfl dc_1_10_7 ?_
        refine r_iload_n rfl dc_1_10_8 ?_
        by_cases h_9 : 0 ≤ y ∧ y < nI nx
        · skip
          obtain ⟨n_9, hn_9, e_9⟩ := g_lt h_9 (by omega)
          subst e_9
          refine h_callv (t := cT e 0) (as := [.int (nI n_9)]) (rest := []) (v := .ref (D 4 n_9)) (M1 := hk M T cs) rfl rfl iv_0_v157 (Or.inl rfl) na_1_85 (hF 0 (by decide)) ⟨by omega, by omega⟩ (show (0 : Nat) < 14 by decide) o_85 rfl (show (0 : Nat) ≤ 8 by decide) dc_1_10_9 (mm_Ev_up (by decide : 4 ≤ 7) (k_agAt_ok hV n_9 hn_9)) ?_
          refine r_astore (ls' := [(5, .ref (D 4 n_9)), (4, .null), (0, .ref 0), (1, .int x), (2, .int (nI n_9)), (3, .int (nI 2))]) (by decide) rfl dc_1_10_12 ?_
          refine r_aloadZ rfl dc_1_10_14 ?_
          refine r_ifnullZ (t := 24) (by decide) dc_1_10_16 ?_
          refine r_iconst (v := -1) (by decide) dc_1_10_24 ?_
          refine r_iret rfl dc_1_10_25 ?_
          refine ⟨_, _, io, sg, nf, ny, tp, ⟨mm_Ev_up (by decide) (c_terms_no (hk M T cs) hM io sg _ _ _ (fun g => h_2 (by rw [← h4]; exact g.1))), hV⟩, rfl⟩
        · skip
          refine h_callv (t := cT e 0) (as := [.int y]) (rest := []) (v := .null) (M1 := hk M T cs) rfl rfl iv_0_v157 (Or.inl rfl) na_1_85 (hF 0 (by decide)) ⟨by omega, by omega⟩ (show (0 : Nat) < 14 by decide) o_85 rfl (show (0 : Nat) ≤ 8 by decide) dc_1_10_9 (mm_Ev_up (by decide : 2 ≤ 7) (k_agAt_no hV y h_9)) ?_
          refine r_astoreZ (ls' := [(5, .null), (4, .null), (0, .ref 0), (1, .int x), (2, .int y), (3, .int (nI 2))]) (by decide) rfl dc_1_10_12 ?_
          refine r_aloadZ rfl dc_1_10_14 ?_
          refine r_ifnullZ (t := 24) (by decide) dc_1_10_16 ?_
          refine r_iconst (v := -1) (by decide) dc_1_10_24 ?_
          refine r_iret rfl dc_1_10_25 ?_
          refine ⟨_, _, io, sg, nf, ny, tp, ⟨mm_Ev_up (by decide) (c_terms_no (hk M T cs) hM io sg _ _ _ (fun g => h_2 (by rw [← h4]; exact g.1))), hV⟩, rfl⟩
    · skip
      refine r_aload_n rfl dc_1_10_0 ?_
      refine r_iload_n rfl dc_1_10_1 ?_
      by_cases h_2 : 0 ≤ x ∧ x < nI nx
      · skip
        obtain ⟨n_2, hn_2, e_2⟩ := g_lt h_2 (by omega)
        subst e_2
        refine h_callv (t := cT e 0) (as := [.int (nI n_2)]) (rest := []) (v := .ref (D 4 n_2)) (M1 := hk M T cs) rfl rfl iv_0_v157 (Or.inl rfl) na_1_85 (hF 0 (by decide)) ⟨by omega, by omega⟩ (show (0 : Nat) < 14 by decide) o_85 rfl (show (0 : Nat) ≤ 8 by decide) dc_1_10_2 (mm_Ev_up (by decide : 4 ≤ 7) (k_agAt_ok hV n_2 hn_2)) ?_
        refine r_astore (ls' := [(4, .ref (D 4 n_2)), (0, .ref 0), (1, .int (nI n_2)), (2, .int y), (3, .int wh)]) (by decide) rfl dc_1_10_5 ?_
        refine r_aload_n rfl dc_1_10_7 ?_
        refine r_iload_n rfl dc_1_10_8 ?_
        by_cases h_9 : 0 ≤ y ∧ y < nI nx
        · skip
          obtain ⟨n_9, hn_9, e_9⟩ := g_lt h_9 (by omega)
          subst e_9
          refine h_callv (t := cT e 0) (as := [.int (nI n_9)]) (rest := []) (v := .ref (D 4 n_9)) (M1 := hk M T cs) rfl rfl iv_0_v157 (Or.inl rfl) na_1_85 (hF 0 (by decide)) ⟨by omega, by omega⟩ (show (0 : Nat) < 14 by decide) o_85 rfl (show (0 : Nat) ≤ 8 by decide) dc_1_10_9 (mm_Ev_up (by decide : 4 ≤ 7) (k_agAt_ok hV n_9 hn_9)) ?_
          refine r_astore (ls' := [(5, .ref (D 4 n_9)), (4, .ref (D 4 n_2)), (0, .ref 0), (1, .int (nI n_2)), (2, .int (nI n_9)), (3, .int wh)]) (by decide) rfl dc_1_10_12 ?_
          refine r_aload rfl dc_1_10_14 ?_
          refine r_ifnull dc_1_10_16 ?_
          refine r_aload rfl dc_1_10_19 ?_
          refine r_ifnonnull (t := 26) (by decide) dc_1_10_21 ?_
          refine r_iload_n rfl dc_1_10_26 ?_
          refine r_swOut (t := 122) (hw) (by decide) dc_1_10_27 ?_
          refine r_iconst (v := -1) (by decide) dc_1_10_122 ?_
          refine r_iret rfl dc_1_10_123 ?_
          refine ⟨_, _, io, sg, nf, ny, tp, ⟨mm_Ev_up (by decide) (c_terms_x (hk M T cs) hM io sg nx h4 hnx n_2 n_9 wh hn_2 hn_9 hw), hV⟩, rfl⟩
        · skip
          refine h_callv (t := cT e 0) (as := [.int y]) (rest := []) (v := .null) (M1 := hk M T cs) rfl rfl iv_0_v157 (Or.inl rfl) na_1_85 (hF 0 (by decide)) ⟨by omega, by omega⟩ (show (0 : Nat) < 14 by decide) o_85 rfl (show (0 : Nat) ≤ 8 by decide) dc_1_10_9 (mm_Ev_up (by decide : 2 ≤ 7) (k_agAt_no hV y h_9)) ?_
          refine r_astoreZ (ls' := [(5, .null), (4, .ref (D 4 n_2)), (0, .ref 0), (1, .int (nI n_2)), (2, .int y), (3, .int wh)]) (by decide) rfl dc_1_10_12 ?_
          refine r_aload rfl dc_1_10_14 ?_
          refine r_ifnull dc_1_10_16 ?_
          refine r_aloadZ rfl dc_1_10_19 ?_
          refine r_ifnonnullZ dc_1_10_21 ?_
          refine r_iconst (v := -1) (by decide) dc_1_10_24 ?_
          refine r_iret rfl dc_1_10_25 ?_
          refine ⟨_, _, io, sg, nf, ny, tp, ⟨mm_Ev_up (by decide) (c_terms_no (hk M T cs) hM io sg _ _ _ (fun g => h_9 (by rw [← h4]; exact g.2))), hV⟩, rfl⟩
      · skip
        refine h_callv (t := cT e 0) (as := [.int x]) (rest := []) (v := .null) (M1 := hk M T cs) rfl rfl iv_0_v157 (Or.inl rfl) na_1_85 (hF 0 (by decide)) ⟨by omega, by omega⟩ (show (0 : Nat) < 14 by decide) o_85 rfl (show (0 : Nat) ≤ 8 by decide) dc_1_10_2 (mm_Ev_up (by decide : 2 ≤ 7) (k_agAt_no hV x h_2)) ?_
        refine r_astoreZ (ls' := [(4, .null), (0, .ref 0), (1, .int x), (2, .int y), (3, .int wh)]) (by decide) rfl dc_1_10_5 ?_
        refine r_aload_n rfl dc_1_10_7 ?_
        refine r_iload_n rfl dc_1_10_8 ?_
        by_cases h_9 : 0 ≤ y ∧ y < nI nx
        · skip
          obtain ⟨n_9, hn_9, e_9⟩ := g_lt h_9 (by omega)
          subst e_9
          refine h_callv (t := cT e 0) (as := [.int (nI n_9)]) (rest := []) (v := .ref (D 4 n_9)) (M1 := hk M T cs) rfl rfl iv_0_v157 (Or.inl rfl) na_1_85 (hF 0 (by decide)) ⟨by omega, by omega⟩ (show (0 : Nat) < 14 by decide) o_85 rfl (show (0 : Nat) ≤ 8 by decide) dc_1_10_9 (mm_Ev_up (by decide : 4 ≤ 7) (k_agAt_ok hV n_9 hn_9)) ?_
          refine r_astore (ls' := [(5, .ref (D 4 n_9)), (4, .null), (0, .ref 0), (1, .int x), (2, .int (nI n_9)), (3, .int wh)]) (by decide) rfl dc_1_10_12 ?_
          refine r_aloadZ rfl dc_1_10_14 ?_
          refine r_ifnullZ (t := 24) (by decide) dc_1_10_16 ?_
          refine r_iconst (v := -1) (by decide) dc_1_10_24 ?_
          refine r_iret rfl dc_1_10_25 ?_
          refine ⟨_, _, io, sg, nf, ny, tp, ⟨mm_Ev_up (by decide) (c_terms_no (hk M T cs) hM io sg _ _ _ (fun g => h_2 (by rw [← h4]; exact g.1))), hV⟩, rfl⟩
        · skip
          refine h_callv (t := cT e 0) (as := [.int y]) (rest := []) (v := .null) (M1 := hk M T cs) rfl rfl iv_0_v157 (Or.inl rfl) na_1_85 (hF 0 (by decide)) ⟨by omega, by omega⟩ (show (0 : Nat) < 14 by decide) o_85 rfl (show (0 : Nat) ≤ 8 by decide) dc_1_10_9 (mm_Ev_up (by decide : 2 ≤ 7) (k_agAt_no hV y h_9)) ?_
          refine r_astoreZ (ls' := [(5, .null), (4, .null), (0, .ref 0), (1, .int x), (2, .int y), (3, .int wh)]) (by decide) rfl dc_1_10_12 ?_
          refine r_aloadZ rfl dc_1_10_14 ?_
          refine r_ifnullZ (t := 24) (by decide) dc_1_10_16 ?_
          refine r_iconst (v := -1) (by decide) dc_1_10_24 ?_
          refine r_iret rfl dc_1_10_25 ?_
          refine ⟨_, _, io, sg, nf, ny, tp, ⟨mm_Ev_up (by decide) (c_terms_no (hk M T cs) hM io sg _ _ _ (fun g => h_2 (by rw [← h4]; exact g.1))), hV⟩, rfl⟩
  obtain ⟨z9, ⟨v, cs2, io2, sg2, nf2, ny2, tp2, p9, e9⟩, h9⟩ := hq9
  subst e9
  exact ⟨v, cs2, io2, sg2, nf2, ny2, tp2, p9, h9⟩
theorem st_terms (x y wh : Int32) : StpN 90 214 [.int x, .int y, .int wh] := fun M T cs sg io e D nh nx ns nf ny tp cm w cn wc hV => by
  obtain ⟨v, cs2, io2, sg2, nf2, ny2, tp2, hp, h⟩ := s_terms hV x y wh
  exact ⟨v, cs2, io2, sg2, nf2, ny2, tp2, hp, mm_Ev_up (by decide) h⟩
