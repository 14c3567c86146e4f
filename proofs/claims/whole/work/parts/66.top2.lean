/-! the whole: days -/
theorem dc_1_49_0 : decode prog_1_method_49_code 0 = .ok (.aload_n 0, 1) := by decide +kernel
theorem dc_1_49_1 : decode prog_1_method_49_code 1 = .ok (.iload_n 1, 1) := by decide +kernel
theorem dc_1_49_2 : decode prog_1_method_49_code 2 = .ok (.invokevirtual 128, 3) := by decide +kernel
theorem dc_1_49_5 : decode prog_1_method_49_code 5 = .ok (.astore_n 3, 1) := by decide +kernel
theorem dc_1_49_6 : decode prog_1_method_49_code 6 = .ok (.aload_n 3, 1) := by decide +kernel
theorem dc_1_49_7 : decode prog_1_method_49_code 7 = .ok (.ifnonnull 5, 3) := by decide +kernel
theorem dc_1_49_10 : decode prog_1_method_49_code 10 = .ok (.iconst (-1), 1) := by decide +kernel
theorem dc_1_49_11 : decode prog_1_method_49_code 11 = .ok (.ireturn, 1) := by decide +kernel
theorem dc_1_49_12 : decode prog_1_method_49_code 12 = .ok (.iload_n 2, 1) := by decide +kernel
theorem dc_1_49_13 : decode prog_1_method_49_code 13 = .ok (.iconst 1, 1) := by decide +kernel
theorem dc_1_49_14 : decode prog_1_method_49_code 14 = .ok (.if_icmp .ne 8, 3) := by decide +kernel
theorem dc_1_49_17 : decode prog_1_method_49_code 17 = .ok (.aload_n 3, 1) := by decide +kernel
theorem dc_1_49_18 : decode prog_1_method_49_code 18 = .ok (.getfield 132, 3) := by decide +kernel
theorem dc_1_49_21 : decode prog_1_method_49_code 21 = .ok (.ireturn, 1) := by decide +kernel
theorem dc_1_49_22 : decode prog_1_method_49_code 22 = .ok (.iload_n 2, 1) := by decide +kernel
theorem dc_1_49_23 : decode prog_1_method_49_code 23 = .ok (.iconst 2, 1) := by decide +kernel
theorem dc_1_49_24 : decode prog_1_method_49_code 24 = .ok (.if_icmp .ne 11, 3) := by decide +kernel
theorem dc_1_49_27 : decode prog_1_method_49_code 27 = .ok (.aload_n 0, 1) := by decide +kernel
theorem dc_1_49_28 : decode prog_1_method_49_code 28 = .ok (.iload_n 1, 1) := by decide +kernel
theorem dc_1_49_29 : decode prog_1_method_49_code 29 = .ok (.invokevirtual 404, 3) := by decide +kernel
theorem dc_1_49_32 : decode prog_1_method_49_code 32 = .ok (.goto 12, 3) := by decide +kernel
theorem dc_1_49_35 : decode prog_1_method_49_code 35 = .ok (.aload_n 3, 1) := by decide +kernel
theorem dc_1_49_36 : decode prog_1_method_49_code 36 = .ok (.getfield 221, 3) := by decide +kernel
theorem dc_1_49_39 : decode prog_1_method_49_code 39 = .ok (.invokeinterface 113 1, 5) := by decide +kernel
theorem dc_1_49_44 : decode prog_1_method_49_code 44 = .ok (.ireturn, 1) := by decide +kernel
theorem dc_1_50_0 : decode prog_1_method_50_code 0 = .ok (.iload_n 3, 1) := by decide +kernel
theorem dc_1_50_1 : decode prog_1_method_50_code 1 = .ok (.iconst (-1), 1) := by decide +kernel
theorem dc_1_50_2 : decode prog_1_method_50_code 2 = .ok (.if_icmp .eq 17, 3) := by decide +kernel
theorem dc_1_50_5 : decode prog_1_method_50_code 5 = .ok (.iload_n 3, 1) := by decide +kernel
theorem dc_1_50_6 : decode prog_1_method_50_code 6 = .ok (.aload_n 1, 1) := by decide +kernel
theorem dc_1_50_7 : decode prog_1_method_50_code 7 = .ok (.getfield 407, 3) := by decide +kernel
theorem dc_1_50_10 : decode prog_1_method_50_code 10 = .ok (.if_icmp .gt 7, 3) := by decide +kernel
theorem dc_1_50_13 : decode prog_1_method_50_code 13 = .ok (.iconst 2, 1) := by decide +kernel
theorem dc_1_50_14 : decode prog_1_method_50_code 14 = .ok (.goto 4, 3) := by decide +kernel
theorem dc_1_50_17 : decode prog_1_method_50_code 17 = .ok (.iconst 0, 1) := by decide +kernel
theorem dc_1_50_18 : decode prog_1_method_50_code 18 = .ok (.ireturn, 1) := by decide +kernel
theorem dc_1_50_19 : decode prog_1_method_50_code 19 = .ok (.iload_n 2, 1) := by decide +kernel
theorem dc_1_50_20 : decode prog_1_method_50_code 20 = .ok (.iconst (-1), 1) := by decide +kernel
theorem dc_1_50_21 : decode prog_1_method_50_code 21 = .ok (.if_icmp .eq 33, 3) := by decide +kernel
theorem dc_1_50_24 : decode prog_1_method_50_code 24 = .ok (.aload_n 1, 1) := by decide +kernel
theorem dc_1_50_25 : decode prog_1_method_50_code 25 = .ok (.getfield 267, 3) := by decide +kernel
theorem dc_1_50_28 : decode prog_1_method_50_code 28 = .ok (.iconst 0, 1) := by decide +kernel
theorem dc_1_50_29 : decode prog_1_method_50_code 29 = .ok (.iconst 3, 1) := by decide +kernel
theorem dc_1_50_30 : decode prog_1_method_50_code 30 = .ok (.invokestatic 84, 3) := by decide +kernel
theorem dc_1_50_33 : decode prog_1_method_50_code 33 = .ok (.ifCond .eq 21, 3) := by decide +kernel
theorem dc_1_50_36 : decode prog_1_method_50_code 36 = .ok (.iload_n 2, 1) := by decide +kernel
theorem dc_1_50_37 : decode prog_1_method_50_code 37 = .ok (.aload_n 0, 1) := by decide +kernel
theorem dc_1_50_38 : decode prog_1_method_50_code 38 = .ok (.getfield 13, 3) := by decide +kernel
theorem dc_1_50_41 : decode prog_1_method_50_code 41 = .ok (.aload_n 1, 1) := by decide +kernel
theorem dc_1_50_42 : decode prog_1_method_50_code 42 = .ok (.getfield 267, 3) := by decide +kernel
theorem dc_1_50_45 : decode prog_1_method_50_code 45 = .ok (.iaload, 1) := by decide +kernel
theorem dc_1_50_46 : decode prog_1_method_50_code 46 = .ok (.iadd, 1) := by decide +kernel
theorem dc_1_50_47 : decode prog_1_method_50_code 47 = .ok (.aload_n 1, 1) := by decide +kernel
theorem dc_1_50_48 : decode prog_1_method_50_code 48 = .ok (.getfield 407, 3) := by decide +kernel
theorem dc_1_50_51 : decode prog_1_method_50_code 51 = .ok (.if_icmp .le 5, 3) := by decide +kernel
theorem dc_1_50_54 : decode prog_1_method_50_code 54 = .ok (.iconst 0, 1) := by decide +kernel
theorem dc_1_50_55 : decode prog_1_method_50_code 55 = .ok (.ireturn, 1) := by decide +kernel
theorem dc_1_50_56 : decode prog_1_method_50_code 56 = .ok (.iload_n 2, 1) := by decide +kernel
theorem dc_1_50_57 : decode prog_1_method_50_code 57 = .ok (.aload_n 0, 1) := by decide +kernel
theorem dc_1_50_58 : decode prog_1_method_50_code 58 = .ok (.getfield 17, 3) := by decide +kernel
theorem dc_1_50_61 : decode prog_1_method_50_code 61 = .ok (.aload_n 1, 1) := by decide +kernel
theorem dc_1_50_62 : decode prog_1_method_50_code 62 = .ok (.getfield 267, 3) := by decide +kernel
theorem dc_1_50_65 : decode prog_1_method_50_code 65 = .ok (.iaload, 1) := by decide +kernel
theorem dc_1_50_66 : decode prog_1_method_50_code 66 = .ok (.iadd, 1) := by decide +kernel
theorem dc_1_50_67 : decode prog_1_method_50_code 67 = .ok (.aload_n 1, 1) := by decide +kernel
theorem dc_1_50_68 : decode prog_1_method_50_code 68 = .ok (.getfield 407, 3) := by decide +kernel
theorem dc_1_50_71 : decode prog_1_method_50_code 71 = .ok (.if_icmp .gt 7, 3) := by decide +kernel
theorem dc_1_50_74 : decode prog_1_method_50_code 74 = .ok (.iconst 2, 1) := by decide +kernel
theorem dc_1_50_75 : decode prog_1_method_50_code 75 = .ok (.goto 4, 3) := by decide +kernel
theorem dc_1_50_78 : decode prog_1_method_50_code 78 = .ok (.iconst 1, 1) := by decide +kernel
theorem dc_1_50_79 : decode prog_1_method_50_code 79 = .ok (.ireturn, 1) := by decide +kernel
theorem dc_1_51_0 : decode prog_1_method_51_code 0 = .ok (.aload_n 0, 1) := by decide +kernel
theorem dc_1_51_1 : decode prog_1_method_51_code 1 = .ok (.getfield 54, 3) := by decide +kernel
theorem dc_1_51_4 : decode prog_1_method_51_code 4 = .ok (.iload_n 1, 1) := by decide +kernel
theorem dc_1_51_5 : decode prog_1_method_51_code 5 = .ok (.iconst 2, 1) := by decide +kernel
theorem dc_1_51_6 : decode prog_1_method_51_code 6 = .ok (.iload_n 3, 1) := by decide +kernel
theorem dc_1_51_7 : decode prog_1_method_51_code 7 = .ok (.invokevirtual 258, 3) := by decide +kernel
theorem dc_1_51_10 : decode prog_1_method_51_code 10 = .ok (.istore 4, 2) := by decide +kernel
theorem dc_1_51_12 : decode prog_1_method_51_code 12 = .ok (.iload 4, 2) := by decide +kernel
theorem dc_1_51_14 : decode prog_1_method_51_code 14 = .ok (.iconst (-1), 1) := by decide +kernel
theorem dc_1_51_15 : decode prog_1_method_51_code 15 = .ok (.if_icmp .ne 9, 3) := by decide +kernel
theorem dc_1_51_18 : decode prog_1_method_51_code 18 = .ok (.sipush 360, 3) := by decide +kernel
theorem dc_1_51_21 : decode prog_1_method_51_code 21 = .ok (.goto 12, 3) := by decide +kernel
theorem dc_1_51_24 : decode prog_1_method_51_code 24 = .ok (.iload 4, 2) := by decide +kernel
theorem dc_1_51_26 : decode prog_1_method_51_code 26 = .ok (.aload_n 2, 1) := by decide +kernel
theorem dc_1_51_27 : decode prog_1_method_51_code 27 = .ok (.getfield 407, 3) := by decide +kernel
theorem dc_1_51_30 : decode prog_1_method_51_code 30 = .ok (.invokestatic 410, 3) := by decide +kernel
theorem dc_1_51_33 : decode prog_1_method_51_code 33 = .ok (.ireturn, 1) := by decide +kernel
theorem dc_1_52_0 : decode prog_1_method_52_code 0 = .ok (.aload_n 0, 1) := by decide +kernel
theorem dc_1_52_1 : decode prog_1_method_52_code 1 = .ok (.getfield 54, 3) := by decide +kernel
theorem dc_1_52_4 : decode prog_1_method_52_code 4 = .ok (.iload_n 1, 1) := by decide +kernel
theorem dc_1_52_5 : decode prog_1_method_52_code 5 = .ok (.iconst 3, 1) := by decide +kernel
theorem dc_1_52_6 : decode prog_1_method_52_code 6 = .ok (.iload_n 3, 1) := by decide +kernel
theorem dc_1_52_7 : decode prog_1_method_52_code 7 = .ok (.invokevirtual 258, 3) := by decide +kernel
theorem dc_1_52_10 : decode prog_1_method_52_code 10 = .ok (.istore 4, 2) := by decide +kernel
theorem dc_1_52_12 : decode prog_1_method_52_code 12 = .ok (.iload 4, 2) := by decide +kernel
theorem dc_1_52_14 : decode prog_1_method_52_code 14 = .ok (.iconst (-1), 1) := by decide +kernel
theorem dc_1_52_15 : decode prog_1_method_52_code 15 = .ok (.if_icmp .ne 12, 3) := by decide +kernel
theorem dc_1_52_18 : decode prog_1_method_52_code 18 = .ok (.aload_n 2, 1) := by decide +kernel
theorem dc_1_52_19 : decode prog_1_method_52_code 19 = .ok (.getfield 415, 3) := by decide +kernel
theorem dc_1_52_22 : decode prog_1_method_52_code 22 = .ok (.iconst 1, 1) := by decide +kernel
theorem dc_1_52_23 : decode prog_1_method_52_code 23 = .ok (.iadd, 1) := by decide +kernel
theorem dc_1_52_24 : decode prog_1_method_52_code 24 = .ok (.goto 14, 3) := by decide +kernel
theorem dc_1_52_27 : decode prog_1_method_52_code 27 = .ok (.iload 4, 2) := by decide +kernel
theorem dc_1_52_29 : decode prog_1_method_52_code 29 = .ok (.aload_n 2, 1) := by decide +kernel
theorem dc_1_52_30 : decode prog_1_method_52_code 30 = .ok (.getfield 415, 3) := by decide +kernel
theorem dc_1_52_33 : decode prog_1_method_52_code 33 = .ok (.iconst 1, 1) := by decide +kernel
theorem dc_1_52_34 : decode prog_1_method_52_code 34 = .ok (.iadd, 1) := by decide +kernel
theorem dc_1_52_35 : decode prog_1_method_52_code 35 = .ok (.invokestatic 418, 3) := by decide +kernel
theorem dc_1_52_38 : decode prog_1_method_52_code 38 = .ok (.ireturn, 1) := by decide +kernel
theorem dc_1_53_0 : decode prog_1_method_53_code 0 = .ok (.iconst 0, 1) := by decide +kernel
theorem dc_1_53_1 : decode prog_1_method_53_code 1 = .ok (.aload_n 0, 1) := by decide +kernel
theorem dc_1_53_2 : decode prog_1_method_53_code 2 = .ok (.iload_n 1, 1) := by decide +kernel
theorem dc_1_53_3 : decode prog_1_method_53_code 3 = .ok (.aload_n 2, 1) := by decide +kernel
theorem dc_1_53_4 : decode prog_1_method_53_code 4 = .ok (.iload_n 3, 1) := by decide +kernel
theorem dc_1_53_5 : decode prog_1_method_53_code 5 = .ok (.invokevirtual 421, 3) := by decide +kernel
theorem dc_1_53_8 : decode prog_1_method_53_code 8 = .ok (.aload_n 0, 1) := by decide +kernel
theorem dc_1_53_9 : decode prog_1_method_53_code 9 = .ok (.iload_n 1, 1) := by decide +kernel
theorem dc_1_53_10 : decode prog_1_method_53_code 10 = .ok (.aload_n 2, 1) := by decide +kernel
theorem dc_1_53_11 : decode prog_1_method_53_code 11 = .ok (.iload_n 3, 1) := by decide +kernel
theorem dc_1_53_12 : decode prog_1_method_53_code 12 = .ok (.invokevirtual 424, 3) := by decide +kernel
theorem dc_1_53_15 : decode prog_1_method_53_code 15 = .ok (.isub, 1) := by decide +kernel
theorem dc_1_53_16 : decode prog_1_method_53_code 16 = .ok (.invokestatic 410, 3) := by decide +kernel
theorem dc_1_53_19 : decode prog_1_method_53_code 19 = .ok (.ireturn, 1) := by decide +kernel
theorem dc_1_54_0 : decode prog_1_method_54_code 0 = .ok (.aload_n 0, 1) := by decide +kernel
theorem dc_1_54_1 : decode prog_1_method_54_code 1 = .ok (.getfield 20, 3) := by decide +kernel
theorem dc_1_54_4 : decode prog_1_method_54_code 4 = .ok (.iconst 0, 1) := by decide +kernel
theorem dc_1_54_5 : decode prog_1_method_54_code 5 = .ok (.invokestatic 78, 3) := by decide +kernel
theorem dc_1_54_8 : decode prog_1_method_54_code 8 = .ok (.iconst 0, 1) := by decide +kernel
theorem dc_1_54_9 : decode prog_1_method_54_code 9 = .ok (.istore 4, 2) := by decide +kernel
theorem dc_1_54_11 : decode prog_1_method_54_code 11 = .ok (.iload 4, 2) := by decide +kernel
theorem dc_1_54_13 : decode prog_1_method_54_code 13 = .ok (.aload_n 0, 1) := by decide +kernel
theorem dc_1_54_14 : decode prog_1_method_54_code 14 = .ok (.getfield 68, 3) := by decide +kernel
theorem dc_1_54_17 : decode prog_1_method_54_code 17 = .ok (.invokeinterface 113 1, 5) := by decide +kernel
theorem dc_1_54_22 : decode prog_1_method_54_code 22 = .ok (.if_icmp .ge 84, 3) := by decide +kernel
theorem dc_1_54_25 : decode prog_1_method_54_code 25 = .ok (.aload_n 0, 1) := by decide +kernel
theorem dc_1_54_26 : decode prog_1_method_54_code 26 = .ok (.getfield 68, 3) := by decide +kernel
theorem dc_1_54_29 : decode prog_1_method_54_code 29 = .ok (.iload 4, 2) := by decide +kernel
theorem dc_1_54_31 : decode prog_1_method_54_code 31 = .ok (.invokeinterface 227 2, 5) := by decide +kernel
theorem dc_1_54_36 : decode prog_1_method_54_code 36 = .ok (.checkcast 175, 3) := by decide +kernel
theorem dc_1_54_39 : decode prog_1_method_54_code 39 = .ok (.invokevirtual 261, 3) := by decide +kernel
theorem dc_1_54_42 : decode prog_1_method_54_code 42 = .ok (.iload_n 1, 1) := by decide +kernel
theorem dc_1_54_43 : decode prog_1_method_54_code 43 = .ok (.if_icmp .ne 57, 3) := by decide +kernel
theorem dc_1_54_46 : decode prog_1_method_54_code 46 = .ok (.sipush 360, 3) := by decide +kernel
theorem dc_1_54_49 : decode prog_1_method_54_code 49 = .ok (.aload_n 0, 1) := by decide +kernel
theorem dc_1_54_50 : decode prog_1_method_54_code 50 = .ok (.iload 4, 2) := by decide +kernel
theorem dc_1_54_52 : decode prog_1_method_54_code 52 = .ok (.aload_n 2, 1) := by decide +kernel
theorem dc_1_54_53 : decode prog_1_method_54_code 53 = .ok (.iload_n 3, 1) := by decide +kernel
theorem dc_1_54_54 : decode prog_1_method_54_code 54 = .ok (.invokevirtual 421, 3) := by decide +kernel
theorem dc_1_54_57 : decode prog_1_method_54_code 57 = .ok (.invokestatic 418, 3) := by decide +kernel
theorem dc_1_54_60 : decode prog_1_method_54_code 60 = .ok (.istore 5, 2) := by decide +kernel
theorem dc_1_54_62 : decode prog_1_method_54_code 62 = .ok (.iconst 0, 1) := by decide +kernel
theorem dc_1_54_63 : decode prog_1_method_54_code 63 = .ok (.aload_n 0, 1) := by decide +kernel
theorem dc_1_54_64 : decode prog_1_method_54_code 64 = .ok (.iload 4, 2) := by decide +kernel
theorem dc_1_54_66 : decode prog_1_method_54_code 66 = .ok (.aload_n 2, 1) := by decide +kernel
theorem dc_1_54_67 : decode prog_1_method_54_code 67 = .ok (.iload_n 3, 1) := by decide +kernel
theorem dc_1_54_68 : decode prog_1_method_54_code 68 = .ok (.invokevirtual 424, 3) := by decide +kernel
theorem dc_1_54_71 : decode prog_1_method_54_code 71 = .ok (.invokestatic 410, 3) := by decide +kernel
theorem dc_1_54_74 : decode prog_1_method_54_code 74 = .ok (.istore 6, 2) := by decide +kernel
theorem dc_1_54_76 : decode prog_1_method_54_code 76 = .ok (.iload 6, 2) := by decide +kernel
theorem dc_1_54_78 : decode prog_1_method_54_code 78 = .ok (.iload 5, 2) := by decide +kernel
theorem dc_1_54_80 : decode prog_1_method_54_code 80 = .ok (.if_icmp .ge 20, 3) := by decide +kernel
theorem dc_1_54_83 : decode prog_1_method_54_code 83 = .ok (.aload_n 0, 1) := by decide +kernel
theorem dc_1_54_84 : decode prog_1_method_54_code 84 = .ok (.getfield 20, 3) := by decide +kernel
theorem dc_1_54_87 : decode prog_1_method_54_code 87 = .ok (.iload 6, 2) := by decide +kernel
theorem dc_1_54_89 : decode prog_1_method_54_code 89 = .ok (.dup2, 1) := by decide +kernel
theorem dc_1_54_90 : decode prog_1_method_54_code 90 = .ok (.iaload, 1) := by decide +kernel
theorem dc_1_54_91 : decode prog_1_method_54_code 91 = .ok (.iconst 1, 1) := by decide +kernel
theorem dc_1_54_92 : decode prog_1_method_54_code 92 = .ok (.iadd, 1) := by decide +kernel
theorem dc_1_54_93 : decode prog_1_method_54_code 93 = .ok (.iastore, 1) := by decide +kernel
theorem dc_1_54_94 : decode prog_1_method_54_code 94 = .ok (.iinc 6 1, 3) := by decide +kernel
theorem dc_1_54_97 : decode prog_1_method_54_code 97 = .ok (.goto (-21), 3) := by decide +kernel
theorem dc_1_54_100 : decode prog_1_method_54_code 100 = .ok (.iinc 4 1, 3) := by decide +kernel
theorem dc_1_54_103 : decode prog_1_method_54_code 103 = .ok (.goto (-92), 3) := by decide +kernel
theorem dc_1_54_106 : decode prog_1_method_54_code 106 = .ok (.return_, 1) := by decide +kernel
theorem iv_0_s410 : mm_iv 0 (.invokestatic 410) = some (0, 33) := by decide +kernel
theorem iv_0_s418 : mm_iv 0 (.invokestatic 418) = some (0, 37) := by decide +kernel
theorem iv_0_s78 : mm_iv 0 (.invokestatic 78) = some (0, 2) := by decide +kernel
theorem iv_0_v258 : mm_iv 0 (.invokevirtual 258) = some (1, 159) := by decide +kernel
theorem iv_0_v404 : mm_iv 0 (.invokevirtual 404) = some (1, 184) := by decide +kernel
theorem iv_0_v421 : mm_iv 0 (.invokevirtual 421) = some (1, 164) := by decide +kernel
theorem iv_0_v424 : mm_iv 0 (.invokevirtual 424) = some (1, 165) := by decide +kernel
theorem o_159 : mm_o 159 = 5 := by decide +kernel
theorem o_164 : mm_o 164 = 0 := by decide +kernel
theorem o_165 : mm_o 165 = 0 := by decide +kernel
theorem o_184 : mm_o 184 = 0 := by decide +kernel
theorem na_1_159 : mm_nas 1 159 = 4 := by decide +kernel
theorem na_1_164 : mm_nas 1 164 = 4 := by decide +kernel
theorem na_1_165 : mm_nas 1 165 = 4 := by decide +kernel
theorem na_1_184 : mm_nas 1 184 = 2 := by decide +kernel
theorem kn_in {sg : Nat → Nat → Int32} {nf : Nat} (h : ∀ i, i < nf → sg 80 i = -1 ∨ inN (sg 80 i) 359) (s w t : Int32) : ∀ m, m ≤ nf → sp_kn sg s w t m = -1 ∨ inN (sp_kn sg s w t m) 359
  | 0, _ => Or.inl rfl
  | m + 1, hm => by
    unfold sp_kn
    split
    · exact h m (by omega)
    · exact kn_in h s w t m (by omega)
def fDy (sg : Nat → Nat → Int32) (nf s : Nat) (t : Int32) (fr : Nat) : Nat := if sp_kn sg (nI s) (nI 2) t nf = -1 then 360 else max (tN (sp_kn sg (nI s) (nI 2) t nf)) fr
def dBh (sg : Nat → Nat → Int32) (nf s : Nat) (t : Int32) (tt : Nat) : Nat := if sp_kn sg (nI s) (nI 3) t nf = -1 then tt + 1 else min (tN (sp_kn sg (nI s) (nI 3) t nf)) (tt + 1)
theorem fDy_le {sg : Nat → Nat → Int32} {nf s : Nat} {t : Int32} {fr : Nat} (h : ∀ i, i < nf → sg 80 i = -1 ∨ inN (sg 80 i) 359) (hf : fr ≤ 360) : fDy sg nf s t fr ≤ 360 := by
  unfold fDy
  split
  · exact Nat.le_refl _
  · next z =>
    have := inN_tN ((kn_in h (nI s) (nI 2) t nf (Nat.le_refl _)).resolve_left z) (by decide)
    omega
theorem dBh_le (sg : Nat → Nat → Int32) (nf s : Nat) (t : Int32) (tt : Nat) : dBh sg nf s t tt ≤ tt + 1 := by
  unfold dBh
  split <;> omega
theorem th_iff {sg : Nat → Nat → Int32} {nf s p fr tt : Nat} {t : Int32} (h : ∀ i, i < nf → sg 80 i = -1 ∨ inN (sg 80 i) 359) (h13 : sg 13 p = nI fr) (h14 : sg 14 p = nI tt) (hft : fr < tt) (htt : tt < 360) {d : Nat} (hd : d < 360) : sp_th sg nf p (nI s) (nI d) t ↔ fDy sg nf s t fr ≤ d ∧ d < dBh sg nf s t tt := by
  unfold sp_th
  rw [h13, h14, nI_leI (by omega) (by omega), nI_leI (by omega) (by omega)]
  unfold fDy dBh
  by_cases z2 : sp_kn sg (nI s) (nI 2) t nf = -1
  · rw [if_pos z2]
    exact ⟨fun y => absurd z2 y.2.2.1, fun y => by omega⟩
  · have a2 := inN_tN ((kn_in h (nI s) (nI 2) t nf (Nat.le_refl _)).resolve_left z2) (by decide)
    rw [if_neg z2]
    have e2 : sp_kn sg (nI s) (nI 2) t nf ≤ nI d ↔ tN (sp_kn sg (nI s) (nI 2) t nf) ≤ d := by
      have := nI_leI (a := tN (sp_kn sg (nI s) (nI 2) t nf)) (b := d) (by omega) (by omega)
      rwa [← a2.1] at this
    rw [e2]
    by_cases z3 : sp_kn sg (nI s) (nI 3) t nf = -1
    · rw [if_pos z3]
      exact ⟨fun y => by omega, fun y => ⟨by omega, by omega, z2, by omega, Or.inl z3⟩⟩
    · have a3 := inN_tN ((kn_in h (nI s) (nI 3) t nf (Nat.le_refl _)).resolve_left z3) (by decide)
      have e3 : nI d < sp_kn sg (nI s) (nI 3) t nf ↔ d < tN (sp_kn sg (nI s) (nI 3) t nf) := by
        have := nI_ltI (a := d) (b := tN (sp_kn sg (nI s) (nI 3) t nf)) (by omega) (by omega)
        rwa [← a3.1] at this
      rw [if_neg z3, e3]
      exact ⟨fun y => by have := y.2.2.2.2.resolve_left z3; omega, fun y => ⟨by omega, by omega, z2, by omega, Or.inr (by omega)⟩⟩
theorem sum_cn {P : Nat → Prop} : ∀ {n : Nat}, sp_sum (fun s => pI (P s)) n = nI (cnP P n)
  | 0 => rfl
  | n + 1 => by
    rw [sp_S, sum_cn]
    by_cases z : P n
    · rw [pI_t z, cnP_t z, nI_add]
    · rw [pI_f z, cnP_f z]
      exact Int32.add_zero _
set_option maxHeartbeats 4000000 in
theorem k_dBh {M : mH} {T : Nat → mT} {cs sg : Nat → Nat → Int32} {io : Nat → Int32} {e : Nat → Nat} {D : Nat → Nat → Nat} {nh nx ns nf ny tp : Nat} {cm : Nat → Nat} {w : Nat → Nat → Nat} {cn : Nat → Nat} {wc : Nat → Nat → Nat} (hV : CV M T cs io sg e D nh nx ns nf ny tp cm w cn wc) (p fr tt : Nat) (hp : p < nh) (h13 : sg 13 p = nI fr) (h14 : sg 14 p = nI tt) (hft : fr < tt) (htt : tt < 360) (s : Nat) (t : Int32) : mm_Ev 3 164 [.ref 0, .int (nI s), .ref (D 0 p), .int t] (hk M T cs) ((some (.int (nI (dBh sg nf s t tt))), hk M T cs)) := by
  obtain ⟨⟨hM, hMs, hW⟩, hC, hT, hR, hJ⟩ := id hV
  obtain ⟨hF, ⟨hL0, hL1, hL2⟩, hSc, hAg, hSt⟩ := id hC
  obtain ⟨⟨⟨h3, hnh⟩, ⟨h4, hnx⟩, ⟨h5, hns⟩, ⟨h7, hnf⟩, ⟨h6, hny⟩, ⟨h23, htp⟩⟩, hRa, hRb, hRs, hRs2, hRs3, hRx, hCD, hRt, hRt2, hRf⟩ := id hR
  refine r_ev (by decide +kernel) (show (4 : Nat) ≤ mm_nL 164 by decide +kernel) ?_
  show mm_Ru 2 (0, 5, false, prog_1_method_52_code, some .int) 0 [(0, .ref 0), (1, .int (nI s)), (2, .ref (D 0 p)), (3, .int t)] [] (hk M T cs) (fun r9 => r9 = ((some (.int (nI (dBh sg nf s t tt))), hk M T cs)))
  refine r_aload_n rfl dc_1_52_0 ?_
  refine h_get (t := cT e 0) (v := .ref 20) fx_0_54 (hF 0 (by decide)) ⟨by omega, by omega⟩ (rfl) dc_1_52_1 ?_
  refine r_iload_n rfl dc_1_52_4 ?_
  refine r_iconst (v := nI 3) (by decide) dc_1_52_5 ?_
  refine r_iload_n rfl dc_1_52_6 ?_
  refine h_callv (t := cT e 20) (as := [.int (nI s), .int (nI 3), .int t]) (rest := []) (v := .int (sp_kn sg (nI s) (nI 3) t nf)) (M1 := hk M T cs) rfl rfl iv_0_v258 (Or.inl rfl) na_1_159 (hF 20 (by decide)) ⟨by omega, by omega⟩ (show (5 : Nat) < 14 by decide) o_159 rfl (show (0 : Nat) ≤ 8 by decide) dc_1_52_7 (k_dayOf M hM T e hF cs sg nf hV.2.2.1.2.2.2.2.1 hnf hV.2.2.1.2.2.2.2.2.2 (nI s) (nI 3) t) ?_
  refine r_istore (ls' := [(4, .int (sp_kn sg (nI s) (nI 3) t nf)), (0, .ref 0), (1, .int (nI s)), (2, .ref (D 0 p)), (3, .int t)]) (by decide) rfl dc_1_52_10 ?_
  refine r_iload rfl dc_1_52_12 ?_
  refine r_iconst (v := -1) (by decide) dc_1_52_14 ?_
  refine r_icne (t := 27) (by decide) dc_1_52_15 (fun c_15 => ?_) (fun c_15 => ?_)
  · skip
    refine r_iload rfl dc_1_52_27 ?_
    refine r_aload_n rfl dc_1_52_29 ?_
    refine h_get (t := (9, 0, rl [(6, D 1 p)])) (v := .int (nI tt)) fx_0_415 (hSc p (by omega)).1 (hSc p (by omega)).2.1 (show some (Value.int _) = _ from congrArg (fun z => some (Value.int z)) (((hV.2.1.2.2.1 p (by omega)).2.2.1.2.2.2.1).trans h14)) dc_1_52_30 ?_
    refine r_iconst (v := nI 1) (by decide) dc_1_52_33 ?_
    refine r_iadd (v := nI (tt + 1)) (nI_add _ _) dc_1_52_34 ?_
    refine h_callS (as := [.int (sp_kn sg (nI s) (nI 3) t nf), .int (nI (tt + 1))]) (rest := []) (v := .int (mn (sp_kn sg (nI s) (nI 3) t nf) (nI (tt + 1)))) rfl rfl iv_0_s418 (Or.inl rfl) na_0_37 rfl (show (0 : Nat) ≤ 8 by decide) dc_1_52_35 (mm_Ev_up (by decide : 1 ≤ 2) (k_min _ _ _)) ?_
    refine r_iret rfl dc_1_52_38 ?_
    have a3 := inN_tN ((kn_in hRf (nI s) (nI 3) t nf (Nat.le_refl _)).resolve_left c_15) (by decide)
    rw [show dBh sg nf s t tt = min (tN (sp_kn sg (nI s) (nI 3) t nf)) (tt + 1) from if_neg c_15, ← mn_n (by omega) (by omega), ← a3.1]
  · skip
    refine r_aload_n rfl dc_1_52_18 ?_
    refine h_get (t := (9, 0, rl [(6, D 1 p)])) (v := .int (nI tt)) fx_0_415 (hSc p (by omega)).1 (hSc p (by omega)).2.1 (show some (Value.int _) = _ from congrArg (fun z => some (Value.int z)) (((hV.2.1.2.2.1 p (by omega)).2.2.1.2.2.2.1).trans h14)) dc_1_52_19 ?_
    refine r_iconst (v := nI 1) (by decide) dc_1_52_22 ?_
    refine r_iadd (v := nI (tt + 1)) (nI_add _ _) dc_1_52_23 ?_
    refine r_goto (t := 38) (by decide) dc_1_52_24 ?_
    refine r_iret rfl dc_1_52_38 ?_
    rw [show dBh sg nf s t tt = tt + 1 from if_pos c_15]
set_option maxHeartbeats 4000000 in
theorem k_fDy {M : mH} {T : Nat → mT} {cs sg : Nat → Nat → Int32} {io : Nat → Int32} {e : Nat → Nat} {D : Nat → Nat → Nat} {nh nx ns nf ny tp : Nat} {cm : Nat → Nat} {w : Nat → Nat → Nat} {cn : Nat → Nat} {wc : Nat → Nat → Nat} (hV : CV M T cs io sg e D nh nx ns nf ny tp cm w cn wc) (p fr tt : Nat) (hp : p < nh) (h13 : sg 13 p = nI fr) (h14 : sg 14 p = nI tt) (hft : fr < tt) (htt : tt < 360) (s : Nat) (t : Int32) : mm_Ev 3 165 [.ref 0, .int (nI s), .ref (D 0 p), .int t] (hk M T cs) ((some (.int (nI (fDy sg nf s t fr))), hk M T cs)) := by
  obtain ⟨⟨hM, hMs, hW⟩, hC, hT, hR, hJ⟩ := id hV
  obtain ⟨hF, ⟨hL0, hL1, hL2⟩, hSc, hAg, hSt⟩ := id hC
  obtain ⟨⟨⟨h3, hnh⟩, ⟨h4, hnx⟩, ⟨h5, hns⟩, ⟨h7, hnf⟩, ⟨h6, hny⟩, ⟨h23, htp⟩⟩, hRa, hRb, hRs, hRs2, hRs3, hRx, hCD, hRt, hRt2, hRf⟩ := id hR
  refine r_ev (by decide +kernel) (show (4 : Nat) ≤ mm_nL 165 by decide +kernel) ?_
  show mm_Ru 2 (0, 5, false, prog_1_method_51_code, some .int) 0 [(0, .ref 0), (1, .int (nI s)), (2, .ref (D 0 p)), (3, .int t)] [] (hk M T cs) (fun r9 => r9 = ((some (.int (nI (fDy sg nf s t fr))), hk M T cs)))
  refine r_aload_n rfl dc_1_51_0 ?_
  refine h_get (t := cT e 0) (v := .ref 20) fx_0_54 (hF 0 (by decide)) ⟨by omega, by omega⟩ (rfl) dc_1_51_1 ?_
  refine r_iload_n rfl dc_1_51_4 ?_
  refine r_iconst (v := nI 2) (by decide) dc_1_51_5 ?_
  refine r_iload_n rfl dc_1_51_6 ?_
  refine h_callv (t := cT e 20) (as := [.int (nI s), .int (nI 2), .int t]) (rest := []) (v := .int (sp_kn sg (nI s) (nI 2) t nf)) (M1 := hk M T cs) rfl rfl iv_0_v258 (Or.inl rfl) na_1_159 (hF 20 (by decide)) ⟨by omega, by omega⟩ (show (5 : Nat) < 14 by decide) o_159 rfl (show (0 : Nat) ≤ 8 by decide) dc_1_51_7 (k_dayOf M hM T e hF cs sg nf hV.2.2.1.2.2.2.2.1 hnf hV.2.2.1.2.2.2.2.2.2 (nI s) (nI 2) t) ?_
  refine r_istore (ls' := [(4, .int (sp_kn sg (nI s) (nI 2) t nf)), (0, .ref 0), (1, .int (nI s)), (2, .ref (D 0 p)), (3, .int t)]) (by decide) rfl dc_1_51_10 ?_
  refine r_iload rfl dc_1_51_12 ?_
  refine r_iconst (v := -1) (by decide) dc_1_51_14 ?_
  refine r_icne (t := 24) (by decide) dc_1_51_15 (fun c_15 => ?_) (fun c_15 => ?_)
  · skip
    refine r_iload rfl dc_1_51_24 ?_
    refine r_aload_n rfl dc_1_51_26 ?_
    refine h_get (t := (9, 0, rl [(6, D 1 p)])) (v := .int (nI fr)) fx_0_407 (hSc p (by omega)).1 (hSc p (by omega)).2.1 (show some (Value.int _) = _ from congrArg (fun z => some (Value.int z)) (((hV.2.1.2.2.1 p (by omega)).2.2.1.2.2.1).trans h13)) dc_1_51_27 ?_
    refine h_callS (as := [.int (sp_kn sg (nI s) (nI 2) t nf), .int (nI fr)]) (rest := []) (v := .int (mx (sp_kn sg (nI s) (nI 2) t nf) (nI fr))) rfl rfl iv_0_s410 (Or.inl rfl) na_0_33 rfl (show (0 : Nat) ≤ 8 by decide) dc_1_51_30 (mm_Ev_up (by decide : 1 ≤ 2) (k_max _ _ _)) ?_
    refine r_iret rfl dc_1_51_33 ?_
    have a3 := inN_tN ((kn_in hRf (nI s) (nI 2) t nf (Nat.le_refl _)).resolve_left c_15) (by decide)
    rw [show fDy sg nf s t fr = max (tN (sp_kn sg (nI s) (nI 2) t nf)) fr from if_neg c_15, ← mx_n (by omega) (by omega), ← a3.1]
  · skip
    refine r_sipush (v := nI 360) (by decide) dc_1_51_18 ?_
    refine r_goto (t := 33) (by decide) dc_1_51_21 ?_
    refine r_iret rfl dc_1_51_33 ?_
    rw [show fDy sg nf s t fr = 360 from if_pos c_15]
theorem mx_sub {a b : Nat} (ha : a < 100000) (hb : b < 100000) : mx (nI 0) (nI b - nI a) = nI (b - a) := by
  rw [← zI_n 0, ← zI_n a, ← zI_n b, ← zI_n (b - a), zI_sub, mx_z (by omega) (by omega) (by omega) (by omega)]
  refine congrArg zI ?_
  split <;> omega
set_option maxHeartbeats 4000000 in
theorem k_days {M : mH} {T : Nat → mT} {cs sg : Nat → Nat → Int32} {io : Nat → Int32} {e : Nat → Nat} {D : Nat → Nat → Nat} {nh nx ns nf ny tp : Nat} {cm : Nat → Nat} {w : Nat → Nat → Nat} {cn : Nat → Nat} {wc : Nat → Nat → Nat} (hV : CV M T cs io sg e D nh nx ns nf ny tp cm w cn wc) (p fr tt : Nat) (hp : p < nh) (h13 : sg 13 p = nI fr) (h14 : sg 14 p = nI tt) (hft : fr < tt) (htt : tt < 360) (s : Nat) (t : Int32) : mm_Ev 4 167 [.ref 0, .int (nI s), .ref (D 0 p), .int t] (hk M T cs) ((some (.int (nI (dBh sg nf s t tt - fDy sg nf s t fr))), hk M T cs)) := by
  obtain ⟨⟨hM, hMs, hW⟩, hC, hT, hR, hJ⟩ := id hV
  obtain ⟨hF, ⟨hL0, hL1, hL2⟩, hSc, hAg, hSt⟩ := id hC
  obtain ⟨⟨⟨h3, hnh⟩, ⟨h4, hnx⟩, ⟨h5, hns⟩, ⟨h7, hnf⟩, ⟨h6, hny⟩, ⟨h23, htp⟩⟩, hRa, hRb, hRs, hRs2, hRs3, hRx, hCD, hRt, hRt2, hRf⟩ := id hR
  have b1 := dBh_le sg nf s t tt
  have b2 := fDy_le (s := s) (t := t) (fr := fr) hRf (by omega)
  refine r_ev (by decide +kernel) (show (4 : Nat) ≤ mm_nL 167 by decide +kernel) ?_
  show mm_Ru 3 (0, 4, false, prog_1_method_53_code, some .int) 0 [(0, .ref 0), (1, .int (nI s)), (2, .ref (D 0 p)), (3, .int t)] [] (hk M T cs) (fun r9 => r9 = ((some (.int (nI (dBh sg nf s t tt - fDy sg nf s t fr))), hk M T cs)))
  refine r_iconst (v := nI 0) (by decide) dc_1_53_0 ?_
  refine r_aload_n rfl dc_1_53_1 ?_
  refine r_iload_n rfl dc_1_53_2 ?_
  refine r_aload_n rfl dc_1_53_3 ?_
  refine r_iload_n rfl dc_1_53_4 ?_
  refine h_callv (t := cT e 0) (as := [.int (nI s), .ref (D 0 p), .int t]) (rest := [.int (nI 0)]) (v := .int (nI (dBh sg nf s t tt))) (M1 := hk M T cs) rfl rfl iv_0_v421 (Or.inl rfl) na_1_164 (hF 0 (by decide)) ⟨by omega, by omega⟩ (show (0 : Nat) < 14 by decide) o_164 rfl (show (1 : Nat) ≤ 8 by decide) dc_1_53_5 (k_dBh hV p fr tt hp h13 h14 hft htt s t) ?_
  refine r_aload_n rfl dc_1_53_8 ?_
  refine r_iload_n rfl dc_1_53_9 ?_
  refine r_aload_n rfl dc_1_53_10 ?_
  refine r_iload_n rfl dc_1_53_11 ?_
  refine h_callv (t := cT e 0) (as := [.int (nI s), .ref (D 0 p), .int t]) (rest := [.int (nI (dBh sg nf s t tt)), .int (nI 0)]) (v := .int (nI (fDy sg nf s t fr))) (M1 := hk M T cs) rfl rfl iv_0_v424 (Or.inl rfl) na_1_165 (hF 0 (by decide)) ⟨by omega, by omega⟩ (show (0 : Nat) < 14 by decide) o_165 rfl (show (2 : Nat) ≤ 8 by decide) dc_1_53_12 (k_fDy hV p fr tt hp h13 h14 hft htt s t) ?_
  refine r_isub (v := (nI (dBh sg nf s t tt)) - (nI (fDy sg nf s t fr))) (rfl) dc_1_53_15 ?_
  refine h_callS (as := [.int (nI 0), .int ((nI (dBh sg nf s t tt)) - (nI (fDy sg nf s t fr)))]) (rest := []) (v := .int (nI (dBh sg nf s t tt - fDy sg nf s t fr))) rfl rfl iv_0_s410 (Or.inl rfl) na_0_33 rfl (show (0 : Nat) ≤ 8 by decide) dc_1_53_16 (mm_Ev_up (by decide : 1 ≤ 3) ((mx_sub (a := fDy sg nf s t fr) (b := dBh sg nf s t tt) (by omega) (by omega)) ▸ k_max _ (nI 0) (nI (dBh sg nf s t tt) - nI (fDy sg nf s t fr)))) ?_
  exact r_iret rfl dc_1_53_19 (rfl)
theorem gs_in {cs1 : Nat → Nat → Int32} {P : Nat → Prop} {n : Nat → Nat} {a b m : Nat} (h : ∀ d, d < 360 → cs1 3 d = nI (n d + (if a ≤ d ∧ d < m then 1 else 0))) (ham : a ≤ m) (hm : m < 360) : ∀ d, d < 360 → w1 cs1 3 m (cs1 3 m + nI 1) 3 d = nI (n d + (if a ≤ d ∧ d < m + 1 then 1 else 0)) := by
  intro d hd
  by_cases z : d = m
  · subst z
    rw [w1_s, h d hd, if_neg (by omega), if_pos (by omega), nI_add]
  · rw [w1_o _ _ (Or.inr z), h d hd]
    by_cases y : a ≤ d ∧ d < m
    · rw [if_pos y, if_pos (by omega)]
    · rw [if_neg y, if_neg (by omega)]
set_option maxHeartbeats 4000000 in
theorem k_count {M : mH} {T : Nat → mT} {cs sg : Nat → Nat → Int32} {io : Nat → Int32} {e : Nat → Nat} {D : Nat → Nat → Nat} {nh nx ns nf ny tp : Nat} {cm : Nat → Nat} {w : Nat → Nat → Nat} {cn : Nat → Nat} {wc : Nat → Nat → Nat} (hV : CV M T cs io sg e D nh nx ns nf ny tp cm w cn wc) (p fr tt : Nat) (hp : p < nh) (h13 : sg 13 p = nI fr) (h14 : sg 14 p = nI tt) (hft : fr < tt) (htt : tt < 360) (t : Int32) : ∃ (cs1 : Nat → Nat → Int32), (FrC D nx cs cs1 ∧ ∀ d, d < 360 → cs1 3 d = sp_ton sg nf ns p (nI d) t) ∧ mm_Ev 4 163 [.ref 0, .int (nI p), .ref (D 0 p), .int t] (hk M T cs) ((none, hk M T cs1)) := by
  have hq9 : ∃ z, (fun r9 => ∃ (cs1 : Nat → Nat → Int32), (FrC D nx cs cs1 ∧ ∀ d, d < 360 → cs1 3 d = sp_ton sg nf ns p (nI d) t) ∧ r9 = ((none, hk M T cs1))) z ∧ mm_Ev 4 163 [.ref 0, .int (nI p), .ref (D 0 p), .int t] (hk M T cs) z := by
    obtain ⟨⟨hM, hMs, hW⟩, hC, hT, hR, hJ⟩ := id hV
    obtain ⟨hF, ⟨hL0, hL1, hL2⟩, hSc, hAg, hSt⟩ := id hC
    obtain ⟨⟨⟨h3, hnh⟩, ⟨h4, hnx⟩, ⟨h5, hns⟩, ⟨h7, hnf⟩, ⟨h6, hny⟩, ⟨h23, htp⟩⟩, hRa, hRb, hRs, hRs2, hRs3, hRx, hCD, hRt, hRt2, hRf⟩ := id hR
    refine r_evQ (by decide +kernel) (show (4 : Nat) ≤ mm_nL 163 by decide +kernel) ?_
    show mm_Ru 3 (0, 7, false, prog_1_method_54_code, none) 0 [(0, .ref 0), (1, .int (nI p)), (2, .ref (D 0 p)), (3, .int t)] [] (hk M T cs) (fun r9 => ∃ (cs1 : Nat → Nat → Int32), (FrC D nx cs cs1 ∧ ∀ d, d < 360 → cs1 3 d = sp_ton sg nf ns p (nI d) t) ∧ r9 = ((none, hk M T cs1)))
    refine r_aload_n rfl dc_1_54_0 ?_
    refine h_get (t := cT e 0) (v := .ref 3) fx_0_20 (hF 0 (by decide)) ⟨by omega, by omega⟩ (rfl) dc_1_54_1 ?_
    refine r_iconst (v := nI 0) (by decide) dc_1_54_4 ?_
    refine h_callS0 (as := [.ref 3, .int (nI 0)]) (rest := []) (M1 := hk M T (wA cs 3 (fl (cs 3) 360 (nI 0)))) rfl rfl iv_0_s78 (Or.inl rfl) na_0_2 rfl (show (0 : Nat) ≤ 8 by decide) dc_1_54_5 (mm_Ev_up (by decide : 1 ≤ 3) (k_fill M T cs 3 360 _ (nI 0) (hF 3 (by decide)) ⟨by omega, by omega⟩ (by decide))) ?_
    refine r_iconst (v := nI 0) (by decide) dc_1_54_8 ?_
    refine r_istore (ls' := [(4, .int (nI 0)), (0, .ref 0), (1, .int (nI p)), (2, .ref (D 0 p)), (3, .int t)]) (by decide) rfl dc_1_54_9 ?_
    refine mm_cnt (P := fun m => ∀ (cs1 : Nat → Nat → Int32), (FrC D nx cs cs1 ∧ ∀ d, d < 360 → cs1 3 d = nI (cnP (fun s => hst sg s = nI p ∧ fDy sg nf s t fr ≤ d ∧ d < dBh sg nf s t tt) m)) → mm_Ru 3 (0, 7, false, prog_1_method_54_code, none) 11 [(4, .int (nI m)), (0, .ref 0), (1, .int (nI p)), (2, .ref (D 0 p)), (3, .int t)] [] (hk M T cs1) (fun r9 => ∃ (cs1 : Nat → Nat → Int32), (FrC D nx cs cs1 ∧ ∀ d, d < 360 → cs1 3 d = sp_ton sg nf ns p (nI d) t) ∧ r9 = ((none, hk M T cs1)))) ns ?_ ?_ 0 (by omega) (wA cs 3 (fl (cs 3) 360 (nI 0))) (⟨fun a h1 _ => wA_o _ _ (by omega), fun d hd => (congrFun (wA_s _ _ _) d).trans (if_pos hd)⟩)
    · intro  cs1 hi_m
      show mm_Ru 3 (0, 7, false, prog_1_method_54_code, none) 11 [(4, .int (nI ns)), (0, .ref 0), (1, .int (nI p)), (2, .ref (D 0 p)), (3, .int t)] [] (hk M T cs1) (fun r9 => ∃ (cs1 : Nat → Nat → Int32), (FrC D nx cs cs1 ∧ ∀ d, d < 360 → cs1 3 d = sp_ton sg nf ns p (nI d) t) ∧ r9 = ((none, hk M T cs1)))
      have hV1 := CV_f hV hi_m.1
      refine r_iload rfl dc_1_54_11 ?_
      refine r_aload_n rfl dc_1_54_13 ?_
      refine h_get (t := cT e 0) (v := .ref 27) fx_0_68 (hF 0 (by decide)) ⟨by omega, by omega⟩ (rfl) dc_1_54_14 ?_
      refine h_callv (t := cT e 27) (as := []) (rest := [.int (nI ns)]) (v := .int (nI ns)) (M1 := hk M T cs1) rfl rfl iv_0_f113 (Or.inr (Or.inr rfl)) na_6_26 (hF 27 (by decide)) ⟨by omega, by omega⟩ (show (6 : Nat) < 14 by decide) o_26 rfl (show (1 : Nat) ≤ 8 by decide) dc_1_54_17 (mm_Ev_up (by decide : 1 ≤ 3) (k_sizeL hV1.2.1.2.1.2.2)) ?_
      refine r_ncge (t := 106) (by omega) (by omega) (by decide) dc_1_54_22 (fun c_22 => ?_) (fun c_22 => ?_)
      · skip
        refine r_vret rfl dc_1_54_106 ?_
        refine ⟨cs1, ⟨hi_m.1, fun d hd => ?_⟩, rfl⟩
        rw [hi_m.2 d hd]
        unfold sp_ton
        rw [sum_cn]
        refine congrArg nI (cnP_c (fun s hs => ?_))
        show _ ↔ (sg 56 s = nI 1 ∧ sg 57 s = nI p ∧ sp_th sg nf p (nI s) (nI d) t)
        rw [th_iff hRf h13 h14 hft htt hd, hst_iff (by omega)]
        exact ⟨fun z => ⟨z.1.1, z.1.2, z.2⟩, fun z => ⟨⟨z.1, z.2.1⟩, z.2.2⟩⟩
      · omega
    · intro m h_m ih_m  cs1 hi_m
      have hV1 := CV_f hV hi_m.1
      show mm_Ru 3 (0, 7, false, prog_1_method_54_code, none) 11 [(4, .int (nI m)), (0, .ref 0), (1, .int (nI p)), (2, .ref (D 0 p)), (3, .int t)] [] (hk M T cs1) (fun r9 => ∃ (cs1 : Nat → Nat → Int32), (FrC D nx cs cs1 ∧ ∀ d, d < 360 → cs1 3 d = sp_ton sg nf ns p (nI d) t) ∧ r9 = ((none, hk M T cs1)))
      refine r_iload rfl dc_1_54_11 ?_
      refine r_aload_n rfl dc_1_54_13 ?_
      refine h_get (t := cT e 0) (v := .ref 27) fx_0_68 (hF 0 (by decide)) ⟨by omega, by omega⟩ (rfl) dc_1_54_14 ?_
      refine h_callv (t := cT e 27) (as := []) (rest := [.int (nI m)]) (v := .int (nI ns)) (M1 := hk M T cs1) rfl rfl iv_0_f113 (Or.inr (Or.inr rfl)) na_6_26 (hF 27 (by decide)) ⟨by omega, by omega⟩ (show (6 : Nat) < 14 by decide) o_26 rfl (show (1 : Nat) ≤ 8 by decide) dc_1_54_17 (mm_Ev_up (by decide : 1 ≤ 3) (k_sizeL hV1.2.1.2.1.2.2)) ?_
      refine r_ncge (t := 106) (by omega) (by omega) (by decide) dc_1_54_22 (fun c_22 => ?_) (fun c_22 => ?_)
      · omega
      · skip
        refine r_aload_n rfl dc_1_54_25 ?_
        refine h_get (t := cT e 0) (v := .ref 27) fx_0_68 (hF 0 (by decide)) ⟨by omega, by omega⟩ (rfl) dc_1_54_26 ?_
        refine r_iload rfl dc_1_54_29 ?_
        refine h_callv (t := cT e 27) (as := [.int (nI m)]) (rest := []) (v := .ref (D 7 m)) (M1 := hk M T cs1) rfl rfl iv_0_f227 (Or.inr (Or.inr rfl)) na_6_40 (hF 27 (by decide)) ⟨by omega, by omega⟩ (show (6 : Nat) < 14 by decide) o_40 rfl (show (0 : Nat) ≤ 8 by decide) dc_1_54_31 (k_getL hV1.2.1.2.1.2.2 m (by omega)) ?_
        refine h_cast (t := (11, 0, rl [(6, D 9 m), (5, D 8 m)])) (c := 11) (hSt m (by omega)).1 (hSt m (by omega)).2.1 (show (11 : Nat) < 14 by decide) kr_0_175 rfl dc_1_54_36 ?_
        refine h_callv (t := (11, 0, rl [(6, D 9 m), (5, D 8 m)])) (as := []) (rest := []) (v := .int (hst sg m)) (M1 := hk M T cs1) rfl rfl iv_0_v261 (Or.inl rfl) na_1_118 (hSt m (by omega)).1 (hSt m (by omega)).2.1 (show (11 : Nat) < 14 by decide) o_118 rfl (show (0 : Nat) ≤ 8 by decide) dc_1_54_39 (mm_Ev_up (by decide : 2 ≤ 3) (k_host M T cs1 sg D m _ (hV1.2.1.2.2.2.2 m (by omega)) (inN_tN (hRt m (by omega)).2.2.2.2.2.2.1 (by decide)).2)) ?_
        refine r_iload_n rfl dc_1_54_42 ?_
        refine r_icne (t := 100) (by decide) dc_1_54_43 (fun c_43 => ?_) (fun c_43 => ?_)
        · skip
          refine r_iinc (n := 4) (k := 1) (x := nI m) (v := nI (m + 1)) (ls' := [(4, .int (nI (m + 1))), (0, .ref 0), (1, .int (nI p)), (2, .ref (D 0 p)), (3, .int t)]) rfl (nI_1 _) (by decide) rfl dc_1_54_100 ?_
          refine r_goto (t := 11) (by decide) dc_1_54_103 ?_
          exact ih_m cs1 (⟨hi_m.1, fun d hd => (hi_m.2 d hd).trans (congrArg nI (cnP_f (fun z => c_43 z.1)).symm)⟩)
        · skip
          have b1 := dBh_le sg nf m t tt
          have b2 := fDy_le (s := m) (t := t) (fr := fr) hRf (by omega)
          refine r_sipush (v := nI 360) (by decide) dc_1_54_46 ?_
          refine r_aload_n rfl dc_1_54_49 ?_
          refine r_iload rfl dc_1_54_50 ?_
          refine r_aload_n rfl dc_1_54_52 ?_
          refine r_iload_n rfl dc_1_54_53 ?_
          refine h_callv (t := cT e 0) (as := [.int (nI m), .ref (D 0 p), .int t]) (rest := [.int (nI 360)]) (v := .int (nI (dBh sg nf m t tt))) (M1 := hk M T cs1) rfl rfl iv_0_v421 (Or.inl rfl) na_1_164 (hF 0 (by decide)) ⟨by omega, by omega⟩ (show (0 : Nat) < 14 by decide) o_164 rfl (show (1 : Nat) ≤ 8 by decide) dc_1_54_54 (k_dBh hV1 p fr tt hp h13 h14 hft htt m t) ?_
          refine h_callS (as := [.int (nI 360), .int (nI (dBh sg nf m t tt))]) (rest := []) (v := .int (nI (dBh sg nf m t tt))) rfl rfl iv_0_s418 (Or.inl rfl) na_0_37 rfl (show (0 : Nat) ≤ 8 by decide) dc_1_54_57 (mm_Ev_up (by decide : 1 ≤ 3) ((show mn (nI 360) (nI (dBh sg nf m t tt)) = nI (dBh sg nf m t tt) by rw [mn_n (by omega) (by omega), Nat.min_eq_right (by omega)]) ▸ k_min _ (nI 360) (nI (dBh sg nf m t tt)))) ?_
          refine r_istore (ls' := [(5, .int (nI (dBh sg nf m t tt))), (4, .int (nI m)), (0, .ref 0), (1, .int (nI p)), (2, .ref (D 0 p)), (3, .int t)]) (by decide) rfl dc_1_54_60 ?_
          refine r_iconst (v := nI 0) (by decide) dc_1_54_62 ?_
          refine r_aload_n rfl dc_1_54_63 ?_
          refine r_iload rfl dc_1_54_64 ?_
          refine r_aload_n rfl dc_1_54_66 ?_
          refine r_iload_n rfl dc_1_54_67 ?_
          refine h_callv (t := cT e 0) (as := [.int (nI m), .ref (D 0 p), .int t]) (rest := [.int (nI 0)]) (v := .int (nI (fDy sg nf m t fr))) (M1 := hk M T cs1) rfl rfl iv_0_v424 (Or.inl rfl) na_1_165 (hF 0 (by decide)) ⟨by omega, by omega⟩ (show (0 : Nat) < 14 by decide) o_165 rfl (show (1 : Nat) ≤ 8 by decide) dc_1_54_68 (k_fDy hV1 p fr tt hp h13 h14 hft htt m t) ?_
          refine h_callS (as := [.int (nI 0), .int (nI (fDy sg nf m t fr))]) (rest := []) (v := .int (nI (fDy sg nf m t fr))) rfl rfl iv_0_s410 (Or.inl rfl) na_0_33 rfl (show (0 : Nat) ≤ 8 by decide) dc_1_54_71 (mm_Ev_up (by decide : 1 ≤ 3) ((show mx (nI 0) (nI (fDy sg nf m t fr)) = nI (fDy sg nf m t fr) by rw [mx_n (by omega) (by omega), Nat.zero_max]) ▸ k_max _ (nI 0) (nI (fDy sg nf m t fr)))) ?_
          refine r_istore (ls' := [(6, .int (nI (fDy sg nf m t fr))), (5, .int (nI (dBh sg nf m t tt))), (4, .int (nI m)), (0, .ref 0), (1, .int (nI p)), (2, .ref (D 0 p)), (3, .int t)]) (by decide) rfl dc_1_54_74 ?_
          refine mm_cnt (P := fun k => ∀ (cs2 : Nat → Nat → Int32), (FrC D nx cs cs2 ∧ fDy sg nf m t fr ≤ k ∧ ∀ d, d < 360 → cs2 3 d = nI (cnP (fun s => hst sg s = nI p ∧ fDy sg nf s t fr ≤ d ∧ d < dBh sg nf s t tt) m + (if fDy sg nf m t fr ≤ d ∧ d < k then 1 else 0))) → mm_Ru 3 (0, 7, false, prog_1_method_54_code, none) 76 [(6, .int (nI k)), (5, .int (nI (dBh sg nf m t tt))), (4, .int (nI m)), (0, .ref 0), (1, .int (nI p)), (2, .ref (D 0 p)), (3, .int t)] [] (hk M T cs2) (fun r9 => ∃ (cs1 : Nat → Nat → Int32), (FrC D nx cs cs1 ∧ ∀ d, d < 360 → cs1 3 d = sp_ton sg nf ns p (nI d) t) ∧ r9 = ((none, hk M T cs1)))) (max (fDy sg nf m t fr) (dBh sg nf m t tt)) ?_ ?_ (fDy sg nf m t fr) (by omega) cs1 (⟨hi_m.1, Nat.le_refl _, fun d hd => (hi_m.2 d hd).trans (congrArg nI (by rw [if_neg (by omega), Nat.add_zero]))⟩)
          · intro  cs2 hi_k
            show mm_Ru 3 (0, 7, false, prog_1_method_54_code, none) 76 [(6, .int (nI (max (fDy sg nf m t fr) (dBh sg nf m t tt)))), (5, .int (nI (dBh sg nf m t tt))), (4, .int (nI m)), (0, .ref 0), (1, .int (nI p)), (2, .ref (D 0 p)), (3, .int t)] [] (hk M T cs2) (fun r9 => ∃ (cs1 : Nat → Nat → Int32), (FrC D nx cs cs1 ∧ ∀ d, d < 360 → cs1 3 d = sp_ton sg nf ns p (nI d) t) ∧ r9 = ((none, hk M T cs1)))
            refine r_iload rfl dc_1_54_76 ?_
            refine r_iload rfl dc_1_54_78 ?_
            refine r_ncge (t := 100) (by omega) (by omega) (by decide) dc_1_54_80 (fun c_80 => ?_) (fun c_80 => ?_)
            · skip
              refine r_iinc (n := 4) (k := 1) (x := nI m) (v := nI (m + 1)) (ls' := [(4, .int (nI (m + 1))), (6, .int (nI (max (fDy sg nf m t fr) (dBh sg nf m t tt)))), (5, .int (nI (dBh sg nf m t tt))), (0, .ref 0), (1, .int (nI p)), (2, .ref (D 0 p)), (3, .int t)]) rfl (nI_1 _) (by decide) rfl dc_1_54_100 ?_
              refine r_goto (t := 11) (by decide) dc_1_54_103 ?_
              refine r_ls [(4, .int (nI (m + 1))), (0, .ref 0), (1, .int (nI p)), (2, .ref (D 0 p)), (3, .int t)] (mm_ndk_of [4, 0, 1, 2, 3] rfl (by decide)) (mm_sub_cons rfl (mm_sub_cons rfl (mm_sub_cons rfl (mm_sub_cons rfl (mm_sub_cons rfl (mm_sub_nil _)))))) ?_
              exact ih_m cs2 (⟨hi_k.1, fun d hd => (hi_k.2.2 d hd).trans (congrArg nI (by by_cases z : fDy sg nf m t fr ≤ d ∧ d < dBh sg nf m t tt; (rw [cnP_t (P := (fun s => hst sg s = nI p ∧ fDy sg nf s t fr ≤ d ∧ d < dBh sg nf s t tt)) ⟨c_43, z⟩, if_pos (by omega)]); (rw [cnP_f (P := (fun s => hst sg s = nI p ∧ fDy sg nf s t fr ≤ d ∧ d < dBh sg nf s t tt)) (fun y => z y.2), if_neg (by omega), Nat.add_zero])))⟩)
            · omega
          · intro k h_k ih_k  cs2 hi_k
            show mm_Ru 3 (0, 7, false, prog_1_method_54_code, none) 76 [(6, .int (nI k)), (5, .int (nI (dBh sg nf m t tt))), (4, .int (nI m)), (0, .ref 0), (1, .int (nI p)), (2, .ref (D 0 p)), (3, .int t)] [] (hk M T cs2) (fun r9 => ∃ (cs1 : Nat → Nat → Int32), (FrC D nx cs cs1 ∧ ∀ d, d < 360 → cs1 3 d = sp_ton sg nf ns p (nI d) t) ∧ r9 = ((none, hk M T cs1)))
            refine r_iload rfl dc_1_54_76 ?_
            refine r_iload rfl dc_1_54_78 ?_
            refine r_ncge (t := 100) (by omega) (by omega) (by decide) dc_1_54_80 (fun c_80 => ?_) (fun c_80 => ?_)
            · omega
            · skip
              refine r_aload_n rfl dc_1_54_83 ?_
              refine h_get (t := cT e 0) (v := .ref 3) fx_0_20 (hF 0 (by decide)) ⟨by omega, by omega⟩ (rfl) dc_1_54_84 ?_
              refine r_iload rfl dc_1_54_87 ?_
              refine r_dup2 ⟨rfl, rfl⟩ dc_1_54_89 ?_
              refine h_ild (n := 360) (e := k) (v := cs2 3 k) (hF 3 (by decide)) ⟨by omega, by omega⟩ (show k < 360 by omega) (by omega) (rfl) dc_1_54_90 ?_
              refine r_iconst (v := nI 1) (by decide) dc_1_54_91 ?_
              refine r_iadd (v := (cs2 3 k) + (nI 1)) (rfl) dc_1_54_92 ?_
              refine h_ist (n := 360) (e := k) (hF 3 (by decide)) ⟨by omega, by omega⟩ (show k < 360 by omega) (by omega) dc_1_54_93 ?_
              refine r_iinc (n := 6) (k := 1) (x := nI k) (v := nI (k + 1)) (ls' := [(6, .int (nI (k + 1))), (5, .int (nI (dBh sg nf m t tt))), (4, .int (nI m)), (0, .ref 0), (1, .int (nI p)), (2, .ref (D 0 p)), (3, .int t)]) rfl (nI_1 _) (by decide) rfl dc_1_54_94 ?_
              refine r_goto (t := 76) (by decide) dc_1_54_97 ?_
              exact ih_k (w1 cs2 3 k ((cs2 3 k) + (nI 1))) (⟨FrC_t hi_k.1 (fun a h1 _ => w1_n _ _ _ (by omega)), by omega, gs_in (P := fun _ => True) (b := 0) hi_k.2.2 hi_k.2.1 (by omega)⟩)
  obtain ⟨z9, ⟨cs1, p9, e9⟩, h9⟩ := hq9
  subst e9
  exact ⟨cs1, p9, h9⟩
def vIT (a b : Int32) (fr va vb : Nat) : Int32 := if ¬ b = -1 then (if b ≤ nI fr then nI 2 else nI 0) else if a = -1 then nI 0 else if a + nI vb ≤ nI fr then nI 2 else if nI fr < a + nI va then nI 0 else nI 1
theorem vit_ge {a : Int32} {fr va vb : Nat} (ha : inN a 359) (hf : fr < 360) (hv : va ≤ vb) (hb : vb ≤ 200) : (a + nI vb ≤ nI fr ↔ tN a + vb ≤ fr) ∧ (nI fr < a + nI va ↔ fr < tN a + va) ∧ (a + nI va ≤ nI fr ↔ tN a + va ≤ fr) := by
  have a3 := inN_tN ha (by decide)
  obtain ⟨n, hn⟩ : ∃ n, n = tN a := ⟨_, rfl⟩
  rw [← hn] at a3 ⊢
  rw [a3.1, nI_add, nI_add, nI_leI (by omega) (by omega), nI_ltI (by omega) (by omega), nI_leI (by omega) (by omega)]
  exact ⟨Iff.rfl, Iff.rfl, Iff.rfl⟩
set_option maxHeartbeats 4000000 in
theorem k_visaT {M : mH} {T : Nat → mT} {cs sg : Nat → Nat → Int32} {io : Nat → Int32} {e : Nat → Nat} {D : Nat → Nat → Nat} {nh nx ns nf ny tp : Nat} {cm : Nat → Nat} {w : Nat → Nat → Nat} {cn : Nat → Nat} {wc : Nat → Nat → Nat} (hV : CV M T cs io sg e D nh nx ns nf ny tp cm w cn wc) (p fr tt : Nat) (hp : p < nh) (h13 : sg 13 p = nI fr) (h14 : sg 14 p = nI tt) (hft : fr < tt) (htt : tt < 360) (l va vb : Nat) (h9 : sg 9 p = nI l) (hl : l < 4) (hva : sg 0 l = nI va) (hvb : sg 1 l = nI vb) (hab : va ≤ vb) (hb2 : vb ≤ 200) (a b : Int32) (ha : a = -1 ∨ inN a 359) : mm_Ev 2 161 [.ref 0, .ref (D 0 p), .int a, .int b] (hk M T cs) ((some (.int (vIT a b fr va vb)), hk M T cs)) := by
  obtain ⟨⟨hM, hMs, hW⟩, hC, hT, hR, hJ⟩ := id hV
  obtain ⟨hF, ⟨hL0, hL1, hL2⟩, hSc, hAg, hSt⟩ := id hC
  obtain ⟨⟨⟨h3, hnh⟩, ⟨h4, hnx⟩, ⟨h5, hns⟩, ⟨h7, hnf⟩, ⟨h6, hny⟩, ⟨h23, htp⟩⟩, hRa, hRb, hRs, hRs2, hRs3, hRx, hCD, hRt, hRt2, hRf⟩ := id hR
  refine r_ev (by decide +kernel) (show (4 : Nat) ≤ mm_nL 161 by decide +kernel) ?_
  show mm_Ru 1 (0, 4, false, prog_1_method_50_code, some .int) 0 [(0, .ref 0), (1, .ref (D 0 p)), (2, .int a), (3, .int b)] [] (hk M T cs) (fun r9 => r9 = ((some (.int (vIT a b fr va vb)), hk M T cs)))
  refine r_iload_n rfl dc_1_50_0 ?_
  refine r_iconst (v := -1) (by decide) dc_1_50_1 ?_
  refine r_iceq (t := 19) (by decide) dc_1_50_2 (fun c_2 => ?_) (fun c_2 => ?_)
  · skip
    refine r_iload_n rfl dc_1_50_19 ?_
    refine r_iconst (v := -1) (by decide) dc_1_50_20 ?_
    refine r_iceq (t := 54) (by decide) dc_1_50_21 (fun c_21 => ?_) (fun c_21 => ?_)
    · skip
      refine r_iconst (v := nI 0) (by decide) dc_1_50_54 ?_
      refine r_iret rfl dc_1_50_55 ?_
      unfold vIT
      rw [if_neg (fun z => z c_2)]
      rw [if_pos c_21]
    · skip
      refine r_aload_n rfl dc_1_50_24 ?_
      refine h_get (t := (9, 0, rl [(6, D 1 p)])) (v := .int (nI l)) fx_0_267 (hSc p (by omega)).1 (hSc p (by omega)).2.1 (show some (Value.int _) = _ from congrArg (fun z => some (Value.int z)) (((hV.2.1.2.2.1 p (by omega)).2.2.1.1).trans h9)) dc_1_50_25 ?_
      refine r_iconst (v := nI 0) (by decide) dc_1_50_28 ?_
      refine r_iconst (v := nI 3) (by decide) dc_1_50_29 ?_
      refine h_callS (as := [.int (nI l), .int (nI 0), .int (nI 3)]) (rest := []) (v := .int (nI 1)) rfl rfl iv_0_s84 (Or.inl rfl) na_0_13 rfl (show (0 : Nat) ≤ 8 by decide) dc_1_50_30 (k_inT _ l 0 3 (by omega) (by omega) (by decide)) ?_
      refine r_ifeq (t := 54) (by decide) dc_1_50_33 (fun c_33 => ?_) (fun c_33 => ?_)
      · exact absurd c_33 (by decide)
      · skip
        refine r_iload_n rfl dc_1_50_36 ?_
        refine r_aload_n rfl dc_1_50_37 ?_
        refine h_get (t := cT e 0) (v := .ref 1) fx_0_13 (hF 0 (by decide)) ⟨by omega, by omega⟩ (rfl) dc_1_50_38 ?_
        refine r_aload_n rfl dc_1_50_41 ?_
        refine h_get (t := (9, 0, rl [(6, D 1 p)])) (v := .int (nI l)) fx_0_267 (hSc p (by omega)).1 (hSc p (by omega)).2.1 (show some (Value.int _) = _ from congrArg (fun z => some (Value.int z)) (((hV.2.1.2.2.1 p (by omega)).2.2.1.1).trans h9)) dc_1_50_42 ?_
        refine h_ild (n := 4) (e := l) (v := nI va) (hF 1 (by decide)) ⟨by omega, by omega⟩ (show l < 4 by omega) (by omega) ((hT.2.1 l hl).1.trans hva) dc_1_50_45 ?_
        refine r_iadd (v := a + (nI va)) (rfl) dc_1_50_46 ?_
        refine r_aload_n rfl dc_1_50_47 ?_
        refine h_get (t := (9, 0, rl [(6, D 1 p)])) (v := .int (nI fr)) fx_0_407 (hSc p (by omega)).1 (hSc p (by omega)).2.1 (show some (Value.int _) = _ from congrArg (fun z => some (Value.int z)) (((hV.2.1.2.2.1 p (by omega)).2.2.1.2.2.1).trans h13)) dc_1_50_48 ?_
        refine r_icle (t := 56) (by decide) dc_1_50_51 (fun c_51 => ?_) (fun c_51 => ?_)
        · skip
          refine r_iload_n rfl dc_1_50_56 ?_
          refine r_aload_n rfl dc_1_50_57 ?_
          refine h_get (t := cT e 0) (v := .ref 2) fx_0_17 (hF 0 (by decide)) ⟨by omega, by omega⟩ (rfl) dc_1_50_58 ?_
          refine r_aload_n rfl dc_1_50_61 ?_
          refine h_get (t := (9, 0, rl [(6, D 1 p)])) (v := .int (nI l)) fx_0_267 (hSc p (by omega)).1 (hSc p (by omega)).2.1 (show some (Value.int _) = _ from congrArg (fun z => some (Value.int z)) (((hV.2.1.2.2.1 p (by omega)).2.2.1.1).trans h9)) dc_1_50_62 ?_
          refine h_ild (n := 4) (e := l) (v := nI vb) (hF 2 (by decide)) ⟨by omega, by omega⟩ (show l < 4 by omega) (by omega) ((hT.2.1 l hl).2.trans hvb) dc_1_50_65 ?_
          refine r_iadd (v := a + (nI vb)) (rfl) dc_1_50_66 ?_
          refine r_aload_n rfl dc_1_50_67 ?_
          refine h_get (t := (9, 0, rl [(6, D 1 p)])) (v := .int (nI fr)) fx_0_407 (hSc p (by omega)).1 (hSc p (by omega)).2.1 (show some (Value.int _) = _ from congrArg (fun z => some (Value.int z)) (((hV.2.1.2.2.1 p (by omega)).2.2.1.2.2.1).trans h13)) dc_1_50_68 ?_
          refine r_icgt (t := 78) (by decide) dc_1_50_71 (fun c_71 => ?_) (fun c_71 => ?_)
          · skip
            refine r_iconst (v := nI 1) (by decide) dc_1_50_78 ?_
            refine r_iret rfl dc_1_50_79 ?_
            unfold vIT
            rw [if_neg (fun z => z c_2)]
            have g := vit_ge (ha.resolve_left c_21) (by omega : fr < 360) hab hb2
            rw [if_neg c_21]
            rw [if_neg (Int32.not_le.mpr c_71), if_neg (Int32.not_lt.mpr c_51)]
          · skip
            refine r_iconst (v := nI 2) (by decide) dc_1_50_74 ?_
            refine r_goto (t := 79) (by decide) dc_1_50_75 ?_
            refine r_iret rfl dc_1_50_79 ?_
            unfold vIT
            rw [if_neg (fun z => z c_2)]
            have g := vit_ge (ha.resolve_left c_21) (by omega : fr < 360) hab hb2
            rw [if_neg c_21]
            rw [if_pos (Int32.not_lt.mp c_71)]
        · skip
          refine r_iconst (v := nI 0) (by decide) dc_1_50_54 ?_
          refine r_iret rfl dc_1_50_55 ?_
          unfold vIT
          rw [if_neg (fun z => z c_2)]
          have g := vit_ge (ha.resolve_left c_21) (by omega : fr < 360) hab hb2
          rw [if_neg c_21]
          rw [if_neg (fun z => c_51 (g.2.2.mpr (by have := g.1.mp z; omega))), if_pos (Int32.not_le.mp c_51)]
  · skip
    refine r_iload_n rfl dc_1_50_5 ?_
    refine r_aload_n rfl dc_1_50_6 ?_
    refine h_get (t := (9, 0, rl [(6, D 1 p)])) (v := .int (nI fr)) fx_0_407 (hSc p (by omega)).1 (hSc p (by omega)).2.1 (show some (Value.int _) = _ from congrArg (fun z => some (Value.int z)) (((hV.2.1.2.2.1 p (by omega)).2.2.1.2.2.1).trans h13)) dc_1_50_7 ?_
    refine r_icgt (t := 17) (by decide) dc_1_50_10 (fun c_10 => ?_) (fun c_10 => ?_)
    · skip
      refine r_iconst (v := nI 0) (by decide) dc_1_50_17 ?_
      refine r_iret rfl dc_1_50_18 ?_
      unfold vIT
      rw [if_pos c_2, if_neg (Int32.not_le.mpr c_10)]
    · skip
      refine r_iconst (v := nI 2) (by decide) dc_1_50_13 ?_
      refine r_goto (t := 18) (by decide) dc_1_50_14 ?_
      refine r_iret rfl dc_1_50_18 ?_
      unfold vIT
      rw [if_pos c_2, if_pos (Int32.not_lt.mp c_10)]
set_option maxHeartbeats 4000000 in
theorem k_shS_1 {M : mH} {T : Nat → mT} {cs sg : Nat → Nat → Int32} {io : Nat → Int32} {e : Nat → Nat} {D : Nat → Nat → Nat} {nh nx ns nf ny tp : Nat} {cm : Nat → Nat} {w : Nat → Nat → Nat} {cn : Nat → Nat} {wc : Nat → Nat → Nat} (hV : CV M T cs io sg e D nh nx ns nf ny tp cm w cn wc) (h : Nat) (hh : h < nh) : mm_Ev 5 183 [.ref 0, .int (nI h), .int (nI 1)] (hk M T cs) ((some (.int (sg 11 h)), hk M T cs)) := by
  obtain ⟨⟨hM, hMs, hW⟩, hC, hT, hR, hJ⟩ := id hV
  obtain ⟨hF, ⟨hL0, hL1, hL2⟩, hSc, hAg, hSt⟩ := id hC
  obtain ⟨⟨⟨h3, hnh⟩, ⟨h4, hnx⟩, ⟨h5, hns⟩, ⟨h7, hnf⟩, ⟨h6, hny⟩, ⟨h23, htp⟩⟩, hRa, hRb, hRs, hRs2, hRs3, hRx, hCD, hRt, hRt2, hRf⟩ := id hR
  have q16 := inN_tN (hRs h hh).2.2.2.2.2 (by decide)
  refine r_ev (by decide +kernel) (show (3 : Nat) ≤ mm_nL 183 by decide +kernel) ?_
  show mm_Ru 4 (0, 4, false, prog_1_method_49_code, some .int) 0 [(0, .ref 0), (1, .int (nI h)), (2, .int (nI 1))] [] (hk M T cs) (fun r9 => r9 = ((some (.int (sg 11 h)), hk M T cs)))
  refine r_aload_n rfl dc_1_49_0 ?_
  refine r_iload_n rfl dc_1_49_1 ?_
  refine h_callv (t := cT e 0) (as := [.int (nI h)]) (rest := []) (v := .ref (D 0 h)) (M1 := hk M T cs) rfl rfl iv_0_v128 (Or.inl rfl) na_1_39 (hF 0 (by decide)) ⟨by omega, by omega⟩ (show (0 : Nat) < 14 by decide) o_39 rfl (show (0 : Nat) ≤ 8 by decide) dc_1_49_2 (k_scAt_ok hV h hh) ?_
  refine r_astore_n (ls' := [(3, .ref (D 0 h)), (0, .ref 0), (1, .int (nI h)), (2, .int (nI 1))]) (by decide) rfl dc_1_49_5 ?_
  refine r_aload_n rfl dc_1_49_6 ?_
  refine r_ifnonnull (t := 12) (by decide) dc_1_49_7 ?_
  refine r_iload_n rfl dc_1_49_12 ?_
  refine r_iconst (v := nI 1) (by decide) dc_1_49_13 ?_
  refine r_ncne (t := 22) (by omega) (by omega) (by decide) dc_1_49_14 (fun c_14 => ?_) (fun c_14 => ?_)
  · omega
  · skip
    refine r_aload_n rfl dc_1_49_17 ?_
    refine h_get (t := (9, 0, rl [(6, D 1 h)])) (v := .int (sg 11 h)) fx_0_132 (hSc h (by omega)).1 (hSc h (by omega)).2.1 (show some (Value.int _) = _ from congrArg (fun z => some (Value.int z)) ((hV.2.1.2.2.1 h (by omega)).2.2.1.2.2.2.2.2)) dc_1_49_18 ?_
    exact r_iret rfl dc_1_49_21 (rfl)
set_option maxHeartbeats 4000000 in
theorem k_shS_2 {M : mH} {T : Nat → mT} {cs sg : Nat → Nat → Int32} {io : Nat → Int32} {e : Nat → Nat} {D : Nat → Nat → Nat} {nh nx ns nf ny tp : Nat} {cm : Nat → Nat} {w : Nat → Nat → Nat} {cn : Nat → Nat} {wc : Nat → Nat → Nat} (hV : CV M T cs io sg e D nh nx ns nf ny tp cm w cn wc) (h : Nat) (hh : h < nh) : mm_Ev 5 183 [.ref 0, .int (nI h), .int (nI 2)] (hk M T cs) ((some (.int (sp_pin sg ns (nI h))), hk M T cs)) := by
  obtain ⟨⟨hM, hMs, hW⟩, hC, hT, hR, hJ⟩ := id hV
  obtain ⟨hF, ⟨hL0, hL1, hL2⟩, hSc, hAg, hSt⟩ := id hC
  obtain ⟨⟨⟨h3, hnh⟩, ⟨h4, hnx⟩, ⟨h5, hns⟩, ⟨h7, hnf⟩, ⟨h6, hny⟩, ⟨h23, htp⟩⟩, hRa, hRb, hRs, hRs2, hRs3, hRx, hCD, hRt, hRt2, hRf⟩ := id hR
  have q16 := inN_tN (hRs h hh).2.2.2.2.2 (by decide)
  refine r_ev (by decide +kernel) (show (3 : Nat) ≤ mm_nL 183 by decide +kernel) ?_
  show mm_Ru 4 (0, 4, false, prog_1_method_49_code, some .int) 0 [(0, .ref 0), (1, .int (nI h)), (2, .int (nI 2))] [] (hk M T cs) (fun r9 => r9 = ((some (.int (sp_pin sg ns (nI h))), hk M T cs)))
  refine r_aload_n rfl dc_1_49_0 ?_
  refine r_iload_n rfl dc_1_49_1 ?_
  refine h_callv (t := cT e 0) (as := [.int (nI h)]) (rest := []) (v := .ref (D 0 h)) (M1 := hk M T cs) rfl rfl iv_0_v128 (Or.inl rfl) na_1_39 (hF 0 (by decide)) ⟨by omega, by omega⟩ (show (0 : Nat) < 14 by decide) o_39 rfl (show (0 : Nat) ≤ 8 by decide) dc_1_49_2 (k_scAt_ok hV h hh) ?_
  refine r_astore_n (ls' := [(3, .ref (D 0 h)), (0, .ref 0), (1, .int (nI h)), (2, .int (nI 2))]) (by decide) rfl dc_1_49_5 ?_
  refine r_aload_n rfl dc_1_49_6 ?_
  refine r_ifnonnull (t := 12) (by decide) dc_1_49_7 ?_
  refine r_iload_n rfl dc_1_49_12 ?_
  refine r_iconst (v := nI 1) (by decide) dc_1_49_13 ?_
  refine r_ncne (t := 22) (by omega) (by omega) (by decide) dc_1_49_14 (fun c_14 => ?_) (fun c_14 => ?_)
  · skip
    refine r_iload_n rfl dc_1_49_22 ?_
    refine r_iconst (v := nI 2) (by decide) dc_1_49_23 ?_
    refine r_ncne (t := 35) (by omega) (by omega) (by decide) dc_1_49_24 (fun c_24 => ?_) (fun c_24 => ?_)
    · omega
    · skip
      refine r_aload_n rfl dc_1_49_27 ?_
      refine r_iload_n rfl dc_1_49_28 ?_
      refine h_callv (t := cT e 0) (as := [.int (nI h)]) (rest := []) (v := .int (sp_pin sg ns (nI h))) (M1 := hk M T cs) rfl rfl iv_0_v404 (Or.inl rfl) na_1_184 (hF 0 (by decide)) ⟨by omega, by omega⟩ (show (0 : Nat) < 14 by decide) o_184 rfl (show (0 : Nat) ≤ 8 by decide) dc_1_49_29 (k_plAt hV h hh) ?_
      refine r_goto (t := 44) (by decide) dc_1_49_32 ?_
      exact r_iret rfl dc_1_49_44 (rfl)
  · omega
set_option maxHeartbeats 4000000 in
theorem k_shS_3 {M : mH} {T : Nat → mT} {cs sg : Nat → Nat → Int32} {io : Nat → Int32} {e : Nat → Nat} {D : Nat → Nat → Nat} {nh nx ns nf ny tp : Nat} {cm : Nat → Nat} {w : Nat → Nat → Nat} {cn : Nat → Nat} {wc : Nat → Nat → Nat} (hV : CV M T cs io sg e D nh nx ns nf ny tp cm w cn wc) (h : Nat) (hh : h < nh) : mm_Ev 5 183 [.ref 0, .int (nI h), .int (nI 3)] (hk M T cs) ((some (.int (nI (tN (sg 16 h)))), hk M T cs)) := by
  obtain ⟨⟨hM, hMs, hW⟩, hC, hT, hR, hJ⟩ := id hV
  obtain ⟨hF, ⟨hL0, hL1, hL2⟩, hSc, hAg, hSt⟩ := id hC
  obtain ⟨⟨⟨h3, hnh⟩, ⟨h4, hnx⟩, ⟨h5, hns⟩, ⟨h7, hnf⟩, ⟨h6, hny⟩, ⟨h23, htp⟩⟩, hRa, hRb, hRs, hRs2, hRs3, hRx, hCD, hRt, hRt2, hRf⟩ := id hR
  have q16 := inN_tN (hRs h hh).2.2.2.2.2 (by decide)
  refine r_ev (by decide +kernel) (show (3 : Nat) ≤ mm_nL 183 by decide +kernel) ?_
  show mm_Ru 4 (0, 4, false, prog_1_method_49_code, some .int) 0 [(0, .ref 0), (1, .int (nI h)), (2, .int (nI 3))] [] (hk M T cs) (fun r9 => r9 = ((some (.int (nI (tN (sg 16 h)))), hk M T cs)))
  refine r_aload_n rfl dc_1_49_0 ?_
  refine r_iload_n rfl dc_1_49_1 ?_
  refine h_callv (t := cT e 0) (as := [.int (nI h)]) (rest := []) (v := .ref (D 0 h)) (M1 := hk M T cs) rfl rfl iv_0_v128 (Or.inl rfl) na_1_39 (hF 0 (by decide)) ⟨by omega, by omega⟩ (show (0 : Nat) < 14 by decide) o_39 rfl (show (0 : Nat) ≤ 8 by decide) dc_1_49_2 (k_scAt_ok hV h hh) ?_
  refine r_astore_n (ls' := [(3, .ref (D 0 h)), (0, .ref 0), (1, .int (nI h)), (2, .int (nI 3))]) (by decide) rfl dc_1_49_5 ?_
  refine r_aload_n rfl dc_1_49_6 ?_
  refine r_ifnonnull (t := 12) (by decide) dc_1_49_7 ?_
  refine r_iload_n rfl dc_1_49_12 ?_
  refine r_iconst (v := nI 1) (by decide) dc_1_49_13 ?_
  refine r_ncne (t := 22) (by omega) (by omega) (by decide) dc_1_49_14 (fun c_14 => ?_) (fun c_14 => ?_)
  · skip
    refine r_iload_n rfl dc_1_49_22 ?_
    refine r_iconst (v := nI 2) (by decide) dc_1_49_23 ?_
    refine r_ncne (t := 35) (by omega) (by omega) (by decide) dc_1_49_24 (fun c_24 => ?_) (fun c_24 => ?_)
    · skip
      refine r_aload_n rfl dc_1_49_35 ?_
      refine h_get (t := (9, 0, rl [(6, D 1 h)])) (v := .ref (D 1 h)) fx_0_221 (hSc h (by omega)).1 (hSc h (by omega)).2.1 (rfl) dc_1_49_36 ?_
      refine h_callv (t := (6, 0, rl [(0, D 2 h)])) (as := []) (rest := []) (v := .int (nI (tN (sg 16 h)))) (M1 := hk M T cs) rfl rfl iv_0_f113 (Or.inr (Or.inr rfl)) na_6_26 (hSc h (by omega)).2.2.2.1.1 (hSc h (by omega)).2.2.2.1.2.1 (show (6 : Nat) < 14 by decide) o_26 rfl (show (0 : Nat) ≤ 8 by decide) dc_1_49_39 (mm_Ev_up (by decide : 1 ≤ 4) (k_sizeL (hV.2.1.2.2.1 h (by omega)).2.2.2.1)) ?_
      exact r_iret rfl dc_1_49_44 (rfl)
    · omega
  · omega
set_option maxHeartbeats 4000000 in
theorem k_shS_n {M : mH} {T : Nat → mT} {cs sg : Nat → Nat → Int32} {io : Nat → Int32} {e : Nat → Nat} {D : Nat → Nat → Nat} {nh nx ns nf ny tp : Nat} {cm : Nat → Nat} {w : Nat → Nat → Nat} {cn : Nat → Nat} {wc : Nat → Nat → Nat} (hV : CV M T cs io sg e D nh nx ns nf ny tp cm w cn wc) (v x : Int32) (hno : ¬ (0 ≤ v ∧ v < nI nh)) : mm_Ev 3 183 [.ref 0, .int v, .int x] (hk M T cs) ((some (.int (-1)), hk M T cs)) := by
  obtain ⟨⟨hM, hMs, hW⟩, hC, hT, hR, hJ⟩ := id hV
  obtain ⟨hF, ⟨hL0, hL1, hL2⟩, hSc, hAg, hSt⟩ := id hC
  obtain ⟨⟨⟨h3, hnh⟩, ⟨h4, hnx⟩, ⟨h5, hns⟩, ⟨h7, hnf⟩, ⟨h6, hny⟩, ⟨h23, htp⟩⟩, hRa, hRb, hRs, hRs2, hRs3, hRx, hCD, hRt, hRt2, hRf⟩ := id hR
  refine r_ev (by decide +kernel) (show (3 : Nat) ≤ mm_nL 183 by decide +kernel) ?_
  show mm_Ru 2 (0, 4, false, prog_1_method_49_code, some .int) 0 [(0, .ref 0), (1, .int v), (2, .int x)] [] (hk M T cs) (fun r9 => r9 = ((some (.int (-1)), hk M T cs)))
  refine r_aload_n rfl dc_1_49_0 ?_
  refine r_iload_n rfl dc_1_49_1 ?_
  refine h_callv (t := cT e 0) (as := [.int v]) (rest := []) (v := .null) (M1 := hk M T cs) rfl rfl iv_0_v128 (Or.inl rfl) na_1_39 (hF 0 (by decide)) ⟨by omega, by omega⟩ (show (0 : Nat) < 14 by decide) o_39 rfl (show (0 : Nat) ≤ 8 by decide) dc_1_49_2 (k_scAt_no hV v hno) ?_
  refine r_astore_nZ (ls' := [(3, .null), (0, .ref 0), (1, .int v), (2, .int x)]) (by decide) rfl dc_1_49_5 ?_
  refine r_aload_nZ rfl dc_1_49_6 ?_
  refine r_ifnonnullZ dc_1_49_7 ?_
  refine r_iconst (v := -1) (by decide) dc_1_49_10 ?_
  exact r_iret rfl dc_1_49_11 (rfl)
