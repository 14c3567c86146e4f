/-! plans: the search -/
theorem dc_7_14_0 : decode prog_7_method_14_code 0 = .ok (.iload_n 1, 1) := by decide +kernel
theorem dc_7_14_1 : decode prog_7_method_14_code 1 = .ok (.ifCond .lt 54, 3) := by decide +kernel
theorem dc_7_14_4 : decode prog_7_method_14_code 4 = .ok (.iload_n 1, 1) := by decide +kernel
theorem dc_7_14_5 : decode prog_7_method_14_code 5 = .ok (.aload_n 0, 1) := by decide +kernel
theorem dc_7_14_6 : decode prog_7_method_14_code 6 = .ok (.getfield 20, 3) := by decide +kernel
theorem dc_7_14_9 : decode prog_7_method_14_code 9 = .ok (.if_icmp .gt 46, 3) := by decide +kernel
theorem dc_7_14_12 : decode prog_7_method_14_code 12 = .ok (.iload_n 1, 1) := by decide +kernel
theorem dc_7_14_13 : decode prog_7_method_14_code 13 = .ok (.bipush 7, 2) := by decide +kernel
theorem dc_7_14_15 : decode prog_7_method_14_code 15 = .ok (.if_icmp .gt 40, 3) := by decide +kernel
theorem dc_7_14_18 : decode prog_7_method_14_code 18 = .ok (.iload_n 2, 1) := by decide +kernel
theorem dc_7_14_19 : decode prog_7_method_14_code 19 = .ok (.aload_n 0, 1) := by decide +kernel
theorem dc_7_14_20 : decode prog_7_method_14_code 20 = .ok (.getfield 48, 3) := by decide +kernel
theorem dc_7_14_23 : decode prog_7_method_14_code 23 = .ok (.iload_n 1, 1) := by decide +kernel
theorem dc_7_14_24 : decode prog_7_method_14_code 24 = .ok (.iaload, 1) := by decide +kernel
theorem dc_7_14_25 : decode prog_7_method_14_code 25 = .ok (.iadd, 1) := by decide +kernel
theorem dc_7_14_26 : decode prog_7_method_14_code 26 = .ok (.aload_n 0, 1) := by decide +kernel
theorem dc_7_14_27 : decode prog_7_method_14_code 27 = .ok (.getfield 64, 3) := by decide +kernel
theorem dc_7_14_30 : decode prog_7_method_14_code 30 = .ok (.if_icmp .le 25, 3) := by decide +kernel
theorem dc_7_14_33 : decode prog_7_method_14_code 33 = .ok (.aload_n 0, 1) := by decide +kernel
theorem dc_7_14_34 : decode prog_7_method_14_code 34 = .ok (.getfield 14, 3) := by decide +kernel
theorem dc_7_14_37 : decode prog_7_method_14_code 37 = .ok (.aload_n 0, 1) := by decide +kernel
theorem dc_7_14_38 : decode prog_7_method_14_code 38 = .ok (.getfield 51, 3) := by decide +kernel
theorem dc_7_14_41 : decode prog_7_method_14_code 41 = .ok (.iload_n 1, 1) := by decide +kernel
theorem dc_7_14_42 : decode prog_7_method_14_code 42 = .ok (.aaload, 1) := by decide +kernel
theorem dc_7_14_43 : decode prog_7_method_14_code 43 = .ok (.aload_n 0, 1) := by decide +kernel
theorem dc_7_14_44 : decode prog_7_method_14_code 44 = .ok (.getfield 54, 3) := by decide +kernel
theorem dc_7_14_47 : decode prog_7_method_14_code 47 = .ok (.iload_n 1, 1) := by decide +kernel
theorem dc_7_14_48 : decode prog_7_method_14_code 48 = .ok (.aaload, 1) := by decide +kernel
theorem dc_7_14_49 : decode prog_7_method_14_code 49 = .ok (.invokevirtual 117, 3) := by decide +kernel
theorem dc_7_14_52 : decode prog_7_method_14_code 52 = .ok (.ifCond .ne 4, 3) := by decide +kernel
theorem dc_7_14_55 : decode prog_7_method_14_code 55 = .ok (.return_, 1) := by decide +kernel
theorem dc_7_14_56 : decode prog_7_method_14_code 56 = .ok (.iload_n 1, 1) := by decide +kernel
theorem dc_7_14_57 : decode prog_7_method_14_code 57 = .ok (.aload_n 0, 1) := by decide +kernel
theorem dc_7_14_58 : decode prog_7_method_14_code 58 = .ok (.getfield 20, 3) := by decide +kernel
theorem dc_7_14_61 : decode prog_7_method_14_code 61 = .ok (.if_icmp .eq 9, 3) := by decide +kernel
theorem dc_7_14_64 : decode prog_7_method_14_code 64 = .ok (.iload_n 1, 1) := by decide +kernel
theorem dc_7_14_65 : decode prog_7_method_14_code 65 = .ok (.bipush 7, 2) := by decide +kernel
theorem dc_7_14_67 : decode prog_7_method_14_code 67 = .ok (.if_icmp .ne 24, 3) := by decide +kernel
theorem dc_7_14_70 : decode prog_7_method_14_code 70 = .ok (.aload_n 0, 1) := by decide +kernel
theorem dc_7_14_71 : decode prog_7_method_14_code 71 = .ok (.iload_n 2, 1) := by decide +kernel
theorem dc_7_14_72 : decode prog_7_method_14_code 72 = .ok (.putfield 64, 3) := by decide +kernel
theorem dc_7_14_75 : decode prog_7_method_14_code 75 = .ok (.aload_n 0, 1) := by decide +kernel
theorem dc_7_14_76 : decode prog_7_method_14_code 76 = .ok (.getfield 57, 3) := by decide +kernel
theorem dc_7_14_79 : decode prog_7_method_14_code 79 = .ok (.iconst 0, 1) := by decide +kernel
theorem dc_7_14_80 : decode prog_7_method_14_code 80 = .ok (.aload_n 0, 1) := by decide +kernel
theorem dc_7_14_81 : decode prog_7_method_14_code 81 = .ok (.getfield 60, 3) := by decide +kernel
theorem dc_7_14_84 : decode prog_7_method_14_code 84 = .ok (.iconst 0, 1) := by decide +kernel
theorem dc_7_14_85 : decode prog_7_method_14_code 85 = .ok (.bipush 7, 2) := by decide +kernel
theorem dc_7_14_87 : decode prog_7_method_14_code 87 = .ok (.invokestatic 107, 3) := by decide +kernel
theorem dc_7_14_90 : decode prog_7_method_14_code 90 = .ok (.return_, 1) := by decide +kernel
theorem dc_7_14_91 : decode prog_7_method_14_code 91 = .ok (.iconst 0, 1) := by decide +kernel
theorem dc_7_14_92 : decode prog_7_method_14_code 92 = .ok (.istore_n 3, 1) := by decide +kernel
theorem dc_7_14_93 : decode prog_7_method_14_code 93 = .ok (.iload_n 3, 1) := by decide +kernel
theorem dc_7_14_94 : decode prog_7_method_14_code 94 = .ok (.aload_n 0, 1) := by decide +kernel
theorem dc_7_14_95 : decode prog_7_method_14_code 95 = .ok (.getfield 28, 3) := by decide +kernel
theorem dc_7_14_98 : decode prog_7_method_14_code 98 = .ok (.iload_n 1, 1) := by decide +kernel
theorem dc_7_14_99 : decode prog_7_method_14_code 99 = .ok (.iaload, 1) := by decide +kernel
theorem dc_7_14_100 : decode prog_7_method_14_code 100 = .ok (.if_icmp .ge 21, 3) := by decide +kernel
theorem dc_7_14_103 : decode prog_7_method_14_code 103 = .ok (.iload_n 3, 1) := by decide +kernel
theorem dc_7_14_104 : decode prog_7_method_14_code 104 = .ok (.iconst 5, 1) := by decide +kernel
theorem dc_7_14_105 : decode prog_7_method_14_code 105 = .ok (.if_icmp .ge 16, 3) := by decide +kernel
theorem dc_7_14_108 : decode prog_7_method_14_code 108 = .ok (.aload_n 0, 1) := by decide +kernel
theorem dc_7_14_109 : decode prog_7_method_14_code 109 = .ok (.iload_n 1, 1) := by decide +kernel
theorem dc_7_14_110 : decode prog_7_method_14_code 110 = .ok (.iload_n 3, 1) := by decide +kernel
theorem dc_7_14_111 : decode prog_7_method_14_code 111 = .ok (.iload_n 2, 1) := by decide +kernel
theorem dc_7_14_112 : decode prog_7_method_14_code 112 = .ok (.invokevirtual 121, 3) := by decide +kernel
theorem dc_7_14_115 : decode prog_7_method_14_code 115 = .ok (.iinc 3 1, 3) := by decide +kernel
theorem dc_7_14_118 : decode prog_7_method_14_code 118 = .ok (.goto (-25), 3) := by decide +kernel
theorem dc_7_14_121 : decode prog_7_method_14_code 121 = .ok (.return_, 1) := by decide +kernel
theorem dc_7_15_0 : decode prog_7_method_15_code 0 = .ok (.iload_n 1, 1) := by decide +kernel
theorem dc_7_15_1 : decode prog_7_method_15_code 1 = .ok (.ifCond .lt 18, 3) := by decide +kernel
theorem dc_7_15_4 : decode prog_7_method_15_code 4 = .ok (.iload_n 1, 1) := by decide +kernel
theorem dc_7_15_5 : decode prog_7_method_15_code 5 = .ok (.bipush 7, 2) := by decide +kernel
theorem dc_7_15_7 : decode prog_7_method_15_code 7 = .ok (.if_icmp .ge 12, 3) := by decide +kernel
theorem dc_7_15_10 : decode prog_7_method_15_code 10 = .ok (.iload_n 2, 1) := by decide +kernel
theorem dc_7_15_11 : decode prog_7_method_15_code 11 = .ok (.ifCond .lt 8, 3) := by decide +kernel
theorem dc_7_15_14 : decode prog_7_method_15_code 14 = .ok (.iload_n 2, 1) := by decide +kernel
theorem dc_7_15_15 : decode prog_7_method_15_code 15 = .ok (.iconst 5, 1) := by decide +kernel
theorem dc_7_15_16 : decode prog_7_method_15_code 16 = .ok (.if_icmp .lt 4, 3) := by decide +kernel
theorem dc_7_15_20 : decode prog_7_method_15_code 20 = .ok (.aload_n 0, 1) := by decide +kernel
theorem dc_7_15_21 : decode prog_7_method_15_code 21 = .ok (.getfield 39, 3) := by decide +kernel
theorem dc_7_15_24 : decode prog_7_method_15_code 24 = .ok (.iload_n 1, 1) := by decide +kernel
theorem dc_7_15_25 : decode prog_7_method_15_code 25 = .ok (.aaload, 1) := by decide +kernel
theorem dc_7_15_26 : decode prog_7_method_15_code 26 = .ok (.iload_n 2, 1) := by decide +kernel
theorem dc_7_15_27 : decode prog_7_method_15_code 27 = .ok (.iaload, 1) := by decide +kernel
theorem dc_7_15_28 : decode prog_7_method_15_code 28 = .ok (.istore 4, 2) := by decide +kernel
theorem dc_7_15_30 : decode prog_7_method_15_code 30 = .ok (.aload_n 0, 1) := by decide +kernel
theorem dc_7_15_31 : decode prog_7_method_15_code 31 = .ok (.getfield 36, 3) := by decide +kernel
theorem dc_7_15_34 : decode prog_7_method_15_code 34 = .ok (.iload_n 1, 1) := by decide +kernel
theorem dc_7_15_35 : decode prog_7_method_15_code 35 = .ok (.aaload, 1) := by decide +kernel
theorem dc_7_15_36 : decode prog_7_method_15_code 36 = .ok (.iload_n 2, 1) := by decide +kernel
theorem dc_7_15_37 : decode prog_7_method_15_code 37 = .ok (.iaload, 1) := by decide +kernel
theorem dc_7_15_38 : decode prog_7_method_15_code 38 = .ok (.istore 5, 2) := by decide +kernel
theorem dc_7_15_40 : decode prog_7_method_15_code 40 = .ok (.aload_n 0, 1) := by decide +kernel
theorem dc_7_15_41 : decode prog_7_method_15_code 41 = .ok (.getfield 42, 3) := by decide +kernel
theorem dc_7_15_44 : decode prog_7_method_15_code 44 = .ok (.iload_n 1, 1) := by decide +kernel
theorem dc_7_15_45 : decode prog_7_method_15_code 45 = .ok (.aaload, 1) := by decide +kernel
theorem dc_7_15_46 : decode prog_7_method_15_code 46 = .ok (.iload_n 2, 1) := by decide +kernel
theorem dc_7_15_47 : decode prog_7_method_15_code 47 = .ok (.iaload, 1) := by decide +kernel
theorem dc_7_15_48 : decode prog_7_method_15_code 48 = .ok (.istore 6, 2) := by decide +kernel
theorem dc_7_15_50 : decode prog_7_method_15_code 50 = .ok (.iload 4, 2) := by decide +kernel
theorem dc_7_15_52 : decode prog_7_method_15_code 52 = .ok (.iconst (-1), 1) := by decide +kernel
theorem dc_7_15_53 : decode prog_7_method_15_code 53 = .ok (.if_icmp .eq 19, 3) := by decide +kernel
theorem dc_7_15_56 : decode prog_7_method_15_code 56 = .ok (.aload_n 0, 1) := by decide +kernel
theorem dc_7_15_57 : decode prog_7_method_15_code 57 = .ok (.getfield 14, 3) := by decide +kernel
theorem dc_7_15_60 : decode prog_7_method_15_code 60 = .ok (.iload 4, 2) := by decide +kernel
theorem dc_7_15_62 : decode prog_7_method_15_code 62 = .ok (.iload 5, 2) := by decide +kernel
theorem dc_7_15_64 : decode prog_7_method_15_code 64 = .ok (.iload 6, 2) := by decide +kernel
theorem dc_7_15_66 : decode prog_7_method_15_code 66 = .ok (.invokevirtual 124, 3) := by decide +kernel
theorem dc_7_15_69 : decode prog_7_method_15_code 69 = .ok (.ifCond .eq 55, 3) := by decide +kernel
theorem dc_7_15_72 : decode prog_7_method_15_code 72 = .ok (.aload_n 0, 1) := by decide +kernel
theorem dc_7_15_73 : decode prog_7_method_15_code 73 = .ok (.getfield 57, 3) := by decide +kernel
theorem dc_7_15_76 : decode prog_7_method_15_code 76 = .ok (.iload_n 1, 1) := by decide +kernel
theorem dc_7_15_77 : decode prog_7_method_15_code 77 = .ok (.iload_n 2, 1) := by decide +kernel
theorem dc_7_15_78 : decode prog_7_method_15_code 78 = .ok (.iastore, 1) := by decide +kernel
theorem dc_7_15_79 : decode prog_7_method_15_code 79 = .ok (.aload_n 0, 1) := by decide +kernel
theorem dc_7_15_80 : decode prog_7_method_15_code 80 = .ok (.getfield 14, 3) := by decide +kernel
theorem dc_7_15_83 : decode prog_7_method_15_code 83 = .ok (.iload 4, 2) := by decide +kernel
theorem dc_7_15_85 : decode prog_7_method_15_code 85 = .ok (.iload 5, 2) := by decide +kernel
theorem dc_7_15_87 : decode prog_7_method_15_code 87 = .ok (.iload 6, 2) := by decide +kernel
theorem dc_7_15_89 : decode prog_7_method_15_code 89 = .ok (.iconst 1, 1) := by decide +kernel
theorem dc_7_15_90 : decode prog_7_method_15_code 90 = .ok (.invokevirtual 128, 3) := by decide +kernel
theorem dc_7_15_93 : decode prog_7_method_15_code 93 = .ok (.aload_n 0, 1) := by decide +kernel
theorem dc_7_15_94 : decode prog_7_method_15_code 94 = .ok (.iload_n 1, 1) := by decide +kernel
theorem dc_7_15_95 : decode prog_7_method_15_code 95 = .ok (.iconst 1, 1) := by decide +kernel
theorem dc_7_15_96 : decode prog_7_method_15_code 96 = .ok (.iadd, 1) := by decide +kernel
theorem dc_7_15_97 : decode prog_7_method_15_code 97 = .ok (.iload_n 3, 1) := by decide +kernel
theorem dc_7_15_98 : decode prog_7_method_15_code 98 = .ok (.aload_n 0, 1) := by decide +kernel
theorem dc_7_15_99 : decode prog_7_method_15_code 99 = .ok (.getfield 45, 3) := by decide +kernel
theorem dc_7_15_102 : decode prog_7_method_15_code 102 = .ok (.iload_n 1, 1) := by decide +kernel
theorem dc_7_15_103 : decode prog_7_method_15_code 103 = .ok (.aaload, 1) := by decide +kernel
theorem dc_7_15_104 : decode prog_7_method_15_code 104 = .ok (.iload_n 2, 1) := by decide +kernel
theorem dc_7_15_105 : decode prog_7_method_15_code 105 = .ok (.iaload, 1) := by decide +kernel
theorem dc_7_15_106 : decode prog_7_method_15_code 106 = .ok (.iadd, 1) := by decide +kernel
theorem dc_7_15_107 : decode prog_7_method_15_code 107 = .ok (.invokevirtual 84, 3) := by decide +kernel
theorem dc_7_15_110 : decode prog_7_method_15_code 110 = .ok (.aload_n 0, 1) := by decide +kernel
theorem dc_7_15_111 : decode prog_7_method_15_code 111 = .ok (.getfield 14, 3) := by decide +kernel
theorem dc_7_15_114 : decode prog_7_method_15_code 114 = .ok (.iload 4, 2) := by decide +kernel
theorem dc_7_15_116 : decode prog_7_method_15_code 116 = .ok (.iload 5, 2) := by decide +kernel
theorem dc_7_15_118 : decode prog_7_method_15_code 118 = .ok (.iload 6, 2) := by decide +kernel
theorem dc_7_15_120 : decode prog_7_method_15_code 120 = .ok (.iconst (-1), 1) := by decide +kernel
theorem dc_7_15_121 : decode prog_7_method_15_code 121 = .ok (.invokevirtual 128, 3) := by decide +kernel
theorem dc_7_15_124 : decode prog_7_method_15_code 124 = .ok (.return_, 1) := by decide +kernel
theorem dc_7_7_0 : decode prog_7_method_7_code 0 = .ok (.aload_n 0, 1) := by decide +kernel
theorem dc_7_7_1 : decode prog_7_method_7_code 1 = .ok (.ldc 63, 2) := by decide +kernel
theorem dc_7_7_3 : decode prog_7_method_7_code 3 = .ok (.putfield 64, 3) := by decide +kernel
theorem dc_7_7_6 : decode prog_7_method_7_code 6 = .ok (.aload_n 0, 1) := by decide +kernel
theorem dc_7_7_7 : decode prog_7_method_7_code 7 = .ok (.invokevirtual 77, 3) := by decide +kernel
theorem dc_7_7_10 : decode prog_7_method_7_code 10 = .ok (.aload_n 0, 1) := by decide +kernel
theorem dc_7_7_11 : decode prog_7_method_7_code 11 = .ok (.getfield 14, 3) := by decide +kernel
theorem dc_7_7_14 : decode prog_7_method_7_code 14 = .ok (.invokevirtual 80, 3) := by decide +kernel
theorem dc_7_7_17 : decode prog_7_method_7_code 17 = .ok (.ifCond .eq 9, 3) := by decide +kernel
theorem dc_7_7_20 : decode prog_7_method_7_code 20 = .ok (.aload_n 0, 1) := by decide +kernel
theorem dc_7_7_21 : decode prog_7_method_7_code 21 = .ok (.iconst 0, 1) := by decide +kernel
theorem dc_7_7_22 : decode prog_7_method_7_code 22 = .ok (.iconst 0, 1) := by decide +kernel
theorem dc_7_7_23 : decode prog_7_method_7_code 23 = .ok (.invokevirtual 84, 3) := by decide +kernel
theorem dc_7_7_26 : decode prog_7_method_7_code 26 = .ok (.aload_n 0, 1) := by decide +kernel
theorem dc_7_7_27 : decode prog_7_method_7_code 27 = .ok (.getfield 64, 3) := by decide +kernel
theorem dc_7_7_30 : decode prog_7_method_7_code 30 = .ok (.ldc 63, 2) := by decide +kernel
theorem dc_7_7_32 : decode prog_7_method_7_code 32 = .ok (.if_icmp .eq 7, 3) := by decide +kernel
theorem dc_7_7_35 : decode prog_7_method_7_code 35 = .ok (.iconst 1, 1) := by decide +kernel
theorem dc_7_7_36 : decode prog_7_method_7_code 36 = .ok (.goto 4, 3) := by decide +kernel
theorem dc_7_7_39 : decode prog_7_method_7_code 39 = .ok (.iconst 0, 1) := by decide +kernel
theorem dc_7_7_40 : decode prog_7_method_7_code 40 = .ok (.ireturn, 1) := by decide +kernel
theorem iv_7_v117 : mm_iv 7 (.invokevirtual 117) = some (1, 131) := by decide +kernel
theorem iv_7_v121 : mm_iv 7 (.invokevirtual 121) = some (1, 273) := by decide +kernel
theorem iv_7_v124 : mm_iv 7 (.invokevirtual 124) = some (1, 132) := by decide +kernel
theorem iv_7_v128 : mm_iv 7 (.invokevirtual 128) = some (1, 124) := by decide +kernel
theorem iv_7_v77 : mm_iv 7 (.invokevirtual 77) = some (1, 127) := by decide +kernel
theorem iv_7_v80 : mm_iv 7 (.invokevirtual 80) = some (1, 129) := by decide +kernel
theorem iv_7_v84 : mm_iv 7 (.invokevirtual 84) = some (1, 130) := by decide +kernel
theorem o_124 : mm_o 124 = 8 := by decide +kernel
theorem o_127 : mm_o 127 = 7 := by decide +kernel
theorem o_129 : mm_o 129 = 8 := by decide +kernel
theorem o_130 : mm_o 130 = 7 := by decide +kernel
theorem o_131 : mm_o 131 = 8 := by decide +kernel
theorem o_132 : mm_o 132 = 8 := by decide +kernel
theorem o_273 : mm_o 273 = 7 := by decide +kernel
theorem na_1_124 : mm_nas 1 124 = 5 := by decide +kernel
theorem na_1_127 : mm_nas 1 127 = 1 := by decide +kernel
theorem na_1_129 : mm_nas 1 129 = 1 := by decide +kernel
theorem na_1_130 : mm_nas 1 130 = 3 := by decide +kernel
theorem na_1_131 : mm_nas 1 131 = 3 := by decide +kernel
theorem na_1_132 : mm_nas 1 132 = 4 := by decide +kernel
theorem na_1_273 : mm_nas 1 273 = 4 := by decide +kernel
theorem pWo_up (wo : Nat → Nat → Int) (c : Nat → Nat) (i d : Nat) : pWo wo (upn c i d) (i + 1) = pWo wo c i + wo i d := by
  show pWo wo (upn c i d) i + wo i (upn c i d i) = _
  rw [upn_s, pWo_c (c2 := c) (fun j hj => upn_o (by omega))]
theorem row_up {cs cs3 : Nat → Nat → Int32} {q : Nat → Nat → Nat → Nat} {c : Nat → Nat} {i m : Nat} (h : pRow cs q c i) (hm : m < q 4 i 0) (h1 : ∀ j, j < i → cs3 98 j = cs 98 j) (h2 : cs3 98 i = nI m) : pRow cs3 q (upn c i (q 3 i m)) (i + 1) := by
  intro j hj
  rcases (by omega : j < i ∨ j = i) with z | rfl
  · obtain ⟨o, o1, o2, o3⟩ := h j z
    exact ⟨o, o1, by rw [upn_o (by omega)]; exact o2, (h1 j z).trans o3⟩
  · exact ⟨m, hm, (upn_s _ _ _).symm, h2⟩
def SrI (cs cs1 : Nat → Nat → Int32) (n : Nat) (q : Nat → Nat → Nat → Nat) (wo : Nat → Nat → Int) (bl : Nat → Int) (c : Nat → Nat) (i B : Nat) : Prop := FrS cs cs1 ∧ SB cs1 q bl c i ∧ (∀ j, j < i → cs1 98 j = cs 98 j) ∧ pRp cs1 n q wo (sp_bo (pOK q bl n) (pBT wo n) B)
theorem SrI_N {cs cs1 : Nat → Nat → Int32} {n : Nat} {q : Nat → Nat → Nat → Nat} {wo : Nat → Nat → Int} {bl : Nat → Int} {c : Nat → Nat} {i k m : Nat} (hD : pDA n q wo bl) (hik : i + (k + 1) = n) (hm : m < q 4 i 0) (hv : ∀ j, j < i → vdg q j (c j)) (h : SrI cs cs1 n q wo bl c i (pl_pre c i * p5 (k + 1) + pNd q i m * p5 k)) (hN : ¬ pNK q (upn c i (q 3 i m)) (i + 1)) : SrI cs cs1 n q wo bl c i (pl_pre c i * p5 (k + 1) + pNd q i (m + 1) * p5 k) := by
  obtain ⟨h1, h2, h3, h4⟩ := h
  refine ⟨h1, h2, h3, ?_⟩
  rw [pr_S hD c hik hm, pr_N hD hik hv hm hN]
  rwa [show pNd q i m = q 3 i m from if_pos hm] at h4
/-- into the next place, and back -/
theorem Sr_in {cs cs1 : Nat → Nat → Int32} {n : Nat} {q : Nat → Nat → Nat → Nat} {wo : Nat → Nat → Int} {bl : Nat → Int} {c : Nat → Nat} {i k m : Nat} (hm : m < q 4 i 0) {cs3 : Nat → Nat → Int32} (h : SrI cs cs1 n q wo bl c i (pl_pre c i * p5 (k + 1) + pNd q i m * p5 k)) (h1 : cs3 28 14 = cs1 28 14) (h2 : cs3 99 = cs1 99) : pRp cs3 n q wo (sp_bo (pOK q bl n) (pBT wo n) (pl_pre (upn c i (q 3 i m)) (i + 1) * p5 k)) := by
  rw [pre_up, ← show pNd q i m = q 3 i m from if_pos hm]
  exact pRp_f h.2.2.2 h1 h2
theorem Sr_out {cs cs1 cs3 cs4 cs5 : Nat → Nat → Int32} {n : Nat} {q : Nat → Nat → Nat → Nat} {wo : Nat → Nat → Int} {bl : Nat → Int} {c : Nat → Nat} {i k m : Nat} (hD : pDA n q wo bl) (hik : i + (k + 1) = n) (hm : m < q 4 i 0) (h : SrI cs cs1 n q wo bl c i (pl_pre c i * p5 (k + 1) + pNd q i m * p5 k)) (hf3 : FrS cs1 cs3) (h3 : ∀ j, j < i → cs3 98 j = cs1 98 j) (h4 : SrI cs3 cs4 n q wo bl (upn c i (q 3 i m)) (i + 1) (pl_pre (upn c i (q 3 i m)) (i + 1) * p5 k + p5 k)) (hf5 : FrS cs4 cs5) (h5 : cs5 98 = cs4 98) (h6 : cs5 28 14 = cs4 28 14) (h7 : cs5 99 = cs4 99) (hb : SB cs5 q bl c i) : SrI cs cs5 n q wo bl c i (pl_pre c i * p5 (k + 1) + pNd q i (m + 1) * p5 k) := by
  obtain ⟨a1, a2, a3, a4⟩ := h4
  refine ⟨FrS_t (FrS_t h.1 hf3) (FrS_t a1 hf5), hb, fun j hj => ?_, ?_⟩
  · rw [h5, a3 j (by omega), h3 j hj, h.2.2.1 j hj]
  · rw [pr_S hD c hik hm, Nat.add_mul, Nat.one_mul, ← Nat.add_assoc, ← pre_up]
    exact pRp_f a4 h6 h7
theorem FrS_w {cs : Nat → Nat → Int32} {a k : Nat} {v : Int32} (h : (33 ≤ a ∧ a ≤ 36) ∨ a = 98) : FrS cs (w1 cs a k v) := ⟨fun b hb => w1_n _ _ _ (by omega), w1_o _ _ (Or.inl (by omega))⟩
def SrS (M : mH) (T : Nat → mT) (n : Nat) (q : Nat → Nat → Nat → Nat) (wo : Nat → Nat → Int) (bl : Nat → Int) (d k : Nat) : Prop := ∀ (i : Nat) (c : Nat → Nat) (cs : Nat → Nat → Int32), i + k = n → SD cs n q wo → SL cs n q wo → SB cs q bl c i → pRow cs q c i → pNK q c i → pRp cs n q wo (sp_bo (pOK q bl n) (pBT wo n) (pl_pre c i * p5 k)) → ∃ cs2, SrI cs cs2 n q wo bl c i (pl_pre c i * p5 k + p5 k) ∧ mm_Ev d 130 [.ref 28, .int (nI i), .int (zI (pWo wo c i))] (hk M T cs) (none, hk M T cs2)
set_option maxHeartbeats 4000000 in
theorem k_ch (M : mH) (hM : 157 ≤ M.1) (T : Nat → mT) (e : Nat → Nat) (hF : ShF T e) (cs : Nat → Nat → Int32) (n : Nat) (q : Nat → Nat → Nat → Nat) (wo : Nat → Nat → Int) (bl : Nat → Int) (hD : pDA n q wo bl) (hSD : SD cs n q wo) (d9 : Nat) (hd9 : 1 ≤ d9) (k9 : Nat) (hrec : SrS M T n q wo bl d9 k9) (i : Nat) (c : Nat → Nat) (hik9 : i + (k9 + 1) = n) (hSL : SL cs n q wo) (hrow : pRow cs q c i) (hNK : pNK q c i) (cs1 : Nat → Nat → Int32) (m : Nat) (h_m : m < q 4 i 0) (hi_m : SrI cs cs1 n q wo bl c i (pl_pre c i * p5 (k9 + 1) + pNd q i m * p5 k9)) : ∃ (cs2 : Nat → Nat → Int32), (SrI cs cs2 n q wo bl c i (pl_pre c i * p5 (k9 + 1) + pNd q i (m + 1) * p5 k9)) ∧ mm_Ev (d9 + 1) 273 [.ref 28, .int (nI i), .int (nI m), .int (zI (pWo wo c i))] (hk M T cs1) ((none, hk M T cs2)) := by
  have hq9 : ∃ z, (fun r9 => ∃ (cs2 : Nat → Nat → Int32), (SrI cs cs2 n q wo bl c i (pl_pre c i * p5 (k9 + 1) + pNd q i (m + 1) * p5 k9)) ∧ r9 = ((none, hk M T cs2))) z ∧ mm_Ev (d9 + 1) 273 [.ref 28, .int (nI i), .int (nI m), .int (zI (pWo wo c i))] (hk M T cs1) z := by
    have hn7 := hD.1
    have hv := pRow_v hrow
    have hin : i < n := by omega
    have hq := hD.2.1 i hin
    have hq3 := hq.2.2.2 m h_m
    refine r_evQ (by decide +kernel) (show (4 : Nat) ≤ mm_nL 273 by decide +kernel) ?_
    show mm_Ru d9 (7, 7, false, prog_7_method_15_code, none) 0 [(0, .ref 28), (1, .int (nI i)), (2, .int (nI m)), (3, .int (zI (pWo wo c i)))] [] (hk M T cs1) (fun r9 => ∃ (cs2 : Nat → Nat → Int32), (SrI cs cs2 n q wo bl c i (pl_pre c i * p5 (k9 + 1) + pNd q i (m + 1) * p5 k9)) ∧ r9 = ((none, hk M T cs2)))
    refine r_iload_n rfl dc_7_15_0 ?_
    refine r_nzlt (t := 19) (by omega) (by decide) dc_7_15_1 ?_
    refine r_iload_n rfl dc_7_15_4 ?_
    refine r_bipush (v := nI 7) (by decide) dc_7_15_5 ?_
    refine r_ncge (t := 19) (by omega) (by omega) (by decide) dc_7_15_7 (fun c_7 => ?_) (fun c_7 => ?_)
    · omega
    · skip
      refine r_iload_n rfl dc_7_15_10 ?_
      refine r_nzlt (t := 19) (by omega) (by decide) dc_7_15_11 ?_
      refine r_iload_n rfl dc_7_15_14 ?_
      refine r_iconst (v := nI 5) (by decide) dc_7_15_15 ?_
      refine r_nclt (t := 20) (by omega) (by omega) (by decide) dc_7_15_16 (fun c_16 => ?_) (fun c_16 => ?_)
      · skip
        have hop := (hSD.2.2.2 i hin).2 m h_m
        have hx9 : cs1 (56 + i) m = vD (q 3 i m) (q 0 i (q 3 i m)) := (congrFun (hi_m.1.1 (56 + i) (by omega)) m).trans hop.2.2.1
        have hh9 : cs1 (48 + i) m = vD (q 3 i m) (q 1 i (q 3 i m)) := (congrFun (hi_m.1.1 (48 + i) (by omega)) m).trans hop.2.1
        have hw9 : cs1 (64 + i) m = wD (q 3 i m) (q 2 i (q 3 i m)) := (congrFun (hi_m.1.1 (64 + i) (by omega)) m).trans hop.2.2.2.1
        have hz9 : cs1 (72 + i) m = zI (wo i (q 3 i m)) := (congrFun (hi_m.1.1 (72 + i) (by omega)) m).trans hop.2.2.2.2
        have hwo : zI (pWo wo c i) + zI (wo i (q 3 i m)) = zI (pWo wo (upn c i (q 3 i m)) (i + 1)) := by rw [zI_add, pWo_up]
        by_cases h4 : q 3 i m = 4
        · have hx8 : cs1 (56 + i) m = -1 := hx9.trans (if_pos h4)
          have hh8 : cs1 (48 + i) m = -1 := hh9.trans (if_pos h4)
          have hw8 : cs1 (64 + i) m = nI 0 := hw9.trans (if_pos h4)
          refine r_aload_n rfl dc_7_15_20 ?_
          refine h_get (t := cT e 28) (v := .ref 55) fx_7_39 (hF 28 (by decide)) ⟨by omega, by omega⟩ (rfl) dc_7_15_21 ?_
          refine r_iload_n rfl dc_7_15_24 ?_
          refine h_aal (c := 24) (n := 7) (e := i) (y := 56 + i) (hF 55 (by decide)) (Or.inr rfl) ⟨by omega, by omega⟩ (by omega) (by omega) (if_pos (by omega)) dc_7_15_25 ?_
          refine r_iload_n rfl dc_7_15_26 ?_
          refine h_ild (n := 5) (e := m) (v := (-1)) ((hF (56 + i) (by omega)).trans (cR_55 e i (by omega))) ⟨by omega, by omega⟩ (show m < 5 by omega) (by omega) (hx8) dc_7_15_27 ?_
          refine r_istore (ls' := [(4, .int ((-1))), (0, .ref 28), (1, .int (nI i)), (2, .int (nI m)), (3, .int (zI (pWo wo c i)))]) (by decide) rfl dc_7_15_28 ?_
          refine r_aload_n rfl dc_7_15_30 ?_
          refine h_get (t := cT e 28) (v := .ref 47) fx_7_36 (hF 28 (by decide)) ⟨by omega, by omega⟩ (rfl) dc_7_15_31 ?_
          refine r_iload_n rfl dc_7_15_34 ?_
          refine h_aal (c := 24) (n := 7) (e := i) (y := 48 + i) (hF 47 (by decide)) (Or.inr rfl) ⟨by omega, by omega⟩ (by omega) (by omega) (if_pos (by omega)) dc_7_15_35 ?_
          refine r_iload_n rfl dc_7_15_36 ?_
          refine h_ild (n := 5) (e := m) (v := (-1)) ((hF (48 + i) (by omega)).trans (cR_47 e i (by omega))) ⟨by omega, by omega⟩ (show m < 5 by omega) (by omega) (hh8) dc_7_15_37 ?_
          refine r_istore (ls' := [(5, .int ((-1))), (4, .int ((-1))), (0, .ref 28), (1, .int (nI i)), (2, .int (nI m)), (3, .int (zI (pWo wo c i)))]) (by decide) rfl dc_7_15_38 ?_
          refine r_aload_n rfl dc_7_15_40 ?_
          refine h_get (t := cT e 28) (v := .ref 63) fx_7_42 (hF 28 (by decide)) ⟨by omega, by omega⟩ (rfl) dc_7_15_41 ?_
          refine r_iload_n rfl dc_7_15_44 ?_
          refine h_aal (c := 24) (n := 7) (e := i) (y := 64 + i) (hF 63 (by decide)) (Or.inr rfl) ⟨by omega, by omega⟩ (by omega) (by omega) (if_pos (by omega)) dc_7_15_45 ?_
          refine r_iload_n rfl dc_7_15_46 ?_
          refine h_ild (n := 5) (e := m) (v := nI 0) ((hF (64 + i) (by omega)).trans (cR_63 e i (by omega))) ⟨by omega, by omega⟩ (show m < 5 by omega) (by omega) (hw8) dc_7_15_47 ?_
          refine r_istore (ls' := [(6, .int (nI 0)), (5, .int ((-1))), (4, .int ((-1))), (0, .ref 28), (1, .int (nI i)), (2, .int (nI m)), (3, .int (zI (pWo wo c i)))]) (by decide) rfl dc_7_15_48 ?_
          refine r_iload rfl dc_7_15_50 ?_
          refine r_iconst (v := -1) (by decide) dc_7_15_52 ?_
          refine r_iceq (t := 72) (by decide) dc_7_15_53 (fun c_53 => ?_) (fun c_53 => ?_)
          · skip
            refine r_aload_n rfl dc_7_15_72 ?_
            refine h_get (t := cT e 28) (v := .ref 98) fx_7_57 (hF 28 (by decide)) ⟨by omega, by omega⟩ (rfl) dc_7_15_73 ?_
            refine r_iload_n rfl dc_7_15_76 ?_
            refine r_iload_n rfl dc_7_15_77 ?_
            refine h_ist (n := 7) (e := i) (hF 98 (by decide)) ⟨by omega, by omega⟩ (show i < 7 by omega) (by omega) dc_7_15_78 ?_
            refine r_aload_n rfl dc_7_15_79 ?_
            refine h_get (t := cT e 28) (v := .ref 29) fx_7_14 (hF 28 (by decide)) ⟨by omega, by omega⟩ (rfl) dc_7_15_80 ?_
            refine r_iload rfl dc_7_15_83 ?_
            refine r_iload rfl dc_7_15_85 ?_
            refine r_iload rfl dc_7_15_87 ?_
            refine r_iconst (v := nI 1) (by decide) dc_7_15_89 ?_
            obtain ⟨cs3, hcs3⟩ : ∃ z, z = w1 cs1 98 i (nI m) := ⟨_, rfl⟩
            have hf3 : FrS cs1 cs3 := by rw [hcs3]; exact FrS_w (Or.inr rfl)
            have h983 : ∀ j, j < i → cs3 98 j = cs1 98 j := fun j hj => by rw [hcs3]; exact w1_o _ _ (Or.inr (by omega))
            have hi983 : cs3 98 i = nI m := by rw [hcs3]; exact w1_s _ _ _ _
            have hb3 : SB cs3 q bl (upn c i (q 3 i m)) (i + 1) := by rw [h4, SB_4, hcs3]; exact SB_f hi_m.2.1 (fun a h1 h2 => w1_n _ _ _ (by omega))
            have hp3 := Sr_in (cs3 := cs3) h_m hi_m (by rw [hcs3, w1_n _ _ _ (by decide)]) (by rw [hcs3, w1_n _ _ _ (by decide)])
            have hN3 : pNK q (upn c i (q 3 i m)) (i + 1) := by rw [h4]; exact NK_4 hNK
            refine h_call0 (t := cT e 29) (as := [.int ((-1)), .int ((-1)), .int (nI 0), .int (nI 1)]) (rest := []) (M1 := hk M T cs3) rfl rfl iv_7_v128 (Or.inl rfl) na_1_124 (hF 29 (by decide)) ⟨by omega, by omega⟩ (show (8 : Nat) < 14 by decide) o_124 rfl (show (0 : Nat) ≤ 8 by decide) dc_7_15_90 ((show _ = cs3 from hcs3.symm) ▸ mm_Ev_up hd9 (k_addG0 M hM T e hF (w1 cs1 98 i (nI m)) (-1) (nI 0) (nI 1))) ?_
            refine r_aload_n rfl dc_7_15_93 ?_
            refine r_iload_n rfl dc_7_15_94 ?_
            refine r_iconst (v := nI 1) (by decide) dc_7_15_95 ?_
            refine r_iadd (v := nI (i + 1)) (nI_add _ _) dc_7_15_96 ?_
            refine r_iload_n rfl dc_7_15_97 ?_
            refine r_aload_n rfl dc_7_15_98 ?_
            refine h_get (t := cT e 28) (v := .ref 71) fx_7_45 (hF 28 (by decide)) ⟨by omega, by omega⟩ (rfl) dc_7_15_99 ?_
            refine r_iload_n rfl dc_7_15_102 ?_
            refine h_aal (c := 24) (n := 7) (e := i) (y := 72 + i) (hF 71 (by decide)) (Or.inr rfl) ⟨by omega, by omega⟩ (by omega) (by omega) (if_pos (by omega)) dc_7_15_103 ?_
            refine r_iload_n rfl dc_7_15_104 ?_
            refine h_ild (n := 5) (e := m) (v := zI (wo i (q 3 i m))) ((hF (72 + i) (by omega)).trans (cR_71 e i (by omega))) ⟨by omega, by omega⟩ (show m < 5 by omega) (by omega) ((congrFun (hf3.1 (72 + i) (by omega)) m).trans hz9) dc_7_15_105 ?_
            refine r_iadd (v := zI (pWo wo (upn c i (q 3 i m)) (i + 1))) (hwo) dc_7_15_106 ?_
            have hf13 := FrS_t hi_m.1 hf3
            obtain ⟨cs4, h4s, hev4⟩ := hrec (i + 1) (upn c i (q 3 i m)) cs3 (by omega) (SD_f hSD hn7 hf13) (SL_f hSL hn7 hf13) hb3 (row_up hrow h_m (fun j hj => (h983 j hj).trans (hi_m.2.2.1 j hj)) hi983) hN3 hp3
            refine h_call0 (t := cT e 28) (as := [.int (nI (i + 1)), .int (zI (pWo wo (upn c i (q 3 i m)) (i + 1)))]) (rest := []) (M1 := hk M T cs4) rfl rfl iv_7_v84 (Or.inl rfl) na_1_130 (hF 28 (by decide)) ⟨by omega, by omega⟩ (show (7 : Nat) < 14 by decide) o_130 rfl (show (0 : Nat) ≤ 8 by decide) dc_7_15_107 (hev4) ?_
            refine r_aload_n rfl dc_7_15_110 ?_
            refine h_get (t := cT e 28) (v := .ref 29) fx_7_14 (hF 28 (by decide)) ⟨by omega, by omega⟩ (rfl) dc_7_15_111 ?_
            refine r_iload rfl dc_7_15_114 ?_
            refine r_iload rfl dc_7_15_116 ?_
            refine r_iload rfl dc_7_15_118 ?_
            refine r_iconst (v := -1) (by decide) dc_7_15_120 ?_
            have hb5 : SB cs4 q bl c i := by rw [← SB_4, ← h4]; exact h4s.2.1
            refine h_call0 (t := cT e 29) (as := [.int ((-1)), .int ((-1)), .int (nI 0), .int ((-1))]) (rest := []) (M1 := hk M T cs4) rfl rfl iv_7_v128 (Or.inl rfl) na_1_124 (hF 29 (by decide)) ⟨by omega, by omega⟩ (show (8 : Nat) < 14 by decide) o_124 rfl (show (0 : Nat) ≤ 8 by decide) dc_7_15_121 (mm_Ev_up hd9 (k_addG0 M hM T e hF cs4 (-1) (nI 0) (-1))) ?_
            refine r_vret rfl dc_7_15_124 ?_
            exact ⟨_, Sr_out hD hik9 h_m hi_m hf3 h983 h4s (FrS_r cs4) rfl rfl rfl hb5, rfl⟩
          · exact absurd rfl c_53
        · have hx8 : cs1 (56 + i) m = nI (q 0 i (q 3 i m)) := hx9.trans (if_neg h4)
          have hh8 : cs1 (48 + i) m = nI (q 1 i (q 3 i m)) := hh9.trans (if_neg h4)
          obtain ⟨hqx, hqh, hqw⟩ := hq3.2.2.2 h4
          have dx := hD.2.2.1 _ hqx
          have dh := hD.2.2.2 _ hqh
          have bO := cnP_le (pPO q c (q 0 i (q 3 i m))) i
          have bB := cnP_le (pPB q c (q 0 i (q 3 i m))) i
          have bH := cnP_le (pPH q c (q 1 i (q 3 i m))) i
          rcases hqw with h2 | h2
          · have hw8 : cs1 (64 + i) m = -1 := hw9.trans ((if_neg h4).trans (if_neg (by omega)))
            have hroom : (cs1 34 (q 0 i (q 3 i m)) < cs1 30 (q 0 i (q 3 i m)) ∧ cs1 36 (q 1 i (q 3 i m)) < cs1 32 (q 1 i (q 3 i m))) ↔ pNK q (upn c i (q 3 i m)) (i + 1) := by
              rw [NK_m hNK h4 hqx hqh h2, (hi_m.2.1.1 _ hqx).2.1, (congrFun (hi_m.1.1 30 (by omega)) _).trans (hSD.2.1 _ hqx).1, hi_m.2.1.2 _ hqh, (congrFun (hi_m.1.1 32 (by omega)) _).trans (hSD.2.2.1 _ hqh), nI_ltI (by omega) (by omega), nI_ltI (by omega) (by omega)]
            refine r_aload_n rfl dc_7_15_20 ?_
            refine h_get (t := cT e 28) (v := .ref 55) fx_7_39 (hF 28 (by decide)) ⟨by omega, by omega⟩ (rfl) dc_7_15_21 ?_
            refine r_iload_n rfl dc_7_15_24 ?_
            refine h_aal (c := 24) (n := 7) (e := i) (y := 56 + i) (hF 55 (by decide)) (Or.inr rfl) ⟨by omega, by omega⟩ (by omega) (by omega) (if_pos (by omega)) dc_7_15_25 ?_
            refine r_iload_n rfl dc_7_15_26 ?_
            refine h_ild (n := 5) (e := m) (v := nI (q 0 i (q 3 i m))) ((hF (56 + i) (by omega)).trans (cR_55 e i (by omega))) ⟨by omega, by omega⟩ (show m < 5 by omega) (by omega) (hx8) dc_7_15_27 ?_
            refine r_istore (ls' := [(4, .int (nI (q 0 i (q 3 i m)))), (0, .ref 28), (1, .int (nI i)), (2, .int (nI m)), (3, .int (zI (pWo wo c i)))]) (by decide) rfl dc_7_15_28 ?_
            refine r_aload_n rfl dc_7_15_30 ?_
            refine h_get (t := cT e 28) (v := .ref 47) fx_7_36 (hF 28 (by decide)) ⟨by omega, by omega⟩ (rfl) dc_7_15_31 ?_
            refine r_iload_n rfl dc_7_15_34 ?_
            refine h_aal (c := 24) (n := 7) (e := i) (y := 48 + i) (hF 47 (by decide)) (Or.inr rfl) ⟨by omega, by omega⟩ (by omega) (by omega) (if_pos (by omega)) dc_7_15_35 ?_
            refine r_iload_n rfl dc_7_15_36 ?_
            refine h_ild (n := 5) (e := m) (v := nI (q 1 i (q 3 i m))) ((hF (48 + i) (by omega)).trans (cR_47 e i (by omega))) ⟨by omega, by omega⟩ (show m < 5 by omega) (by omega) (hh8) dc_7_15_37 ?_
            refine r_istore (ls' := [(5, .int (nI (q 1 i (q 3 i m)))), (4, .int (nI (q 0 i (q 3 i m)))), (0, .ref 28), (1, .int (nI i)), (2, .int (nI m)), (3, .int (zI (pWo wo c i)))]) (by decide) rfl dc_7_15_38 ?_
            refine r_aload_n rfl dc_7_15_40 ?_
            refine h_get (t := cT e 28) (v := .ref 63) fx_7_42 (hF 28 (by decide)) ⟨by omega, by omega⟩ (rfl) dc_7_15_41 ?_
            refine r_iload_n rfl dc_7_15_44 ?_
            refine h_aal (c := 24) (n := 7) (e := i) (y := 64 + i) (hF 63 (by decide)) (Or.inr rfl) ⟨by omega, by omega⟩ (by omega) (by omega) (if_pos (by omega)) dc_7_15_45 ?_
            refine r_iload_n rfl dc_7_15_46 ?_
            refine h_ild (n := 5) (e := m) (v := (-1)) ((hF (64 + i) (by omega)).trans (cR_63 e i (by omega))) ⟨by omega, by omega⟩ (show m < 5 by omega) (by omega) (hw8) dc_7_15_47 ?_
            refine r_istore (ls' := [(6, .int ((-1))), (5, .int (nI (q 1 i (q 3 i m)))), (4, .int (nI (q 0 i (q 3 i m)))), (0, .ref 28), (1, .int (nI i)), (2, .int (nI m)), (3, .int (zI (pWo wo c i)))]) (by decide) rfl dc_7_15_48 ?_
            refine r_iload rfl dc_7_15_50 ?_
            refine r_iconst (v := -1) (by decide) dc_7_15_52 ?_
            refine r_iceq (t := 72) (by decide) dc_7_15_53 (fun c_53 => ?_) (fun c_53 => ?_)
            · exact absurd c_53 (nI_nm1 (by omega))
            · skip
              refine r_aload_n rfl dc_7_15_56 ?_
              refine h_get (t := cT e 28) (v := .ref 29) fx_7_14 (hF 28 (by decide)) ⟨by omega, by omega⟩ (rfl) dc_7_15_57 ?_
              refine r_iload rfl dc_7_15_60 ?_
              refine r_iload rfl dc_7_15_62 ?_
              refine r_iload rfl dc_7_15_64 ?_
              refine h_callv (t := cT e 29) (as := [.int (nI (q 0 i (q 3 i m))), .int (nI (q 1 i (q 3 i m))), .int ((-1))]) (rest := []) (v := .int (pI (cs1 34 (q 0 i (q 3 i m)) < cs1 30 (q 0 i (q 3 i m)) ∧ cs1 36 (q 1 i (q 3 i m)) < cs1 32 (q 1 i (q 3 i m))))) (M1 := hk M T cs1) rfl rfl iv_7_v124 (Or.inl rfl) na_1_132 (hF 29 (by decide)) ⟨by omega, by omega⟩ (show (8 : Nat) < 14 by decide) o_132 rfl (show (0 : Nat) ≤ 8 by decide) dc_7_15_66 (mm_Ev_up hd9 (k_roomm M hM T e hF cs1 (q 0 i (q 3 i m)) (q 1 i (q 3 i m)) hqx hqh)) ?_
              refine r_ifeq (t := 124) (by decide) dc_7_15_69 (fun c_69 => ?_) (fun c_69 => ?_)
              · skip
                refine r_vret rfl dc_7_15_124 ?_
                exact ⟨_, SrI_N hD hik9 h_m hv hi_m (fun z => pI_eq0 c_69 (hroom.mpr z)), rfl⟩
              · skip
                refine r_aload_n rfl dc_7_15_72 ?_
                refine h_get (t := cT e 28) (v := .ref 98) fx_7_57 (hF 28 (by decide)) ⟨by omega, by omega⟩ (rfl) dc_7_15_73 ?_
                refine r_iload_n rfl dc_7_15_76 ?_
                refine r_iload_n rfl dc_7_15_77 ?_
                refine h_ist (n := 7) (e := i) (hF 98 (by decide)) ⟨by omega, by omega⟩ (show i < 7 by omega) (by omega) dc_7_15_78 ?_
                refine r_aload_n rfl dc_7_15_79 ?_
                refine h_get (t := cT e 28) (v := .ref 29) fx_7_14 (hF 28 (by decide)) ⟨by omega, by omega⟩ (rfl) dc_7_15_80 ?_
                refine r_iload rfl dc_7_15_83 ?_
                refine r_iload rfl dc_7_15_85 ?_
                refine r_iload rfl dc_7_15_87 ?_
                refine r_iconst (v := nI 1) (by decide) dc_7_15_89 ?_
                obtain ⟨cs3, hcs3⟩ : ∃ z, z = w1 (w1 (w1 (w1 cs1 98 i (nI m)) 36 (q 1 i (q 3 i m)) ((w1 cs1 98 i (nI m)) 36 (q 1 i (q 3 i m)) + nI 1)) 34 (q 0 i (q 3 i m)) ((w1 cs1 98 i (nI m)) 34 (q 0 i (q 3 i m)) + nI 1)) 35 (q 0 i (q 3 i m)) ((w1 cs1 98 i (nI m)) 35 (q 0 i (q 3 i m)) + ((-1)) * (nI 1)) := ⟨_, rfl⟩
                have hf3 : FrS cs1 cs3 := by rw [hcs3]; exact FrS_t (FrS_t (FrS_t (FrS_w (Or.inr rfl)) (FrS_w (Or.inl (by decide)))) (FrS_w (Or.inl (by decide)))) (FrS_w (Or.inl (by decide)))
                have h983 : ∀ j, j < i → cs3 98 j = cs1 98 j := fun j hj => by rw [hcs3, w1_n _ _ _ (by decide), w1_n _ _ _ (by decide), w1_n _ _ _ (by decide)]; exact w1_o _ _ (Or.inr (by omega))
                have hi983 : cs3 98 i = nI m := by rw [hcs3, w1_n _ _ _ (by decide), w1_n _ _ _ (by decide), w1_n _ _ _ (by decide)]; exact w1_s _ _ _ _
                have hb3 : SB cs3 q bl (upn c i (q 3 i m)) (i + 1) := by rw [hcs3]; exact SB_pm (SB_f hi_m.2.1 (fun a h1 h2 => w1_n _ _ _ (by omega))) h4 hqx hqh h2
                have hp3 := Sr_in (cs3 := cs3) h_m hi_m (by rw [hcs3, w1_n _ _ _ (by decide), w1_n _ _ _ (by decide), w1_n _ _ _ (by decide), w1_n _ _ _ (by decide)]) (by rw [hcs3, w1_n _ _ _ (by decide), w1_n _ _ _ (by decide), w1_n _ _ _ (by decide), w1_n _ _ _ (by decide)])
                have hN3 : pNK q (upn c i (q 3 i m)) (i + 1) := hroom.mp (pI_ne c_69)
                refine h_call0 (t := cT e 29) (as := [.int (nI (q 0 i (q 3 i m))), .int (nI (q 1 i (q 3 i m))), .int ((-1)), .int (nI 1)]) (rest := []) (M1 := hk M T cs3) rfl rfl iv_7_v128 (Or.inl rfl) na_1_124 (hF 29 (by decide)) ⟨by omega, by omega⟩ (show (8 : Nat) < 14 by decide) o_124 rfl (show (0 : Nat) ≤ 8 by decide) dc_7_15_90 ((show _ = cs3 from hcs3.symm) ▸ mm_Ev_up hd9 (k_addGm M hM T e hF (w1 cs1 98 i (nI m)) (q 0 i (q 3 i m)) (q 1 i (q 3 i m)) (nI 1) hqx hqh)) ?_
                refine r_aload_n rfl dc_7_15_93 ?_
                refine r_iload_n rfl dc_7_15_94 ?_
                refine r_iconst (v := nI 1) (by decide) dc_7_15_95 ?_
                refine r_iadd (v := nI (i + 1)) (nI_add _ _) dc_7_15_96 ?_
                refine r_iload_n rfl dc_7_15_97 ?_
                refine r_aload_n rfl dc_7_15_98 ?_
                refine h_get (t := cT e 28) (v := .ref 71) fx_7_45 (hF 28 (by decide)) ⟨by omega, by omega⟩ (rfl) dc_7_15_99 ?_
                refine r_iload_n rfl dc_7_15_102 ?_
                refine h_aal (c := 24) (n := 7) (e := i) (y := 72 + i) (hF 71 (by decide)) (Or.inr rfl) ⟨by omega, by omega⟩ (by omega) (by omega) (if_pos (by omega)) dc_7_15_103 ?_
                refine r_iload_n rfl dc_7_15_104 ?_
                refine h_ild (n := 5) (e := m) (v := zI (wo i (q 3 i m))) ((hF (72 + i) (by omega)).trans (cR_71 e i (by omega))) ⟨by omega, by omega⟩ (show m < 5 by omega) (by omega) ((congrFun (hf3.1 (72 + i) (by omega)) m).trans hz9) dc_7_15_105 ?_
                refine r_iadd (v := zI (pWo wo (upn c i (q 3 i m)) (i + 1))) (hwo) dc_7_15_106 ?_
                have hf13 := FrS_t hi_m.1 hf3
                obtain ⟨cs4, h4s, hev4⟩ := hrec (i + 1) (upn c i (q 3 i m)) cs3 (by omega) (SD_f hSD hn7 hf13) (SL_f hSL hn7 hf13) hb3 (row_up hrow h_m (fun j hj => (h983 j hj).trans (hi_m.2.2.1 j hj)) hi983) hN3 hp3
                refine h_call0 (t := cT e 28) (as := [.int (nI (i + 1)), .int (zI (pWo wo (upn c i (q 3 i m)) (i + 1)))]) (rest := []) (M1 := hk M T cs4) rfl rfl iv_7_v84 (Or.inl rfl) na_1_130 (hF 28 (by decide)) ⟨by omega, by omega⟩ (show (7 : Nat) < 14 by decide) o_130 rfl (show (0 : Nat) ≤ 8 by decide) dc_7_15_107 (hev4) ?_
                refine r_aload_n rfl dc_7_15_110 ?_
                refine h_get (t := cT e 28) (v := .ref 29) fx_7_14 (hF 28 (by decide)) ⟨by omega, by omega⟩ (rfl) dc_7_15_111 ?_
                refine r_iload rfl dc_7_15_114 ?_
                refine r_iload rfl dc_7_15_116 ?_
                refine r_iload rfl dc_7_15_118 ?_
                refine r_iconst (v := -1) (by decide) dc_7_15_120 ?_
                obtain ⟨cs5, hcs5⟩ : ∃ z, z = w1 (w1 (w1 cs4 36 (q 1 i (q 3 i m)) (cs4 36 (q 1 i (q 3 i m)) + (-1))) 34 (q 0 i (q 3 i m)) (cs4 34 (q 0 i (q 3 i m)) + (-1))) 35 (q 0 i (q 3 i m)) (cs4 35 (q 0 i (q 3 i m)) + ((-1)) * ((-1))) := ⟨_, rfl⟩
                have hb5 : SB cs5 q bl c i := by rw [hcs5]; exact SB_qm h4s.2.1 h4 hqx hqh h2
                have hf5 : FrS cs4 cs5 := by rw [hcs5]; exact FrS_t (FrS_t (FrS_w (Or.inl (by decide))) (FrS_w (Or.inl (by decide)))) (FrS_w (Or.inl (by decide)))
                refine h_call0 (t := cT e 29) (as := [.int (nI (q 0 i (q 3 i m))), .int (nI (q 1 i (q 3 i m))), .int ((-1)), .int ((-1))]) (rest := []) (M1 := hk M T cs5) rfl rfl iv_7_v128 (Or.inl rfl) na_1_124 (hF 29 (by decide)) ⟨by omega, by omega⟩ (show (8 : Nat) < 14 by decide) o_124 rfl (show (0 : Nat) ≤ 8 by decide) dc_7_15_121 ((show _ = cs5 from hcs5.symm) ▸ mm_Ev_up hd9 (k_addGm M hM T e hF cs4 (q 0 i (q 3 i m)) (q 1 i (q 3 i m)) ((-1)) hqx hqh)) ?_
                refine r_vret rfl dc_7_15_124 ?_
                exact ⟨_, Sr_out hD hik9 h_m hi_m hf3 h983 h4s hf5 (by rw [hcs5, w1_n _ _ _ (by decide), w1_n _ _ _ (by decide), w1_n _ _ _ (by decide)]) (by rw [hcs5, w1_n _ _ _ (by decide), w1_n _ _ _ (by decide), w1_n _ _ _ (by decide)]) (by rw [hcs5, w1_n _ _ _ (by decide), w1_n _ _ _ (by decide), w1_n _ _ _ (by decide)]) hb5, rfl⟩
          · have hw8 : cs1 (64 + i) m = nI 1 := hw9.trans ((if_neg h4).trans (if_pos h2))
            have hroom : (cs1 33 (q 0 i (q 3 i m)) < cs1 30 (q 0 i (q 3 i m)) ∧ cs1 36 (q 1 i (q 3 i m)) < cs1 32 (q 1 i (q 3 i m))) ↔ pNK q (upn c i (q 3 i m)) (i + 1) := by
              rw [NK_p hNK h4 hqx hqh h2, (hi_m.2.1.1 _ hqx).1, (congrFun (hi_m.1.1 30 (by omega)) _).trans (hSD.2.1 _ hqx).1, hi_m.2.1.2 _ hqh, (congrFun (hi_m.1.1 32 (by omega)) _).trans (hSD.2.2.1 _ hqh), nI_ltI (by omega) (by omega), nI_ltI (by omega) (by omega)]
            refine r_aload_n rfl dc_7_15_20 ?_
            refine h_get (t := cT e 28) (v := .ref 55) fx_7_39 (hF 28 (by decide)) ⟨by omega, by omega⟩ (rfl) dc_7_15_21 ?_
            refine r_iload_n rfl dc_7_15_24 ?_
            refine h_aal (c := 24) (n := 7) (e := i) (y := 56 + i) (hF 55 (by decide)) (Or.inr rfl) ⟨by omega, by omega⟩ (by omega) (by omega) (if_pos (by omega)) dc_7_15_25 ?_
            refine r_iload_n rfl dc_7_15_26 ?_
            refine h_ild (n := 5) (e := m) (v := nI (q 0 i (q 3 i m))) ((hF (56 + i) (by omega)).trans (cR_55 e i (by omega))) ⟨by omega, by omega⟩ (show m < 5 by omega) (by omega) (hx8) dc_7_15_27 ?_
            refine r_istore (ls' := [(4, .int (nI (q 0 i (q 3 i m)))), (0, .ref 28), (1, .int (nI i)), (2, .int (nI m)), (3, .int (zI (pWo wo c i)))]) (by decide) rfl dc_7_15_28 ?_
            refine r_aload_n rfl dc_7_15_30 ?_
            refine h_get (t := cT e 28) (v := .ref 47) fx_7_36 (hF 28 (by decide)) ⟨by omega, by omega⟩ (rfl) dc_7_15_31 ?_
            refine r_iload_n rfl dc_7_15_34 ?_
            refine h_aal (c := 24) (n := 7) (e := i) (y := 48 + i) (hF 47 (by decide)) (Or.inr rfl) ⟨by omega, by omega⟩ (by omega) (by omega) (if_pos (by omega)) dc_7_15_35 ?_
            refine r_iload_n rfl dc_7_15_36 ?_
            refine h_ild (n := 5) (e := m) (v := nI (q 1 i (q 3 i m))) ((hF (48 + i) (by omega)).trans (cR_47 e i (by omega))) ⟨by omega, by omega⟩ (show m < 5 by omega) (by omega) (hh8) dc_7_15_37 ?_
            refine r_istore (ls' := [(5, .int (nI (q 1 i (q 3 i m)))), (4, .int (nI (q 0 i (q 3 i m)))), (0, .ref 28), (1, .int (nI i)), (2, .int (nI m)), (3, .int (zI (pWo wo c i)))]) (by decide) rfl dc_7_15_38 ?_
            refine r_aload_n rfl dc_7_15_40 ?_
            refine h_get (t := cT e 28) (v := .ref 63) fx_7_42 (hF 28 (by decide)) ⟨by omega, by omega⟩ (rfl) dc_7_15_41 ?_
            refine r_iload_n rfl dc_7_15_44 ?_
            refine h_aal (c := 24) (n := 7) (e := i) (y := 64 + i) (hF 63 (by decide)) (Or.inr rfl) ⟨by omega, by omega⟩ (by omega) (by omega) (if_pos (by omega)) dc_7_15_45 ?_
            refine r_iload_n rfl dc_7_15_46 ?_
            refine h_ild (n := 5) (e := m) (v := nI 1) ((hF (64 + i) (by omega)).trans (cR_63 e i (by omega))) ⟨by omega, by omega⟩ (show m < 5 by omega) (by omega) (hw8) dc_7_15_47 ?_
            refine r_istore (ls' := [(6, .int (nI 1)), (5, .int (nI (q 1 i (q 3 i m)))), (4, .int (nI (q 0 i (q 3 i m)))), (0, .ref 28), (1, .int (nI i)), (2, .int (nI m)), (3, .int (zI (pWo wo c i)))]) (by decide) rfl dc_7_15_48 ?_
            refine r_iload rfl dc_7_15_50 ?_
            refine r_iconst (v := -1) (by decide) dc_7_15_52 ?_
            refine r_iceq (t := 72) (by decide) dc_7_15_53 (fun c_53 => ?_) (fun c_53 => ?_)
            · exact absurd c_53 (nI_nm1 (by omega))
            · skip
              refine r_aload_n rfl dc_7_15_56 ?_
              refine h_get (t := cT e 28) (v := .ref 29) fx_7_14 (hF 28 (by decide)) ⟨by omega, by omega⟩ (rfl) dc_7_15_57 ?_
              refine r_iload rfl dc_7_15_60 ?_
              refine r_iload rfl dc_7_15_62 ?_
              refine r_iload rfl dc_7_15_64 ?_
              refine h_callv (t := cT e 29) (as := [.int (nI (q 0 i (q 3 i m))), .int (nI (q 1 i (q 3 i m))), .int (nI 1)]) (rest := []) (v := .int (pI (cs1 33 (q 0 i (q 3 i m)) < cs1 30 (q 0 i (q 3 i m)) ∧ cs1 36 (q 1 i (q 3 i m)) < cs1 32 (q 1 i (q 3 i m))))) (M1 := hk M T cs1) rfl rfl iv_7_v124 (Or.inl rfl) na_1_132 (hF 29 (by decide)) ⟨by omega, by omega⟩ (show (8 : Nat) < 14 by decide) o_132 rfl (show (0 : Nat) ≤ 8 by decide) dc_7_15_66 (mm_Ev_up hd9 (k_roomp M hM T e hF cs1 (q 0 i (q 3 i m)) (q 1 i (q 3 i m)) hqx hqh)) ?_
              refine r_ifeq (t := 124) (by decide) dc_7_15_69 (fun c_69 => ?_) (fun c_69 => ?_)
              · skip
                refine r_vret rfl dc_7_15_124 ?_
                exact ⟨_, SrI_N hD hik9 h_m hv hi_m (fun z => pI_eq0 c_69 (hroom.mpr z)), rfl⟩
              · skip
                refine r_aload_n rfl dc_7_15_72 ?_
                refine h_get (t := cT e 28) (v := .ref 98) fx_7_57 (hF 28 (by decide)) ⟨by omega, by omega⟩ (rfl) dc_7_15_73 ?_
                refine r_iload_n rfl dc_7_15_76 ?_
                refine r_iload_n rfl dc_7_15_77 ?_
                refine h_ist (n := 7) (e := i) (hF 98 (by decide)) ⟨by omega, by omega⟩ (show i < 7 by omega) (by omega) dc_7_15_78 ?_
                refine r_aload_n rfl dc_7_15_79 ?_
                refine h_get (t := cT e 28) (v := .ref 29) fx_7_14 (hF 28 (by decide)) ⟨by omega, by omega⟩ (rfl) dc_7_15_80 ?_
                refine r_iload rfl dc_7_15_83 ?_
                refine r_iload rfl dc_7_15_85 ?_
                refine r_iload rfl dc_7_15_87 ?_
                refine r_iconst (v := nI 1) (by decide) dc_7_15_89 ?_
                obtain ⟨cs3, hcs3⟩ : ∃ z, z = w1 (w1 (w1 (w1 cs1 98 i (nI m)) 36 (q 1 i (q 3 i m)) ((w1 cs1 98 i (nI m)) 36 (q 1 i (q 3 i m)) + nI 1)) 33 (q 0 i (q 3 i m)) ((w1 cs1 98 i (nI m)) 33 (q 0 i (q 3 i m)) + nI 1)) 35 (q 0 i (q 3 i m)) ((w1 cs1 98 i (nI m)) 35 (q 0 i (q 3 i m)) + (nI 1) * (nI 1)) := ⟨_, rfl⟩
                have hf3 : FrS cs1 cs3 := by rw [hcs3]; exact FrS_t (FrS_t (FrS_t (FrS_w (Or.inr rfl)) (FrS_w (Or.inl (by decide)))) (FrS_w (Or.inl (by decide)))) (FrS_w (Or.inl (by decide)))
                have h983 : ∀ j, j < i → cs3 98 j = cs1 98 j := fun j hj => by rw [hcs3, w1_n _ _ _ (by decide), w1_n _ _ _ (by decide), w1_n _ _ _ (by decide)]; exact w1_o _ _ (Or.inr (by omega))
                have hi983 : cs3 98 i = nI m := by rw [hcs3, w1_n _ _ _ (by decide), w1_n _ _ _ (by decide), w1_n _ _ _ (by decide)]; exact w1_s _ _ _ _
                have hb3 : SB cs3 q bl (upn c i (q 3 i m)) (i + 1) := by rw [hcs3]; exact SB_pp (SB_f hi_m.2.1 (fun a h1 h2 => w1_n _ _ _ (by omega))) h4 hqx hqh h2
                have hp3 := Sr_in (cs3 := cs3) h_m hi_m (by rw [hcs3, w1_n _ _ _ (by decide), w1_n _ _ _ (by decide), w1_n _ _ _ (by decide), w1_n _ _ _ (by decide)]) (by rw [hcs3, w1_n _ _ _ (by decide), w1_n _ _ _ (by decide), w1_n _ _ _ (by decide), w1_n _ _ _ (by decide)])
                have hN3 : pNK q (upn c i (q 3 i m)) (i + 1) := hroom.mp (pI_ne c_69)
                refine h_call0 (t := cT e 29) (as := [.int (nI (q 0 i (q 3 i m))), .int (nI (q 1 i (q 3 i m))), .int (nI 1), .int (nI 1)]) (rest := []) (M1 := hk M T cs3) rfl rfl iv_7_v128 (Or.inl rfl) na_1_124 (hF 29 (by decide)) ⟨by omega, by omega⟩ (show (8 : Nat) < 14 by decide) o_124 rfl (show (0 : Nat) ≤ 8 by decide) dc_7_15_90 ((show _ = cs3 from hcs3.symm) ▸ mm_Ev_up hd9 (k_addGp M hM T e hF (w1 cs1 98 i (nI m)) (q 0 i (q 3 i m)) (q 1 i (q 3 i m)) (nI 1) hqx hqh)) ?_
                refine r_aload_n rfl dc_7_15_93 ?_
                refine r_iload_n rfl dc_7_15_94 ?_
                refine r_iconst (v := nI 1) (by decide) dc_7_15_95 ?_
                refine r_iadd (v := nI (i + 1)) (nI_add _ _) dc_7_15_96 ?_
                refine r_iload_n rfl dc_7_15_97 ?_
                refine r_aload_n rfl dc_7_15_98 ?_
                refine h_get (t := cT e 28) (v := .ref 71) fx_7_45 (hF 28 (by decide)) ⟨by omega, by omega⟩ (rfl) dc_7_15_99 ?_
                refine r_iload_n rfl dc_7_15_102 ?_
                refine h_aal (c := 24) (n := 7) (e := i) (y := 72 + i) (hF 71 (by decide)) (Or.inr rfl) ⟨by omega, by omega⟩ (by omega) (by omega) (if_pos (by omega)) dc_7_15_103 ?_
                refine r_iload_n rfl dc_7_15_104 ?_
                refine h_ild (n := 5) (e := m) (v := zI (wo i (q 3 i m))) ((hF (72 + i) (by omega)).trans (cR_71 e i (by omega))) ⟨by omega, by omega⟩ (show m < 5 by omega) (by omega) ((congrFun (hf3.1 (72 + i) (by omega)) m).trans hz9) dc_7_15_105 ?_
                refine r_iadd (v := zI (pWo wo (upn c i (q 3 i m)) (i + 1))) (hwo) dc_7_15_106 ?_
                have hf13 := FrS_t hi_m.1 hf3
                obtain ⟨cs4, h4s, hev4⟩ := hrec (i + 1) (upn c i (q 3 i m)) cs3 (by omega) (SD_f hSD hn7 hf13) (SL_f hSL hn7 hf13) hb3 (row_up hrow h_m (fun j hj => (h983 j hj).trans (hi_m.2.2.1 j hj)) hi983) hN3 hp3
                refine h_call0 (t := cT e 28) (as := [.int (nI (i + 1)), .int (zI (pWo wo (upn c i (q 3 i m)) (i + 1)))]) (rest := []) (M1 := hk M T cs4) rfl rfl iv_7_v84 (Or.inl rfl) na_1_130 (hF 28 (by decide)) ⟨by omega, by omega⟩ (show (7 : Nat) < 14 by decide) o_130 rfl (show (0 : Nat) ≤ 8 by decide) dc_7_15_107 (hev4) ?_
                refine r_aload_n rfl dc_7_15_110 ?_
                refine h_get (t := cT e 28) (v := .ref 29) fx_7_14 (hF 28 (by decide)) ⟨by omega, by omega⟩ (rfl) dc_7_15_111 ?_
                refine r_iload rfl dc_7_15_114 ?_
                refine r_iload rfl dc_7_15_116 ?_
                refine r_iload rfl dc_7_15_118 ?_
                refine r_iconst (v := -1) (by decide) dc_7_15_120 ?_
                obtain ⟨cs5, hcs5⟩ : ∃ z, z = w1 (w1 (w1 cs4 36 (q 1 i (q 3 i m)) (cs4 36 (q 1 i (q 3 i m)) + (-1))) 33 (q 0 i (q 3 i m)) (cs4 33 (q 0 i (q 3 i m)) + (-1))) 35 (q 0 i (q 3 i m)) (cs4 35 (q 0 i (q 3 i m)) + (nI 1) * ((-1))) := ⟨_, rfl⟩
                have hb5 : SB cs5 q bl c i := by rw [hcs5]; exact SB_qp h4s.2.1 h4 hqx hqh h2
                have hf5 : FrS cs4 cs5 := by rw [hcs5]; exact FrS_t (FrS_t (FrS_w (Or.inl (by decide))) (FrS_w (Or.inl (by decide)))) (FrS_w (Or.inl (by decide)))
                refine h_call0 (t := cT e 29) (as := [.int (nI (q 0 i (q 3 i m))), .int (nI (q 1 i (q 3 i m))), .int (nI 1), .int ((-1))]) (rest := []) (M1 := hk M T cs5) rfl rfl iv_7_v128 (Or.inl rfl) na_1_124 (hF 29 (by decide)) ⟨by omega, by omega⟩ (show (8 : Nat) < 14 by decide) o_124 rfl (show (0 : Nat) ≤ 8 by decide) dc_7_15_121 ((show _ = cs5 from hcs5.symm) ▸ mm_Ev_up hd9 (k_addGp M hM T e hF cs4 (q 0 i (q 3 i m)) (q 1 i (q 3 i m)) ((-1)) hqx hqh)) ?_
                refine r_vret rfl dc_7_15_124 ?_
                exact ⟨_, Sr_out hD hik9 h_m hi_m hf3 h983 h4s hf5 (by rw [hcs5, w1_n _ _ _ (by decide), w1_n _ _ _ (by decide), w1_n _ _ _ (by decide)]) (by rw [hcs5, w1_n _ _ _ (by decide), w1_n _ _ _ (by decide), w1_n _ _ _ (by decide)]) (by rw [hcs5, w1_n _ _ _ (by decide), w1_n _ _ _ (by decide), w1_n _ _ _ (by decide)]) hb5, rfl⟩
      · omega
  obtain ⟨z9, ⟨cs2, p9, e9⟩, h9⟩ := hq9
  subst e9
  exact ⟨cs2, p9, h9⟩
set_option maxHeartbeats 4000000 in
theorem k_sr (M : mH) (hM : 157 ≤ M.1) (T : Nat → mT) (e : Nat → Nat) (hF : ShF T e) (cs : Nat → Nat → Int32) (n : Nat) (q : Nat → Nat → Nat → Nat) (wo : Nat → Nat → Int) (bl : Nat → Int) (hD : pDA n q wo bl) (hSD : SD cs n q wo) (d9 : Nat) (hd9 : 1 ≤ d9) (k : Nat) (hrec : ∀ k9, k = k9 + 1 → SrS M T n q wo bl d9 k9) (i : Nat) (c : Nat → Nat) (hik : i + k = n) (hSL : SL cs n q wo) (hSB : SB cs q bl c i) (hrow : pRow cs q c i) (hNK : pNK q c i) (hRp : pRp cs n q wo (sp_bo (pOK q bl n) (pBT wo n) (pl_pre c i * p5 k))) : ∃ (cs2 : Nat → Nat → Int32), (SrI cs cs2 n q wo bl c i (pl_pre c i * p5 k + p5 k)) ∧ mm_Ev (d9 + 2) 130 [.ref 28, .int (nI i), .int (zI (pWo wo c i))] (hk M T cs) ((none, hk M T cs2)) := by
  have hq9 : ∃ z, (fun r9 => ∃ (cs2 : Nat → Nat → Int32), (SrI cs cs2 n q wo bl c i (pl_pre c i * p5 k + p5 k)) ∧ r9 = ((none, hk M T cs2))) z ∧ mm_Ev (d9 + 2) 130 [.ref 28, .int (nI i), .int (zI (pWo wo c i))] (hk M T cs) z := by
    have hn7 := hD.1
    have hv := pRow_v hrow
    have hL1 : cs 79 i = zI (pLw wo q n k) := by
      have := (hSL k (by omega)).1
      rwa [show n - k = i by omega] at this
    refine r_evQ (by decide +kernel) (show (3 : Nat) ≤ mm_nL 130 by decide +kernel) ?_
    show mm_Ru (d9 + 1) (7, 4, false, prog_7_method_14_code, none) 0 [(0, .ref 28), (1, .int (nI i)), (2, .int (zI (pWo wo c i)))] [] (hk M T cs) (fun r9 => ∃ (cs2 : Nat → Nat → Int32), (SrI cs cs2 n q wo bl c i (pl_pre c i * p5 k + p5 k)) ∧ r9 = ((none, hk M T cs2)))
    refine r_iload_n rfl dc_7_14_0 ?_
    refine r_nzlt (t := 55) (by omega) (by decide) dc_7_14_1 ?_
    refine r_iload_n rfl dc_7_14_4 ?_
    refine r_aload_n rfl dc_7_14_5 ?_
    refine h_get (t := cT e 28) (v := .int (nI n)) fx_7_20 (hF 28 (by decide)) ⟨by omega, by omega⟩ (show some (Value.int _) = _ from congrArg (fun z => some (Value.int z)) (hSD.1)) dc_7_14_6 ?_
    refine r_ncgt (t := 55) (by omega) (by omega) (by decide) dc_7_14_9 (fun c_9 => ?_) (fun c_9 => ?_)
    · omega
    · skip
      refine r_iload_n rfl dc_7_14_12 ?_
      refine r_bipush (v := nI 7) (by decide) dc_7_14_13 ?_
      refine r_ncgt (t := 55) (by omega) (by omega) (by decide) dc_7_14_15 (fun c_15 => ?_) (fun c_15 => ?_)
      · omega
      · skip
        refine r_iload_n rfl dc_7_14_18 ?_
        refine r_aload_n rfl dc_7_14_19 ?_
        refine h_get (t := cT e 28) (v := .ref 79) fx_7_48 (hF 28 (by decide)) ⟨by omega, by omega⟩ (rfl) dc_7_14_20 ?_
        refine r_iload_n rfl dc_7_14_23 ?_
        refine h_ild (n := 8) (e := i) (v := zI (pLw wo q n k)) (hF 79 (by decide)) ⟨by omega, by omega⟩ (show i < 8 by omega) (by omega) (hL1) dc_7_14_24 ?_
        refine r_iadd (v := zI (pWo wo c i + pLw wo q n k)) (zI_add _ _) dc_7_14_25 ?_
        refine r_aload_n rfl dc_7_14_26 ?_
        refine h_get (t := cT e 28) (v := .int (cs 28 14)) fx_7_64 (hF 28 (by decide)) ⟨by omega, by omega⟩ (rfl) dc_7_14_27 ?_
        refine r_icle (t := 55) (by decide) dc_7_14_30 (fun c_30 => ?_) (fun c_30 => ?_)
        · skip
          refine r_vret rfl dc_7_14_55 ?_
          exact ⟨cs, ⟨FrS_r cs, hSB, fun _ _ => rfl, pr_W hD hik hv hRp c_30⟩, rfl⟩
        · skip
          refine r_aload_n rfl dc_7_14_33 ?_
          refine h_get (t := cT e 28) (v := .ref 29) fx_7_14 (hF 28 (by decide)) ⟨by omega, by omega⟩ (rfl) dc_7_14_34 ?_
          refine r_aload_n rfl dc_7_14_37 ?_
          refine h_get (t := cT e 28) (v := .ref 80) fx_7_51 (hF 28 (by decide)) ⟨by omega, by omega⟩ (rfl) dc_7_14_38 ?_
          refine r_iload_n rfl dc_7_14_41 ?_
          refine h_aal (c := 24) (n := 8) (e := i) (y := 81 + i) (hF 80 (by decide)) (Or.inr rfl) ⟨by omega, by omega⟩ (by omega) (by omega) (if_pos (by omega)) dc_7_14_42 ?_
          refine r_aload_n rfl dc_7_14_43 ?_
          refine h_get (t := cT e 28) (v := .ref 89) fx_7_54 (hF 28 (by decide)) ⟨by omega, by omega⟩ (rfl) dc_7_14_44 ?_
          refine r_iload_n rfl dc_7_14_47 ?_
          refine h_aal (c := 24) (n := 8) (e := i) (y := 90 + i) (hF 89 (by decide)) (Or.inr rfl) ⟨by omega, by omega⟩ (by omega) (by omega) (if_pos (by omega)) dc_7_14_48 ?_
          refine h_callv (t := cT e 29) (as := [.ref (81 + i), .ref (90 + i)]) (rest := []) (v := .int (pI (canB cs i))) (M1 := hk M T cs) rfl rfl iv_7_v117 (Or.inl rfl) na_1_131 (hF 29 (by decide)) ⟨by omega, by omega⟩ (show (8 : Nat) < 14 by decide) o_131 rfl (show (0 : Nat) ≤ 8 by decide) dc_7_14_49 (mm_Ev_up (by omega) (k_canB M hM T e hF cs i (by omega))) ?_
          refine r_ifne (t := 56) (by decide) dc_7_14_52 (fun c_52 => ?_) (fun c_52 => ?_)
          · skip
            refine r_iload_n rfl dc_7_14_56 ?_
            refine r_aload_n rfl dc_7_14_57 ?_
            refine h_get (t := cT e 28) (v := .int (nI n)) fx_7_20 (hF 28 (by decide)) ⟨by omega, by omega⟩ (show some (Value.int _) = _ from congrArg (fun z => some (Value.int z)) (hSD.1)) dc_7_14_58 ?_
            refine r_nceq (t := 70) (by omega) (by omega) (by decide) dc_7_14_61 (fun c_61 => ?_) (fun c_61 => ?_)
            · skip
              refine r_aload_n rfl dc_7_14_70 ?_
              refine r_iload_n rfl dc_7_14_71 ?_
              refine h_pint (t := cT e 28) fx_7_64 (hF 28 (by decide)) ⟨by omega, by omega⟩ (Or.inl fn_7_14) ty_7_14 (pi_7_14 _ _ _ _) dc_7_14_72 ?_
              refine r_aload_n rfl dc_7_14_75 ?_
              refine h_get (t := cT e 28) (v := .ref 98) fx_7_57 (hF 28 (by decide)) ⟨by omega, by omega⟩ (rfl) dc_7_14_76 ?_
              refine r_iconst (v := nI 0) (by decide) dc_7_14_79 ?_
              refine r_aload_n rfl dc_7_14_80 ?_
              refine h_get (t := cT e 28) (v := .ref 99) fx_7_60 (hF 28 (by decide)) ⟨by omega, by omega⟩ (rfl) dc_7_14_81 ?_
              refine r_iconst (v := nI 0) (by decide) dc_7_14_84 ?_
              refine r_bipush (v := nI 7) (by decide) dc_7_14_85 ?_
              refine h_cpi (a := 98) (c := 99) (n0 := 7) (n1 := 7) (sp := 0) (dp := 0) (n := 7) (rest := []) ac_7_107 (hF 98 (by decide)) ⟨by omega, by omega⟩ (hF 99 (by decide)) ⟨by omega, by omega⟩ (by decide) (by decide) ⟨by decide, by decide⟩ (show (0 : Nat) ≤ 8 by decide) ivn_7_107 dc_7_14_87 ?_
              refine r_vret rfl dc_7_14_90 ?_
              have hk0 : k = 0 := by omega
              subst hk0
              subst c_61
              exact ⟨_, ⟨⟨fun a ha => (wA_o _ _ (by omega)).trans (w1_n _ _ _ (by omega)), rfl⟩, SB_f hSB (fun a h1 h2 => (wA_o _ _ (by omega)).trans (w1_n _ _ _ (by omega))), fun j hj => rfl, pr_L hD hrow hSD hSL hSB hNK hRp c_30 (pI_ne c_52)⟩, rfl⟩
            · skip
              refine r_iload_n rfl dc_7_14_64 ?_
              refine r_bipush (v := nI 7) (by decide) dc_7_14_65 ?_
              refine r_ncne (t := 91) (by omega) (by omega) (by decide) dc_7_14_67 (fun c_67 => ?_) (fun c_67 => ?_)
              · skip
                obtain ⟨k9, hk9⟩ : ∃ k9, k = k9 + 1 := ⟨k - 1, by omega⟩
                have hik9 : i + (k9 + 1) = n := by omega
                have hin : i < n := by omega
                have hq := hD.2.1 i hin
                refine r_iconst (v := nI 0) (by decide) dc_7_14_91 ?_
                refine r_istore_n (ls' := [(3, .int (nI 0)), (0, .ref 28), (1, .int (nI i)), (2, .int (zI (pWo wo c i)))]) (by decide) rfl dc_7_14_92 ?_
                refine mm_cnt (P := fun m => ∀ (cs1 : Nat → Nat → Int32), (SrI cs cs1 n q wo bl c i (pl_pre c i * p5 (k9 + 1) + pNd q i m * p5 k9)) → mm_Ru (d9 + 1) (7, 4, false, prog_7_method_14_code, none) 93 [(3, .int (nI m)), (0, .ref 28), (1, .int (nI i)), (2, .int (zI (pWo wo c i)))] [] (hk M T cs1) (fun r9 => ∃ (cs2 : Nat → Nat → Int32), (SrI cs cs2 n q wo bl c i (pl_pre c i * p5 k + p5 k)) ∧ r9 = ((none, hk M T cs2)))) (q 4 i 0) ?_ ?_ 0 (by omega) cs (⟨FrS_r cs, hSB, fun _ _ => rfl, by rw [pr_0 hD c hik9, ← hk9]; exact hRp⟩)
                · intro  cs1 hi_m
                  show mm_Ru (d9 + 1) (7, 4, false, prog_7_method_14_code, none) 93 [(3, .int (nI (q 4 i 0))), (0, .ref 28), (1, .int (nI i)), (2, .int (zI (pWo wo c i)))] [] (hk M T cs1) (fun r9 => ∃ (cs2 : Nat → Nat → Int32), (SrI cs cs2 n q wo bl c i (pl_pre c i * p5 k + p5 k)) ∧ r9 = ((none, hk M T cs2)))
                  refine r_iload_n rfl dc_7_14_93 ?_
                  refine r_aload_n rfl dc_7_14_94 ?_
                  refine h_get (t := cT e 28) (v := .ref 38) fx_7_28 (hF 28 (by decide)) ⟨by omega, by omega⟩ (rfl) dc_7_14_95 ?_
                  refine r_iload_n rfl dc_7_14_98 ?_
                  refine h_ild (n := 7) (e := i) (v := nI (q 4 i 0)) (hF 38 (by decide)) ⟨by omega, by omega⟩ (show i < 7 by omega) (by omega) ((congrFun (hi_m.1.1 38 (by omega)) i).trans (hSD.2.2.2 i hin).1) dc_7_14_99 ?_
                  refine r_ncge (t := 121) (by omega) (by omega) (by decide) dc_7_14_100 (fun c_100 => ?_) (fun c_100 => ?_)
                  · skip
                    refine r_vret rfl dc_7_14_121 ?_
                    refine ⟨cs1, ?_, rfl⟩
                    have hE := hi_m
                    unfold pNd at hE
                    rw [if_neg (Nat.lt_irrefl _)] at hE
                    rw [hk9]
                    rw [← show p5 (k9 + 1) = 5 * p5 k9 from rfl] at hE
                    exact hE
                  · omega
                · intro m h_m ih_m  cs1 hi_m
                  show mm_Ru (d9 + 1) (7, 4, false, prog_7_method_14_code, none) 93 [(3, .int (nI m)), (0, .ref 28), (1, .int (nI i)), (2, .int (zI (pWo wo c i)))] [] (hk M T cs1) (fun r9 => ∃ (cs2 : Nat → Nat → Int32), (SrI cs cs2 n q wo bl c i (pl_pre c i * p5 k + p5 k)) ∧ r9 = ((none, hk M T cs2)))
                  refine r_iload_n rfl dc_7_14_93 ?_
                  refine r_aload_n rfl dc_7_14_94 ?_
                  refine h_get (t := cT e 28) (v := .ref 38) fx_7_28 (hF 28 (by decide)) ⟨by omega, by omega⟩ (rfl) dc_7_14_95 ?_
                  refine r_iload_n rfl dc_7_14_98 ?_
                  refine h_ild (n := 7) (e := i) (v := nI (q 4 i 0)) (hF 38 (by decide)) ⟨by omega, by omega⟩ (show i < 7 by omega) (by omega) ((congrFun (hi_m.1.1 38 (by omega)) i).trans (hSD.2.2.2 i hin).1) dc_7_14_99 ?_
                  refine r_ncge (t := 121) (by omega) (by omega) (by decide) dc_7_14_100 (fun c_100 => ?_) (fun c_100 => ?_)
                  · omega
                  · skip
                    refine r_iload_n rfl dc_7_14_103 ?_
                    refine r_iconst (v := nI 5) (by decide) dc_7_14_104 ?_
                    refine r_ncge (t := 121) (by omega) (by omega) (by decide) dc_7_14_105 (fun c_105 => ?_) (fun c_105 => ?_)
                    · omega
                    · skip
                      refine r_aload_n rfl dc_7_14_108 ?_
                      refine r_iload_n rfl dc_7_14_109 ?_
                      refine r_iload_n rfl dc_7_14_110 ?_
                      refine r_iload_n rfl dc_7_14_111 ?_
                      obtain ⟨cs3, hS3, hev3⟩ := k_ch M hM T e hF cs n q wo bl hD hSD d9 hd9 k9 (hrec k9 hk9) i c hik9 hSL hrow hNK cs1 m h_m hi_m
                      refine h_call0 (t := cT e 28) (as := [.int (nI i), .int (nI m), .int (zI (pWo wo c i))]) (rest := []) (M1 := hk M T cs3) rfl rfl iv_7_v121 (Or.inl rfl) na_1_273 (hF 28 (by decide)) ⟨by omega, by omega⟩ (show (7 : Nat) < 14 by decide) o_273 rfl (show (0 : Nat) ≤ 8 by decide) dc_7_14_112 (hev3) ?_
                      refine r_iinc (n := 3) (k := 1) (x := nI m) (v := nI (m + 1)) (ls' := [(3, .int (nI (m + 1))), (0, .ref 28), (1, .int (nI i)), (2, .int (zI (pWo wo c i)))]) rfl (nI_1 _) (by decide) rfl dc_7_14_115 ?_
                      refine r_goto (t := 93) (by decide) dc_7_14_118 ?_
                      exact ih_m cs3 (hS3)
              · omega
          · skip
            refine r_vret rfl dc_7_14_55 ?_
            exact ⟨cs, ⟨FrS_r cs, hSB, fun _ _ => rfl, pr_B hD hik hv hSD hSL hSB hRp (pI_eq0 c_52)⟩, rfl⟩
  obtain ⟨z9, ⟨cs2, p9, e9⟩, h9⟩ := hq9
  subst e9
  exact ⟨cs2, p9, h9⟩
theorem sr_dp (k : Nat) : 2 * (k + 1) + 3 = 2 * k + 3 + 2 := by omega
theorem k_search (M : mH) (hM : 157 ≤ M.1) (T : Nat → mT) (e : Nat → Nat) (hF : ShF T e) (n : Nat) (q : Nat → Nat → Nat → Nat) (wo : Nat → Nat → Int) (bl : Nat → Int) (hD : pDA n q wo bl) : ∀ k, SrS M T n q wo bl (2 * k + 3) k
  | 0 => fun i c cs h1 h2 h3 h4 h5 h6 h7 => k_sr M hM T e hF cs n q wo bl hD h2 1 (Nat.le_refl 1) 0 (fun k9 z => by cases z) i c h1 h3 h4 h5 h6 h7
  | k + 1 => by
    have ih := k_search M hM T e hF n q wo bl hD k
    rw [sr_dp]
    exact fun i c cs h1 h2 h3 h4 h5 h6 h7 => k_sr M hM T e hF cs n q wo bl hD h2 (2 * k + 3) (by omega) (k + 1) (fun k9 z => by cases z; exact ih) i c h1 h3 h4 h5 h6 h7
def FrF (cs cs2 : Nat → Nat → Int32) : Prop := (∀ a, ¬ (a = 28 ∨ (33 ≤ a ∧ a ≤ 36) ∨ (79 ≤ a ∧ a ≤ 99)) → cs2 a = cs a) ∧ cs2 28 1 = cs 28 1
theorem SD_F {cs cs2 : Nat → Nat → Int32} {n : Nat} {q : Nat → Nat → Nat → Nat} {wo : Nat → Nat → Int} (h : SD cs n q wo) (hn : n ≤ 7) (hf : FrF cs cs2) : SD cs2 n q wo := by
  obtain ⟨h1, h2, h3, h4⟩ := h
  refine ⟨hf.2.trans h1, fun x hx => ?_, fun x hx => ?_, fun i hi => ?_⟩
  · rw [hf.1 30 (by omega), hf.1 31 (by omega)]
    exact h2 x hx
  · rw [hf.1 32 (by omega)]
    exact h3 x hx
  · rw [hf.1 38 (by omega), hf.1 (40 + i) (by omega), hf.1 (48 + i) (by omega), hf.1 (56 + i) (by omega), hf.1 (64 + i) (by omega), hf.1 (72 + i) (by omega)]
    exact h4 i hi
theorem pf_no {n : Nat} {q : Nat → Nat → Nat → Nat} {wo : Nat → Nat → Int} {bl : Nat → Int} (hN : ∀ c, ¬ pNK q c 0) (m : Nat) : sp_bo (pOK q bl n) (pBT wo n) m = none := by
  have h := bo_skip (OK := pOK q bl n) (BT := pBT wo n) (a := 0) m (fun c _ _ hO => absurd (⟨fun x hx => ?_, fun x hx => ?_⟩ : pNK q (co n c) 0) (hN _))
  · rw [Nat.zero_add] at h
    exact h
  · have a := hO.2.1.1 x hx
    have m1 := cnP_mono (pPO q (co n c) x) (Nat.zero_le n)
    have m2 := cnP_mono (pPB q (co n c) x) (Nat.zero_le n)
    omega
  · have a := hO.2.1.2 x hx
    have m1 := cnP_mono (pPH q (co n c) x) (Nat.zero_le n)
    omega
theorem nK_iff {cs : Nat → Nat → Int32} {n : Nat} {q : Nat → Nat → Nat → Nat} {wo : Nat → Nat → Int} {bl : Nat → Int} {c : Nat → Nat} (hD : pDA n q wo bl) (hSD : SD cs n q wo) (hSB : SB cs q bl c 0) : numK cs ↔ pNK q c 0 := by
  have e1 : ∀ h, h < 8 → (cs 36 h ≤ cs 32 h ↔ q 7 h 0 + cnP (pPH q c h) 0 ≤ q 10 h 0) := fun h hh => by
    have d := hD.2.2.2 h hh
    rw [hSB.2 h hh, hSD.2.2.1 h hh, nI_leI (by show q 7 h 0 + 0 < 2 ^ 31; omega) (by omega)]
  have e2 : ∀ x, x < 12 → (cs 33 x ≤ cs 30 x ↔ q 5 x 0 + cnP (pPO q c x) 0 ≤ q 8 x 0) ∧ (cs 34 x ≤ cs 30 x ↔ q 6 x 0 + cnP (pPB q c x) 0 ≤ q 8 x 0) := fun x hx => by
    have d := hD.2.2.1 x hx
    rw [(hSB.1 x hx).1, (hSB.1 x hx).2.1, (hSD.2.1 x hx).1, nI_leI (by show q 5 x 0 + 0 < 2 ^ 31; omega) (by omega), nI_leI (by show q 6 x 0 + 0 < 2 ^ 31; omega) (by omega)]
    exact ⟨Iff.rfl, Iff.rfl⟩
  exact ⟨fun z => ⟨fun x hx => ⟨(e2 x hx).1.mp (z.2 x hx).1, (e2 x hx).2.mp (z.2 x hx).2⟩, fun h hh => (e1 h hh).mp (z.1 h hh)⟩, fun z => ⟨fun h hh => (e1 h hh).mpr (z.2 h hh), fun x hx => ⟨(e2 x hx).1.mpr (z.1 x hx).1, (e2 x hx).2.mpr (z.1 x hx).2⟩⟩⟩
theorem pRp_14 {cs : Nat → Nat → Int32} {n : Nat} {q : Nat → Nat → Nat → Nat} {wo : Nat → Nat → Int} {bl : Nat → Int} {B : Option Nat} (hD : pDA n q wo bl) (h : pRp cs n q wo B) : cs 28 14 = -1000000 ↔ B = none := by
  have hn7 := hD.1
  rcases h with ⟨h1, h2⟩ | ⟨b, h1, h2, h3, -⟩
  · exact ⟨fun _ => h1, fun _ => h2⟩
  · have b3 := pWo_bd hD (c := co n b) (i := n) (Nat.le_refl n) h2
    refine ⟨fun z => ?_, fun z => by rw [z] at h1; cases h1⟩
    rw [h3, show (-1000000 : Int32) = zI (-1000000) by decide] at z
    have z2 := congrArg Int32.toInt z
    rw [zI_to (by omega) (by omega), zI_to (by omega) (by omega)] at z2
    omega
set_option maxHeartbeats 4000000 in
theorem k_isFound (M : mH) (hM : 157 ≤ M.1) (T : Nat → mT) (e : Nat → Nat) (hF : ShF T e) (cs : Nat → Nat → Int32) (n : Nat) (q : Nat → Nat → Nat → Nat) (wo : Nat → Nat → Int) (bl : Nat → Int) (hD : pDA n q wo bl) (hSD : SD cs n q wo) (c : Nat → Nat) (hSB : SB cs q bl c 0) : ∃ (cs2 : Nat → Nat → Int32), (FrF cs cs2 ∧ SD cs2 n q wo ∧ pRp cs2 n q wo (sp_bo (pOK q bl n) (pBT wo n) (p5 n))) ∧ mm_Ev 18 126 [.ref 28] (hk M T cs) ((some (.int (pI (¬ sp_bo (pOK q bl n) (pBT wo n) (p5 n) = none))), hk M T cs2)) := by
  have hq9 : ∃ z, (fun r9 => ∃ (cs2 : Nat → Nat → Int32), (FrF cs cs2 ∧ SD cs2 n q wo ∧ pRp cs2 n q wo (sp_bo (pOK q bl n) (pBT wo n) (p5 n))) ∧ r9 = ((some (.int (pI (¬ sp_bo (pOK q bl n) (pBT wo n) (p5 n) = none))), hk M T cs2))) z ∧ mm_Ev 18 126 [.ref 28] (hk M T cs) z := by
    have hn7 := hD.1
    refine r_evQ (by decide +kernel) (show (1 : Nat) ≤ mm_nL 126 by decide +kernel) ?_
    show mm_Ru 17 (7, 1, false, prog_7_method_7_code, some .boolean) 0 [(0, .ref 28)] [] (hk M T cs) (fun r9 => ∃ (cs2 : Nat → Nat → Int32), (FrF cs cs2 ∧ SD cs2 n q wo ∧ pRp cs2 n q wo (sp_bo (pOK q bl n) (pBT wo n) (p5 n))) ∧ r9 = ((some (.int (pI (¬ sp_bo (pOK q bl n) (pBT wo n) (p5 n) = none))), hk M T cs2)))
    refine r_aload_n rfl dc_7_7_0 ?_
    refine r_ldc (v := (-1000000)) nr_7_63 dc_7_7_1 ?_
    refine h_pint (t := cT e 28) fx_7_64 (hF 28 (by decide)) ⟨by omega, by omega⟩ (Or.inl fn_7_14) ty_7_14 (pi_7_14 _ _ _ _) dc_7_7_3 ?_
    refine r_aload_n rfl dc_7_7_6 ?_
    have hSD1 : SD (w1 cs 28 14 (-1000000)) n q wo := SD_F hSD hn7 ⟨fun a ha => w1_n _ _ _ (by omega), rfl⟩
    obtain ⟨cs1, ⟨hf1, hL1⟩, hev1⟩ := k_measure M hM T e hF (w1 cs 28 14 (-1000000)) n q wo bl hD hSD1
    have hF1 : FrF cs cs1 := ⟨fun a ha => (hf1 a (by omega)).trans (w1_n _ _ _ (by omega)), congrFun (hf1 28 (by omega)) 1⟩
    have hSB1 : SB cs1 q bl c 0 := SB_f hSB (fun a h1 h2 => (hf1 a (by omega)).trans (w1_n _ _ _ (by omega)))
    have hSD2 := SD_F hSD hn7 hF1
    have h14 : cs1 28 14 = -1000000 := (congrFun (hf1 28 (by omega)) 14).trans rfl
    refine h_call0 (t := cT e 28) (as := []) (rest := []) (M1 := hk M T cs1) rfl rfl iv_7_v77 (Or.inl rfl) na_1_127 (hF 28 (by decide)) ⟨by omega, by omega⟩ (show (7 : Nat) < 14 by decide) o_127 rfl (show (0 : Nat) ≤ 8 by decide) dc_7_7_7 (mm_Ev_up (by decide : 2 ≤ 17) (hev1)) ?_
    refine r_aload_n rfl dc_7_7_10 ?_
    refine h_get (t := cT e 28) (v := .ref 29) fx_7_14 (hF 28 (by decide)) ⟨by omega, by omega⟩ (rfl) dc_7_7_11 ?_
    refine h_callv (t := cT e 29) (as := []) (rest := []) (v := .int (pI (numK cs1))) (M1 := hk M T cs1) rfl rfl iv_7_v80 (Or.inl rfl) na_1_129 (hF 29 (by decide)) ⟨by omega, by omega⟩ (show (8 : Nat) < 14 by decide) o_129 rfl (show (0 : Nat) ≤ 8 by decide) dc_7_7_14 (mm_Ev_up (by decide : 1 ≤ 17) (k_numK M hM T e hF cs1)) ?_
    refine r_ifeq (t := 26) (by decide) dc_7_7_17 (fun c_17 => ?_) (fun c_17 => ?_)
    · skip
      obtain ⟨cs2, rfl⟩ : ∃ z, z = cs1 := ⟨_, rfl⟩
      have hF2 := hF1
      have hR2 : pRp cs2 n q wo (sp_bo (pOK q bl n) (pBT wo n) (p5 n)) := Or.inl ⟨pf_no (fun c2 z => pI_eq0 c_17 ((nK_iff hD hSD2 hSB1).mpr z)) _, h14⟩
      refine r_aload_n rfl dc_7_7_26 ?_
      refine h_get (t := cT e 28) (v := .int (cs2 28 14)) fx_7_64 (hF 28 (by decide)) ⟨by omega, by omega⟩ (rfl) dc_7_7_27 ?_
      refine r_ldc (v := (-1000000)) nr_7_63 dc_7_7_30 ?_
      refine r_iceq (t := 39) (by decide) dc_7_7_32 (fun c_32 => ?_) (fun c_32 => ?_)
      · skip
        refine r_iconst (v := nI 0) (by decide) dc_7_7_39 ?_
        refine r_zret rfl (by decide) dc_7_7_40 ?_
        exact ⟨cs2, ⟨hF2, SD_F hSD hn7 hF2, hR2⟩, by rw [pI_f (P := ¬ sp_bo (pOK q bl n) (pBT wo n) (p5 n) = none) (fun z => z ((pRp_14 hD hR2).mp c_32))]⟩
      · skip
        refine r_iconst (v := nI 1) (by decide) dc_7_7_35 ?_
        refine r_goto (t := 40) (by decide) dc_7_7_36 ?_
        refine r_zret rfl (by decide) dc_7_7_40 ?_
        exact ⟨cs2, ⟨hF2, SD_F hSD hn7 hF2, hR2⟩, by rw [pI_t (P := ¬ sp_bo (pOK q bl n) (pBT wo n) (p5 n) = none) (fun z => c_32 ((pRp_14 hD hR2).mpr z))]⟩
    · skip
      refine r_aload_n rfl dc_7_7_20 ?_
      refine r_iconst (v := nI 0) (by decide) dc_7_7_21 ?_
      refine r_iconst (v := nI 0) (by decide) dc_7_7_22 ?_
      obtain ⟨cs2, hs2, hev2⟩ := k_search M hM T e hF n q wo bl hD n 0 c cs1 (Nat.zero_add n) hSD2 hL1 hSB1 (fun j hj => absurd hj (Nat.not_lt_zero j)) ((nK_iff hD hSD2 hSB1).mp (pI_ne c_17)) (Or.inl ⟨by show sp_bo _ _ (0 * p5 n) = none; rw [Nat.zero_mul]; rfl, h14⟩)
      have hR2 : pRp cs2 n q wo (sp_bo (pOK q bl n) (pBT wo n) (p5 n)) := by
        have := hs2.2.2.2
        rwa [show pl_pre c 0 * p5 n + p5 n = p5 n by show 0 * p5 n + p5 n = p5 n; omega] at this
      have hF2 : FrF cs cs2 := ⟨fun a ha => (hs2.1.1 a (by omega)).trans (hF1.1 a ha), hs2.1.2.trans hF1.2⟩
      refine h_call0 (t := cT e 28) (as := [.int (nI 0), .int (nI 0)]) (rest := []) (M1 := hk M T cs2) rfl rfl iv_7_v84 (Or.inl rfl) na_1_130 (hF 28 (by decide)) ⟨by omega, by omega⟩ (show (7 : Nat) < 14 by decide) o_130 rfl (show (0 : Nat) ≤ 8 by decide) dc_7_7_23 (mm_Ev_up (by omega) (show mm_Ev (2 * n + 3) 130 [.ref 28, .int (nI 0), .int (nI 0)] (hk M T cs1) (none, hk M T cs2) from hev2)) ?_
      refine r_aload_n rfl dc_7_7_26 ?_
      refine h_get (t := cT e 28) (v := .int (cs2 28 14)) fx_7_64 (hF 28 (by decide)) ⟨by omega, by omega⟩ (rfl) dc_7_7_27 ?_
      refine r_ldc (v := (-1000000)) nr_7_63 dc_7_7_30 ?_
      refine r_iceq (t := 39) (by decide) dc_7_7_32 (fun c_32 => ?_) (fun c_32 => ?_)
      · skip
        refine r_iconst (v := nI 0) (by decide) dc_7_7_39 ?_
        refine r_zret rfl (by decide) dc_7_7_40 ?_
        exact ⟨cs2, ⟨hF2, SD_F hSD hn7 hF2, hR2⟩, by rw [pI_f (P := ¬ sp_bo (pOK q bl n) (pBT wo n) (p5 n) = none) (fun z => z ((pRp_14 hD hR2).mp c_32))]⟩
      · skip
        refine r_iconst (v := nI 1) (by decide) dc_7_7_35 ?_
        refine r_goto (t := 40) (by decide) dc_7_7_36 ?_
        refine r_zret rfl (by decide) dc_7_7_40 ?_
        exact ⟨cs2, ⟨hF2, SD_F hSD hn7 hF2, hR2⟩, by rw [pI_t (P := ¬ sp_bo (pOK q bl n) (pBT wo n) (p5 n) = none) (fun z => c_32 ((pRp_14 hD hR2).mpr z))]⟩
  obtain ⟨z9, ⟨cs2, p9, e9⟩, h9⟩ := hq9
  subst e9
  exact ⟨cs2, p9, h9⟩
