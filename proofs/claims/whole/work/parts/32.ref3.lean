/-! the reference: calls that put things down -/
theorem dc_14_11_0 : decode prog_14_method_11_code 0 = .ok (.iload_n 1, 1) := by decide +kernel
theorem dc_14_11_1 : decode prog_14_method_11_code 1 = .ok (.iconst 0, 1) := by decide +kernel
theorem dc_14_11_2 : decode prog_14_method_11_code 2 = .ok (.iconst 3, 1) := by decide +kernel
theorem dc_14_11_3 : decode prog_14_method_11_code 3 = .ok (.invokestatic 180, 3) := by decide +kernel
theorem dc_14_11_6 : decode prog_14_method_11_code 6 = .ok (.ifCond .eq 83, 3) := by decide +kernel
theorem dc_14_11_9 : decode prog_14_method_11_code 9 = .ok (.iload_n 2, 1) := by decide +kernel
theorem dc_14_11_10 : decode prog_14_method_11_code 10 = .ok (.iconst 0, 1) := by decide +kernel
theorem dc_14_11_11 : decode prog_14_method_11_code 11 = .ok (.iconst 3, 1) := by decide +kernel
theorem dc_14_11_12 : decode prog_14_method_11_code 12 = .ok (.invokestatic 180, 3) := by decide +kernel
theorem dc_14_11_15 : decode prog_14_method_11_code 15 = .ok (.ifCond .eq 74, 3) := by decide +kernel
theorem dc_14_11_18 : decode prog_14_method_11_code 18 = .ok (.iload_n 3, 1) := by decide +kernel
theorem dc_14_11_19 : decode prog_14_method_11_code 19 = .ok (.iconst 0, 1) := by decide +kernel
theorem dc_14_11_20 : decode prog_14_method_11_code 20 = .ok (.bipush 9, 2) := by decide +kernel
theorem dc_14_11_22 : decode prog_14_method_11_code 22 = .ok (.invokestatic 180, 3) := by decide +kernel
theorem dc_14_11_25 : decode prog_14_method_11_code 25 = .ok (.ifCond .eq 64, 3) := by decide +kernel
theorem dc_14_11_28 : decode prog_14_method_11_code 28 = .ok (.iload 4, 2) := by decide +kernel
theorem dc_14_11_30 : decode prog_14_method_11_code 30 = .ok (.iconst 0, 1) := by decide +kernel
theorem dc_14_11_31 : decode prog_14_method_11_code 31 = .ok (.iconst 3, 1) := by decide +kernel
theorem dc_14_11_32 : decode prog_14_method_11_code 32 = .ok (.invokestatic 180, 3) := by decide +kernel
theorem dc_14_11_35 : decode prog_14_method_11_code 35 = .ok (.ifCond .eq 54, 3) := by decide +kernel
theorem dc_14_11_38 : decode prog_14_method_11_code 38 = .ok (.iload 5, 2) := by decide +kernel
theorem dc_14_11_40 : decode prog_14_method_11_code 40 = .ok (.iconst 0, 1) := by decide +kernel
theorem dc_14_11_41 : decode prog_14_method_11_code 41 = .ok (.sipush 359, 3) := by decide +kernel
theorem dc_14_11_44 : decode prog_14_method_11_code 44 = .ok (.invokestatic 180, 3) := by decide +kernel
theorem dc_14_11_47 : decode prog_14_method_11_code 47 = .ok (.ifCond .eq 42, 3) := by decide +kernel
theorem dc_14_11_50 : decode prog_14_method_11_code 50 = .ok (.iload 6, 2) := by decide +kernel
theorem dc_14_11_52 : decode prog_14_method_11_code 52 = .ok (.iconst 0, 1) := by decide +kernel
theorem dc_14_11_53 : decode prog_14_method_11_code 53 = .ok (.sipush 359, 3) := by decide +kernel
theorem dc_14_11_56 : decode prog_14_method_11_code 56 = .ok (.invokestatic 180, 3) := by decide +kernel
theorem dc_14_11_59 : decode prog_14_method_11_code 59 = .ok (.ifCond .eq 30, 3) := by decide +kernel
theorem dc_14_11_62 : decode prog_14_method_11_code 62 = .ok (.iload 6, 2) := by decide +kernel
theorem dc_14_11_64 : decode prog_14_method_11_code 64 = .ok (.iload 5, 2) := by decide +kernel
theorem dc_14_11_66 : decode prog_14_method_11_code 66 = .ok (.if_icmp .le 23, 3) := by decide +kernel
theorem dc_14_11_69 : decode prog_14_method_11_code 69 = .ok (.iload 7, 2) := by decide +kernel
theorem dc_14_11_71 : decode prog_14_method_11_code 71 = .ok (.iconst 0, 1) := by decide +kernel
theorem dc_14_11_72 : decode prog_14_method_11_code 72 = .ok (.ldc 204, 2) := by decide +kernel
theorem dc_14_11_74 : decode prog_14_method_11_code 74 = .ok (.invokestatic 180, 3) := by decide +kernel
theorem dc_14_11_77 : decode prog_14_method_11_code 77 = .ok (.ifCond .eq 12, 3) := by decide +kernel
theorem dc_14_11_80 : decode prog_14_method_11_code 80 = .ok (.aload_n 0, 1) := by decide +kernel
theorem dc_14_11_81 : decode prog_14_method_11_code 81 = .ok (.getfield 200, 3) := by decide +kernel
theorem dc_14_11_84 : decode prog_14_method_11_code 84 = .ok (.bipush 8, 2) := by decide +kernel
theorem dc_14_11_86 : decode prog_14_method_11_code 86 = .ok (.if_icmp .ne 5, 3) := by decide +kernel
theorem dc_14_11_89 : decode prog_14_method_11_code 89 = .ok (.iconst (-1), 1) := by decide +kernel
theorem dc_14_11_90 : decode prog_14_method_11_code 90 = .ok (.ireturn, 1) := by decide +kernel
theorem dc_14_11_91 : decode prog_14_method_11_code 91 = .ok (.aload_n 0, 1) := by decide +kernel
theorem dc_14_11_92 : decode prog_14_method_11_code 92 = .ok (.getfield 19, 3) := by decide +kernel
theorem dc_14_11_95 : decode prog_14_method_11_code 95 = .ok (.aload_n 0, 1) := by decide +kernel
theorem dc_14_11_96 : decode prog_14_method_11_code 96 = .ok (.getfield 200, 3) := by decide +kernel
theorem dc_14_11_99 : decode prog_14_method_11_code 99 = .ok (.iload_n 1, 1) := by decide +kernel
theorem dc_14_11_100 : decode prog_14_method_11_code 100 = .ok (.iastore, 1) := by decide +kernel
theorem dc_14_11_101 : decode prog_14_method_11_code 101 = .ok (.aload_n 0, 1) := by decide +kernel
theorem dc_14_11_102 : decode prog_14_method_11_code 102 = .ok (.getfield 22, 3) := by decide +kernel
theorem dc_14_11_105 : decode prog_14_method_11_code 105 = .ok (.aload_n 0, 1) := by decide +kernel
theorem dc_14_11_106 : decode prog_14_method_11_code 106 = .ok (.getfield 200, 3) := by decide +kernel
theorem dc_14_11_109 : decode prog_14_method_11_code 109 = .ok (.iload_n 2, 1) := by decide +kernel
theorem dc_14_11_110 : decode prog_14_method_11_code 110 = .ok (.iastore, 1) := by decide +kernel
theorem dc_14_11_111 : decode prog_14_method_11_code 111 = .ok (.aload_n 0, 1) := by decide +kernel
theorem dc_14_11_112 : decode prog_14_method_11_code 112 = .ok (.getfield 25, 3) := by decide +kernel
theorem dc_14_11_115 : decode prog_14_method_11_code 115 = .ok (.aload_n 0, 1) := by decide +kernel
theorem dc_14_11_116 : decode prog_14_method_11_code 116 = .ok (.getfield 200, 3) := by decide +kernel
theorem dc_14_11_119 : decode prog_14_method_11_code 119 = .ok (.iload_n 3, 1) := by decide +kernel
theorem dc_14_11_120 : decode prog_14_method_11_code 120 = .ok (.iastore, 1) := by decide +kernel
theorem dc_14_11_121 : decode prog_14_method_11_code 121 = .ok (.aload_n 0, 1) := by decide +kernel
theorem dc_14_11_122 : decode prog_14_method_11_code 122 = .ok (.getfield 28, 3) := by decide +kernel
theorem dc_14_11_125 : decode prog_14_method_11_code 125 = .ok (.aload_n 0, 1) := by decide +kernel
theorem dc_14_11_126 : decode prog_14_method_11_code 126 = .ok (.getfield 200, 3) := by decide +kernel
theorem dc_14_11_129 : decode prog_14_method_11_code 129 = .ok (.iload 4, 2) := by decide +kernel
theorem dc_14_11_131 : decode prog_14_method_11_code 131 = .ok (.iastore, 1) := by decide +kernel
theorem dc_14_11_132 : decode prog_14_method_11_code 132 = .ok (.aload_n 0, 1) := by decide +kernel
theorem dc_14_11_133 : decode prog_14_method_11_code 133 = .ok (.getfield 31, 3) := by decide +kernel
theorem dc_14_11_136 : decode prog_14_method_11_code 136 = .ok (.aload_n 0, 1) := by decide +kernel
theorem dc_14_11_137 : decode prog_14_method_11_code 137 = .ok (.getfield 200, 3) := by decide +kernel
theorem dc_14_11_140 : decode prog_14_method_11_code 140 = .ok (.iload 5, 2) := by decide +kernel
theorem dc_14_11_142 : decode prog_14_method_11_code 142 = .ok (.iastore, 1) := by decide +kernel
theorem dc_14_11_143 : decode prog_14_method_11_code 143 = .ok (.aload_n 0, 1) := by decide +kernel
theorem dc_14_11_144 : decode prog_14_method_11_code 144 = .ok (.getfield 34, 3) := by decide +kernel
theorem dc_14_11_147 : decode prog_14_method_11_code 147 = .ok (.aload_n 0, 1) := by decide +kernel
theorem dc_14_11_148 : decode prog_14_method_11_code 148 = .ok (.getfield 200, 3) := by decide +kernel
theorem dc_14_11_151 : decode prog_14_method_11_code 151 = .ok (.iload 6, 2) := by decide +kernel
theorem dc_14_11_153 : decode prog_14_method_11_code 153 = .ok (.iastore, 1) := by decide +kernel
theorem dc_14_11_154 : decode prog_14_method_11_code 154 = .ok (.aload_n 0, 1) := by decide +kernel
theorem dc_14_11_155 : decode prog_14_method_11_code 155 = .ok (.getfield 37, 3) := by decide +kernel
theorem dc_14_11_158 : decode prog_14_method_11_code 158 = .ok (.aload_n 0, 1) := by decide +kernel
theorem dc_14_11_159 : decode prog_14_method_11_code 159 = .ok (.getfield 200, 3) := by decide +kernel
theorem dc_14_11_162 : decode prog_14_method_11_code 162 = .ok (.iload 7, 2) := by decide +kernel
theorem dc_14_11_164 : decode prog_14_method_11_code 164 = .ok (.iastore, 1) := by decide +kernel
theorem dc_14_11_165 : decode prog_14_method_11_code 165 = .ok (.aload_n 0, 1) := by decide +kernel
theorem dc_14_11_166 : decode prog_14_method_11_code 166 = .ok (.aload_n 0, 1) := by decide +kernel
theorem dc_14_11_167 : decode prog_14_method_11_code 167 = .ok (.getfield 200, 3) := by decide +kernel
theorem dc_14_11_170 : decode prog_14_method_11_code 170 = .ok (.iconst 1, 1) := by decide +kernel
theorem dc_14_11_171 : decode prog_14_method_11_code 171 = .ok (.iadd, 1) := by decide +kernel
theorem dc_14_11_172 : decode prog_14_method_11_code 172 = .ok (.putfield 200, 3) := by decide +kernel
theorem dc_14_11_175 : decode prog_14_method_11_code 175 = .ok (.aload_n 0, 1) := by decide +kernel
theorem dc_14_11_176 : decode prog_14_method_11_code 176 = .ok (.getfield 200, 3) := by decide +kernel
theorem dc_14_11_179 : decode prog_14_method_11_code 179 = .ok (.iconst 1, 1) := by decide +kernel
theorem dc_14_11_180 : decode prog_14_method_11_code 180 = .ok (.isub, 1) := by decide +kernel
theorem dc_14_11_181 : decode prog_14_method_11_code 181 = .ok (.ireturn, 1) := by decide +kernel
theorem dc_14_12_0 : decode prog_14_method_12_code 0 = .ok (.aload_n 0, 1) := by decide +kernel
theorem dc_14_12_1 : decode prog_14_method_12_code 1 = .ok (.iload_n 1, 1) := by decide +kernel
theorem dc_14_12_2 : decode prog_14_method_12_code 2 = .ok (.invokevirtual 205, 3) := by decide +kernel
theorem dc_14_12_5 : decode prog_14_method_12_code 5 = .ok (.ifCond .eq 13, 3) := by decide +kernel
theorem dc_14_12_8 : decode prog_14_method_12_code 8 = .ok (.iload_n 2, 1) := by decide +kernel
theorem dc_14_12_9 : decode prog_14_method_12_code 9 = .ok (.iconst 0, 1) := by decide +kernel
theorem dc_14_12_10 : decode prog_14_method_12_code 10 = .ok (.bipush 9, 2) := by decide +kernel
theorem dc_14_12_12 : decode prog_14_method_12_code 12 = .ok (.invokestatic 180, 3) := by decide +kernel
theorem dc_14_12_15 : decode prog_14_method_12_code 15 = .ok (.ifCond .ne 5, 3) := by decide +kernel
theorem dc_14_12_18 : decode prog_14_method_12_code 18 = .ok (.iconst 0, 1) := by decide +kernel
theorem dc_14_12_19 : decode prog_14_method_12_code 19 = .ok (.ireturn, 1) := by decide +kernel
theorem dc_14_12_20 : decode prog_14_method_12_code 20 = .ok (.aload_n 0, 1) := by decide +kernel
theorem dc_14_12_21 : decode prog_14_method_12_code 21 = .ok (.getfield 25, 3) := by decide +kernel
theorem dc_14_12_24 : decode prog_14_method_12_code 24 = .ok (.iload_n 1, 1) := by decide +kernel
theorem dc_14_12_25 : decode prog_14_method_12_code 25 = .ok (.iload_n 2, 1) := by decide +kernel
theorem dc_14_12_26 : decode prog_14_method_12_code 26 = .ok (.iastore, 1) := by decide +kernel
theorem dc_14_12_27 : decode prog_14_method_12_code 27 = .ok (.iconst 1, 1) := by decide +kernel
theorem dc_14_12_28 : decode prog_14_method_12_code 28 = .ok (.ireturn, 1) := by decide +kernel
theorem dc_14_3_0 : decode prog_14_method_3_code 0 = .ok (.iload_n 1, 1) := by decide +kernel
theorem dc_14_3_1 : decode prog_14_method_3_code 1 = .ok (.iconst 0, 1) := by decide +kernel
theorem dc_14_3_2 : decode prog_14_method_3_code 2 = .ok (.iconst 3, 1) := by decide +kernel
theorem dc_14_3_3 : decode prog_14_method_3_code 3 = .ok (.invokestatic 180, 3) := by decide +kernel
theorem dc_14_3_6 : decode prog_14_method_3_code 6 = .ok (.ifCond .eq 25, 3) := by decide +kernel
theorem dc_14_3_9 : decode prog_14_method_3_code 9 = .ok (.iload_n 2, 1) := by decide +kernel
theorem dc_14_3_10 : decode prog_14_method_3_code 10 = .ok (.iconst 0, 1) := by decide +kernel
theorem dc_14_3_11 : decode prog_14_method_3_code 11 = .ok (.sipush 200, 3) := by decide +kernel
theorem dc_14_3_14 : decode prog_14_method_3_code 14 = .ok (.invokestatic 180, 3) := by decide +kernel
theorem dc_14_3_17 : decode prog_14_method_3_code 17 = .ok (.ifCond .eq 14, 3) := by decide +kernel
theorem dc_14_3_20 : decode prog_14_method_3_code 20 = .ok (.iload_n 3, 1) := by decide +kernel
theorem dc_14_3_21 : decode prog_14_method_3_code 21 = .ok (.iload_n 2, 1) := by decide +kernel
theorem dc_14_3_22 : decode prog_14_method_3_code 22 = .ok (.sipush 200, 3) := by decide +kernel
theorem dc_14_3_25 : decode prog_14_method_3_code 25 = .ok (.invokestatic 180, 3) := by decide +kernel
theorem dc_14_3_28 : decode prog_14_method_3_code 28 = .ok (.ifCond .ne 5, 3) := by decide +kernel
theorem dc_14_3_31 : decode prog_14_method_3_code 31 = .ok (.iconst 0, 1) := by decide +kernel
theorem dc_14_3_32 : decode prog_14_method_3_code 32 = .ok (.ireturn, 1) := by decide +kernel
theorem dc_14_3_33 : decode prog_14_method_3_code 33 = .ok (.aload_n 0, 1) := by decide +kernel
theorem dc_14_3_34 : decode prog_14_method_3_code 34 = .ok (.getfield 7, 3) := by decide +kernel
theorem dc_14_3_37 : decode prog_14_method_3_code 37 = .ok (.iload_n 1, 1) := by decide +kernel
theorem dc_14_3_38 : decode prog_14_method_3_code 38 = .ok (.iload_n 2, 1) := by decide +kernel
theorem dc_14_3_39 : decode prog_14_method_3_code 39 = .ok (.iastore, 1) := by decide +kernel
theorem dc_14_3_40 : decode prog_14_method_3_code 40 = .ok (.aload_n 0, 1) := by decide +kernel
theorem dc_14_3_41 : decode prog_14_method_3_code 41 = .ok (.getfield 13, 3) := by decide +kernel
theorem dc_14_3_44 : decode prog_14_method_3_code 44 = .ok (.iload_n 1, 1) := by decide +kernel
theorem dc_14_3_45 : decode prog_14_method_3_code 45 = .ok (.iload_n 3, 1) := by decide +kernel
theorem dc_14_3_46 : decode prog_14_method_3_code 46 = .ok (.iastore, 1) := by decide +kernel
theorem dc_14_3_47 : decode prog_14_method_3_code 47 = .ok (.iconst 1, 1) := by decide +kernel
theorem dc_14_3_48 : decode prog_14_method_3_code 48 = .ok (.ireturn, 1) := by decide +kernel
theorem dc_14_4_0 : decode prog_14_method_4_code 0 = .ok (.iload_n 1, 1) := by decide +kernel
theorem dc_14_4_1 : decode prog_14_method_4_code 1 = .ok (.iconst 0, 1) := by decide +kernel
theorem dc_14_4_2 : decode prog_14_method_4_code 2 = .ok (.iconst 3, 1) := by decide +kernel
theorem dc_14_4_3 : decode prog_14_method_4_code 3 = .ok (.invokestatic 180, 3) := by decide +kernel
theorem dc_14_4_6 : decode prog_14_method_4_code 6 = .ok (.ifCond .eq 24, 3) := by decide +kernel
theorem dc_14_4_9 : decode prog_14_method_4_code 9 = .ok (.iload_n 2, 1) := by decide +kernel
theorem dc_14_4_10 : decode prog_14_method_4_code 10 = .ok (.iconst 0, 1) := by decide +kernel
theorem dc_14_4_11 : decode prog_14_method_4_code 11 = .ok (.bipush 10, 2) := by decide +kernel
theorem dc_14_4_13 : decode prog_14_method_4_code 13 = .ok (.invokestatic 180, 3) := by decide +kernel
theorem dc_14_4_16 : decode prog_14_method_4_code 16 = .ok (.ifCond .eq 14, 3) := by decide +kernel
theorem dc_14_4_19 : decode prog_14_method_4_code 19 = .ok (.iload_n 3, 1) := by decide +kernel
theorem dc_14_4_20 : decode prog_14_method_4_code 20 = .ok (.iconst 0, 1) := by decide +kernel
theorem dc_14_4_21 : decode prog_14_method_4_code 21 = .ok (.sipush 999, 3) := by decide +kernel
theorem dc_14_4_24 : decode prog_14_method_4_code 24 = .ok (.invokestatic 180, 3) := by decide +kernel
theorem dc_14_4_27 : decode prog_14_method_4_code 27 = .ok (.ifCond .ne 5, 3) := by decide +kernel
theorem dc_14_4_30 : decode prog_14_method_4_code 30 = .ok (.iconst 0, 1) := by decide +kernel
theorem dc_14_4_31 : decode prog_14_method_4_code 31 = .ok (.ireturn, 1) := by decide +kernel
theorem dc_14_4_32 : decode prog_14_method_4_code 32 = .ok (.aload_n 0, 1) := by decide +kernel
theorem dc_14_4_33 : decode prog_14_method_4_code 33 = .ok (.getfield 16, 3) := by decide +kernel
theorem dc_14_4_36 : decode prog_14_method_4_code 36 = .ok (.bipush 11, 2) := by decide +kernel
theorem dc_14_4_38 : decode prog_14_method_4_code 38 = .ok (.iload_n 1, 1) := by decide +kernel
theorem dc_14_4_39 : decode prog_14_method_4_code 39 = .ok (.imul, 1) := by decide +kernel
theorem dc_14_4_40 : decode prog_14_method_4_code 40 = .ok (.iload_n 2, 1) := by decide +kernel
theorem dc_14_4_41 : decode prog_14_method_4_code 41 = .ok (.iadd, 1) := by decide +kernel
theorem dc_14_4_42 : decode prog_14_method_4_code 42 = .ok (.iload_n 3, 1) := by decide +kernel
theorem dc_14_4_43 : decode prog_14_method_4_code 43 = .ok (.iastore, 1) := by decide +kernel
theorem dc_14_4_44 : decode prog_14_method_4_code 44 = .ok (.iconst 1, 1) := by decide +kernel
theorem dc_14_4_45 : decode prog_14_method_4_code 45 = .ok (.ireturn, 1) := by decide +kernel
theorem iv_13_s180 : mm_iv 13 (.invokestatic 180) = some (0, 187) := by decide +kernel
theorem iv_13_v205 : mm_iv 13 (.invokevirtual 205) = some (1, 196) := by decide +kernel
theorem nr_13_204 : mm_nr 13 204 = some (nI 99999) := by decide +kernel
theorem o_196 : mm_o 196 = 13 := by decide +kernel
theorem na_0_187 : mm_nas 0 187 = 3 := by decide +kernel
theorem na_1_196 : mm_nas 1 196 = 2 := by decide +kernel
theorem sp_in_ne {v lo hi : Int32} (h : ¬ sp_in v lo hi = 0) : lo ≤ v ∧ v ≤ hi := by
  unfold sp_in at h
  split at h
  · assumption
  · exact absurd rfl h
theorem sp_is_ne {v n : Int32} (h : ¬ sp_is v n = 0) : 0 ≤ v ∧ v < n := by
  unfold sp_is at h
  split at h
  · assumption
  · exact absurd rfl h
theorem c_inT (N : mH) (a lo hi : Nat) (h1 : lo ≤ a) (h2 : a ≤ hi) (hb : hi < 2 ^ 31) : mm_Ev 1 187 [.int (nI a), .int (nI lo), .int (nI hi)] N (some (.int (nI 1)), N) := by
  have h := c_in N (nI a) (nI lo) (nI hi)
  rw [show sp_in (nI a) (nI lo) (nI hi) = nI 1 from if_pos ⟨nI_le h1 (by omega), nI_le h2 hb⟩] at h
  exact h
theorem c_isSchoolT (M : mH) (hM : 157 ≤ M.1) (io : Nat → Int32) (sg : Nat → Nat → Int32) (n : Nat) (h : io 3 = nI n) (v : Nat) (hv : v < n) (hn : n < 2 ^ 31) : mm_Ev 1 196 [.ref 100, .int (nI v)] (rf_mk M io sg) (some (.int (nI 1)), rf_mk M io sg) := by
  have h9 := c_isSchool M hM io sg (nI v)
  rw [h, show sp_is (nI v) (nI n) = nI 1 from if_pos ⟨nI_pos' (by omega), nI_lt hv hn⟩] at h9
  exact h9
theorem c_isAgreementT (M : mH) (hM : 157 ≤ M.1) (io : Nat → Int32) (sg : Nat → Nat → Int32) (n : Nat) (h : io 4 = nI n) (v : Nat) (hv : v < n) (hn : n < 2 ^ 31) : mm_Ev 1 212 [.ref 100, .int (nI v)] (rf_mk M io sg) (some (.int (nI 1)), rf_mk M io sg) := by
  have h9 := c_isAgreement M hM io sg (nI v)
  rw [h, show sp_is (nI v) (nI n) = nI 1 from if_pos ⟨nI_pos' (by omega), nI_lt hv hn⟩] at h9
  exact h9
theorem c_isStudentT (M : mH) (hM : 157 ≤ M.1) (io : Nat → Int32) (sg : Nat → Nat → Int32) (n : Nat) (h : io 5 = nI n) (v : Nat) (hv : v < n) (hn : n < 2 ^ 31) : mm_Ev 1 222 [.ref 100, .int (nI v)] (rf_mk M io sg) (some (.int (nI 1)), rf_mk M io sg) := by
  have h9 := c_isStudent M hM io sg (nI v)
  rw [h, show sp_is (nI v) (nI n) = nI 1 from if_pos ⟨nI_pos' (by omega), nI_lt hv hn⟩] at h9
  exact h9
theorem c_isDayT (N : mH) (v : Nat) (hv : v < 360) : mm_Ev 1 256 [.int (nI v)] N (some (.int (nI 1)), N) := by
  have h9 := c_isDay N (nI v)
  rw [show sp_is (nI v) (nI 360) = nI 1 from if_pos ⟨nI_pos' (by omega), nI_lt hv (by decide)⟩] at h9
  exact h9
def gd_land (l a b : Int32) : Prop := (nI 0 ≤ l ∧ l ≤ nI 3) ∧ (nI 0 ≤ a ∧ a ≤ nI 200) ∧ (a ≤ b ∧ b ≤ nI 200)
set_option maxHeartbeats 4000000 in
theorem c_land_ok (M : mH) (hM : 157 ≤ M.1) (io : Nat → Int32) (sg : Nat → Nat → Int32) (l a b : Nat) (hl : l < 4) (ha : a ≤ b) (hb : b ≤ 200) : mm_Ev 2 186 [.ref 100, .int (nI l), .int (nI a), .int (nI b)] (rf_mk M io sg) ((some (.int (nI 1)), rf_mk M io (va_up (va_up sg 0 (upd (sg 0) l (nI a))) 1 (upd (sg 1) l (nI b))))) := by
  refine r_ev (by decide +kernel) (show (4 : Nat) ≤ mm_nL 186 by decide +kernel) ?_
  show mm_Ru 1 (13, 4, false, prog_14_method_3_code, some .boolean) 0 [(0, .ref 100), (1, .int (nI l)), (2, .int (nI a)), (3, .int (nI b))] [] (rf_mk M io sg) (fun z => z = ((some (.int (nI 1)), rf_mk M io (va_up (va_up sg 0 (upd (sg 0) l (nI a))) 1 (upd (sg 1) l (nI b))))))
  refine r_iload_n rfl dc_14_3_0 ?_
  refine r_iconst (v := nI 0) (by decide) dc_14_3_1 ?_
  refine r_iconst (v := nI 3) (by decide) dc_14_3_2 ?_
  refine q_calls (as := [.int (nI l), .int (nI 0), .int (nI 3)]) (rest := []) (v := .int (nI 1)) iv_13_s180 na_0_187 rfl (show (0 : Nat) ≤ 8 by decide) dc_14_3_3 (c_inT _ l 0 3 (by omega) (by omega) (by omega)) ?_
  refine r_ifeq (t := 31) (by decide) dc_14_3_6 (fun c_6 => ?_) (fun c_6 => ?_)
  · exact absurd c_6 (by decide)
  · skip
    refine r_iload_n rfl dc_14_3_9 ?_
    refine r_iconst (v := nI 0) (by decide) dc_14_3_10 ?_
    refine r_sipush (v := nI 200) (by decide) dc_14_3_11 ?_
    refine q_calls (as := [.int (nI a), .int (nI 0), .int (nI 200)]) (rest := []) (v := .int (nI 1)) iv_13_s180 na_0_187 rfl (show (0 : Nat) ≤ 8 by decide) dc_14_3_14 (c_inT _ a 0 200 (by omega) (by omega) (by omega)) ?_
    refine r_ifeq (t := 31) (by decide) dc_14_3_17 (fun c_17 => ?_) (fun c_17 => ?_)
    · exact absurd c_17 (by decide)
    · skip
      refine r_iload_n rfl dc_14_3_20 ?_
      refine r_iload_n rfl dc_14_3_21 ?_
      refine r_sipush (v := nI 200) (by decide) dc_14_3_22 ?_
      refine q_calls (as := [.int (nI b), .int (nI a), .int (nI 200)]) (rest := []) (v := .int (nI 1)) iv_13_s180 na_0_187 rfl (show (0 : Nat) ≤ 8 by decide) dc_14_3_25 (c_inT _ b a 200 (by omega) (by omega) (by omega)) ?_
      refine r_ifne (t := 33) (by decide) dc_14_3_28 (fun c_28 => ?_) (fun c_28 => ?_)
      · skip
        refine r_aload_n rfl dc_14_3_33 ?_
        refine q_get (v := .ref 101) rx_7 hM rfl dc_14_3_34 ?_
        refine r_iload_n rfl dc_14_3_37 ?_
        refine r_iload_n rfl dc_14_3_38 ?_
        refine q_ist (e := l) (k := 0) (by decide) (by decide) hM rfl rfl (show l < 4 by omega) (by omega) dc_14_3_39 ?_
        refine r_aload_n rfl dc_14_3_40 ?_
        refine q_get (v := .ref 102) rx_13 hM rfl dc_14_3_41 ?_
        refine r_iload_n rfl dc_14_3_44 ?_
        refine r_iload_n rfl dc_14_3_45 ?_
        refine q_ist (e := l) (k := 1) (by decide) (by decide) hM rfl rfl (show l < 4 by omega) (by omega) dc_14_3_46 ?_
        refine r_iconst (v := nI 1) (by decide) dc_14_3_47 ?_
        exact r_zret rfl (by decide) dc_14_3_48 (rfl)
      · exact absurd c_28 (by decide)
set_option maxHeartbeats 4000000 in
theorem c_land_no (M : mH) (hM : 157 ≤ M.1) (io : Nat → Int32) (sg : Nat → Nat → Int32) (l a b : Int32) (hno : ¬ gd_land l a b) : mm_Ev 2 186 [.ref 100, .int l, .int a, .int b] (rf_mk M io sg) ((some (.int (nI 0)), rf_mk M io sg)) := by
  refine r_ev (by decide +kernel) (show (4 : Nat) ≤ mm_nL 186 by decide +kernel) ?_
  show mm_Ru 1 (13, 4, false, prog_14_method_3_code, some .boolean) 0 [(0, .ref 100), (1, .int l), (2, .int a), (3, .int b)] [] (rf_mk M io sg) (fun z => z = ((some (.int (nI 0)), rf_mk M io sg)))
  refine r_iload_n rfl dc_14_3_0 ?_
  refine r_iconst (v := nI 0) (by decide) dc_14_3_1 ?_
  refine r_iconst (v := nI 3) (by decide) dc_14_3_2 ?_
  refine q_calls (as := [.int l, .int (nI 0), .int (nI 3)]) (rest := []) (v := .int (sp_in l (nI 0) (nI 3))) iv_13_s180 na_0_187 rfl (show (0 : Nat) ≤ 8 by decide) dc_14_3_3 (c_in _ l (nI 0) (nI 3)) ?_
  refine r_ifeq (t := 31) (by decide) dc_14_3_6 (fun c_6 => ?_) (fun c_6 => ?_)
  · skip
    refine r_iconst (v := nI 0) (by decide) dc_14_3_31 ?_
    exact r_zret rfl (by decide) dc_14_3_32 (rfl)
  · skip
    refine r_iload_n rfl dc_14_3_9 ?_
    refine r_iconst (v := nI 0) (by decide) dc_14_3_10 ?_
    refine r_sipush (v := nI 200) (by decide) dc_14_3_11 ?_
    refine q_calls (as := [.int a, .int (nI 0), .int (nI 200)]) (rest := []) (v := .int (sp_in a (nI 0) (nI 200))) iv_13_s180 na_0_187 rfl (show (0 : Nat) ≤ 8 by decide) dc_14_3_14 (c_in _ a (nI 0) (nI 200)) ?_
    refine r_ifeq (t := 31) (by decide) dc_14_3_17 (fun c_17 => ?_) (fun c_17 => ?_)
    · skip
      refine r_iconst (v := nI 0) (by decide) dc_14_3_31 ?_
      exact r_zret rfl (by decide) dc_14_3_32 (rfl)
    · skip
      refine r_iload_n rfl dc_14_3_20 ?_
      refine r_iload_n rfl dc_14_3_21 ?_
      refine r_sipush (v := nI 200) (by decide) dc_14_3_22 ?_
      refine q_calls (as := [.int b, .int a, .int (nI 200)]) (rest := []) (v := .int (sp_in b a (nI 200))) iv_13_s180 na_0_187 rfl (show (0 : Nat) ≤ 8 by decide) dc_14_3_25 (c_in _ b a (nI 200)) ?_
      refine r_ifne (t := 33) (by decide) dc_14_3_28 (fun c_28 => ?_) (fun c_28 => ?_)
      · skip
        exact absurd (⟨sp_in_ne c_6, sp_in_ne c_17, sp_in_ne c_28⟩) hno
      · skip
        refine r_iconst (v := nI 0) (by decide) dc_14_3_31 ?_
        exact r_zret rfl (by decide) dc_14_3_32 (rfl)
def gd_had (c m n : Int32) : Prop := (nI 0 ≤ c ∧ c ≤ nI 3) ∧ (nI 0 ≤ m ∧ m ≤ nI 10) ∧ (nI 0 ≤ n ∧ n ≤ nI 999)
set_option maxHeartbeats 4000000 in
theorem c_had_ok (M : mH) (hM : 157 ≤ M.1) (io : Nat → Int32) (sg : Nat → Nat → Int32) (c m n : Nat) (hc : c < 4) (hm : m < 11) (hn : n ≤ 999) : mm_Ev 2 188 [.ref 100, .int (nI c), .int (nI m), .int (nI n)] (rf_mk M io sg) ((some (.int (nI 1)), rf_mk M io (va_up sg 2 (upd (sg 2) (11 * c + m) (nI n))))) := by
  refine r_ev (by decide +kernel) (show (4 : Nat) ≤ mm_nL 188 by decide +kernel) ?_
  show mm_Ru 1 (13, 4, false, prog_14_method_4_code, some .boolean) 0 [(0, .ref 100), (1, .int (nI c)), (2, .int (nI m)), (3, .int (nI n))] [] (rf_mk M io sg) (fun z => z = ((some (.int (nI 1)), rf_mk M io (va_up sg 2 (upd (sg 2) (11 * c + m) (nI n))))))
  refine r_iload_n rfl dc_14_4_0 ?_
  refine r_iconst (v := nI 0) (by decide) dc_14_4_1 ?_
  refine r_iconst (v := nI 3) (by decide) dc_14_4_2 ?_
  refine q_calls (as := [.int (nI c), .int (nI 0), .int (nI 3)]) (rest := []) (v := .int (nI 1)) iv_13_s180 na_0_187 rfl (show (0 : Nat) ≤ 8 by decide) dc_14_4_3 (c_inT _ c 0 3 (by omega) (by omega) (by omega)) ?_
  refine r_ifeq (t := 30) (by decide) dc_14_4_6 (fun c_6 => ?_) (fun c_6 => ?_)
  · exact absurd c_6 (by decide)
  · skip
    refine r_iload_n rfl dc_14_4_9 ?_
    refine r_iconst (v := nI 0) (by decide) dc_14_4_10 ?_
    refine r_bipush (v := nI 10) (by decide) dc_14_4_11 ?_
    refine q_calls (as := [.int (nI m), .int (nI 0), .int (nI 10)]) (rest := []) (v := .int (nI 1)) iv_13_s180 na_0_187 rfl (show (0 : Nat) ≤ 8 by decide) dc_14_4_13 (c_inT _ m 0 10 (by omega) (by omega) (by omega)) ?_
    refine r_ifeq (t := 30) (by decide) dc_14_4_16 (fun c_16 => ?_) (fun c_16 => ?_)
    · exact absurd c_16 (by decide)
    · skip
      refine r_iload_n rfl dc_14_4_19 ?_
      refine r_iconst (v := nI 0) (by decide) dc_14_4_20 ?_
      refine r_sipush (v := nI 999) (by decide) dc_14_4_21 ?_
      refine q_calls (as := [.int (nI n), .int (nI 0), .int (nI 999)]) (rest := []) (v := .int (nI 1)) iv_13_s180 na_0_187 rfl (show (0 : Nat) ≤ 8 by decide) dc_14_4_24 (c_inT _ n 0 999 (by omega) (by omega) (by omega)) ?_
      refine r_ifne (t := 32) (by decide) dc_14_4_27 (fun c_27 => ?_) (fun c_27 => ?_)
      · skip
        refine r_aload_n rfl dc_14_4_32 ?_
        refine q_get (v := .ref 103) rx_16 hM rfl dc_14_4_33 ?_
        refine r_bipush (v := nI 11) (by decide) dc_14_4_36 ?_
        refine r_iload_n rfl dc_14_4_38 ?_
        refine r_imul (v := nI (11 * c)) (pk_mul _ _) dc_14_4_39 ?_
        refine r_iload_n rfl dc_14_4_40 ?_
        refine r_iadd (v := nI (11 * c + m)) (nI_add _ _) dc_14_4_41 ?_
        refine r_iload_n rfl dc_14_4_42 ?_
        refine q_ist (e := 11 * c + m) (k := 2) (by decide) (by decide) hM rfl rfl (show 11 * c + m < 44 by omega) (by omega) dc_14_4_43 ?_
        refine r_iconst (v := nI 1) (by decide) dc_14_4_44 ?_
        exact r_zret rfl (by decide) dc_14_4_45 (rfl)
      · exact absurd c_27 (by decide)
set_option maxHeartbeats 4000000 in
theorem c_had_no (M : mH) (hM : 157 ≤ M.1) (io : Nat → Int32) (sg : Nat → Nat → Int32) (c m n : Int32) (hno : ¬ gd_had c m n) : mm_Ev 2 188 [.ref 100, .int c, .int m, .int n] (rf_mk M io sg) ((some (.int (nI 0)), rf_mk M io sg)) := by
  refine r_ev (by decide +kernel) (show (4 : Nat) ≤ mm_nL 188 by decide +kernel) ?_
  show mm_Ru 1 (13, 4, false, prog_14_method_4_code, some .boolean) 0 [(0, .ref 100), (1, .int c), (2, .int m), (3, .int n)] [] (rf_mk M io sg) (fun z => z = ((some (.int (nI 0)), rf_mk M io sg)))
  refine r_iload_n rfl dc_14_4_0 ?_
  refine r_iconst (v := nI 0) (by decide) dc_14_4_1 ?_
  refine r_iconst (v := nI 3) (by decide) dc_14_4_2 ?_
  refine q_calls (as := [.int c, .int (nI 0), .int (nI 3)]) (rest := []) (v := .int (sp_in c (nI 0) (nI 3))) iv_13_s180 na_0_187 rfl (show (0 : Nat) ≤ 8 by decide) dc_14_4_3 (c_in _ c (nI 0) (nI 3)) ?_
  refine r_ifeq (t := 30) (by decide) dc_14_4_6 (fun c_6 => ?_) (fun c_6 => ?_)
  · skip
    refine r_iconst (v := nI 0) (by decide) dc_14_4_30 ?_
    exact r_zret rfl (by decide) dc_14_4_31 (rfl)
  · skip
    refine r_iload_n rfl dc_14_4_9 ?_
    refine r_iconst (v := nI 0) (by decide) dc_14_4_10 ?_
    refine r_bipush (v := nI 10) (by decide) dc_14_4_11 ?_
    refine q_calls (as := [.int m, .int (nI 0), .int (nI 10)]) (rest := []) (v := .int (sp_in m (nI 0) (nI 10))) iv_13_s180 na_0_187 rfl (show (0 : Nat) ≤ 8 by decide) dc_14_4_13 (c_in _ m (nI 0) (nI 10)) ?_
    refine r_ifeq (t := 30) (by decide) dc_14_4_16 (fun c_16 => ?_) (fun c_16 => ?_)
    · skip
      refine r_iconst (v := nI 0) (by decide) dc_14_4_30 ?_
      exact r_zret rfl (by decide) dc_14_4_31 (rfl)
    · skip
      refine r_iload_n rfl dc_14_4_19 ?_
      refine r_iconst (v := nI 0) (by decide) dc_14_4_20 ?_
      refine r_sipush (v := nI 999) (by decide) dc_14_4_21 ?_
      refine q_calls (as := [.int n, .int (nI 0), .int (nI 999)]) (rest := []) (v := .int (sp_in n (nI 0) (nI 999))) iv_13_s180 na_0_187 rfl (show (0 : Nat) ≤ 8 by decide) dc_14_4_24 (c_in _ n (nI 0) (nI 999)) ?_
      refine r_ifne (t := 32) (by decide) dc_14_4_27 (fun c_27 => ?_) (fun c_27 => ?_)
      · skip
        exact absurd (⟨sp_in_ne c_6, sp_in_ne c_16, sp_in_ne c_27⟩) hno
      · skip
        refine r_iconst (v := nI 0) (by decide) dc_14_4_30 ?_
        exact r_zret rfl (by decide) dc_14_4_31 (rfl)
def gd_beds (io : Nat → Int32) (h n : Int32) : Prop := (0 ≤ h ∧ h < io 3) ∧ (nI 0 ≤ n ∧ n ≤ nI 9)
set_option maxHeartbeats 4000000 in
theorem c_beds_ok (M : mH) (hM : 157 ≤ M.1) (io : Nat → Int32) (sg : Nat → Nat → Int32) (nh : Nat) (h3 : io 3 = nI nh) (hnh : nh ≤ 8) (h n : Nat) (hh : h < nh) (hn : n ≤ 9) : mm_Ev 2 195 [.ref 100, .int (nI h), .int (nI n)] (rf_mk M io sg) ((some (.int (nI 1)), rf_mk M io (va_up sg 11 (upd (sg 11) h (nI n))))) := by
  refine r_ev (by decide +kernel) (show (3 : Nat) ≤ mm_nL 195 by decide +kernel) ?_
  show mm_Ru 1 (13, 3, false, prog_14_method_12_code, some .boolean) 0 [(0, .ref 100), (1, .int (nI h)), (2, .int (nI n))] [] (rf_mk M io sg) (fun z => z = ((some (.int (nI 1)), rf_mk M io (va_up sg 11 (upd (sg 11) h (nI n))))))
  refine r_aload_n rfl dc_14_12_0 ?_
  refine r_iload_n rfl dc_14_12_1 ?_
  refine q_calli (as := [.int (nI h)]) (rest := []) (v := .int (nI 1)) (M1 := rf_mk M io sg) iv_13_v205 na_1_196 o_196 hM rfl (show (0 : Nat) ≤ 8 by decide) dc_14_12_2 (c_isSchoolT M hM io sg nh h3 h (by omega) (by omega)) ?_
  refine r_ifeq (t := 18) (by decide) dc_14_12_5 (fun c_5 => ?_) (fun c_5 => ?_)
  · exact absurd c_5 (by decide)
  · skip
    refine r_iload_n rfl dc_14_12_8 ?_
    refine r_iconst (v := nI 0) (by decide) dc_14_12_9 ?_
    refine r_bipush (v := nI 9) (by decide) dc_14_12_10 ?_
    refine q_calls (as := [.int (nI n), .int (nI 0), .int (nI 9)]) (rest := []) (v := .int (nI 1)) iv_13_s180 na_0_187 rfl (show (0 : Nat) ≤ 8 by decide) dc_14_12_12 (c_inT _ n 0 9 (by omega) (by omega) (by omega)) ?_
    refine r_ifne (t := 20) (by decide) dc_14_12_15 (fun c_15 => ?_) (fun c_15 => ?_)
    · skip
      refine r_aload_n rfl dc_14_12_20 ?_
      refine q_get (v := .ref 106) rx_25 hM rfl dc_14_12_21 ?_
      refine r_iload_n rfl dc_14_12_24 ?_
      refine r_iload_n rfl dc_14_12_25 ?_
      refine q_ist (e := h) (k := 11) (by decide) (by decide) hM rfl rfl (show h < 8 by omega) (by omega) dc_14_12_26 ?_
      refine r_iconst (v := nI 1) (by decide) dc_14_12_27 ?_
      exact r_zret rfl (by decide) dc_14_12_28 (rfl)
    · exact absurd c_15 (by decide)
set_option maxHeartbeats 4000000 in
theorem c_beds_no (M : mH) (hM : 157 ≤ M.1) (io : Nat → Int32) (sg : Nat → Nat → Int32) (h n : Int32) (hno : ¬ gd_beds io h n) : mm_Ev 2 195 [.ref 100, .int h, .int n] (rf_mk M io sg) ((some (.int (nI 0)), rf_mk M io sg)) := by
  refine r_ev (by decide +kernel) (show (3 : Nat) ≤ mm_nL 195 by decide +kernel) ?_
  show mm_Ru 1 (13, 3, false, prog_14_method_12_code, some .boolean) 0 [(0, .ref 100), (1, .int h), (2, .int n)] [] (rf_mk M io sg) (fun z => z = ((some (.int (nI 0)), rf_mk M io sg)))
  refine r_aload_n rfl dc_14_12_0 ?_
  refine r_iload_n rfl dc_14_12_1 ?_
  refine q_calli (as := [.int h]) (rest := []) (v := .int (sp_is h (io 3))) (M1 := rf_mk M io sg) iv_13_v205 na_1_196 o_196 hM rfl (show (0 : Nat) ≤ 8 by decide) dc_14_12_2 (c_isSchool M hM io sg h) ?_
  refine r_ifeq (t := 18) (by decide) dc_14_12_5 (fun c_5 => ?_) (fun c_5 => ?_)
  · skip
    refine r_iconst (v := nI 0) (by decide) dc_14_12_18 ?_
    exact r_zret rfl (by decide) dc_14_12_19 (rfl)
  · skip
    refine r_iload_n rfl dc_14_12_8 ?_
    refine r_iconst (v := nI 0) (by decide) dc_14_12_9 ?_
    refine r_bipush (v := nI 9) (by decide) dc_14_12_10 ?_
    refine q_calls (as := [.int n, .int (nI 0), .int (nI 9)]) (rest := []) (v := .int (sp_in n (nI 0) (nI 9))) iv_13_s180 na_0_187 rfl (show (0 : Nat) ≤ 8 by decide) dc_14_12_12 (c_in _ n (nI 0) (nI 9)) ?_
    refine r_ifne (t := 20) (by decide) dc_14_12_15 (fun c_15 => ?_) (fun c_15 => ?_)
    · skip
      exact absurd (⟨sp_is_ne c_5, sp_in_ne c_15⟩) hno
    · skip
      refine r_iconst (v := nI 0) (by decide) dc_14_12_18 ?_
      exact r_zret rfl (by decide) dc_14_12_19 (rfl)
def gd_school (io : Nat → Int32) (a b c d e f g : Int32) : Prop := (nI 0 ≤ a ∧ a ≤ nI 3) ∧ (nI 0 ≤ b ∧ b ≤ nI 3) ∧ (nI 0 ≤ c ∧ c ≤ nI 9) ∧ (nI 0 ≤ d ∧ d ≤ nI 3) ∧ (nI 0 ≤ e ∧ e ≤ nI 359) ∧ (nI 0 ≤ f ∧ f ≤ nI 359) ∧ e < f ∧ (nI 0 ≤ g ∧ g ≤ nI 99999) ∧ ¬ io 3 = nI 8
def sg_school (sg : Nat → Nat → Int32) (nh : Nat) (a b c d e f g : Int32) : Nat → Nat → Int32 := va_up (va_up (va_up (va_up (va_up (va_up (va_up sg 9 (upd (sg 9) nh a)) 10 (upd (sg 10) nh b)) 11 (upd (sg 11) nh c)) 12 (upd (sg 12) nh d)) 13 (upd (sg 13) nh e)) 14 (upd (sg 14) nh f)) 15 (upd (sg 15) nh g)
set_option maxHeartbeats 4000000 in
theorem c_school_ok (M : mH) (hM : 157 ≤ M.1) (io : Nat → Int32) (sg : Nat → Nat → Int32) (nh : Nat) (h3 : io 3 = nI nh) (hnh : nh ≤ 8) (hn8 : nh < 8) (a b c d e f g : Nat) (ha : a < 4) (hb : b < 4) (hc : c ≤ 9) (hd : d < 4) (hef : e < f) (hf : f < 360) (hg : g ≤ 99999) : mm_Ev 2 194 [.ref 100, .int (nI a), .int (nI b), .int (nI c), .int (nI d), .int (nI e), .int (nI f), .int (nI g)] (rf_mk M io sg) ((some (.int (nI nh)), rf_mk M (va_up io 3 (nI (nh + 1))) (sg_school sg nh (nI a) (nI b) (nI c) (nI d) (nI e) (nI f) (nI g)))) := by
  refine r_ev (by decide +kernel) (show (8 : Nat) ≤ mm_nL 194 by decide +kernel) ?_
  show mm_Ru 1 (13, 8, false, prog_14_method_11_code, some .int) 0 [(0, .ref 100), (1, .int (nI a)), (2, .int (nI b)), (3, .int (nI c)), (4, .int (nI d)), (5, .int (nI e)), (6, .int (nI f)), (7, .int (nI g))] [] (rf_mk M io sg) (fun z => z = ((some (.int (nI nh)), rf_mk M (va_up io 3 (nI (nh + 1))) (sg_school sg nh (nI a) (nI b) (nI c) (nI d) (nI e) (nI f) (nI g)))))
  refine r_iload_n rfl dc_14_11_0 ?_
  refine r_iconst (v := nI 0) (by decide) dc_14_11_1 ?_
  refine r_iconst (v := nI 3) (by decide) dc_14_11_2 ?_
  refine q_calls (as := [.int (nI a), .int (nI 0), .int (nI 3)]) (rest := []) (v := .int (nI 1)) iv_13_s180 na_0_187 rfl (show (0 : Nat) ≤ 8 by decide) dc_14_11_3 (c_inT _ a 0 3 (by omega) (by omega) (by omega)) ?_
  refine r_ifeq (t := 89) (by decide) dc_14_11_6 (fun c_6 => ?_) (fun c_6 => ?_)
  · exact absurd c_6 (by decide)
  · skip
    refine r_iload_n rfl dc_14_11_9 ?_
    refine r_iconst (v := nI 0) (by decide) dc_14_11_10 ?_
    refine r_iconst (v := nI 3) (by decide) dc_14_11_11 ?_
    refine q_calls (as := [.int (nI b), .int (nI 0), .int (nI 3)]) (rest := []) (v := .int (nI 1)) iv_13_s180 na_0_187 rfl (show (0 : Nat) ≤ 8 by decide) dc_14_11_12 (c_inT _ b 0 3 (by omega) (by omega) (by omega)) ?_
    refine r_ifeq (t := 89) (by decide) dc_14_11_15 (fun c_15 => ?_) (fun c_15 => ?_)
    · exact absurd c_15 (by decide)
    · skip
      refine r_iload_n rfl dc_14_11_18 ?_
      refine r_iconst (v := nI 0) (by decide) dc_14_11_19 ?_
      refine r_bipush (v := nI 9) (by decide) dc_14_11_20 ?_
      refine q_calls (as := [.int (nI c), .int (nI 0), .int (nI 9)]) (rest := []) (v := .int (nI 1)) iv_13_s180 na_0_187 rfl (show (0 : Nat) ≤ 8 by decide) dc_14_11_22 (c_inT _ c 0 9 (by omega) (by omega) (by omega)) ?_
      refine r_ifeq (t := 89) (by decide) dc_14_11_25 (fun c_25 => ?_) (fun c_25 => ?_)
      · exact absurd c_25 (by decide)
      · skip
        refine r_iload rfl dc_14_11_28 ?_
        refine r_iconst (v := nI 0) (by decide) dc_14_11_30 ?_
        refine r_iconst (v := nI 3) (by decide) dc_14_11_31 ?_
        refine q_calls (as := [.int (nI d), .int (nI 0), .int (nI 3)]) (rest := []) (v := .int (nI 1)) iv_13_s180 na_0_187 rfl (show (0 : Nat) ≤ 8 by decide) dc_14_11_32 (c_inT _ d 0 3 (by omega) (by omega) (by omega)) ?_
        refine r_ifeq (t := 89) (by decide) dc_14_11_35 (fun c_35 => ?_) (fun c_35 => ?_)
        · exact absurd c_35 (by decide)
        · skip
          refine r_iload rfl dc_14_11_38 ?_
          refine r_iconst (v := nI 0) (by decide) dc_14_11_40 ?_
          refine r_sipush (v := nI 359) (by decide) dc_14_11_41 ?_
          refine q_calls (as := [.int (nI e), .int (nI 0), .int (nI 359)]) (rest := []) (v := .int (nI 1)) iv_13_s180 na_0_187 rfl (show (0 : Nat) ≤ 8 by decide) dc_14_11_44 (c_inT _ e 0 359 (by omega) (by omega) (by omega)) ?_
          refine r_ifeq (t := 89) (by decide) dc_14_11_47 (fun c_47 => ?_) (fun c_47 => ?_)
          · exact absurd c_47 (by decide)
          · skip
            refine r_iload rfl dc_14_11_50 ?_
            refine r_iconst (v := nI 0) (by decide) dc_14_11_52 ?_
            refine r_sipush (v := nI 359) (by decide) dc_14_11_53 ?_
            refine q_calls (as := [.int (nI f), .int (nI 0), .int (nI 359)]) (rest := []) (v := .int (nI 1)) iv_13_s180 na_0_187 rfl (show (0 : Nat) ≤ 8 by decide) dc_14_11_56 (c_inT _ f 0 359 (by omega) (by omega) (by omega)) ?_
            refine r_ifeq (t := 89) (by decide) dc_14_11_59 (fun c_59 => ?_) (fun c_59 => ?_)
            · exact absurd c_59 (by decide)
            · skip
              refine r_iload rfl dc_14_11_62 ?_
              refine r_iload rfl dc_14_11_64 ?_
              refine r_ncle (t := 89) (by omega) (by omega) (by decide) dc_14_11_66 (fun c_66 => ?_) (fun c_66 => ?_)
              · omega
              · skip
                refine r_iload rfl dc_14_11_69 ?_
                refine r_iconst (v := nI 0) (by decide) dc_14_11_71 ?_
                refine r_ldc (v := nI 99999) nr_13_204 dc_14_11_72 ?_
                refine q_calls (as := [.int (nI g), .int (nI 0), .int (nI 99999)]) (rest := []) (v := .int (nI 1)) iv_13_s180 na_0_187 rfl (show (0 : Nat) ≤ 8 by decide) dc_14_11_74 (c_inT _ g 0 99999 (by omega) (by omega) (by omega)) ?_
                refine r_ifeq (t := 89) (by decide) dc_14_11_77 (fun c_77 => ?_) (fun c_77 => ?_)
                · exact absurd c_77 (by decide)
                · skip
                  refine r_aload_n rfl dc_14_11_80 ?_
                  refine q_get (v := .int (nI nh)) rx_200 hM (congrArg (fun z => some (Value.int z)) (h3)) dc_14_11_81 ?_
                  refine r_bipush (v := nI 8) (by decide) dc_14_11_84 ?_
                  refine r_ncne (t := 91) (by omega) (by omega) (by decide) dc_14_11_86 (fun c_86 => ?_) (fun c_86 => ?_)
                  · skip
                    refine r_aload_n rfl dc_14_11_91 ?_
                    refine q_get (v := .ref 104) rx_19 hM rfl dc_14_11_92 ?_
                    refine r_aload_n rfl dc_14_11_95 ?_
                    refine q_get (v := .int (nI nh)) rx_200 hM (congrArg (fun z => some (Value.int z)) (h3)) dc_14_11_96 ?_
                    refine r_iload_n rfl dc_14_11_99 ?_
                    refine q_ist (e := nh) (k := 9) (by decide) (by decide) hM rfl rfl (show nh < 8 by omega) (by omega) dc_14_11_100 ?_
                    refine r_aload_n rfl dc_14_11_101 ?_
                    refine q_get (v := .ref 105) rx_22 hM rfl dc_14_11_102 ?_
                    refine r_aload_n rfl dc_14_11_105 ?_
                    refine q_get (v := .int (nI nh)) rx_200 hM (congrArg (fun z => some (Value.int z)) (h3)) dc_14_11_106 ?_
                    refine r_iload_n rfl dc_14_11_109 ?_
                    refine q_ist (e := nh) (k := 10) (by decide) (by decide) hM rfl rfl (show nh < 8 by omega) (by omega) dc_14_11_110 ?_
                    refine r_aload_n rfl dc_14_11_111 ?_
                    refine q_get (v := .ref 106) rx_25 hM rfl dc_14_11_112 ?_
                    refine r_aload_n rfl dc_14_11_115 ?_
                    refine q_get (v := .int (nI nh)) rx_200 hM (congrArg (fun z => some (Value.int z)) (h3)) dc_14_11_116 ?_
                    refine r_iload_n rfl dc_14_11_119 ?_
                    refine q_ist (e := nh) (k := 11) (by decide) (by decide) hM rfl rfl (show nh < 8 by omega) (by omega) dc_14_11_120 ?_
                    refine r_aload_n rfl dc_14_11_121 ?_
                    refine q_get (v := .ref 107) rx_28 hM rfl dc_14_11_122 ?_
                    refine r_aload_n rfl dc_14_11_125 ?_
                    refine q_get (v := .int (nI nh)) rx_200 hM (congrArg (fun z => some (Value.int z)) (h3)) dc_14_11_126 ?_
                    refine r_iload rfl dc_14_11_129 ?_
                    refine q_ist (e := nh) (k := 12) (by decide) (by decide) hM rfl rfl (show nh < 8 by omega) (by omega) dc_14_11_131 ?_
                    refine r_aload_n rfl dc_14_11_132 ?_
                    refine q_get (v := .ref 108) rx_31 hM rfl dc_14_11_133 ?_
                    refine r_aload_n rfl dc_14_11_136 ?_
                    refine q_get (v := .int (nI nh)) rx_200 hM (congrArg (fun z => some (Value.int z)) (h3)) dc_14_11_137 ?_
                    refine r_iload rfl dc_14_11_140 ?_
                    refine q_ist (e := nh) (k := 13) (by decide) (by decide) hM rfl rfl (show nh < 8 by omega) (by omega) dc_14_11_142 ?_
                    refine r_aload_n rfl dc_14_11_143 ?_
                    refine q_get (v := .ref 109) rx_34 hM rfl dc_14_11_144 ?_
                    refine r_aload_n rfl dc_14_11_147 ?_
                    refine q_get (v := .int (nI nh)) rx_200 hM (congrArg (fun z => some (Value.int z)) (h3)) dc_14_11_148 ?_
                    refine r_iload rfl dc_14_11_151 ?_
                    refine q_ist (e := nh) (k := 14) (by decide) (by decide) hM rfl rfl (show nh < 8 by omega) (by omega) dc_14_11_153 ?_
                    refine r_aload_n rfl dc_14_11_154 ?_
                    refine q_get (v := .ref 110) rx_37 hM rfl dc_14_11_155 ?_
                    refine r_aload_n rfl dc_14_11_158 ?_
                    refine q_get (v := .int (nI nh)) rx_200 hM (congrArg (fun z => some (Value.int z)) (h3)) dc_14_11_159 ?_
                    refine r_iload rfl dc_14_11_162 ?_
                    refine q_ist (e := nh) (k := 15) (by decide) (by decide) hM rfl rfl (show nh < 8 by omega) (by omega) dc_14_11_164 ?_
                    refine r_aload_n rfl dc_14_11_165 ?_
                    refine r_aload_n rfl dc_14_11_166 ?_
                    refine q_get (v := .int (nI nh)) rx_200 hM (congrArg (fun z => some (Value.int z)) (h3)) dc_14_11_167 ?_
                    refine r_iconst (v := nI 1) (by decide) dc_14_11_170 ?_
                    refine r_iadd (v := nI (nh + 1)) (nI_add _ _) dc_14_11_171 ?_
                    refine q_put rx_200 (by decide +kernel) (by decide +kernel) (by decide) (rs_3 _) hM dc_14_11_172 ?_
                    refine r_aload_n rfl dc_14_11_175 ?_
                    refine q_get (v := .int (nI (nh + 1))) rx_200 hM rfl dc_14_11_176 ?_
                    refine r_iconst (v := nI 1) (by decide) dc_14_11_179 ?_
                    refine r_isub (v := nI nh) ((pk_sub (by omega)).trans (congrArg nI (by omega))) dc_14_11_180 ?_
                    exact r_iret rfl dc_14_11_181 (rfl)
                  · omega
set_option maxHeartbeats 4000000 in
theorem c_school_no (M : mH) (hM : 157 ≤ M.1) (io : Nat → Int32) (sg : Nat → Nat → Int32) (a b c d e f g : Int32) (hno : ¬ gd_school io a b c d e f g) : mm_Ev 2 194 [.ref 100, .int a, .int b, .int c, .int d, .int e, .int f, .int g] (rf_mk M io sg) ((some (.int (-1)), rf_mk M io sg)) := by
  refine r_ev (by decide +kernel) (show (8 : Nat) ≤ mm_nL 194 by decide +kernel) ?_
  show mm_Ru 1 (13, 8, false, prog_14_method_11_code, some .int) 0 [(0, .ref 100), (1, .int a), (2, .int b), (3, .int c), (4, .int d), (5, .int e), (6, .int f), (7, .int g)] [] (rf_mk M io sg) (fun z => z = ((some (.int (-1)), rf_mk M io sg)))
  refine r_iload_n rfl dc_14_11_0 ?_
  refine r_iconst (v := nI 0) (by decide) dc_14_11_1 ?_
  refine r_iconst (v := nI 3) (by decide) dc_14_11_2 ?_
  refine q_calls (as := [.int a, .int (nI 0), .int (nI 3)]) (rest := []) (v := .int (sp_in a (nI 0) (nI 3))) iv_13_s180 na_0_187 rfl (show (0 : Nat) ≤ 8 by decide) dc_14_11_3 (c_in _ a (nI 0) (nI 3)) ?_
  refine r_ifeq (t := 89) (by decide) dc_14_11_6 (fun c_6 => ?_) (fun c_6 => ?_)
  · skip
    refine r_iconst (v := -1) (by decide) dc_14_11_89 ?_
    exact r_iret rfl dc_14_11_90 (rfl)
  · skip
    refine r_iload_n rfl dc_14_11_9 ?_
    refine r_iconst (v := nI 0) (by decide) dc_14_11_10 ?_
    refine r_iconst (v := nI 3) (by decide) dc_14_11_11 ?_
    refine q_calls (as := [.int b, .int (nI 0), .int (nI 3)]) (rest := []) (v := .int (sp_in b (nI 0) (nI 3))) iv_13_s180 na_0_187 rfl (show (0 : Nat) ≤ 8 by decide) dc_14_11_12 (c_in _ b (nI 0) (nI 3)) ?_
    refine r_ifeq (t := 89) (by decide) dc_14_11_15 (fun c_15 => ?_) (fun c_15 => ?_)
    · skip
      refine r_iconst (v := -1) (by decide) dc_14_11_89 ?_
      exact r_iret rfl dc_14_11_90 (rfl)
    · skip
      refine r_iload_n rfl dc_14_11_18 ?_
      refine r_iconst (v := nI 0) (by decide) dc_14_11_19 ?_
      refine r_bipush (v := nI 9) (by decide) dc_14_11_20 ?_
      refine q_calls (as := [.int c, .int (nI 0), .int (nI 9)]) (rest := []) (v := .int (sp_in c (nI 0) (nI 9))) iv_13_s180 na_0_187 rfl (show (0 : Nat) ≤ 8 by decide) dc_14_11_22 (c_in _ c (nI 0) (nI 9)) ?_
      refine r_ifeq (t := 89) (by decide) dc_14_11_25 (fun c_25 => ?_) (fun c_25 => ?_)
      · skip
        refine r_iconst (v := -1) (by decide) dc_14_11_89 ?_
        exact r_iret rfl dc_14_11_90 (rfl)
      · skip
        refine r_iload rfl dc_14_11_28 ?_
        refine r_iconst (v := nI 0) (by decide) dc_14_11_30 ?_
        refine r_iconst (v := nI 3) (by decide) dc_14_11_31 ?_
        refine q_calls (as := [.int d, .int (nI 0), .int (nI 3)]) (rest := []) (v := .int (sp_in d (nI 0) (nI 3))) iv_13_s180 na_0_187 rfl (show (0 : Nat) ≤ 8 by decide) dc_14_11_32 (c_in _ d (nI 0) (nI 3)) ?_
        refine r_ifeq (t := 89) (by decide) dc_14_11_35 (fun c_35 => ?_) (fun c_35 => ?_)
        · skip
          refine r_iconst (v := -1) (by decide) dc_14_11_89 ?_
          exact r_iret rfl dc_14_11_90 (rfl)
        · skip
          refine r_iload rfl dc_14_11_38 ?_
          refine r_iconst (v := nI 0) (by decide) dc_14_11_40 ?_
          refine r_sipush (v := nI 359) (by decide) dc_14_11_41 ?_
          refine q_calls (as := [.int e, .int (nI 0), .int (nI 359)]) (rest := []) (v := .int (sp_in e (nI 0) (nI 359))) iv_13_s180 na_0_187 rfl (show (0 : Nat) ≤ 8 by decide) dc_14_11_44 (c_in _ e (nI 0) (nI 359)) ?_
          refine r_ifeq (t := 89) (by decide) dc_14_11_47 (fun c_47 => ?_) (fun c_47 => ?_)
          · skip
            refine r_iconst (v := -1) (by decide) dc_14_11_89 ?_
            exact r_iret rfl dc_14_11_90 (rfl)
          · skip
            refine r_iload rfl dc_14_11_50 ?_
            refine r_iconst (v := nI 0) (by decide) dc_14_11_52 ?_
            refine r_sipush (v := nI 359) (by decide) dc_14_11_53 ?_
            refine q_calls (as := [.int f, .int (nI 0), .int (nI 359)]) (rest := []) (v := .int (sp_in f (nI 0) (nI 359))) iv_13_s180 na_0_187 rfl (show (0 : Nat) ≤ 8 by decide) dc_14_11_56 (c_in _ f (nI 0) (nI 359)) ?_
            refine r_ifeq (t := 89) (by decide) dc_14_11_59 (fun c_59 => ?_) (fun c_59 => ?_)
            · skip
              refine r_iconst (v := -1) (by decide) dc_14_11_89 ?_
              exact r_iret rfl dc_14_11_90 (rfl)
            · skip
              refine r_iload rfl dc_14_11_62 ?_
              refine r_iload rfl dc_14_11_64 ?_
              refine r_icle (t := 89) (by decide) dc_14_11_66 (fun c_66 => ?_) (fun c_66 => ?_)
              · skip
                refine r_iconst (v := -1) (by decide) dc_14_11_89 ?_
                exact r_iret rfl dc_14_11_90 (rfl)
              · skip
                refine r_iload rfl dc_14_11_69 ?_
                refine r_iconst (v := nI 0) (by decide) dc_14_11_71 ?_
                refine r_ldc (v := nI 99999) nr_13_204 dc_14_11_72 ?_
                refine q_calls (as := [.int g, .int (nI 0), .int (nI 99999)]) (rest := []) (v := .int (sp_in g (nI 0) (nI 99999))) iv_13_s180 na_0_187 rfl (show (0 : Nat) ≤ 8 by decide) dc_14_11_74 (c_in _ g (nI 0) (nI 99999)) ?_
                refine r_ifeq (t := 89) (by decide) dc_14_11_77 (fun c_77 => ?_) (fun c_77 => ?_)
                · skip
                  refine r_iconst (v := -1) (by decide) dc_14_11_89 ?_
                  exact r_iret rfl dc_14_11_90 (rfl)
                · skip
                  refine r_aload_n rfl dc_14_11_80 ?_
                  refine q_get (v := .int (io 3)) rx_200 hM rfl dc_14_11_81 ?_
                  refine r_bipush (v := nI 8) (by decide) dc_14_11_84 ?_
                  refine r_icne (t := 91) (by decide) dc_14_11_86 (fun c_86 => ?_) (fun c_86 => ?_)
                  · skip
                    exact absurd (⟨sp_in_ne c_6, sp_in_ne c_15, sp_in_ne c_25, sp_in_ne c_35, sp_in_ne c_47, sp_in_ne c_59, Int32.not_le.mp c_66, sp_in_ne c_77, c_86⟩) hno
                  · skip
                    refine r_iconst (v := -1) (by decide) dc_14_11_89 ?_
                    exact r_iret rfl dc_14_11_90 (rfl)
