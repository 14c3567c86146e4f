/-! plans: what is left -/
theorem dc_7_12_0 : decode prog_7_method_12_code 0 = .ok (.iconst 0, 1) := by decide +kernel
theorem dc_7_12_1 : decode prog_7_method_12_code 1 = .ok (.aload_n 0, 1) := by decide +kernel
theorem dc_7_12_2 : decode prog_7_method_12_code 2 = .ok (.getfield 20, 3) := by decide +kernel
theorem dc_7_12_5 : decode prog_7_method_12_code 5 = .ok (.bipush 7, 2) := by decide +kernel
theorem dc_7_12_7 : decode prog_7_method_12_code 7 = .ok (.invokestatic 92, 3) := by decide +kernel
theorem dc_7_12_10 : decode prog_7_method_12_code 10 = .ok (.invokestatic 98, 3) := by decide +kernel
theorem dc_7_12_13 : decode prog_7_method_12_code 13 = .ok (.istore_n 1, 1) := by decide +kernel
theorem dc_7_12_14 : decode prog_7_method_12_code 14 = .ok (.aload_n 0, 1) := by decide +kernel
theorem dc_7_12_15 : decode prog_7_method_12_code 15 = .ok (.getfield 48, 3) := by decide +kernel
theorem dc_7_12_18 : decode prog_7_method_12_code 18 = .ok (.iload_n 1, 1) := by decide +kernel
theorem dc_7_12_19 : decode prog_7_method_12_code 19 = .ok (.iconst 0, 1) := by decide +kernel
theorem dc_7_12_20 : decode prog_7_method_12_code 20 = .ok (.iastore, 1) := by decide +kernel
theorem dc_7_12_21 : decode prog_7_method_12_code 21 = .ok (.aload_n 0, 1) := by decide +kernel
theorem dc_7_12_22 : decode prog_7_method_12_code 22 = .ok (.getfield 51, 3) := by decide +kernel
theorem dc_7_12_25 : decode prog_7_method_12_code 25 = .ok (.iload_n 1, 1) := by decide +kernel
theorem dc_7_12_26 : decode prog_7_method_12_code 26 = .ok (.aaload, 1) := by decide +kernel
theorem dc_7_12_27 : decode prog_7_method_12_code 27 = .ok (.iconst 0, 1) := by decide +kernel
theorem dc_7_12_28 : decode prog_7_method_12_code 28 = .ok (.invokestatic 101, 3) := by decide +kernel
theorem dc_7_12_31 : decode prog_7_method_12_code 31 = .ok (.aload_n 0, 1) := by decide +kernel
theorem dc_7_12_32 : decode prog_7_method_12_code 32 = .ok (.getfield 54, 3) := by decide +kernel
theorem dc_7_12_35 : decode prog_7_method_12_code 35 = .ok (.iload_n 1, 1) := by decide +kernel
theorem dc_7_12_36 : decode prog_7_method_12_code 36 = .ok (.aaload, 1) := by decide +kernel
theorem dc_7_12_37 : decode prog_7_method_12_code 37 = .ok (.iconst 0, 1) := by decide +kernel
theorem dc_7_12_38 : decode prog_7_method_12_code 38 = .ok (.invokestatic 101, 3) := by decide +kernel
theorem dc_7_12_41 : decode prog_7_method_12_code 41 = .ok (.iload_n 1, 1) := by decide +kernel
theorem dc_7_12_42 : decode prog_7_method_12_code 42 = .ok (.iconst 1, 1) := by decide +kernel
theorem dc_7_12_43 : decode prog_7_method_12_code 43 = .ok (.isub, 1) := by decide +kernel
theorem dc_7_12_44 : decode prog_7_method_12_code 44 = .ok (.istore_n 2, 1) := by decide +kernel
theorem dc_7_12_45 : decode prog_7_method_12_code 45 = .ok (.iload_n 2, 1) := by decide +kernel
theorem dc_7_12_46 : decode prog_7_method_12_code 46 = .ok (.ifCond .lt 133, 3) := by decide +kernel
theorem dc_7_12_49 : decode prog_7_method_12_code 49 = .ok (.aload_n 0, 1) := by decide +kernel
theorem dc_7_12_50 : decode prog_7_method_12_code 50 = .ok (.getfield 51, 3) := by decide +kernel
theorem dc_7_12_53 : decode prog_7_method_12_code 53 = .ok (.iload_n 2, 1) := by decide +kernel
theorem dc_7_12_54 : decode prog_7_method_12_code 54 = .ok (.iconst 1, 1) := by decide +kernel
theorem dc_7_12_55 : decode prog_7_method_12_code 55 = .ok (.iadd, 1) := by decide +kernel
theorem dc_7_12_56 : decode prog_7_method_12_code 56 = .ok (.aaload, 1) := by decide +kernel
theorem dc_7_12_57 : decode prog_7_method_12_code 57 = .ok (.iconst 0, 1) := by decide +kernel
theorem dc_7_12_58 : decode prog_7_method_12_code 58 = .ok (.aload_n 0, 1) := by decide +kernel
theorem dc_7_12_59 : decode prog_7_method_12_code 59 = .ok (.getfield 51, 3) := by decide +kernel
theorem dc_7_12_62 : decode prog_7_method_12_code 62 = .ok (.iload_n 2, 1) := by decide +kernel
theorem dc_7_12_63 : decode prog_7_method_12_code 63 = .ok (.aaload, 1) := by decide +kernel
theorem dc_7_12_64 : decode prog_7_method_12_code 64 = .ok (.iconst 0, 1) := by decide +kernel
theorem dc_7_12_65 : decode prog_7_method_12_code 65 = .ok (.bipush 12, 2) := by decide +kernel
theorem dc_7_12_67 : decode prog_7_method_12_code 67 = .ok (.invokestatic 107, 3) := by decide +kernel
theorem dc_7_12_70 : decode prog_7_method_12_code 70 = .ok (.aload_n 0, 1) := by decide +kernel
theorem dc_7_12_71 : decode prog_7_method_12_code 71 = .ok (.getfield 54, 3) := by decide +kernel
theorem dc_7_12_74 : decode prog_7_method_12_code 74 = .ok (.iload_n 2, 1) := by decide +kernel
theorem dc_7_12_75 : decode prog_7_method_12_code 75 = .ok (.iconst 1, 1) := by decide +kernel
theorem dc_7_12_76 : decode prog_7_method_12_code 76 = .ok (.iadd, 1) := by decide +kernel
theorem dc_7_12_77 : decode prog_7_method_12_code 77 = .ok (.aaload, 1) := by decide +kernel
theorem dc_7_12_78 : decode prog_7_method_12_code 78 = .ok (.iconst 0, 1) := by decide +kernel
theorem dc_7_12_79 : decode prog_7_method_12_code 79 = .ok (.aload_n 0, 1) := by decide +kernel
theorem dc_7_12_80 : decode prog_7_method_12_code 80 = .ok (.getfield 54, 3) := by decide +kernel
theorem dc_7_12_83 : decode prog_7_method_12_code 83 = .ok (.iload_n 2, 1) := by decide +kernel
theorem dc_7_12_84 : decode prog_7_method_12_code 84 = .ok (.aaload, 1) := by decide +kernel
theorem dc_7_12_85 : decode prog_7_method_12_code 85 = .ok (.iconst 0, 1) := by decide +kernel
theorem dc_7_12_86 : decode prog_7_method_12_code 86 = .ok (.bipush 12, 2) := by decide +kernel
theorem dc_7_12_88 : decode prog_7_method_12_code 88 = .ok (.invokestatic 107, 3) := by decide +kernel
theorem dc_7_12_91 : decode prog_7_method_12_code 91 = .ok (.ldc 63, 2) := by decide +kernel
theorem dc_7_12_93 : decode prog_7_method_12_code 93 = .ok (.istore_n 3, 1) := by decide +kernel
theorem dc_7_12_94 : decode prog_7_method_12_code 94 = .ok (.iconst 0, 1) := by decide +kernel
theorem dc_7_12_95 : decode prog_7_method_12_code 95 = .ok (.istore 4, 2) := by decide +kernel
theorem dc_7_12_97 : decode prog_7_method_12_code 97 = .ok (.iload 4, 2) := by decide +kernel
theorem dc_7_12_99 : decode prog_7_method_12_code 99 = .ok (.aload_n 0, 1) := by decide +kernel
theorem dc_7_12_100 : decode prog_7_method_12_code 100 = .ok (.getfield 28, 3) := by decide +kernel
theorem dc_7_12_103 : decode prog_7_method_12_code 103 = .ok (.iload_n 2, 1) := by decide +kernel
theorem dc_7_12_104 : decode prog_7_method_12_code 104 = .ok (.iaload, 1) := by decide +kernel
theorem dc_7_12_105 : decode prog_7_method_12_code 105 = .ok (.if_icmp .ge 52, 3) := by decide +kernel
theorem dc_7_12_108 : decode prog_7_method_12_code 108 = .ok (.iload 4, 2) := by decide +kernel
theorem dc_7_12_110 : decode prog_7_method_12_code 110 = .ok (.iconst 5, 1) := by decide +kernel
theorem dc_7_12_111 : decode prog_7_method_12_code 111 = .ok (.if_icmp .ge 46, 3) := by decide +kernel
theorem dc_7_12_114 : decode prog_7_method_12_code 114 = .ok (.iload_n 3, 1) := by decide +kernel
theorem dc_7_12_115 : decode prog_7_method_12_code 115 = .ok (.aload_n 0, 1) := by decide +kernel
theorem dc_7_12_116 : decode prog_7_method_12_code 116 = .ok (.getfield 45, 3) := by decide +kernel
theorem dc_7_12_119 : decode prog_7_method_12_code 119 = .ok (.iload_n 2, 1) := by decide +kernel
theorem dc_7_12_120 : decode prog_7_method_12_code 120 = .ok (.aaload, 1) := by decide +kernel
theorem dc_7_12_121 : decode prog_7_method_12_code 121 = .ok (.iload 4, 2) := by decide +kernel
theorem dc_7_12_123 : decode prog_7_method_12_code 123 = .ok (.iaload, 1) := by decide +kernel
theorem dc_7_12_124 : decode prog_7_method_12_code 124 = .ok (.invokestatic 98, 3) := by decide +kernel
theorem dc_7_12_127 : decode prog_7_method_12_code 127 = .ok (.istore_n 3, 1) := by decide +kernel
theorem dc_7_12_128 : decode prog_7_method_12_code 128 = .ok (.aload_n 0, 1) := by decide +kernel
theorem dc_7_12_129 : decode prog_7_method_12_code 129 = .ok (.iload_n 2, 1) := by decide +kernel
theorem dc_7_12_130 : decode prog_7_method_12_code 130 = .ok (.aload_n 0, 1) := by decide +kernel
theorem dc_7_12_131 : decode prog_7_method_12_code 131 = .ok (.getfield 39, 3) := by decide +kernel
theorem dc_7_12_134 : decode prog_7_method_12_code 134 = .ok (.iload_n 2, 1) := by decide +kernel
theorem dc_7_12_135 : decode prog_7_method_12_code 135 = .ok (.aaload, 1) := by decide +kernel
theorem dc_7_12_136 : decode prog_7_method_12_code 136 = .ok (.iload 4, 2) := by decide +kernel
theorem dc_7_12_138 : decode prog_7_method_12_code 138 = .ok (.iaload, 1) := by decide +kernel
theorem dc_7_12_139 : decode prog_7_method_12_code 139 = .ok (.aload_n 0, 1) := by decide +kernel
theorem dc_7_12_140 : decode prog_7_method_12_code 140 = .ok (.getfield 42, 3) := by decide +kernel
theorem dc_7_12_143 : decode prog_7_method_12_code 143 = .ok (.iload_n 2, 1) := by decide +kernel
theorem dc_7_12_144 : decode prog_7_method_12_code 144 = .ok (.aaload, 1) := by decide +kernel
theorem dc_7_12_145 : decode prog_7_method_12_code 145 = .ok (.iload 4, 2) := by decide +kernel
theorem dc_7_12_147 : decode prog_7_method_12_code 147 = .ok (.iaload, 1) := by decide +kernel
theorem dc_7_12_148 : decode prog_7_method_12_code 148 = .ok (.invokevirtual 113, 3) := by decide +kernel
theorem dc_7_12_151 : decode prog_7_method_12_code 151 = .ok (.iinc 4 1, 3) := by decide +kernel
theorem dc_7_12_154 : decode prog_7_method_12_code 154 = .ok (.goto (-57), 3) := by decide +kernel
theorem dc_7_12_157 : decode prog_7_method_12_code 157 = .ok (.aload_n 0, 1) := by decide +kernel
theorem dc_7_12_158 : decode prog_7_method_12_code 158 = .ok (.getfield 48, 3) := by decide +kernel
theorem dc_7_12_161 : decode prog_7_method_12_code 161 = .ok (.iload_n 2, 1) := by decide +kernel
theorem dc_7_12_162 : decode prog_7_method_12_code 162 = .ok (.aload_n 0, 1) := by decide +kernel
theorem dc_7_12_163 : decode prog_7_method_12_code 163 = .ok (.getfield 48, 3) := by decide +kernel
theorem dc_7_12_166 : decode prog_7_method_12_code 166 = .ok (.iload_n 2, 1) := by decide +kernel
theorem dc_7_12_167 : decode prog_7_method_12_code 167 = .ok (.iconst 1, 1) := by decide +kernel
theorem dc_7_12_168 : decode prog_7_method_12_code 168 = .ok (.iadd, 1) := by decide +kernel
theorem dc_7_12_169 : decode prog_7_method_12_code 169 = .ok (.iaload, 1) := by decide +kernel
theorem dc_7_12_170 : decode prog_7_method_12_code 170 = .ok (.iload_n 3, 1) := by decide +kernel
theorem dc_7_12_171 : decode prog_7_method_12_code 171 = .ok (.iadd, 1) := by decide +kernel
theorem dc_7_12_172 : decode prog_7_method_12_code 172 = .ok (.iastore, 1) := by decide +kernel
theorem dc_7_12_173 : decode prog_7_method_12_code 173 = .ok (.iinc 2 (-1), 3) := by decide +kernel
theorem dc_7_12_176 : decode prog_7_method_12_code 176 = .ok (.goto (-131), 3) := by decide +kernel
theorem dc_7_12_179 : decode prog_7_method_12_code 179 = .ok (.return_, 1) := by decide +kernel
theorem dc_7_13_0 : decode prog_7_method_13_code 0 = .ok (.iload_n 1, 1) := by decide +kernel
theorem dc_7_13_1 : decode prog_7_method_13_code 1 = .ok (.ifCond .lt 19, 3) := by decide +kernel
theorem dc_7_13_4 : decode prog_7_method_13_code 4 = .ok (.iload_n 1, 1) := by decide +kernel
theorem dc_7_13_5 : decode prog_7_method_13_code 5 = .ok (.bipush 7, 2) := by decide +kernel
theorem dc_7_13_7 : decode prog_7_method_13_code 7 = .ok (.if_icmp .gt 13, 3) := by decide +kernel
theorem dc_7_13_10 : decode prog_7_method_13_code 10 = .ok (.iload_n 2, 1) := by decide +kernel
theorem dc_7_13_11 : decode prog_7_method_13_code 11 = .ok (.ifCond .lt 9, 3) := by decide +kernel
theorem dc_7_13_14 : decode prog_7_method_13_code 14 = .ok (.iload_n 2, 1) := by decide +kernel
theorem dc_7_13_15 : decode prog_7_method_13_code 15 = .ok (.bipush 12, 2) := by decide +kernel
theorem dc_7_13_17 : decode prog_7_method_13_code 17 = .ok (.if_icmp .lt 4, 3) := by decide +kernel
theorem dc_7_13_20 : decode prog_7_method_13_code 20 = .ok (.return_, 1) := by decide +kernel
theorem dc_7_13_21 : decode prog_7_method_13_code 21 = .ok (.iload_n 3, 1) := by decide +kernel
theorem dc_7_13_22 : decode prog_7_method_13_code 22 = .ok (.ifCond .le 18, 3) := by decide +kernel
theorem dc_7_13_25 : decode prog_7_method_13_code 25 = .ok (.aload_n 0, 1) := by decide +kernel
theorem dc_7_13_26 : decode prog_7_method_13_code 26 = .ok (.getfield 51, 3) := by decide +kernel
theorem dc_7_13_29 : decode prog_7_method_13_code 29 = .ok (.iload_n 1, 1) := by decide +kernel
theorem dc_7_13_30 : decode prog_7_method_13_code 30 = .ok (.aaload, 1) := by decide +kernel
theorem dc_7_13_31 : decode prog_7_method_13_code 31 = .ok (.iload_n 2, 1) := by decide +kernel
theorem dc_7_13_32 : decode prog_7_method_13_code 32 = .ok (.dup2, 1) := by decide +kernel
theorem dc_7_13_33 : decode prog_7_method_13_code 33 = .ok (.iaload, 1) := by decide +kernel
theorem dc_7_13_34 : decode prog_7_method_13_code 34 = .ok (.iconst 1, 1) := by decide +kernel
theorem dc_7_13_35 : decode prog_7_method_13_code 35 = .ok (.iadd, 1) := by decide +kernel
theorem dc_7_13_36 : decode prog_7_method_13_code 36 = .ok (.iastore, 1) := by decide +kernel
theorem dc_7_13_37 : decode prog_7_method_13_code 37 = .ok (.goto 15, 3) := by decide +kernel
theorem dc_7_13_40 : decode prog_7_method_13_code 40 = .ok (.aload_n 0, 1) := by decide +kernel
theorem dc_7_13_41 : decode prog_7_method_13_code 41 = .ok (.getfield 54, 3) := by decide +kernel
theorem dc_7_13_44 : decode prog_7_method_13_code 44 = .ok (.iload_n 1, 1) := by decide +kernel
theorem dc_7_13_45 : decode prog_7_method_13_code 45 = .ok (.aaload, 1) := by decide +kernel
theorem dc_7_13_46 : decode prog_7_method_13_code 46 = .ok (.iload_n 2, 1) := by decide +kernel
theorem dc_7_13_47 : decode prog_7_method_13_code 47 = .ok (.dup2, 1) := by decide +kernel
theorem dc_7_13_48 : decode prog_7_method_13_code 48 = .ok (.iaload, 1) := by decide +kernel
theorem dc_7_13_49 : decode prog_7_method_13_code 49 = .ok (.iconst 1, 1) := by decide +kernel
theorem dc_7_13_50 : decode prog_7_method_13_code 50 = .ok (.iadd, 1) := by decide +kernel
theorem dc_7_13_51 : decode prog_7_method_13_code 51 = .ok (.iastore, 1) := by decide +kernel
theorem dc_7_13_52 : decode prog_7_method_13_code 52 = .ok (.return_, 1) := by decide +kernel
theorem iv_7_s101 : mm_iv 7 (.invokestatic 101) = some (0, 2) := by decide +kernel
theorem iv_7_s92 : mm_iv 7 (.invokestatic 92) = some (0, 37) := by decide +kernel
theorem iv_7_s98 : mm_iv 7 (.invokestatic 98) = some (0, 33) := by decide +kernel
theorem iv_7_v113 : mm_iv 7 (.invokevirtual 113) = some (1, 128) := by decide +kernel
theorem nr_7_63 : mm_nr 7 63 = some (-1000000) := by decide +kernel
theorem o_128 : mm_o 128 = 7 := by decide +kernel
theorem na_1_128 : mm_nas 1 128 = 4 := by decide +kernel
theorem ac_7_107 : mm_ac 7 107 = true := by decide +kernel
theorem ivn_7_107 : mm_iv 7 (.invokestatic 107) = none := by decide +kernel
set_option maxHeartbeats 4000000 in
theorem k_addLp (M : mH) (hM : 157 ≤ M.1) (T : Nat → mT) (e : Nat → Nat) (hF : ShF T e) (cs : Nat → Nat → Int32) (i : Nat) (hi : i < 8) (x : Nat) (hx : x < 12) : mm_Ev 1 128 [.ref 28, .int (nI i), .int (nI x), .int (nI 1)] (hk M T cs) ((none, hk M T (w1 cs (81 + i) x (cs (81 + i) x + nI 1)))) := by
  refine r_ev (by decide +kernel) (show (4 : Nat) ≤ mm_nL 128 by decide +kernel) ?_
  show mm_Ru 0 (7, 4, false, prog_7_method_13_code, none) 0 [(0, .ref 28), (1, .int (nI i)), (2, .int (nI x)), (3, .int (nI 1))] [] (hk M T cs) (fun r9 => r9 = ((none, hk M T (w1 cs (81 + i) x (cs (81 + i) x + nI 1)))))
  refine r_iload_n rfl dc_7_13_0 ?_
  refine r_nzlt (t := 20) (by omega) (by decide) dc_7_13_1 ?_
  refine r_iload_n rfl dc_7_13_4 ?_
  refine r_bipush (v := nI 7) (by decide) dc_7_13_5 ?_
  refine r_ncgt (t := 20) (by omega) (by omega) (by decide) dc_7_13_7 (fun c_7 => ?_) (fun c_7 => ?_)
  · omega
  · skip
    refine r_iload_n rfl dc_7_13_10 ?_
    refine r_nzlt (t := 20) (by omega) (by decide) dc_7_13_11 ?_
    refine r_iload_n rfl dc_7_13_14 ?_
    refine r_bipush (v := nI 12) (by decide) dc_7_13_15 ?_
    refine r_nclt (t := 21) (by omega) (by omega) (by decide) dc_7_13_17 (fun c_17 => ?_) (fun c_17 => ?_)
    · skip
      refine r_iload_n rfl dc_7_13_21 ?_
      refine r_ifle (t := 40) (by decide) dc_7_13_22 (fun c_22 => ?_) (fun c_22 => ?_)
      · exact absurd c_22 (by decide)
      · skip
        refine r_aload_n rfl dc_7_13_25 ?_
        refine h_get (t := cT e 28) (v := .ref 80) fx_7_51 (hF 28 (by decide)) ⟨by omega, by omega⟩ (rfl) dc_7_13_26 ?_
        refine r_iload_n rfl dc_7_13_29 ?_
        refine h_aal (c := 24) (n := 8) (e := i) (y := 81 + i) (hF 80 (by decide)) (Or.inr rfl) ⟨by omega, by omega⟩ (by omega) (by omega) (if_pos (by omega)) dc_7_13_30 ?_
        refine r_iload_n rfl dc_7_13_31 ?_
        refine r_dup2 ⟨rfl, rfl⟩ dc_7_13_32 ?_
        refine h_ild (n := 12) (e := x) (v := cs (81 + i) x) ((hF (81 + i) (by omega)).trans (cR_80 e i (by omega))) ⟨by omega, by omega⟩ (show x < 12 by omega) (by omega) (rfl) dc_7_13_33 ?_
        refine r_iconst (v := nI 1) (by decide) dc_7_13_34 ?_
        refine r_iadd (v := (cs (81 + i) x) + (nI 1)) (rfl) dc_7_13_35 ?_
        refine h_ist (n := 12) (e := x) ((hF (81 + i) (by omega)).trans (cR_80 e i (by omega))) ⟨by omega, by omega⟩ (show x < 12 by omega) (by omega) dc_7_13_36 ?_
        refine r_goto (t := 52) (by decide) dc_7_13_37 ?_
        exact r_vret rfl dc_7_13_52 (rfl)
    · omega
set_option maxHeartbeats 4000000 in
theorem k_addLm (M : mH) (hM : 157 ≤ M.1) (T : Nat → mT) (e : Nat → Nat) (hF : ShF T e) (cs : Nat → Nat → Int32) (i : Nat) (hi : i < 8) (x : Nat) (hx : x < 12) : mm_Ev 1 128 [.ref 28, .int (nI i), .int (nI x), .int ((-1))] (hk M T cs) ((none, hk M T (w1 cs (90 + i) x (cs (90 + i) x + nI 1)))) := by
  refine r_ev (by decide +kernel) (show (4 : Nat) ≤ mm_nL 128 by decide +kernel) ?_
  show mm_Ru 0 (7, 4, false, prog_7_method_13_code, none) 0 [(0, .ref 28), (1, .int (nI i)), (2, .int (nI x)), (3, .int ((-1)))] [] (hk M T cs) (fun r9 => r9 = ((none, hk M T (w1 cs (90 + i) x (cs (90 + i) x + nI 1)))))
  refine r_iload_n rfl dc_7_13_0 ?_
  refine r_nzlt (t := 20) (by omega) (by decide) dc_7_13_1 ?_
  refine r_iload_n rfl dc_7_13_4 ?_
  refine r_bipush (v := nI 7) (by decide) dc_7_13_5 ?_
  refine r_ncgt (t := 20) (by omega) (by omega) (by decide) dc_7_13_7 (fun c_7 => ?_) (fun c_7 => ?_)
  · omega
  · skip
    refine r_iload_n rfl dc_7_13_10 ?_
    refine r_nzlt (t := 20) (by omega) (by decide) dc_7_13_11 ?_
    refine r_iload_n rfl dc_7_13_14 ?_
    refine r_bipush (v := nI 12) (by decide) dc_7_13_15 ?_
    refine r_nclt (t := 21) (by omega) (by omega) (by decide) dc_7_13_17 (fun c_17 => ?_) (fun c_17 => ?_)
    · skip
      refine r_iload_n rfl dc_7_13_21 ?_
      refine r_ifle (t := 40) (by decide) dc_7_13_22 (fun c_22 => ?_) (fun c_22 => ?_)
      · skip
        refine r_aload_n rfl dc_7_13_40 ?_
        refine h_get (t := cT e 28) (v := .ref 89) fx_7_54 (hF 28 (by decide)) ⟨by omega, by omega⟩ (rfl) dc_7_13_41 ?_
        refine r_iload_n rfl dc_7_13_44 ?_
        refine h_aal (c := 24) (n := 8) (e := i) (y := 90 + i) (hF 89 (by decide)) (Or.inr rfl) ⟨by omega, by omega⟩ (by omega) (by omega) (if_pos (by omega)) dc_7_13_45 ?_
        refine r_iload_n rfl dc_7_13_46 ?_
        refine r_dup2 ⟨rfl, rfl⟩ dc_7_13_47 ?_
        refine h_ild (n := 12) (e := x) (v := cs (90 + i) x) ((hF (90 + i) (by omega)).trans (cR_89 e i (by omega))) ⟨by omega, by omega⟩ (show x < 12 by omega) (by omega) (rfl) dc_7_13_48 ?_
        refine r_iconst (v := nI 1) (by decide) dc_7_13_49 ?_
        refine r_iadd (v := (cs (90 + i) x) + (nI 1)) (rfl) dc_7_13_50 ?_
        refine h_ist (n := 12) (e := x) ((hF (90 + i) (by omega)).trans (cR_89 e i (by omega))) ⟨by omega, by omega⟩ (show x < 12 by omega) (by omega) dc_7_13_51 ?_
        exact r_vret rfl dc_7_13_52 (rfl)
      · exact absurd (by decide) c_22
    · omega
set_option maxHeartbeats 4000000 in
theorem k_addL0 (M : mH) (hM : 157 ≤ M.1) (T : Nat → mT) (e : Nat → Nat) (hF : ShF T e) (cs : Nat → Nat → Int32) (i : Nat) (hi : i < 8) (y : Int32) : mm_Ev 1 128 [.ref 28, .int (nI i), .int ((-1)), .int y] (hk M T cs) ((none, hk M T (cs))) := by
  refine r_ev (by decide +kernel) (show (4 : Nat) ≤ mm_nL 128 by decide +kernel) ?_
  show mm_Ru 0 (7, 4, false, prog_7_method_13_code, none) 0 [(0, .ref 28), (1, .int (nI i)), (2, .int ((-1))), (3, .int y)] [] (hk M T cs) (fun r9 => r9 = ((none, hk M T (cs))))
  refine r_iload_n rfl dc_7_13_0 ?_
  refine r_nzlt (t := 20) (by omega) (by decide) dc_7_13_1 ?_
  refine r_iload_n rfl dc_7_13_4 ?_
  refine r_bipush (v := nI 7) (by decide) dc_7_13_5 ?_
  refine r_ncgt (t := 20) (by omega) (by omega) (by decide) dc_7_13_7 (fun c_7 => ?_) (fun c_7 => ?_)
  · omega
  · skip
    refine r_iload_n rfl dc_7_13_10 ?_
    refine r_iflt (t := 20) (by decide) dc_7_13_11 (fun c_11 => ?_) (fun c_11 => ?_)
    · skip
      exact r_vret rfl dc_7_13_20 (rfl)
    · exact absurd (by decide) c_11
theorem SL1_f {cs cs2 : Nat → Nat → Int32} {n : Nat} {q : Nat → Nat → Nat → Nat} {wo : Nat → Nat → Int} {k : Nat} (h : SL1 cs n q wo k) (h1 : cs2 79 (n - k) = cs 79 (n - k)) (h2 : cs2 (81 + (n - k)) = cs (81 + (n - k))) (h3 : cs2 (90 + (n - k)) = cs (90 + (n - k))) : SL1 cs2 n q wo k := by
  unfold SL1 at h ⊢
  rw [h1, h2, h3]
  exact h
def FrM (cs cs2 : Nat → Nat → Int32) : Prop := ∀ a, ¬ (79 ≤ a ∧ a ≤ 97) → cs2 a = cs a
def msI (cs cs2 : Nat → Nat → Int32) (n : Nat) (q : Nat → Nat → Nat → Nat) (wo : Nat → Nat → Int) (m o : Nat) (mo : Int32) : Prop := mo = zI (pMx wo q m o) ∧ FrM cs cs2 ∧ (∀ k, k ≤ n - (m + 1) → SL1 cs2 n q wo k) ∧ ∀ x, x < 12 → cs2 (81 + m) x = nI (pLo q n x 1 (n - (m + 1)) + cnP (pLoP q m x 1) o) ∧ cs2 (90 + m) x = nI (pLo q n x 0 (n - (m + 1)) + cnP (pLoP q m x 0) o)
theorem ms_0 {cs : Nat → Nat → Int32} {n : Nat} {q : Nat → Nat → Nat → Nat} {wo : Nat → Nat → Int} (hn : n ≤ 7) {f g : Nat → Int32} (hf : ∀ x, x < 12 → f x = nI 0) (hg : ∀ x, x < 12 → g x = nI 0) : FrM cs (wA (wA (w1 cs 79 n (nI 0)) (81 + n) f) (90 + n) g) ∧ ∀ k, k ≤ n - n → SL1 (wA (wA (w1 cs 79 n (nI 0)) (81 + n) f) (90 + n) g) n q wo k := by
  refine ⟨fun a ha => ?_, fun k hk => ?_⟩
  · rw [wA_o _ _ (by omega), wA_o _ _ (by omega), w1_n _ _ _ (by omega)]
  · obtain rfl : k = 0 := by omega
    unfold SL1
    rw [Nat.sub_zero]
    refine ⟨?_, fun x hx => ⟨?_, ?_⟩⟩
    · rw [wA_o _ _ (by omega), wA_o _ _ (by omega), w1_s]
      exact (zI_n 0).symm
    · rw [wA_o _ _ (by omega), wA_s, hf x hx]
      rfl
    · rw [wA_s, hg x hx]
      rfl
theorem ms_1 {cs cs1 : Nat → Nat → Int32} {n m : Nat} {q : Nat → Nat → Nat → Nat} {wo : Nat → Nat → Int} (hn : n ≤ 7) (hm : m < n) (h : FrM cs cs1 ∧ ∀ k, k ≤ n - (m + 1) → SL1 cs1 n q wo k) {f g : Nat → Int32} (hf : ∀ x, x < 12 → f x = cs1 (81 + (m + 1)) x) (hg : ∀ x, x < 12 → g x = cs1 (90 + (m + 1)) x) : msI cs (wA (wA cs1 (81 + m) f) (90 + m) g) n q wo m 0 (-1000000) := by
  refine ⟨(show (-1000000 : Int32) = zI (-1000000) by decide), fun a ha => ?_, fun k hk => ?_, fun x hx => ?_⟩
  · rw [wA_o _ _ (by omega), wA_o _ _ (by omega)]
    exact h.1 a ha
  · refine SL1_f (h.2 k hk) ?_ ?_ ?_
    · rw [wA_o _ _ (by omega), wA_o _ _ (by omega)]
    · rw [wA_o _ _ (by omega), wA_o _ _ (by omega)]
    · rw [wA_o _ _ (by omega), wA_o _ _ (by omega)]
  · have s := (h.2 (n - (m + 1)) (Nat.le_refl _)).2 x hx
    rw [show n - (n - (m + 1)) = m + 1 by omega] at s
    refine ⟨?_, ?_⟩
    · rw [wA_o _ _ (by omega), wA_s, hf x hx]
      exact s.1
    · rw [wA_s, hg x hx]
      exact s.2
theorem mx_z {a b : Int} (h1 : -2147483648 ≤ a) (h2 : a < 2147483648) (h3 : -2147483648 ≤ b) (h4 : b < 2147483648) : mx (zI a) (zI b) = zI (if a < b then b else a) := by
  unfold mx
  by_cases z : a < b
  · rw [if_pos z, if_pos ((zI_lt h1 h2 h3 h4).mpr z)]
  · rw [if_neg z, if_neg (fun y => z ((zI_lt h1 h2 h3 h4).mp y))]
theorem pMx_b2 {wo : Nat → Nat → Int} {q : Nat → Nat → Nat → Nat} {i : Nat} : ∀ {m : Nat}, (∀ o, o < m → -4096 ≤ wo i (q 3 i o) ∧ wo i (q 3 i o) ≤ 512) → -1000000 ≤ pMx wo q i m ∧ pMx wo q i m ≤ 512
  | 0, _ => by
    show (-1000000 : Int) ≤ -1000000 ∧ (-1000000 : Int) ≤ 512
    decide
  | m + 1, h => by
    show -1000000 ≤ (if pMx wo q i m < wo i (q 3 i m) then wo i (q 3 i m) else pMx wo q i m) ∧ (if pMx wo q i m < wo i (q 3 i m) then wo i (q 3 i m) else pMx wo q i m) ≤ 512
    have ih := pMx_b2 (wo := wo) (q := q) (i := i) (m := m) (fun o ho => h o (by omega))
    have := h m (by omega)
    split <;> omega
theorem ms_mx {n : Nat} {q : Nat → Nat → Nat → Nat} {wo : Nat → Nat → Int} {bl : Nat → Int} (hD : pDA n q wo bl) {m o : Nat} {mo : Int32} (hm : m < n) (ho : o < q 4 m 0) (h : mo = zI (pMx wo q m o)) : mx mo (zI (wo m (q 3 m o))) = zI (pMx wo q m (o + 1)) := by
  have b1 := pMx_b2 (wo := wo) (q := q) (i := m) (m := o) (fun p hp => ⟨((hD.2.1 m hm).2.2.2 p (by omega)).2.1, ((hD.2.1 m hm).2.2.2 p (by omega)).2.2.1⟩)
  have b2 := (hD.2.1 m hm).2.2.2 o ho
  rw [h, mx_z (by omega) (by omega) (by omega) (by omega)]
  rfl
theorem ms_S {cs cs2 cs3 : Nat → Nat → Int32} {n m o : Nat} {q : Nat → Nat → Nat → Nat} {wo : Nat → Nat → Int} {mo mo2 : Int32} (hn : n ≤ 7) (hm : m < n) (h : msI cs cs2 n q wo m o mo) (h2 : mo2 = zI (pMx wo q m (o + 1))) (hf : ∀ a, ¬ a = 81 + m → ¬ a = 90 + m → cs3 a = cs2 a) (hx1 : ∀ x, x < 12 → cs3 (81 + m) x = cs2 (81 + m) x + nI (cnP (pLoP q m x 1) (o + 1) - cnP (pLoP q m x 1) o)) (hx0 : ∀ x, x < 12 → cs3 (90 + m) x = cs2 (90 + m) x + nI (cnP (pLoP q m x 0) (o + 1) - cnP (pLoP q m x 0) o)) : msI cs cs3 n q wo m (o + 1) mo2 := by
  obtain ⟨a1, a2, a3, a4⟩ := h
  refine ⟨h2, fun a ha => (hf a (by omega) (by omega)).trans (a2 a ha), fun k hk => SL1_f (a3 k hk) ?_ ?_ ?_, fun x hx => ⟨?_, ?_⟩⟩
  · rw [hf 79 (by omega) (by omega)]
  · rw [hf _ (by omega) (by omega)]
  · rw [hf _ (by omega) (by omega)]
  · have := (cnP_S (pLoP q m x 1) o).1
    rw [hx1 x hx, (a4 x hx).1, nI_add]
    exact congrArg nI (by omega)
  · have := (cnP_S (pLoP q m x 0) o).1
    rw [hx0 x hx, (a4 x hx).2, nI_add]
    exact congrArg nI (by omega)
theorem ms_E {cs cs2 : Nat → Nat → Int32} {n m : Nat} {q : Nat → Nat → Nat → Nat} {wo : Nat → Nat → Int} {mo : Int32} (hn : n ≤ 7) (hm : m < n) (h : msI cs cs2 n q wo m (q 4 m 0) mo) : FrM cs (w1 cs2 79 m (zI (pLw wo q n (n - m)))) ∧ ∀ k, k ≤ n - m → SL1 (w1 cs2 79 m (zI (pLw wo q n (n - m)))) n q wo k := by
  obtain ⟨a1, a2, a3, a4⟩ := h
  refine ⟨fun a ha => ?_, fun k hk => ?_⟩
  · rw [w1_n _ _ _ (by omega)]
    exact a2 a ha
  · rcases (by omega : k ≤ n - (m + 1) ∨ k = n - m) with z | rfl
    · refine SL1_f (a3 k z) ?_ ?_ ?_
      · rw [w1_o _ _ (Or.inr (by omega))]
      · rw [w1_n _ _ _ (by omega)]
      · rw [w1_n _ _ _ (by omega)]
    · unfold SL1
      rw [show n - (n - m) = m by omega]
      refine ⟨w1_s _ _ _ _, fun x hx => ?_⟩
      rw [w1_n _ _ _ (by omega), w1_n _ _ _ (by omega), (a4 x hx).1, (a4 x hx).2, show n - m = (n - (m + 1)) + 1 by omega]
      have e : n - (n - (m + 1) + 1) = m := by omega
      refine ⟨congrArg nI ?_, congrArg nI ?_⟩
      · show _ = pLo q n x 1 (n - (m + 1)) + cnP (pLoP q (n - (n - (m + 1) + 1)) x 1) (q 4 (n - (n - (m + 1) + 1)) 0)
        rw [e]
      · show _ = pLo q n x 0 (n - (m + 1)) + cnP (pLoP q (n - (n - (m + 1) + 1)) x 0) (q 4 (n - (n - (m + 1) + 1)) 0)
        rw [e]
theorem ms_w {cs cs2 : Nat → Nat → Int32} {n m : Nat} {q : Nat → Nat → Nat → Nat} {wo : Nat → Nat → Int} {mo : Int32} (hm : m < n) (h : msI cs cs2 n q wo m (q 4 m 0) mo) : zI (pLw wo q n (n - (m + 1))) + mo = zI (pLw wo q n (n - m)) := by
  rw [h.1, zI_add, show n - m = (n - (m + 1)) + 1 by omega]
  show _ = zI (pLw wo q n (n - (m + 1)) + pMx wo q (n - (n - (m + 1) + 1)) (q 4 (n - (n - (m + 1) + 1)) 0))
  rw [show n - (n - (m + 1) + 1) = m by omega]
theorem ms_r {cs cs2 : Nat → Nat → Int32} {n m : Nat} {q : Nat → Nat → Nat → Nat} {wo : Nat → Nat → Int} {o : Nat} {mo : Int32} (hm : m < n) (h : msI cs cs2 n q wo m o mo) : cs2 79 (m + 1) = zI (pLw wo q n (n - (m + 1))) := by
  have s := (h.2.2.1 (n - (m + 1)) (Nat.le_refl _)).1
  rwa [show n - (n - (m + 1)) = m + 1 by omega] at s
set_option maxHeartbeats 4000000 in
theorem k_measure (M : mH) (hM : 157 ≤ M.1) (T : Nat → mT) (e : Nat → Nat) (hF : ShF T e) (cs : Nat → Nat → Int32) (n : Nat) (q : Nat → Nat → Nat → Nat) (wo : Nat → Nat → Int) (bl : Nat → Int) (hD : pDA n q wo bl) (hSD : SD cs n q wo) : ∃ (cs1 : Nat → Nat → Int32), (FrM cs cs1 ∧ SL cs1 n q wo) ∧ mm_Ev 2 127 [.ref 28] (hk M T cs) ((none, hk M T cs1)) := by
  have hq9 : ∃ z, (fun r9 => ∃ (cs1 : Nat → Nat → Int32), (FrM cs cs1 ∧ SL cs1 n q wo) ∧ r9 = ((none, hk M T cs1))) z ∧ mm_Ev 2 127 [.ref 28] (hk M T cs) z := by
    have hn7 := hD.1
    refine r_evQ (by decide +kernel) (show (1 : Nat) ≤ mm_nL 127 by decide +kernel) ?_
    show mm_Ru 1 (7, 5, false, prog_7_method_12_code, none) 0 [(0, .ref 28)] [] (hk M T cs) (fun r9 => ∃ (cs1 : Nat → Nat → Int32), (FrM cs cs1 ∧ SL cs1 n q wo) ∧ r9 = ((none, hk M T cs1)))
    refine r_iconst (v := nI 0) (by decide) dc_7_12_0 ?_
    refine r_aload_n rfl dc_7_12_1 ?_
    refine h_get (t := cT e 28) (v := .int (nI n)) fx_7_20 (hF 28 (by decide)) ⟨by omega, by omega⟩ (show some (Value.int _) = _ from congrArg (fun z => some (Value.int z)) (hSD.1)) dc_7_12_2 ?_
    refine r_bipush (v := nI 7) (by decide) dc_7_12_5 ?_
    refine h_callS (as := [.int (nI n), .int (nI 7)]) (rest := [.int (nI 0)]) (v := .int (nI n)) rfl rfl iv_7_s92 (Or.inl rfl) na_0_37 rfl (show (1 : Nat) ≤ 8 by decide) dc_7_12_7 ((show mn (nI n) (nI 7) = nI n by rw [mn_n (by omega) (by omega), Nat.min_eq_left hn7]) ▸ k_min _ (nI n) (nI 7)) ?_
    refine h_callS (as := [.int (nI 0), .int (nI n)]) (rest := []) (v := .int (nI n)) rfl rfl iv_7_s98 (Or.inl rfl) na_0_33 rfl (show (0 : Nat) ≤ 8 by decide) dc_7_12_10 ((show mx (nI 0) (nI n) = nI n by rw [mx_n (by omega) (by omega), Nat.zero_max]) ▸ k_max _ (nI 0) (nI n)) ?_
    refine r_istore_n (ls' := [(1, .int (nI n)), (0, .ref 28)]) (by decide) rfl dc_7_12_13 ?_
    refine r_aload_n rfl dc_7_12_14 ?_
    refine h_get (t := cT e 28) (v := .ref 79) fx_7_48 (hF 28 (by decide)) ⟨by omega, by omega⟩ (rfl) dc_7_12_15 ?_
    refine r_iload_n rfl dc_7_12_18 ?_
    refine r_iconst (v := nI 0) (by decide) dc_7_12_19 ?_
    refine h_ist (n := 8) (e := n) (hF 79 (by decide)) ⟨by omega, by omega⟩ (show n < 8 by omega) (by omega) dc_7_12_20 ?_
    refine r_aload_n rfl dc_7_12_21 ?_
    refine h_get (t := cT e 28) (v := .ref 80) fx_7_51 (hF 28 (by decide)) ⟨by omega, by omega⟩ (rfl) dc_7_12_22 ?_
    refine r_iload_n rfl dc_7_12_25 ?_
    refine h_aal (c := 24) (n := 8) (e := n) (y := 81 + n) (hF 80 (by decide)) (Or.inr rfl) ⟨by omega, by omega⟩ (by omega) (by omega) (if_pos (by omega)) dc_7_12_26 ?_
    refine r_iconst (v := nI 0) (by decide) dc_7_12_27 ?_
    refine h_callS0 (as := [.ref (81 + n), .int (nI 0)]) (rest := []) (M1 := hk M T (wA (w1 cs 79 n (nI 0)) (81 + n) (fl ((w1 cs 79 n (nI 0)) (81 + n)) 12 (nI 0)))) rfl rfl iv_7_s101 (Or.inl rfl) na_0_2 rfl (show (0 : Nat) ≤ 8 by decide) dc_7_12_28 (k_fill M T (w1 cs 79 n (nI 0)) (81 + n) 12 _ (nI 0) ((hF (81 + n) (by omega)).trans (cR_80 e n (by omega))) ⟨by omega, by omega⟩ (by decide)) ?_
    refine r_aload_n rfl dc_7_12_31 ?_
    refine h_get (t := cT e 28) (v := .ref 89) fx_7_54 (hF 28 (by decide)) ⟨by omega, by omega⟩ (rfl) dc_7_12_32 ?_
    refine r_iload_n rfl dc_7_12_35 ?_
    refine h_aal (c := 24) (n := 8) (e := n) (y := 90 + n) (hF 89 (by decide)) (Or.inr rfl) ⟨by omega, by omega⟩ (by omega) (by omega) (if_pos (by omega)) dc_7_12_36 ?_
    refine r_iconst (v := nI 0) (by decide) dc_7_12_37 ?_
    refine h_callS0 (as := [.ref (90 + n), .int (nI 0)]) (rest := []) (M1 := hk M T (wA (wA (w1 cs 79 n (nI 0)) (81 + n) (fl ((w1 cs 79 n (nI 0)) (81 + n)) 12 (nI 0))) (90 + n) (fl ((wA (w1 cs 79 n (nI 0)) (81 + n) (fl ((w1 cs 79 n (nI 0)) (81 + n)) 12 (nI 0))) (90 + n)) 12 (nI 0)))) rfl rfl iv_7_s101 (Or.inl rfl) na_0_2 rfl (show (0 : Nat) ≤ 8 by decide) dc_7_12_38 (k_fill M T (wA (w1 cs 79 n (nI 0)) (81 + n) (fl ((w1 cs 79 n (nI 0)) (81 + n)) 12 (nI 0))) (90 + n) 12 _ (nI 0) ((hF (90 + n) (by omega)).trans (cR_89 e n (by omega))) ⟨by omega, by omega⟩ (by decide)) ?_
    refine r_iload_n rfl dc_7_12_41 ?_
    refine r_iconst (v := nI 1) (by decide) dc_7_12_42 ?_
    refine r_isub (v := dI n) (Int32.sub_eq_add_neg _ _) dc_7_12_43 ?_
    refine r_istore_n (ls' := [(2, .int (dI n)), (1, .int (nI n)), (0, .ref 28)]) (by decide) rfl dc_7_12_44 ?_
    refine r_ls [(2, .int (dI n)), (0, .ref 28), (1, .int (nI n))] (mm_ndk_of [2, 0, 1] rfl (by decide)) (mm_sub_cons rfl (mm_sub_cons rfl (mm_sub_cons rfl (mm_sub_nil _)))) ?_
    suffices hdn : ∀ m, m ≤ n → (∀ (cs1 : Nat → Nat → Int32), (FrM cs cs1 ∧ ∀ k, k ≤ n - m → SL1 cs1 n q wo k) → mm_Ru 1 (7, 5, false, prog_7_method_12_code, none) 45 [(2, .int (dI m)), (0, .ref 28), (1, .int (nI n))] [] (hk M T cs1) (fun r9 => ∃ (cs1 : Nat → Nat → Int32), (FrM cs cs1 ∧ SL cs1 n q wo) ∧ r9 = ((none, hk M T cs1)))) from hdn n (by omega) (wA (wA (w1 cs 79 n (nI 0)) (81 + n) (fl ((w1 cs 79 n (nI 0)) (81 + n)) 12 (nI 0))) (90 + n) (fl ((wA (w1 cs 79 n (nI 0)) (81 + n) (fl ((w1 cs 79 n (nI 0)) (81 + n)) 12 (nI 0))) (90 + n)) 12 (nI 0))) (ms_0 hn7 (fun x hx => if_pos hx) (fun x hx => if_pos hx))
    intro m
    induction m with
    | zero =>
      intro h_m  cs1 hi_m
      show mm_Ru 1 (7, 5, false, prog_7_method_12_code, none) 45 [(2, .int (dI 0)), (0, .ref 28), (1, .int (nI n))] [] (hk M T cs1) (fun r9 => ∃ (cs1 : Nat → Nat → Int32), (FrM cs cs1 ∧ SL cs1 n q wo) ∧ r9 = ((none, hk M T cs1)))
      refine r_iload_n rfl dc_7_12_45 ?_
      refine r_iflt (t := 179) (by decide) dc_7_12_46 (fun c_46 => ?_) (fun c_46 => ?_)
      · skip
        refine r_vret rfl dc_7_12_179 ?_
        exact ⟨cs1, ⟨hi_m.1, fun k hk => hi_m.2 k (by omega)⟩, rfl⟩
      · exact absurd (by decide) c_46
    | succ m ih_m =>
      intro h_m  cs1 hi_m
      rw [dI_S]
      show mm_Ru 1 (7, 5, false, prog_7_method_12_code, none) 45 [(2, .int (nI m)), (0, .ref 28), (1, .int (nI n))] [] (hk M T cs1) (fun r9 => ∃ (cs1 : Nat → Nat → Int32), (FrM cs cs1 ∧ SL cs1 n q wo) ∧ r9 = ((none, hk M T cs1)))
      refine r_iload_n rfl dc_7_12_45 ?_
      refine r_nzlt (t := 179) (by omega) (by decide) dc_7_12_46 ?_
      refine r_aload_n rfl dc_7_12_49 ?_
      refine h_get (t := cT e 28) (v := .ref 80) fx_7_51 (hF 28 (by decide)) ⟨by omega, by omega⟩ (rfl) dc_7_12_50 ?_
      refine r_iload_n rfl dc_7_12_53 ?_
      refine r_iconst (v := nI 1) (by decide) dc_7_12_54 ?_
      refine r_iadd (v := nI (m + 1)) (nI_add _ _) dc_7_12_55 ?_
      refine h_aal (c := 24) (n := 8) (e := m + 1) (y := 81 + (m + 1)) (hF 80 (by decide)) (Or.inr rfl) ⟨by omega, by omega⟩ (by omega) (by omega) (if_pos (by omega)) dc_7_12_56 ?_
      refine r_iconst (v := nI 0) (by decide) dc_7_12_57 ?_
      refine r_aload_n rfl dc_7_12_58 ?_
      refine h_get (t := cT e 28) (v := .ref 80) fx_7_51 (hF 28 (by decide)) ⟨by omega, by omega⟩ (rfl) dc_7_12_59 ?_
      refine r_iload_n rfl dc_7_12_62 ?_
      refine h_aal (c := 24) (n := 8) (e := m) (y := 81 + m) (hF 80 (by decide)) (Or.inr rfl) ⟨by omega, by omega⟩ (by omega) (by omega) (if_pos (by omega)) dc_7_12_63 ?_
      refine r_iconst (v := nI 0) (by decide) dc_7_12_64 ?_
      refine r_bipush (v := nI 12) (by decide) dc_7_12_65 ?_
      refine h_cpi (a := 81 + (m + 1)) (c := 81 + m) (n0 := 12) (n1 := 12) (sp := 0) (dp := 0) (n := 12) (rest := []) ac_7_107 ((hF (81 + (m + 1)) (by omega)).trans (cR_80 e ((m + 1)) (by omega))) ⟨by omega, by omega⟩ ((hF (81 + m) (by omega)).trans (cR_80 e m (by omega))) ⟨by omega, by omega⟩ (by decide) (by decide) ⟨by decide, by decide⟩ (show (0 : Nat) ≤ 8 by decide) ivn_7_107 dc_7_12_67 ?_
      refine r_aload_n rfl dc_7_12_70 ?_
      refine h_get (t := cT e 28) (v := .ref 89) fx_7_54 (hF 28 (by decide)) ⟨by omega, by omega⟩ (rfl) dc_7_12_71 ?_
      refine r_iload_n rfl dc_7_12_74 ?_
      refine r_iconst (v := nI 1) (by decide) dc_7_12_75 ?_
      refine r_iadd (v := nI (m + 1)) (nI_add _ _) dc_7_12_76 ?_
      refine h_aal (c := 24) (n := 8) (e := m + 1) (y := 90 + (m + 1)) (hF 89 (by decide)) (Or.inr rfl) ⟨by omega, by omega⟩ (by omega) (by omega) (if_pos (by omega)) dc_7_12_77 ?_
      refine r_iconst (v := nI 0) (by decide) dc_7_12_78 ?_
      refine r_aload_n rfl dc_7_12_79 ?_
      refine h_get (t := cT e 28) (v := .ref 89) fx_7_54 (hF 28 (by decide)) ⟨by omega, by omega⟩ (rfl) dc_7_12_80 ?_
      refine r_iload_n rfl dc_7_12_83 ?_
      refine h_aal (c := 24) (n := 8) (e := m) (y := 90 + m) (hF 89 (by decide)) (Or.inr rfl) ⟨by omega, by omega⟩ (by omega) (by omega) (if_pos (by omega)) dc_7_12_84 ?_
      refine r_iconst (v := nI 0) (by decide) dc_7_12_85 ?_
      refine r_bipush (v := nI 12) (by decide) dc_7_12_86 ?_
      refine h_cpi (a := 90 + (m + 1)) (c := 90 + m) (n0 := 12) (n1 := 12) (sp := 0) (dp := 0) (n := 12) (rest := []) ac_7_107 ((hF (90 + (m + 1)) (by omega)).trans (cR_89 e ((m + 1)) (by omega))) ⟨by omega, by omega⟩ ((hF (90 + m) (by omega)).trans (cR_89 e m (by omega))) ⟨by omega, by omega⟩ (by decide) (by decide) ⟨by decide, by decide⟩ (show (0 : Nat) ≤ 8 by decide) ivn_7_107 dc_7_12_88 ?_
      refine r_ldc (v := (-1000000)) nr_7_63 dc_7_12_91 ?_
      refine r_istore_n (ls' := [(3, .int ((-1000000))), (2, .int (nI m)), (0, .ref 28), (1, .int (nI n))]) (by decide) rfl dc_7_12_93 ?_
      refine r_iconst (v := nI 0) (by decide) dc_7_12_94 ?_
      refine r_istore (ls' := [(4, .int (nI 0)), (3, .int ((-1000000))), (2, .int (nI m)), (0, .ref 28), (1, .int (nI n))]) (by decide) rfl dc_7_12_95 ?_
      refine r_ls [(4, .int (nI 0)), (3, .int ((-1000000))), (0, .ref 28), (1, .int (nI n)), (2, .int (nI m))] (mm_ndk_of [4, 3, 0, 1, 2] rfl (by decide)) (mm_sub_cons rfl (mm_sub_cons rfl (mm_sub_cons rfl (mm_sub_cons rfl (mm_sub_cons rfl (mm_sub_nil _)))))) ?_
      have hq := hD.2.1 m h_m
      refine mm_cnt (P := fun o => ∀ (mo : Int32), ∀ (cs2 : Nat → Nat → Int32), (msI cs cs2 n q wo m o mo) → mm_Ru 1 (7, 5, false, prog_7_method_12_code, none) 97 [(4, .int (nI o)), (3, .int mo), (0, .ref 28), (1, .int (nI n)), (2, .int (nI m))] [] (hk M T cs2) (fun r9 => ∃ (cs1 : Nat → Nat → Int32), (FrM cs cs1 ∧ SL cs1 n q wo) ∧ r9 = ((none, hk M T cs1)))) (q 4 m 0) ?_ ?_ 0 (by omega) ((-1000000)) (wA (wA cs1 (81 + m) (va_cpy (cs1 (81 + (m + 1))) (cs1 (81 + m)) 0 0 12)) (90 + m) (va_cpy ((wA cs1 (81 + m) (va_cpy (cs1 (81 + (m + 1))) (cs1 (81 + m)) 0 0 12)) (90 + (m + 1))) ((wA cs1 (81 + m) (va_cpy (cs1 (81 + (m + 1))) (cs1 (81 + m)) 0 0 12)) (90 + m)) 0 0 12)) (ms_1 hn7 h_m hi_m (fun x hx => (pk_cpy_in (Nat.zero_le x) (by omega)).trans (by rw [Nat.zero_add, Nat.sub_zero])) (fun x hx => (pk_cpy_in (Nat.zero_le x) (by omega)).trans (by rw [Nat.zero_add, Nat.sub_zero]; exact congrFun (wA_o _ _ (by omega)) x)))
      · intro mo cs2 hi_o
        show mm_Ru 1 (7, 5, false, prog_7_method_12_code, none) 97 [(4, .int (nI (q 4 m 0))), (3, .int mo), (0, .ref 28), (1, .int (nI n)), (2, .int (nI m))] [] (hk M T cs2) (fun r9 => ∃ (cs1 : Nat → Nat → Int32), (FrM cs cs1 ∧ SL cs1 n q wo) ∧ r9 = ((none, hk M T cs1)))
        refine r_iload rfl dc_7_12_97 ?_
        refine r_aload_n rfl dc_7_12_99 ?_
        refine h_get (t := cT e 28) (v := .ref 38) fx_7_28 (hF 28 (by decide)) ⟨by omega, by omega⟩ (rfl) dc_7_12_100 ?_
        refine r_iload_n rfl dc_7_12_103 ?_
        refine h_ild (n := 7) (e := m) (v := nI (q 4 m 0)) (hF 38 (by decide)) ⟨by omega, by omega⟩ (show m < 7 by omega) (by omega) ((congrFun (hi_o.2.1 38 (by omega)) m).trans (hSD.2.2.2 m h_m).1) dc_7_12_104 ?_
        refine r_ncge (t := 157) (by omega) (by omega) (by decide) dc_7_12_105 (fun c_105 => ?_) (fun c_105 => ?_)
        · skip
          refine r_aload_n rfl dc_7_12_157 ?_
          refine h_get (t := cT e 28) (v := .ref 79) fx_7_48 (hF 28 (by decide)) ⟨by omega, by omega⟩ (rfl) dc_7_12_158 ?_
          refine r_iload_n rfl dc_7_12_161 ?_
          refine r_aload_n rfl dc_7_12_162 ?_
          refine h_get (t := cT e 28) (v := .ref 79) fx_7_48 (hF 28 (by decide)) ⟨by omega, by omega⟩ (rfl) dc_7_12_163 ?_
          refine r_iload_n rfl dc_7_12_166 ?_
          refine r_iconst (v := nI 1) (by decide) dc_7_12_167 ?_
          refine r_iadd (v := nI (m + 1)) (nI_add _ _) dc_7_12_168 ?_
          refine h_ild (n := 8) (e := m + 1) (v := zI (pLw wo q n (n - (m + 1)))) (hF 79 (by decide)) ⟨by omega, by omega⟩ (show m + 1 < 8 by omega) (by omega) (ms_r h_m hi_o) dc_7_12_169 ?_
          refine r_iload_n rfl dc_7_12_170 ?_
          refine r_iadd (v := zI (pLw wo q n (n - m))) (ms_w h_m hi_o) dc_7_12_171 ?_
          refine h_ist (n := 8) (e := m) (hF 79 (by decide)) ⟨by omega, by omega⟩ (show m < 8 by omega) (by omega) dc_7_12_172 ?_
          refine r_iinc (n := 2) (k := -1) (x := nI m) (v := nI m + (-1)) (ls' := [(2, .int (nI m + (-1))), (4, .int (nI (q 4 m 0))), (3, .int mo), (0, .ref 28), (1, .int (nI n))]) rfl (congrArg (fun z9 => (nI m) + z9) (by decide : Int32.ofInt (-1) = -1)) (by decide) rfl dc_7_12_173 ?_
          refine r_goto (t := 45) (by decide) dc_7_12_176 ?_
          refine r_ls [(2, .int (nI m + (-1))), (0, .ref 28), (1, .int (nI n))] (mm_ndk_of [2, 0, 1] rfl (by decide)) (mm_sub_cons rfl (mm_sub_cons rfl (mm_sub_cons rfl (mm_sub_nil _)))) ?_
          exact ih_m (by omega) (w1 cs2 79 m (zI (pLw wo q n (n - m)))) (ms_E hn7 h_m hi_o)
        · omega
      · intro o h_o ih_o mo cs2 hi_o
        show mm_Ru 1 (7, 5, false, prog_7_method_12_code, none) 97 [(4, .int (nI o)), (3, .int mo), (0, .ref 28), (1, .int (nI n)), (2, .int (nI m))] [] (hk M T cs2) (fun r9 => ∃ (cs1 : Nat → Nat → Int32), (FrM cs cs1 ∧ SL cs1 n q wo) ∧ r9 = ((none, hk M T cs1)))
        refine r_iload rfl dc_7_12_97 ?_
        refine r_aload_n rfl dc_7_12_99 ?_
        refine h_get (t := cT e 28) (v := .ref 38) fx_7_28 (hF 28 (by decide)) ⟨by omega, by omega⟩ (rfl) dc_7_12_100 ?_
        refine r_iload_n rfl dc_7_12_103 ?_
        refine h_ild (n := 7) (e := m) (v := nI (q 4 m 0)) (hF 38 (by decide)) ⟨by omega, by omega⟩ (show m < 7 by omega) (by omega) ((congrFun (hi_o.2.1 38 (by omega)) m).trans (hSD.2.2.2 m h_m).1) dc_7_12_104 ?_
        refine r_ncge (t := 157) (by omega) (by omega) (by decide) dc_7_12_105 (fun c_105 => ?_) (fun c_105 => ?_)
        · omega
        · skip
          refine r_iload rfl dc_7_12_108 ?_
          refine r_iconst (v := nI 5) (by decide) dc_7_12_110 ?_
          refine r_ncge (t := 157) (by omega) (by omega) (by decide) dc_7_12_111 (fun c_111 => ?_) (fun c_111 => ?_)
          · omega
          · skip
            have hop := (hSD.2.2.2 m h_m).2 o h_o
            have hq3 := hq.2.2.2 o h_o
            have hz9 : cs2 (72 + m) o = zI (wo m (q 3 m o)) := (congrFun (hi_o.2.1 (72 + m) (by omega)) o).trans hop.2.2.2.2
            have hx9 : cs2 (56 + m) o = vD (q 3 m o) (q 0 m (q 3 m o)) := (congrFun (hi_o.2.1 (56 + m) (by omega)) o).trans hop.2.2.1
            have hw9 : cs2 (64 + m) o = wD (q 3 m o) (q 2 m (q 3 m o)) := (congrFun (hi_o.2.1 (64 + m) (by omega)) o).trans hop.2.2.2.1
            by_cases h4 : q 3 m o = 4
            · have hx8 : cs2 (56 + m) o = -1 := hx9.trans (if_pos h4)
              have hw8 : cs2 (64 + m) o = nI 0 := hw9.trans (if_pos h4)
              refine r_iload_n rfl dc_7_12_114 ?_
              refine r_aload_n rfl dc_7_12_115 ?_
              refine h_get (t := cT e 28) (v := .ref 71) fx_7_45 (hF 28 (by decide)) ⟨by omega, by omega⟩ (rfl) dc_7_12_116 ?_
              refine r_iload_n rfl dc_7_12_119 ?_
              refine h_aal (c := 24) (n := 7) (e := m) (y := 72 + m) (hF 71 (by decide)) (Or.inr rfl) ⟨by omega, by omega⟩ (by omega) (by omega) (if_pos (by omega)) dc_7_12_120 ?_
              refine r_iload rfl dc_7_12_121 ?_
              refine h_ild (n := 5) (e := o) (v := zI (wo m (q 3 m o))) ((hF (72 + m) (by omega)).trans (cR_71 e m (by omega))) ⟨by omega, by omega⟩ (show o < 5 by omega) (by omega) (hz9) dc_7_12_123 ?_
              refine h_callS (as := [.int mo, .int (zI (wo m (q 3 m o)))]) (rest := []) (v := .int (mx mo (zI (wo m (q 3 m o))))) rfl rfl iv_7_s98 (Or.inl rfl) na_0_33 rfl (show (0 : Nat) ≤ 8 by decide) dc_7_12_124 (k_max _ _ _) ?_
              refine r_istore_n (ls' := [(3, .int (mx mo (zI (wo m (q 3 m o))))), (4, .int (nI o)), (0, .ref 28), (1, .int (nI n)), (2, .int (nI m))]) (by decide) rfl dc_7_12_127 ?_
              refine r_aload_n rfl dc_7_12_128 ?_
              refine r_iload_n rfl dc_7_12_129 ?_
              refine r_aload_n rfl dc_7_12_130 ?_
              refine h_get (t := cT e 28) (v := .ref 55) fx_7_39 (hF 28 (by decide)) ⟨by omega, by omega⟩ (rfl) dc_7_12_131 ?_
              refine r_iload_n rfl dc_7_12_134 ?_
              refine h_aal (c := 24) (n := 7) (e := m) (y := 56 + m) (hF 55 (by decide)) (Or.inr rfl) ⟨by omega, by omega⟩ (by omega) (by omega) (if_pos (by omega)) dc_7_12_135 ?_
              refine r_iload rfl dc_7_12_136 ?_
              refine h_ild (n := 5) (e := o) (v := (-1)) ((hF (56 + m) (by omega)).trans (cR_55 e m (by omega))) ⟨by omega, by omega⟩ (show o < 5 by omega) (by omega) (hx8) dc_7_12_138 ?_
              refine r_aload_n rfl dc_7_12_139 ?_
              refine h_get (t := cT e 28) (v := .ref 63) fx_7_42 (hF 28 (by decide)) ⟨by omega, by omega⟩ (rfl) dc_7_12_140 ?_
              refine r_iload_n rfl dc_7_12_143 ?_
              refine h_aal (c := 24) (n := 7) (e := m) (y := 64 + m) (hF 63 (by decide)) (Or.inr rfl) ⟨by omega, by omega⟩ (by omega) (by omega) (if_pos (by omega)) dc_7_12_144 ?_
              refine r_iload rfl dc_7_12_145 ?_
              refine h_ild (n := 5) (e := o) (v := nI 0) ((hF (64 + m) (by omega)).trans (cR_63 e m (by omega))) ⟨by omega, by omega⟩ (show o < 5 by omega) (by omega) (hw8) dc_7_12_147 ?_
              refine h_call0 (t := cT e 28) (as := [.int (nI m), .int ((-1)), .int (nI 0)]) (rest := []) (M1 := hk M T cs2) rfl rfl iv_7_v113 (Or.inl rfl) na_1_128 (hF 28 (by decide)) ⟨by omega, by omega⟩ (show (7 : Nat) < 14 by decide) o_128 rfl (show (0 : Nat) ≤ 8 by decide) dc_7_12_148 (k_addL0 M hM T e hF cs2 m (by omega) (nI 0)) ?_
              refine r_iinc (n := 4) (k := 1) (x := nI o) (v := nI (o + 1)) (ls' := [(4, .int (nI (o + 1))), (3, .int (mx mo (zI (wo m (q 3 m o))))), (0, .ref 28), (1, .int (nI n)), (2, .int (nI m))]) rfl (nI_1 _) (by decide) rfl dc_7_12_151 ?_
              refine r_goto (t := 97) (by decide) dc_7_12_154 ?_
              exact ih_o (mx mo (zI (wo m (q 3 m o)))) cs2 (ms_S hn7 h_m hi_o (ms_mx hD h_m h_o hi_o.1) (fun _ _ _ => rfl) (fun x hx => by rw [cnP_f (fun z => z.1 h4), Nat.sub_self]; exact (Int32.add_zero _).symm) (fun x hx => by rw [cnP_f (fun z => z.1 h4), Nat.sub_self]; exact (Int32.add_zero _).symm))
            · have hx8 : cs2 (56 + m) o = nI (q 0 m (q 3 m o)) := hx9.trans (if_neg h4)
              have hq4 := hq3.2.2.2 h4
              rcases hq4.2.2 with h2 | h2
              · have hw8 : cs2 (64 + m) o = -1 := hw9.trans ((if_neg h4).trans (if_neg (by omega)))
                refine r_iload_n rfl dc_7_12_114 ?_
                refine r_aload_n rfl dc_7_12_115 ?_
                refine h_get (t := cT e 28) (v := .ref 71) fx_7_45 (hF 28 (by decide)) ⟨by omega, by omega⟩ (rfl) dc_7_12_116 ?_
                refine r_iload_n rfl dc_7_12_119 ?_
                refine h_aal (c := 24) (n := 7) (e := m) (y := 72 + m) (hF 71 (by decide)) (Or.inr rfl) ⟨by omega, by omega⟩ (by omega) (by omega) (if_pos (by omega)) dc_7_12_120 ?_
                refine r_iload rfl dc_7_12_121 ?_
                refine h_ild (n := 5) (e := o) (v := zI (wo m (q 3 m o))) ((hF (72 + m) (by omega)).trans (cR_71 e m (by omega))) ⟨by omega, by omega⟩ (show o < 5 by omega) (by omega) (hz9) dc_7_12_123 ?_
                refine h_callS (as := [.int mo, .int (zI (wo m (q 3 m o)))]) (rest := []) (v := .int (mx mo (zI (wo m (q 3 m o))))) rfl rfl iv_7_s98 (Or.inl rfl) na_0_33 rfl (show (0 : Nat) ≤ 8 by decide) dc_7_12_124 (k_max _ _ _) ?_
                refine r_istore_n (ls' := [(3, .int (mx mo (zI (wo m (q 3 m o))))), (4, .int (nI o)), (0, .ref 28), (1, .int (nI n)), (2, .int (nI m))]) (by decide) rfl dc_7_12_127 ?_
                refine r_aload_n rfl dc_7_12_128 ?_
                refine r_iload_n rfl dc_7_12_129 ?_
                refine r_aload_n rfl dc_7_12_130 ?_
                refine h_get (t := cT e 28) (v := .ref 55) fx_7_39 (hF 28 (by decide)) ⟨by omega, by omega⟩ (rfl) dc_7_12_131 ?_
                refine r_iload_n rfl dc_7_12_134 ?_
                refine h_aal (c := 24) (n := 7) (e := m) (y := 56 + m) (hF 55 (by decide)) (Or.inr rfl) ⟨by omega, by omega⟩ (by omega) (by omega) (if_pos (by omega)) dc_7_12_135 ?_
                refine r_iload rfl dc_7_12_136 ?_
                refine h_ild (n := 5) (e := o) (v := nI (q 0 m (q 3 m o))) ((hF (56 + m) (by omega)).trans (cR_55 e m (by omega))) ⟨by omega, by omega⟩ (show o < 5 by omega) (by omega) (hx8) dc_7_12_138 ?_
                refine r_aload_n rfl dc_7_12_139 ?_
                refine h_get (t := cT e 28) (v := .ref 63) fx_7_42 (hF 28 (by decide)) ⟨by omega, by omega⟩ (rfl) dc_7_12_140 ?_
                refine r_iload_n rfl dc_7_12_143 ?_
                refine h_aal (c := 24) (n := 7) (e := m) (y := 64 + m) (hF 63 (by decide)) (Or.inr rfl) ⟨by omega, by omega⟩ (by omega) (by omega) (if_pos (by omega)) dc_7_12_144 ?_
                refine r_iload rfl dc_7_12_145 ?_
                refine h_ild (n := 5) (e := o) (v := (-1)) ((hF (64 + m) (by omega)).trans (cR_63 e m (by omega))) ⟨by omega, by omega⟩ (show o < 5 by omega) (by omega) (hw8) dc_7_12_147 ?_
                refine h_call0 (t := cT e 28) (as := [.int (nI m), .int (nI (q 0 m (q 3 m o))), .int ((-1))]) (rest := []) (M1 := hk M T (w1 cs2 (90 + m) (q 0 m (q 3 m o)) (cs2 (90 + m) (q 0 m (q 3 m o)) + nI 1))) rfl rfl iv_7_v113 (Or.inl rfl) na_1_128 (hF 28 (by decide)) ⟨by omega, by omega⟩ (show (7 : Nat) < 14 by decide) o_128 rfl (show (0 : Nat) ≤ 8 by decide) dc_7_12_148 (k_addLm M hM T e hF cs2 m (by omega) (q 0 m (q 3 m o)) hq4.1) ?_
                refine r_iinc (n := 4) (k := 1) (x := nI o) (v := nI (o + 1)) (ls' := [(4, .int (nI (o + 1))), (3, .int (mx mo (zI (wo m (q 3 m o))))), (0, .ref 28), (1, .int (nI n)), (2, .int (nI m))]) rfl (nI_1 _) (by decide) rfl dc_7_12_151 ?_
                refine r_goto (t := 97) (by decide) dc_7_12_154 ?_
                exact ih_o (mx mo (zI (wo m (q 3 m o)))) (w1 cs2 (90 + m) (q 0 m (q 3 m o)) (cs2 (90 + m) (q 0 m (q 3 m o)) + nI 1)) (ms_S hn7 h_m hi_o (ms_mx hD h_m h_o hi_o.1) (fun a ha hb => w1_n _ _ _ (by omega)) (fun x hx => by rw [cnP_f (fun y => absurd (y.2.2.symm.trans h2) (by decide)), Nat.sub_self, w1_n _ _ _ (by omega)]; exact (Int32.add_zero _).symm) (fun x hx => by by_cases z : x = (q 0 m (q 3 m o)); (subst z; rw [cnP_t (show pLoP q m _ 0 o from ⟨h4, rfl, h2⟩), Nat.add_sub_cancel_left, w1_s]); (rw [cnP_f (fun y => z y.2.1.symm), Nat.sub_self, w1_o _ _ (Or.inr z)]; exact (Int32.add_zero _).symm)))
              · have hw8 : cs2 (64 + m) o = nI 1 := hw9.trans ((if_neg h4).trans (if_pos h2))
                refine r_iload_n rfl dc_7_12_114 ?_
                refine r_aload_n rfl dc_7_12_115 ?_
                refine h_get (t := cT e 28) (v := .ref 71) fx_7_45 (hF 28 (by decide)) ⟨by omega, by omega⟩ (rfl) dc_7_12_116 ?_
                refine r_iload_n rfl dc_7_12_119 ?_
                refine h_aal (c := 24) (n := 7) (e := m) (y := 72 + m) (hF 71 (by decide)) (Or.inr rfl) ⟨by omega, by omega⟩ (by omega) (by omega) (if_pos (by omega)) dc_7_12_120 ?_
                refine r_iload rfl dc_7_12_121 ?_
                refine h_ild (n := 5) (e := o) (v := zI (wo m (q 3 m o))) ((hF (72 + m) (by omega)).trans (cR_71 e m (by omega))) ⟨by omega, by omega⟩ (show o < 5 by omega) (by omega) (hz9) dc_7_12_123 ?_
                refine h_callS (as := [.int mo, .int (zI (wo m (q 3 m o)))]) (rest := []) (v := .int (mx mo (zI (wo m (q 3 m o))))) rfl rfl iv_7_s98 (Or.inl rfl) na_0_33 rfl (show (0 : Nat) ≤ 8 by decide) dc_7_12_124 (k_max _ _ _) ?_
                refine r_istore_n (ls' := [(3, .int (mx mo (zI (wo m (q 3 m o))))), (4, .int (nI o)), (0, .ref 28), (1, .int (nI n)), (2, .int (nI m))]) (by decide) rfl dc_7_12_127 ?_
                refine r_aload_n rfl dc_7_12_128 ?_
                refine r_iload_n rfl dc_7_12_129 ?_
                refine r_aload_n rfl dc_7_12_130 ?_
                refine h_get (t := cT e 28) (v := .ref 55) fx_7_39 (hF 28 (by decide)) ⟨by omega, by omega⟩ (rfl) dc_7_12_131 ?_
                refine r_iload_n rfl dc_7_12_134 ?_
                refine h_aal (c := 24) (n := 7) (e := m) (y := 56 + m) (hF 55 (by decide)) (Or.inr rfl) ⟨by omega, by omega⟩ (by omega) (by omega) (if_pos (by omega)) dc_7_12_135 ?_
                refine r_iload rfl dc_7_12_136 ?_
                refine h_ild (n := 5) (e := o) (v := nI (q 0 m (q 3 m o))) ((hF (56 + m) (by omega)).trans (cR_55 e m (by omega))) ⟨by omega, by omega⟩ (show o < 5 by omega) (by omega) (hx8) dc_7_12_138 ?_
                refine r_aload_n rfl dc_7_12_139 ?_
                refine h_get (t := cT e 28) (v := .ref 63) fx_7_42 (hF 28 (by decide)) ⟨by omega, by omega⟩ (rfl) dc_7_12_140 ?_
                refine r_iload_n rfl dc_7_12_143 ?_
                refine h_aal (c := 24) (n := 7) (e := m) (y := 64 + m) (hF 63 (by decide)) (Or.inr rfl) ⟨by omega, by omega⟩ (by omega) (by omega) (if_pos (by omega)) dc_7_12_144 ?_
                refine r_iload rfl dc_7_12_145 ?_
                refine h_ild (n := 5) (e := o) (v := nI 1) ((hF (64 + m) (by omega)).trans (cR_63 e m (by omega))) ⟨by omega, by omega⟩ (show o < 5 by omega) (by omega) (hw8) dc_7_12_147 ?_
                refine h_call0 (t := cT e 28) (as := [.int (nI m), .int (nI (q 0 m (q 3 m o))), .int (nI 1)]) (rest := []) (M1 := hk M T (w1 cs2 (81 + m) (q 0 m (q 3 m o)) (cs2 (81 + m) (q 0 m (q 3 m o)) + nI 1))) rfl rfl iv_7_v113 (Or.inl rfl) na_1_128 (hF 28 (by decide)) ⟨by omega, by omega⟩ (show (7 : Nat) < 14 by decide) o_128 rfl (show (0 : Nat) ≤ 8 by decide) dc_7_12_148 (k_addLp M hM T e hF cs2 m (by omega) (q 0 m (q 3 m o)) hq4.1) ?_
                refine r_iinc (n := 4) (k := 1) (x := nI o) (v := nI (o + 1)) (ls' := [(4, .int (nI (o + 1))), (3, .int (mx mo (zI (wo m (q 3 m o))))), (0, .ref 28), (1, .int (nI n)), (2, .int (nI m))]) rfl (nI_1 _) (by decide) rfl dc_7_12_151 ?_
                refine r_goto (t := 97) (by decide) dc_7_12_154 ?_
                exact ih_o (mx mo (zI (wo m (q 3 m o)))) (w1 cs2 (81 + m) (q 0 m (q 3 m o)) (cs2 (81 + m) (q 0 m (q 3 m o)) + nI 1)) (ms_S hn7 h_m hi_o (ms_mx hD h_m h_o hi_o.1) (fun a ha hb => w1_n _ _ _ (by omega)) (fun x hx => by by_cases z : x = (q 0 m (q 3 m o)); (subst z; rw [cnP_t (show pLoP q m _ 1 o from ⟨h4, rfl, h2⟩), Nat.add_sub_cancel_left, w1_s]); (rw [cnP_f (fun y => z y.2.1.symm), Nat.sub_self, w1_o _ _ (Or.inr z)]; exact (Int32.add_zero _).symm)) (fun x hx => by rw [cnP_f (fun y => absurd (y.2.2.symm.trans h2) (by decide)), Nat.sub_self, w1_n _ _ _ (by omega)]; exact (Int32.add_zero _).symm))
  obtain ⟨z9, ⟨cs1, p9, e9⟩, h9⟩ := hq9
  subst e9
  exact ⟨cs1, p9, h9⟩
