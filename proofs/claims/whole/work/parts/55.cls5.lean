/-! facts, the tape -/
theorem dc_11_2_0 : decode prog_11_method_2_code 0 = .ok (.aload_n 0, 1) := by decide +kernel
theorem dc_11_2_1 : decode prog_11_method_2_code 1 = .ok (.getfield 13, 3) := by decide +kernel
theorem dc_11_2_4 : decode prog_11_method_2_code 4 = .ok (.bipush 20, 2) := by decide +kernel
theorem dc_11_2_6 : decode prog_11_method_2_code 6 = .ok (.iadd, 1) := by decide +kernel
theorem dc_11_2_7 : decode prog_11_method_2_code 7 = .ok (.bipush 80, 2) := by decide +kernel
theorem dc_11_2_9 : decode prog_11_method_2_code 9 = .ok (.if_icmp .gt 7, 3) := by decide +kernel
theorem dc_11_2_12 : decode prog_11_method_2_code 12 = .ok (.iconst 1, 1) := by decide +kernel
theorem dc_11_2_13 : decode prog_11_method_2_code 13 = .ok (.goto 4, 3) := by decide +kernel
theorem dc_11_2_16 : decode prog_11_method_2_code 16 = .ok (.iconst 0, 1) := by decide +kernel
theorem dc_11_2_17 : decode prog_11_method_2_code 17 = .ok (.ireturn, 1) := by decide +kernel
theorem dc_11_3_0 : decode prog_11_method_3_code 0 = .ok (.bipush 24, 2) := by decide +kernel
theorem dc_11_3_2 : decode prog_11_method_3_code 2 = .ok (.istore_n 2, 1) := by decide +kernel
theorem dc_11_3_3 : decode prog_11_method_3_code 3 = .ok (.iload_n 2, 1) := by decide +kernel
theorem dc_11_3_4 : decode prog_11_method_3_code 4 = .ok (.ifCond .lt 51, 3) := by decide +kernel
theorem dc_11_3_7 : decode prog_11_method_3_code 7 = .ok (.aload_n 0, 1) := by decide +kernel
theorem dc_11_3_8 : decode prog_11_method_3_code 8 = .ok (.getfield 13, 3) := by decide +kernel
theorem dc_11_3_11 : decode prog_11_method_3_code 11 = .ok (.ifCond .lt 38, 3) := by decide +kernel
theorem dc_11_3_14 : decode prog_11_method_3_code 14 = .ok (.aload_n 0, 1) := by decide +kernel
theorem dc_11_3_15 : decode prog_11_method_3_code 15 = .ok (.getfield 13, 3) := by decide +kernel
theorem dc_11_3_18 : decode prog_11_method_3_code 18 = .ok (.bipush 80, 2) := by decide +kernel
theorem dc_11_3_20 : decode prog_11_method_3_code 20 = .ok (.if_icmp .ge 29, 3) := by decide +kernel
theorem dc_11_3_23 : decode prog_11_method_3_code 23 = .ok (.aload_n 0, 1) := by decide +kernel
theorem dc_11_3_24 : decode prog_11_method_3_code 24 = .ok (.getfield 9, 3) := by decide +kernel
theorem dc_11_3_27 : decode prog_11_method_3_code 27 = .ok (.aload_n 0, 1) := by decide +kernel
theorem dc_11_3_28 : decode prog_11_method_3_code 28 = .ok (.getfield 13, 3) := by decide +kernel
theorem dc_11_3_31 : decode prog_11_method_3_code 31 = .ok (.iload_n 1, 1) := by decide +kernel
theorem dc_11_3_32 : decode prog_11_method_3_code 32 = .ok (.iload_n 2, 1) := by decide +kernel
theorem dc_11_3_33 : decode prog_11_method_3_code 33 = .ok (.iushr, 1) := by decide +kernel
theorem dc_11_3_34 : decode prog_11_method_3_code 34 = .ok (.sipush 255, 3) := by decide +kernel
theorem dc_11_3_37 : decode prog_11_method_3_code 37 = .ok (.iand, 1) := by decide +kernel
theorem dc_11_3_38 : decode prog_11_method_3_code 38 = .ok (.iastore, 1) := by decide +kernel
theorem dc_11_3_39 : decode prog_11_method_3_code 39 = .ok (.aload_n 0, 1) := by decide +kernel
theorem dc_11_3_40 : decode prog_11_method_3_code 40 = .ok (.dup, 1) := by decide +kernel
theorem dc_11_3_41 : decode prog_11_method_3_code 41 = .ok (.getfield 13, 3) := by decide +kernel
theorem dc_11_3_44 : decode prog_11_method_3_code 44 = .ok (.iconst 1, 1) := by decide +kernel
theorem dc_11_3_45 : decode prog_11_method_3_code 45 = .ok (.iadd, 1) := by decide +kernel
theorem dc_11_3_46 : decode prog_11_method_3_code 46 = .ok (.putfield 13, 3) := by decide +kernel
theorem dc_11_3_49 : decode prog_11_method_3_code 49 = .ok (.iinc 2 (-8), 3) := by decide +kernel
theorem dc_11_3_52 : decode prog_11_method_3_code 52 = .ok (.goto (-49), 3) := by decide +kernel
theorem dc_11_3_55 : decode prog_11_method_3_code 55 = .ok (.return_, 1) := by decide +kernel
theorem dc_5_2_0 : decode prog_5_method_2_code 0 = .ok (.iload 4, 2) := by decide +kernel
theorem dc_5_2_2 : decode prog_5_method_2_code 2 = .ok (.aload_n 0, 1) := by decide +kernel
theorem dc_5_2_3 : decode prog_5_method_2_code 3 = .ok (.getfield 15, 3) := by decide +kernel
theorem dc_5_2_6 : decode prog_5_method_2_code 6 = .ok (.if_icmp .lt 20, 3) := by decide +kernel
theorem dc_5_2_9 : decode prog_5_method_2_code 9 = .ok (.aload_n 0, 1) := by decide +kernel
theorem dc_5_2_10 : decode prog_5_method_2_code 10 = .ok (.getfield 9, 3) := by decide +kernel
theorem dc_5_2_13 : decode prog_5_method_2_code 13 = .ok (.ifCond .lt 13, 3) := by decide +kernel
theorem dc_5_2_16 : decode prog_5_method_2_code 16 = .ok (.aload_n 0, 1) := by decide +kernel
theorem dc_5_2_17 : decode prog_5_method_2_code 17 = .ok (.getfield 9, 3) := by decide +kernel
theorem dc_5_2_20 : decode prog_5_method_2_code 20 = .ok (.sipush 200, 3) := by decide +kernel
theorem dc_5_2_23 : decode prog_5_method_2_code 23 = .ok (.if_icmp .lt 5, 3) := by decide +kernel
theorem dc_5_2_26 : decode prog_5_method_2_code 26 = .ok (.iconst 0, 1) := by decide +kernel
theorem dc_5_2_27 : decode prog_5_method_2_code 27 = .ok (.ireturn, 1) := by decide +kernel
theorem dc_5_2_28 : decode prog_5_method_2_code 28 = .ok (.aload_n 0, 1) := by decide +kernel
theorem dc_5_2_29 : decode prog_5_method_2_code 29 = .ok (.getfield 18, 3) := by decide +kernel
theorem dc_5_2_32 : decode prog_5_method_2_code 32 = .ok (.aload_n 0, 1) := by decide +kernel
theorem dc_5_2_33 : decode prog_5_method_2_code 33 = .ok (.getfield 9, 3) := by decide +kernel
theorem dc_5_2_36 : decode prog_5_method_2_code 36 = .ok (.iload_n 1, 1) := by decide +kernel
theorem dc_5_2_37 : decode prog_5_method_2_code 37 = .ok (.iastore, 1) := by decide +kernel
theorem dc_5_2_38 : decode prog_5_method_2_code 38 = .ok (.aload_n 0, 1) := by decide +kernel
theorem dc_5_2_39 : decode prog_5_method_2_code 39 = .ok (.getfield 22, 3) := by decide +kernel
theorem dc_5_2_42 : decode prog_5_method_2_code 42 = .ok (.aload_n 0, 1) := by decide +kernel
theorem dc_5_2_43 : decode prog_5_method_2_code 43 = .ok (.getfield 9, 3) := by decide +kernel
theorem dc_5_2_46 : decode prog_5_method_2_code 46 = .ok (.iload_n 2, 1) := by decide +kernel
theorem dc_5_2_47 : decode prog_5_method_2_code 47 = .ok (.iastore, 1) := by decide +kernel
theorem dc_5_2_48 : decode prog_5_method_2_code 48 = .ok (.aload_n 0, 1) := by decide +kernel
theorem dc_5_2_49 : decode prog_5_method_2_code 49 = .ok (.getfield 25, 3) := by decide +kernel
theorem dc_5_2_52 : decode prog_5_method_2_code 52 = .ok (.aload_n 0, 1) := by decide +kernel
theorem dc_5_2_53 : decode prog_5_method_2_code 53 = .ok (.getfield 9, 3) := by decide +kernel
theorem dc_5_2_56 : decode prog_5_method_2_code 56 = .ok (.iload_n 3, 1) := by decide +kernel
theorem dc_5_2_57 : decode prog_5_method_2_code 57 = .ok (.iastore, 1) := by decide +kernel
theorem dc_5_2_58 : decode prog_5_method_2_code 58 = .ok (.aload_n 0, 1) := by decide +kernel
theorem dc_5_2_59 : decode prog_5_method_2_code 59 = .ok (.getfield 28, 3) := by decide +kernel
theorem dc_5_2_62 : decode prog_5_method_2_code 62 = .ok (.aload_n 0, 1) := by decide +kernel
theorem dc_5_2_63 : decode prog_5_method_2_code 63 = .ok (.getfield 9, 3) := by decide +kernel
theorem dc_5_2_66 : decode prog_5_method_2_code 66 = .ok (.iload 4, 2) := by decide +kernel
theorem dc_5_2_68 : decode prog_5_method_2_code 68 = .ok (.iastore, 1) := by decide +kernel
theorem dc_5_2_69 : decode prog_5_method_2_code 69 = .ok (.aload_n 0, 1) := by decide +kernel
theorem dc_5_2_70 : decode prog_5_method_2_code 70 = .ok (.dup, 1) := by decide +kernel
theorem dc_5_2_71 : decode prog_5_method_2_code 71 = .ok (.getfield 9, 3) := by decide +kernel
theorem dc_5_2_74 : decode prog_5_method_2_code 74 = .ok (.iconst 1, 1) := by decide +kernel
theorem dc_5_2_75 : decode prog_5_method_2_code 75 = .ok (.iadd, 1) := by decide +kernel
theorem dc_5_2_76 : decode prog_5_method_2_code 76 = .ok (.putfield 9, 3) := by decide +kernel
theorem dc_5_2_79 : decode prog_5_method_2_code 79 = .ok (.aload_n 0, 1) := by decide +kernel
theorem dc_5_2_80 : decode prog_5_method_2_code 80 = .ok (.iload 4, 2) := by decide +kernel
theorem dc_5_2_82 : decode prog_5_method_2_code 82 = .ok (.putfield 15, 3) := by decide +kernel
theorem dc_5_2_85 : decode prog_5_method_2_code 85 = .ok (.iconst 1, 1) := by decide +kernel
theorem dc_5_2_86 : decode prog_5_method_2_code 86 = .ok (.ireturn, 1) := by decide +kernel
theorem dc_5_3_0 : decode prog_5_method_3_code 0 = .ok (.aload_n 0, 1) := by decide +kernel
theorem dc_5_3_1 : decode prog_5_method_3_code 1 = .ok (.getfield 9, 3) := by decide +kernel
theorem dc_5_3_4 : decode prog_5_method_3_code 4 = .ok (.sipush 200, 3) := by decide +kernel
theorem dc_5_3_7 : decode prog_5_method_3_code 7 = .ok (.invokestatic 31, 3) := by decide +kernel
theorem dc_5_3_10 : decode prog_5_method_3_code 10 = .ok (.iconst 1, 1) := by decide +kernel
theorem dc_5_3_11 : decode prog_5_method_3_code 11 = .ok (.isub, 1) := by decide +kernel
theorem dc_5_3_12 : decode prog_5_method_3_code 12 = .ok (.istore 4, 2) := by decide +kernel
theorem dc_5_3_14 : decode prog_5_method_3_code 14 = .ok (.iload 4, 2) := by decide +kernel
theorem dc_5_3_16 : decode prog_5_method_3_code 16 = .ok (.ifCond .lt 50, 3) := by decide +kernel
theorem dc_5_3_19 : decode prog_5_method_3_code 19 = .ok (.aload_n 0, 1) := by decide +kernel
theorem dc_5_3_20 : decode prog_5_method_3_code 20 = .ok (.getfield 18, 3) := by decide +kernel
theorem dc_5_3_23 : decode prog_5_method_3_code 23 = .ok (.iload 4, 2) := by decide +kernel
theorem dc_5_3_25 : decode prog_5_method_3_code 25 = .ok (.iaload, 1) := by decide +kernel
theorem dc_5_3_26 : decode prog_5_method_3_code 26 = .ok (.iload_n 1, 1) := by decide +kernel
theorem dc_5_3_27 : decode prog_5_method_3_code 27 = .ok (.if_icmp .ne 33, 3) := by decide +kernel
theorem dc_5_3_30 : decode prog_5_method_3_code 30 = .ok (.aload_n 0, 1) := by decide +kernel
theorem dc_5_3_31 : decode prog_5_method_3_code 31 = .ok (.getfield 22, 3) := by decide +kernel
theorem dc_5_3_34 : decode prog_5_method_3_code 34 = .ok (.iload 4, 2) := by decide +kernel
theorem dc_5_3_36 : decode prog_5_method_3_code 36 = .ok (.iaload, 1) := by decide +kernel
theorem dc_5_3_37 : decode prog_5_method_3_code 37 = .ok (.iload_n 2, 1) := by decide +kernel
theorem dc_5_3_38 : decode prog_5_method_3_code 38 = .ok (.if_icmp .ne 22, 3) := by decide +kernel
theorem dc_5_3_41 : decode prog_5_method_3_code 41 = .ok (.aload_n 0, 1) := by decide +kernel
theorem dc_5_3_42 : decode prog_5_method_3_code 42 = .ok (.getfield 28, 3) := by decide +kernel
theorem dc_5_3_45 : decode prog_5_method_3_code 45 = .ok (.iload 4, 2) := by decide +kernel
theorem dc_5_3_47 : decode prog_5_method_3_code 47 = .ok (.iaload, 1) := by decide +kernel
theorem dc_5_3_48 : decode prog_5_method_3_code 48 = .ok (.iload_n 3, 1) := by decide +kernel
theorem dc_5_3_49 : decode prog_5_method_3_code 49 = .ok (.if_icmp .gt 11, 3) := by decide +kernel
theorem dc_5_3_52 : decode prog_5_method_3_code 52 = .ok (.aload_n 0, 1) := by decide +kernel
theorem dc_5_3_53 : decode prog_5_method_3_code 53 = .ok (.getfield 25, 3) := by decide +kernel
theorem dc_5_3_56 : decode prog_5_method_3_code 56 = .ok (.iload 4, 2) := by decide +kernel
theorem dc_5_3_58 : decode prog_5_method_3_code 58 = .ok (.iaload, 1) := by decide +kernel
theorem dc_5_3_59 : decode prog_5_method_3_code 59 = .ok (.ireturn, 1) := by decide +kernel
theorem dc_5_3_60 : decode prog_5_method_3_code 60 = .ok (.iinc 4 (-1), 3) := by decide +kernel
theorem dc_5_3_63 : decode prog_5_method_3_code 63 = .ok (.goto (-49), 3) := by decide +kernel
theorem dc_5_3_66 : decode prog_5_method_3_code 66 = .ok (.iconst (-1), 1) := by decide +kernel
theorem dc_5_3_67 : decode prog_5_method_3_code 67 = .ok (.ireturn, 1) := by decide +kernel
theorem dc_5_4_0 : decode prog_5_method_4_code 0 = .ok (.iconst 0, 1) := by decide +kernel
theorem dc_5_4_1 : decode prog_5_method_4_code 1 = .ok (.istore_n 2, 1) := by decide +kernel
theorem dc_5_4_2 : decode prog_5_method_4_code 2 = .ok (.iload_n 2, 1) := by decide +kernel
theorem dc_5_4_3 : decode prog_5_method_4_code 3 = .ok (.aload_n 0, 1) := by decide +kernel
theorem dc_5_4_4 : decode prog_5_method_4_code 4 = .ok (.getfield 9, 3) := by decide +kernel
theorem dc_5_4_7 : decode prog_5_method_4_code 7 = .ok (.if_icmp .ge 33, 3) := by decide +kernel
theorem dc_5_4_10 : decode prog_5_method_4_code 10 = .ok (.iload_n 2, 1) := by decide +kernel
theorem dc_5_4_11 : decode prog_5_method_4_code 11 = .ok (.sipush 200, 3) := by decide +kernel
theorem dc_5_4_14 : decode prog_5_method_4_code 14 = .ok (.if_icmp .ge 26, 3) := by decide +kernel
theorem dc_5_4_17 : decode prog_5_method_4_code 17 = .ok (.aload_n 0, 1) := by decide +kernel
theorem dc_5_4_18 : decode prog_5_method_4_code 18 = .ok (.getfield 18, 3) := by decide +kernel
theorem dc_5_4_21 : decode prog_5_method_4_code 21 = .ok (.iload_n 2, 1) := by decide +kernel
theorem dc_5_4_22 : decode prog_5_method_4_code 22 = .ok (.iaload, 1) := by decide +kernel
theorem dc_5_4_23 : decode prog_5_method_4_code 23 = .ok (.iload_n 1, 1) := by decide +kernel
theorem dc_5_4_24 : decode prog_5_method_4_code 24 = .ok (.if_icmp .ne 10, 3) := by decide +kernel
theorem dc_5_4_27 : decode prog_5_method_4_code 27 = .ok (.aload_n 0, 1) := by decide +kernel
theorem dc_5_4_28 : decode prog_5_method_4_code 28 = .ok (.getfield 18, 3) := by decide +kernel
theorem dc_5_4_31 : decode prog_5_method_4_code 31 = .ok (.iload_n 2, 1) := by decide +kernel
theorem dc_5_4_32 : decode prog_5_method_4_code 32 = .ok (.iconst (-1), 1) := by decide +kernel
theorem dc_5_4_33 : decode prog_5_method_4_code 33 = .ok (.iastore, 1) := by decide +kernel
theorem dc_5_4_34 : decode prog_5_method_4_code 34 = .ok (.iinc 2 1, 3) := by decide +kernel
theorem dc_5_4_37 : decode prog_5_method_4_code 37 = .ok (.goto (-35), 3) := by decide +kernel
theorem dc_5_4_40 : decode prog_5_method_4_code 40 = .ok (.return_, 1) := by decide +kernel
theorem dc_5_5_0 : decode prog_5_method_5_code 0 = .ok (.aload_n 0, 1) := by decide +kernel
theorem dc_5_5_1 : decode prog_5_method_5_code 1 = .ok (.iconst 0, 1) := by decide +kernel
theorem dc_5_5_2 : decode prog_5_method_5_code 2 = .ok (.putfield 9, 3) := by decide +kernel
theorem dc_5_5_5 : decode prog_5_method_5_code 5 = .ok (.aload_n 0, 1) := by decide +kernel
theorem dc_5_5_6 : decode prog_5_method_5_code 6 = .ok (.iconst 0, 1) := by decide +kernel
theorem dc_5_5_7 : decode prog_5_method_5_code 7 = .ok (.putfield 15, 3) := by decide +kernel
theorem dc_5_5_10 : decode prog_5_method_5_code 10 = .ok (.return_, 1) := by decide +kernel
theorem iv_5_s31 : mm_iv 5 (.invokestatic 31) = some (0, 37) := by decide +kernel
set_option maxHeartbeats 4000000 in
theorem k_tell_ok (M : mH) (hM : 157 ≤ M.1) (T : Nat → mT) (e : Nat → Nat) (hF : ShF T e) (cs : Nat → Nat → Int32) (sg : Nat → Nat → Int32) (nf : Nat) (hnf : cs 20 0 = nI nf) (hn2 : nf ≤ 200) (hfa : ∀ i, i < 200 → cs 21 i = sg 78 i ∧ cs 22 i = sg 79 i ∧ cs 23 i = sg 80 i ∧ cs 24 i = sg 81 i) (s k d t : Int32) (ht : cs 20 1 ≤ t) (h200 : nf < 200) : mm_Ev 1 157 [.ref 20, .int s, .int k, .int d, .int t] (hk M T cs) ((some (.int (nI 1)), hk M T (w1 (w1 (w1 (w1 (w1 (w1 cs 21 nf s) 22 nf k) 23 nf d) 24 nf t) 20 0 (nI (nf + 1))) 20 1 t))) := by
  refine r_ev (by decide +kernel) (show (5 : Nat) ≤ mm_nL 157 by decide +kernel) ?_
  show mm_Ru 0 (5, 5, false, prog_5_method_2_code, some .boolean) 0 [(0, .ref 20), (1, .int s), (2, .int k), (3, .int d), (4, .int t)] [] (hk M T cs) (fun r9 => r9 = ((some (.int (nI 1)), hk M T (w1 (w1 (w1 (w1 (w1 (w1 cs 21 nf s) 22 nf k) 23 nf d) 24 nf t) 20 0 (nI (nf + 1))) 20 1 t))))
  refine r_iload rfl dc_5_2_0 ?_
  refine r_aload_n rfl dc_5_2_2 ?_
  refine h_get (t := cT e 20) (v := .int (cs 20 1)) fx_5_15 (hF 20 (by decide)) ⟨by omega, by omega⟩ (rfl) dc_5_2_3 ?_
  refine r_iclt (t := 26) (by decide) dc_5_2_6 (fun c_6 => ?_) (fun c_6 => ?_)
  · exact absurd c_6 (Int32.not_lt.mpr ht)
  · skip
    refine r_aload_n rfl dc_5_2_9 ?_
    refine h_get (t := cT e 20) (v := .int (nI nf)) fx_5_9 (hF 20 (by decide)) ⟨by omega, by omega⟩ (show some (Value.int _) = _ from congrArg (fun z => some (Value.int z)) (hnf)) dc_5_2_10 ?_
    refine r_nzlt (t := 26) (by omega) (by decide) dc_5_2_13 ?_
    refine r_aload_n rfl dc_5_2_16 ?_
    refine h_get (t := cT e 20) (v := .int (nI nf)) fx_5_9 (hF 20 (by decide)) ⟨by omega, by omega⟩ (show some (Value.int _) = _ from congrArg (fun z => some (Value.int z)) (hnf)) dc_5_2_17 ?_
    refine r_sipush (v := nI 200) (by decide) dc_5_2_20 ?_
    refine r_nclt (t := 28) (by omega) (by omega) (by decide) dc_5_2_23 (fun c_23 => ?_) (fun c_23 => ?_)
    · skip
      refine r_aload_n rfl dc_5_2_28 ?_
      refine h_get (t := cT e 20) (v := .ref 21) fx_5_18 (hF 20 (by decide)) ⟨by omega, by omega⟩ (rfl) dc_5_2_29 ?_
      refine r_aload_n rfl dc_5_2_32 ?_
      refine h_get (t := cT e 20) (v := .int (nI nf)) fx_5_9 (hF 20 (by decide)) ⟨by omega, by omega⟩ (show some (Value.int _) = _ from congrArg (fun z => some (Value.int z)) (hnf)) dc_5_2_33 ?_
      refine r_iload_n rfl dc_5_2_36 ?_
      refine h_ist (n := 200) (e := nf) (hF 21 (by decide)) ⟨by omega, by omega⟩ (show nf < 200 by omega) (by omega) dc_5_2_37 ?_
      refine r_aload_n rfl dc_5_2_38 ?_
      refine h_get (t := cT e 20) (v := .ref 22) fx_5_22 (hF 20 (by decide)) ⟨by omega, by omega⟩ (rfl) dc_5_2_39 ?_
      refine r_aload_n rfl dc_5_2_42 ?_
      refine h_get (t := cT e 20) (v := .int (nI nf)) fx_5_9 (hF 20 (by decide)) ⟨by omega, by omega⟩ (show some (Value.int _) = _ from congrArg (fun z => some (Value.int z)) (hnf)) dc_5_2_43 ?_
      refine r_iload_n rfl dc_5_2_46 ?_
      refine h_ist (n := 200) (e := nf) (hF 22 (by decide)) ⟨by omega, by omega⟩ (show nf < 200 by omega) (by omega) dc_5_2_47 ?_
      refine r_aload_n rfl dc_5_2_48 ?_
      refine h_get (t := cT e 20) (v := .ref 23) fx_5_25 (hF 20 (by decide)) ⟨by omega, by omega⟩ (rfl) dc_5_2_49 ?_
      refine r_aload_n rfl dc_5_2_52 ?_
      refine h_get (t := cT e 20) (v := .int (nI nf)) fx_5_9 (hF 20 (by decide)) ⟨by omega, by omega⟩ (show some (Value.int _) = _ from congrArg (fun z => some (Value.int z)) (hnf)) dc_5_2_53 ?_
      refine r_iload_n rfl dc_5_2_56 ?_
      refine h_ist (n := 200) (e := nf) (hF 23 (by decide)) ⟨by omega, by omega⟩ (show nf < 200 by omega) (by omega) dc_5_2_57 ?_
      refine r_aload_n rfl dc_5_2_58 ?_
      refine h_get (t := cT e 20) (v := .ref 24) fx_5_28 (hF 20 (by decide)) ⟨by omega, by omega⟩ (rfl) dc_5_2_59 ?_
      refine r_aload_n rfl dc_5_2_62 ?_
      refine h_get (t := cT e 20) (v := .int (nI nf)) fx_5_9 (hF 20 (by decide)) ⟨by omega, by omega⟩ (show some (Value.int _) = _ from congrArg (fun z => some (Value.int z)) (hnf)) dc_5_2_63 ?_
      refine r_iload rfl dc_5_2_66 ?_
      refine h_ist (n := 200) (e := nf) (hF 24 (by decide)) ⟨by omega, by omega⟩ (show nf < 200 by omega) (by omega) dc_5_2_68 ?_
      refine r_aload_n rfl dc_5_2_69 ?_
      refine r_dup rfl dc_5_2_70 ?_
      refine h_get (t := cT e 20) (v := .int (nI nf)) fx_5_9 (hF 20 (by decide)) ⟨by omega, by omega⟩ (show some (Value.int _) = _ from congrArg (fun z => some (Value.int z)) (hnf)) dc_5_2_71 ?_
      refine r_iconst (v := nI 1) (by decide) dc_5_2_74 ?_
      refine r_iadd (v := nI (nf + 1)) (nI_add _ _) dc_5_2_75 ?_
      refine h_pint (t := cT e 20) fx_5_9 (hF 20 (by decide)) ⟨by omega, by omega⟩ (Or.inl fn_5_0) ty_5_0 (pi_5_0 _ _ _ _) dc_5_2_76 ?_
      refine r_aload_n rfl dc_5_2_79 ?_
      refine r_iload rfl dc_5_2_80 ?_
      refine h_pint (t := cT e 20) fx_5_15 (hF 20 (by decide)) ⟨by omega, by omega⟩ (Or.inl fn_5_1) ty_5_1 (pi_5_1 _ _ _ _) dc_5_2_82 ?_
      refine r_iconst (v := nI 1) (by decide) dc_5_2_85 ?_
      exact r_zret rfl (by decide) dc_5_2_86 (rfl)
    · omega
set_option maxHeartbeats 4000000 in
theorem k_tell_no (M : mH) (hM : 157 ≤ M.1) (T : Nat → mT) (e : Nat → Nat) (hF : ShF T e) (cs : Nat → Nat → Int32) (sg : Nat → Nat → Int32) (nf : Nat) (hnf : cs 20 0 = nI nf) (hn2 : nf ≤ 200) (hfa : ∀ i, i < 200 → cs 21 i = sg 78 i ∧ cs 22 i = sg 79 i ∧ cs 23 i = sg 80 i ∧ cs 24 i = sg 81 i) (s k d t : Int32) (hno : ¬ (cs 20 1 ≤ t ∧ nf < 200)) : mm_Ev 1 157 [.ref 20, .int s, .int k, .int d, .int t] (hk M T cs) ((some (.int (nI 0)), hk M T cs)) := by
  refine r_ev (by decide +kernel) (show (5 : Nat) ≤ mm_nL 157 by decide +kernel) ?_
  show mm_Ru 0 (5, 5, false, prog_5_method_2_code, some .boolean) 0 [(0, .ref 20), (1, .int s), (2, .int k), (3, .int d), (4, .int t)] [] (hk M T cs) (fun r9 => r9 = ((some (.int (nI 0)), hk M T cs)))
  refine r_iload rfl dc_5_2_0 ?_
  refine r_aload_n rfl dc_5_2_2 ?_
  refine h_get (t := cT e 20) (v := .int (cs 20 1)) fx_5_15 (hF 20 (by decide)) ⟨by omega, by omega⟩ (rfl) dc_5_2_3 ?_
  refine r_iclt (t := 26) (by decide) dc_5_2_6 (fun c_6 => ?_) (fun c_6 => ?_)
  · skip
    refine r_iconst (v := nI 0) (by decide) dc_5_2_26 ?_
    exact r_zret rfl (by decide) dc_5_2_27 (rfl)
  · skip
    refine r_aload_n rfl dc_5_2_9 ?_
    refine h_get (t := cT e 20) (v := .int (nI nf)) fx_5_9 (hF 20 (by decide)) ⟨by omega, by omega⟩ (show some (Value.int _) = _ from congrArg (fun z => some (Value.int z)) (hnf)) dc_5_2_10 ?_
    refine r_nzlt (t := 26) (by omega) (by decide) dc_5_2_13 ?_
    refine r_aload_n rfl dc_5_2_16 ?_
    refine h_get (t := cT e 20) (v := .int (nI nf)) fx_5_9 (hF 20 (by decide)) ⟨by omega, by omega⟩ (show some (Value.int _) = _ from congrArg (fun z => some (Value.int z)) (hnf)) dc_5_2_17 ?_
    refine r_sipush (v := nI 200) (by decide) dc_5_2_20 ?_
    refine r_nclt (t := 28) (by omega) (by omega) (by decide) dc_5_2_23 (fun c_23 => ?_) (fun c_23 => ?_)
    · skip
      exact absurd ⟨Int32.not_lt.mp c_6, (by omega : nf < 200)⟩ hno
    · skip
      refine r_iconst (v := nI 0) (by decide) dc_5_2_26 ?_
      exact r_zret rfl (by decide) dc_5_2_27 (rfl)
set_option maxHeartbeats 4000000 in
theorem k_dayOf (M : mH) (hM : 157 ≤ M.1) (T : Nat → mT) (e : Nat → Nat) (hF : ShF T e) (cs : Nat → Nat → Int32) (sg : Nat → Nat → Int32) (nf : Nat) (hnf : cs 20 0 = nI nf) (hn2 : nf ≤ 200) (hfa : ∀ i, i < 200 → cs 21 i = sg 78 i ∧ cs 22 i = sg 79 i ∧ cs 23 i = sg 80 i ∧ cs 24 i = sg 81 i) (s k t : Int32) : mm_Ev 2 159 [.ref 20, .int s, .int k, .int t] (hk M T cs) ((some (.int (sp_kn sg s k t nf)), hk M T cs)) := by
  refine r_ev (by decide +kernel) (show (4 : Nat) ≤ mm_nL 159 by decide +kernel) ?_
  show mm_Ru 1 (5, 5, false, prog_5_method_3_code, some .int) 0 [(0, .ref 20), (1, .int s), (2, .int k), (3, .int t)] [] (hk M T cs) (fun r9 => r9 = ((some (.int (sp_kn sg s k t nf)), hk M T cs)))
  refine r_aload_n rfl dc_5_3_0 ?_
  refine h_get (t := cT e 20) (v := .int (nI nf)) fx_5_9 (hF 20 (by decide)) ⟨by omega, by omega⟩ (show some (Value.int _) = _ from congrArg (fun z => some (Value.int z)) (hnf)) dc_5_3_1 ?_
  refine r_sipush (v := nI 200) (by decide) dc_5_3_4 ?_
  refine h_callS (as := [.int (nI nf), .int (nI 200)]) (rest := []) (v := .int (nI nf)) rfl rfl iv_5_s31 (Or.inl rfl) na_0_37 rfl (show (0 : Nat) ≤ 8 by decide) dc_5_3_7 ((show mn (nI nf) (nI 200) = nI nf by rw [mn_n (by omega) (by omega), Nat.min_eq_left hn2]) ▸ k_min _ (nI nf) (nI 200)) ?_
  refine r_iconst (v := nI 1) (by decide) dc_5_3_10 ?_
  refine r_isub (v := dI nf) (Int32.sub_eq_add_neg _ _) dc_5_3_11 ?_
  refine r_istore (ls' := [(4, .int (dI nf)), (0, .ref 20), (1, .int s), (2, .int k), (3, .int t)]) (by decide) rfl dc_5_3_12 ?_
  suffices hdn : ∀ m, m ≤ nf → ((sp_kn sg s k t nf = sp_kn sg s k t m) → mm_Ru 1 (5, 5, false, prog_5_method_3_code, some .int) 14 [(4, .int (dI m)), (0, .ref 20), (1, .int s), (2, .int k), (3, .int t)] [] (hk M T cs) (fun r9 => r9 = ((some (.int (sp_kn sg s k t nf)), hk M T cs)))) from hdn nf (by omega) (rfl)
  intro m
  induction m with
  | zero =>
    intro h_m  hi_m
    show mm_Ru 1 (5, 5, false, prog_5_method_3_code, some .int) 14 [(4, .int (dI 0)), (0, .ref 20), (1, .int s), (2, .int k), (3, .int t)] [] (hk M T cs) (fun r9 => r9 = ((some (.int (sp_kn sg s k t nf)), hk M T cs)))
    refine r_iload rfl dc_5_3_14 ?_
    refine r_iflt (t := 66) (by decide) dc_5_3_16 (fun c_16 => ?_) (fun c_16 => ?_)
    · skip
      refine r_iconst (v := -1) (by decide) dc_5_3_66 ?_
      refine r_iret rfl dc_5_3_67 ?_
      rw [hi_m]
      rfl
    · exact absurd (by decide) c_16
  | succ m ih_m =>
    intro h_m  hi_m
    rw [dI_S]
    show mm_Ru 1 (5, 5, false, prog_5_method_3_code, some .int) 14 [(4, .int (nI m)), (0, .ref 20), (1, .int s), (2, .int k), (3, .int t)] [] (hk M T cs) (fun r9 => r9 = ((some (.int (sp_kn sg s k t nf)), hk M T cs)))
    refine r_iload rfl dc_5_3_14 ?_
    refine r_nzlt (t := 66) (by omega) (by decide) dc_5_3_16 ?_
    refine r_aload_n rfl dc_5_3_19 ?_
    refine h_get (t := cT e 20) (v := .ref 21) fx_5_18 (hF 20 (by decide)) ⟨by omega, by omega⟩ (rfl) dc_5_3_20 ?_
    refine r_iload rfl dc_5_3_23 ?_
    refine h_ild (n := 200) (e := m) (v := sg 78 m) (hF 21 (by decide)) ⟨by omega, by omega⟩ (show m < 200 by omega) (by omega) ((hfa m (by omega)).1) dc_5_3_25 ?_
    refine r_iload_n rfl dc_5_3_26 ?_
    refine r_icne (t := 60) (by decide) dc_5_3_27 (fun c_27 => ?_) (fun c_27 => ?_)
    · skip
      refine r_iinc (x := nI m) (v := nI m + (-1)) (ls' := [(4, .int (nI m + (-1))), (0, .ref 20), (1, .int s), (2, .int k), (3, .int t)]) rfl (congrArg (fun z9 => (nI m) + z9) (by decide : Int32.ofInt (-1) = -1)) (by decide) rfl dc_5_3_60 ?_
      refine r_goto (t := 14) (by decide) dc_5_3_63 ?_
      exact ih_m (by omega) (hi_m.trans (if_neg (fun z => c_27 z.1)))
    · skip
      refine r_aload_n rfl dc_5_3_30 ?_
      refine h_get (t := cT e 20) (v := .ref 22) fx_5_22 (hF 20 (by decide)) ⟨by omega, by omega⟩ (rfl) dc_5_3_31 ?_
      refine r_iload rfl dc_5_3_34 ?_
      refine h_ild (n := 200) (e := m) (v := sg 79 m) (hF 22 (by decide)) ⟨by omega, by omega⟩ (show m < 200 by omega) (by omega) ((hfa m (by omega)).2.1) dc_5_3_36 ?_
      refine r_iload_n rfl dc_5_3_37 ?_
      refine r_icne (t := 60) (by decide) dc_5_3_38 (fun c_38 => ?_) (fun c_38 => ?_)
      · skip
        refine r_iinc (x := nI m) (v := nI m + (-1)) (ls' := [(4, .int (nI m + (-1))), (0, .ref 20), (1, .int s), (2, .int k), (3, .int t)]) rfl (congrArg (fun z9 => (nI m) + z9) (by decide : Int32.ofInt (-1) = -1)) (by decide) rfl dc_5_3_60 ?_
        refine r_goto (t := 14) (by decide) dc_5_3_63 ?_
        exact ih_m (by omega) (hi_m.trans (if_neg (fun z => c_38 z.2.1)))
      · skip
        refine r_aload_n rfl dc_5_3_41 ?_
        refine h_get (t := cT e 20) (v := .ref 24) fx_5_28 (hF 20 (by decide)) ⟨by omega, by omega⟩ (rfl) dc_5_3_42 ?_
        refine r_iload rfl dc_5_3_45 ?_
        refine h_ild (n := 200) (e := m) (v := sg 81 m) (hF 24 (by decide)) ⟨by omega, by omega⟩ (show m < 200 by omega) (by omega) ((hfa m (by omega)).2.2.2) dc_5_3_47 ?_
        refine r_iload_n rfl dc_5_3_48 ?_
        refine r_icgt (t := 60) (by decide) dc_5_3_49 (fun c_49 => ?_) (fun c_49 => ?_)
        · skip
          refine r_iinc (x := nI m) (v := nI m + (-1)) (ls' := [(4, .int (nI m + (-1))), (0, .ref 20), (1, .int s), (2, .int k), (3, .int t)]) rfl (congrArg (fun z9 => (nI m) + z9) (by decide : Int32.ofInt (-1) = -1)) (by decide) rfl dc_5_3_60 ?_
          refine r_goto (t := 14) (by decide) dc_5_3_63 ?_
          exact ih_m (by omega) (hi_m.trans (if_neg (fun z => absurd c_49 (Int32.not_lt.mpr z.2.2))))
        · skip
          refine r_aload_n rfl dc_5_3_52 ?_
          refine h_get (t := cT e 20) (v := .ref 23) fx_5_25 (hF 20 (by decide)) ⟨by omega, by omega⟩ (rfl) dc_5_3_53 ?_
          refine r_iload rfl dc_5_3_56 ?_
          refine h_ild (n := 200) (e := m) (v := sg 80 m) (hF 23 (by decide)) ⟨by omega, by omega⟩ (show m < 200 by omega) (by omega) ((hfa m (by omega)).2.2.1) dc_5_3_58 ?_
          refine r_iret rfl dc_5_3_59 ?_
          rw [hi_m.trans (if_pos ⟨c_27, c_38, Int32.not_lt.mp c_49⟩)]
set_option maxHeartbeats 4000000 in
theorem k_forget_ (M : mH) (hM : 157 ≤ M.1) (T : Nat → mT) (e : Nat → Nat) (hF : ShF T e) (cs : Nat → Nat → Int32) (sg : Nat → Nat → Int32) (nf : Nat) (hnf : cs 20 0 = nI nf) (hn2 : nf ≤ 200) (hfa : ∀ i, i < 200 → cs 21 i = sg 78 i ∧ cs 22 i = sg 79 i ∧ cs 23 i = sg 80 i ∧ cs 24 i = sg 81 i) (s : Int32) : mm_Ev 1 139 [.ref 20, .int s] (hk M T (wA cs 21 (sp_fo (cs 21) s 0))) ((none, hk M T (wA cs 21 (sp_fo (cs 21) s nf)))) := by
  refine r_ev (by decide +kernel) (show (2 : Nat) ≤ mm_nL 139 by decide +kernel) ?_
  show mm_Ru 0 (5, 3, false, prog_5_method_4_code, none) 0 [(0, .ref 20), (1, .int s)] [] (hk M T (wA cs 21 (sp_fo (cs 21) s 0))) (fun r9 => r9 = ((none, hk M T (wA cs 21 (sp_fo (cs 21) s nf)))))
  refine r_iconst (v := nI 0) (by decide) dc_5_4_0 ?_
  refine r_istore_n (ls' := [(2, .int (nI 0)), (0, .ref 20), (1, .int s)]) (by decide) rfl dc_5_4_1 ?_
  refine mm_cnt (P := fun m => mm_Ru 0 (5, 3, false, prog_5_method_4_code, none) 2 [(2, .int (nI m)), (0, .ref 20), (1, .int s)] [] (hk M T (wA cs 21 (sp_fo (cs 21) s m))) (fun r9 => r9 = ((none, hk M T (wA cs 21 (sp_fo (cs 21) s nf)))))) nf ?_ ?_ 0 (by omega)
  · show mm_Ru 0 (5, 3, false, prog_5_method_4_code, none) 2 [(2, .int (nI nf)), (0, .ref 20), (1, .int s)] [] (hk M T (wA cs 21 (sp_fo (cs 21) s nf))) (fun r9 => r9 = ((none, hk M T (wA cs 21 (sp_fo (cs 21) s nf)))))
    refine r_iload_n rfl dc_5_4_2 ?_
    refine r_aload_n rfl dc_5_4_3 ?_
    refine h_get (t := cT e 20) (v := .int (nI nf)) fx_5_9 (hF 20 (by decide)) ⟨by omega, by omega⟩ (show some (Value.int _) = _ from congrArg (fun z => some (Value.int z)) ((congrFun (wA_o _ _ (by decide)) 0).trans hnf)) dc_5_4_4 ?_
    refine r_ncge (t := 40) (by omega) (by omega) (by decide) dc_5_4_7 (fun c_7 => ?_) (fun c_7 => ?_)
    · skip
      exact r_vret rfl dc_5_4_40 (rfl)
    · omega
  · intro m h_m ih_m 
    show mm_Ru 0 (5, 3, false, prog_5_method_4_code, none) 2 [(2, .int (nI m)), (0, .ref 20), (1, .int s)] [] (hk M T (wA cs 21 (sp_fo (cs 21) s m))) (fun r9 => r9 = ((none, hk M T (wA cs 21 (sp_fo (cs 21) s nf)))))
    refine r_iload_n rfl dc_5_4_2 ?_
    refine r_aload_n rfl dc_5_4_3 ?_
    refine h_get (t := cT e 20) (v := .int (nI nf)) fx_5_9 (hF 20 (by decide)) ⟨by omega, by omega⟩ (show some (Value.int _) = _ from congrArg (fun z => some (Value.int z)) ((congrFun (wA_o _ _ (by decide)) 0).trans hnf)) dc_5_4_4 ?_
    refine r_ncge (t := 40) (by omega) (by omega) (by decide) dc_5_4_7 (fun c_7 => ?_) (fun c_7 => ?_)
    · omega
    · skip
      refine r_iload_n rfl dc_5_4_10 ?_
      refine r_sipush (v := nI 200) (by decide) dc_5_4_11 ?_
      refine r_ncge (t := 40) (by omega) (by omega) (by decide) dc_5_4_14 (fun c_14 => ?_) (fun c_14 => ?_)
      · omega
      · skip
        refine r_aload_n rfl dc_5_4_17 ?_
        refine h_get (t := cT e 20) (v := .ref 21) fx_5_18 (hF 20 (by decide)) ⟨by omega, by omega⟩ (rfl) dc_5_4_18 ?_
        refine r_iload_n rfl dc_5_4_21 ?_
        refine h_ild (n := 200) (e := m) (v := (wA cs 21 (sp_fo (cs 21) s m)) 21 m) (hF 21 (by decide)) ⟨by omega, by omega⟩ (show m < 200 by omega) (by omega) (rfl) dc_5_4_22 ?_
        refine r_iload_n rfl dc_5_4_23 ?_
        refine r_icne (t := 34) (by decide) dc_5_4_24 (fun c_24 => ?_) (fun c_24 => ?_)
        · skip
          refine r_iinc (x := nI m) (v := nI (m + 1)) (ls' := [(2, .int (nI (m + 1))), (0, .ref 20), (1, .int s)]) rfl (nI_1 _) (by decide) rfl dc_5_4_34 ?_
          refine r_goto (t := 2) (by decide) dc_5_4_37 ?_
          have e24 : ¬ cs 21 m = s := fun q => c_24 ((sp_fo_hi (cs 21) s m m (Nat.le_refl _)).trans q)
          rw [sp_fo_S, if_neg e24] at ih_m
          exact ih_m
        · skip
          refine r_aload_n rfl dc_5_4_27 ?_
          refine h_get (t := cT e 20) (v := .ref 21) fx_5_18 (hF 20 (by decide)) ⟨by omega, by omega⟩ (rfl) dc_5_4_28 ?_
          refine r_iload_n rfl dc_5_4_31 ?_
          refine r_iconst (v := -1) (by decide) dc_5_4_32 ?_
          refine h_ist (n := 200) (e := m) (hF 21 (by decide)) ⟨by omega, by omega⟩ (show m < 200 by omega) (by omega) dc_5_4_33 ?_
          refine r_iinc (x := nI m) (v := nI (m + 1)) (ls' := [(2, .int (nI (m + 1))), (0, .ref 20), (1, .int s)]) rfl (nI_1 _) (by decide) rfl dc_5_4_34 ?_
          refine r_goto (t := 2) (by decide) dc_5_4_37 ?_
          have e24 : cs 21 m = s := (sp_fo_hi (cs 21) s m m (Nat.le_refl _)).symm.trans c_24
          rw [sp_fo_S, if_pos e24] at ih_m
          rw [w1_wA]
          exact ih_m
theorem k_forget (M : mH) (hM : 157 ≤ M.1) (T : Nat → mT) (e : Nat → Nat) (hF : ShF T e) (cs : Nat → Nat → Int32) (sg : Nat → Nat → Int32) (nf : Nat) (hnf : cs 20 0 = nI nf) (hn2 : nf ≤ 200) (hfa : ∀ i, i < 200 → cs 21 i = sg 78 i ∧ cs 22 i = sg 79 i ∧ cs 23 i = sg 80 i ∧ cs 24 i = sg 81 i) (s : Int32) : mm_Ev 1 139 [.ref 20, .int s] (hk M T cs) (none, hk M T (wA cs 21 (sp_fo (cs 21) s nf))) := by
  have h := k_forget_ M hM T e hF cs sg nf hnf hn2 hfa s
  rwa [show sp_fo (cs 21) s 0 = cs 21 from rfl, wA_id] at h
set_option maxHeartbeats 4000000 in
theorem k_fclear (M : mH) (hM : 157 ≤ M.1) (T : Nat → mT) (e : Nat → Nat) (hF : ShF T e) (cs : Nat → Nat → Int32) : mm_Ev 1 173 [.ref 20] (hk M T cs) ((none, hk M T (w1 (w1 cs 20 0 (nI 0)) 20 1 (nI 0)))) := by
  refine r_ev (by decide +kernel) (show (1 : Nat) ≤ mm_nL 173 by decide +kernel) ?_
  show mm_Ru 0 (5, 1, false, prog_5_method_5_code, none) 0 [(0, .ref 20)] [] (hk M T cs) (fun r9 => r9 = ((none, hk M T (w1 (w1 cs 20 0 (nI 0)) 20 1 (nI 0)))))
  refine r_aload_n rfl dc_5_5_0 ?_
  refine r_iconst (v := nI 0) (by decide) dc_5_5_1 ?_
  refine h_pint (t := cT e 20) fx_5_9 (hF 20 (by decide)) ⟨by omega, by omega⟩ (Or.inl fn_5_0) ty_5_0 (pi_5_0 _ _ _ _) dc_5_5_2 ?_
  refine r_aload_n rfl dc_5_5_5 ?_
  refine r_iconst (v := nI 0) (by decide) dc_5_5_6 ?_
  refine h_pint (t := cT e 20) fx_5_15 (hF 20 (by decide)) ⟨by omega, by omega⟩ (Or.inl fn_5_1) ty_5_1 (pi_5_1 _ _ _ _) dc_5_5_7 ?_
  exact r_vret rfl dc_5_5_10 (rfl)
set_option maxHeartbeats 4000000 in
theorem k_hasRoom (M : mH) (hM : 157 ≤ M.1) (T : Nat → mT) (e : Nat → Nat) (hF : ShF T e) (cs : Nat → Nat → Int32) (t : Nat) (ht : cs 10 1 = nI t) (ht8 : t ≤ 80) : mm_Ev 1 45 [.ref 10] (hk M T cs) ((some (.int (pI (t + 20 ≤ 80))), hk M T cs)) := by
  refine r_ev (by decide +kernel) (show (1 : Nat) ≤ mm_nL 45 by decide +kernel) ?_
  show mm_Ru 0 (2, 1, false, prog_11_method_2_code, some .boolean) 0 [(0, .ref 10)] [] (hk M T cs) (fun r9 => r9 = ((some (.int (pI (t + 20 ≤ 80))), hk M T cs)))
  refine r_aload_n rfl dc_11_2_0 ?_
  refine h_get (t := cT e 10) (v := .int (nI t)) fx_2_13 (hF 10 (by decide)) ⟨by omega, by omega⟩ (show some (Value.int _) = _ from congrArg (fun z => some (Value.int z)) (ht)) dc_11_2_1 ?_
  refine r_bipush (v := nI 20) (by decide) dc_11_2_4 ?_
  refine r_iadd (v := nI (t + 20)) (nI_add _ _) dc_11_2_6 ?_
  refine r_bipush (v := nI 80) (by decide) dc_11_2_7 ?_
  refine r_ncgt (t := 16) (by omega) (by omega) (by decide) dc_11_2_9 (fun c_9 => ?_) (fun c_9 => ?_)
  · skip
    refine r_iconst (v := nI 0) (by decide) dc_11_2_16 ?_
    refine r_zret rfl (by decide) dc_11_2_17 ?_
    rw [pI_f (fun z => by omega)]
  · skip
    refine r_iconst (v := nI 1) (by decide) dc_11_2_12 ?_
    refine r_goto (t := 17) (by decide) dc_11_2_13 ?_
    refine r_zret rfl (by decide) dc_11_2_17 ?_
    rw [pI_t (by omega)]
def byt (v : Int32) (k : Nat) : Int32 := (v.toUInt32 >>> ((nI k).toUInt32 &&& Int32.toUInt32 31)).toInt32 &&& nI 255
set_option maxHeartbeats 4000000 in
theorem k_append (M : mH) (hM : 157 ≤ M.1) (T : Nat → mT) (e : Nat → Nat) (hF : ShF T e) (cs : Nat → Nat → Int32) (t : Nat) (ht : cs 10 1 = nI t) (v : Int32) (ht4 : t + 4 ≤ 80) : mm_Ev 1 46 [.ref 10, .int v] (hk M T cs) ((none, hk M T (w1 (w1 (w1 (w1 (w1 (w1 (w1 (w1 cs 11 t (byt v 24)) 10 1 (nI (t + 1))) 11 (t + 1) (byt v 16)) 10 1 (nI (t + 1 + 1))) 11 (t + 1 + 1) (byt v 8)) 10 1 (nI (t + 1 + 1 + 1))) 11 (t + 1 + 1 + 1) (byt v 0)) 10 1 (nI (t + 1 + 1 + 1 + 1))))) := by
  refine r_ev (by decide +kernel) (show (2 : Nat) ≤ mm_nL 46 by decide +kernel) ?_
  show mm_Ru 0 (2, 3, false, prog_11_method_3_code, none) 0 [(0, .ref 10), (1, .int v)] [] (hk M T cs) (fun r9 => r9 = ((none, hk M T (w1 (w1 (w1 (w1 (w1 (w1 (w1 (w1 cs 11 t (byt v 24)) 10 1 (nI (t + 1))) 11 (t + 1) (byt v 16)) 10 1 (nI (t + 1 + 1))) 11 (t + 1 + 1) (byt v 8)) 10 1 (nI (t + 1 + 1 + 1))) 11 (t + 1 + 1 + 1) (byt v 0)) 10 1 (nI (t + 1 + 1 + 1 + 1))))))
  refine r_bipush (v := nI 24) (by decide) dc_11_3_0 ?_
  refine r_istore_n (ls' := [(2, .int (nI 24)), (0, .ref 10), (1, .int v)]) (by decide) rfl dc_11_3_2 ?_
  refine r_iload_n rfl dc_11_3_3 ?_
  refine r_iflt (t := 55) (by decide) dc_11_3_4 (fun c_4 => ?_) (fun c_4 => ?_)
  · exact absurd c_4 (by decide)
  · skip
    refine r_aload_n rfl dc_11_3_7 ?_
    refine h_get (t := cT e 10) (v := .int (nI t)) fx_2_13 (hF 10 (by decide)) ⟨by omega, by omega⟩ (show some (Value.int _) = _ from congrArg (fun z => some (Value.int z)) (ht)) dc_11_3_8 ?_
    refine r_nzlt (t := 49) (by omega) (by decide) dc_11_3_11 ?_
    refine r_aload_n rfl dc_11_3_14 ?_
    refine h_get (t := cT e 10) (v := .int (nI t)) fx_2_13 (hF 10 (by decide)) ⟨by omega, by omega⟩ (show some (Value.int _) = _ from congrArg (fun z => some (Value.int z)) (ht)) dc_11_3_15 ?_
    refine r_bipush (v := nI 80) (by decide) dc_11_3_18 ?_
    refine r_ncge (t := 49) (by omega) (by omega) (by decide) dc_11_3_20 (fun c_20 => ?_) (fun c_20 => ?_)
    · omega
    · skip
      refine r_aload_n rfl dc_11_3_23 ?_
      refine h_get (t := cT e 10) (v := .ref 11) fx_2_9 (hF 10 (by decide)) ⟨by omega, by omega⟩ (rfl) dc_11_3_24 ?_
      refine r_aload_n rfl dc_11_3_27 ?_
      refine h_get (t := cT e 10) (v := .int (nI t)) fx_2_13 (hF 10 (by decide)) ⟨by omega, by omega⟩ (show some (Value.int _) = _ from congrArg (fun z => some (Value.int z)) (ht)) dc_11_3_28 ?_
      refine r_iload_n rfl dc_11_3_31 ?_
      refine r_iload_n rfl dc_11_3_32 ?_
      refine r_iushr (v := (v.toUInt32 >>> ((nI 24).toUInt32 &&& Int32.toUInt32 31)).toInt32) (rfl) dc_11_3_33 ?_
      refine r_sipush (v := nI 255) (by decide) dc_11_3_34 ?_
      refine r_iand (v := byt v 24) (rfl) dc_11_3_37 ?_
      refine h_ist (n := 80) (e := t) (hF 11 (by decide)) ⟨by omega, by omega⟩ (show t < 80 by omega) (by omega) dc_11_3_38 ?_
      refine r_aload_n rfl dc_11_3_39 ?_
      refine r_dup rfl dc_11_3_40 ?_
      refine h_get (t := cT e 10) (v := .int (nI t)) fx_2_13 (hF 10 (by decide)) ⟨by omega, by omega⟩ (show some (Value.int _) = _ from congrArg (fun z => some (Value.int z)) (ht)) dc_11_3_41 ?_
      refine r_iconst (v := nI 1) (by decide) dc_11_3_44 ?_
      refine r_iadd (v := nI (t + 1)) (nI_add _ _) dc_11_3_45 ?_
      refine h_pint (t := cT e 10) fx_2_13 (hF 10 (by decide)) ⟨by omega, by omega⟩ (Or.inl fn_2_1) ty_2_1 (pi_2_1 _ _ _ _) dc_11_3_46 ?_
      refine r_iinc (x := nI 24) (v := nI 16) (ls' := [(2, .int (nI 16)), (0, .ref 10), (1, .int v)]) rfl (by decide) (by decide) rfl dc_11_3_49 ?_
      refine r_goto (t := 3) (by decide) dc_11_3_52 ?_
      refine r_iload_n rfl dc_11_3_3 ?_
      refine r_iflt (t := 55) (by decide) dc_11_3_4 (fun c_4 => ?_) (fun c_4 => ?_)
      · exact absurd c_4 (by decide)
      · skip
        refine r_aload_n rfl dc_11_3_7 ?_
        refine h_get (t := cT e 10) (v := .int (nI (t + 1))) fx_2_13 (hF 10 (by decide)) ⟨by omega, by omega⟩ (rfl) dc_11_3_8 ?_
        refine r_nzlt (t := 49) (by omega) (by decide) dc_11_3_11 ?_
        refine r_aload_n rfl dc_11_3_14 ?_
        refine h_get (t := cT e 10) (v := .int (nI (t + 1))) fx_2_13 (hF 10 (by decide)) ⟨by omega, by omega⟩ (rfl) dc_11_3_15 ?_
        refine r_bipush (v := nI 80) (by decide) dc_11_3_18 ?_
        refine r_ncge (t := 49) (by omega) (by omega) (by decide) dc_11_3_20 (fun c_20 => ?_) (fun c_20 => ?_)
        · omega
        · skip
          refine r_aload_n rfl dc_11_3_23 ?_
          refine h_get (t := cT e 10) (v := .ref 11) fx_2_9 (hF 10 (by decide)) ⟨by omega, by omega⟩ (rfl) dc_11_3_24 ?_
          refine r_aload_n rfl dc_11_3_27 ?_
          refine h_get (t := cT e 10) (v := .int (nI (t + 1))) fx_2_13 (hF 10 (by decide)) ⟨by omega, by omega⟩ (rfl) dc_11_3_28 ?_
          refine r_iload_n rfl dc_11_3_31 ?_
          refine r_iload_n rfl dc_11_3_32 ?_
          refine r_iushr (v := (v.toUInt32 >>> ((nI 16).toUInt32 &&& Int32.toUInt32 31)).toInt32) (rfl) dc_11_3_33 ?_
          refine r_sipush (v := nI 255) (by decide) dc_11_3_34 ?_
          refine r_iand (v := byt v 16) (rfl) dc_11_3_37 ?_
          refine h_ist (n := 80) (e := t + 1) (hF 11 (by decide)) ⟨by omega, by omega⟩ (show t + 1 < 80 by omega) (by omega) dc_11_3_38 ?_
          refine r_aload_n rfl dc_11_3_39 ?_
          refine r_dup rfl dc_11_3_40 ?_
          refine h_get (t := cT e 10) (v := .int (nI (t + 1))) fx_2_13 (hF 10 (by decide)) ⟨by omega, by omega⟩ (rfl) dc_11_3_41 ?_
          refine r_iconst (v := nI 1) (by decide) dc_11_3_44 ?_
          refine r_iadd (v := nI (t + 1 + 1)) (nI_add _ _) dc_11_3_45 ?_
          refine h_pint (t := cT e 10) fx_2_13 (hF 10 (by decide)) ⟨by omega, by omega⟩ (Or.inl fn_2_1) ty_2_1 (pi_2_1 _ _ _ _) dc_11_3_46 ?_
          refine r_iinc (x := nI 16) (v := nI 8) (ls' := [(2, .int (nI 8)), (0, .ref 10), (1, .int v)]) rfl (by decide) (by decide) rfl dc_11_3_49 ?_
          refine r_goto (t := 3) (by decide) dc_11_3_52 ?_
          refine r_iload_n rfl dc_11_3_3 ?_
          refine r_iflt (t := 55) (by decide) dc_11_3_4 (fun c_4 => ?_) (fun c_4 => ?_)
          · exact absurd c_4 (by decide)
          · skip
            refine r_aload_n rfl dc_11_3_7 ?_
            refine h_get (t := cT e 10) (v := .int (nI (t + 1 + 1))) fx_2_13 (hF 10 (by decide)) ⟨by omega, by omega⟩ (rfl) dc_11_3_8 ?_
            refine r_nzlt (t := 49) (by omega) (by decide) dc_11_3_11 ?_
            refine r_aload_n rfl dc_11_3_14 ?_
            refine h_get (t := cT e 10) (v := .int (nI (t + 1 + 1))) fx_2_13 (hF 10 (by decide)) ⟨by omega, by omega⟩ (rfl) dc_11_3_15 ?_
            refine r_bipush (v := nI 80) (by decide) dc_11_3_18 ?_
            refine r_ncge (t := 49) (by omega) (by omega) (by decide) dc_11_3_20 (fun c_20 => ?_) (fun c_20 => ?_)
            · omega
            · skip
              refine r_aload_n rfl dc_11_3_23 ?_
              refine h_get (t := cT e 10) (v := .ref 11) fx_2_9 (hF 10 (by decide)) ⟨by omega, by omega⟩ (rfl) dc_11_3_24 ?_
              refine r_aload_n rfl dc_11_3_27 ?_
              refine h_get (t := cT e 10) (v := .int (nI (t + 1 + 1))) fx_2_13 (hF 10 (by decide)) ⟨by omega, by omega⟩ (rfl) dc_11_3_28 ?_
              refine r_iload_n rfl dc_11_3_31 ?_
              refine r_iload_n rfl dc_11_3_32 ?_
              refine r_iushr (v := (v.toUInt32 >>> ((nI 8).toUInt32 &&& Int32.toUInt32 31)).toInt32) (rfl) dc_11_3_33 ?_
              refine r_sipush (v := nI 255) (by decide) dc_11_3_34 ?_
              refine r_iand (v := byt v 8) (rfl) dc_11_3_37 ?_
              refine h_ist (n := 80) (e := t + 1 + 1) (hF 11 (by decide)) ⟨by omega, by omega⟩ (show t + 1 + 1 < 80 by omega) (by omega) dc_11_3_38 ?_
              refine r_aload_n rfl dc_11_3_39 ?_
              refine r_dup rfl dc_11_3_40 ?_
              refine h_get (t := cT e 10) (v := .int (nI (t + 1 + 1))) fx_2_13 (hF 10 (by decide)) ⟨by omega, by omega⟩ (rfl) dc_11_3_41 ?_
              refine r_iconst (v := nI 1) (by decide) dc_11_3_44 ?_
              refine r_iadd (v := nI (t + 1 + 1 + 1)) (nI_add _ _) dc_11_3_45 ?_
              refine h_pint (t := cT e 10) fx_2_13 (hF 10 (by decide)) ⟨by omega, by omega⟩ (Or.inl fn_2_1) ty_2_1 (pi_2_1 _ _ _ _) dc_11_3_46 ?_
              refine r_iinc (x := nI 8) (v := nI 0) (ls' := [(2, .int (nI 0)), (0, .ref 10), (1, .int v)]) rfl (by decide) (by decide) rfl dc_11_3_49 ?_
              refine r_goto (t := 3) (by decide) dc_11_3_52 ?_
              refine r_iload_n rfl dc_11_3_3 ?_
              refine r_iflt (t := 55) (by decide) dc_11_3_4 (fun c_4 => ?_) (fun c_4 => ?_)
              · exact absurd c_4 (by decide)
              · skip
                refine r_aload_n rfl dc_11_3_7 ?_
                refine h_get (t := cT e 10) (v := .int (nI (t + 1 + 1 + 1))) fx_2_13 (hF 10 (by decide)) ⟨by omega, by omega⟩ (rfl) dc_11_3_8 ?_
                refine r_nzlt (t := 49) (by omega) (by decide) dc_11_3_11 ?_
                refine r_aload_n rfl dc_11_3_14 ?_
                refine h_get (t := cT e 10) (v := .int (nI (t + 1 + 1 + 1))) fx_2_13 (hF 10 (by decide)) ⟨by omega, by omega⟩ (rfl) dc_11_3_15 ?_
                refine r_bipush (v := nI 80) (by decide) dc_11_3_18 ?_
                refine r_ncge (t := 49) (by omega) (by omega) (by decide) dc_11_3_20 (fun c_20 => ?_) (fun c_20 => ?_)
                · omega
                · skip
                  refine r_aload_n rfl dc_11_3_23 ?_
                  refine h_get (t := cT e 10) (v := .ref 11) fx_2_9 (hF 10 (by decide)) ⟨by omega, by omega⟩ (rfl) dc_11_3_24 ?_
                  refine r_aload_n rfl dc_11_3_27 ?_
                  refine h_get (t := cT e 10) (v := .int (nI (t + 1 + 1 + 1))) fx_2_13 (hF 10 (by decide)) ⟨by omega, by omega⟩ (rfl) dc_11_3_28 ?_
                  refine r_iload_n rfl dc_11_3_31 ?_
                  refine r_iload_n rfl dc_11_3_32 ?_
                  refine r_iushr (v := (v.toUInt32 >>> ((nI 0).toUInt32 &&& Int32.toUInt32 31)).toInt32) (rfl) dc_11_3_33 ?_
                  refine r_sipush (v := nI 255) (by decide) dc_11_3_34 ?_
                  refine r_iand (v := byt v 0) (rfl) dc_11_3_37 ?_
                  refine h_ist (n := 80) (e := t + 1 + 1 + 1) (hF 11 (by decide)) ⟨by omega, by omega⟩ (show t + 1 + 1 + 1 < 80 by omega) (by omega) dc_11_3_38 ?_
                  refine r_aload_n rfl dc_11_3_39 ?_
                  refine r_dup rfl dc_11_3_40 ?_
                  refine h_get (t := cT e 10) (v := .int (nI (t + 1 + 1 + 1))) fx_2_13 (hF 10 (by decide)) ⟨by omega, by omega⟩ (rfl) dc_11_3_41 ?_
                  refine r_iconst (v := nI 1) (by decide) dc_11_3_44 ?_
                  refine r_iadd (v := nI (t + 1 + 1 + 1 + 1)) (nI_add _ _) dc_11_3_45 ?_
                  refine h_pint (t := cT e 10) fx_2_13 (hF 10 (by decide)) ⟨by omega, by omega⟩ (Or.inl fn_2_1) ty_2_1 (pi_2_1 _ _ _ _) dc_11_3_46 ?_
                  refine r_iinc (x := nI 0) (v := (-8)) (ls' := [(2, .int ((-8))), (0, .ref 10), (1, .int v)]) rfl (by decide) (by decide) rfl dc_11_3_49 ?_
                  refine r_goto (t := 3) (by decide) dc_11_3_52 ?_
                  refine r_iload_n rfl dc_11_3_3 ?_
                  refine r_iflt (t := 55) (by decide) dc_11_3_4 (fun c_4 => ?_) (fun c_4 => ?_)
                  · skip
                    exact r_vret rfl dc_11_3_55 (rfl)
                  · exact absurd (by decide) c_4
