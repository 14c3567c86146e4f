/-! students -/
theorem dc_10_2_0 : decode prog_10_method_2_code 0 = .ok (.iload_n 1, 1) := by decide +kernel
theorem dc_10_2_1 : decode prog_10_method_2_code 1 = .ok (.iconst 0, 1) := by decide +kernel
theorem dc_10_2_2 : decode prog_10_method_2_code 2 = .ok (.iconst 3, 1) := by decide +kernel
theorem dc_10_2_3 : decode prog_10_method_2_code 3 = .ok (.invokestatic 52, 3) := by decide +kernel
theorem dc_10_2_6 : decode prog_10_method_2_code 6 = .ok (.ifCond .eq 16, 3) := by decide +kernel
theorem dc_10_2_9 : decode prog_10_method_2_code 9 = .ok (.iconst 0, 1) := by decide +kernel
theorem dc_10_2_10 : decode prog_10_method_2_code 10 = .ok (.aload_n 0, 1) := by decide +kernel
theorem dc_10_2_11 : decode prog_10_method_2_code 11 = .ok (.getfield 9, 3) := by decide +kernel
theorem dc_10_2_14 : decode prog_10_method_2_code 14 = .ok (.iload_n 1, 1) := by decide +kernel
theorem dc_10_2_15 : decode prog_10_method_2_code 15 = .ok (.iaload, 1) := by decide +kernel
theorem dc_10_2_16 : decode prog_10_method_2_code 16 = .ok (.invokestatic 56, 3) := by decide +kernel
theorem dc_10_2_19 : decode prog_10_method_2_code 19 = .ok (.goto 4, 3) := by decide +kernel
theorem dc_10_2_23 : decode prog_10_method_2_code 23 = .ok (.ireturn, 1) := by decide +kernel
theorem dc_10_3_0 : decode prog_10_method_3_code 0 = .ok (.iload_n 1, 1) := by decide +kernel
theorem dc_10_3_1 : decode prog_10_method_3_code 1 = .ok (.ifCond .lt 25, 3) := by decide +kernel
theorem dc_10_3_4 : decode prog_10_method_3_code 4 = .ok (.iload_n 1, 1) := by decide +kernel
theorem dc_10_3_5 : decode prog_10_method_3_code 5 = .ok (.aload_n 0, 1) := by decide +kernel
theorem dc_10_3_6 : decode prog_10_method_3_code 6 = .ok (.getfield 18, 3) := by decide +kernel
theorem dc_10_3_9 : decode prog_10_method_3_code 9 = .ok (.if_icmp .ge 17, 3) := by decide +kernel
theorem dc_10_3_12 : decode prog_10_method_3_code 12 = .ok (.iload_n 1, 1) := by decide +kernel
theorem dc_10_3_13 : decode prog_10_method_3_code 13 = .ok (.iconst 4, 1) := by decide +kernel
theorem dc_10_3_14 : decode prog_10_method_3_code 14 = .ok (.if_icmp .ge 12, 3) := by decide +kernel
theorem dc_10_3_17 : decode prog_10_method_3_code 17 = .ok (.aload_n 0, 1) := by decide +kernel
theorem dc_10_3_18 : decode prog_10_method_3_code 18 = .ok (.getfield 15, 3) := by decide +kernel
theorem dc_10_3_21 : decode prog_10_method_3_code 21 = .ok (.iload_n 1, 1) := by decide +kernel
theorem dc_10_3_22 : decode prog_10_method_3_code 22 = .ok (.iaload, 1) := by decide +kernel
theorem dc_10_3_23 : decode prog_10_method_3_code 23 = .ok (.goto 4, 3) := by decide +kernel
theorem dc_10_3_26 : decode prog_10_method_3_code 26 = .ok (.iconst (-1), 1) := by decide +kernel
theorem dc_10_3_27 : decode prog_10_method_3_code 27 = .ok (.ireturn, 1) := by decide +kernel
theorem dc_10_4_0 : decode prog_10_method_4_code 0 = .ok (.aload_n 0, 1) := by decide +kernel
theorem dc_10_4_1 : decode prog_10_method_4_code 1 = .ok (.getfield 22, 3) := by decide +kernel
theorem dc_10_4_4 : decode prog_10_method_4_code 4 = .ok (.ifCond .ne 26, 3) := by decide +kernel
theorem dc_10_4_7 : decode prog_10_method_4_code 7 = .ok (.iload_n 1, 1) := by decide +kernel
theorem dc_10_4_8 : decode prog_10_method_4_code 8 = .ok (.aload_n 0, 1) := by decide +kernel
theorem dc_10_4_9 : decode prog_10_method_4_code 9 = .ok (.getfield 31, 3) := by decide +kernel
theorem dc_10_4_12 : decode prog_10_method_4_code 12 = .ok (.if_icmp .eq 18, 3) := by decide +kernel
theorem dc_10_4_15 : decode prog_10_method_4_code 15 = .ok (.aload_n 0, 1) := by decide +kernel
theorem dc_10_4_16 : decode prog_10_method_4_code 16 = .ok (.getfield 18, 3) := by decide +kernel
theorem dc_10_4_19 : decode prog_10_method_4_code 19 = .ok (.ifCond .lt 11, 3) := by decide +kernel
theorem dc_10_4_22 : decode prog_10_method_4_code 22 = .ok (.aload_n 0, 1) := by decide +kernel
theorem dc_10_4_23 : decode prog_10_method_4_code 23 = .ok (.getfield 18, 3) := by decide +kernel
theorem dc_10_4_26 : decode prog_10_method_4_code 26 = .ok (.iconst 4, 1) := by decide +kernel
theorem dc_10_4_27 : decode prog_10_method_4_code 27 = .ok (.if_icmp .lt 5, 3) := by decide +kernel
theorem dc_10_4_30 : decode prog_10_method_4_code 30 = .ok (.iconst 0, 1) := by decide +kernel
theorem dc_10_4_31 : decode prog_10_method_4_code 31 = .ok (.ireturn, 1) := by decide +kernel
theorem dc_10_4_32 : decode prog_10_method_4_code 32 = .ok (.iconst 0, 1) := by decide +kernel
theorem dc_10_4_33 : decode prog_10_method_4_code 33 = .ok (.istore_n 2, 1) := by decide +kernel
theorem dc_10_4_34 : decode prog_10_method_4_code 34 = .ok (.iload_n 2, 1) := by decide +kernel
theorem dc_10_4_35 : decode prog_10_method_4_code 35 = .ok (.aload_n 0, 1) := by decide +kernel
theorem dc_10_4_36 : decode prog_10_method_4_code 36 = .ok (.getfield 18, 3) := by decide +kernel
theorem dc_10_4_39 : decode prog_10_method_4_code 39 = .ok (.if_icmp .ge 20, 3) := by decide +kernel
theorem dc_10_4_42 : decode prog_10_method_4_code 42 = .ok (.aload_n 0, 1) := by decide +kernel
theorem dc_10_4_43 : decode prog_10_method_4_code 43 = .ok (.iload_n 2, 1) := by decide +kernel
theorem dc_10_4_44 : decode prog_10_method_4_code 44 = .ok (.invokevirtual 62, 3) := by decide +kernel
theorem dc_10_4_47 : decode prog_10_method_4_code 47 = .ok (.iload_n 1, 1) := by decide +kernel
theorem dc_10_4_48 : decode prog_10_method_4_code 48 = .ok (.if_icmp .ne 5, 3) := by decide +kernel
theorem dc_10_4_51 : decode prog_10_method_4_code 51 = .ok (.iconst 0, 1) := by decide +kernel
theorem dc_10_4_52 : decode prog_10_method_4_code 52 = .ok (.ireturn, 1) := by decide +kernel
theorem dc_10_4_53 : decode prog_10_method_4_code 53 = .ok (.iinc 2 1, 3) := by decide +kernel
theorem dc_10_4_56 : decode prog_10_method_4_code 56 = .ok (.goto (-22), 3) := by decide +kernel
theorem dc_10_4_59 : decode prog_10_method_4_code 59 = .ok (.aload_n 0, 1) := by decide +kernel
theorem dc_10_4_60 : decode prog_10_method_4_code 60 = .ok (.getfield 15, 3) := by decide +kernel
theorem dc_10_4_63 : decode prog_10_method_4_code 63 = .ok (.aload_n 0, 1) := by decide +kernel
theorem dc_10_4_64 : decode prog_10_method_4_code 64 = .ok (.getfield 18, 3) := by decide +kernel
theorem dc_10_4_67 : decode prog_10_method_4_code 67 = .ok (.iload_n 1, 1) := by decide +kernel
theorem dc_10_4_68 : decode prog_10_method_4_code 68 = .ok (.iastore, 1) := by decide +kernel
theorem dc_10_4_69 : decode prog_10_method_4_code 69 = .ok (.aload_n 0, 1) := by decide +kernel
theorem dc_10_4_70 : decode prog_10_method_4_code 70 = .ok (.dup, 1) := by decide +kernel
theorem dc_10_4_71 : decode prog_10_method_4_code 71 = .ok (.getfield 18, 3) := by decide +kernel
theorem dc_10_4_74 : decode prog_10_method_4_code 74 = .ok (.iconst 1, 1) := by decide +kernel
theorem dc_10_4_75 : decode prog_10_method_4_code 75 = .ok (.iadd, 1) := by decide +kernel
theorem dc_10_4_76 : decode prog_10_method_4_code 76 = .ok (.putfield 18, 3) := by decide +kernel
theorem dc_10_4_79 : decode prog_10_method_4_code 79 = .ok (.iconst 1, 1) := by decide +kernel
theorem dc_10_4_80 : decode prog_10_method_4_code 80 = .ok (.ireturn, 1) := by decide +kernel
theorem dc_10_5_0 : decode prog_10_method_5_code 0 = .ok (.aload_n 0, 1) := by decide +kernel
theorem dc_10_5_1 : decode prog_10_method_5_code 1 = .ok (.getfield 22, 3) := by decide +kernel
theorem dc_10_5_4 : decode prog_10_method_5_code 4 = .ok (.iconst 1, 1) := by decide +kernel
theorem dc_10_5_5 : decode prog_10_method_5_code 5 = .ok (.if_icmp .ne 14, 3) := by decide +kernel
theorem dc_10_5_8 : decode prog_10_method_5_code 8 = .ok (.aload_n 0, 1) := by decide +kernel
theorem dc_10_5_9 : decode prog_10_method_5_code 9 = .ok (.aload_n 0, 1) := by decide +kernel
theorem dc_10_5_10 : decode prog_10_method_5_code 10 = .ok (.getfield 25, 3) := by decide +kernel
theorem dc_10_5_13 : decode prog_10_method_5_code 13 = .ok (.invokevirtual 62, 3) := by decide +kernel
theorem dc_10_5_16 : decode prog_10_method_5_code 16 = .ok (.goto 4, 3) := by decide +kernel
theorem dc_10_5_19 : decode prog_10_method_5_code 19 = .ok (.iconst (-1), 1) := by decide +kernel
theorem dc_10_5_20 : decode prog_10_method_5_code 20 = .ok (.ireturn, 1) := by decide +kernel
theorem dc_10_6_0 : decode prog_10_method_6_code 0 = .ok (.aload_n 0, 1) := by decide +kernel
theorem dc_10_6_1 : decode prog_10_method_6_code 1 = .ok (.iload_n 1, 1) := by decide +kernel
theorem dc_10_6_2 : decode prog_10_method_6_code 2 = .ok (.putfield 25, 3) := by decide +kernel
theorem dc_10_6_5 : decode prog_10_method_6_code 5 = .ok (.aload_n 0, 1) := by decide +kernel
theorem dc_10_6_6 : decode prog_10_method_6_code 6 = .ok (.iload_n 2, 1) := by decide +kernel
theorem dc_10_6_7 : decode prog_10_method_6_code 7 = .ok (.putfield 28, 3) := by decide +kernel
theorem dc_10_6_10 : decode prog_10_method_6_code 10 = .ok (.aload_n 0, 1) := by decide +kernel
theorem dc_10_6_11 : decode prog_10_method_6_code 11 = .ok (.iload_n 1, 1) := by decide +kernel
theorem dc_10_6_12 : decode prog_10_method_6_code 12 = .ok (.iconst (-1), 1) := by decide +kernel
theorem dc_10_6_13 : decode prog_10_method_6_code 13 = .ok (.if_icmp .ne 7, 3) := by decide +kernel
theorem dc_10_6_16 : decode prog_10_method_6_code 16 = .ok (.iconst 0, 1) := by decide +kernel
theorem dc_10_6_17 : decode prog_10_method_6_code 17 = .ok (.goto 4, 3) := by decide +kernel
theorem dc_10_6_20 : decode prog_10_method_6_code 20 = .ok (.iconst 1, 1) := by decide +kernel
theorem dc_10_6_21 : decode prog_10_method_6_code 21 = .ok (.putfield 22, 3) := by decide +kernel
theorem dc_10_6_24 : decode prog_10_method_6_code 24 = .ok (.return_, 1) := by decide +kernel
theorem dc_10_7_0 : decode prog_10_method_7_code 0 = .ok (.aload_n 0, 1) := by decide +kernel
theorem dc_10_7_1 : decode prog_10_method_7_code 1 = .ok (.getfield 22, 3) := by decide +kernel
theorem dc_10_7_4 : decode prog_10_method_7_code 4 = .ok (.iconst 1, 1) := by decide +kernel
theorem dc_10_7_5 : decode prog_10_method_7_code 5 = .ok (.if_icmp .ne 16, 3) := by decide +kernel
theorem dc_10_7_8 : decode prog_10_method_7_code 8 = .ok (.aload_n 0, 1) := by decide +kernel
theorem dc_10_7_9 : decode prog_10_method_7_code 9 = .ok (.iconst 3, 1) := by decide +kernel
theorem dc_10_7_10 : decode prog_10_method_7_code 10 = .ok (.putfield 22, 3) := by decide +kernel
theorem dc_10_7_13 : decode prog_10_method_7_code 13 = .ok (.aload_n 0, 1) := by decide +kernel
theorem dc_10_7_14 : decode prog_10_method_7_code 14 = .ok (.iconst (-1), 1) := by decide +kernel
theorem dc_10_7_15 : decode prog_10_method_7_code 15 = .ok (.putfield 25, 3) := by decide +kernel
theorem dc_10_7_18 : decode prog_10_method_7_code 18 = .ok (.goto 16, 3) := by decide +kernel
theorem dc_10_7_21 : decode prog_10_method_7_code 21 = .ok (.aload_n 0, 1) := by decide +kernel
theorem dc_10_7_22 : decode prog_10_method_7_code 22 = .ok (.getfield 22, 3) := by decide +kernel
theorem dc_10_7_25 : decode prog_10_method_7_code 25 = .ok (.iconst 2, 1) := by decide +kernel
theorem dc_10_7_26 : decode prog_10_method_7_code 26 = .ok (.if_icmp .ne 8, 3) := by decide +kernel
theorem dc_10_7_29 : decode prog_10_method_7_code 29 = .ok (.aload_n 0, 1) := by decide +kernel
theorem dc_10_7_30 : decode prog_10_method_7_code 30 = .ok (.iconst 0, 1) := by decide +kernel
theorem dc_10_7_31 : decode prog_10_method_7_code 31 = .ok (.putfield 22, 3) := by decide +kernel
theorem dc_10_7_34 : decode prog_10_method_7_code 34 = .ok (.return_, 1) := by decide +kernel
theorem dc_10_8_0 : decode prog_10_method_8_code 0 = .ok (.iload_n 1, 1) := by decide +kernel
theorem dc_10_8_1 : decode prog_10_method_8_code 1 = .ok (.tableswitch 63 0 3 #[31, 36, 41, 58], 31) := by decide +kernel
theorem dc_10_8_32 : decode prog_10_method_8_code 32 = .ok (.aload_n 0, 1) := by decide +kernel
theorem dc_10_8_33 : decode prog_10_method_8_code 33 = .ok (.getfield 22, 3) := by decide +kernel
theorem dc_10_8_36 : decode prog_10_method_8_code 36 = .ok (.ireturn, 1) := by decide +kernel
theorem dc_10_8_37 : decode prog_10_method_8_code 37 = .ok (.aload_n 0, 1) := by decide +kernel
theorem dc_10_8_38 : decode prog_10_method_8_code 38 = .ok (.invokevirtual 66, 3) := by decide +kernel
theorem dc_10_8_41 : decode prog_10_method_8_code 41 = .ok (.ireturn, 1) := by decide +kernel
theorem dc_10_8_42 : decode prog_10_method_8_code 42 = .ok (.aload_n 0, 1) := by decide +kernel
theorem dc_10_8_43 : decode prog_10_method_8_code 43 = .ok (.getfield 22, 3) := by decide +kernel
theorem dc_10_8_46 : decode prog_10_method_8_code 46 = .ok (.iconst 1, 1) := by decide +kernel
theorem dc_10_8_47 : decode prog_10_method_8_code 47 = .ok (.if_icmp .ne 10, 3) := by decide +kernel
theorem dc_10_8_50 : decode prog_10_method_8_code 50 = .ok (.aload_n 0, 1) := by decide +kernel
theorem dc_10_8_51 : decode prog_10_method_8_code 51 = .ok (.getfield 28, 3) := by decide +kernel
theorem dc_10_8_54 : decode prog_10_method_8_code 54 = .ok (.goto 4, 3) := by decide +kernel
theorem dc_10_8_57 : decode prog_10_method_8_code 57 = .ok (.iconst (-1), 1) := by decide +kernel
theorem dc_10_8_58 : decode prog_10_method_8_code 58 = .ok (.ireturn, 1) := by decide +kernel
theorem dc_10_8_59 : decode prog_10_method_8_code 59 = .ok (.aload_n 0, 1) := by decide +kernel
theorem dc_10_8_60 : decode prog_10_method_8_code 60 = .ok (.getfield 25, 3) := by decide +kernel
theorem dc_10_8_63 : decode prog_10_method_8_code 63 = .ok (.ireturn, 1) := by decide +kernel
theorem dc_10_8_64 : decode prog_10_method_8_code 64 = .ok (.iconst (-1), 1) := by decide +kernel
theorem dc_10_8_65 : decode prog_10_method_8_code 65 = .ok (.ireturn, 1) := by decide +kernel
theorem dc_10_9_0 : decode prog_10_method_9_code 0 = .ok (.iload_n 1, 1) := by decide +kernel
theorem dc_10_9_1 : decode prog_10_method_9_code 1 = .ok (.tableswitch 69 4 9 #[39, 44, 49, 54, 59, 64], 39) := by decide +kernel
theorem dc_10_9_40 : decode prog_10_method_9_code 40 = .ok (.aload_n 0, 1) := by decide +kernel
theorem dc_10_9_41 : decode prog_10_method_9_code 41 = .ok (.getfield 31, 3) := by decide +kernel
theorem dc_10_9_44 : decode prog_10_method_9_code 44 = .ok (.ireturn, 1) := by decide +kernel
theorem dc_10_9_45 : decode prog_10_method_9_code 45 = .ok (.aload_n 0, 1) := by decide +kernel
theorem dc_10_9_46 : decode prog_10_method_9_code 46 = .ok (.getfield 34, 3) := by decide +kernel
theorem dc_10_9_49 : decode prog_10_method_9_code 49 = .ok (.ireturn, 1) := by decide +kernel
theorem dc_10_9_50 : decode prog_10_method_9_code 50 = .ok (.aload_n 0, 1) := by decide +kernel
theorem dc_10_9_51 : decode prog_10_method_9_code 51 = .ok (.getfield 37, 3) := by decide +kernel
theorem dc_10_9_54 : decode prog_10_method_9_code 54 = .ok (.ireturn, 1) := by decide +kernel
theorem dc_10_9_55 : decode prog_10_method_9_code 55 = .ok (.aload_n 0, 1) := by decide +kernel
theorem dc_10_9_56 : decode prog_10_method_9_code 56 = .ok (.getfield 40, 3) := by decide +kernel
theorem dc_10_9_59 : decode prog_10_method_9_code 59 = .ok (.ireturn, 1) := by decide +kernel
theorem dc_10_9_60 : decode prog_10_method_9_code 60 = .ok (.aload_n 0, 1) := by decide +kernel
theorem dc_10_9_61 : decode prog_10_method_9_code 61 = .ok (.getfield 43, 3) := by decide +kernel
theorem dc_10_9_64 : decode prog_10_method_9_code 64 = .ok (.ireturn, 1) := by decide +kernel
theorem dc_10_9_65 : decode prog_10_method_9_code 65 = .ok (.aload_n 0, 1) := by decide +kernel
theorem dc_10_9_66 : decode prog_10_method_9_code 66 = .ok (.getfield 18, 3) := by decide +kernel
theorem dc_10_9_69 : decode prog_10_method_9_code 69 = .ok (.ireturn, 1) := by decide +kernel
theorem dc_10_9_70 : decode prog_10_method_9_code 70 = .ok (.iconst (-1), 1) := by decide +kernel
theorem dc_10_9_71 : decode prog_10_method_9_code 71 = .ok (.ireturn, 1) := by decide +kernel
theorem iv_11_s52 : mm_iv 11 (.invokestatic 52) = some (3, 13) := by decide +kernel
theorem iv_11_s56 : mm_iv 11 (.invokestatic 56) = some (0, 33) := by decide +kernel
theorem iv_11_v62 : mm_iv 11 (.invokevirtual 62) = some (1, 105) := by decide +kernel
theorem iv_11_v66 : mm_iv 11 (.invokevirtual 66) = some (1, 118) := by decide +kernel
theorem o_105 : mm_o 105 = 11 := by decide +kernel
theorem o_118 : mm_o 118 = 11 := by decide +kernel
theorem na_0_33 : mm_nas 0 33 = 2 := by decide +kernel
theorem na_1_105 : mm_nas 1 105 = 2 := by decide +kernel
theorem na_1_118 : mm_nas 1 118 = 1 := by decide +kernel
def StR (M : mH) (T : Nat → mT) (cs sg : Nat → Nat → Int32) (D : Nat → Nat → Nat) (s wm : Nat) : Prop := T (D 7 s) = (11, 0, rl [(6, D 9 s), (5, D 8 s)]) ∧ inC M (D 7 s) ∧ (T (D 8 s) = (20, 4, fun _ => none) ∧ inC M (D 8 s) ∧ T (D 9 s) = (20, 4, fun _ => none) ∧ inC M (D 9 s)) ∧ (cs (D 7 s) 0 = sg 51 s ∧ cs (D 7 s) 1 = sg 52 s ∧ cs (D 7 s) 2 = sg 53 s ∧ cs (D 7 s) 3 = sg 54 s ∧ cs (D 7 s) 4 = sg 55 s ∧ cs (D 7 s) 7 = nI wm ∧ cs (D 7 s) 8 = sg 56 s ∧ cs (D 7 s) 10 = sg 58 s) ∧ (∀ t, t < 4 → cs (D 8 s) t = sg 61 (4 * s + t)) ∧ (∀ w, w < wm → cs (D 9 s) w = sg 60 (4 * s + w)) ∧ (sg 56 s = nI 1 → ∃ v, v < wm ∧ cs (D 7 s) 9 = nI v ∧ sg 60 (4 * s + v) = sg 57 s) ∧ (¬ sg 56 s = nI 1 → cs (D 7 s) 9 = -1)
def hst (sg : Nat → Nat → Int32) (s : Nat) : Int32 := if sg 56 s = nI 1 then sg 57 s else -1
set_option maxHeartbeats 4000000 in
theorem k_wishAt (M : mH) (T : Nat → mT) (cs : Nat → Nat → Int32) (sg : Nat → Nat → Int32) (D : Nat → Nat → Nat) (s wm : Nat) (hs : StR M T cs sg D s wm) (hw4 : wm ≤ 4) (w : Nat) (hw : w < wm) : mm_Ev 1 105 [.ref (D 7 s), .int (nI w)] (hk M T cs) ((some (.int (sg 60 (4 * s + w))), hk M T cs)) := by
  obtain ⟨hS, hSC, ⟨hT8, hC8, hT9, hC9⟩, ⟨f0, f1, f2, f3, f4, f7, f8, f10⟩, ft, fw, fs1, fs0⟩ := id hs
  refine r_ev (by decide +kernel) (show (2 : Nat) ≤ mm_nL 105 by decide +kernel) ?_
  show mm_Ru 0 (11, 2, false, prog_10_method_3_code, some .int) 0 [(0, .ref (D 7 s)), (1, .int (nI w))] [] (hk M T cs) (fun r9 => r9 = ((some (.int (sg 60 (4 * s + w))), hk M T cs)))
  refine r_iload_n rfl dc_10_3_0 ?_
  refine r_nzlt (t := 26) (by omega) (by decide) dc_10_3_1 ?_
  refine r_iload_n rfl dc_10_3_4 ?_
  refine r_aload_n rfl dc_10_3_5 ?_
  refine h_get (t := (11, 0, rl [(6, D 9 s), (5, D 8 s)])) (v := .int (nI wm)) fx_11_18 hS hSC (show some (Value.int _) = _ from congrArg (fun z => some (Value.int z)) (f7)) dc_10_3_6 ?_
  refine r_ncge (t := 26) (by omega) (by omega) (by decide) dc_10_3_9 (fun c_9 => ?_) (fun c_9 => ?_)
  · omega
  · skip
    refine r_iload_n rfl dc_10_3_12 ?_
    refine r_iconst (v := nI 4) (by decide) dc_10_3_13 ?_
    refine r_ncge (t := 26) (by omega) (by omega) (by decide) dc_10_3_14 (fun c_14 => ?_) (fun c_14 => ?_)
    · omega
    · skip
      refine r_aload_n rfl dc_10_3_17 ?_
      refine h_get (t := (11, 0, rl [(6, D 9 s), (5, D 8 s)])) (v := .ref (D 9 s)) fx_11_15 hS hSC (rfl) dc_10_3_18 ?_
      refine r_iload_n rfl dc_10_3_21 ?_
      refine h_ild (n := 4) (e := w) (v := sg 60 (4 * s + w)) hT9 hC9 (show w < 4 by omega) (by omega) (fw w hw) dc_10_3_22 ?_
      refine r_goto (t := 27) (by decide) dc_10_3_23 ?_
      exact r_iret rfl dc_10_3_27 (rfl)
set_option maxHeartbeats 4000000 in
theorem k_wishAtN (M : mH) (T : Nat → mT) (cs : Nat → Nat → Int32) (sg : Nat → Nat → Int32) (D : Nat → Nat → Nat) (s wm : Nat) (hs : StR M T cs sg D s wm) (hw4 : wm ≤ 4) (x : Int32) (hx : x < 0) : mm_Ev 1 105 [.ref (D 7 s), .int x] (hk M T cs) ((some (.int (-1)), hk M T cs)) := by
  obtain ⟨hS, hSC, ⟨hT8, hC8, hT9, hC9⟩, ⟨f0, f1, f2, f3, f4, f7, f8, f10⟩, ft, fw, fs1, fs0⟩ := id hs
  refine r_ev (by decide +kernel) (show (2 : Nat) ≤ mm_nL 105 by decide +kernel) ?_
  show mm_Ru 0 (11, 2, false, prog_10_method_3_code, some .int) 0 [(0, .ref (D 7 s)), (1, .int x)] [] (hk M T cs) (fun r9 => r9 = ((some (.int (-1)), hk M T cs)))
  refine r_iload_n rfl dc_10_3_0 ?_
  refine r_iflt (t := 26) (by decide) dc_10_3_1 (fun c_1 => ?_) (fun c_1 => ?_)
  · skip
    refine r_iconst (v := -1) (by decide) dc_10_3_26 ?_
    exact r_iret rfl dc_10_3_27 (rfl)
  · exact absurd hx c_1
set_option maxHeartbeats 4000000 in
theorem k_wishAtH (M : mH) (T : Nat → mT) (cs : Nat → Nat → Int32) (sg : Nat → Nat → Int32) (D : Nat → Nat → Nat) (s wm : Nat) (hs : StR M T cs sg D s wm) (hw4 : wm ≤ 4) (w : Nat) (hw : wm ≤ w) (hb : w < 2 ^ 31) : mm_Ev 1 105 [.ref (D 7 s), .int (nI w)] (hk M T cs) ((some (.int (-1)), hk M T cs)) := by
  obtain ⟨hS, hSC, ⟨hT8, hC8, hT9, hC9⟩, ⟨f0, f1, f2, f3, f4, f7, f8, f10⟩, ft, fw, fs1, fs0⟩ := id hs
  refine r_ev (by decide +kernel) (show (2 : Nat) ≤ mm_nL 105 by decide +kernel) ?_
  show mm_Ru 0 (11, 2, false, prog_10_method_3_code, some .int) 0 [(0, .ref (D 7 s)), (1, .int (nI w))] [] (hk M T cs) (fun r9 => r9 = ((some (.int (-1)), hk M T cs)))
  refine r_iload_n rfl dc_10_3_0 ?_
  refine r_nzlt (t := 26) (by omega) (by decide) dc_10_3_1 ?_
  refine r_iload_n rfl dc_10_3_4 ?_
  refine r_aload_n rfl dc_10_3_5 ?_
  refine h_get (t := (11, 0, rl [(6, D 9 s), (5, D 8 s)])) (v := .int (nI wm)) fx_11_18 hS hSC (show some (Value.int _) = _ from congrArg (fun z => some (Value.int z)) (f7)) dc_10_3_6 ?_
  refine r_ncge (t := 26) (by omega) (by omega) (by decide) dc_10_3_9 (fun c_9 => ?_) (fun c_9 => ?_)
  · skip
    refine r_iconst (v := -1) (by decide) dc_10_3_26 ?_
    exact r_iret rfl dc_10_3_27 (rfl)
  · omega
set_option maxHeartbeats 4000000 in
theorem k_host (M : mH) (T : Nat → mT) (cs : Nat → Nat → Int32) (sg : Nat → Nat → Int32) (D : Nat → Nat → Nat) (s wm : Nat) (hs : StR M T cs sg D s wm) (hw4 : wm ≤ 4) : mm_Ev 2 118 [.ref (D 7 s)] (hk M T cs) ((some (.int (hst sg s)), hk M T cs)) := by
  obtain ⟨hS, hSC, ⟨hT8, hC8, hT9, hC9⟩, ⟨f0, f1, f2, f3, f4, f7, f8, f10⟩, ft, fw, fs1, fs0⟩ := id hs
  refine r_ev (by decide +kernel) (show (1 : Nat) ≤ mm_nL 118 by decide +kernel) ?_
  show mm_Ru 1 (11, 1, false, prog_10_method_5_code, some .int) 0 [(0, .ref (D 7 s))] [] (hk M T cs) (fun r9 => r9 = ((some (.int (hst sg s)), hk M T cs)))
  refine r_aload_n rfl dc_10_5_0 ?_
  refine h_get (t := (11, 0, rl [(6, D 9 s), (5, D 8 s)])) (v := .int (sg 56 s)) fx_11_22 hS hSC (show some (Value.int _) = _ from congrArg (fun z => some (Value.int z)) (f8)) dc_10_5_1 ?_
  refine r_iconst (v := nI 1) (by decide) dc_10_5_4 ?_
  refine r_icne (t := 19) (by decide) dc_10_5_5 (fun c_5 => ?_) (fun c_5 => ?_)
  · skip
    refine r_iconst (v := -1) (by decide) dc_10_5_19 ?_
    refine r_iret rfl dc_10_5_20 ?_
    unfold hst
    rw [if_neg c_5]
  · obtain ⟨v, hv, hv9, hv57⟩ := fs1 c_5
    refine r_aload_n rfl dc_10_5_8 ?_
    refine r_aload_n rfl dc_10_5_9 ?_
    refine h_get (t := (11, 0, rl [(6, D 9 s), (5, D 8 s)])) (v := .int (nI v)) fx_11_25 hS hSC (show some (Value.int _) = _ from congrArg (fun z => some (Value.int z)) (hv9)) dc_10_5_10 ?_
    refine h_callv (t := (11, 0, rl [(6, D 9 s), (5, D 8 s)])) (as := [.int (nI v)]) (rest := []) (v := .int (sg 60 (4 * s + v))) (M1 := hk M T cs) rfl rfl iv_11_v62 (Or.inl rfl) na_1_105 hS hSC (show (11 : Nat) < 14 by decide) o_105 rfl (show (0 : Nat) ≤ 8 by decide) dc_10_5_13 (k_wishAt M T cs sg D s wm hs hw4 v hv) ?_
    refine r_goto (t := 20) (by decide) dc_10_5_16 ?_
    refine r_iret rfl dc_10_5_20 ?_
    unfold hst
    rw [if_pos c_5, hv57]
set_option maxHeartbeats 4000000 in
theorem k_levelOf (M : mH) (T : Nat → mT) (cs : Nat → Nat → Int32) (sg : Nat → Nat → Int32) (D : Nat → Nat → Nat) (s wm : Nat) (hs : StR M T cs sg D s wm) (hw4 : wm ≤ 4) (t : Nat) (ht : t < 4) (hl : sg 61 (4 * s + t) = -1 ∨ inN (sg 61 (4 * s + t)) 9) : mm_Ev 2 108 [.ref (D 7 s), .int (nI t)] (hk M T cs) ((some (.int (sp_lev sg s t)), hk M T cs)) := by
  obtain ⟨hS, hSC, ⟨hT8, hC8, hT9, hC9⟩, ⟨f0, f1, f2, f3, f4, f7, f8, f10⟩, ft, fw, fs1, fs0⟩ := id hs
  have hlv2 : mx (nI 0) (sg 61 (4 * s + t)) = sp_lev sg s t := by
    unfold mx sp_lev
    rcases hl with q | ⟨v, hv, q⟩
    · rw [q]
      decide
    · rw [q, if_neg (show ¬ nI v = -1 from fun z => absurd (by rw [z]; decide : nI v < 0) (nI_pos (by omega)))]
      split
      · rfl
      · rename_i h
        rcases Nat.eq_zero_or_pos v with rfl | h0
        · rfl
        · exact absurd (nI_lt h0 (by omega)) h
  refine r_ev (by decide +kernel) (show (2 : Nat) ≤ mm_nL 108 by decide +kernel) ?_
  show mm_Ru 1 (11, 2, false, prog_10_method_2_code, some .int) 0 [(0, .ref (D 7 s)), (1, .int (nI t))] [] (hk M T cs) (fun r9 => r9 = ((some (.int (sp_lev sg s t)), hk M T cs)))
  refine r_iload_n rfl dc_10_2_0 ?_
  refine r_iconst (v := nI 0) (by decide) dc_10_2_1 ?_
  refine r_iconst (v := nI 3) (by decide) dc_10_2_2 ?_
  refine h_callS (as := [.int (nI t), .int (nI 0), .int (nI 3)]) (rest := []) (v := .int (nI 1)) rfl rfl iv_11_s52 (Or.inr rfl) na_3_13 rfl (show (0 : Nat) ≤ 8 by decide) dc_10_2_3 (k_inT _ t 0 3 (by omega) (by omega) (by decide)) ?_
  refine r_ifeq (t := 22) (by decide) dc_10_2_6 (fun c_6 => ?_) (fun c_6 => ?_)
  · exact absurd c_6 (by decide)
  · skip
    refine r_iconst (v := nI 0) (by decide) dc_10_2_9 ?_
    refine r_aload_n rfl dc_10_2_10 ?_
    refine h_get (t := (11, 0, rl [(6, D 9 s), (5, D 8 s)])) (v := .ref (D 8 s)) fx_11_9 hS hSC (rfl) dc_10_2_11 ?_
    refine r_iload_n rfl dc_10_2_14 ?_
    refine h_ild (n := 4) (e := t) (v := sg 61 (4 * s + t)) hT8 hC8 (show t < 4 by omega) (by omega) (ft t ht) dc_10_2_15 ?_
    refine h_callS (as := [.int (nI 0), .int (sg 61 (4 * s + t))]) (rest := []) (v := .int (sp_lev sg s t)) rfl rfl iv_11_s56 (Or.inl rfl) na_0_33 rfl (show (0 : Nat) ≤ 8 by decide) dc_10_2_16 (hlv2 ▸ k_max _ (nI 0) (sg 61 (4 * s + t))) ?_
    refine r_goto (t := 23) (by decide) dc_10_2_19 ?_
    exact r_iret rfl dc_10_2_23 (rfl)
set_option maxHeartbeats 4000000 in
theorem k_addW_ok (M : mH) (T : Nat → mT) (cs : Nat → Nat → Int32) (sg : Nat → Nat → Int32) (D : Nat → Nat → Nat) (s wm : Nat) (hs : StR M T cs sg D s wm) (hw4 : wm ≤ 4) (h : Int32) (h56 : sg 56 s = 0) (hhm : ¬ sg 51 s = h) (hw3 : wm < 4) (hnw : ∀ j, j < wm → ¬ sg 60 (4 * s + j) = h) (hne : ¬ D 7 s = D 9 s) : mm_Ev 2 104 [.ref (D 7 s), .int h] (hk M T cs) ((some (.int (nI 1)), hk M T (w1 (w1 cs (D 9 s) wm h) (D 7 s) 7 (nI (wm + 1))))) := by
  obtain ⟨hS, hSC, ⟨hT8, hC8, hT9, hC9⟩, ⟨f0, f1, f2, f3, f4, f7, f8, f10⟩, ft, fw, fs1, fs0⟩ := id hs
  refine r_ev (by decide +kernel) (show (2 : Nat) ≤ mm_nL 104 by decide +kernel) ?_
  show mm_Ru 1 (11, 3, false, prog_10_method_4_code, some .boolean) 0 [(0, .ref (D 7 s)), (1, .int h)] [] (hk M T cs) (fun r9 => r9 = ((some (.int (nI 1)), hk M T (w1 (w1 cs (D 9 s) wm h) (D 7 s) 7 (nI (wm + 1))))))
  refine r_aload_n rfl dc_10_4_0 ?_
  refine h_get (t := (11, 0, rl [(6, D 9 s), (5, D 8 s)])) (v := .int (sg 56 s)) fx_11_22 hS hSC (show some (Value.int _) = _ from congrArg (fun z => some (Value.int z)) (f8)) dc_10_4_1 ?_
  refine r_ifne (t := 30) (by decide) dc_10_4_4 (fun c_4 => ?_) (fun c_4 => ?_)
  · exact absurd h56 c_4
  · skip
    refine r_iload_n rfl dc_10_4_7 ?_
    refine r_aload_n rfl dc_10_4_8 ?_
    refine h_get (t := (11, 0, rl [(6, D 9 s), (5, D 8 s)])) (v := .int (sg 51 s)) fx_11_31 hS hSC (show some (Value.int _) = _ from congrArg (fun z => some (Value.int z)) (f0)) dc_10_4_9 ?_
    refine r_iceq (t := 30) (by decide) dc_10_4_12 (fun c_12 => ?_) (fun c_12 => ?_)
    · exact absurd c_12.symm hhm
    · skip
      refine r_aload_n rfl dc_10_4_15 ?_
      refine h_get (t := (11, 0, rl [(6, D 9 s), (5, D 8 s)])) (v := .int (nI wm)) fx_11_18 hS hSC (show some (Value.int _) = _ from congrArg (fun z => some (Value.int z)) (f7)) dc_10_4_16 ?_
      refine r_nzlt (t := 30) (by omega) (by decide) dc_10_4_19 ?_
      refine r_aload_n rfl dc_10_4_22 ?_
      refine h_get (t := (11, 0, rl [(6, D 9 s), (5, D 8 s)])) (v := .int (nI wm)) fx_11_18 hS hSC (show some (Value.int _) = _ from congrArg (fun z => some (Value.int z)) (f7)) dc_10_4_23 ?_
      refine r_iconst (v := nI 4) (by decide) dc_10_4_26 ?_
      refine r_nclt (t := 32) (by omega) (by omega) (by decide) dc_10_4_27 (fun c_27 => ?_) (fun c_27 => ?_)
      · skip
        refine r_iconst (v := nI 0) (by decide) dc_10_4_32 ?_
        refine r_istore_n (ls' := [(2, .int (nI 0)), (0, .ref (D 7 s)), (1, .int h)]) (by decide) rfl dc_10_4_33 ?_
        refine mm_cnt (P := fun m => mm_Ru 1 (11, 3, false, prog_10_method_4_code, some .boolean) 34 [(2, .int (nI m)), (0, .ref (D 7 s)), (1, .int h)] [] (hk M T cs) (fun r9 => r9 = ((some (.int (nI 1)), hk M T (w1 (w1 cs (D 9 s) wm h) (D 7 s) 7 (nI (wm + 1))))))) wm ?_ ?_ 0 (by omega)
        · show mm_Ru 1 (11, 3, false, prog_10_method_4_code, some .boolean) 34 [(2, .int (nI wm)), (0, .ref (D 7 s)), (1, .int h)] [] (hk M T cs) (fun r9 => r9 = ((some (.int (nI 1)), hk M T (w1 (w1 cs (D 9 s) wm h) (D 7 s) 7 (nI (wm + 1))))))
          refine r_iload_n rfl dc_10_4_34 ?_
          refine r_aload_n rfl dc_10_4_35 ?_
          refine h_get (t := (11, 0, rl [(6, D 9 s), (5, D 8 s)])) (v := .int (nI wm)) fx_11_18 hS hSC (show some (Value.int _) = _ from congrArg (fun z => some (Value.int z)) (f7)) dc_10_4_36 ?_
          refine r_ncge (t := 59) (by omega) (by omega) (by decide) dc_10_4_39 (fun c_39 => ?_) (fun c_39 => ?_)
          · skip
            refine r_aload_n rfl dc_10_4_59 ?_
            refine h_get (t := (11, 0, rl [(6, D 9 s), (5, D 8 s)])) (v := .ref (D 9 s)) fx_11_15 hS hSC (rfl) dc_10_4_60 ?_
            refine r_aload_n rfl dc_10_4_63 ?_
            refine h_get (t := (11, 0, rl [(6, D 9 s), (5, D 8 s)])) (v := .int (nI wm)) fx_11_18 hS hSC (show some (Value.int _) = _ from congrArg (fun z => some (Value.int z)) (f7)) dc_10_4_64 ?_
            refine r_iload_n rfl dc_10_4_67 ?_
            refine h_ist (n := 4) (e := wm) hT9 hC9 (show wm < 4 by omega) (by omega) dc_10_4_68 ?_
            refine r_aload_n rfl dc_10_4_69 ?_
            refine r_dup rfl dc_10_4_70 ?_
            refine h_get (t := (11, 0, rl [(6, D 9 s), (5, D 8 s)])) (v := .int (nI wm)) fx_11_18 hS hSC (show some (Value.int _) = _ from congrArg (fun z => some (Value.int z)) ((w1_o _ _ (Or.inl hne)).trans f7)) dc_10_4_71 ?_
            refine r_iconst (v := nI 1) (by decide) dc_10_4_74 ?_
            refine r_iadd (v := nI (wm + 1)) (nI_add _ _) dc_10_4_75 ?_
            refine h_pint (t := (11, 0, rl [(6, D 9 s), (5, D 8 s)])) fx_11_18 hS hSC (Or.inl fn_11_7) ty_11_7 (pi_11_7 _ _ _ _) dc_10_4_76 ?_
            refine r_iconst (v := nI 1) (by decide) dc_10_4_79 ?_
            exact r_zret rfl (by decide) dc_10_4_80 (rfl)
          · omega
        · intro m h_m ih_m 
          show mm_Ru 1 (11, 3, false, prog_10_method_4_code, some .boolean) 34 [(2, .int (nI m)), (0, .ref (D 7 s)), (1, .int h)] [] (hk M T cs) (fun r9 => r9 = ((some (.int (nI 1)), hk M T (w1 (w1 cs (D 9 s) wm h) (D 7 s) 7 (nI (wm + 1))))))
          refine r_iload_n rfl dc_10_4_34 ?_
          refine r_aload_n rfl dc_10_4_35 ?_
          refine h_get (t := (11, 0, rl [(6, D 9 s), (5, D 8 s)])) (v := .int (nI wm)) fx_11_18 hS hSC (show some (Value.int _) = _ from congrArg (fun z => some (Value.int z)) (f7)) dc_10_4_36 ?_
          refine r_ncge (t := 59) (by omega) (by omega) (by decide) dc_10_4_39 (fun c_39 => ?_) (fun c_39 => ?_)
          · omega
          · skip
            refine r_aload_n rfl dc_10_4_42 ?_
            refine r_iload_n rfl dc_10_4_43 ?_
            refine h_callv (t := (11, 0, rl [(6, D 9 s), (5, D 8 s)])) (as := [.int (nI m)]) (rest := []) (v := .int (sg 60 (4 * s + m))) (M1 := hk M T cs) rfl rfl iv_11_v62 (Or.inl rfl) na_1_105 hS hSC (show (11 : Nat) < 14 by decide) o_105 rfl (show (0 : Nat) ≤ 8 by decide) dc_10_4_44 (k_wishAt M T cs sg D s wm hs hw4 m h_m) ?_
            refine r_iload_n rfl dc_10_4_47 ?_
            refine r_icne (t := 53) (by decide) dc_10_4_48 (fun c_48 => ?_) (fun c_48 => ?_)
            · skip
              refine r_iinc (x := nI m) (v := nI (m + 1)) (ls' := [(2, .int (nI (m + 1))), (0, .ref (D 7 s)), (1, .int h)]) rfl (nI_1 _) (by decide) rfl dc_10_4_53 ?_
              refine r_goto (t := 34) (by decide) dc_10_4_56 ?_
              exact ih_m
            · exact absurd c_48 (hnw m h_m)
      · omega
set_option maxHeartbeats 4000000 in
theorem k_addW_no (M : mH) (T : Nat → mT) (cs : Nat → Nat → Int32) (sg : Nat → Nat → Int32) (D : Nat → Nat → Nat) (s wm : Nat) (hs : StR M T cs sg D s wm) (hw4 : wm ≤ 4) (h : Int32) (hno : ¬ (sg 56 s = 0 ∧ ¬ sg 51 s = h ∧ wm < 4 ∧ ∀ j, j < wm → ¬ sg 60 (4 * s + j) = h)) : mm_Ev 2 104 [.ref (D 7 s), .int h] (hk M T cs) ((some (.int (nI 0)), hk M T cs)) := by
  obtain ⟨hS, hSC, ⟨hT8, hC8, hT9, hC9⟩, ⟨f0, f1, f2, f3, f4, f7, f8, f10⟩, ft, fw, fs1, fs0⟩ := id hs
  refine r_ev (by decide +kernel) (show (2 : Nat) ≤ mm_nL 104 by decide +kernel) ?_
  show mm_Ru 1 (11, 3, false, prog_10_method_4_code, some .boolean) 0 [(0, .ref (D 7 s)), (1, .int h)] [] (hk M T cs) (fun r9 => r9 = ((some (.int (nI 0)), hk M T cs)))
  refine r_aload_n rfl dc_10_4_0 ?_
  refine h_get (t := (11, 0, rl [(6, D 9 s), (5, D 8 s)])) (v := .int (sg 56 s)) fx_11_22 hS hSC (show some (Value.int _) = _ from congrArg (fun z => some (Value.int z)) (f8)) dc_10_4_1 ?_
  refine r_ifne (t := 30) (by decide) dc_10_4_4 (fun c_4 => ?_) (fun c_4 => ?_)
  · skip
    refine r_iconst (v := nI 0) (by decide) dc_10_4_30 ?_
    exact r_zret rfl (by decide) dc_10_4_31 (rfl)
  · skip
    refine r_iload_n rfl dc_10_4_7 ?_
    refine r_aload_n rfl dc_10_4_8 ?_
    refine h_get (t := (11, 0, rl [(6, D 9 s), (5, D 8 s)])) (v := .int (sg 51 s)) fx_11_31 hS hSC (show some (Value.int _) = _ from congrArg (fun z => some (Value.int z)) (f0)) dc_10_4_9 ?_
    refine r_iceq (t := 30) (by decide) dc_10_4_12 (fun c_12 => ?_) (fun c_12 => ?_)
    · skip
      refine r_iconst (v := nI 0) (by decide) dc_10_4_30 ?_
      exact r_zret rfl (by decide) dc_10_4_31 (rfl)
    · skip
      refine r_aload_n rfl dc_10_4_15 ?_
      refine h_get (t := (11, 0, rl [(6, D 9 s), (5, D 8 s)])) (v := .int (nI wm)) fx_11_18 hS hSC (show some (Value.int _) = _ from congrArg (fun z => some (Value.int z)) (f7)) dc_10_4_16 ?_
      refine r_nzlt (t := 30) (by omega) (by decide) dc_10_4_19 ?_
      refine r_aload_n rfl dc_10_4_22 ?_
      refine h_get (t := (11, 0, rl [(6, D 9 s), (5, D 8 s)])) (v := .int (nI wm)) fx_11_18 hS hSC (show some (Value.int _) = _ from congrArg (fun z => some (Value.int z)) (f7)) dc_10_4_23 ?_
      refine r_iconst (v := nI 4) (by decide) dc_10_4_26 ?_
      refine r_nclt (t := 32) (by omega) (by omega) (by decide) dc_10_4_27 (fun c_27 => ?_) (fun c_27 => ?_)
      · skip
        refine r_iconst (v := nI 0) (by decide) dc_10_4_32 ?_
        refine r_istore_n (ls' := [(2, .int (nI 0)), (0, .ref (D 7 s)), (1, .int h)]) (by decide) rfl dc_10_4_33 ?_
        refine mm_cnt (P := fun m => (∀ j, j < m → ¬ sg 60 (4 * s + j) = h) → mm_Ru 1 (11, 3, false, prog_10_method_4_code, some .boolean) 34 [(2, .int (nI m)), (0, .ref (D 7 s)), (1, .int h)] [] (hk M T cs) (fun r9 => r9 = ((some (.int (nI 0)), hk M T cs)))) wm ?_ ?_ 0 (by omega) (fun j hj => absurd hj (Nat.not_lt_zero j))
        · intro  hi_m
          show mm_Ru 1 (11, 3, false, prog_10_method_4_code, some .boolean) 34 [(2, .int (nI wm)), (0, .ref (D 7 s)), (1, .int h)] [] (hk M T cs) (fun r9 => r9 = ((some (.int (nI 0)), hk M T cs)))
          refine r_iload_n rfl dc_10_4_34 ?_
          refine r_aload_n rfl dc_10_4_35 ?_
          refine h_get (t := (11, 0, rl [(6, D 9 s), (5, D 8 s)])) (v := .int (nI wm)) fx_11_18 hS hSC (show some (Value.int _) = _ from congrArg (fun z => some (Value.int z)) (f7)) dc_10_4_36 ?_
          refine r_ncge (t := 59) (by omega) (by omega) (by decide) dc_10_4_39 (fun c_39 => ?_) (fun c_39 => ?_)
          · skip
            exact absurd ⟨c_4, fun z => c_12 z.symm, (by omega : wm < 4), hi_m⟩ hno
          · omega
        · intro m h_m ih_m  hi_m
          show mm_Ru 1 (11, 3, false, prog_10_method_4_code, some .boolean) 34 [(2, .int (nI m)), (0, .ref (D 7 s)), (1, .int h)] [] (hk M T cs) (fun r9 => r9 = ((some (.int (nI 0)), hk M T cs)))
          refine r_iload_n rfl dc_10_4_34 ?_
          refine r_aload_n rfl dc_10_4_35 ?_
          refine h_get (t := (11, 0, rl [(6, D 9 s), (5, D 8 s)])) (v := .int (nI wm)) fx_11_18 hS hSC (show some (Value.int _) = _ from congrArg (fun z => some (Value.int z)) (f7)) dc_10_4_36 ?_
          refine r_ncge (t := 59) (by omega) (by omega) (by decide) dc_10_4_39 (fun c_39 => ?_) (fun c_39 => ?_)
          · omega
          · skip
            refine r_aload_n rfl dc_10_4_42 ?_
            refine r_iload_n rfl dc_10_4_43 ?_
            refine h_callv (t := (11, 0, rl [(6, D 9 s), (5, D 8 s)])) (as := [.int (nI m)]) (rest := []) (v := .int (sg 60 (4 * s + m))) (M1 := hk M T cs) rfl rfl iv_11_v62 (Or.inl rfl) na_1_105 hS hSC (show (11 : Nat) < 14 by decide) o_105 rfl (show (0 : Nat) ≤ 8 by decide) dc_10_4_44 (k_wishAt M T cs sg D s wm hs hw4 m h_m) ?_
            refine r_iload_n rfl dc_10_4_47 ?_
            refine r_icne (t := 53) (by decide) dc_10_4_48 (fun c_48 => ?_) (fun c_48 => ?_)
            · skip
              refine r_iinc (x := nI m) (v := nI (m + 1)) (ls' := [(2, .int (nI (m + 1))), (0, .ref (D 7 s)), (1, .int h)]) rfl (nI_1 _) (by decide) rfl dc_10_4_53 ?_
              refine r_goto (t := 34) (by decide) dc_10_4_56 ?_
              exact ih_m (fun j hj => by rcases (by omega : j < m ∨ j = m) with q | rfl; exact hi_m j q; exact c_48)
            · skip
              refine r_iconst (v := nI 0) (by decide) dc_10_4_51 ?_
              exact r_zret rfl (by decide) dc_10_4_52 (rfl)
      · skip
        refine r_iconst (v := nI 0) (by decide) dc_10_4_30 ?_
        exact r_zret rfl (by decide) dc_10_4_31 (rfl)
set_option maxHeartbeats 4000000 in
theorem k_settle (M : mH) (T : Nat → mT) (cs : Nat → Nat → Int32) (sg : Nat → Nat → Int32) (D : Nat → Nat → Nat) (s wm : Nat) (hs : StR M T cs sg D s wm) (hw4 : wm ≤ 4) (x y : Int32) : mm_Ev 1 138 [.ref (D 7 s), .int x, .int y] (hk M T cs) ((none, hk M T (w1 (w1 (w1 cs (D 7 s) 9 x) (D 7 s) 10 y) (D 7 s) 8 (if x = -1 then nI 0 else nI 1)))) := by
  obtain ⟨hS, hSC, ⟨hT8, hC8, hT9, hC9⟩, ⟨f0, f1, f2, f3, f4, f7, f8, f10⟩, ft, fw, fs1, fs0⟩ := id hs
  refine r_ev (by decide +kernel) (show (3 : Nat) ≤ mm_nL 138 by decide +kernel) ?_
  show mm_Ru 0 (11, 3, false, prog_10_method_6_code, none) 0 [(0, .ref (D 7 s)), (1, .int x), (2, .int y)] [] (hk M T cs) (fun r9 => r9 = ((none, hk M T (w1 (w1 (w1 cs (D 7 s) 9 x) (D 7 s) 10 y) (D 7 s) 8 (if x = -1 then nI 0 else nI 1)))))
  refine r_aload_n rfl dc_10_6_0 ?_
  refine r_iload_n rfl dc_10_6_1 ?_
  refine h_pint (t := (11, 0, rl [(6, D 9 s), (5, D 8 s)])) fx_11_25 hS hSC (Or.inl fn_11_9) ty_11_9 (pi_11_9 _ _ _ _) dc_10_6_2 ?_
  refine r_aload_n rfl dc_10_6_5 ?_
  refine r_iload_n rfl dc_10_6_6 ?_
  refine h_pint (t := (11, 0, rl [(6, D 9 s), (5, D 8 s)])) fx_11_28 hS hSC (Or.inl fn_11_10) ty_11_10 (pi_11_10 _ _ _ _) dc_10_6_7 ?_
  refine r_aload_n rfl dc_10_6_10 ?_
  refine r_iload_n rfl dc_10_6_11 ?_
  refine r_iconst (v := -1) (by decide) dc_10_6_12 ?_
  refine r_icne (t := 20) (by decide) dc_10_6_13 (fun c_13 => ?_) (fun c_13 => ?_)
  · skip
    refine r_iconst (v := nI 1) (by decide) dc_10_6_20 ?_
    refine h_pint (t := (11, 0, rl [(6, D 9 s), (5, D 8 s)])) fx_11_22 hS hSC (Or.inl fn_11_8) ty_11_8 (pi_11_8 _ _ _ _) dc_10_6_21 ?_
    refine r_vret rfl dc_10_6_24 ?_
    rw [if_neg c_13]
  · skip
    refine r_iconst (v := nI 0) (by decide) dc_10_6_16 ?_
    refine r_goto (t := 21) (by decide) dc_10_6_17 ?_
    refine h_pint (t := (11, 0, rl [(6, D 9 s), (5, D 8 s)])) fx_11_22 hS hSC (Or.inl fn_11_8) ty_11_8 (pi_11_8 _ _ _ _) dc_10_6_21 ?_
    refine r_vret rfl dc_10_6_24 ?_
    rw [if_pos c_13]
def eyW (cs sg : Nat → Nat → Int32) (a s : Nat) : Nat → Nat → Int32 := if sg 56 s = nI 1 then w1 (w1 cs a 8 (nI 3)) a 9 (-1) else if sg 56 s = nI 2 then w1 cs a 8 (nI 0) else cs
set_option maxHeartbeats 4000000 in
theorem k_endYear (M : mH) (T : Nat → mT) (cs : Nat → Nat → Int32) (sg : Nat → Nat → Int32) (D : Nat → Nat → Nat) (s wm : Nat) (hs : StR M T cs sg D s wm) (hw4 : wm ≤ 4) : mm_Ev 1 172 [.ref (D 7 s)] (hk M T cs) ((none, hk M T (eyW cs sg (D 7 s) s))) := by
  obtain ⟨hS, hSC, ⟨hT8, hC8, hT9, hC9⟩, ⟨f0, f1, f2, f3, f4, f7, f8, f10⟩, ft, fw, fs1, fs0⟩ := id hs
  refine r_ev (by decide +kernel) (show (1 : Nat) ≤ mm_nL 172 by decide +kernel) ?_
  show mm_Ru 0 (11, 1, false, prog_10_method_7_code, none) 0 [(0, .ref (D 7 s))] [] (hk M T cs) (fun r9 => r9 = ((none, hk M T (eyW cs sg (D 7 s) s))))
  refine r_aload_n rfl dc_10_7_0 ?_
  refine h_get (t := (11, 0, rl [(6, D 9 s), (5, D 8 s)])) (v := .int (sg 56 s)) fx_11_22 hS hSC (show some (Value.int _) = _ from congrArg (fun z => some (Value.int z)) (f8)) dc_10_7_1 ?_
  refine r_iconst (v := nI 1) (by decide) dc_10_7_4 ?_
  refine r_icne (t := 21) (by decide) dc_10_7_5 (fun c_5 => ?_) (fun c_5 => ?_)
  · skip
    refine r_aload_n rfl dc_10_7_21 ?_
    refine h_get (t := (11, 0, rl [(6, D 9 s), (5, D 8 s)])) (v := .int (sg 56 s)) fx_11_22 hS hSC (show some (Value.int _) = _ from congrArg (fun z => some (Value.int z)) (f8)) dc_10_7_22 ?_
    refine r_iconst (v := nI 2) (by decide) dc_10_7_25 ?_
    refine r_icne (t := 34) (by decide) dc_10_7_26 (fun c_26 => ?_) (fun c_26 => ?_)
    · skip
      refine r_vret rfl dc_10_7_34 ?_
      unfold eyW
      rw [if_neg c_5, if_neg c_26]
    · skip
      refine r_aload_n rfl dc_10_7_29 ?_
      refine r_iconst (v := nI 0) (by decide) dc_10_7_30 ?_
      refine h_pint (t := (11, 0, rl [(6, D 9 s), (5, D 8 s)])) fx_11_22 hS hSC (Or.inl fn_11_8) ty_11_8 (pi_11_8 _ _ _ _) dc_10_7_31 ?_
      refine r_vret rfl dc_10_7_34 ?_
      unfold eyW
      rw [if_neg c_5, if_pos c_26]
  · skip
    refine r_aload_n rfl dc_10_7_8 ?_
    refine r_iconst (v := nI 3) (by decide) dc_10_7_9 ?_
    refine h_pint (t := (11, 0, rl [(6, D 9 s), (5, D 8 s)])) fx_11_22 hS hSC (Or.inl fn_11_8) ty_11_8 (pi_11_8 _ _ _ _) dc_10_7_10 ?_
    refine r_aload_n rfl dc_10_7_13 ?_
    refine r_iconst (v := -1) (by decide) dc_10_7_14 ?_
    refine h_pint (t := (11, 0, rl [(6, D 9 s), (5, D 8 s)])) fx_11_25 hS hSC (Or.inl fn_11_9) ty_11_9 (pi_11_9 _ _ _ _) dc_10_7_15 ?_
    refine r_goto (t := 34) (by decide) dc_10_7_18 ?_
    refine r_vret rfl dc_10_7_34 ?_
    unfold eyW
    rw [if_pos c_5]
set_option maxHeartbeats 4000000 in
theorem k_place_0 (M : mH) (T : Nat → mT) (cs : Nat → Nat → Int32) (sg : Nat → Nat → Int32) (D : Nat → Nat → Nat) (s wm : Nat) (hs : StR M T cs sg D s wm) (hw4 : wm ≤ 4) : mm_Ev 3 176 [.ref (D 7 s), .int (nI 0)] (hk M T cs) ((some (.int (sg 56 s)), hk M T cs)) := by
  obtain ⟨hS, hSC, ⟨hT8, hC8, hT9, hC9⟩, ⟨f0, f1, f2, f3, f4, f7, f8, f10⟩, ft, fw, fs1, fs0⟩ := id hs
  refine r_ev (by decide +kernel) (show (2 : Nat) ≤ mm_nL 176 by decide +kernel) ?_
  show mm_Ru 2 (11, 2, false, prog_10_method_8_code, some .int) 0 [(0, .ref (D 7 s)), (1, .int (nI 0))] [] (hk M T cs) (fun r9 => r9 = ((some (.int (sg 56 s)), hk M T cs)))
  refine r_iload_n rfl dc_10_8_0 ?_
  refine r_swIn (off := 31) (t := 32) (by decide +kernel) (by decide +kernel) (by decide +kernel) (by decide) dc_10_8_1 ?_
  refine r_aload_n rfl dc_10_8_32 ?_
  refine h_get (t := (11, 0, rl [(6, D 9 s), (5, D 8 s)])) (v := .int (sg 56 s)) fx_11_22 hS hSC (show some (Value.int _) = _ from congrArg (fun z => some (Value.int z)) (f8)) dc_10_8_33 ?_
  exact r_iret rfl dc_10_8_36 (rfl)
set_option maxHeartbeats 4000000 in
theorem k_place_1 (M : mH) (T : Nat → mT) (cs : Nat → Nat → Int32) (sg : Nat → Nat → Int32) (D : Nat → Nat → Nat) (s wm : Nat) (hs : StR M T cs sg D s wm) (hw4 : wm ≤ 4) : mm_Ev 3 176 [.ref (D 7 s), .int (nI 1)] (hk M T cs) ((some (.int (hst sg s)), hk M T cs)) := by
  obtain ⟨hS, hSC, ⟨hT8, hC8, hT9, hC9⟩, ⟨f0, f1, f2, f3, f4, f7, f8, f10⟩, ft, fw, fs1, fs0⟩ := id hs
  refine r_ev (by decide +kernel) (show (2 : Nat) ≤ mm_nL 176 by decide +kernel) ?_
  show mm_Ru 2 (11, 2, false, prog_10_method_8_code, some .int) 0 [(0, .ref (D 7 s)), (1, .int (nI 1))] [] (hk M T cs) (fun r9 => r9 = ((some (.int (hst sg s)), hk M T cs)))
  refine r_iload_n rfl dc_10_8_0 ?_
  refine r_swIn (off := 36) (t := 37) (by decide +kernel) (by decide +kernel) (by decide +kernel) (by decide) dc_10_8_1 ?_
  refine r_aload_n rfl dc_10_8_37 ?_
  refine h_callv (t := (11, 0, rl [(6, D 9 s), (5, D 8 s)])) (as := []) (rest := []) (v := .int (hst sg s)) (M1 := hk M T cs) rfl rfl iv_11_v66 (Or.inl rfl) na_1_118 hS hSC (show (11 : Nat) < 14 by decide) o_118 rfl (show (0 : Nat) ≤ 8 by decide) dc_10_8_38 (k_host M T cs sg D s wm hs hw4) ?_
  exact r_iret rfl dc_10_8_41 (rfl)
set_option maxHeartbeats 4000000 in
theorem k_place_2 (M : mH) (T : Nat → mT) (cs : Nat → Nat → Int32) (sg : Nat → Nat → Int32) (D : Nat → Nat → Nat) (s wm : Nat) (hs : StR M T cs sg D s wm) (hw4 : wm ≤ 4) : mm_Ev 3 176 [.ref (D 7 s), .int (nI 2)] (hk M T cs) ((some (.int (if sg 56 s = nI 1 then sg 58 s else -1)), hk M T cs)) := by
  obtain ⟨hS, hSC, ⟨hT8, hC8, hT9, hC9⟩, ⟨f0, f1, f2, f3, f4, f7, f8, f10⟩, ft, fw, fs1, fs0⟩ := id hs
  refine r_ev (by decide +kernel) (show (2 : Nat) ≤ mm_nL 176 by decide +kernel) ?_
  show mm_Ru 2 (11, 2, false, prog_10_method_8_code, some .int) 0 [(0, .ref (D 7 s)), (1, .int (nI 2))] [] (hk M T cs) (fun r9 => r9 = ((some (.int (if sg 56 s = nI 1 then sg 58 s else -1)), hk M T cs)))
  refine r_iload_n rfl dc_10_8_0 ?_
  refine r_swIn (off := 41) (t := 42) (by decide +kernel) (by decide +kernel) (by decide +kernel) (by decide) dc_10_8_1 ?_
  refine r_aload_n rfl dc_10_8_42 ?_
  refine h_get (t := (11, 0, rl [(6, D 9 s), (5, D 8 s)])) (v := .int (sg 56 s)) fx_11_22 hS hSC (show some (Value.int _) = _ from congrArg (fun z => some (Value.int z)) (f8)) dc_10_8_43 ?_
  refine r_iconst (v := nI 1) (by decide) dc_10_8_46 ?_
  refine r_icne (t := 57) (by decide) dc_10_8_47 (fun c_47 => ?_) (fun c_47 => ?_)
  · skip
    refine r_iconst (v := -1) (by decide) dc_10_8_57 ?_
    refine r_iret rfl dc_10_8_58 ?_
    rw [if_neg c_47]
  · skip
    refine r_aload_n rfl dc_10_8_50 ?_
    refine h_get (t := (11, 0, rl [(6, D 9 s), (5, D 8 s)])) (v := .int (sg 58 s)) fx_11_28 hS hSC (show some (Value.int _) = _ from congrArg (fun z => some (Value.int z)) (f10)) dc_10_8_51 ?_
    refine r_goto (t := 58) (by decide) dc_10_8_54 ?_
    refine r_iret rfl dc_10_8_58 ?_
    rw [if_pos c_47]
set_option maxHeartbeats 4000000 in
theorem k_place_3 (M : mH) (T : Nat → mT) (cs : Nat → Nat → Int32) (sg : Nat → Nat → Int32) (D : Nat → Nat → Nat) (s wm : Nat) (hs : StR M T cs sg D s wm) (hw4 : wm ≤ 4) : mm_Ev 3 176 [.ref (D 7 s), .int (nI 3)] (hk M T cs) ((some (.int (cs (D 7 s) 9)), hk M T cs)) := by
  obtain ⟨hS, hSC, ⟨hT8, hC8, hT9, hC9⟩, ⟨f0, f1, f2, f3, f4, f7, f8, f10⟩, ft, fw, fs1, fs0⟩ := id hs
  refine r_ev (by decide +kernel) (show (2 : Nat) ≤ mm_nL 176 by decide +kernel) ?_
  show mm_Ru 2 (11, 2, false, prog_10_method_8_code, some .int) 0 [(0, .ref (D 7 s)), (1, .int (nI 3))] [] (hk M T cs) (fun r9 => r9 = ((some (.int (cs (D 7 s) 9)), hk M T cs)))
  refine r_iload_n rfl dc_10_8_0 ?_
  refine r_swIn (off := 58) (t := 59) (by decide +kernel) (by decide +kernel) (by decide +kernel) (by decide) dc_10_8_1 ?_
  refine r_aload_n rfl dc_10_8_59 ?_
  refine h_get (t := (11, 0, rl [(6, D 9 s), (5, D 8 s)])) (v := .int (cs (D 7 s) 9)) fx_11_25 hS hSC (rfl) dc_10_8_60 ?_
  exact r_iret rfl dc_10_8_63 (rfl)
set_option maxHeartbeats 4000000 in
theorem k_place_n (M : mH) (T : Nat → mT) (cs : Nat → Nat → Int32) (sg : Nat → Nat → Int32) (D : Nat → Nat → Nat) (s wm : Nat) (hs : StR M T cs sg D s wm) (hw4 : wm ≤ 4) (x : Int32) (hx : x.toInt < 0 ∨ 3 < x.toInt) : mm_Ev 1 176 [.ref (D 7 s), .int x] (hk M T cs) ((some (.int (-1)), hk M T cs)) := by
  obtain ⟨hS, hSC, ⟨hT8, hC8, hT9, hC9⟩, ⟨f0, f1, f2, f3, f4, f7, f8, f10⟩, ft, fw, fs1, fs0⟩ := id hs
  refine r_ev (by decide +kernel) (show (2 : Nat) ≤ mm_nL 176 by decide +kernel) ?_
  show mm_Ru 0 (11, 2, false, prog_10_method_8_code, some .int) 0 [(0, .ref (D 7 s)), (1, .int x)] [] (hk M T cs) (fun r9 => r9 = ((some (.int (-1)), hk M T cs)))
  refine r_iload_n rfl dc_10_8_0 ?_
  refine r_swOut (t := 64) (hx) (by decide) dc_10_8_1 ?_
  refine r_iconst (v := -1) (by decide) dc_10_8_64 ?_
  exact r_iret rfl dc_10_8_65 (rfl)
set_option maxHeartbeats 4000000 in
theorem k_self_4 (M : mH) (T : Nat → mT) (cs : Nat → Nat → Int32) (sg : Nat → Nat → Int32) (D : Nat → Nat → Nat) (s wm : Nat) (hs : StR M T cs sg D s wm) (hw4 : wm ≤ 4) : mm_Ev 1 177 [.ref (D 7 s), .int (nI 4)] (hk M T cs) ((some (.int (sg 51 s)), hk M T cs)) := by
  obtain ⟨hS, hSC, ⟨hT8, hC8, hT9, hC9⟩, ⟨f0, f1, f2, f3, f4, f7, f8, f10⟩, ft, fw, fs1, fs0⟩ := id hs
  refine r_ev (by decide +kernel) (show (2 : Nat) ≤ mm_nL 177 by decide +kernel) ?_
  show mm_Ru 0 (11, 2, false, prog_10_method_9_code, some .int) 0 [(0, .ref (D 7 s)), (1, .int (nI 4))] [] (hk M T cs) (fun r9 => r9 = ((some (.int (sg 51 s)), hk M T cs)))
  refine r_iload_n rfl dc_10_9_0 ?_
  refine r_swIn (off := 39) (t := 40) (by decide +kernel) (by decide +kernel) (by decide +kernel) (by decide) dc_10_9_1 ?_
  refine r_aload_n rfl dc_10_9_40 ?_
  refine h_get (t := (11, 0, rl [(6, D 9 s), (5, D 8 s)])) (v := .int (sg 51 s)) fx_11_31 hS hSC (show some (Value.int _) = _ from congrArg (fun z => some (Value.int z)) (f0)) dc_10_9_41 ?_
  exact r_iret rfl dc_10_9_44 (rfl)
set_option maxHeartbeats 4000000 in
theorem k_self_5 (M : mH) (T : Nat → mT) (cs : Nat → Nat → Int32) (sg : Nat → Nat → Int32) (D : Nat → Nat → Nat) (s wm : Nat) (hs : StR M T cs sg D s wm) (hw4 : wm ≤ 4) : mm_Ev 1 177 [.ref (D 7 s), .int (nI 5)] (hk M T cs) ((some (.int (sg 52 s)), hk M T cs)) := by
  obtain ⟨hS, hSC, ⟨hT8, hC8, hT9, hC9⟩, ⟨f0, f1, f2, f3, f4, f7, f8, f10⟩, ft, fw, fs1, fs0⟩ := id hs
  refine r_ev (by decide +kernel) (show (2 : Nat) ≤ mm_nL 177 by decide +kernel) ?_
  show mm_Ru 0 (11, 2, false, prog_10_method_9_code, some .int) 0 [(0, .ref (D 7 s)), (1, .int (nI 5))] [] (hk M T cs) (fun r9 => r9 = ((some (.int (sg 52 s)), hk M T cs)))
  refine r_iload_n rfl dc_10_9_0 ?_
  refine r_swIn (off := 44) (t := 45) (by decide +kernel) (by decide +kernel) (by decide +kernel) (by decide) dc_10_9_1 ?_
  refine r_aload_n rfl dc_10_9_45 ?_
  refine h_get (t := (11, 0, rl [(6, D 9 s), (5, D 8 s)])) (v := .int (sg 52 s)) fx_11_34 hS hSC (show some (Value.int _) = _ from congrArg (fun z => some (Value.int z)) (f1)) dc_10_9_46 ?_
  exact r_iret rfl dc_10_9_49 (rfl)
set_option maxHeartbeats 4000000 in
theorem k_self_6 (M : mH) (T : Nat → mT) (cs : Nat → Nat → Int32) (sg : Nat → Nat → Int32) (D : Nat → Nat → Nat) (s wm : Nat) (hs : StR M T cs sg D s wm) (hw4 : wm ≤ 4) : mm_Ev 1 177 [.ref (D 7 s), .int (nI 6)] (hk M T cs) ((some (.int (sg 53 s)), hk M T cs)) := by
  obtain ⟨hS, hSC, ⟨hT8, hC8, hT9, hC9⟩, ⟨f0, f1, f2, f3, f4, f7, f8, f10⟩, ft, fw, fs1, fs0⟩ := id hs
  refine r_ev (by decide +kernel) (show (2 : Nat) ≤ mm_nL 177 by decide +kernel) ?_
  show mm_Ru 0 (11, 2, false, prog_10_method_9_code, some .int) 0 [(0, .ref (D 7 s)), (1, .int (nI 6))] [] (hk M T cs) (fun r9 => r9 = ((some (.int (sg 53 s)), hk M T cs)))
  refine r_iload_n rfl dc_10_9_0 ?_
  refine r_swIn (off := 49) (t := 50) (by decide +kernel) (by decide +kernel) (by decide +kernel) (by decide) dc_10_9_1 ?_
  refine r_aload_n rfl dc_10_9_50 ?_
  refine h_get (t := (11, 0, rl [(6, D 9 s), (5, D 8 s)])) (v := .int (sg 53 s)) fx_11_37 hS hSC (show some (Value.int _) = _ from congrArg (fun z => some (Value.int z)) (f2)) dc_10_9_51 ?_
  exact r_iret rfl dc_10_9_54 (rfl)
set_option maxHeartbeats 4000000 in
theorem k_self_7 (M : mH) (T : Nat → mT) (cs : Nat → Nat → Int32) (sg : Nat → Nat → Int32) (D : Nat → Nat → Nat) (s wm : Nat) (hs : StR M T cs sg D s wm) (hw4 : wm ≤ 4) : mm_Ev 1 177 [.ref (D 7 s), .int (nI 7)] (hk M T cs) ((some (.int (sg 54 s)), hk M T cs)) := by
  obtain ⟨hS, hSC, ⟨hT8, hC8, hT9, hC9⟩, ⟨f0, f1, f2, f3, f4, f7, f8, f10⟩, ft, fw, fs1, fs0⟩ := id hs
  refine r_ev (by decide +kernel) (show (2 : Nat) ≤ mm_nL 177 by decide +kernel) ?_
  show mm_Ru 0 (11, 2, false, prog_10_method_9_code, some .int) 0 [(0, .ref (D 7 s)), (1, .int (nI 7))] [] (hk M T cs) (fun r9 => r9 = ((some (.int (sg 54 s)), hk M T cs)))
  refine r_iload_n rfl dc_10_9_0 ?_
  refine r_swIn (off := 54) (t := 55) (by decide +kernel) (by decide +kernel) (by decide +kernel) (by decide) dc_10_9_1 ?_
  refine r_aload_n rfl dc_10_9_55 ?_
  refine h_get (t := (11, 0, rl [(6, D 9 s), (5, D 8 s)])) (v := .int (sg 54 s)) fx_11_40 hS hSC (show some (Value.int _) = _ from congrArg (fun z => some (Value.int z)) (f3)) dc_10_9_56 ?_
  exact r_iret rfl dc_10_9_59 (rfl)
set_option maxHeartbeats 4000000 in
theorem k_self_8 (M : mH) (T : Nat → mT) (cs : Nat → Nat → Int32) (sg : Nat → Nat → Int32) (D : Nat → Nat → Nat) (s wm : Nat) (hs : StR M T cs sg D s wm) (hw4 : wm ≤ 4) : mm_Ev 1 177 [.ref (D 7 s), .int (nI 8)] (hk M T cs) ((some (.int (sg 55 s)), hk M T cs)) := by
  obtain ⟨hS, hSC, ⟨hT8, hC8, hT9, hC9⟩, ⟨f0, f1, f2, f3, f4, f7, f8, f10⟩, ft, fw, fs1, fs0⟩ := id hs
  refine r_ev (by decide +kernel) (show (2 : Nat) ≤ mm_nL 177 by decide +kernel) ?_
  show mm_Ru 0 (11, 2, false, prog_10_method_9_code, some .int) 0 [(0, .ref (D 7 s)), (1, .int (nI 8))] [] (hk M T cs) (fun r9 => r9 = ((some (.int (sg 55 s)), hk M T cs)))
  refine r_iload_n rfl dc_10_9_0 ?_
  refine r_swIn (off := 59) (t := 60) (by decide +kernel) (by decide +kernel) (by decide +kernel) (by decide) dc_10_9_1 ?_
  refine r_aload_n rfl dc_10_9_60 ?_
  refine h_get (t := (11, 0, rl [(6, D 9 s), (5, D 8 s)])) (v := .int (sg 55 s)) fx_11_43 hS hSC (show some (Value.int _) = _ from congrArg (fun z => some (Value.int z)) (f4)) dc_10_9_61 ?_
  exact r_iret rfl dc_10_9_64 (rfl)
set_option maxHeartbeats 4000000 in
theorem k_self_9 (M : mH) (T : Nat → mT) (cs : Nat → Nat → Int32) (sg : Nat → Nat → Int32) (D : Nat → Nat → Nat) (s wm : Nat) (hs : StR M T cs sg D s wm) (hw4 : wm ≤ 4) : mm_Ev 1 177 [.ref (D 7 s), .int (nI 9)] (hk M T cs) ((some (.int (nI wm)), hk M T cs)) := by
  obtain ⟨hS, hSC, ⟨hT8, hC8, hT9, hC9⟩, ⟨f0, f1, f2, f3, f4, f7, f8, f10⟩, ft, fw, fs1, fs0⟩ := id hs
  refine r_ev (by decide +kernel) (show (2 : Nat) ≤ mm_nL 177 by decide +kernel) ?_
  show mm_Ru 0 (11, 2, false, prog_10_method_9_code, some .int) 0 [(0, .ref (D 7 s)), (1, .int (nI 9))] [] (hk M T cs) (fun r9 => r9 = ((some (.int (nI wm)), hk M T cs)))
  refine r_iload_n rfl dc_10_9_0 ?_
  refine r_swIn (off := 64) (t := 65) (by decide +kernel) (by decide +kernel) (by decide +kernel) (by decide) dc_10_9_1 ?_
  refine r_aload_n rfl dc_10_9_65 ?_
  refine h_get (t := (11, 0, rl [(6, D 9 s), (5, D 8 s)])) (v := .int (nI wm)) fx_11_18 hS hSC (show some (Value.int _) = _ from congrArg (fun z => some (Value.int z)) (f7)) dc_10_9_66 ?_
  exact r_iret rfl dc_10_9_69 (rfl)
set_option maxHeartbeats 4000000 in
theorem k_self_n (M : mH) (T : Nat → mT) (cs : Nat → Nat → Int32) (sg : Nat → Nat → Int32) (D : Nat → Nat → Nat) (s wm : Nat) (hs : StR M T cs sg D s wm) (hw4 : wm ≤ 4) (x : Int32) (hx : x.toInt < 4 ∨ 9 < x.toInt) : mm_Ev 1 177 [.ref (D 7 s), .int x] (hk M T cs) ((some (.int (-1)), hk M T cs)) := by
  obtain ⟨hS, hSC, ⟨hT8, hC8, hT9, hC9⟩, ⟨f0, f1, f2, f3, f4, f7, f8, f10⟩, ft, fw, fs1, fs0⟩ := id hs
  refine r_ev (by decide +kernel) (show (2 : Nat) ≤ mm_nL 177 by decide +kernel) ?_
  show mm_Ru 0 (11, 2, false, prog_10_method_9_code, some .int) 0 [(0, .ref (D 7 s)), (1, .int x)] [] (hk M T cs) (fun r9 => r9 = ((some (.int (-1)), hk M T cs)))
  refine r_iload_n rfl dc_10_9_0 ?_
  refine r_swOut (t := 70) (hx) (by decide) dc_10_9_1 ?_
  refine r_iconst (v := -1) (by decide) dc_10_9_70 ?_
  exact r_iret rfl dc_10_9_71 (rfl)
