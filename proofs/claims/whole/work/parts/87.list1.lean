/-! lists that grow -/
theorem dc_25_1_0 : decode prog_25_method_1_code 0 = .ok (.aload_n 0, 1) := by decide +kernel
theorem dc_25_1_1 : decode prog_25_method_1_code 1 = .ok (.invokespecial 1, 3) := by decide +kernel
theorem dc_25_1_4 : decode prog_25_method_1_code 4 = .ok (.return_, 1) := by decide +kernel
theorem dc_26_1_0 : decode prog_26_method_1_code 0 = .ok (.aload_n 0, 1) := by decide +kernel
theorem dc_26_1_1 : decode prog_26_method_1_code 1 = .ok (.invokespecial 1, 3) := by decide +kernel
theorem dc_26_1_4 : decode prog_26_method_1_code 4 = .ok (.aload_n 0, 1) := by decide +kernel
theorem dc_26_1_5 : decode prog_26_method_1_code 5 = .ok (.iconst 0, 1) := by decide +kernel
theorem dc_26_1_6 : decode prog_26_method_1_code 6 = .ok (.putfield 7, 3) := by decide +kernel
theorem dc_26_1_9 : decode prog_26_method_1_code 9 = .ok (.return_, 1) := by decide +kernel
theorem dc_27_2_0 : decode prog_27_method_2_code 0 = .ok (.aload_n 0, 1) := by decide +kernel
theorem dc_27_2_1 : decode prog_27_method_2_code 1 = .ok (.invokespecial 1, 3) := by decide +kernel
theorem dc_27_2_4 : decode prog_27_method_2_code 4 = .ok (.aload_n 0, 1) := by decide +kernel
theorem dc_27_2_5 : decode prog_27_method_2_code 5 = .ok (.getstatic 39, 3) := by decide +kernel
theorem dc_27_2_8 : decode prog_27_method_2_code 8 = .ok (.putfield 9, 3) := by decide +kernel
theorem dc_27_2_11 : decode prog_27_method_2_code 11 = .ok (.return_, 1) := by decide +kernel
theorem dc_27_6_0 : decode prog_27_method_6_code 0 = .ok (.aload_n 0, 1) := by decide +kernel
theorem dc_27_6_1 : decode prog_27_method_6_code 1 = .ok (.getfield 9, 3) := by decide +kernel
theorem dc_27_6_4 : decode prog_27_method_6_code 4 = .ok (.arraylength, 1) := by decide +kernel
theorem dc_27_6_5 : decode prog_27_method_6_code 5 = .ok (.istore_n 2, 1) := by decide +kernel
theorem dc_27_6_6 : decode prog_27_method_6_code 6 = .ok (.iload_n 2, 1) := by decide +kernel
theorem dc_27_6_7 : decode prog_27_method_6_code 7 = .ok (.ifCond .gt 13, 3) := by decide +kernel
theorem dc_27_6_10 : decode prog_27_method_6_code 10 = .ok (.aload_n 0, 1) := by decide +kernel
theorem dc_27_6_11 : decode prog_27_method_6_code 11 = .ok (.getfield 9, 3) := by decide +kernel
theorem dc_27_6_14 : decode prog_27_method_6_code 14 = .ok (.getstatic 39, 3) := by decide +kernel
theorem dc_27_6_17 : decode prog_27_method_6_code 17 = .ok (.if_acmp .eq 28, 3) := by decide +kernel
theorem dc_27_6_20 : decode prog_27_method_6_code 20 = .ok (.iload_n 2, 1) := by decide +kernel
theorem dc_27_6_21 : decode prog_27_method_6_code 21 = .ok (.iload_n 1, 1) := by decide +kernel
theorem dc_27_6_22 : decode prog_27_method_6_code 22 = .ok (.iload_n 2, 1) := by decide +kernel
theorem dc_27_6_23 : decode prog_27_method_6_code 23 = .ok (.isub, 1) := by decide +kernel
theorem dc_27_6_24 : decode prog_27_method_6_code 24 = .ok (.iload_n 2, 1) := by decide +kernel
theorem dc_27_6_25 : decode prog_27_method_6_code 25 = .ok (.iconst 1, 1) := by decide +kernel
theorem dc_27_6_26 : decode prog_27_method_6_code 26 = .ok (.ishr, 1) := by decide +kernel
theorem dc_27_6_27 : decode prog_27_method_6_code 27 = .ok (.invokestatic 73, 3) := by decide +kernel
theorem dc_27_6_30 : decode prog_27_method_6_code 30 = .ok (.istore_n 3, 1) := by decide +kernel
theorem dc_27_6_31 : decode prog_27_method_6_code 31 = .ok (.aload_n 0, 1) := by decide +kernel
theorem dc_27_6_32 : decode prog_27_method_6_code 32 = .ok (.aload_n 0, 1) := by decide +kernel
theorem dc_27_6_33 : decode prog_27_method_6_code 33 = .ok (.getfield 9, 3) := by decide +kernel
theorem dc_27_6_36 : decode prog_27_method_6_code 36 = .ok (.iload_n 3, 1) := by decide +kernel
theorem dc_27_6_37 : decode prog_27_method_6_code 37 = .ok (.invokestatic 66, 3) := by decide +kernel
theorem dc_27_6_40 : decode prog_27_method_6_code 40 = .ok (.dup_x1, 1) := by decide +kernel
theorem dc_27_6_41 : decode prog_27_method_6_code 41 = .ok (.putfield 9, 3) := by decide +kernel
theorem dc_27_6_44 : decode prog_27_method_6_code 44 = .ok (.areturn, 1) := by decide +kernel
theorem dc_27_6_45 : decode prog_27_method_6_code 45 = .ok (.aload_n 0, 1) := by decide +kernel
theorem dc_27_6_46 : decode prog_27_method_6_code 46 = .ok (.bipush 10, 2) := by decide +kernel
theorem dc_27_6_48 : decode prog_27_method_6_code 48 = .ok (.iload_n 1, 1) := by decide +kernel
theorem dc_27_6_49 : decode prog_27_method_6_code 49 = .ok (.invokestatic 79, 3) := by decide +kernel
theorem dc_27_6_52 : decode prog_27_method_6_code 52 = .ok (.anewarray 7, 3) := by decide +kernel
theorem dc_27_6_55 : decode prog_27_method_6_code 55 = .ok (.dup_x1, 1) := by decide +kernel
theorem dc_27_6_56 : decode prog_27_method_6_code 56 = .ok (.putfield 9, 3) := by decide +kernel
theorem dc_27_6_59 : decode prog_27_method_6_code 59 = .ok (.areturn, 1) := by decide +kernel
theorem dc_27_7_0 : decode prog_27_method_7_code 0 = .ok (.aload_n 0, 1) := by decide +kernel
theorem dc_27_7_1 : decode prog_27_method_7_code 1 = .ok (.aload_n 0, 1) := by decide +kernel
theorem dc_27_7_2 : decode prog_27_method_7_code 2 = .ok (.getfield 48, 3) := by decide +kernel
theorem dc_27_7_5 : decode prog_27_method_7_code 5 = .ok (.iconst 1, 1) := by decide +kernel
theorem dc_27_7_6 : decode prog_27_method_7_code 6 = .ok (.iadd, 1) := by decide +kernel
theorem dc_27_7_7 : decode prog_27_method_7_code 7 = .ok (.invokevirtual 69, 3) := by decide +kernel
theorem dc_27_7_10 : decode prog_27_method_7_code 10 = .ok (.areturn, 1) := by decide +kernel
theorem dc_28_119_0 : decode prog_28_method_119_code 0 = .ok (.aload_n 0, 1) := by decide +kernel
theorem dc_28_119_1 : decode prog_28_method_119_code 1 = .ok (.iload_n 1, 1) := by decide +kernel
theorem dc_28_119_2 : decode prog_28_method_119_code 2 = .ok (.aload_n 0, 1) := by decide +kernel
theorem dc_28_119_3 : decode prog_28_method_119_code 3 = .ok (.invokevirtual 86, 3) := by decide +kernel
theorem dc_28_119_6 : decode prog_28_method_119_code 6 = .ok (.invokestatic 300, 3) := by decide +kernel
theorem dc_28_119_9 : decode prog_28_method_119_code 9 = .ok (.areturn, 1) := by decide +kernel
theorem dc_28_120_0 : decode prog_28_method_120_code 0 = .ok (.aload_n 2, 1) := by decide +kernel
theorem dc_28_120_1 : decode prog_28_method_120_code 1 = .ok (.ldc 110, 2) := by decide +kernel
theorem dc_28_120_3 : decode prog_28_method_120_code 3 = .ok (.if_acmp .ne 10, 3) := by decide +kernel
theorem dc_28_120_6 : decode prog_28_method_120_code 6 = .ok (.iload_n 1, 1) := by decide +kernel
theorem dc_28_120_7 : decode prog_28_method_120_code 7 = .ok (.anewarray 2, 3) := by decide +kernel
theorem dc_28_120_10 : decode prog_28_method_120_code 10 = .ok (.goto 14, 3) := by decide +kernel
theorem dc_28_120_24 : decode prog_28_method_120_code 24 = .ok (.astore_n 3, 1) := by decide +kernel
theorem dc_28_120_25 : decode prog_28_method_120_code 25 = .ok (.aload_n 0, 1) := by decide +kernel
theorem dc_28_120_26 : decode prog_28_method_120_code 26 = .ok (.iconst 0, 1) := by decide +kernel
theorem dc_28_120_27 : decode prog_28_method_120_code 27 = .ok (.aload_n 3, 1) := by decide +kernel
theorem dc_28_120_28 : decode prog_28_method_120_code 28 = .ok (.iconst 0, 1) := by decide +kernel
theorem dc_28_120_29 : decode prog_28_method_120_code 29 = .ok (.aload_n 0, 1) := by decide +kernel
theorem dc_28_120_30 : decode prog_28_method_120_code 30 = .ok (.arraylength, 1) := by decide +kernel
theorem dc_28_120_31 : decode prog_28_method_120_code 31 = .ok (.iload_n 1, 1) := by decide +kernel
theorem dc_28_120_32 : decode prog_28_method_120_code 32 = .ok (.invokestatic 304, 3) := by decide +kernel
theorem dc_28_120_35 : decode prog_28_method_120_code 35 = .ok (.invokestatic 150, 3) := by decide +kernel
theorem dc_28_120_38 : decode prog_28_method_120_code 38 = .ok (.aload_n 3, 1) := by decide +kernel
theorem dc_28_120_39 : decode prog_28_method_120_code 39 = .ok (.areturn, 1) := by decide +kernel
theorem dc_34_27_0 : decode prog_34_method_27_code 0 = .ok (.iload_n 0, 1) := by decide +kernel
theorem dc_34_27_1 : decode prog_34_method_27_code 1 = .ok (.iload_n 1, 1) := by decide +kernel
theorem dc_34_27_2 : decode prog_34_method_27_code 2 = .ok (.iload_n 2, 1) := by decide +kernel
theorem dc_34_27_3 : decode prog_34_method_27_code 3 = .ok (.invokestatic 194, 3) := by decide +kernel
theorem dc_34_27_6 : decode prog_34_method_27_code 6 = .ok (.iadd, 1) := by decide +kernel
theorem dc_34_27_7 : decode prog_34_method_27_code 7 = .ok (.istore_n 3, 1) := by decide +kernel
theorem dc_34_27_8 : decode prog_34_method_27_code 8 = .ok (.iconst 0, 1) := by decide +kernel
theorem dc_34_27_9 : decode prog_34_method_27_code 9 = .ok (.iload_n 3, 1) := by decide +kernel
theorem dc_34_27_10 : decode prog_34_method_27_code 10 = .ok (.if_icmp .ge 11, 3) := by decide +kernel
theorem dc_34_27_13 : decode prog_34_method_27_code 13 = .ok (.iload_n 3, 1) := by decide +kernel
theorem dc_34_27_14 : decode prog_34_method_27_code 14 = .ok (.ldc 200, 2) := by decide +kernel
theorem dc_34_27_16 : decode prog_34_method_27_code 16 = .ok (.if_icmp .gt 5, 3) := by decide +kernel
theorem dc_34_27_19 : decode prog_34_method_27_code 19 = .ok (.iload_n 3, 1) := by decide +kernel
theorem dc_34_27_20 : decode prog_34_method_27_code 20 = .ok (.ireturn, 1) := by decide +kernel
theorem iv_15_s300 : mm_iv 15 (.invokestatic 300) = some (0, 36) := by decide +kernel
theorem iv_15_s304 : mm_iv 15 (.invokestatic 304) = some (0, 37) := by decide +kernel
theorem iv_16_i1 : mm_iv 16 (.invokespecial 1) = some (2, 9) := by decide +kernel
theorem iv_17_i1 : mm_iv 17 (.invokespecial 1) = some (7, 0) := by decide +kernel
theorem iv_18_s194 : mm_iv 18 (.invokestatic 194) = some (0, 33) := by decide +kernel
theorem iv_6_i1 : mm_iv 6 (.invokespecial 1) = some (2, 8) := by decide +kernel
theorem iv_6_s66 : mm_iv 6 (.invokestatic 66) = some (0, 35) := by decide +kernel
theorem iv_6_s73 : mm_iv 6 (.invokestatic 73) = some (0, 32) := by decide +kernel
theorem iv_6_s79 : mm_iv 6 (.invokestatic 79) = some (0, 33) := by decide +kernel
theorem iv_6_v69 : mm_iv 6 (.invokevirtual 69) = some (1, 31) := by decide +kernel
theorem nr_18_200 : mm_nr 18 200 = some (nI 2147483639) := by decide +kernel
theorem o_31 : mm_o 31 = 6 := by decide +kernel
theorem na_0_32 : mm_nas 0 32 = 3 := by decide +kernel
theorem na_0_35 : mm_nas 0 35 = 2 := by decide +kernel
theorem na_0_36 : mm_nas 0 36 = 3 := by decide +kernel
theorem na_1_31 : mm_nas 1 31 = 2 := by decide +kernel
theorem na_2_8 : mm_nas 2 8 = 1 := by decide +kernel
theorem na_2_9 : mm_nas 2 9 = 1 := by decide +kernel
theorem mk_n0 : (Sum.inr (0, mm_df 0) : va_E) = mk_c (0, 0, fun _ => none) (fun _ => 0) := by rfl
theorem mk_n1 : (Sum.inr (1, mm_df 1) : va_E) = mk_c (1, 0, fun _ => none) (fun _ => 0) := by rfl
theorem mk_n2 : (Sum.inr (2, mm_df 2) : va_E) = mk_c (2, 0, fun _ => none) (fun _ => 0) := by rfl
theorem mk_n3 : (Sum.inr (3, mm_df 3) : va_E) = mk_c (3, 0, fun _ => none) (fun _ => 0) := by rfl
theorem mk_n4 : (Sum.inr (4, mm_df 4) : va_E) = mk_c (4, 0, fun _ => none) (fun _ => 0) := by rfl
theorem mk_n5 : (Sum.inr (5, mm_df 5) : va_E) = mk_c (5, 0, fun _ => none) (fun _ => 0) := by rfl
theorem mk_n6 : (Sum.inr (6, mm_df 6) : va_E) = mk_c (6, 0, fun _ => none) (fun _ => 0) := by rfl
theorem mk_n7 : (Sum.inr (7, mm_df 7) : va_E) = mk_c (7, 0, fun _ => none) (fun _ => 0) := by rfl
theorem mk_n8 : (Sum.inr (8, mm_df 8) : va_E) = mk_c (8, 0, fun _ => none) (fun _ => 0) := by rfl
theorem mk_n9 : (Sum.inr (9, mm_df 9) : va_E) = mk_c (9, 0, fun _ => none) (fun _ => 0) := by rfl
theorem mk_n10 : (Sum.inr (10, mm_df 10) : va_E) = mk_c (10, 0, fun _ => none) (fun _ => 0) := by rfl
theorem mk_n11 : (Sum.inr (11, mm_df 11) : va_E) = mk_c (11, 0, fun _ => none) (fun _ => 0) := by rfl
theorem mk_n12 : (Sum.inr (12, mm_df 12) : va_E) = mk_c (12, 0, fun _ => none) (fun _ => 0) := by rfl
set_option maxHeartbeats 4000000 in
theorem k_iAC (M : mH) (T : Nat → mT) (cs : Nat → Nat → Int32) (a : Nat) (hT : T a = (6, 0, fun _ => none)) (ha : inC M a) : mm_Ev 1 9 [.ref a] (hk M T cs) ((none, hk M T cs)) := by
  refine r_ev (by decide +kernel) (show (1 : Nat) ≤ mm_nL 9 by decide +kernel) ?_
  show mm_Ru 0 (17, 1, true, prog_25_method_1_code, none) 0 [(0, .ref a)] [] (hk M T cs) (fun r9 => r9 = ((none, hk M T cs)))
  refine r_aload_n rfl dc_25_1_0 ?_
  refine r_obj (C := (17, 1, true, prog_25_method_1_code, none)) (j := 0) dc_25_1_1 rfl rfl iv_17_i1 (show (0 : Nat) ≤ 8 by decide) ?_
  exact r_vret rfl dc_25_1_4 (rfl)
set_option maxHeartbeats 4000000 in
theorem k_iLi (M : mH) (T : Nat → mT) (cs : Nat → Nat → Int32) (a : Nat) (hT : T a = (6, 0, fun _ => none)) (ha : inC M a) : mm_Ev 2 8 [.ref a] (hk M T cs) ((none, hk M T (w1 cs a 2 (nI 0)))) := by
  refine r_ev (by decide +kernel) (show (1 : Nat) ≤ mm_nL 8 by decide +kernel) ?_
  show mm_Ru 1 (16, 1, true, prog_26_method_1_code, none) 0 [(0, .ref a)] [] (hk M T cs) (fun r9 => r9 = ((none, hk M T (w1 cs a 2 (nI 0)))))
  refine r_aload_n rfl dc_26_1_0 ?_
  refine h_callI (as := []) (rest := []) (M1 := hk M T cs) rfl rfl iv_16_i1 (Or.inl rfl) na_2_9 rfl (show (0 : Nat) ≤ 8 by decide) dc_26_1_1 (k_iAC M T cs a hT ha) ?_
  refine r_aload_n rfl dc_26_1_4 ?_
  refine r_iconst (v := nI 0) (by decide) dc_26_1_5 ?_
  refine h_pint (t := (6, 0, fun _ => none)) fx_16_7 hT ha (Or.inl fn_6_2) ty_6_2 (pi_6_2 _ _ _ _) dc_26_1_6 ?_
  exact r_vret rfl dc_26_1_9 (rfl)
set_option maxHeartbeats 4000000 in
theorem k_iAL (M : mH) (T : Nat → mT) (cs : Nat → Nat → Int32) (a : Nat) (hT : T a = (6, 0, fun _ => none)) (ha : inC M a) : mm_Ev 3 7 [.ref a] (hk M T cs) ((none, hk M (va_up T a (6, 0, rl [(0, 1000000)])) (w1 cs a 2 (nI 0)))) := by
  refine r_ev (by decide +kernel) (show (1 : Nat) ≤ mm_nL 7 by decide +kernel) ?_
  show mm_Ru 2 (6, 1, true, prog_27_method_2_code, none) 0 [(0, .ref a)] [] (hk M T cs) (fun r9 => r9 = ((none, hk M (va_up T a (6, 0, rl [(0, 1000000)])) (w1 cs a 2 (nI 0)))))
  refine r_aload_n rfl dc_27_2_0 ?_
  refine h_callI (as := []) (rest := []) (M1 := hk M T (w1 cs a 2 (nI 0))) rfl rfl iv_6_i1 (Or.inl rfl) na_2_8 rfl (show (0 : Nat) ≤ 8 by decide) dc_27_2_1 (k_iLi M T cs a hT ha) ?_
  refine r_aload_n rfl dc_27_2_4 ?_
  refine h_gst (v := .ref 1000000) (by decide) dc_27_2_5 ?_
  refine h_pref (t := (6, 0, fun _ => none)) (t2 := (6, 0, rl [(0, 1000000)])) fx_6_9 hT ha (Or.inl fn_6_0) rfl rfl (rfl) dc_27_2_8 ?_
  show mm_Ru 2 (6, 1, true, prog_27_method_2_code, none) 11 [(0, .ref a)] [] (hk M (va_up T a ((6, 0, rl [(0, 1000000)]))) (w1 cs a 2 (nI 0))) (fun r9 => r9 = ((none, hk M (va_up T a (6, 0, rl [(0, 1000000)])) (w1 cs a 2 (nI 0)))))
  exact r_vret rfl dc_27_2_11 (rfl)
set_option maxHeartbeats 4000000 in
theorem k_newLen (N : mH) (c g : Nat) (hc : c ≤ 1000) (hg : g ≤ 1000) : mm_Ev 2 32 [.int (nI c), .int (nI 1), .int (nI g)] (N) ((some (.int (nI (c + max 1 g))), N)) := by
  refine r_ev (by decide +kernel) (show (3 : Nat) ≤ mm_nL 32 by decide +kernel) ?_
  show mm_Ru 1 (18, 4, false, prog_34_method_27_code, some .int) 0 [(0, .int (nI c)), (1, .int (nI 1)), (2, .int (nI g))] [] (N) (fun r9 => r9 = ((some (.int (nI (c + max 1 g))), N)))
  refine r_iload_n rfl dc_34_27_0 ?_
  refine r_iload_n rfl dc_34_27_1 ?_
  refine r_iload_n rfl dc_34_27_2 ?_
  refine h_callS (as := [.int (nI 1), .int (nI g)]) (rest := [.int (nI c)]) (v := .int (nI (max 1 g))) rfl rfl iv_18_s194 (Or.inl rfl) na_0_33 rfl (show (1 : Nat) ≤ 8 by decide) dc_34_27_3 (by have h9 := k_max N (nI 1) (nI g); rw [mx_n (by omega) (by omega)] at h9; exact h9) ?_
  refine r_iadd (v := nI (c + (max 1 g))) (nI_add _ _) dc_34_27_6 ?_
  refine r_istore_n (ls' := [(3, .int (nI (c + (max 1 g)))), (0, .int (nI c)), (1, .int (nI 1)), (2, .int (nI g))]) (by decide) rfl dc_34_27_7 ?_
  refine r_iconst (v := nI 0) (by decide) dc_34_27_8 ?_
  refine r_iload_n rfl dc_34_27_9 ?_
  refine r_ncge (t := 21) (by omega) (by omega) (by decide) dc_34_27_10 (fun c_10 => ?_) (fun c_10 => ?_)
  · omega
  · skip
    refine r_iload_n rfl dc_34_27_13 ?_
    refine r_ldc (v := nI 2147483639) nr_18_200 dc_34_27_14 ?_
    refine r_ncgt (t := 21) (by omega) (by omega) (by decide) dc_34_27_16 (fun c_16 => ?_) (fun c_16 => ?_)
    · omega
    · skip
      refine r_iload_n rfl dc_34_27_19 ?_
      exact r_iret rfl dc_34_27_20 (rfl)
theorem h_casta {d o nL pc : Nat} {ini : Bool} {b : ByteArray} {ret : Option FieldType} {ls : List (Nat × Value)} {st : List Value} {M : mH} {T : Nat → mT} {cs : Nat → Nat → Int32} {R : Option Value × mH → Prop} {x a n u : Nat} {r : Nat → Option Nat} (hT : T a = (23, n, r)) (ha : inC M a) (hx : mm_ka o x = some u ∧ u = 3) (hd : decode b pc = .ok (.checkcast x, 3)) (kk : mm_Ru d (o, nL, ini, b, ret) (pc + 3) ls (.ref a :: st) (hk M T cs) R) : mm_Ru d (o, nL, ini, b, ret) pc ls (.ref a :: st) (hk M T cs) R := r_st (C := (o, nL, ini, b, ret)) hd rfl rfl rfl (by
  simp only [mm_st]
  rw [if_pos (show a < (hk M T cs).1 from ha.1), hk_at ha, hT]
  show (if mm_ka o x = some 3 then some (pc + 3, ls, Value.ref a :: st, hk M T cs) else none) = _
  rw [if_pos (by rw [hx.1, hx.2])]) kk
set_option maxHeartbeats 4000000 in
theorem k_cpA (M : mH) (hlo : 157 ≤ M.1) (hhi : M.1 ≤ 900000) (T : Nat → mT) (cs : Nat → Nat → Int32) (a c n : Nat) (r : Nat → Option Nat) (hT : T a = (23, c, r)) (ha : inC M a) (hel : ∀ i y, i < c → r i = some y → inC M y ∧ (T y).1 < 14) (hc : c ≤ n) (hn : n ≤ 1000) : mm_Ev 2 36 [.ref a, .int (nI n), .ref 1000008] (hk M T cs) ((some (.ref M.1), hk (mnew M n) (va_up (va_up T M.1 (23, n, fun _ => none)) M.1 (23, n, va_cpy r (fun _ => none) 0 0 c)) (wA cs M.1 (fun _ => 0)))) := by
  have ha1 := ha.1
  refine r_ev (by decide +kernel) (show (3 : Nat) ≤ mm_nL 36 by decide +kernel) ?_
  show mm_Ru 1 (15, 4, false, prog_28_method_120_code, some (.array (.object "java/lang/Object"))) 0 [(0, .ref a), (1, .int (nI n)), (2, .ref 1000008)] [] (hk M T cs) (fun r9 => r9 = ((some (.ref M.1), hk (mnew M n) (va_up (va_up T M.1 (23, n, fun _ => none)) M.1 (23, n, va_cpy r (fun _ => none) 0 0 c)) (wA cs M.1 (fun _ => 0)))))
  refine r_aload_n rfl dc_28_120_0 ?_
  refine r_ldcA (a := 1000008) (by decide +kernel) (by decide +kernel) dc_28_120_1 ?_
  refine r_acN (by decide +kernel) (by decide) dc_28_120_3 ?_
  refine r_iload_n rfl dc_28_120_6 ?_
  refine h_newa (n := n) (by decide) (by show M.1 < 1000000; omega) (by show ¬ (100 ≤ M.1 ∧ M.1 < 157); omega) (by omega) dc_28_120_7 ?_
  show mm_Ru 1 (15, 4, false, prog_28_method_120_code, some (.array (.object "java/lang/Object"))) 10 [(0, .ref a), (1, .int (nI n)), (2, .ref 1000008)] [.ref M.1] (hk (mnew M n) (va_up T M.1 ((23, n, fun _ => none))) (wA cs M.1 (fun _ => 0))) (fun r9 => r9 = ((some (.ref M.1), hk (mnew M n) (va_up (va_up T M.1 (23, n, fun _ => none)) M.1 (23, n, va_cpy r (fun _ => none) 0 0 c)) (wA cs M.1 (fun _ => 0)))))
  refine r_goto (t := 24) (by decide) dc_28_120_10 ?_
  refine r_astore_n (ls' := [(3, .ref M.1), (0, .ref a), (1, .int (nI n)), (2, .ref 1000008)]) (by decide) rfl dc_28_120_24 ?_
  refine r_aload_n rfl dc_28_120_25 ?_
  refine r_iconst (v := nI 0) (by decide) dc_28_120_26 ?_
  refine r_aload_n rfl dc_28_120_27 ?_
  refine r_iconst (v := nI 0) (by decide) dc_28_120_28 ?_
  refine r_aload_n rfl dc_28_120_29 ?_
  refine h_len (c := 23) (n := c) ((up_o _ _ (by omega)).trans (hT)) (Or.inr (Or.inl rfl)) ⟨by show a < M.1 + 1; omega, by omega⟩ dc_28_120_30 ?_
  refine r_iload_n rfl dc_28_120_31 ?_
  refine h_callS (as := [.int (nI c), .int (nI n)]) (rest := [.int (nI 0), .ref M.1, .int (nI 0), .ref a]) (v := .int (nI c)) rfl rfl iv_15_s304 (Or.inl rfl) na_0_37 rfl (show (4 : Nat) ≤ 8 by decide) dc_28_120_32 (by have h9 := k_min (hk (mnew M n) (va_up T M.1 ((23, n, fun _ => none))) (wA cs M.1 (fun _ => 0))) (nI c) (nI n); rw [mn_n (by omega) (by omega), Nat.min_eq_left hc] at h9; exact h9) ?_
  refine h_cpa (n := c) (r1 := r) (r2 := fun _ => none) (by decide) ((up_o _ _ (by omega)).trans (hT)) ⟨by show a < M.1 + 1; omega, by omega⟩ ((if_pos rfl)) ⟨by show M.1 < M.1 + 1; omega, by omega⟩ (Nat.le_refl _) hc (by omega) (fun i y hi hr => ⟨⟨Nat.lt_succ_of_lt (hel i y hi hr).1.1, (hel i y hi hr).1.2⟩, by rw [up_o _ _ (Nat.ne_of_lt (hel i y hi hr).1.1)]; exact (hel i y hi hr).2⟩) (by decide) (by decide +kernel) dc_28_120_35 ?_
  show mm_Ru 1 (15, 4, false, prog_28_method_120_code, some (.array (.object "java/lang/Object"))) 38 [(3, .ref M.1), (0, .ref a), (1, .int (nI n)), (2, .ref 1000008)] [] (hk (mnew M n) (va_up (va_up T M.1 ((23, n, fun _ => none))) M.1 ((23, n, va_cpy r (fun _ => none) 0 0 c))) (wA cs M.1 (fun _ => 0))) (fun r9 => r9 = ((some (.ref M.1), hk (mnew M n) (va_up (va_up T M.1 (23, n, fun _ => none)) M.1 (23, n, va_cpy r (fun _ => none) 0 0 c)) (wA cs M.1 (fun _ => 0)))))
  refine r_aload_n rfl dc_28_120_38 ?_
  exact r_aret rfl dc_28_120_39 (rfl)
set_option maxHeartbeats 4000000 in
theorem k_cpB (M : mH) (hlo : 157 ≤ M.1) (hhi : M.1 ≤ 900000) (T : Nat → mT) (cs : Nat → Nat → Int32) (a c n : Nat) (r : Nat → Option Nat) (hT : T a = (23, c, r)) (ha : inC M a) (hel : ∀ i y, i < c → r i = some y → inC M y ∧ (T y).1 < 14) (hc : c ≤ n) (hn : n ≤ 1000) : mm_Ev 3 35 [.ref a, .int (nI n)] (hk M T cs) ((some (.ref M.1), hk (mnew M n) (va_up (va_up T M.1 (23, n, fun _ => none)) M.1 (23, n, va_cpy r (fun _ => none) 0 0 c)) (wA cs M.1 (fun _ => 0)))) := by
  have ha1 := ha.1
  refine r_ev (by decide +kernel) (show (2 : Nat) ≤ mm_nL 35 by decide +kernel) ?_
  show mm_Ru 2 (15, 2, false, prog_28_method_119_code, some (.array (.object "java/lang/Object"))) 0 [(0, .ref a), (1, .int (nI n))] [] (hk M T cs) (fun r9 => r9 = ((some (.ref M.1), hk (mnew M n) (va_up (va_up T M.1 (23, n, fun _ => none)) M.1 (23, n, va_cpy r (fun _ => none) 0 0 c)) (wA cs M.1 (fun _ => 0)))))
  refine r_aload_n rfl dc_28_119_0 ?_
  refine r_iload_n rfl dc_28_119_1 ?_
  refine r_aload_n rfl dc_28_119_2 ?_
  refine h_gcl rfl hT ha (show (2 : Nat) ≤ 8 by decide) (by decide +kernel) dc_28_119_3 ?_
  refine h_callS (as := [.ref a, .int (nI n), .ref 1000008]) (rest := []) (v := .ref M.1) rfl rfl iv_15_s300 (Or.inl rfl) na_0_36 rfl (show (0 : Nat) ≤ 8 by decide) dc_28_119_6 (k_cpA M hlo hhi T cs a c n r hT ha hel hc hn) ?_
  exact r_aret rfl dc_28_119_9 (rfl)
set_option maxHeartbeats 4000000 in
theorem k_grE1 (M : mH) (hlo : 157 ≤ M.1) (hhi : M.1 ≤ 900000) (T : Nat → mT) (cs : Nat → Nat → Int32) (l : Nat) (hL : T l = (6, 0, rl [(0, 1000000)])) (hl : inC M l) (hsz : cs l 1 = nI 0) (hE : M.2.2 1000000 = .inl (3, 0, .inr (.inr (.inr (.inr (fun _ => none)))))) : mm_Ev 2 31 [.ref l, .int (nI 1)] (hk M T cs) ((some (.ref M.1), hk (mnew M 10) (va_up (va_up T M.1 (23, 10, fun _ => none)) l (6, 0, rl [(0, M.1)])) (wA cs M.1 (fun _ => 0)))) := by
  have hl1 := hl.1
  refine r_ev (by decide +kernel) (show (2 : Nat) ≤ mm_nL 31 by decide +kernel) ?_
  show mm_Ru 1 (6, 4, false, prog_27_method_6_code, some (.array (.object "java/lang/Object"))) 0 [(0, .ref l), (1, .int (nI 1))] [] (hk M T cs) (fun r9 => r9 = ((some (.ref M.1), hk (mnew M 10) (va_up (va_up T M.1 (23, 10, fun _ => none)) l (6, 0, rl [(0, M.1)])) (wA cs M.1 (fun _ => 0)))))
  refine r_aload_n rfl dc_27_6_0 ?_
  refine h_get (t := (6, 0, rl [(0, 1000000)])) (v := .ref 1000000) fx_6_9 hL hl (rfl) dc_27_6_1 ?_
  refine h_elen (by show M.1 ≤ 1000000; omega) hE dc_27_6_4 ?_
  refine r_istore_n (ls' := [(2, .int (nI 0)), (0, .ref l), (1, .int (nI 1))]) (by decide) rfl dc_27_6_5 ?_
  refine r_iload_n rfl dc_27_6_6 ?_
  refine r_ifgt (t := 20) (by decide) dc_27_6_7 (fun c_7 => ?_) (fun c_7 => ?_)
  · exact absurd c_7 (by decide)
  · skip
    refine r_aload_n rfl dc_27_6_10 ?_
    refine h_get (t := (6, 0, rl [(0, 1000000)])) (v := .ref 1000000) fx_6_9 hL hl (rfl) dc_27_6_11 ?_
    refine h_gst (v := .ref 1000000) (by decide) dc_27_6_14 ?_
    refine r_acT (t := 45) (by decide) (by decide) dc_27_6_17 ?_
    refine r_aload_n rfl dc_27_6_45 ?_
    refine r_bipush (v := nI 10) (by decide) dc_27_6_46 ?_
    refine r_iload_n rfl dc_27_6_48 ?_
    refine h_callS (as := [.int (nI 10), .int (nI 1)]) (rest := [.ref l]) (v := .int (nI 10)) rfl rfl iv_6_s79 (Or.inl rfl) na_0_33 rfl (show (1 : Nat) ≤ 8 by decide) dc_27_6_49 (by have h9 := k_max (hk M T cs) (nI 10) (nI 1); rw [mx_n (by decide) (by decide)] at h9; exact h9) ?_
    refine h_newa (n := 10) (by decide) (by show M.1 < 1000000; omega) (by show ¬ (100 ≤ M.1 ∧ M.1 < 157); omega) (by omega) dc_27_6_52 ?_
    show mm_Ru 1 (6, 4, false, prog_27_method_6_code, some (.array (.object "java/lang/Object"))) 55 [(2, .int (nI 0)), (0, .ref l), (1, .int (nI 1))] [.ref M.1, .ref l] (hk (mnew M 10) (va_up T M.1 ((23, 10, fun _ => none))) (wA cs M.1 (fun _ => 0))) (fun r9 => r9 = ((some (.ref M.1), hk (mnew M 10) (va_up (va_up T M.1 (23, 10, fun _ => none)) l (6, 0, rl [(0, M.1)])) (wA cs M.1 (fun _ => 0)))))
    refine r_dup_x1 ⟨rfl, rfl⟩ dc_27_6_55 ?_
    refine h_pref (t := (6, 0, rl [(0, 1000000)])) (t2 := (6, 0, rl [(0, M.1)])) fx_6_9 ((up_o _ _ (by omega)).trans (hL)) ⟨by show l < M.1 + 1; omega, by omega⟩ (Or.inl fn_6_0) rfl rfl (rfl) dc_27_6_56 ?_
    show mm_Ru 1 (6, 4, false, prog_27_method_6_code, some (.array (.object "java/lang/Object"))) 59 [(2, .int (nI 0)), (0, .ref l), (1, .int (nI 1))] [.ref M.1] (hk (mnew M 10) (va_up (va_up T M.1 ((23, 10, fun _ => none))) l ((6, 0, rl [(0, M.1)]))) (wA cs M.1 (fun _ => 0))) (fun r9 => r9 = ((some (.ref M.1), hk (mnew M 10) (va_up (va_up T M.1 (23, 10, fun _ => none)) l (6, 0, rl [(0, M.1)])) (wA cs M.1 (fun _ => 0)))))
    exact r_aret rfl dc_27_6_59 (rfl)
set_option maxHeartbeats 4000000 in
theorem k_grE0 (M : mH) (hlo : 157 ≤ M.1) (hhi : M.1 ≤ 900000) (T : Nat → mT) (cs : Nat → Nat → Int32) (l : Nat) (hL : T l = (6, 0, rl [(0, 1000000)])) (hl : inC M l) (hsz : cs l 1 = nI 0) (hE : M.2.2 1000000 = .inl (3, 0, .inr (.inr (.inr (.inr (fun _ => none)))))) : mm_Ev 3 30 [.ref l] (hk M T cs) ((some (.ref M.1), hk (mnew M 10) (va_up (va_up T M.1 (23, 10, fun _ => none)) l (6, 0, rl [(0, M.1)])) (wA cs M.1 (fun _ => 0)))) := by
  have hl1 := hl.1
  refine r_ev (by decide +kernel) (show (1 : Nat) ≤ mm_nL 30 by decide +kernel) ?_
  show mm_Ru 2 (6, 1, false, prog_27_method_7_code, some (.array (.object "java/lang/Object"))) 0 [(0, .ref l)] [] (hk M T cs) (fun r9 => r9 = ((some (.ref M.1), hk (mnew M 10) (va_up (va_up T M.1 (23, 10, fun _ => none)) l (6, 0, rl [(0, M.1)])) (wA cs M.1 (fun _ => 0)))))
  refine r_aload_n rfl dc_27_7_0 ?_
  refine r_aload_n rfl dc_27_7_1 ?_
  refine h_get (t := (6, 0, rl [(0, 1000000)])) (v := .int (nI 0)) fx_6_48 hL hl (show some (Value.int _) = _ from congrArg (fun z => some (Value.int z)) (hsz)) dc_27_7_2 ?_
  refine r_iconst (v := nI 1) (by decide) dc_27_7_5 ?_
  refine r_iadd (v := nI 1) (by decide) dc_27_7_6 ?_
  refine h_callv (t := (6, 0, rl [(0, 1000000)])) (as := [.int (nI 1)]) (rest := []) (v := .ref M.1) (M1 := hk (mnew M 10) (va_up (va_up T M.1 ((23, 10, fun _ => none))) l ((6, 0, rl [(0, M.1)]))) (wA cs M.1 (fun _ => 0))) rfl rfl iv_6_v69 (Or.inl rfl) na_1_31 hL hl (show (6 : Nat) < 14 by decide) o_31 rfl (show (0 : Nat) ≤ 8 by decide) dc_27_7_7 (k_grE1 M hlo hhi T cs l hL hl hsz hE) ?_
  exact r_aret rfl dc_27_7_10 (rfl)
theorem half : ∀ c, c ≤ 100 → nI c >>> (nI 1 &&& 31) = nI (c / 2) := by decide +kernel
set_option maxHeartbeats 4000000 in
theorem k_grF1 (M : mH) (hlo : 157 ≤ M.1) (hhi : M.1 ≤ 900000) (T : Nat → mT) (cs : Nat → Nat → Int32) (l ed c : Nat) (r : Nat → Option Nat) (hL : T l = (6, 0, rl [(0, ed)])) (hl : inC M l) (hsz : cs l 1 = nI c) (hT : T ed = (23, c, r)) (hd : inC M ed) (hel : ∀ i y, i < c → r i = some y → inC M y ∧ (T y).1 < 14) (hc0 : 0 < c) (hc : c ≤ 100) (hne : ¬ l = ed) : mm_Ev 4 31 [.ref l, .int (nI (c + 1))] (hk M T cs) ((some (.ref M.1), hk (mnew M (c + max 1 (c / 2))) (va_up (va_up (va_up T M.1 (23, c + max 1 (c / 2), fun _ => none)) M.1 (23, c + max 1 (c / 2), va_cpy r (fun _ => none) 0 0 c)) l (6, 0, rl [(0, M.1)])) (wA cs M.1 (fun _ => 0)))) := by
  have hl1 := hl.1
  have hd1 := hd.1
  refine r_ev (by decide +kernel) (show (2 : Nat) ≤ mm_nL 31 by decide +kernel) ?_
  show mm_Ru 3 (6, 4, false, prog_27_method_6_code, some (.array (.object "java/lang/Object"))) 0 [(0, .ref l), (1, .int (nI (c + 1)))] [] (hk M T cs) (fun r9 => r9 = ((some (.ref M.1), hk (mnew M (c + max 1 (c / 2))) (va_up (va_up (va_up T M.1 (23, c + max 1 (c / 2), fun _ => none)) M.1 (23, c + max 1 (c / 2), va_cpy r (fun _ => none) 0 0 c)) l (6, 0, rl [(0, M.1)])) (wA cs M.1 (fun _ => 0)))))
  refine r_aload_n rfl dc_27_6_0 ?_
  refine h_get (t := (6, 0, rl [(0, ed)])) (v := .ref ed) fx_6_9 hL hl (rfl) dc_27_6_1 ?_
  refine h_len (c := 23) (n := c) hT (Or.inr (Or.inl rfl)) hd dc_27_6_4 ?_
  refine r_istore_n (ls' := [(2, .int (nI c)), (0, .ref l), (1, .int (nI (c + 1)))]) (by decide) rfl dc_27_6_5 ?_
  refine r_iload_n rfl dc_27_6_6 ?_
  refine r_nzgt (t := 20) (by omega) (by decide) dc_27_6_7 (fun c_7 => ?_) (fun c_7 => ?_)
  · skip
    refine r_iload_n rfl dc_27_6_20 ?_
    refine r_iload_n rfl dc_27_6_21 ?_
    refine r_iload_n rfl dc_27_6_22 ?_
    refine r_isub (v := nI 1) ((nI_sb (by omega)).trans (congrArg nI (by omega))) dc_27_6_23 ?_
    refine r_iload_n rfl dc_27_6_24 ?_
    refine r_iconst (v := nI 1) (by decide) dc_27_6_25 ?_
    refine r_ishr (v := nI (c / 2)) ((half c (by omega))) dc_27_6_26 ?_
    refine h_callS (as := [.int (nI c), .int (nI 1), .int (nI (c / 2))]) (rest := []) (v := .int (nI (c + max 1 (c / 2)))) rfl rfl iv_6_s73 (Or.inl rfl) na_0_32 rfl (show (0 : Nat) ≤ 8 by decide) dc_27_6_27 (mm_Ev_up (by decide : 2 ≤ 3) (k_newLen _ c (c / 2) (by omega) (by omega))) ?_
    refine r_istore_n (ls' := [(3, .int (nI (c + max 1 (c / 2)))), (2, .int (nI c)), (0, .ref l), (1, .int (nI (c + 1)))]) (by decide) rfl dc_27_6_30 ?_
    refine r_aload_n rfl dc_27_6_31 ?_
    refine r_aload_n rfl dc_27_6_32 ?_
    refine h_get (t := (6, 0, rl [(0, ed)])) (v := .ref ed) fx_6_9 hL hl (rfl) dc_27_6_33 ?_
    refine r_iload_n rfl dc_27_6_36 ?_
    refine h_callS (as := [.ref ed, .int (nI (c + max 1 (c / 2)))]) (rest := [.ref l]) (v := .ref M.1) rfl rfl iv_6_s66 (Or.inl rfl) na_0_35 rfl (show (1 : Nat) ≤ 8 by decide) dc_27_6_37 (k_cpB M hlo hhi T cs ed c (c + max 1 (c / 2)) r hT hd hel (by omega) (by omega)) ?_
    refine r_dup_x1 ⟨rfl, rfl⟩ dc_27_6_40 ?_
    refine h_pref (t := (6, 0, rl [(0, ed)])) (t2 := (6, 0, rl [(0, M.1)])) fx_6_9 ((up_o _ _ (by omega)).trans ((up_o _ _ (by omega)).trans (hL))) ⟨by show l < M.1 + 1; omega, by omega⟩ (Or.inl fn_6_0) rfl rfl (rfl) dc_27_6_41 ?_
    show mm_Ru 3 (6, 4, false, prog_27_method_6_code, some (.array (.object "java/lang/Object"))) 44 [(3, .int (nI (c + max 1 (c / 2)))), (2, .int (nI c)), (0, .ref l), (1, .int (nI (c + 1)))] [.ref M.1] (hk (mnew M (c + max 1 (c / 2))) (va_up (va_up (va_up T M.1 ((23, c + max 1 (c / 2), fun _ => none))) M.1 ((23, c + max 1 (c / 2), va_cpy r (fun _ => none) 0 0 c))) l ((6, 0, rl [(0, M.1)]))) (wA cs M.1 (fun _ => 0))) (fun r9 => r9 = ((some (.ref M.1), hk (mnew M (c + max 1 (c / 2))) (va_up (va_up (va_up T M.1 (23, c + max 1 (c / 2), fun _ => none)) M.1 (23, c + max 1 (c / 2), va_cpy r (fun _ => none) 0 0 c)) l (6, 0, rl [(0, M.1)])) (wA cs M.1 (fun _ => 0)))))
    exact r_aret rfl dc_27_6_44 (rfl)
  · omega
set_option maxHeartbeats 4000000 in
theorem k_grF0 (M : mH) (hlo : 157 ≤ M.1) (hhi : M.1 ≤ 900000) (T : Nat → mT) (cs : Nat → Nat → Int32) (l ed c : Nat) (r : Nat → Option Nat) (hL : T l = (6, 0, rl [(0, ed)])) (hl : inC M l) (hsz : cs l 1 = nI c) (hT : T ed = (23, c, r)) (hd : inC M ed) (hel : ∀ i y, i < c → r i = some y → inC M y ∧ (T y).1 < 14) (hc0 : 0 < c) (hc : c ≤ 100) (hne : ¬ l = ed) : mm_Ev 5 30 [.ref l] (hk M T cs) ((some (.ref M.1), hk (mnew M (c + max 1 (c / 2))) (va_up (va_up (va_up T M.1 (23, c + max 1 (c / 2), fun _ => none)) M.1 (23, c + max 1 (c / 2), va_cpy r (fun _ => none) 0 0 c)) l (6, 0, rl [(0, M.1)])) (wA cs M.1 (fun _ => 0)))) := by
  have hl1 := hl.1
  have hd1 := hd.1
  refine r_ev (by decide +kernel) (show (1 : Nat) ≤ mm_nL 30 by decide +kernel) ?_
  show mm_Ru 4 (6, 1, false, prog_27_method_7_code, some (.array (.object "java/lang/Object"))) 0 [(0, .ref l)] [] (hk M T cs) (fun r9 => r9 = ((some (.ref M.1), hk (mnew M (c + max 1 (c / 2))) (va_up (va_up (va_up T M.1 (23, c + max 1 (c / 2), fun _ => none)) M.1 (23, c + max 1 (c / 2), va_cpy r (fun _ => none) 0 0 c)) l (6, 0, rl [(0, M.1)])) (wA cs M.1 (fun _ => 0)))))
  refine r_aload_n rfl dc_27_7_0 ?_
  refine r_aload_n rfl dc_27_7_1 ?_
  refine h_get (t := (6, 0, rl [(0, ed)])) (v := .int (nI c)) fx_6_48 hL hl (show some (Value.int _) = _ from congrArg (fun z => some (Value.int z)) (hsz)) dc_27_7_2 ?_
  refine r_iconst (v := nI 1) (by decide) dc_27_7_5 ?_
  refine r_iadd (v := nI (c + 1)) (nI_add _ _) dc_27_7_6 ?_
  refine h_callv (t := (6, 0, rl [(0, ed)])) (as := [.int (nI (c + 1))]) (rest := []) (v := .ref M.1) (M1 := hk (mnew M (c + max 1 (c / 2))) (va_up (va_up (va_up T M.1 ((23, c + max 1 (c / 2), fun _ => none))) M.1 ((23, c + max 1 (c / 2), va_cpy r (fun _ => none) 0 0 c))) l ((6, 0, rl [(0, M.1)]))) (wA cs M.1 (fun _ => 0))) rfl rfl iv_6_v69 (Or.inl rfl) na_1_31 hL hl (show (6 : Nat) < 14 by decide) o_31 rfl (show (0 : Nat) ≤ 8 by decide) dc_27_7_7 (k_grF1 M hlo hhi T cs l ed c r hL hl hsz hT hd hel hc0 hc hne) ?_
  exact r_aret rfl dc_27_7_10 (rfl)
