/-! the reference: letters, what waits, what is said -/
theorem dc_14_19_0 : decode prog_14_method_19_code 0 = .ok (.aload_n 0, 1) := by decide +kernel
theorem dc_14_19_1 : decode prog_14_method_19_code 1 = .ok (.getfield 93, 3) := by decide +kernel
theorem dc_14_19_4 : decode prog_14_method_19_code 4 = .ok (.aload_n 0, 1) := by decide +kernel
theorem dc_14_19_5 : decode prog_14_method_19_code 5 = .ok (.getfield 240, 3) := by decide +kernel
theorem dc_14_19_8 : decode prog_14_method_19_code 8 = .ok (.iload_n 1, 1) := by decide +kernel
theorem dc_14_19_9 : decode prog_14_method_19_code 9 = .ok (.iastore, 1) := by decide +kernel
theorem dc_14_19_10 : decode prog_14_method_19_code 10 = .ok (.aload_n 0, 1) := by decide +kernel
theorem dc_14_19_11 : decode prog_14_method_19_code 11 = .ok (.aload_n 0, 1) := by decide +kernel
theorem dc_14_19_12 : decode prog_14_method_19_code 12 = .ok (.getfield 240, 3) := by decide +kernel
theorem dc_14_19_15 : decode prog_14_method_19_code 15 = .ok (.iconst 1, 1) := by decide +kernel
theorem dc_14_19_16 : decode prog_14_method_19_code 16 = .ok (.iadd, 1) := by decide +kernel
theorem dc_14_19_17 : decode prog_14_method_19_code 17 = .ok (.putfield 240, 3) := by decide +kernel
theorem dc_14_19_20 : decode prog_14_method_19_code 20 = .ok (.return_, 1) := by decide +kernel
theorem dc_14_20_0 : decode prog_14_method_20_code 0 = .ok (.aload_n 0, 1) := by decide +kernel
theorem dc_14_20_1 : decode prog_14_method_20_code 1 = .ok (.getfield 96, 3) := by decide +kernel
theorem dc_14_20_4 : decode prog_14_method_20_code 4 = .ok (.aload_n 0, 1) := by decide +kernel
theorem dc_14_20_5 : decode prog_14_method_20_code 5 = .ok (.getfield 243, 3) := by decide +kernel
theorem dc_14_20_8 : decode prog_14_method_20_code 8 = .ok (.iload_n 1, 1) := by decide +kernel
theorem dc_14_20_9 : decode prog_14_method_20_code 9 = .ok (.iastore, 1) := by decide +kernel
theorem dc_14_20_10 : decode prog_14_method_20_code 10 = .ok (.aload_n 0, 1) := by decide +kernel
theorem dc_14_20_11 : decode prog_14_method_20_code 11 = .ok (.aload_n 0, 1) := by decide +kernel
theorem dc_14_20_12 : decode prog_14_method_20_code 12 = .ok (.getfield 243, 3) := by decide +kernel
theorem dc_14_20_15 : decode prog_14_method_20_code 15 = .ok (.iconst 1, 1) := by decide +kernel
theorem dc_14_20_16 : decode prog_14_method_20_code 16 = .ok (.iadd, 1) := by decide +kernel
theorem dc_14_20_17 : decode prog_14_method_20_code 17 = .ok (.putfield 243, 3) := by decide +kernel
theorem dc_14_20_20 : decode prog_14_method_20_code 20 = .ok (.return_, 1) := by decide +kernel
theorem dc_14_22_0 : decode prog_14_method_22_code 0 = .ok (.iload_n 0, 1) := by decide +kernel
theorem dc_14_22_1 : decode prog_14_method_22_code 1 = .ok (.ldc 253, 2) := by decide +kernel
theorem dc_14_22_3 : decode prog_14_method_22_code 3 = .ok (.if_icmp .ne 7, 3) := by decide +kernel
theorem dc_14_22_6 : decode prog_14_method_22_code 6 = .ok (.iconst 3, 1) := by decide +kernel
theorem dc_14_22_7 : decode prog_14_method_22_code 7 = .ok (.goto 14, 3) := by decide +kernel
theorem dc_14_22_10 : decode prog_14_method_22_code 10 = .ok (.iload_n 0, 1) := by decide +kernel
theorem dc_14_22_11 : decode prog_14_method_22_code 11 = .ok (.ldc 254, 2) := by decide +kernel
theorem dc_14_22_13 : decode prog_14_method_22_code 13 = .ok (.if_icmp .ne 7, 3) := by decide +kernel
theorem dc_14_22_16 : decode prog_14_method_22_code 16 = .ok (.iconst 2, 1) := by decide +kernel
theorem dc_14_22_17 : decode prog_14_method_22_code 17 = .ok (.goto 4, 3) := by decide +kernel
theorem dc_14_22_20 : decode prog_14_method_22_code 20 = .ok (.iconst 1, 1) := by decide +kernel
theorem dc_14_22_21 : decode prog_14_method_22_code 21 = .ok (.ireturn, 1) := by decide +kernel
theorem dc_14_23_0 : decode prog_14_method_23_code 0 = .ok (.iload_n 0, 1) := by decide +kernel
theorem dc_14_23_1 : decode prog_14_method_23_code 1 = .ok (.bipush 103, 2) := by decide +kernel
theorem dc_14_23_3 : decode prog_14_method_23_code 3 = .ok (.if_icmp .ne 7, 3) := by decide +kernel
theorem dc_14_23_6 : decode prog_14_method_23_code 6 = .ok (.iconst 0, 1) := by decide +kernel
theorem dc_14_23_7 : decode prog_14_method_23_code 7 = .ok (.goto 34, 3) := by decide +kernel
theorem dc_14_23_10 : decode prog_14_method_23_code 10 = .ok (.iload_n 0, 1) := by decide +kernel
theorem dc_14_23_11 : decode prog_14_method_23_code 11 = .ok (.bipush 116, 2) := by decide +kernel
theorem dc_14_23_13 : decode prog_14_method_23_code 13 = .ok (.if_icmp .ne 7, 3) := by decide +kernel
theorem dc_14_23_16 : decode prog_14_method_23_code 16 = .ok (.iconst 1, 1) := by decide +kernel
theorem dc_14_23_17 : decode prog_14_method_23_code 17 = .ok (.goto 24, 3) := by decide +kernel
theorem dc_14_23_20 : decode prog_14_method_23_code 20 = .ok (.iload_n 0, 1) := by decide +kernel
theorem dc_14_23_21 : decode prog_14_method_23_code 21 = .ok (.bipush 99, 2) := by decide +kernel
theorem dc_14_23_23 : decode prog_14_method_23_code 23 = .ok (.if_icmp .ne 7, 3) := by decide +kernel
theorem dc_14_23_26 : decode prog_14_method_23_code 26 = .ok (.iconst 2, 1) := by decide +kernel
theorem dc_14_23_27 : decode prog_14_method_23_code 27 = .ok (.goto 14, 3) := by decide +kernel
theorem dc_14_23_30 : decode prog_14_method_23_code 30 = .ok (.iload_n 0, 1) := by decide +kernel
theorem dc_14_23_31 : decode prog_14_method_23_code 31 = .ok (.bipush 115, 2) := by decide +kernel
theorem dc_14_23_33 : decode prog_14_method_23_code 33 = .ok (.if_icmp .ne 7, 3) := by decide +kernel
theorem dc_14_23_36 : decode prog_14_method_23_code 36 = .ok (.iconst 3, 1) := by decide +kernel
theorem dc_14_23_37 : decode prog_14_method_23_code 37 = .ok (.goto 4, 3) := by decide +kernel
theorem dc_14_23_40 : decode prog_14_method_23_code 40 = .ok (.iconst (-1), 1) := by decide +kernel
theorem dc_14_23_41 : decode prog_14_method_23_code 41 = .ok (.ireturn, 1) := by decide +kernel
def lof (c : Nat) : Int32 := if c = 103 then nI 0 else if c = 116 then nI 1 else if c = 99 then nI 2 else if c = 115 then nI 3 else -1
def bnd (w : Nat) : Nat := if w = 1000002 then 3 else if w = 1000000 then 2 else 1
set_option maxHeartbeats 4000000 in
theorem c_letterOf (M : mH) (v : Nat) (hv : v < 256) : mm_Ev 1 205 [.int (nI v)] (M) ((some (.int (lof v)), M)) := by
  refine r_ev (by decide +kernel) (show (1 : Nat) ≤ mm_nL 205 by decide +kernel) ?_
  show mm_Ru 0 (13, 1, false, prog_14_method_23_code, some .int) 0 [(0, .int (nI v))] [] (M) (fun r9 => r9 = ((some (.int (lof v)), M)))
  refine r_iload_n rfl dc_14_23_0 ?_
  refine r_bipush (v := nI 103) (by decide) dc_14_23_1 ?_
  refine r_ncne (t := 10) (by omega) (by omega) (by decide) dc_14_23_3 (fun c_3 => ?_) (fun c_3 => ?_)
  · skip
    refine r_iload_n rfl dc_14_23_10 ?_
    refine r_bipush (v := nI 116) (by decide) dc_14_23_11 ?_
    refine r_ncne (t := 20) (by omega) (by omega) (by decide) dc_14_23_13 (fun c_13 => ?_) (fun c_13 => ?_)
    · skip
      refine r_iload_n rfl dc_14_23_20 ?_
      refine r_bipush (v := nI 99) (by decide) dc_14_23_21 ?_
      refine r_ncne (t := 30) (by omega) (by omega) (by decide) dc_14_23_23 (fun c_23 => ?_) (fun c_23 => ?_)
      · skip
        refine r_iload_n rfl dc_14_23_30 ?_
        refine r_bipush (v := nI 115) (by decide) dc_14_23_31 ?_
        refine r_ncne (t := 40) (by omega) (by omega) (by decide) dc_14_23_33 (fun c_33 => ?_) (fun c_33 => ?_)
        · skip
          refine r_iconst (v := -1) (by decide) dc_14_23_40 ?_
          refine r_iret rfl dc_14_23_41 ?_
          unfold lof
          rw [if_neg c_3]
          rw [if_neg c_13]
          rw [if_neg c_23]
          rw [if_neg c_33]
        · skip
          refine r_iconst (v := nI 3) (by decide) dc_14_23_36 ?_
          refine r_goto (t := 41) (by decide) dc_14_23_37 ?_
          refine r_iret rfl dc_14_23_41 ?_
          unfold lof
          rw [if_neg c_3]
          rw [if_neg c_13]
          rw [if_neg c_23]
          rw [if_pos c_33]
      · skip
        refine r_iconst (v := nI 2) (by decide) dc_14_23_26 ?_
        refine r_goto (t := 41) (by decide) dc_14_23_27 ?_
        refine r_iret rfl dc_14_23_41 ?_
        unfold lof
        rw [if_neg c_3]
        rw [if_neg c_13]
        rw [if_pos c_23]
    · skip
      refine r_iconst (v := nI 1) (by decide) dc_14_23_16 ?_
      refine r_goto (t := 41) (by decide) dc_14_23_17 ?_
      refine r_iret rfl dc_14_23_41 ?_
      unfold lof
      rw [if_neg c_3]
      rw [if_pos c_13]
  · skip
    refine r_iconst (v := nI 0) (by decide) dc_14_23_6 ?_
    refine r_goto (t := 41) (by decide) dc_14_23_7 ?_
    refine r_iret rfl dc_14_23_41 ?_
    unfold lof
    rw [if_pos c_3]
set_option maxHeartbeats 4000000 in
theorem c_binds (M : mH) (v : Nat) (hv : v ≤ 1000003) : mm_Ev 1 210 [.int (nI v)] (M) ((some (.int (nI (bnd v))), M)) := by
  refine r_ev (by decide +kernel) (show (1 : Nat) ≤ mm_nL 210 by decide +kernel) ?_
  show mm_Ru 0 (13, 1, false, prog_14_method_22_code, some .int) 0 [(0, .int (nI v))] [] (M) (fun r9 => r9 = ((some (.int (nI (bnd v))), M)))
  refine r_iload_n rfl dc_14_22_0 ?_
  refine r_ldc (v := nI 1000002) nr_13_253 dc_14_22_1 ?_
  refine r_ncne (t := 10) (by omega) (by omega) (by decide) dc_14_22_3 (fun c_3 => ?_) (fun c_3 => ?_)
  · skip
    refine r_iload_n rfl dc_14_22_10 ?_
    refine r_ldc (v := nI 1000000) nr_13_254 dc_14_22_11 ?_
    refine r_ncne (t := 20) (by omega) (by omega) (by decide) dc_14_22_13 (fun c_13 => ?_) (fun c_13 => ?_)
    · skip
      refine r_iconst (v := nI 1) (by decide) dc_14_22_20 ?_
      refine r_iret rfl dc_14_22_21 ?_
      unfold bnd
      rw [if_neg c_3]
      rw [if_neg c_13]
    · skip
      refine r_iconst (v := nI 2) (by decide) dc_14_22_16 ?_
      refine r_goto (t := 21) (by decide) dc_14_22_17 ?_
      refine r_iret rfl dc_14_22_21 ?_
      unfold bnd
      rw [if_neg c_3]
      rw [if_pos c_13]
  · skip
    refine r_iconst (v := nI 3) (by decide) dc_14_22_6 ?_
    refine r_goto (t := 21) (by decide) dc_14_22_7 ?_
    refine r_iret rfl dc_14_22_21 ?_
    unfold bnd
    rw [if_pos c_3]
set_option maxHeartbeats 4000000 in
theorem c_holds (M : mH) (hM : 157 ≤ M.1) (io : Nat → Int32) (sg : Nat → Nat → Int32) (n : Nat) (h40 : io 40 = nI n) (hn : n < 80) (c : Int32) : mm_Ev 1 204 [.ref 100, .int c] (rf_mk M io sg) ((none, rf_mk M (va_up io 40 (nI (n + 1))) (va_up sg 38 (upd (sg 38) n c)))) := by
  refine r_ev (by decide +kernel) (show (2 : Nat) ≤ mm_nL 204 by decide +kernel) ?_
  show mm_Ru 0 (13, 2, false, prog_14_method_20_code, none) 0 [(0, .ref 100), (1, .int c)] [] (rf_mk M io sg) (fun r9 => r9 = ((none, rf_mk M (va_up io 40 (nI (n + 1))) (va_up sg 38 (upd (sg 38) n c)))))
  refine r_aload_n rfl dc_14_20_0 ?_
  refine q_get (v := .ref 129) rx_96 hM rfl dc_14_20_1 ?_
  refine r_aload_n rfl dc_14_20_4 ?_
  refine q_get (v := .int (nI n)) rx_243 hM (congrArg (fun z => some (Value.int z)) (h40)) dc_14_20_5 ?_
  refine r_iload_n rfl dc_14_20_8 ?_
  refine q_ist (e := n) (k := 38) (by decide) (by decide) hM rfl rfl (show n < 80 by omega) (by omega) dc_14_20_9 ?_
  refine r_aload_n rfl dc_14_20_10 ?_
  refine r_aload_n rfl dc_14_20_11 ?_
  refine q_get (v := .int (nI n)) rx_243 hM (congrArg (fun z => some (Value.int z)) (h40)) dc_14_20_12 ?_
  refine r_iconst (v := nI 1) (by decide) dc_14_20_15 ?_
  refine r_iadd (v := nI (n + 1)) (nI_add _ _) dc_14_20_16 ?_
  refine q_put rx_243 (by decide +kernel) (by decide +kernel) (by decide) (rs_40 _) hM dc_14_20_17 ?_
  exact r_vret rfl dc_14_20_20 (rfl)
set_option maxHeartbeats 4000000 in
theorem c_says (M : mH) (hM : 157 ≤ M.1) (io : Nat → Int32) (sg : Nat → Nat → Int32) (n : Nat) (h39 : io 39 = nI n) (hn : n < 80) (c : Int32) : mm_Ev 1 208 [.ref 100, .int c] (rf_mk M io sg) ((none, rf_mk M (va_up io 39 (nI (n + 1))) (va_up sg 37 (upd (sg 37) n c)))) := by
  refine r_ev (by decide +kernel) (show (2 : Nat) ≤ mm_nL 208 by decide +kernel) ?_
  show mm_Ru 0 (13, 2, false, prog_14_method_19_code, none) 0 [(0, .ref 100), (1, .int c)] [] (rf_mk M io sg) (fun r9 => r9 = ((none, rf_mk M (va_up io 39 (nI (n + 1))) (va_up sg 37 (upd (sg 37) n c)))))
  refine r_aload_n rfl dc_14_19_0 ?_
  refine q_get (v := .ref 128) rx_93 hM rfl dc_14_19_1 ?_
  refine r_aload_n rfl dc_14_19_4 ?_
  refine q_get (v := .int (nI n)) rx_240 hM (congrArg (fun z => some (Value.int z)) (h39)) dc_14_19_5 ?_
  refine r_iload_n rfl dc_14_19_8 ?_
  refine q_ist (e := n) (k := 37) (by decide) (by decide) hM rfl rfl (show n < 80 by omega) (by omega) dc_14_19_9 ?_
  refine r_aload_n rfl dc_14_19_10 ?_
  refine r_aload_n rfl dc_14_19_11 ?_
  refine q_get (v := .int (nI n)) rx_240 hM (congrArg (fun z => some (Value.int z)) (h39)) dc_14_19_12 ?_
  refine r_iconst (v := nI 1) (by decide) dc_14_19_15 ?_
  refine r_iadd (v := nI (n + 1)) (nI_add _ _) dc_14_19_16 ?_
  refine q_put rx_240 (by decide +kernel) (by decide +kernel) (by decide) (rs_39 _) hM dc_14_19_17 ?_
  exact r_vret rfl dc_14_19_20 (rfl)
