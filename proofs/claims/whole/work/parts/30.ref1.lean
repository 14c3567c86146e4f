/-! the reference, its leaves -/
theorem dc_14_2_0 : decode prog_14_method_2_code 0 = .ok (.iload_n 0, 1) := by decide +kernel
theorem dc_14_2_1 : decode prog_14_method_2_code 1 = .ok (.iload_n 1, 1) := by decide +kernel
theorem dc_14_2_2 : decode prog_14_method_2_code 2 = .ok (.if_icmp .lt 12, 3) := by decide +kernel
theorem dc_14_2_5 : decode prog_14_method_2_code 5 = .ok (.iload_n 0, 1) := by decide +kernel
theorem dc_14_2_6 : decode prog_14_method_2_code 6 = .ok (.iload_n 2, 1) := by decide +kernel
theorem dc_14_2_7 : decode prog_14_method_2_code 7 = .ok (.if_icmp .gt 7, 3) := by decide +kernel
theorem dc_14_2_10 : decode prog_14_method_2_code 10 = .ok (.iconst 1, 1) := by decide +kernel
theorem dc_14_2_11 : decode prog_14_method_2_code 11 = .ok (.goto 4, 3) := by decide +kernel
theorem dc_14_2_14 : decode prog_14_method_2_code 14 = .ok (.iconst 0, 1) := by decide +kernel
theorem dc_14_2_15 : decode prog_14_method_2_code 15 = .ok (.ireturn, 1) := by decide +kernel
theorem dc_14_5_0 : decode prog_14_method_5_code 0 = .ok (.iconst 0, 1) := by decide +kernel
theorem dc_14_5_1 : decode prog_14_method_5_code 1 = .ok (.istore_n 3, 1) := by decide +kernel
theorem dc_14_5_2 : decode prog_14_method_5_code 2 = .ok (.iconst 0, 1) := by decide +kernel
theorem dc_14_5_3 : decode prog_14_method_5_code 3 = .ok (.istore 4, 2) := by decide +kernel
theorem dc_14_5_5 : decode prog_14_method_5_code 5 = .ok (.iload 4, 2) := by decide +kernel
theorem dc_14_5_7 : decode prog_14_method_5_code 7 = .ok (.iload_n 2, 1) := by decide +kernel
theorem dc_14_5_8 : decode prog_14_method_5_code 8 = .ok (.if_icmp .ge 24, 3) := by decide +kernel
theorem dc_14_5_11 : decode prog_14_method_5_code 11 = .ok (.iload_n 3, 1) := by decide +kernel
theorem dc_14_5_12 : decode prog_14_method_5_code 12 = .ok (.aload_n 0, 1) := by decide +kernel
theorem dc_14_5_13 : decode prog_14_method_5_code 13 = .ok (.getfield 16, 3) := by decide +kernel
theorem dc_14_5_16 : decode prog_14_method_5_code 16 = .ok (.bipush 11, 2) := by decide +kernel
theorem dc_14_5_18 : decode prog_14_method_5_code 18 = .ok (.iload_n 1, 1) := by decide +kernel
theorem dc_14_5_19 : decode prog_14_method_5_code 19 = .ok (.imul, 1) := by decide +kernel
theorem dc_14_5_20 : decode prog_14_method_5_code 20 = .ok (.iload 4, 2) := by decide +kernel
theorem dc_14_5_22 : decode prog_14_method_5_code 22 = .ok (.iadd, 1) := by decide +kernel
theorem dc_14_5_23 : decode prog_14_method_5_code 23 = .ok (.iaload, 1) := by decide +kernel
theorem dc_14_5_24 : decode prog_14_method_5_code 24 = .ok (.iadd, 1) := by decide +kernel
theorem dc_14_5_25 : decode prog_14_method_5_code 25 = .ok (.istore_n 3, 1) := by decide +kernel
theorem dc_14_5_26 : decode prog_14_method_5_code 26 = .ok (.iinc 4 1, 3) := by decide +kernel
theorem dc_14_5_29 : decode prog_14_method_5_code 29 = .ok (.goto (-24), 3) := by decide +kernel
theorem dc_14_5_32 : decode prog_14_method_5_code 32 = .ok (.iload_n 3, 1) := by decide +kernel
theorem dc_14_5_33 : decode prog_14_method_5_code 33 = .ok (.ireturn, 1) := by decide +kernel
theorem dc_14_6_0 : decode prog_14_method_6_code 0 = .ok (.aload_n 0, 1) := by decide +kernel
theorem dc_14_6_1 : decode prog_14_method_6_code 1 = .ok (.iload_n 1, 1) := by decide +kernel
theorem dc_14_6_2 : decode prog_14_method_6_code 2 = .ok (.bipush 11, 2) := by decide +kernel
theorem dc_14_6_4 : decode prog_14_method_6_code 4 = .ok (.invokevirtual 184, 3) := by decide +kernel
theorem dc_14_6_7 : decode prog_14_method_6_code 7 = .ok (.ireturn, 1) := by decide +kernel
theorem iv_13_v184 : mm_iv 13 (.invokevirtual 184) = some (1, 191) := by decide +kernel
theorem o_191 : mm_o 191 = 13 := by decide +kernel
theorem na_1_191 : mm_nas 1 191 = 3 := by decide +kernel
def sp_in (v lo hi : Int32) : Int32 := if lo ≤ v ∧ v ≤ hi then 1 else 0
theorem sp_in_a {v lo : Int32} (hi : Int32) (h : v < lo) : sp_in v lo hi = 0 := if_neg (fun q => absurd h (Int32.not_lt.mpr q.1))
theorem sp_in_b {v hi : Int32} (lo : Int32) (h : hi < v) : sp_in v lo hi = 0 := if_neg (fun q => absurd h (Int32.not_lt.mpr q.2))
theorem sp_in_c {v lo hi : Int32} (h1 : ¬ v < lo) (h2 : ¬ hi < v) : sp_in v lo hi = 1 := if_pos ⟨Int32.not_lt.mp h1, Int32.not_lt.mp h2⟩
set_option maxHeartbeats 4000000 in
theorem c_in (N : mH) (v lo hi : Int32) : mm_Ev 1 187 [.int v, .int lo, .int hi] (N) ((some (.int (sp_in v lo hi)), N)) := by
  refine r_ev (by decide +kernel) (show (3 : Nat) ≤ mm_nL 187 by decide +kernel) ?_
  show mm_Ru 0 (13, 3, false, prog_14_method_2_code, some .boolean) 0 [(0, .int v), (1, .int lo), (2, .int hi)] [] (N) (fun z => z = ((some (.int (sp_in v lo hi)), N)))
  refine r_iload_n rfl dc_14_2_0 ?_
  refine r_iload_n rfl dc_14_2_1 ?_
  refine r_iclt (t := 14) (by decide) dc_14_2_2 (fun c_2 => ?_) (fun c_2 => ?_)
  · skip
    refine r_iconst (v := nI 0) (by decide) dc_14_2_14 ?_
    refine r_zret rfl (by decide) dc_14_2_15 ?_
    rw [sp_in_a _ c_2]
    rfl
  · skip
    refine r_iload_n rfl dc_14_2_5 ?_
    refine r_iload_n rfl dc_14_2_6 ?_
    refine r_icgt (t := 14) (by decide) dc_14_2_7 (fun c_7 => ?_) (fun c_7 => ?_)
    · skip
      refine r_iconst (v := nI 0) (by decide) dc_14_2_14 ?_
      refine r_zret rfl (by decide) dc_14_2_15 ?_
      rw [sp_in_b _ c_7]
      rfl
    · skip
      refine r_iconst (v := nI 1) (by decide) dc_14_2_10 ?_
      refine r_goto (t := 15) (by decide) dc_14_2_11 ?_
      refine r_zret rfl (by decide) dc_14_2_15 ?_
      rw [sp_in_c c_2 c_7]
      rfl
/-- the sum of a row's first places -/
def sp_sum (f : Nat → Int32) : Nat → Int32
  | 0 => 0
  | n + 1 => sp_sum f n + f n
def sp_below (sg : Nat → Nat → Int32) (sc mk : Nat) : Int32 := sp_sum (fun m => sg 2 (11 * sc + m)) mk
set_option maxHeartbeats 4000000 in
theorem c_below (M : mH) (hM : 157 ≤ M.1) (io : Nat → Int32) (sg : Nat → Nat → Int32) (sc mk : Nat) (h1 : sc < 4) (h2 : mk ≤ 11) : mm_Ev 1 191 [.ref 100, .int (nI sc), .int (nI mk)] (rf_mk M io sg) ((some (.int (sp_below sg sc mk)), rf_mk M io sg)) := by
  refine r_ev (by decide +kernel) (show (3 : Nat) ≤ mm_nL 191 by decide +kernel) ?_
  show mm_Ru 0 (13, 5, false, prog_14_method_5_code, some .int) 0 [(0, .ref 100), (1, .int (nI sc)), (2, .int (nI mk))] [] (rf_mk M io sg) (fun z => z = ((some (.int (sp_below sg sc mk)), rf_mk M io sg)))
  refine r_iconst (v := nI 0) (by decide) dc_14_5_0 ?_
  refine r_istore_n (ls' := [(3, .int (nI 0)), (0, .ref 100), (1, .int (nI sc)), (2, .int (nI mk))]) (by decide) rfl dc_14_5_1 ?_
  refine r_iconst (v := nI 0) (by decide) dc_14_5_2 ?_
  refine r_istore (ls' := [(4, .int (nI 0)), (3, .int (nI 0)), (0, .ref 100), (1, .int (nI sc)), (2, .int (nI mk))]) (by decide) rfl dc_14_5_3 ?_
  refine mm_cnt (P := fun m => mm_Ru 0 (13, 5, false, prog_14_method_5_code, some .int) 5 [(4, .int (nI m)), (3, .int (sp_sum (fun m => sg 2 (11 * sc + m)) m)), (0, .ref 100), (1, .int (nI sc)), (2, .int (nI mk))] [] (rf_mk M io sg) (fun z => z = ((some (.int (sp_below sg sc mk)), rf_mk M io sg)))) mk ?_ ?_ 0 (by omega)
  · show mm_Ru 0 (13, 5, false, prog_14_method_5_code, some .int) 5 [(4, .int (nI mk)), (3, .int (sp_sum (fun m => sg 2 (11 * sc + m)) mk)), (0, .ref 100), (1, .int (nI sc)), (2, .int (nI mk))] [] (rf_mk M io sg) (fun z => z = ((some (.int (sp_below sg sc mk)), rf_mk M io sg)))
    refine r_iload rfl dc_14_5_5 ?_
    refine r_iload_n rfl dc_14_5_7 ?_
    refine r_ncge (t := 32) (by omega) (by omega) (by decide) dc_14_5_8 (fun c_8 => ?_) (fun c_8 => ?_)
    · skip
      refine r_iload_n rfl dc_14_5_32 ?_
      exact r_iret rfl dc_14_5_33 (rfl)
    · omega
  · intro m h_m ih_m 
    show mm_Ru 0 (13, 5, false, prog_14_method_5_code, some .int) 5 [(4, .int (nI m)), (3, .int (sp_sum (fun m => sg 2 (11 * sc + m)) m)), (0, .ref 100), (1, .int (nI sc)), (2, .int (nI mk))] [] (rf_mk M io sg) (fun z => z = ((some (.int (sp_below sg sc mk)), rf_mk M io sg)))
    refine r_iload rfl dc_14_5_5 ?_
    refine r_iload_n rfl dc_14_5_7 ?_
    refine r_ncge (t := 32) (by omega) (by omega) (by decide) dc_14_5_8 (fun c_8 => ?_) (fun c_8 => ?_)
    · omega
    · skip
      refine r_iload_n rfl dc_14_5_11 ?_
      refine r_aload_n rfl dc_14_5_12 ?_
      refine q_get (v := .ref 103) rx_16 hM rfl dc_14_5_13 ?_
      refine r_bipush (v := nI 11) (by decide) dc_14_5_16 ?_
      refine r_iload_n rfl dc_14_5_18 ?_
      refine r_imul (v := nI (11 * sc)) (pk_mul _ _) dc_14_5_19 ?_
      refine r_iload rfl dc_14_5_20 ?_
      refine r_iadd (v := nI (11 * sc + m)) (nI_add _ _) dc_14_5_22 ?_
      refine q_ild (e := 11 * sc + m) (v := sg 2 (11 * sc + m)) (by decide) (by decide) hM rfl (show 11 * sc + m < 44 by omega) (by omega) (rfl) dc_14_5_23 ?_
      refine r_iadd (v := (sp_sum (fun m => sg 2 (11 * sc + m)) m) + (sg 2 (11 * sc + m))) (rfl) dc_14_5_24 ?_
      refine r_istore_n (ls' := [(3, .int ((sp_sum (fun m => sg 2 (11 * sc + m)) m) + (sg 2 (11 * sc + m)))), (4, .int (nI m)), (0, .ref 100), (1, .int (nI sc)), (2, .int (nI mk))]) (by decide) rfl dc_14_5_25 ?_
      refine r_iinc (x := nI m) (v := nI (m + 1)) (ls' := [(4, .int (nI (m + 1))), (3, .int ((sp_sum (fun m => sg 2 (11 * sc + m)) m) + (sg 2 (11 * sc + m)))), (0, .ref 100), (1, .int (nI sc)), (2, .int (nI mk))]) rfl (nI_1 _) (by decide) rfl dc_14_5_26 ?_
      refine r_goto (t := 5) (by decide) dc_14_5_29 ?_
      exact ih_m
set_option maxHeartbeats 4000000 in
theorem c_allOf (M : mH) (hM : 157 ≤ M.1) (io : Nat → Int32) (sg : Nat → Nat → Int32) (sc : Nat) (h1 : sc < 4) : mm_Ev 2 190 [.ref 100, .int (nI sc)] (rf_mk M io sg) ((some (.int (sp_below sg sc 11)), rf_mk M io sg)) := by
  refine r_ev (by decide +kernel) (show (2 : Nat) ≤ mm_nL 190 by decide +kernel) ?_
  show mm_Ru 1 (13, 2, false, prog_14_method_6_code, some .int) 0 [(0, .ref 100), (1, .int (nI sc))] [] (rf_mk M io sg) (fun z => z = ((some (.int (sp_below sg sc 11)), rf_mk M io sg)))
  refine r_aload_n rfl dc_14_6_0 ?_
  refine r_iload_n rfl dc_14_6_1 ?_
  refine r_bipush (v := nI 11) (by decide) dc_14_6_2 ?_
  refine q_calli (as := [.int (nI sc), .int (nI 11)]) (rest := []) (v := .int (sp_below sg sc 11)) (M1 := rf_mk M io sg) iv_13_v184 na_1_191 o_191 hM rfl (show (0 : Nat) ≤ 8 by decide) dc_14_6_4 (c_below M hM io sg sc 11 h1 (by decide)) ?_
  exact r_iret rfl dc_14_6_7 (rfl)
