/-! the reader: its leaves -/
theorem dc_12_11_0 : decode prog_12_method_11_code 0 = .ok (.aload_n 0, 1) := by decide +kernel
theorem dc_12_11_1 : decode prog_12_method_11_code 1 = .ok (.getfield 28, 3) := by decide +kernel
theorem dc_12_11_4 : decode prog_12_method_11_code 4 = .ok (.ifCond .lt 38, 3) := by decide +kernel
theorem dc_12_11_7 : decode prog_12_method_11_code 7 = .ok (.aload_n 0, 1) := by decide +kernel
theorem dc_12_11_8 : decode prog_12_method_11_code 8 = .ok (.getfield 28, 3) := by decide +kernel
theorem dc_12_11_11 : decode prog_12_method_11_code 11 = .ok (.aload_n 0, 1) := by decide +kernel
theorem dc_12_11_12 : decode prog_12_method_11_code 12 = .ok (.getfield 24, 3) := by decide +kernel
theorem dc_12_11_15 : decode prog_12_method_11_code 15 = .ok (.if_icmp .ge 27, 3) := by decide +kernel
theorem dc_12_11_18 : decode prog_12_method_11_code 18 = .ok (.aload_n 0, 1) := by decide +kernel
theorem dc_12_11_19 : decode prog_12_method_11_code 19 = .ok (.getfield 28, 3) := by decide +kernel
theorem dc_12_11_22 : decode prog_12_method_11_code 22 = .ok (.aload_n 0, 1) := by decide +kernel
theorem dc_12_11_23 : decode prog_12_method_11_code 23 = .ok (.getfield 9, 3) := by decide +kernel
theorem dc_12_11_26 : decode prog_12_method_11_code 26 = .ok (.arraylength, 1) := by decide +kernel
theorem dc_12_11_27 : decode prog_12_method_11_code 27 = .ok (.if_icmp .ge 15, 3) := by decide +kernel
theorem dc_12_11_30 : decode prog_12_method_11_code 30 = .ok (.aload_n 0, 1) := by decide +kernel
theorem dc_12_11_31 : decode prog_12_method_11_code 31 = .ok (.getfield 9, 3) := by decide +kernel
theorem dc_12_11_34 : decode prog_12_method_11_code 34 = .ok (.aload_n 0, 1) := by decide +kernel
theorem dc_12_11_35 : decode prog_12_method_11_code 35 = .ok (.getfield 28, 3) := by decide +kernel
theorem dc_12_11_38 : decode prog_12_method_11_code 38 = .ok (.iaload, 1) := by decide +kernel
theorem dc_12_11_39 : decode prog_12_method_11_code 39 = .ok (.goto 4, 3) := by decide +kernel
theorem dc_12_11_42 : decode prog_12_method_11_code 42 = .ok (.iconst (-1), 1) := by decide +kernel
theorem dc_12_11_43 : decode prog_12_method_11_code 43 = .ok (.ireturn, 1) := by decide +kernel
theorem dc_12_12_0 : decode prog_12_method_12_code 0 = .ok (.aload_n 0, 1) := by decide +kernel
theorem dc_12_12_1 : decode prog_12_method_12_code 1 = .ok (.getfield 31, 3) := by decide +kernel
theorem dc_12_12_4 : decode prog_12_method_12_code 4 = .ok (.ifCond .ne 20, 3) := by decide +kernel
theorem dc_12_12_7 : decode prog_12_method_12_code 7 = .ok (.aload_n 0, 1) := by decide +kernel
theorem dc_12_12_8 : decode prog_12_method_12_code 8 = .ok (.invokevirtual 71, 3) := by decide +kernel
theorem dc_12_12_11 : decode prog_12_method_12_code 11 = .ok (.iload_n 1, 1) := by decide +kernel
theorem dc_12_12_12 : decode prog_12_method_12_code 12 = .ok (.if_icmp .eq 12, 3) := by decide +kernel
theorem dc_12_12_15 : decode prog_12_method_12_code 15 = .ok (.aload_n 0, 1) := by decide +kernel
theorem dc_12_12_16 : decode prog_12_method_12_code 16 = .ok (.iconst 1, 1) := by decide +kernel
theorem dc_12_12_17 : decode prog_12_method_12_code 17 = .ok (.aload_n 0, 1) := by decide +kernel
theorem dc_12_12_18 : decode prog_12_method_12_code 18 = .ok (.getfield 28, 3) := by decide +kernel
theorem dc_12_12_21 : decode prog_12_method_12_code 21 = .ok (.invokevirtual 91, 3) := by decide +kernel
theorem dc_12_12_24 : decode prog_12_method_12_code 24 = .ok (.aload_n 0, 1) := by decide +kernel
theorem dc_12_12_25 : decode prog_12_method_12_code 25 = .ok (.dup, 1) := by decide +kernel
theorem dc_12_12_26 : decode prog_12_method_12_code 26 = .ok (.getfield 28, 3) := by decide +kernel
theorem dc_12_12_29 : decode prog_12_method_12_code 29 = .ok (.iconst 1, 1) := by decide +kernel
theorem dc_12_12_30 : decode prog_12_method_12_code 30 = .ok (.iadd, 1) := by decide +kernel
theorem dc_12_12_31 : decode prog_12_method_12_code 31 = .ok (.putfield 28, 3) := by decide +kernel
theorem dc_12_12_34 : decode prog_12_method_12_code 34 = .ok (.return_, 1) := by decide +kernel
theorem dc_12_14_0 : decode prog_12_method_14_code 0 = .ok (.aload_n 0, 1) := by decide +kernel
theorem dc_12_14_1 : decode prog_12_method_14_code 1 = .ok (.getfield 31, 3) := by decide +kernel
theorem dc_12_14_4 : decode prog_12_method_14_code 4 = .ok (.ifCond .ne 13, 3) := by decide +kernel
theorem dc_12_14_7 : decode prog_12_method_14_code 7 = .ok (.aload_n 0, 1) := by decide +kernel
theorem dc_12_14_8 : decode prog_12_method_14_code 8 = .ok (.bipush (-100), 2) := by decide +kernel
theorem dc_12_14_10 : decode prog_12_method_14_code 10 = .ok (.iload_n 1, 1) := by decide +kernel
theorem dc_12_14_11 : decode prog_12_method_14_code 11 = .ok (.imul, 1) := by decide +kernel
theorem dc_12_14_12 : decode prog_12_method_14_code 12 = .ok (.iload_n 2, 1) := by decide +kernel
theorem dc_12_14_13 : decode prog_12_method_14_code 13 = .ok (.isub, 1) := by decide +kernel
theorem dc_12_14_14 : decode prog_12_method_14_code 14 = .ok (.putfield 31, 3) := by decide +kernel
theorem dc_12_14_17 : decode prog_12_method_14_code 17 = .ok (.return_, 1) := by decide +kernel
theorem dc_12_15_0 : decode prog_12_method_15_code 0 = .ok (.aload_n 0, 1) := by decide +kernel
theorem dc_12_15_1 : decode prog_12_method_15_code 1 = .ok (.getfield 31, 3) := by decide +kernel
theorem dc_12_15_4 : decode prog_12_method_15_code 4 = .ok (.ifCond .ne 39, 3) := by decide +kernel
theorem dc_12_15_7 : decode prog_12_method_15_code 7 = .ok (.aload_n 0, 1) := by decide +kernel
theorem dc_12_15_8 : decode prog_12_method_15_code 8 = .ok (.getfield 34, 3) := by decide +kernel
theorem dc_12_15_11 : decode prog_12_method_15_code 11 = .ok (.ifCond .lt 32, 3) := by decide +kernel
theorem dc_12_15_14 : decode prog_12_method_15_code 14 = .ok (.aload_n 0, 1) := by decide +kernel
theorem dc_12_15_15 : decode prog_12_method_15_code 15 = .ok (.getfield 34, 3) := by decide +kernel
theorem dc_12_15_18 : decode prog_12_method_15_code 18 = .ok (.bipush 60, 2) := by decide +kernel
theorem dc_12_15_20 : decode prog_12_method_15_code 20 = .ok (.if_icmp .ge 23, 3) := by decide +kernel
theorem dc_12_15_23 : decode prog_12_method_15_code 23 = .ok (.aload_n 0, 1) := by decide +kernel
theorem dc_12_15_24 : decode prog_12_method_15_code 24 = .ok (.getfield 15, 3) := by decide +kernel
theorem dc_12_15_27 : decode prog_12_method_15_code 27 = .ok (.aload_n 0, 1) := by decide +kernel
theorem dc_12_15_28 : decode prog_12_method_15_code 28 = .ok (.getfield 34, 3) := by decide +kernel
theorem dc_12_15_31 : decode prog_12_method_15_code 31 = .ok (.iload_n 1, 1) := by decide +kernel
theorem dc_12_15_32 : decode prog_12_method_15_code 32 = .ok (.iastore, 1) := by decide +kernel
theorem dc_12_15_33 : decode prog_12_method_15_code 33 = .ok (.aload_n 0, 1) := by decide +kernel
theorem dc_12_15_34 : decode prog_12_method_15_code 34 = .ok (.dup, 1) := by decide +kernel
theorem dc_12_15_35 : decode prog_12_method_15_code 35 = .ok (.getfield 34, 3) := by decide +kernel
theorem dc_12_15_38 : decode prog_12_method_15_code 38 = .ok (.iconst 1, 1) := by decide +kernel
theorem dc_12_15_39 : decode prog_12_method_15_code 39 = .ok (.iadd, 1) := by decide +kernel
theorem dc_12_15_40 : decode prog_12_method_15_code 40 = .ok (.putfield 34, 3) := by decide +kernel
theorem dc_12_15_43 : decode prog_12_method_15_code 43 = .ok (.return_, 1) := by decide +kernel
theorem iv_3_v71 : mm_iv 3 (.invokevirtual 71) = some (1, 50) := by decide +kernel
theorem iv_3_v91 : mm_iv 3 (.invokevirtual 91) = some (1, 52) := by decide +kernel
theorem o_50 : mm_o 50 = 3 := by decide +kernel
theorem o_52 : mm_o 52 = 3 := by decide +kernel
theorem na_1_50 : mm_nas 1 50 = 1 := by decide +kernel
theorem na_1_52 : mm_nas 1 52 = 3 := by decide +kernel
/-- what the class sees at p -/
def pk (cs : Nat → Nat → Int32) (sz p : Nat) : Int32 := if p < sz then cs 11 p else -1
theorem fl_eq (k p : Nat) : (-100 : Int32) * nI k - nI p = -nI (100 * k + p) := by
  rw [← zI_n k, ← zI_n p, ← zI_n (100 * k + p), show (-100 : Int32) = zI (-100) by decide, show zI (-100) * zI (k : Int) = zI (-100 * (k : Int)) from (Int32.ofInt_mul _ _).symm, zI_sub, zI_neg]
  exact congrArg zI (by omega)
set_option maxHeartbeats 4000000 in
theorem k_peek (M : mH) (hM : 157 ≤ M.1) (T : Nat → mT) (hT2 : T 12 = (3, 0, rl [(0, 11), (4, 14)])) (hT1 : T 11 = (20, 80, fun _ => none)) (hT4 : T 14 = (20, 60, fun _ => none)) (cs : Nat → Nat → Int32) (sz p : Nat) (he : cs 12 1 = nI sz) (hp : cs 12 2 = nI p) (hsz : sz ≤ 60) (hp2 : p ≤ 1000) : mm_Ev 1 50 [.ref 12] (hk M T cs) ((some (.int (pk cs sz p)), hk M T cs)) := by
  refine r_ev (by decide +kernel) (show (1 : Nat) ≤ mm_nL 50 by decide +kernel) ?_
  show mm_Ru 0 (3, 1, false, prog_12_method_11_code, some .int) 0 [(0, .ref 12)] [] (hk M T cs) (fun r9 => r9 = ((some (.int (pk cs sz p)), hk M T cs)))
  refine r_aload_n rfl dc_12_11_0 ?_
  refine h_get (t := (3, 0, rl [(0, 11), (4, 14)])) (v := .int (nI p)) fx_3_28 hT2 ⟨by omega, by omega⟩ (show some (Value.int _) = _ from congrArg (fun z => some (Value.int z)) (hp)) dc_12_11_1 ?_
  refine r_nzlt (t := 42) (by omega) (by decide) dc_12_11_4 ?_
  refine r_aload_n rfl dc_12_11_7 ?_
  refine h_get (t := (3, 0, rl [(0, 11), (4, 14)])) (v := .int (nI p)) fx_3_28 hT2 ⟨by omega, by omega⟩ (show some (Value.int _) = _ from congrArg (fun z => some (Value.int z)) (hp)) dc_12_11_8 ?_
  refine r_aload_n rfl dc_12_11_11 ?_
  refine h_get (t := (3, 0, rl [(0, 11), (4, 14)])) (v := .int (nI sz)) fx_3_24 hT2 ⟨by omega, by omega⟩ (show some (Value.int _) = _ from congrArg (fun z => some (Value.int z)) (he)) dc_12_11_12 ?_
  refine r_ncge (t := 42) (by omega) (by omega) (by decide) dc_12_11_15 (fun c_15 => ?_) (fun c_15 => ?_)
  · skip
    refine r_iconst (v := -1) (by decide) dc_12_11_42 ?_
    refine r_iret rfl dc_12_11_43 ?_
    rw [show pk cs sz p = -1 from if_neg (by omega)]
  · skip
    refine r_aload_n rfl dc_12_11_18 ?_
    refine h_get (t := (3, 0, rl [(0, 11), (4, 14)])) (v := .int (nI p)) fx_3_28 hT2 ⟨by omega, by omega⟩ (show some (Value.int _) = _ from congrArg (fun z => some (Value.int z)) (hp)) dc_12_11_19 ?_
    refine r_aload_n rfl dc_12_11_22 ?_
    refine h_get (t := (3, 0, rl [(0, 11), (4, 14)])) (v := .ref 11) fx_3_9 hT2 ⟨by omega, by omega⟩ (rfl) dc_12_11_23 ?_
    refine h_len (c := 20) (n := 80) hT1 (Or.inl rfl) ⟨by omega, by omega⟩ dc_12_11_26 ?_
    refine r_ncge (t := 42) (by omega) (by omega) (by decide) dc_12_11_27 (fun c_27 => ?_) (fun c_27 => ?_)
    · omega
    · skip
      refine r_aload_n rfl dc_12_11_30 ?_
      refine h_get (t := (3, 0, rl [(0, 11), (4, 14)])) (v := .ref 11) fx_3_9 hT2 ⟨by omega, by omega⟩ (rfl) dc_12_11_31 ?_
      refine r_aload_n rfl dc_12_11_34 ?_
      refine h_get (t := (3, 0, rl [(0, 11), (4, 14)])) (v := .int (nI p)) fx_3_28 hT2 ⟨by omega, by omega⟩ (show some (Value.int _) = _ from congrArg (fun z => some (Value.int z)) (hp)) dc_12_11_35 ?_
      refine h_ild (n := 80) (e := p) (v := cs 11 p) hT1 ⟨by omega, by omega⟩ (show p < 80 by omega) (by omega) (rfl) dc_12_11_38 ?_
      refine r_goto (t := 43) (by decide) dc_12_11_39 ?_
      refine r_iret rfl dc_12_11_43 ?_
      rw [show pk cs sz p = cs 11 p from if_pos (by omega)]
set_option maxHeartbeats 4000000 in
theorem k_fail0 (M : mH) (hM : 157 ≤ M.1) (T : Nat → mT) (hT2 : T 12 = (3, 0, rl [(0, 11), (4, 14)])) (hT1 : T 11 = (20, 80, fun _ => none)) (hT4 : T 14 = (20, 60, fun _ => none)) (cs : Nat → Nat → Int32) (sz p : Nat) (he : cs 12 1 = nI sz) (hp : cs 12 2 = nI p) (hsz : sz ≤ 60) (hp2 : p ≤ 1000) (hf : cs 12 3 = nI 0) (k q : Nat) : mm_Ev 1 52 [.ref 12, .int (nI k), .int (nI q)] (hk M T cs) ((none, hk M T (w1 cs 12 3 (-nI (100 * k + q))))) := by
  refine r_ev (by decide +kernel) (show (3 : Nat) ≤ mm_nL 52 by decide +kernel) ?_
  show mm_Ru 0 (3, 3, false, prog_12_method_14_code, none) 0 [(0, .ref 12), (1, .int (nI k)), (2, .int (nI q))] [] (hk M T cs) (fun r9 => r9 = ((none, hk M T (w1 cs 12 3 (-nI (100 * k + q))))))
  refine r_aload_n rfl dc_12_14_0 ?_
  refine h_get (t := (3, 0, rl [(0, 11), (4, 14)])) (v := .int (nI 0)) fx_3_31 hT2 ⟨by omega, by omega⟩ (show some (Value.int _) = _ from congrArg (fun z => some (Value.int z)) (hf)) dc_12_14_1 ?_
  refine r_ifne (t := 17) (by decide) dc_12_14_4 (fun c_4 => ?_) (fun c_4 => ?_)
  · exact absurd c_4 (by decide)
  · skip
    refine r_aload_n rfl dc_12_14_7 ?_
    refine r_bipush (v := -100) (by decide) dc_12_14_8 ?_
    refine r_iload_n rfl dc_12_14_10 ?_
    refine r_imul (v := (-100) * nI k) (rfl) dc_12_14_11 ?_
    refine r_iload_n rfl dc_12_14_12 ?_
    refine r_isub (v := -nI (100 * k + q)) (fl_eq k q) dc_12_14_13 ?_
    refine h_pint (t := (3, 0, rl [(0, 11), (4, 14)])) fx_3_31 hT2 ⟨by omega, by omega⟩ (Or.inl fn_3_3) ty_3_3 (pi_3_3 _ _ _ _) dc_12_14_14 ?_
    exact r_vret rfl dc_12_14_17 (rfl)
set_option maxHeartbeats 4000000 in
theorem k_fail1 (M : mH) (hM : 157 ≤ M.1) (T : Nat → mT) (hT2 : T 12 = (3, 0, rl [(0, 11), (4, 14)])) (hT1 : T 11 = (20, 80, fun _ => none)) (hT4 : T 14 = (20, 60, fun _ => none)) (cs : Nat → Nat → Int32) (sz p : Nat) (he : cs 12 1 = nI sz) (hp : cs 12 2 = nI p) (hsz : sz ≤ 60) (hp2 : p ≤ 1000) (hf : ¬ cs 12 3 = 0) (k q : Nat) : mm_Ev 1 52 [.ref 12, .int (nI k), .int (nI q)] (hk M T cs) ((none, hk M T cs)) := by
  refine r_ev (by decide +kernel) (show (3 : Nat) ≤ mm_nL 52 by decide +kernel) ?_
  show mm_Ru 0 (3, 3, false, prog_12_method_14_code, none) 0 [(0, .ref 12), (1, .int (nI k)), (2, .int (nI q))] [] (hk M T cs) (fun r9 => r9 = ((none, hk M T cs)))
  refine r_aload_n rfl dc_12_14_0 ?_
  refine h_get (t := (3, 0, rl [(0, 11), (4, 14)])) (v := .int (cs 12 3)) fx_3_31 hT2 ⟨by omega, by omega⟩ (rfl) dc_12_14_1 ?_
  refine r_ifne (t := 17) (by decide) dc_12_14_4 (fun c_4 => ?_) (fun c_4 => ?_)
  · skip
    exact r_vret rfl dc_12_14_17 (rfl)
  · exact absurd c_4 hf
set_option maxHeartbeats 4000000 in
theorem k_exp1 (M : mH) (hM : 157 ≤ M.1) (T : Nat → mT) (hT2 : T 12 = (3, 0, rl [(0, 11), (4, 14)])) (hT1 : T 11 = (20, 80, fun _ => none)) (hT4 : T 14 = (20, 60, fun _ => none)) (cs : Nat → Nat → Int32) (sz p : Nat) (he : cs 12 1 = nI sz) (hp : cs 12 2 = nI p) (hsz : sz ≤ 60) (hp2 : p ≤ 1000) (hf : ¬ cs 12 3 = 0) (s : Nat) : mm_Ev 2 53 [.ref 12, .int (nI s)] (hk M T cs) ((none, hk M T (w1 cs 12 2 (nI (p + 1))))) := by
  refine r_ev (by decide +kernel) (show (2 : Nat) ≤ mm_nL 53 by decide +kernel) ?_
  show mm_Ru 1 (3, 2, false, prog_12_method_12_code, none) 0 [(0, .ref 12), (1, .int (nI s))] [] (hk M T cs) (fun r9 => r9 = ((none, hk M T (w1 cs 12 2 (nI (p + 1))))))
  refine r_aload_n rfl dc_12_12_0 ?_
  refine h_get (t := (3, 0, rl [(0, 11), (4, 14)])) (v := .int (cs 12 3)) fx_3_31 hT2 ⟨by omega, by omega⟩ (rfl) dc_12_12_1 ?_
  refine r_ifne (t := 24) (by decide) dc_12_12_4 (fun c_4 => ?_) (fun c_4 => ?_)
  · skip
    refine r_aload_n rfl dc_12_12_24 ?_
    refine r_dup rfl dc_12_12_25 ?_
    refine h_get (t := (3, 0, rl [(0, 11), (4, 14)])) (v := .int (nI p)) fx_3_28 hT2 ⟨by omega, by omega⟩ (show some (Value.int _) = _ from congrArg (fun z => some (Value.int z)) (hp)) dc_12_12_26 ?_
    refine r_iconst (v := nI 1) (by decide) dc_12_12_29 ?_
    refine r_iadd (v := nI (p + 1)) (nI_add _ _) dc_12_12_30 ?_
    refine h_pint (t := (3, 0, rl [(0, 11), (4, 14)])) fx_3_28 hT2 ⟨by omega, by omega⟩ (Or.inl fn_3_2) ty_3_2 (pi_3_2 _ _ _ _) dc_12_12_31 ?_
    exact r_vret rfl dc_12_12_34 (rfl)
  · exact absurd c_4 hf
set_option maxHeartbeats 4000000 in
theorem k_expY (M : mH) (hM : 157 ≤ M.1) (T : Nat → mT) (hT2 : T 12 = (3, 0, rl [(0, 11), (4, 14)])) (hT1 : T 11 = (20, 80, fun _ => none)) (hT4 : T 14 = (20, 60, fun _ => none)) (cs : Nat → Nat → Int32) (sz p : Nat) (he : cs 12 1 = nI sz) (hp : cs 12 2 = nI p) (hsz : sz ≤ 60) (hp2 : p ≤ 1000) (hf : cs 12 3 = nI 0) (s : Nat) (hs : pk cs sz p = nI s) : mm_Ev 2 53 [.ref 12, .int (nI s)] (hk M T cs) ((none, hk M T (w1 cs 12 2 (nI (p + 1))))) := by
  refine r_ev (by decide +kernel) (show (2 : Nat) ≤ mm_nL 53 by decide +kernel) ?_
  show mm_Ru 1 (3, 2, false, prog_12_method_12_code, none) 0 [(0, .ref 12), (1, .int (nI s))] [] (hk M T cs) (fun r9 => r9 = ((none, hk M T (w1 cs 12 2 (nI (p + 1))))))
  refine r_aload_n rfl dc_12_12_0 ?_
  refine h_get (t := (3, 0, rl [(0, 11), (4, 14)])) (v := .int (nI 0)) fx_3_31 hT2 ⟨by omega, by omega⟩ (show some (Value.int _) = _ from congrArg (fun z => some (Value.int z)) (hf)) dc_12_12_1 ?_
  refine r_ifne (t := 24) (by decide) dc_12_12_4 (fun c_4 => ?_) (fun c_4 => ?_)
  · exact absurd c_4 (by decide)
  · skip
    refine r_aload_n rfl dc_12_12_7 ?_
    refine h_callv (t := (3, 0, rl [(0, 11), (4, 14)])) (as := []) (rest := []) (v := .int (pk cs sz p)) (M1 := hk M T cs) rfl rfl iv_3_v71 (Or.inl rfl) na_1_50 hT2 ⟨by omega, by omega⟩ (show (3 : Nat) < 14 by decide) o_50 rfl (show (0 : Nat) ≤ 8 by decide) dc_12_12_8 (k_peek M hM T hT2 hT1 hT4 cs sz p he hp hsz hp2) ?_
    refine r_iload_n rfl dc_12_12_11 ?_
    refine r_iceq (t := 24) (by decide) dc_12_12_12 (fun c_12 => ?_) (fun c_12 => ?_)
    · skip
      refine r_aload_n rfl dc_12_12_24 ?_
      refine r_dup rfl dc_12_12_25 ?_
      refine h_get (t := (3, 0, rl [(0, 11), (4, 14)])) (v := .int (nI p)) fx_3_28 hT2 ⟨by omega, by omega⟩ (show some (Value.int _) = _ from congrArg (fun z => some (Value.int z)) (hp)) dc_12_12_26 ?_
      refine r_iconst (v := nI 1) (by decide) dc_12_12_29 ?_
      refine r_iadd (v := nI (p + 1)) (nI_add _ _) dc_12_12_30 ?_
      refine h_pint (t := (3, 0, rl [(0, 11), (4, 14)])) fx_3_28 hT2 ⟨by omega, by omega⟩ (Or.inl fn_3_2) ty_3_2 (pi_3_2 _ _ _ _) dc_12_12_31 ?_
      exact r_vret rfl dc_12_12_34 (rfl)
    · exact absurd hs c_12
set_option maxHeartbeats 4000000 in
theorem k_expN (M : mH) (hM : 157 ≤ M.1) (T : Nat → mT) (hT2 : T 12 = (3, 0, rl [(0, 11), (4, 14)])) (hT1 : T 11 = (20, 80, fun _ => none)) (hT4 : T 14 = (20, 60, fun _ => none)) (cs : Nat → Nat → Int32) (sz p : Nat) (he : cs 12 1 = nI sz) (hp : cs 12 2 = nI p) (hsz : sz ≤ 60) (hp2 : p ≤ 1000) (hf : cs 12 3 = nI 0) (s : Nat) (hs : ¬ pk cs sz p = nI s) : mm_Ev 2 53 [.ref 12, .int (nI s)] (hk M T cs) ((none, hk M T (w1 (w1 cs 12 3 (-nI (100 * 1 + p))) 12 2 (nI (p + 1))))) := by
  refine r_ev (by decide +kernel) (show (2 : Nat) ≤ mm_nL 53 by decide +kernel) ?_
  show mm_Ru 1 (3, 2, false, prog_12_method_12_code, none) 0 [(0, .ref 12), (1, .int (nI s))] [] (hk M T cs) (fun r9 => r9 = ((none, hk M T (w1 (w1 cs 12 3 (-nI (100 * 1 + p))) 12 2 (nI (p + 1))))))
  refine r_aload_n rfl dc_12_12_0 ?_
  refine h_get (t := (3, 0, rl [(0, 11), (4, 14)])) (v := .int (nI 0)) fx_3_31 hT2 ⟨by omega, by omega⟩ (show some (Value.int _) = _ from congrArg (fun z => some (Value.int z)) (hf)) dc_12_12_1 ?_
  refine r_ifne (t := 24) (by decide) dc_12_12_4 (fun c_4 => ?_) (fun c_4 => ?_)
  · exact absurd c_4 (by decide)
  · skip
    refine r_aload_n rfl dc_12_12_7 ?_
    refine h_callv (t := (3, 0, rl [(0, 11), (4, 14)])) (as := []) (rest := []) (v := .int (pk cs sz p)) (M1 := hk M T cs) rfl rfl iv_3_v71 (Or.inl rfl) na_1_50 hT2 ⟨by omega, by omega⟩ (show (3 : Nat) < 14 by decide) o_50 rfl (show (0 : Nat) ≤ 8 by decide) dc_12_12_8 (k_peek M hM T hT2 hT1 hT4 cs sz p he hp hsz hp2) ?_
    refine r_iload_n rfl dc_12_12_11 ?_
    refine r_iceq (t := 24) (by decide) dc_12_12_12 (fun c_12 => ?_) (fun c_12 => ?_)
    · exact absurd c_12 hs
    · skip
      refine r_aload_n rfl dc_12_12_15 ?_
      refine r_iconst (v := nI 1) (by decide) dc_12_12_16 ?_
      refine r_aload_n rfl dc_12_12_17 ?_
      refine h_get (t := (3, 0, rl [(0, 11), (4, 14)])) (v := .int (nI p)) fx_3_28 hT2 ⟨by omega, by omega⟩ (show some (Value.int _) = _ from congrArg (fun z => some (Value.int z)) (hp)) dc_12_12_18 ?_
      refine h_call0 (t := (3, 0, rl [(0, 11), (4, 14)])) (as := [.int (nI 1), .int (nI p)]) (rest := []) (M1 := hk M T (w1 cs 12 3 (-nI (100 * 1 + p)))) rfl rfl iv_3_v91 (Or.inl rfl) na_1_52 hT2 ⟨by omega, by omega⟩ (show (3 : Nat) < 14 by decide) o_52 rfl (show (0 : Nat) ≤ 8 by decide) dc_12_12_21 (k_fail0 M hM T hT2 hT1 hT4 cs sz p he hp hsz hp2 hf 1 p) ?_
      refine r_aload_n rfl dc_12_12_24 ?_
      refine r_dup rfl dc_12_12_25 ?_
      refine h_get (t := (3, 0, rl [(0, 11), (4, 14)])) (v := .int (nI p)) fx_3_28 hT2 ⟨by omega, by omega⟩ (show some (Value.int _) = _ from congrArg (fun z => some (Value.int z)) ((w1_o _ _ (Or.inr (by decide))).trans hp)) dc_12_12_26 ?_
      refine r_iconst (v := nI 1) (by decide) dc_12_12_29 ?_
      refine r_iadd (v := nI (p + 1)) (nI_add _ _) dc_12_12_30 ?_
      refine h_pint (t := (3, 0, rl [(0, 11), (4, 14)])) fx_3_28 hT2 ⟨by omega, by omega⟩ (Or.inl fn_3_2) ty_3_2 (pi_3_2 _ _ _ _) dc_12_12_31 ?_
      exact r_vret rfl dc_12_12_34 (rfl)
set_option maxHeartbeats 4000000 in
theorem k_put1 (M : mH) (hM : 157 ≤ M.1) (T : Nat → mT) (hT2 : T 12 = (3, 0, rl [(0, 11), (4, 14)])) (hT1 : T 11 = (20, 80, fun _ => none)) (hT4 : T 14 = (20, 60, fun _ => none)) (cs : Nat → Nat → Int32) (sz p : Nat) (he : cs 12 1 = nI sz) (hp : cs 12 2 = nI p) (hsz : sz ≤ 60) (hp2 : p ≤ 1000) (hf : ¬ cs 12 3 = 0) (c : Int32) : mm_Ev 1 80 [.ref 12, .int c] (hk M T cs) ((none, hk M T cs)) := by
  refine r_ev (by decide +kernel) (show (2 : Nat) ≤ mm_nL 80 by decide +kernel) ?_
  show mm_Ru 0 (3, 2, false, prog_12_method_15_code, none) 0 [(0, .ref 12), (1, .int c)] [] (hk M T cs) (fun r9 => r9 = ((none, hk M T cs)))
  refine r_aload_n rfl dc_12_15_0 ?_
  refine h_get (t := (3, 0, rl [(0, 11), (4, 14)])) (v := .int (cs 12 3)) fx_3_31 hT2 ⟨by omega, by omega⟩ (rfl) dc_12_15_1 ?_
  refine r_ifne (t := 43) (by decide) dc_12_15_4 (fun c_4 => ?_) (fun c_4 => ?_)
  · skip
    exact r_vret rfl dc_12_15_43 (rfl)
  · exact absurd c_4 hf
set_option maxHeartbeats 4000000 in
theorem k_put0 (M : mH) (hM : 157 ≤ M.1) (T : Nat → mT) (hT2 : T 12 = (3, 0, rl [(0, 11), (4, 14)])) (hT1 : T 11 = (20, 80, fun _ => none)) (hT4 : T 14 = (20, 60, fun _ => none)) (cs : Nat → Nat → Int32) (sz p : Nat) (he : cs 12 1 = nI sz) (hp : cs 12 2 = nI p) (hsz : sz ≤ 60) (hp2 : p ≤ 1000) (hf : cs 12 3 = nI 0) (n : Nat) (hn : cs 12 5 = nI n) (hn6 : n < 60) (c : Int32) : mm_Ev 1 80 [.ref 12, .int c] (hk M T cs) ((none, hk M T (w1 (w1 cs 14 n c) 12 5 (nI (n + 1))))) := by
  refine r_ev (by decide +kernel) (show (2 : Nat) ≤ mm_nL 80 by decide +kernel) ?_
  show mm_Ru 0 (3, 2, false, prog_12_method_15_code, none) 0 [(0, .ref 12), (1, .int c)] [] (hk M T cs) (fun r9 => r9 = ((none, hk M T (w1 (w1 cs 14 n c) 12 5 (nI (n + 1))))))
  refine r_aload_n rfl dc_12_15_0 ?_
  refine h_get (t := (3, 0, rl [(0, 11), (4, 14)])) (v := .int (nI 0)) fx_3_31 hT2 ⟨by omega, by omega⟩ (show some (Value.int _) = _ from congrArg (fun z => some (Value.int z)) (hf)) dc_12_15_1 ?_
  refine r_ifne (t := 43) (by decide) dc_12_15_4 (fun c_4 => ?_) (fun c_4 => ?_)
  · exact absurd c_4 (by decide)
  · skip
    refine r_aload_n rfl dc_12_15_7 ?_
    refine h_get (t := (3, 0, rl [(0, 11), (4, 14)])) (v := .int (nI n)) fx_3_34 hT2 ⟨by omega, by omega⟩ (show some (Value.int _) = _ from congrArg (fun z => some (Value.int z)) (hn)) dc_12_15_8 ?_
    refine r_nzlt (t := 43) (by omega) (by decide) dc_12_15_11 ?_
    refine r_aload_n rfl dc_12_15_14 ?_
    refine h_get (t := (3, 0, rl [(0, 11), (4, 14)])) (v := .int (nI n)) fx_3_34 hT2 ⟨by omega, by omega⟩ (show some (Value.int _) = _ from congrArg (fun z => some (Value.int z)) (hn)) dc_12_15_15 ?_
    refine r_bipush (v := nI 60) (by decide) dc_12_15_18 ?_
    refine r_ncge (t := 43) (by omega) (by omega) (by decide) dc_12_15_20 (fun c_20 => ?_) (fun c_20 => ?_)
    · omega
    · skip
      refine r_aload_n rfl dc_12_15_23 ?_
      refine h_get (t := (3, 0, rl [(0, 11), (4, 14)])) (v := .ref 14) fx_3_15 hT2 ⟨by omega, by omega⟩ (rfl) dc_12_15_24 ?_
      refine r_aload_n rfl dc_12_15_27 ?_
      refine h_get (t := (3, 0, rl [(0, 11), (4, 14)])) (v := .int (nI n)) fx_3_34 hT2 ⟨by omega, by omega⟩ (show some (Value.int _) = _ from congrArg (fun z => some (Value.int z)) (hn)) dc_12_15_28 ?_
      refine r_iload_n rfl dc_12_15_31 ?_
      refine h_ist (n := 60) (e := n) hT4 ⟨by omega, by omega⟩ (show n < 60 by omega) (by omega) dc_12_15_32 ?_
      refine r_aload_n rfl dc_12_15_33 ?_
      refine r_dup rfl dc_12_15_34 ?_
      refine h_get (t := (3, 0, rl [(0, 11), (4, 14)])) (v := .int (nI n)) fx_3_34 hT2 ⟨by omega, by omega⟩ (show some (Value.int _) = _ from congrArg (fun z => some (Value.int z)) (hn)) dc_12_15_35 ?_
      refine r_iconst (v := nI 1) (by decide) dc_12_15_38 ?_
      refine r_iadd (v := nI (n + 1)) (nI_add _ _) dc_12_15_39 ?_
      refine h_pint (t := (3, 0, rl [(0, 11), (4, 14)])) fx_3_34 hT2 ⟨by omega, by omega⟩ (Or.inl fn_3_5) ty_3_5 (pi_3_5 _ _ _ _) dc_12_15_40 ?_
      exact r_vret rfl dc_12_15_43 (rfl)
