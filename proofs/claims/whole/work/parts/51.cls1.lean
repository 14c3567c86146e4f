/-! leaves: bounds, max, min, fill, lists -/
theorem dc_1_34_0 : decode prog_1_method_34_code 0 = .ok (.iload_n 0, 1) := by decide +kernel
theorem dc_1_34_1 : decode prog_1_method_34_code 1 = .ok (.iload_n 1, 1) := by decide +kernel
theorem dc_1_34_2 : decode prog_1_method_34_code 2 = .ok (.if_icmp .lt 12, 3) := by decide +kernel
theorem dc_1_34_5 : decode prog_1_method_34_code 5 = .ok (.iload_n 0, 1) := by decide +kernel
theorem dc_1_34_6 : decode prog_1_method_34_code 6 = .ok (.iload_n 2, 1) := by decide +kernel
theorem dc_1_34_7 : decode prog_1_method_34_code 7 = .ok (.if_icmp .gt 7, 3) := by decide +kernel
theorem dc_1_34_10 : decode prog_1_method_34_code 10 = .ok (.iconst 1, 1) := by decide +kernel
theorem dc_1_34_11 : decode prog_1_method_34_code 11 = .ok (.goto 4, 3) := by decide +kernel
theorem dc_1_34_14 : decode prog_1_method_34_code 14 = .ok (.iconst 0, 1) := by decide +kernel
theorem dc_1_34_15 : decode prog_1_method_34_code 15 = .ok (.ireturn, 1) := by decide +kernel
theorem dc_1_35_0 : decode prog_1_method_35_code 0 = .ok (.iload_n 0, 1) := by decide +kernel
theorem dc_1_35_1 : decode prog_1_method_35_code 1 = .ok (.iconst 0, 1) := by decide +kernel
theorem dc_1_35_2 : decode prog_1_method_35_code 2 = .ok (.sipush 359, 3) := by decide +kernel
theorem dc_1_35_5 : decode prog_1_method_35_code 5 = .ok (.invokestatic 84, 3) := by decide +kernel
theorem dc_1_35_8 : decode prog_1_method_35_code 8 = .ok (.ireturn, 1) := by decide +kernel
theorem dc_20_65_0 : decode prog_20_method_65_code 0 = .ok (.iload_n 0, 1) := by decide +kernel
theorem dc_20_65_1 : decode prog_20_method_65_code 1 = .ok (.iload_n 1, 1) := by decide +kernel
theorem dc_20_65_2 : decode prog_20_method_65_code 2 = .ok (.if_icmp .lt 7, 3) := by decide +kernel
theorem dc_20_65_5 : decode prog_20_method_65_code 5 = .ok (.iload_n 0, 1) := by decide +kernel
theorem dc_20_65_6 : decode prog_20_method_65_code 6 = .ok (.goto 4, 3) := by decide +kernel
theorem dc_20_65_9 : decode prog_20_method_65_code 9 = .ok (.iload_n 1, 1) := by decide +kernel
theorem dc_20_65_10 : decode prog_20_method_65_code 10 = .ok (.ireturn, 1) := by decide +kernel
theorem dc_20_69_0 : decode prog_20_method_69_code 0 = .ok (.iload_n 0, 1) := by decide +kernel
theorem dc_20_69_1 : decode prog_20_method_69_code 1 = .ok (.iload_n 1, 1) := by decide +kernel
theorem dc_20_69_2 : decode prog_20_method_69_code 2 = .ok (.if_icmp .gt 7, 3) := by decide +kernel
theorem dc_20_69_5 : decode prog_20_method_69_code 5 = .ok (.iload_n 0, 1) := by decide +kernel
theorem dc_20_69_6 : decode prog_20_method_69_code 6 = .ok (.goto 4, 3) := by decide +kernel
theorem dc_20_69_9 : decode prog_20_method_69_code 9 = .ok (.iload_n 1, 1) := by decide +kernel
theorem dc_20_69_10 : decode prog_20_method_69_code 10 = .ok (.ireturn, 1) := by decide +kernel
theorem dc_27_18_0 : decode prog_27_method_18_code 0 = .ok (.aload_n 0, 1) := by decide +kernel
theorem dc_27_18_1 : decode prog_27_method_18_code 1 = .ok (.getfield 9, 3) := by decide +kernel
theorem dc_27_18_4 : decode prog_27_method_18_code 4 = .ok (.iload_n 1, 1) := by decide +kernel
theorem dc_27_18_5 : decode prog_27_method_18_code 5 = .ok (.aaload, 1) := by decide +kernel
theorem dc_27_18_6 : decode prog_27_method_18_code 6 = .ok (.areturn, 1) := by decide +kernel
theorem dc_27_20_0 : decode prog_27_method_20_code 0 = .ok (.iload_n 1, 1) := by decide +kernel
theorem dc_27_20_1 : decode prog_27_method_20_code 1 = .ok (.aload_n 0, 1) := by decide +kernel
theorem dc_27_20_2 : decode prog_27_method_20_code 2 = .ok (.getfield 48, 3) := by decide +kernel
theorem dc_27_20_5 : decode prog_27_method_20_code 5 = .ok (.invokestatic 118, 3) := by decide +kernel
theorem dc_27_20_8 : decode prog_27_method_20_code 8 = .ok (.pop, 1) := by decide +kernel
theorem dc_27_20_9 : decode prog_27_method_20_code 9 = .ok (.aload_n 0, 1) := by decide +kernel
theorem dc_27_20_10 : decode prog_27_method_20_code 10 = .ok (.iload_n 1, 1) := by decide +kernel
theorem dc_27_20_11 : decode prog_27_method_20_code 11 = .ok (.invokevirtual 123, 3) := by decide +kernel
theorem dc_27_20_14 : decode prog_27_method_20_code 14 = .ok (.areturn, 1) := by decide +kernel
theorem dc_27_8_0 : decode prog_27_method_8_code 0 = .ok (.aload_n 0, 1) := by decide +kernel
theorem dc_27_8_1 : decode prog_27_method_8_code 1 = .ok (.getfield 48, 3) := by decide +kernel
theorem dc_27_8_4 : decode prog_27_method_8_code 4 = .ok (.ireturn, 1) := by decide +kernel
theorem dc_28_103_0 : decode prog_28_method_103_code 0 = .ok (.iconst 0, 1) := by decide +kernel
theorem dc_28_103_1 : decode prog_28_method_103_code 1 = .ok (.istore_n 2, 1) := by decide +kernel
theorem dc_28_103_2 : decode prog_28_method_103_code 2 = .ok (.aload_n 0, 1) := by decide +kernel
theorem dc_28_103_3 : decode prog_28_method_103_code 3 = .ok (.arraylength, 1) := by decide +kernel
theorem dc_28_103_4 : decode prog_28_method_103_code 4 = .ok (.istore_n 3, 1) := by decide +kernel
theorem dc_28_103_5 : decode prog_28_method_103_code 5 = .ok (.iload_n 2, 1) := by decide +kernel
theorem dc_28_103_6 : decode prog_28_method_103_code 6 = .ok (.iload_n 3, 1) := by decide +kernel
theorem dc_28_103_7 : decode prog_28_method_103_code 7 = .ok (.if_icmp .ge 13, 3) := by decide +kernel
theorem dc_28_103_10 : decode prog_28_method_103_code 10 = .ok (.aload_n 0, 1) := by decide +kernel
theorem dc_28_103_11 : decode prog_28_method_103_code 11 = .ok (.iload_n 2, 1) := by decide +kernel
theorem dc_28_103_12 : decode prog_28_method_103_code 12 = .ok (.iload_n 1, 1) := by decide +kernel
theorem dc_28_103_13 : decode prog_28_method_103_code 13 = .ok (.iastore, 1) := by decide +kernel
theorem dc_28_103_14 : decode prog_28_method_103_code 14 = .ok (.iinc 2 1, 3) := by decide +kernel
theorem dc_28_103_17 : decode prog_28_method_103_code 17 = .ok (.goto (-12), 3) := by decide +kernel
theorem dc_28_103_20 : decode prog_28_method_103_code 20 = .ok (.return_, 1) := by decide +kernel
theorem dc_31_17_0 : decode prog_31_method_17_code 0 = .ok (.iload_n 0, 1) := by decide +kernel
theorem dc_31_17_1 : decode prog_31_method_17_code 1 = .ok (.iload_n 1, 1) := by decide +kernel
theorem dc_31_17_2 : decode prog_31_method_17_code 2 = .ok (.aconst_null, 1) := by decide +kernel
theorem dc_31_17_3 : decode prog_31_method_17_code 3 = .ok (.invokestatic 105, 3) := by decide +kernel
theorem dc_31_17_6 : decode prog_31_method_17_code 6 = .ok (.ireturn, 1) := by decide +kernel
theorem dc_35_11_0 : decode prog_35_method_11_code 0 = .ok (.iload_n 0, 1) := by decide +kernel
theorem dc_35_11_1 : decode prog_35_method_11_code 1 = .ok (.ifCond .lt 8, 3) := by decide +kernel
theorem dc_35_11_4 : decode prog_35_method_11_code 4 = .ok (.iload_n 0, 1) := by decide +kernel
theorem dc_35_11_5 : decode prog_35_method_11_code 5 = .ok (.iload_n 1, 1) := by decide +kernel
theorem dc_35_11_6 : decode prog_35_method_11_code 6 = .ok (.if_icmp .lt 10, 3) := by decide +kernel
theorem dc_35_11_16 : decode prog_35_method_11_code 16 = .ok (.iload_n 0, 1) := by decide +kernel
theorem dc_35_11_17 : decode prog_35_method_11_code 17 = .ok (.ireturn, 1) := by decide +kernel
theorem iv_0_s84 : mm_iv 0 (.invokestatic 84) = some (0, 13) := by decide +kernel
theorem iv_20_s105 : mm_iv 20 (.invokestatic 105) = some (0, 42) := by decide +kernel
theorem iv_6_s118 : mm_iv 6 (.invokestatic 118) = some (0, 41) := by decide +kernel
theorem iv_6_v123 : mm_iv 6 (.invokevirtual 123) = some (1, 43) := by decide +kernel
theorem o_43 : mm_o 43 = 6 := by decide +kernel
theorem na_0_13 : mm_nas 0 13 = 3 := by decide +kernel
theorem na_0_41 : mm_nas 0 41 = 2 := by decide +kernel
theorem na_0_42 : mm_nas 0 42 = 3 := by decide +kernel
theorem na_1_43 : mm_nas 1 43 = 2 := by decide +kernel
set_option maxHeartbeats 4000000 in
theorem k_in (N : mH) (v lo hi : Int32) : mm_Ev 1 13 [.int v, .int lo, .int hi] (N) ((some (.int (sp_in v lo hi)), N)) := by
  refine r_ev (by decide +kernel) (show (3 : Nat) ≤ mm_nL 13 by decide +kernel) ?_
  show mm_Ru 0 (0, 3, false, prog_1_method_34_code, some .boolean) 0 [(0, .int v), (1, .int lo), (2, .int hi)] [] (N) (fun r9 => r9 = ((some (.int (sp_in v lo hi)), N)))
  refine r_iload_n rfl dc_1_34_0 ?_
  refine r_iload_n rfl dc_1_34_1 ?_
  refine r_iclt (t := 14) (by decide) dc_1_34_2 (fun c_2 => ?_) (fun c_2 => ?_)
  · skip
    refine r_iconst (v := nI 0) (by decide) dc_1_34_14 ?_
    refine r_zret rfl (by decide) dc_1_34_15 ?_
    rw [sp_in_a _ c_2]
    rfl
  · skip
    refine r_iload_n rfl dc_1_34_5 ?_
    refine r_iload_n rfl dc_1_34_6 ?_
    refine r_icgt (t := 14) (by decide) dc_1_34_7 (fun c_7 => ?_) (fun c_7 => ?_)
    · skip
      refine r_iconst (v := nI 0) (by decide) dc_1_34_14 ?_
      refine r_zret rfl (by decide) dc_1_34_15 ?_
      rw [sp_in_b _ c_7]
      rfl
    · skip
      refine r_iconst (v := nI 1) (by decide) dc_1_34_10 ?_
      refine r_goto (t := 15) (by decide) dc_1_34_11 ?_
      refine r_zret rfl (by decide) dc_1_34_15 ?_
      rw [sp_in_c c_2 c_7]
      rfl
theorem k_inT (N : mH) (a lo hi : Nat) (h1 : lo ≤ a) (h2 : a ≤ hi) (hb : hi < 2 ^ 31) : mm_Ev 1 13 [.int (nI a), .int (nI lo), .int (nI hi)] N (some (.int (nI 1)), N) := by
  have h := k_in N (nI a) (nI lo) (nI hi)
  rwa [show sp_in (nI a) (nI lo) (nI hi) = nI 1 from sp_in_ok h1 h2 hb] at h
theorem k_inF (N : mH) (a lo hi : Nat) (h : a < lo ∨ hi < a) (ha : a < 2 ^ 31) (hl : lo < 2 ^ 31) : mm_Ev 1 13 [.int (nI a), .int (nI lo), .int (nI hi)] N (some (.int (nI 0)), N) := by
  have h9 := k_in N (nI a) (nI lo) (nI hi)
  rwa [show sp_in (nI a) (nI lo) (nI hi) = nI 0 from if_neg (fun q => by have := (nI_leI hl ha).mp q.1; have := h.resolve_left (by omega); exact absurd q.2 (nI_ge this ha))] at h9
set_option maxHeartbeats 4000000 in
theorem k_isDay (N : mH) (v : Int32) : mm_Ev 2 25 [.int v] (N) ((some (.int (sp_in v (nI 0) (nI 359))), N)) := by
  refine r_ev (by decide +kernel) (show (1 : Nat) ≤ mm_nL 25 by decide +kernel) ?_
  show mm_Ru 1 (0, 1, false, prog_1_method_35_code, some .boolean) 0 [(0, .int v)] [] (N) (fun r9 => r9 = ((some (.int (sp_in v (nI 0) (nI 359))), N)))
  refine r_iload_n rfl dc_1_35_0 ?_
  refine r_iconst (v := nI 0) (by decide) dc_1_35_1 ?_
  refine r_sipush (v := nI 359) (by decide) dc_1_35_2 ?_
  refine h_callS (as := [.int v, .int (nI 0), .int (nI 359)]) (rest := []) (v := .int (sp_in v (nI 0) (nI 359))) rfl rfl iv_0_s84 (Or.inl rfl) na_0_13 rfl (show (0 : Nat) ≤ 8 by decide) dc_1_35_5 (k_in _ v (nI 0) (nI 359)) ?_
  exact r_zret rfl (by unfold sp_in; split <;> decide) dc_1_35_8 (rfl)
theorem k_isDayT (N : mH) (a : Nat) (h : a < 360) : mm_Ev 2 25 [.int (nI a)] N (some (.int (nI 1)), N) := by
  have h9 := k_isDay N (nI a)
  rwa [show sp_in (nI a) (nI 0) (nI 359) = nI 1 from sp_in_ok (Nat.zero_le _) (by omega) (by decide)] at h9
def mx (a b : Int32) : Int32 := if a < b then b else a
def mn (a b : Int32) : Int32 := if b < a then b else a
theorem mx_n {a b : Nat} (ha : a < 2 ^ 31) (hb : b < 2 ^ 31) : mx (nI a) (nI b) = nI (max a b) := by
  unfold mx
  by_cases h : a < b
  · rw [if_pos (nI_lt h hb), Nat.max_eq_right (by omega)]
  · rw [if_neg (nI_nlt (by omega) ha), Nat.max_eq_left (by omega)]
theorem mn_n {a b : Nat} (ha : a < 2 ^ 31) (hb : b < 2 ^ 31) : mn (nI a) (nI b) = nI (min a b) := by
  unfold mn
  by_cases h : b < a
  · rw [if_pos (nI_lt h ha), Nat.min_eq_right (by omega)]
  · rw [if_neg (nI_nlt (by omega) hb), Nat.min_eq_left (by omega)]
set_option maxHeartbeats 4000000 in
theorem k_max (N : mH) (x y : Int32) : mm_Ev 1 33 [.int x, .int y] (N) ((some (.int (mx x y)), N)) := by
  refine r_ev (by decide +kernel) (show (2 : Nat) ≤ mm_nL 33 by decide +kernel) ?_
  show mm_Ru 0 (19, 2, false, prog_20_method_65_code, some .int) 0 [(0, .int x), (1, .int y)] [] (N) (fun r9 => r9 = ((some (.int (mx x y)), N)))
  refine r_iload_n rfl dc_20_65_0 ?_
  refine r_iload_n rfl dc_20_65_1 ?_
  refine r_iclt (t := 9) (by decide) dc_20_65_2 (fun c_2 => ?_) (fun c_2 => ?_)
  · skip
    refine r_iload_n rfl dc_20_65_9 ?_
    refine r_iret rfl dc_20_65_10 ?_
    unfold mx
    rw [if_pos c_2]
  · skip
    refine r_iload_n rfl dc_20_65_5 ?_
    refine r_goto (t := 10) (by decide) dc_20_65_6 ?_
    refine r_iret rfl dc_20_65_10 ?_
    unfold mx
    rw [if_neg c_2]
set_option maxHeartbeats 4000000 in
theorem k_min (N : mH) (x y : Int32) : mm_Ev 1 37 [.int x, .int y] (N) ((some (.int (mn x y)), N)) := by
  refine r_ev (by decide +kernel) (show (2 : Nat) ≤ mm_nL 37 by decide +kernel) ?_
  show mm_Ru 0 (19, 2, false, prog_20_method_69_code, some .int) 0 [(0, .int x), (1, .int y)] [] (N) (fun r9 => r9 = ((some (.int (mn x y)), N)))
  refine r_iload_n rfl dc_20_69_0 ?_
  refine r_iload_n rfl dc_20_69_1 ?_
  refine r_icgt (t := 9) (by decide) dc_20_69_2 (fun c_2 => ?_) (fun c_2 => ?_)
  · skip
    refine r_iload_n rfl dc_20_69_9 ?_
    refine r_iret rfl dc_20_69_10 ?_
    unfold mn
    rw [if_pos c_2]
  · skip
    refine r_iload_n rfl dc_20_69_5 ?_
    refine r_goto (t := 10) (by decide) dc_20_69_6 ?_
    refine r_iret rfl dc_20_69_10 ?_
    unfold mn
    rw [if_neg c_2]
def fl (f : Nat → Int32) (n : Nat) (v : Int32) : Nat → Int32 := fun j => if j < n then v else f j
theorem fl_0 (f : Nat → Int32) (v : Int32) : fl f 0 v = f := by
  funext j
  exact if_neg (Nat.not_lt_zero j)
theorem fl_S (f : Nat → Int32) (n : Nat) (v : Int32) : upd (fl f n v) n v = fl f (n + 1) v := by
  funext j
  unfold upd fl
  by_cases h : j = n
  · rw [if_pos h, if_pos (by omega)]
  · rw [if_neg h]
    by_cases h2 : j < n
    · rw [if_pos h2, if_pos (by omega)]
    · rw [if_neg h2, if_neg (by omega)]
set_option maxHeartbeats 4000000 in
theorem k_fill_ (M : mH) (T : Nat → mT) (cs : Nat → Nat → Int32) (a n : Nat) (r : Nat → Option Nat) (v : Int32) (hT : T a = (20, n, r)) (ha : inC M a) (hn : n < 2 ^ 31) : mm_Ev 1 2 [.ref a, .int v] (hk M T (wA cs a (fl (cs a) 0 v))) ((none, hk M T (wA cs a (fl (cs a) n v)))) := by
  refine r_ev (by decide +kernel) (show (2 : Nat) ≤ mm_nL 2 by decide +kernel) ?_
  show mm_Ru 0 (15, 4, false, prog_28_method_103_code, none) 0 [(0, .ref a), (1, .int v)] [] (hk M T (wA cs a (fl (cs a) 0 v))) (fun r9 => r9 = ((none, hk M T (wA cs a (fl (cs a) n v)))))
  refine r_iconst (v := nI 0) (by decide) dc_28_103_0 ?_
  refine r_istore_n (ls' := [(2, .int (nI 0)), (0, .ref a), (1, .int v)]) (by decide) rfl dc_28_103_1 ?_
  refine r_aload_n rfl dc_28_103_2 ?_
  refine h_len (c := 20) (n := n) hT (Or.inl rfl) ha dc_28_103_3 ?_
  refine r_istore_n (ls' := [(3, .int (nI n)), (2, .int (nI 0)), (0, .ref a), (1, .int v)]) (by decide) rfl dc_28_103_4 ?_
  refine r_ls [(2, .int (nI 0)), (0, .ref a), (1, .int v), (3, .int (nI n))] (mm_ndk_of [2, 0, 1, 3] rfl (by decide)) (mm_sub_cons rfl (mm_sub_cons rfl (mm_sub_cons rfl (mm_sub_cons rfl (mm_sub_nil _))))) ?_
  refine mm_cnt (P := fun m => mm_Ru 0 (15, 4, false, prog_28_method_103_code, none) 5 [(2, .int (nI m)), (0, .ref a), (1, .int v), (3, .int (nI n))] [] (hk M T (wA cs a (fl (cs a) m v))) (fun r9 => r9 = ((none, hk M T (wA cs a (fl (cs a) n v)))))) n ?_ ?_ 0 (by omega)
  · show mm_Ru 0 (15, 4, false, prog_28_method_103_code, none) 5 [(2, .int (nI n)), (0, .ref a), (1, .int v), (3, .int (nI n))] [] (hk M T (wA cs a (fl (cs a) n v))) (fun r9 => r9 = ((none, hk M T (wA cs a (fl (cs a) n v)))))
    refine r_iload_n rfl dc_28_103_5 ?_
    refine r_iload_n rfl dc_28_103_6 ?_
    refine r_ncge (t := 20) (by omega) (by omega) (by decide) dc_28_103_7 (fun c_7 => ?_) (fun c_7 => ?_)
    · skip
      exact r_vret rfl dc_28_103_20 (rfl)
    · omega
  · intro m h_m ih_m 
    show mm_Ru 0 (15, 4, false, prog_28_method_103_code, none) 5 [(2, .int (nI m)), (0, .ref a), (1, .int v), (3, .int (nI n))] [] (hk M T (wA cs a (fl (cs a) m v))) (fun r9 => r9 = ((none, hk M T (wA cs a (fl (cs a) n v)))))
    refine r_iload_n rfl dc_28_103_5 ?_
    refine r_iload_n rfl dc_28_103_6 ?_
    refine r_ncge (t := 20) (by omega) (by omega) (by decide) dc_28_103_7 (fun c_7 => ?_) (fun c_7 => ?_)
    · omega
    · skip
      refine r_aload_n rfl dc_28_103_10 ?_
      refine r_iload_n rfl dc_28_103_11 ?_
      refine r_iload_n rfl dc_28_103_12 ?_
      refine h_ist (n := n) (e := m) hT ha (show m < n by omega) (by omega) dc_28_103_13 ?_
      refine r_iinc (x := nI m) (v := nI (m + 1)) (ls' := [(2, .int (nI (m + 1))), (0, .ref a), (1, .int v), (3, .int (nI n))]) rfl (nI_1 _) (by decide) rfl dc_28_103_14 ?_
      refine r_goto (t := 5) (by decide) dc_28_103_17 ?_
      rw [w1_wA, fl_S]
      exact ih_m
theorem k_fill (M : mH) (T : Nat → mT) (cs : Nat → Nat → Int32) (a n : Nat) (r : Nat → Option Nat) (v : Int32) (hT : T a = (20, n, r)) (ha : inC M a) (hn : n < 2 ^ 31) : mm_Ev 1 2 [.ref a, .int v] (hk M T cs) (none, hk M T (wA cs a (fl (cs a) n v))) := by
  have h := k_fill_ M T cs a n r v hT ha hn
  rwa [fl_0, wA_id] at h
set_option maxHeartbeats 4000000 in
theorem k_size (M : mH) (T : Nat → mT) (cs : Nat → Nat → Int32) (l e : Nat) (hl : T l = (6, 0, rl [(0, e)])) (hlC : inC M l) : mm_Ev 1 26 [.ref l] (hk M T cs) ((some (.int (cs l 1)), hk M T cs)) := by
  refine r_ev (by decide +kernel) (show (1 : Nat) ≤ mm_nL 26 by decide +kernel) ?_
  show mm_Ru 0 (6, 1, false, prog_27_method_8_code, some .int) 0 [(0, .ref l)] [] (hk M T cs) (fun r9 => r9 = ((some (.int (cs l 1)), hk M T cs)))
  refine r_aload_n rfl dc_27_8_0 ?_
  refine h_get (t := (6, 0, rl [(0, e)])) (v := .int (cs l 1)) fx_6_48 hl hlC (rfl) dc_27_8_1 ?_
  exact r_iret rfl dc_27_8_4 (rfl)
set_option maxHeartbeats 4000000 in
theorem k_chk0 (N : mH) (i n : Nat) (hi : i < n) (hn : n < 2 ^ 31) : mm_Ev 1 42 [.int (nI i), .int (nI n), .null] (N) ((some (.int (nI i)), N)) := by
  refine r_ev (by decide +kernel) (show (3 : Nat) ≤ mm_nL 42 by decide +kernel) ?_
  show mm_Ru 0 (21, 3, false, prog_35_method_11_code, some .int) 0 [(0, .int (nI i)), (1, .int (nI n)), (2, .null)] [] (N) (fun r9 => r9 = ((some (.int (nI i)), N)))
  refine r_iload_n rfl dc_35_11_0 ?_
  refine r_nzlt (t := 9) (by omega) (by decide) dc_35_11_1 ?_
  refine r_iload_n rfl dc_35_11_4 ?_
  refine r_iload_n rfl dc_35_11_5 ?_
  refine r_nclt (t := 16) (by omega) (by omega) (by decide) dc_35_11_6 (fun c_6 => ?_) (fun c_6 => ?_)
  · skip
    refine r_iload_n rfl dc_35_11_16 ?_
    exact r_iret rfl dc_35_11_17 (rfl)
  · omega
set_option maxHeartbeats 4000000 in
theorem k_chk (N : mH) (i n : Nat) (hi : i < n) (hn : n < 2 ^ 31) : mm_Ev 2 41 [.int (nI i), .int (nI n)] (N) ((some (.int (nI i)), N)) := by
  refine r_ev (by decide +kernel) (show (2 : Nat) ≤ mm_nL 41 by decide +kernel) ?_
  show mm_Ru 1 (20, 2, false, prog_31_method_17_code, some .int) 0 [(0, .int (nI i)), (1, .int (nI n))] [] (N) (fun r9 => r9 = ((some (.int (nI i)), N)))
  refine r_iload_n rfl dc_31_17_0 ?_
  refine r_iload_n rfl dc_31_17_1 ?_
  refine r_null dc_31_17_2 ?_
  refine h_callS (as := [.int (nI i), .int (nI n), .null]) (rest := []) (v := .int (nI i)) rfl rfl iv_20_s105 (Or.inl rfl) na_0_42 rfl (show (0 : Nat) ≤ 8 by decide) dc_31_17_3 (k_chk0 _ i n hi hn) ?_
  exact r_iret rfl dc_31_17_6 (rfl)
set_option maxHeartbeats 4000000 in
theorem k_elem (M : mH) (T : Nat → mT) (cs : Nat → Nat → Int32) (l e c i y : Nat) (r : Nat → Option Nat) (hl : T l = (6, 0, rl [(0, e)])) (hlC : inC M l) (he : T e = (23, c, r)) (heC : inC M e) (hi : i < c) (hc : c < 2 ^ 31) (hy : r i = some y) : mm_Ev 1 43 [.ref l, .int (nI i)] (hk M T cs) ((some (.ref y), hk M T cs)) := by
  refine r_ev (by decide +kernel) (show (2 : Nat) ≤ mm_nL 43 by decide +kernel) ?_
  show mm_Ru 0 (6, 2, false, prog_27_method_18_code, some (.object "java/lang/Object")) 0 [(0, .ref l), (1, .int (nI i))] [] (hk M T cs) (fun r9 => r9 = ((some (.ref y), hk M T cs)))
  refine r_aload_n rfl dc_27_18_0 ?_
  refine h_get (t := (6, 0, rl [(0, e)])) (v := .ref e) fx_6_9 hl hlC (rfl) dc_27_18_1 ?_
  refine r_iload_n rfl dc_27_18_4 ?_
  refine h_aal (c := 23) (n := c) (e := i) (y := y) he (Or.inl rfl) heC (by omega) (by omega) (hy) dc_27_18_5 ?_
  exact r_aret rfl dc_27_18_6 (rfl)
set_option maxHeartbeats 4000000 in
theorem k_get (M : mH) (T : Nat → mT) (cs : Nat → Nat → Int32) (l e c i y : Nat) (r : Nat → Option Nat) (hl : T l = (6, 0, rl [(0, e)])) (hlC : inC M l) (he : T e = (23, c, r)) (heC : inC M e) (hi : i < c) (hc : c < 2 ^ 31) (hy : r i = some y) (n : Nat) (hn : cs l 1 = nI n) (hin : i < n) (hnc : n < 2 ^ 31) : mm_Ev 3 40 [.ref l, .int (nI i)] (hk M T cs) ((some (.ref y), hk M T cs)) := by
  refine r_ev (by decide +kernel) (show (2 : Nat) ≤ mm_nL 40 by decide +kernel) ?_
  show mm_Ru 2 (6, 2, false, prog_27_method_20_code, some (.object "java/lang/Object")) 0 [(0, .ref l), (1, .int (nI i))] [] (hk M T cs) (fun r9 => r9 = ((some (.ref y), hk M T cs)))
  refine r_iload_n rfl dc_27_20_0 ?_
  refine r_aload_n rfl dc_27_20_1 ?_
  refine h_get (t := (6, 0, rl [(0, e)])) (v := .int (nI n)) fx_6_48 hl hlC (show some (Value.int _) = _ from congrArg (fun z => some (Value.int z)) (hn)) dc_27_20_2 ?_
  refine h_callS (as := [.int (nI i), .int (nI n)]) (rest := []) (v := .int (nI i)) rfl rfl iv_6_s118 (Or.inl rfl) na_0_41 rfl (show (0 : Nat) ≤ 8 by decide) dc_27_20_5 (k_chk _ i n hin (by omega)) ?_
  refine r_pop rfl dc_27_20_8 ?_
  refine r_aload_n rfl dc_27_20_9 ?_
  refine r_iload_n rfl dc_27_20_10 ?_
  refine h_callv (t := (6, 0, rl [(0, e)])) (as := [.int (nI i)]) (rest := []) (v := .ref y) (M1 := hk M T cs) rfl rfl iv_6_v123 (Or.inl rfl) na_1_43 hl hlC (show (6 : Nat) < 14 by decide) o_43 rfl (show (0 : Nat) ≤ 8 by decide) dc_27_20_11 (mm_Ev_up (by decide : 1 ≤ 2) (k_elem M T cs l e c i y r hl hlC he heC hi hc hy)) ?_
  exact r_aret rfl dc_27_20_14 (rfl)
