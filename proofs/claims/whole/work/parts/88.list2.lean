/-! lists that grow: add -/
theorem dc_27_24_0 : decode prog_27_method_24_code 0 = .ok (.iload_n 3, 1) := by decide +kernel
theorem dc_27_24_1 : decode prog_27_method_24_code 1 = .ok (.aload_n 2, 1) := by decide +kernel
theorem dc_27_24_2 : decode prog_27_method_24_code 2 = .ok (.arraylength, 1) := by decide +kernel
theorem dc_27_24_3 : decode prog_27_method_24_code 3 = .ok (.if_icmp .ne 8, 3) := by decide +kernel
theorem dc_27_24_6 : decode prog_27_method_24_code 6 = .ok (.aload_n 0, 1) := by decide +kernel
theorem dc_27_24_7 : decode prog_27_method_24_code 7 = .ok (.invokevirtual 129, 3) := by decide +kernel
theorem dc_27_24_10 : decode prog_27_method_24_code 10 = .ok (.astore_n 2, 1) := by decide +kernel
theorem dc_27_24_11 : decode prog_27_method_24_code 11 = .ok (.aload_n 2, 1) := by decide +kernel
theorem dc_27_24_12 : decode prog_27_method_24_code 12 = .ok (.iload_n 3, 1) := by decide +kernel
theorem dc_27_24_13 : decode prog_27_method_24_code 13 = .ok (.aload_n 1, 1) := by decide +kernel
theorem dc_27_24_14 : decode prog_27_method_24_code 14 = .ok (.aastore, 1) := by decide +kernel
theorem dc_27_24_15 : decode prog_27_method_24_code 15 = .ok (.aload_n 0, 1) := by decide +kernel
theorem dc_27_24_16 : decode prog_27_method_24_code 16 = .ok (.iload_n 3, 1) := by decide +kernel
theorem dc_27_24_17 : decode prog_27_method_24_code 17 = .ok (.iconst 1, 1) := by decide +kernel
theorem dc_27_24_18 : decode prog_27_method_24_code 18 = .ok (.iadd, 1) := by decide +kernel
theorem dc_27_24_19 : decode prog_27_method_24_code 19 = .ok (.putfield 48, 3) := by decide +kernel
theorem dc_27_24_22 : decode prog_27_method_24_code 22 = .ok (.return_, 1) := by decide +kernel
theorem dc_27_25_0 : decode prog_27_method_25_code 0 = .ok (.aload_n 0, 1) := by decide +kernel
theorem dc_27_25_1 : decode prog_27_method_25_code 1 = .ok (.dup, 1) := by decide +kernel
theorem dc_27_25_2 : decode prog_27_method_25_code 2 = .ok (.getfield 63, 3) := by decide +kernel
theorem dc_27_25_5 : decode prog_27_method_25_code 5 = .ok (.iconst 1, 1) := by decide +kernel
theorem dc_27_25_6 : decode prog_27_method_25_code 6 = .ok (.iadd, 1) := by decide +kernel
theorem dc_27_25_7 : decode prog_27_method_25_code 7 = .ok (.putfield 63, 3) := by decide +kernel
theorem dc_27_25_10 : decode prog_27_method_25_code 10 = .ok (.aload_n 0, 1) := by decide +kernel
theorem dc_27_25_11 : decode prog_27_method_25_code 11 = .ok (.aload_n 1, 1) := by decide +kernel
theorem dc_27_25_12 : decode prog_27_method_25_code 12 = .ok (.aload_n 0, 1) := by decide +kernel
theorem dc_27_25_13 : decode prog_27_method_25_code 13 = .ok (.getfield 9, 3) := by decide +kernel
theorem dc_27_25_16 : decode prog_27_method_25_code 16 = .ok (.aload_n 0, 1) := by decide +kernel
theorem dc_27_25_17 : decode prog_27_method_25_code 17 = .ok (.getfield 48, 3) := by decide +kernel
theorem dc_27_25_20 : decode prog_27_method_25_code 20 = .ok (.invokevirtual 131, 3) := by decide +kernel
theorem dc_27_25_23 : decode prog_27_method_25_code 23 = .ok (.iconst 1, 1) := by decide +kernel
theorem dc_27_25_24 : decode prog_27_method_25_code 24 = .ok (.ireturn, 1) := by decide +kernel
theorem iv_6_v129 : mm_iv 6 (.invokevirtual 129) = some (1, 30) := by decide +kernel
theorem iv_6_v131 : mm_iv 6 (.invokevirtual 131) = some (1, 29) := by decide +kernel
theorem o_29 : mm_o 29 = 6 := by decide +kernel
theorem o_30 : mm_o 30 = 6 := by decide +kernel
theorem na_1_29 : mm_nas 1 29 = 4 := by decide +kernel
theorem na_1_30 : mm_nas 1 30 = 1 := by decide +kernel
set_option maxHeartbeats 4000000 in
theorem k_a3E (M : mH) (hlo : 157 ≤ M.1) (hhi : M.1 ≤ 900000) (T : Nat → mT) (cs : Nat → Nat → Int32) (l : Nat) (hL : T l = (6, 0, rl [(0, 1000000)])) (hl : inC M l) (hsz : cs l 1 = nI 0) (hE : M.2.2 1000000 = .inl (3, 0, .inr (.inr (.inr (.inr (fun _ => none)))))) (y : Nat) (ty : mT) (hy : T y = ty) (hyC : inC M y) (h14 : ty.1 < 14) (hyl : ¬ y = l) : mm_Ev 4 29 [.ref l, .ref y, .ref 1000000, .int (nI 0)] (hk M T cs) ((none, hk (mnew M 10) (va_up (va_up (va_up T M.1 (23, 10, fun _ => none)) l (6, 0, rl [(0, M.1)])) M.1 (23, 10, va_up (fun _ => none) 0 (some y))) (w1 (wA cs M.1 (fun _ => 0)) l 1 (nI 1)))) := by
  have hl1 := hl.1
  have hy1 := hyC.1
  refine r_ev (by decide +kernel) (show (4 : Nat) ≤ mm_nL 29 by decide +kernel) ?_
  show mm_Ru 3 (6, 4, false, prog_27_method_24_code, none) 0 [(0, .ref l), (1, .ref y), (2, .ref 1000000), (3, .int (nI 0))] [] (hk M T cs) (fun r9 => r9 = ((none, hk (mnew M 10) (va_up (va_up (va_up T M.1 (23, 10, fun _ => none)) l (6, 0, rl [(0, M.1)])) M.1 (23, 10, va_up (fun _ => none) 0 (some y))) (w1 (wA cs M.1 (fun _ => 0)) l 1 (nI 1)))))
  refine r_iload_n rfl dc_27_24_0 ?_
  refine r_aload_n rfl dc_27_24_1 ?_
  refine h_elen (by show M.1 ≤ 1000000; omega) hE dc_27_24_2 ?_
  refine r_ncne (t := 11) (by omega) (by omega) (by decide) dc_27_24_3 (fun c_3 => ?_) (fun c_3 => ?_)
  · omega
  · skip
    refine r_aload_n rfl dc_27_24_6 ?_
    refine h_callv (t := (6, 0, rl [(0, 1000000)])) (as := []) (rest := []) (v := .ref M.1) (M1 := hk (mnew M 10) (va_up (va_up T M.1 ((23, 10, fun _ => none))) l ((6, 0, rl [(0, M.1)]))) (wA cs M.1 (fun _ => 0))) rfl rfl iv_6_v129 (Or.inl rfl) na_1_30 hL hl (show (6 : Nat) < 14 by decide) o_30 rfl (show (0 : Nat) ≤ 8 by decide) dc_27_24_7 (k_grE0 M hlo hhi T cs l hL hl hsz hE) ?_
    refine r_astore_n (ls' := [(2, .ref M.1), (0, .ref l), (1, .ref y), (3, .int (nI 0))]) (by decide) rfl dc_27_24_10 ?_
    refine r_aload_n rfl dc_27_24_11 ?_
    refine r_iload_n rfl dc_27_24_12 ?_
    refine r_aload_n rfl dc_27_24_13 ?_
    refine h_ast (n := 10) (e := 0) (r := fun _ => none) (ty := ty) ((up_o _ _ (by omega)).trans ((if_pos rfl))) ⟨by show M.1 < M.1 + 1; omega, by omega⟩ (by omega) (by omega) ((up_o _ _ (by omega)).trans ((up_o _ _ (by omega)).trans (hy))) ⟨by show y < M.1 + 1; omega, by omega⟩ h14 dc_27_24_14 ?_
    show mm_Ru 3 (6, 4, false, prog_27_method_24_code, none) 15 [(2, .ref M.1), (0, .ref l), (1, .ref y), (3, .int (nI 0))] [] (hk (mnew M 10) (va_up (va_up (va_up T M.1 ((23, 10, fun _ => none))) l ((6, 0, rl [(0, M.1)]))) M.1 ((23, 10, va_up (fun _ => none) 0 (some y)))) (wA cs M.1 (fun _ => 0))) (fun r9 => r9 = ((none, hk (mnew M 10) (va_up (va_up (va_up T M.1 (23, 10, fun _ => none)) l (6, 0, rl [(0, M.1)])) M.1 (23, 10, va_up (fun _ => none) 0 (some y))) (w1 (wA cs M.1 (fun _ => 0)) l 1 (nI 1)))))
    refine r_aload_n rfl dc_27_24_15 ?_
    refine r_iload_n rfl dc_27_24_16 ?_
    refine r_iconst (v := nI 1) (by decide) dc_27_24_17 ?_
    refine r_iadd (v := nI 1) (by decide) dc_27_24_18 ?_
    refine h_pint (t := (6, 0, rl [(0, M.1)])) fx_6_48 ((up_o _ _ (by omega)).trans ((if_pos rfl))) ⟨by show l < M.1 + 1; omega, by omega⟩ (Or.inl fn_6_1) ty_6_1 (pi_6_1 _ _ _ _) dc_27_24_19 ?_
    exact r_vret rfl dc_27_24_22 (rfl)
set_option maxHeartbeats 4000000 in
theorem k_a3F (M : mH) (hlo : 157 ≤ M.1) (hhi : M.1 ≤ 900000) (T : Nat → mT) (cs : Nat → Nat → Int32) (l ed c : Nat) (r : Nat → Option Nat) (hL : T l = (6, 0, rl [(0, ed)])) (hl : inC M l) (hsz : cs l 1 = nI c) (hT : T ed = (23, c, r)) (hd : inC M ed) (hel : ∀ i y, i < c → r i = some y → inC M y ∧ (T y).1 < 14) (hc0 : 0 < c) (hc : c ≤ 100) (hne : ¬ l = ed) (y : Nat) (ty : mT) (hy : T y = ty) (hyC : inC M y) (h14 : ty.1 < 14) (hyl : ¬ y = l) : mm_Ev 6 29 [.ref l, .ref y, .ref ed, .int (nI c)] (hk M T cs) ((none, hk (mnew M (c + max 1 (c / 2))) (va_up (va_up (va_up (va_up T M.1 (23, c + max 1 (c / 2), fun _ => none)) M.1 (23, c + max 1 (c / 2), va_cpy r (fun _ => none) 0 0 c)) l (6, 0, rl [(0, M.1)])) M.1 (23, c + max 1 (c / 2), va_up (va_cpy r (fun _ => none) 0 0 c) c (some y))) (w1 (wA cs M.1 (fun _ => 0)) l 1 (nI (c + 1))))) := by
  have hl1 := hl.1
  have hy1 := hyC.1
  have hd1 := hd.1
  refine r_ev (by decide +kernel) (show (4 : Nat) ≤ mm_nL 29 by decide +kernel) ?_
  show mm_Ru 5 (6, 4, false, prog_27_method_24_code, none) 0 [(0, .ref l), (1, .ref y), (2, .ref ed), (3, .int (nI c))] [] (hk M T cs) (fun r9 => r9 = ((none, hk (mnew M (c + max 1 (c / 2))) (va_up (va_up (va_up (va_up T M.1 (23, c + max 1 (c / 2), fun _ => none)) M.1 (23, c + max 1 (c / 2), va_cpy r (fun _ => none) 0 0 c)) l (6, 0, rl [(0, M.1)])) M.1 (23, c + max 1 (c / 2), va_up (va_cpy r (fun _ => none) 0 0 c) c (some y))) (w1 (wA cs M.1 (fun _ => 0)) l 1 (nI (c + 1))))))
  refine r_iload_n rfl dc_27_24_0 ?_
  refine r_aload_n rfl dc_27_24_1 ?_
  refine h_len (c := 23) (n := c) hT (Or.inr (Or.inl rfl)) hd dc_27_24_2 ?_
  refine r_ncne (t := 11) (by omega) (by omega) (by decide) dc_27_24_3 (fun c_3 => ?_) (fun c_3 => ?_)
  · omega
  · skip
    refine r_aload_n rfl dc_27_24_6 ?_
    refine h_callv (t := (6, 0, rl [(0, ed)])) (as := []) (rest := []) (v := .ref M.1) (M1 := hk (mnew M (c + max 1 (c / 2))) (va_up (va_up (va_up T M.1 ((23, c + max 1 (c / 2), fun _ => none))) M.1 ((23, c + max 1 (c / 2), va_cpy r (fun _ => none) 0 0 c))) l ((6, 0, rl [(0, M.1)]))) (wA cs M.1 (fun _ => 0))) rfl rfl iv_6_v129 (Or.inl rfl) na_1_30 hL hl (show (6 : Nat) < 14 by decide) o_30 rfl (show (0 : Nat) ≤ 8 by decide) dc_27_24_7 (k_grF0 M hlo hhi T cs l ed c r hL hl hsz hT hd hel hc0 hc hne) ?_
    refine r_astore_n (ls' := [(2, .ref M.1), (0, .ref l), (1, .ref y), (3, .int (nI c))]) (by decide) rfl dc_27_24_10 ?_
    refine r_aload_n rfl dc_27_24_11 ?_
    refine r_iload_n rfl dc_27_24_12 ?_
    refine r_aload_n rfl dc_27_24_13 ?_
    refine h_ast (n := c + max 1 (c / 2)) (e := c) (r := va_cpy r (fun _ => none) 0 0 c) (ty := ty) ((up_o _ _ (by omega)).trans ((if_pos rfl))) ⟨by show M.1 < M.1 + 1; omega, by omega⟩ (by omega) (by omega) ((up_o _ _ (by omega)).trans ((up_o _ _ (by omega)).trans ((up_o _ _ (by omega)).trans (hy)))) ⟨by show y < M.1 + 1; omega, by omega⟩ h14 dc_27_24_14 ?_
    show mm_Ru 5 (6, 4, false, prog_27_method_24_code, none) 15 [(2, .ref M.1), (0, .ref l), (1, .ref y), (3, .int (nI c))] [] (hk (mnew M (c + max 1 (c / 2))) (va_up (va_up (va_up (va_up T M.1 ((23, c + max 1 (c / 2), fun _ => none))) M.1 ((23, c + max 1 (c / 2), va_cpy r (fun _ => none) 0 0 c))) l ((6, 0, rl [(0, M.1)]))) M.1 ((23, c + max 1 (c / 2), va_up (va_cpy r (fun _ => none) 0 0 c) c (some y)))) (wA cs M.1 (fun _ => 0))) (fun r9 => r9 = ((none, hk (mnew M (c + max 1 (c / 2))) (va_up (va_up (va_up (va_up T M.1 (23, c + max 1 (c / 2), fun _ => none)) M.1 (23, c + max 1 (c / 2), va_cpy r (fun _ => none) 0 0 c)) l (6, 0, rl [(0, M.1)])) M.1 (23, c + max 1 (c / 2), va_up (va_cpy r (fun _ => none) 0 0 c) c (some y))) (w1 (wA cs M.1 (fun _ => 0)) l 1 (nI (c + 1))))))
    refine r_aload_n rfl dc_27_24_15 ?_
    refine r_iload_n rfl dc_27_24_16 ?_
    refine r_iconst (v := nI 1) (by decide) dc_27_24_17 ?_
    refine r_iadd (v := nI (c + 1)) (nI_add _ _) dc_27_24_18 ?_
    refine h_pint (t := (6, 0, rl [(0, M.1)])) fx_6_48 ((up_o _ _ (by omega)).trans ((if_pos rfl))) ⟨by show l < M.1 + 1; omega, by omega⟩ (Or.inl fn_6_1) ty_6_1 (pi_6_1 _ _ _ _) dc_27_24_19 ?_
    exact r_vret rfl dc_27_24_22 (rfl)
set_option maxHeartbeats 4000000 in
theorem k_a3H (M : mH) (hlo : 157 ≤ M.1) (hhi : M.1 ≤ 900000) (T : Nat → mT) (cs : Nat → Nat → Int32) (l ed n c : Nat) (r : Nat → Option Nat) (hL : T l = (6, 0, rl [(0, ed)])) (hl : inC M l) (hsz : cs l 1 = nI n) (hT : T ed = (23, c, r)) (hd : inC M ed) (hnc : n < c) (hc : c ≤ 1000) (hne : ¬ l = ed) (y : Nat) (ty : mT) (hy : T y = ty) (hyC : inC M y) (h14 : ty.1 < 14) (hyl : ¬ y = l) : mm_Ev 1 29 [.ref l, .ref y, .ref ed, .int (nI n)] (hk M T cs) ((none, hk M (va_up T ed (23, c, va_up r n (some y))) (w1 cs l 1 (nI (n + 1))))) := by
  have hl1 := hl.1
  have hy1 := hyC.1
  have hd1 := hd.1
  refine r_ev (by decide +kernel) (show (4 : Nat) ≤ mm_nL 29 by decide +kernel) ?_
  show mm_Ru 0 (6, 4, false, prog_27_method_24_code, none) 0 [(0, .ref l), (1, .ref y), (2, .ref ed), (3, .int (nI n))] [] (hk M T cs) (fun r9 => r9 = ((none, hk M (va_up T ed (23, c, va_up r n (some y))) (w1 cs l 1 (nI (n + 1))))))
  refine r_iload_n rfl dc_27_24_0 ?_
  refine r_aload_n rfl dc_27_24_1 ?_
  refine h_len (c := 23) (n := c) hT (Or.inr (Or.inl rfl)) hd dc_27_24_2 ?_
  refine r_ncne (t := 11) (by omega) (by omega) (by decide) dc_27_24_3 (fun c_3 => ?_) (fun c_3 => ?_)
  · skip
    refine r_aload_n rfl dc_27_24_11 ?_
    refine r_iload_n rfl dc_27_24_12 ?_
    refine r_aload_n rfl dc_27_24_13 ?_
    refine h_ast (n := c) (e := n) (r := r) (ty := ty) hT hd (by omega) (by omega) hy hyC h14 dc_27_24_14 ?_
    show mm_Ru 0 (6, 4, false, prog_27_method_24_code, none) 15 [(0, .ref l), (1, .ref y), (2, .ref ed), (3, .int (nI n))] [] (hk M (va_up T ed ((23, c, va_up r n (some y)))) cs) (fun r9 => r9 = ((none, hk M (va_up T ed (23, c, va_up r n (some y))) (w1 cs l 1 (nI (n + 1))))))
    refine r_aload_n rfl dc_27_24_15 ?_
    refine r_iload_n rfl dc_27_24_16 ?_
    refine r_iconst (v := nI 1) (by decide) dc_27_24_17 ?_
    refine r_iadd (v := nI (n + 1)) (nI_add _ _) dc_27_24_18 ?_
    refine h_pint (t := (6, 0, rl [(0, ed)])) fx_6_48 ((up_o _ _ (by omega)).trans (hL)) hl (Or.inl fn_6_1) ty_6_1 (pi_6_1 _ _ _ _) dc_27_24_19 ?_
    exact r_vret rfl dc_27_24_22 (rfl)
  · omega
set_option maxHeartbeats 4000000 in
theorem k_adE (M : mH) (hlo : 157 ≤ M.1) (hhi : M.1 ≤ 900000) (T : Nat → mT) (cs : Nat → Nat → Int32) (l : Nat) (hL : T l = (6, 0, rl [(0, 1000000)])) (hl : inC M l) (hsz : cs l 1 = nI 0) (hE : M.2.2 1000000 = .inl (3, 0, .inr (.inr (.inr (.inr (fun _ => none)))))) (y : Nat) (ty : mT) (hy : T y = ty) (hyC : inC M y) (h14 : ty.1 < 14) (hyl : ¬ y = l) : mm_Ev 5 28 [.ref l, .ref y] (hk M T cs) ((some (.int (nI 1)), hk (mnew M 10) (va_up (va_up (va_up T M.1 (23, 10, fun _ => none)) l (6, 0, rl [(0, M.1)])) M.1 (23, 10, va_up (fun _ => none) 0 (some y))) (w1 (wA (w1 cs l 2 (cs l 2 + nI 1)) M.1 (fun _ => 0)) l 1 (nI 1)))) := by
  have hl1 := hl.1
  have hy1 := hyC.1
  refine r_ev (by decide +kernel) (show (2 : Nat) ≤ mm_nL 28 by decide +kernel) ?_
  show mm_Ru 4 (6, 2, false, prog_27_method_25_code, some .boolean) 0 [(0, .ref l), (1, .ref y)] [] (hk M T cs) (fun r9 => r9 = ((some (.int (nI 1)), hk (mnew M 10) (va_up (va_up (va_up T M.1 (23, 10, fun _ => none)) l (6, 0, rl [(0, M.1)])) M.1 (23, 10, va_up (fun _ => none) 0 (some y))) (w1 (wA (w1 cs l 2 (cs l 2 + nI 1)) M.1 (fun _ => 0)) l 1 (nI 1)))))
  refine r_aload_n rfl dc_27_25_0 ?_
  refine r_dup rfl dc_27_25_1 ?_
  refine h_get (t := (6, 0, rl [(0, 1000000)])) (v := .int (cs l 2)) fx_6_63 hL hl (rfl) dc_27_25_2 ?_
  refine r_iconst (v := nI 1) (by decide) dc_27_25_5 ?_
  refine r_iadd (v := (cs l 2) + (nI 1)) (rfl) dc_27_25_6 ?_
  refine h_pint (t := (6, 0, rl [(0, 1000000)])) fx_6_63 hL hl (Or.inl fn_6_2) ty_6_2 (pi_6_2 _ _ _ _) dc_27_25_7 ?_
  refine r_aload_n rfl dc_27_25_10 ?_
  refine r_aload_n rfl dc_27_25_11 ?_
  refine r_aload_n rfl dc_27_25_12 ?_
  refine h_get (t := (6, 0, rl [(0, 1000000)])) (v := .ref 1000000) fx_6_9 hL hl (rfl) dc_27_25_13 ?_
  refine r_aload_n rfl dc_27_25_16 ?_
  refine h_get (t := (6, 0, rl [(0, 1000000)])) (v := .int (nI 0)) fx_6_48 hL hl (show some (Value.int _) = _ from congrArg (fun z => some (Value.int z)) ((by simp [w1] : _ = cs l 1).trans (hsz))) dc_27_25_17 ?_
  refine h_call0 (t := (6, 0, rl [(0, 1000000)])) (as := [.ref y, .ref 1000000, .int (nI 0)]) (rest := []) (M1 := hk (mnew M 10) (va_up (va_up (va_up T M.1 ((23, 10, fun _ => none))) l ((6, 0, rl [(0, M.1)]))) M.1 ((23, 10, va_up (fun _ => none) 0 (some y)))) (w1 (wA (w1 cs l 2 (cs l 2 + nI 1)) M.1 (fun _ => 0)) l 1 (nI 1))) rfl rfl iv_6_v131 (Or.inl rfl) na_1_29 hL hl (show (6 : Nat) < 14 by decide) o_29 rfl (show (0 : Nat) ≤ 8 by decide) dc_27_25_20 (k_a3E M hlo hhi T (w1 cs l 2 (cs l 2 + nI 1)) l hL hl (by rw [w1_o _ _ (Or.inr (by decide))]; exact hsz) hE y ty hy hyC h14 hyl) ?_
  refine r_iconst (v := nI 1) (by decide) dc_27_25_23 ?_
  exact r_zret rfl (by decide) dc_27_25_24 (rfl)
set_option maxHeartbeats 4000000 in
theorem k_adF (M : mH) (hlo : 157 ≤ M.1) (hhi : M.1 ≤ 900000) (T : Nat → mT) (cs : Nat → Nat → Int32) (l ed c : Nat) (r : Nat → Option Nat) (hL : T l = (6, 0, rl [(0, ed)])) (hl : inC M l) (hsz : cs l 1 = nI c) (hT : T ed = (23, c, r)) (hd : inC M ed) (hel : ∀ i y, i < c → r i = some y → inC M y ∧ (T y).1 < 14) (hc0 : 0 < c) (hc : c ≤ 100) (hne : ¬ l = ed) (y : Nat) (ty : mT) (hy : T y = ty) (hyC : inC M y) (h14 : ty.1 < 14) (hyl : ¬ y = l) : mm_Ev 7 28 [.ref l, .ref y] (hk M T cs) ((some (.int (nI 1)), hk (mnew M (c + max 1 (c / 2))) (va_up (va_up (va_up (va_up T M.1 (23, c + max 1 (c / 2), fun _ => none)) M.1 (23, c + max 1 (c / 2), va_cpy r (fun _ => none) 0 0 c)) l (6, 0, rl [(0, M.1)])) M.1 (23, c + max 1 (c / 2), va_up (va_cpy r (fun _ => none) 0 0 c) c (some y))) (w1 (wA (w1 cs l 2 (cs l 2 + nI 1)) M.1 (fun _ => 0)) l 1 (nI (c + 1))))) := by
  have hl1 := hl.1
  have hy1 := hyC.1
  have hd1 := hd.1
  refine r_ev (by decide +kernel) (show (2 : Nat) ≤ mm_nL 28 by decide +kernel) ?_
  show mm_Ru 6 (6, 2, false, prog_27_method_25_code, some .boolean) 0 [(0, .ref l), (1, .ref y)] [] (hk M T cs) (fun r9 => r9 = ((some (.int (nI 1)), hk (mnew M (c + max 1 (c / 2))) (va_up (va_up (va_up (va_up T M.1 (23, c + max 1 (c / 2), fun _ => none)) M.1 (23, c + max 1 (c / 2), va_cpy r (fun _ => none) 0 0 c)) l (6, 0, rl [(0, M.1)])) M.1 (23, c + max 1 (c / 2), va_up (va_cpy r (fun _ => none) 0 0 c) c (some y))) (w1 (wA (w1 cs l 2 (cs l 2 + nI 1)) M.1 (fun _ => 0)) l 1 (nI (c + 1))))))
  refine r_aload_n rfl dc_27_25_0 ?_
  refine r_dup rfl dc_27_25_1 ?_
  refine h_get (t := (6, 0, rl [(0, ed)])) (v := .int (cs l 2)) fx_6_63 hL hl (rfl) dc_27_25_2 ?_
  refine r_iconst (v := nI 1) (by decide) dc_27_25_5 ?_
  refine r_iadd (v := (cs l 2) + (nI 1)) (rfl) dc_27_25_6 ?_
  refine h_pint (t := (6, 0, rl [(0, ed)])) fx_6_63 hL hl (Or.inl fn_6_2) ty_6_2 (pi_6_2 _ _ _ _) dc_27_25_7 ?_
  refine r_aload_n rfl dc_27_25_10 ?_
  refine r_aload_n rfl dc_27_25_11 ?_
  refine r_aload_n rfl dc_27_25_12 ?_
  refine h_get (t := (6, 0, rl [(0, ed)])) (v := .ref ed) fx_6_9 hL hl (rfl) dc_27_25_13 ?_
  refine r_aload_n rfl dc_27_25_16 ?_
  refine h_get (t := (6, 0, rl [(0, ed)])) (v := .int (nI c)) fx_6_48 hL hl (show some (Value.int _) = _ from congrArg (fun z => some (Value.int z)) ((by simp [w1] : _ = cs l 1).trans (hsz))) dc_27_25_17 ?_
  refine h_call0 (t := (6, 0, rl [(0, ed)])) (as := [.ref y, .ref ed, .int (nI c)]) (rest := []) (M1 := hk (mnew M (c + max 1 (c / 2))) (va_up (va_up (va_up (va_up T M.1 ((23, c + max 1 (c / 2), fun _ => none))) M.1 ((23, c + max 1 (c / 2), va_cpy r (fun _ => none) 0 0 c))) l ((6, 0, rl [(0, M.1)]))) M.1 ((23, c + max 1 (c / 2), va_up (va_cpy r (fun _ => none) 0 0 c) c (some y)))) (w1 (wA (w1 cs l 2 (cs l 2 + nI 1)) M.1 (fun _ => 0)) l 1 (nI (c + 1)))) rfl rfl iv_6_v131 (Or.inl rfl) na_1_29 hL hl (show (6 : Nat) < 14 by decide) o_29 rfl (show (0 : Nat) ≤ 8 by decide) dc_27_25_20 (k_a3F M hlo hhi T (w1 cs l 2 (cs l 2 + nI 1)) l ed c r hL hl (by rw [w1_o _ _ (Or.inr (by decide))]; exact hsz) hT hd hel hc0 hc hne y ty hy hyC h14 hyl) ?_
  refine r_iconst (v := nI 1) (by decide) dc_27_25_23 ?_
  exact r_zret rfl (by decide) dc_27_25_24 (rfl)
set_option maxHeartbeats 4000000 in
theorem k_adH (M : mH) (hlo : 157 ≤ M.1) (hhi : M.1 ≤ 900000) (T : Nat → mT) (cs : Nat → Nat → Int32) (l ed n c : Nat) (r : Nat → Option Nat) (hL : T l = (6, 0, rl [(0, ed)])) (hl : inC M l) (hsz : cs l 1 = nI n) (hT : T ed = (23, c, r)) (hd : inC M ed) (hnc : n < c) (hc : c ≤ 1000) (hne : ¬ l = ed) (y : Nat) (ty : mT) (hy : T y = ty) (hyC : inC M y) (h14 : ty.1 < 14) (hyl : ¬ y = l) : mm_Ev 2 28 [.ref l, .ref y] (hk M T cs) ((some (.int (nI 1)), hk M (va_up T ed (23, c, va_up r n (some y))) (w1 (w1 cs l 2 (cs l 2 + nI 1)) l 1 (nI (n + 1))))) := by
  have hl1 := hl.1
  have hy1 := hyC.1
  have hd1 := hd.1
  refine r_ev (by decide +kernel) (show (2 : Nat) ≤ mm_nL 28 by decide +kernel) ?_
  show mm_Ru 1 (6, 2, false, prog_27_method_25_code, some .boolean) 0 [(0, .ref l), (1, .ref y)] [] (hk M T cs) (fun r9 => r9 = ((some (.int (nI 1)), hk M (va_up T ed (23, c, va_up r n (some y))) (w1 (w1 cs l 2 (cs l 2 + nI 1)) l 1 (nI (n + 1))))))
  refine r_aload_n rfl dc_27_25_0 ?_
  refine r_dup rfl dc_27_25_1 ?_
  refine h_get (t := (6, 0, rl [(0, ed)])) (v := .int (cs l 2)) fx_6_63 hL hl (rfl) dc_27_25_2 ?_
  refine r_iconst (v := nI 1) (by decide) dc_27_25_5 ?_
  refine r_iadd (v := (cs l 2) + (nI 1)) (rfl) dc_27_25_6 ?_
  refine h_pint (t := (6, 0, rl [(0, ed)])) fx_6_63 hL hl (Or.inl fn_6_2) ty_6_2 (pi_6_2 _ _ _ _) dc_27_25_7 ?_
  refine r_aload_n rfl dc_27_25_10 ?_
  refine r_aload_n rfl dc_27_25_11 ?_
  refine r_aload_n rfl dc_27_25_12 ?_
  refine h_get (t := (6, 0, rl [(0, ed)])) (v := .ref ed) fx_6_9 hL hl (rfl) dc_27_25_13 ?_
  refine r_aload_n rfl dc_27_25_16 ?_
  refine h_get (t := (6, 0, rl [(0, ed)])) (v := .int (nI n)) fx_6_48 hL hl (show some (Value.int _) = _ from congrArg (fun z => some (Value.int z)) ((by simp [w1] : _ = cs l 1).trans (hsz))) dc_27_25_17 ?_
  refine h_call0 (t := (6, 0, rl [(0, ed)])) (as := [.ref y, .ref ed, .int (nI n)]) (rest := []) (M1 := hk M (va_up T ed ((23, c, va_up r n (some y)))) (w1 (w1 cs l 2 (cs l 2 + nI 1)) l 1 (nI (n + 1)))) rfl rfl iv_6_v131 (Or.inl rfl) na_1_29 hL hl (show (6 : Nat) < 14 by decide) o_29 rfl (show (0 : Nat) ≤ 8 by decide) dc_27_25_20 (k_a3H M hlo hhi T (w1 cs l 2 (cs l 2 + nI 1)) l ed n c r hL hl (by rw [w1_o _ _ (Or.inr (by decide))]; exact hsz) hT hd hnc hc hne y ty hy hyC h14 hyl) ?_
  refine r_iconst (v := nI 1) (by decide) dc_27_25_23 ?_
  exact r_zret rfl (by decide) dc_27_25_24 (rfl)
def AdP (M M2 : mH) (T T2 : Nat → mT) (cs cs2 : Nat → Nat → Int32) (l ed ed2 n : Nat) (ad : Nat → Nat) (y : Nat) : Prop := (M2.1 = M.1 ∧ ed2 = ed ∧ 0 < n ∨ M2.1 = M.1 + 1 ∧ ed2 = M.1) ∧ M2.2.1 ≤ M.2.1 + 200 ∧ M2.2.2 = M.2.2 ∧ LsR M2 T2 cs2 l ed2 (n + 1) (fun i => if i = n then y else ad i) ∧ (∀ a, a < M.1 → ¬ a = l → ¬ a = ed → T2 a = T a) ∧ (∀ a, a < M.1 → ¬ a = l → cs2 a = cs a)
theorem cpy_lo {α : Type} (r g : Nat → α) {c i : Nat} (h : i < c) : va_cpy r g 0 0 c i = r i := by
  simp [va_cpy, h]
theorem k_addL (M : mH) (hlo : 157 ≤ M.1) (hhi : M.1 ≤ 900000) (T : Nat → mT) (cs : Nat → Nat → Int32) (l ed n : Nat) (ad : Nat → Nat) (hLs : LsR M T cs l ed n ad) (hn : n < 100) (hel : ∀ i, i < n → inC M (ad i) ∧ (T (ad i)).1 < 14) (hne : ¬ l = ed) (hE : M.2.2 1000000 = .inl (3, 0, .inr (.inr (.inr (.inr (fun _ => none)))))) (y : Nat) (hyC : inC M y) (h14 : (T y).1 < 14) (hyl : ¬ y = l) : ∃ M2 T2 cs2 ed2, AdP M M2 T T2 cs cs2 l ed ed2 n ad y ∧ mm_Ev 7 28 [.ref l, .ref y] (hk M T cs) (some (.int (nI 1)), hk M2 T2 cs2) := by
  obtain ⟨hL, hl, hsz, -, hc⟩ := hLs
  have hl1 := hl.1
  rcases hc with ⟨rfl, rfl⟩ | ⟨hn0, c, r, hT, hd, hnc, hc1, hr⟩
  · have h9 := k_adE M hlo hhi T cs l hL hl hsz hE y _ rfl hyC h14 hyl
    refine ⟨_, _, _, M.1, ?_, mm_Ev_up (by decide : 5 ≤ 7) h9⟩
    refine ⟨Or.inr ⟨rfl, rfl⟩, by show M.2.1 + 10 ≤ _; omega, rfl, ⟨?_, ⟨Nat.lt_succ_of_lt hl.1, hl.2⟩, w1_s _ _ _ _, by omega, Or.inr ⟨by omega, 10, _, if_pos rfl, ⟨Nat.lt_succ_self _, by omega⟩, by omega, by decide, fun i hi => ?_⟩⟩, fun a h1 h2 h3 => ?_, fun a h1 h2 => ?_⟩
    · rw [up_o _ _ (by omega)]
      exact if_pos rfl
    · obtain rfl : i = 0 := by omega
      rfl
    · rw [up_o _ _ (by omega), up_o _ _ h2, up_o _ _ (by omega)]
    · rw [w1_n _ _ _ h2, wA_o _ _ (by omega), w1_n _ _ _ h2]
  · by_cases hcn : n = c
    · subst hcn
      have h9 := k_adF M hlo hhi T cs l ed n r hL hl hsz hT hd (fun i y hi hy => by rw [hr i hi] at hy; cases hy; exact hel i hi) hn0 (by omega) hne y _ rfl hyC h14 hyl
      refine ⟨_, _, _, M.1, ?_, mm_Ev_up (by decide : 7 ≤ 7) h9⟩
      refine ⟨Or.inr ⟨rfl, rfl⟩, by show M.2.1 + (n + max 1 (n / 2)) ≤ _; omega, rfl, ⟨?_, ⟨Nat.lt_succ_of_lt hl.1, hl.2⟩, w1_s _ _ _ _, by omega, Or.inr ⟨by omega, n + max 1 (n / 2), _, if_pos rfl, ⟨Nat.lt_succ_self _, by omega⟩, by omega, by omega, fun i hi => ?_⟩⟩, fun a h1 h2 h3 => ?_, fun a h1 h2 => ?_⟩
      · rw [up_o _ _ (by omega)]
        exact if_pos rfl
      · by_cases z : i = n
        · subst z
          show _ = some (if i = i then y else ad i)
          rw [if_pos rfl]
          exact if_pos rfl
        · show _ = some (if i = n then y else ad i)
          rw [if_neg z, up_o _ _ z, cpy_lo _ _ (by omega)]
          exact hr i (by omega)
      · rw [up_o _ _ (by omega), up_o _ _ h2, up_o _ _ (by omega), up_o _ _ (by omega)]
      · rw [w1_n _ _ _ h2, wA_o _ _ (by omega), w1_n _ _ _ h2]
    · have h9 := k_adH M hlo hhi T cs l ed n c r hL hl hsz hT hd (by omega) hc1 hne y _ rfl hyC h14 hyl
      refine ⟨_, _, _, ed, ?_, mm_Ev_up (by decide : 2 ≤ 7) h9⟩
      refine ⟨Or.inl ⟨rfl, rfl, hn0⟩, by omega, rfl, ⟨?_, hl, w1_s _ _ _ _, by omega, Or.inr ⟨by omega, c, _, if_pos rfl, hd, by omega, hc1, fun i hi => ?_⟩⟩, fun a h1 h2 h3 => up_o _ _ h3, fun a h1 h2 => ?_⟩
      · rw [up_o _ _ hne]
        exact hL
      · by_cases z : i = n
        · subst z
          show _ = some (if i = i then y else ad i)
          rw [if_pos rfl]
          exact if_pos rfl
        · show _ = some (if i = n then y else ad i)
          rw [if_neg z, up_o _ _ z]
          exact hr i (by omega)
      · rw [w1_n _ _ _ h2, w1_n _ _ _ h2]
