/-! the reference: round, mend -/
theorem dc_14_59_0 : decode prog_14_method_59_code 0 = .ok (.iconst 0, 1) := by decide +kernel
theorem dc_14_59_1 : decode prog_14_method_59_code 1 = .ok (.istore_n 1, 1) := by decide +kernel
theorem dc_14_59_2 : decode prog_14_method_59_code 2 = .ok (.iload_n 1, 1) := by decide +kernel
theorem dc_14_59_3 : decode prog_14_method_59_code 3 = .ok (.aload_n 0, 1) := by decide +kernel
theorem dc_14_59_4 : decode prog_14_method_59_code 4 = .ok (.getfield 353, 3) := by decide +kernel
theorem dc_14_59_7 : decode prog_14_method_59_code 7 = .ok (.if_icmp .ge 50, 3) := by decide +kernel
theorem dc_14_59_10 : decode prog_14_method_59_code 10 = .ok (.aload_n 0, 1) := by decide +kernel
theorem dc_14_59_11 : decode prog_14_method_59_code 11 = .ok (.iload_n 1, 1) := by decide +kernel
theorem dc_14_59_12 : decode prog_14_method_59_code 12 = .ok (.aload_n 0, 1) := by decide +kernel
theorem dc_14_59_13 : decode prog_14_method_59_code 13 = .ok (.getfield 156, 3) := by decide +kernel
theorem dc_14_59_16 : decode prog_14_method_59_code 16 = .ok (.iload_n 1, 1) := by decide +kernel
theorem dc_14_59_17 : decode prog_14_method_59_code 17 = .ok (.iaload, 1) := by decide +kernel
theorem dc_14_59_18 : decode prog_14_method_59_code 18 = .ok (.invokevirtual 375, 3) := by decide +kernel
theorem dc_14_59_21 : decode prog_14_method_59_code 21 = .ok (.aload_n 0, 1) := by decide +kernel
theorem dc_14_59_22 : decode prog_14_method_59_code 22 = .ok (.getfield 126, 3) := by decide +kernel
theorem dc_14_59_25 : decode prog_14_method_59_code 25 = .ok (.aload_n 0, 1) := by decide +kernel
theorem dc_14_59_26 : decode prog_14_method_59_code 26 = .ok (.getfield 141, 3) := by decide +kernel
theorem dc_14_59_29 : decode prog_14_method_59_code 29 = .ok (.iload_n 1, 1) := by decide +kernel
theorem dc_14_59_30 : decode prog_14_method_59_code 30 = .ok (.iaload, 1) := by decide +kernel
theorem dc_14_59_31 : decode prog_14_method_59_code 31 = .ok (.iaload, 1) := by decide +kernel
theorem dc_14_59_32 : decode prog_14_method_59_code 32 = .ok (.aload_n 0, 1) := by decide +kernel
theorem dc_14_59_33 : decode prog_14_method_59_code 33 = .ok (.getfield 147, 3) := by decide +kernel
theorem dc_14_59_36 : decode prog_14_method_59_code 36 = .ok (.iload_n 1, 1) := by decide +kernel
theorem dc_14_59_37 : decode prog_14_method_59_code 37 = .ok (.iaload, 1) := by decide +kernel
theorem dc_14_59_38 : decode prog_14_method_59_code 38 = .ok (.if_icmp .eq 13, 3) := by decide +kernel
theorem dc_14_59_41 : decode prog_14_method_59_code 41 = .ok (.aload_n 0, 1) := by decide +kernel
theorem dc_14_59_42 : decode prog_14_method_59_code 42 = .ok (.aload_n 0, 1) := by decide +kernel
theorem dc_14_59_43 : decode prog_14_method_59_code 43 = .ok (.getfield 141, 3) := by decide +kernel
theorem dc_14_59_46 : decode prog_14_method_59_code 46 = .ok (.iload_n 1, 1) := by decide +kernel
theorem dc_14_59_47 : decode prog_14_method_59_code 47 = .ok (.iaload, 1) := by decide +kernel
theorem dc_14_59_48 : decode prog_14_method_59_code 48 = .ok (.invokevirtual 381, 3) := by decide +kernel
theorem dc_14_59_51 : decode prog_14_method_59_code 51 = .ok (.iinc 1 1, 3) := by decide +kernel
theorem dc_14_59_54 : decode prog_14_method_59_code 54 = .ok (.goto (-52), 3) := by decide +kernel
theorem dc_14_59_57 : decode prog_14_method_59_code 57 = .ok (.return_, 1) := by decide +kernel
theorem dc_14_60_0 : decode prog_14_method_60_code 0 = .ok (.aload_n 0, 1) := by decide +kernel
theorem dc_14_60_1 : decode prog_14_method_60_code 1 = .ok (.iconst 0, 1) := by decide +kernel
theorem dc_14_60_2 : decode prog_14_method_60_code 2 = .ok (.invokevirtual 384, 3) := by decide +kernel
theorem dc_14_60_5 : decode prog_14_method_60_code 5 = .ok (.ifCond .ne 5, 3) := by decide +kernel
theorem dc_14_60_8 : decode prog_14_method_60_code 8 = .ok (.iconst 0, 1) := by decide +kernel
theorem dc_14_60_9 : decode prog_14_method_60_code 9 = .ok (.ireturn, 1) := by decide +kernel
theorem dc_14_60_10 : decode prog_14_method_60_code 10 = .ok (.aload_n 0, 1) := by decide +kernel
theorem dc_14_60_11 : decode prog_14_method_60_code 11 = .ok (.invokevirtual 388, 3) := by decide +kernel
theorem dc_14_60_14 : decode prog_14_method_60_code 14 = .ok (.iconst 0, 1) := by decide +kernel
theorem dc_14_60_15 : decode prog_14_method_60_code 15 = .ok (.istore_n 1, 1) := by decide +kernel
theorem dc_14_60_16 : decode prog_14_method_60_code 16 = .ok (.iconst 0, 1) := by decide +kernel
theorem dc_14_60_17 : decode prog_14_method_60_code 17 = .ok (.istore_n 2, 1) := by decide +kernel
theorem dc_14_60_18 : decode prog_14_method_60_code 18 = .ok (.iload_n 2, 1) := by decide +kernel
theorem dc_14_60_19 : decode prog_14_method_60_code 19 = .ok (.aload_n 0, 1) := by decide +kernel
theorem dc_14_60_20 : decode prog_14_method_60_code 20 = .ok (.getfield 353, 3) := by decide +kernel
theorem dc_14_60_23 : decode prog_14_method_60_code 23 = .ok (.if_icmp .ge 27, 3) := by decide +kernel
theorem dc_14_60_26 : decode prog_14_method_60_code 26 = .ok (.iload_n 1, 1) := by decide +kernel
theorem dc_14_60_27 : decode prog_14_method_60_code 27 = .ok (.aload_n 0, 1) := by decide +kernel
theorem dc_14_60_28 : decode prog_14_method_60_code 28 = .ok (.getfield 156, 3) := by decide +kernel
theorem dc_14_60_31 : decode prog_14_method_60_code 31 = .ok (.iload_n 2, 1) := by decide +kernel
theorem dc_14_60_32 : decode prog_14_method_60_code 32 = .ok (.iaload, 1) := by decide +kernel
theorem dc_14_60_33 : decode prog_14_method_60_code 33 = .ok (.iconst 4, 1) := by decide +kernel
theorem dc_14_60_34 : decode prog_14_method_60_code 34 = .ok (.if_icmp .ge 7, 3) := by decide +kernel
theorem dc_14_60_37 : decode prog_14_method_60_code 37 = .ok (.iconst 1, 1) := by decide +kernel
theorem dc_14_60_38 : decode prog_14_method_60_code 38 = .ok (.goto 4, 3) := by decide +kernel
theorem dc_14_60_41 : decode prog_14_method_60_code 41 = .ok (.iconst 0, 1) := by decide +kernel
theorem dc_14_60_42 : decode prog_14_method_60_code 42 = .ok (.iadd, 1) := by decide +kernel
theorem dc_14_60_43 : decode prog_14_method_60_code 43 = .ok (.istore_n 1, 1) := by decide +kernel
theorem dc_14_60_44 : decode prog_14_method_60_code 44 = .ok (.iinc 2 1, 3) := by decide +kernel
theorem dc_14_60_47 : decode prog_14_method_60_code 47 = .ok (.goto (-29), 3) := by decide +kernel
theorem dc_14_60_50 : decode prog_14_method_60_code 50 = .ok (.iload_n 1, 1) := by decide +kernel
theorem dc_14_60_51 : decode prog_14_method_60_code 51 = .ok (.ireturn, 1) := by decide +kernel
theorem dc_14_61_0 : decode prog_14_method_61_code 0 = .ok (.aload_n 0, 1) := by decide +kernel
theorem dc_14_61_1 : decode prog_14_method_61_code 1 = .ok (.iconst 1, 1) := by decide +kernel
theorem dc_14_61_2 : decode prog_14_method_61_code 2 = .ok (.invokevirtual 384, 3) := by decide +kernel
theorem dc_14_61_5 : decode prog_14_method_61_code 5 = .ok (.ifCond .ne 5, 3) := by decide +kernel
theorem dc_14_61_8 : decode prog_14_method_61_code 8 = .ok (.iconst (-1), 1) := by decide +kernel
theorem dc_14_61_9 : decode prog_14_method_61_code 9 = .ok (.ireturn, 1) := by decide +kernel
theorem dc_14_61_10 : decode prog_14_method_61_code 10 = .ok (.aload_n 0, 1) := by decide +kernel
theorem dc_14_61_11 : decode prog_14_method_61_code 11 = .ok (.invokevirtual 388, 3) := by decide +kernel
theorem dc_14_61_14 : decode prog_14_method_61_code 14 = .ok (.aload_n 0, 1) := by decide +kernel
theorem dc_14_61_15 : decode prog_14_method_61_code 15 = .ok (.getfield 369, 3) := by decide +kernel
theorem dc_14_61_18 : decode prog_14_method_61_code 18 = .ok (.ireturn, 1) := by decide +kernel
theorem iv_13_v384 : mm_iv 13 (.invokevirtual 384) = some (1, 236) := by decide +kernel
theorem iv_13_v388 : mm_iv 13 (.invokevirtual 388) = some (1, 244) := by decide +kernel
theorem o_236 : mm_o 236 = 13 := by decide +kernel
theorem o_244 : mm_o 244 = 13 := by decide +kernel
theorem na_1_236 : mm_nas 1 236 = 2 := by decide +kernel
theorem na_1_244 : mm_nas 1 244 = 1 := by decide +kernel
theorem sp_bo_ok {OK : Nat → Prop} {BT : Nat → Nat → Prop} {b : Nat} : ∀ {m : Nat}, sp_bo OK BT m = some b → OK b ∧ b < m
  | 0, h => by cases h
  | m + 1, h => by
    unfold sp_bo at h
    split at h
    · rename_i q
      cases h
      exact ⟨q.1, Nat.lt_succ_self _⟩
    · have := sp_bo_ok h
      exact ⟨this.1, by omega⟩
/-- the FACTS, once those who moved are nobody's -/
def fgS (sg : Nat → Nat → Int32) (wh c : Nat → Nat) (nf : Nat) : Nat → Nat → Int32
  | 0 => sg 78
  | m + 1 => if P57 sg wh c m = sg 57 (wh m) then fgS sg wh c nf m else sp_fo (fgS sg wh c nf m) (nI (wh m)) nf
theorem plS_78 (sg my : Nat → Nat → Int32) (wh c : Nat → Nat) (m : Nat) (f g : Nat → Int32) : va_up (plS (va_up sg 78 f) my wh c m) 78 g = plS (va_up sg 78 g) my wh c m := by
  funext j
  show (if j = 78 then g else plS (va_up sg 78 f) my wh c m j) = plS (va_up sg 78 g) my wh c m j
  by_cases e : j = 78
  · subst e
    rfl
  · rw [if_neg e]
    show (if j = 58 then _ else if j = 57 then _ else if j = 56 then _ else if j = 78 then f else sg j) = (if j = 58 then _ else if j = 57 then _ else if j = 56 then _ else if j = 78 then g else sg j)
    rw [if_neg e, if_neg e]
    rfl
set_option maxHeartbeats 4000000 in
theorem c_does (M : mH) (hM : 157 ≤ M.1) (io : Nat → Int32) (sg : Nat → Nat → Int32) (nf : Nat) (h7 : io 7 = nI nf) (hnf : nf ≤ 200) {n : Nat} (h71 : io 71 = nI n) (hn7 : n ≤ 7) {wh : Nat → Nat} (hwh : ∀ i, i < n → wh i < 16) {q my : Nat → Nat → Int32} (hq : ∀ i, i < n → q 62 i = nI (wh i)) (c : Nat → Nat) (hc : ∀ i, i < n → q 67 i = nI (c i)) (hc4 : ∀ i, i < n → c i ≤ 4) (h64 : ∀ i, i < n → q 64 i = sg 57 (wh i)) (hm68 : ∀ i, i < n → ¬ c i = 4 → q 68 (4 * wh i + c i) = my (wh i) (c i)) : mm_Ev 2 244 [.ref 100] (rf_mk M io (sW sg q)) ((none, rf_mk M io (sW (plS (va_up sg 78 (fgS sg wh c nf n)) my wh c n) q))) := by
  refine r_ev (by decide +kernel) (show (1 : Nat) ≤ mm_nL 244 by decide +kernel) ?_
  show mm_Ru 1 (13, 2, false, prog_14_method_59_code, none) 0 [(0, .ref 100)] [] (rf_mk M io (sW sg q)) (fun r9 => r9 = ((none, rf_mk M io (sW (plS (va_up sg 78 (fgS sg wh c nf n)) my wh c n) q))))
  refine r_iconst (v := nI 0) (by decide) dc_14_59_0 ?_
  refine r_istore_n (ls' := [(1, .int (nI 0)), (0, .ref 100)]) (by decide) rfl dc_14_59_1 ?_
  rw [show sW sg q = sW (plS (va_up sg 78 (fgS sg wh c nf 0)) my wh c 0) q from by rw [plS_0]; exact congrArg (fun z => sW z q) (va_up_id sg 78).symm]
  refine mm_cnt (P := fun m => mm_Ru 1 (13, 2, false, prog_14_method_59_code, none) 2 [(1, .int (nI m)), (0, .ref 100)] [] (rf_mk M io (sW (plS (va_up sg 78 (fgS sg wh c nf m)) my wh c m) q)) (fun r9 => r9 = ((none, rf_mk M io (sW (plS (va_up sg 78 (fgS sg wh c nf n)) my wh c n) q))))) n ?_ ?_ 0 (by omega)
  · show mm_Ru 1 (13, 2, false, prog_14_method_59_code, none) 2 [(1, .int (nI n)), (0, .ref 100)] [] (rf_mk M io (sW (plS (va_up sg 78 (fgS sg wh c nf n)) my wh c n) q)) (fun r9 => r9 = ((none, rf_mk M io (sW (plS (va_up sg 78 (fgS sg wh c nf n)) my wh c n) q))))
    refine r_iload_n rfl dc_14_59_2 ?_
    refine r_aload_n rfl dc_14_59_3 ?_
    refine q_get (v := .int (nI n)) rx_353 hM (congrArg (fun z => some (Value.int z)) (h71)) dc_14_59_4 ?_
    refine r_ncge (t := 57) (by omega) (by omega) (by decide) dc_14_59_7 (fun c_7 => ?_) (fun c_7 => ?_)
    · skip
      exact r_vret rfl dc_14_59_57 (rfl)
    · omega
  · intro m h_m ih_m 
    have h16 := hwh m h_m
    show mm_Ru 1 (13, 2, false, prog_14_method_59_code, none) 2 [(1, .int (nI m)), (0, .ref 100)] [] (rf_mk M io (sW (plS (va_up sg 78 (fgS sg wh c nf m)) my wh c m) q)) (fun r9 => r9 = ((none, rf_mk M io (sW (plS (va_up sg 78 (fgS sg wh c nf n)) my wh c n) q))))
    refine r_iload_n rfl dc_14_59_2 ?_
    refine r_aload_n rfl dc_14_59_3 ?_
    refine q_get (v := .int (nI n)) rx_353 hM (congrArg (fun z => some (Value.int z)) (h71)) dc_14_59_4 ?_
    refine r_ncge (t := 57) (by omega) (by omega) (by decide) dc_14_59_7 (fun c_7 => ?_) (fun c_7 => ?_)
    · omega
    · skip
      refine r_aload_n rfl dc_14_59_10 ?_
      refine r_iload_n rfl dc_14_59_11 ?_
      refine r_aload_n rfl dc_14_59_12 ?_
      refine q_get (v := .ref 149) rx_156 hM rfl dc_14_59_13 ?_
      refine r_iload_n rfl dc_14_59_16 ?_
      refine q_ild (e := m) (v := nI (c m)) (by decide) (by decide) hM rfl (show m < 7 by omega) (by omega) (hc m h_m) dc_14_59_17 ?_
      refine q_callv (as := [.int (nI m), .int (nI (c m))]) (rest := []) (M1 := rf_mk M io (sW (plS (va_up sg 78 (fgS sg wh c nf m)) my wh c (m + 1)) q)) iv_13_v375 na_1_242 o_242 hM rfl (show (0 : Nat) ≤ 8 by decide) dc_14_59_18 (c_goesS M hM io (va_up sg 78 (fgS sg wh c nf m)) h71 hn7 hwh (my := my) (q := q) hq c m h_m (hc4 m h_m) (hm68 m h_m)) ?_
      refine r_aload_n rfl dc_14_59_21 ?_
      refine q_get (v := .ref 139) rx_126 hM rfl dc_14_59_22 ?_
      refine r_aload_n rfl dc_14_59_25 ?_
      refine q_get (v := .ref 144) rx_141 hM rfl dc_14_59_26 ?_
      refine r_iload_n rfl dc_14_59_29 ?_
      refine q_ild (e := m) (v := nI (wh m)) (by decide) (by decide) hM rfl (show m < 7 by omega) (by omega) (hq m h_m) dc_14_59_30 ?_
      refine q_ild (e := wh m) (v := P57 sg wh c m) (by decide) (by decide) hM rfl (show wh m < 16 by omega) (by omega) (up_s _ _ _) dc_14_59_31 ?_
      refine r_aload_n rfl dc_14_59_32 ?_
      refine q_get (v := .ref 146) rx_147 hM rfl dc_14_59_33 ?_
      refine r_iload_n rfl dc_14_59_36 ?_
      refine q_ild (e := m) (v := sg 57 (wh m)) (by decide) (by decide) hM rfl (show m < 7 by omega) (by omega) (h64 m h_m) dc_14_59_37 ?_
      refine r_iceq (t := 51) (by decide) dc_14_59_38 (fun c_38 => ?_) (fun c_38 => ?_)
      · skip
        refine r_iinc (x := nI m) (v := nI (m + 1)) (ls' := [(1, .int (nI (m + 1))), (0, .ref 100)]) rfl (nI_1 _) (by decide) rfl dc_14_59_51 ?_
        refine r_goto (t := 2) (by decide) dc_14_59_54 ?_
        rw [show fgS sg wh c nf (m + 1) = fgS sg wh c nf m from if_pos c_38] at ih_m
        exact ih_m
      · skip
        refine r_aload_n rfl dc_14_59_41 ?_
        refine r_aload_n rfl dc_14_59_42 ?_
        refine q_get (v := .ref 144) rx_141 hM rfl dc_14_59_43 ?_
        refine r_iload_n rfl dc_14_59_46 ?_
        refine q_ild (e := m) (v := nI (wh m)) (by decide) (by decide) hM rfl (show m < 7 by omega) (by omega) (hq m h_m) dc_14_59_47 ?_
        refine q_callv (as := [.int (nI (wh m))]) (rest := []) (M1 := rf_mk M io (va_up (sW (plS (va_up sg 78 (fgS sg wh c nf m)) my wh c (m + 1)) q) 78 (sp_fo (fgS sg wh c nf m) (nI (wh m)) nf))) iv_13_v381 na_1_245 o_245 hM rfl (show (0 : Nat) ≤ 8 by decide) dc_14_59_48 (c_forgets_ M hM io (sW (plS (va_up sg 78 (fgS sg wh c nf m)) my wh c (m + 1)) q) nf h7 hnf (nI (wh m))) ?_
        refine r_iinc (x := nI m) (v := nI (m + 1)) (ls' := [(1, .int (nI (m + 1))), (0, .ref 100)]) rfl (nI_1 _) (by decide) rfl dc_14_59_51 ?_
        refine r_goto (t := 2) (by decide) dc_14_59_54 ?_
        rw [show fgS sg wh c nf (m + 1) = sp_fo (fgS sg wh c nf m) (nI (wh m)) nf from if_neg c_38] at ih_m
        rw [sW_n 78 _ rfl, plS_78]
        exact ih_m
set_option maxHeartbeats 4000000 in
theorem c_round_n (M : mH) (hM : 157 ≤ M.1) (io : Nat → Int32) (sg : Nat → Nat → Int32) (ns : Nat) (h5 : io 5 = nI ns) (hns : ns ≤ 16) (nh : Nat) (h3 : io 3 = nI nh) (hnh : nh ≤ 8) (nx : Nat) (h4 : io 4 = nI nx) (hnx : nx ≤ 12) (nf : Nat) (h7 : io 7 = nI nf) (hnf : nf ≤ 200) (cm : Nat → Nat) (w : Nat → Nat → Nat) (hC : CDok sg nx cm w) (hR : RI1 sg ns nh) (n : Nat) (wh : Nat → Nat) (my : Nat → Nat → Int32) (hcn : (cnA (sp_sel sg 0) ns).1 = n) (hcw : (cnA (sp_sel sg 0) ns).2 = wh) (hmy0 : my = (fun s k => sp_mby io sg cm w nx s (sg 60 (4 * s + k)))) (hB : sp_best 0 io sg my wh n ns nh nx (p5 n) = none) : ∃ (q : Nat → Nat → Int32), ∃ (bo : Int32), mm_Ev 5 235 [.ref 100] (rf_mk M io sg) ((some (.int (nI 0)), rf_mk M (va_up (va_up io 71 (nI n)) 72 bo) (sW sg q))) := by
  have hq9 : ∃ z, (fun r9 => ∃ (q : Nat → Nat → Int32), ∃ (bo : Int32), r9 = ((some (.int (nI 0)), rf_mk M (va_up (va_up io 71 (nI n)) 72 bo) (sW sg q)))) z ∧ mm_Ev 5 235 [.ref 100] (rf_mk M io sg) z := by
    refine r_evQ (by decide +kernel) (show (1 : Nat) ≤ mm_nL 235 by decide +kernel) ?_
    show mm_Ru 4 (13, 3, false, prog_14_method_60_code, some .int) 0 [(0, .ref 100)] [] (rf_mk M io sg) (fun r9 => ∃ (q : Nat → Nat → Int32), ∃ (bo : Int32), r9 = ((some (.int (nI 0)), rf_mk M (va_up (va_up io 71 (nI n)) 72 bo) (sW sg q))))
    refine r_aload_n rfl dc_14_60_0 ?_
    refine r_iconst (v := nI 0) (by decide) dc_14_60_1 ?_
    obtain ⟨q, bo, sf, ⟨hWH, hBI⟩, hpl⟩ := c_plans_0 M hM io sg ns h5 hns nh h3 hnh nx h4 hnx cm w hC hR n wh my hcn hcw hmy0
    rw [hB] at hBI
    refine q_calli (as := [.int (nI 0)]) (rest := []) (v := .int sf) (M1 := rf_mk M (va_up (va_up io 71 (nI n)) 72 bo) (sW sg q)) iv_13_v384 na_1_236 o_236 hM rfl (show (0 : Nat) ≤ 8 by decide) dc_14_60_2 (hpl) ?_
    refine r_ifne (t := 10) (by decide) dc_14_60_5 (fun c_5 => ?_) (fun c_5 => ?_)
    · exact absurd (BIv_1 hBI c_5) (fun z => by obtain ⟨_, z, _⟩ := z; cases z)
    · skip
      refine r_iconst (v := nI 0) (by decide) dc_14_60_8 ?_
      refine r_iret rfl dc_14_60_9 ?_
      exact ⟨q, bo, rfl⟩
  obtain ⟨z9, ⟨q, bo, e9⟩, h9⟩ := hq9
  subst e9
  exact ⟨q, bo, h9⟩
set_option maxHeartbeats 4000000 in
theorem c_round_y (M : mH) (hM : 157 ≤ M.1) (io : Nat → Int32) (sg : Nat → Nat → Int32) (ns : Nat) (h5 : io 5 = nI ns) (hns : ns ≤ 16) (nh : Nat) (h3 : io 3 = nI nh) (hnh : nh ≤ 8) (nx : Nat) (h4 : io 4 = nI nx) (hnx : nx ≤ 12) (nf : Nat) (h7 : io 7 = nI nf) (hnf : nf ≤ 200) (cm : Nat → Nat) (w : Nat → Nat → Nat) (hC : CDok sg nx cm w) (hR : RI1 sg ns nh) (n : Nat) (wh : Nat → Nat) (my : Nat → Nat → Int32) (hcn : (cnA (sp_sel sg 0) ns).1 = n) (hcw : (cnA (sp_sel sg 0) ns).2 = wh) (hmy0 : my = (fun s k => sp_mby io sg cm w nx s (sg 60 (4 * s + k)))) (b : Nat) (hB : sp_best 0 io sg my wh n ns nh nx (p5 n) = some b) : ∃ (q : Nat → Nat → Int32), ∃ (bo : Int32), mm_Ev 5 235 [.ref 100] (rf_mk M io sg) ((some (.int (sp_sum (fun i => pI (co n b i < 4)) n)), rf_mk M (va_up (va_up io 71 (nI n)) 72 bo) (sW (plS (va_up sg 78 (fgS sg wh (co n b) nf n)) my wh (co n b) n) q))) := by
  have hq9 : ∃ z, (fun r9 => ∃ (q : Nat → Nat → Int32), ∃ (bo : Int32), r9 = ((some (.int (sp_sum (fun i => pI (co n b i < 4)) n)), rf_mk M (va_up (va_up io 71 (nI n)) 72 bo) (sW (plS (va_up sg 78 (fgS sg wh (co n b) nf n)) my wh (co n b) n) q)))) z ∧ mm_Ev 5 235 [.ref 100] (rf_mk M io sg) z := by
    refine r_evQ (by decide +kernel) (show (1 : Nat) ≤ mm_nL 235 by decide +kernel) ?_
    show mm_Ru 4 (13, 3, false, prog_14_method_60_code, some .int) 0 [(0, .ref 100)] [] (rf_mk M io sg) (fun r9 => ∃ (q : Nat → Nat → Int32), ∃ (bo : Int32), r9 = ((some (.int (sp_sum (fun i => pI (co n b i < 4)) n)), rf_mk M (va_up (va_up io 71 (nI n)) 72 bo) (sW (plS (va_up sg 78 (fgS sg wh (co n b) nf n)) my wh (co n b) n) q))))
    refine r_aload_n rfl dc_14_60_0 ?_
    refine r_iconst (v := nI 0) (by decide) dc_14_60_1 ?_
    obtain ⟨q, bo, sf, ⟨hWH, hBI⟩, hpl⟩ := c_plans_0 M hM io sg ns h5 hns nh h3 hnh nx h4 hnx cm w hC hR n wh my hcn hcw hmy0
    rw [hB] at hBI
    refine q_calli (as := [.int (nI 0)]) (rest := []) (v := .int sf) (M1 := rf_mk M (va_up (va_up io 71 (nI n)) 72 bo) (sW sg q)) iv_13_v384 na_1_236 o_236 hM rfl (show (0 : Nat) ≤ 8 by decide) dc_14_60_2 (hpl) ?_
    refine r_ifne (t := 10) (by decide) dc_14_60_5 (fun c_5 => ?_) (fun c_5 => ?_)
    · skip
      refine r_aload_n rfl dc_14_60_10 ?_
      obtain ⟨b2, hb2, hbest, hbo, hbs⟩ := BIv_1 hBI c_5
      cases hb2
      have hn7 : n ≤ 7 := hcn ▸ cnA_le _ _
      have hwh : ∀ i, i < n → wh i < 16 := fun i hi => by have := cnA_lt (sp_sel sg 0) ns i (hcn ▸ hi); rw [hcw] at this; omega
      have hok := sp_bo_ok hB
      have hc4 : ∀ i, i < n → co n b i ≤ 4 := fun i _ => Nat.le_of_lt_succ (dgt_lt _ _)
      have hdo := c_does M hM (va_up (va_up io 71 (nI n)) 72 bo) sg nf h7 hnf (n := n) rfl hn7 hwh (q := q) (my := my) (fun i hi => (hWH i hi).1) (co n b) hbest hc4 (fun i hi => (hWH i hi).2.2.1) (fun i hi z => (hok.1.1 i hi).elim (fun y => absurd y z) (fun y => by rw [hmy0]; exact (hWH i hi).2.2.2.2 _ y.1))
      refine q_callv (as := []) (rest := []) (M1 := rf_mk M (va_up (va_up io 71 (nI n)) 72 bo) (sW (plS (va_up sg 78 (fgS sg wh (co n b) nf n)) my wh (co n b) n) q)) iv_13_v388 na_1_244 o_244 hM rfl (show (0 : Nat) ≤ 8 by decide) dc_14_60_11 (mm_Ev_up (by decide : 2 ≤ 4) (hdo)) ?_
      refine r_iconst (v := nI 0) (by decide) dc_14_60_14 ?_
      refine r_istore_n (ls' := [(1, .int (nI 0)), (0, .ref 100)]) (by decide) rfl dc_14_60_15 ?_
      refine r_iconst (v := nI 0) (by decide) dc_14_60_16 ?_
      refine r_istore_n (ls' := [(2, .int (nI 0)), (1, .int (nI 0)), (0, .ref 100)]) (by decide) rfl dc_14_60_17 ?_
      refine mm_cnt (P := fun m => ∀ (acc : Int32), (acc = sp_sum (fun i => pI (co n b i < 4)) m) → mm_Ru 4 (13, 3, false, prog_14_method_60_code, some .int) 18 [(2, .int (nI m)), (1, .int acc), (0, .ref 100)] [] (rf_mk M (va_up (va_up io 71 (nI n)) 72 bo) (sW (plS (va_up sg 78 (fgS sg wh (co n b) nf n)) my wh (co n b) n) q)) (fun r9 => ∃ (q : Nat → Nat → Int32), ∃ (bo : Int32), r9 = ((some (.int (sp_sum (fun i => pI (co n b i < 4)) n)), rf_mk M (va_up (va_up io 71 (nI n)) 72 bo) (sW (plS (va_up sg 78 (fgS sg wh (co n b) nf n)) my wh (co n b) n) q))))) n ?_ ?_ 0 (by omega) (nI 0) (rfl)
      · intro acc hi_m
        show mm_Ru 4 (13, 3, false, prog_14_method_60_code, some .int) 18 [(2, .int (nI n)), (1, .int acc), (0, .ref 100)] [] (rf_mk M (va_up (va_up io 71 (nI n)) 72 bo) (sW (plS (va_up sg 78 (fgS sg wh (co n b) nf n)) my wh (co n b) n) q)) (fun r9 => ∃ (q : Nat → Nat → Int32), ∃ (bo : Int32), r9 = ((some (.int (sp_sum (fun i => pI (co n b i < 4)) n)), rf_mk M (va_up (va_up io 71 (nI n)) 72 bo) (sW (plS (va_up sg 78 (fgS sg wh (co n b) nf n)) my wh (co n b) n) q))))
        refine r_iload_n rfl dc_14_60_18 ?_
        refine r_aload_n rfl dc_14_60_19 ?_
        refine q_get (v := .int (nI n)) rx_353 hM (congrArg (fun z => some (Value.int z)) (rfl)) dc_14_60_20 ?_
        refine r_ncge (t := 50) (by omega) (by omega) (by decide) dc_14_60_23 (fun c_23 => ?_) (fun c_23 => ?_)
        · skip
          refine r_iload_n rfl dc_14_60_50 ?_
          refine r_iret rfl dc_14_60_51 ?_
          rw [hi_m]
          exact ⟨q, bo, rfl⟩
        · omega
      · intro m h_m ih_m acc hi_m
        have h45 := hc4 m h_m
        show mm_Ru 4 (13, 3, false, prog_14_method_60_code, some .int) 18 [(2, .int (nI m)), (1, .int acc), (0, .ref 100)] [] (rf_mk M (va_up (va_up io 71 (nI n)) 72 bo) (sW (plS (va_up sg 78 (fgS sg wh (co n b) nf n)) my wh (co n b) n) q)) (fun r9 => ∃ (q : Nat → Nat → Int32), ∃ (bo : Int32), r9 = ((some (.int (sp_sum (fun i => pI (co n b i < 4)) n)), rf_mk M (va_up (va_up io 71 (nI n)) 72 bo) (sW (plS (va_up sg 78 (fgS sg wh (co n b) nf n)) my wh (co n b) n) q))))
        refine r_iload_n rfl dc_14_60_18 ?_
        refine r_aload_n rfl dc_14_60_19 ?_
        refine q_get (v := .int (nI n)) rx_353 hM (congrArg (fun z => some (Value.int z)) (rfl)) dc_14_60_20 ?_
        refine r_ncge (t := 50) (by omega) (by omega) (by decide) dc_14_60_23 (fun c_23 => ?_) (fun c_23 => ?_)
        · omega
        · skip
          refine r_iload_n rfl dc_14_60_26 ?_
          refine r_aload_n rfl dc_14_60_27 ?_
          refine q_get (v := .ref 149) rx_156 hM rfl dc_14_60_28 ?_
          refine r_iload_n rfl dc_14_60_31 ?_
          refine q_ild (e := m) (v := nI (co n b m)) (by decide) (by decide) hM rfl (show m < 7 by omega) (by omega) (hbest m h_m) dc_14_60_32 ?_
          refine r_iconst (v := nI 4) (by decide) dc_14_60_33 ?_
          refine r_ncge (t := 41) (by omega) (by omega) (by decide) dc_14_60_34 (fun c_34 => ?_) (fun c_34 => ?_)
          · skip
            refine r_iconst (v := nI 0) (by decide) dc_14_60_41 ?_
            refine r_iadd (v := acc + (nI 0)) (rfl) dc_14_60_42 ?_
            refine r_istore_n (ls' := [(1, .int (acc + (nI 0))), (2, .int (nI m)), (0, .ref 100)]) (by decide) rfl dc_14_60_43 ?_
            refine r_iinc (x := nI m) (v := nI (m + 1)) (ls' := [(2, .int (nI (m + 1))), (1, .int (acc + (nI 0))), (0, .ref 100)]) rfl (nI_1 _) (by decide) rfl dc_14_60_44 ?_
            refine r_goto (t := 18) (by decide) dc_14_60_47 ?_
            exact ih_m (acc + (nI 0)) (sp_add hi_m (pI_f (by omega)))
          · skip
            refine r_iconst (v := nI 1) (by decide) dc_14_60_37 ?_
            refine r_goto (t := 42) (by decide) dc_14_60_38 ?_
            refine r_iadd (v := acc + (nI 1)) (rfl) dc_14_60_42 ?_
            refine r_istore_n (ls' := [(1, .int (acc + (nI 1))), (2, .int (nI m)), (0, .ref 100)]) (by decide) rfl dc_14_60_43 ?_
            refine r_iinc (x := nI m) (v := nI (m + 1)) (ls' := [(2, .int (nI (m + 1))), (1, .int (acc + (nI 1))), (0, .ref 100)]) rfl (nI_1 _) (by decide) rfl dc_14_60_44 ?_
            refine r_goto (t := 18) (by decide) dc_14_60_47 ?_
            exact ih_m (acc + (nI 1)) (sp_add hi_m (pI_t c_34))
    · exact absurd (BIv_0 hBI c_5) (fun z => by cases z)
  obtain ⟨z9, ⟨q, bo, e9⟩, h9⟩ := hq9
  subst e9
  exact ⟨q, bo, h9⟩
set_option maxHeartbeats 4000000 in
theorem c_mend_n (M : mH) (hM : 157 ≤ M.1) (io : Nat → Int32) (sg : Nat → Nat → Int32) (ns : Nat) (h5 : io 5 = nI ns) (hns : ns ≤ 16) (nh : Nat) (h3 : io 3 = nI nh) (hnh : nh ≤ 8) (nx : Nat) (h4 : io 4 = nI nx) (hnx : nx ≤ 12) (nf : Nat) (h7 : io 7 = nI nf) (hnf : nf ≤ 200) (cm : Nat → Nat) (w : Nat → Nat → Nat) (hC : CDok sg nx cm w) (hR : RI1 sg ns nh) (n : Nat) (wh : Nat → Nat) (my : Nat → Nat → Int32) (hcn : (cnA (sp_sel sg 1) ns).1 = n) (hcw : (cnA (sp_sel sg 1) ns).2 = wh) (hmy0 : my = (fun s k => sp_mby io sg cm w nx s (sg 60 (4 * s + k)))) (hB : sp_best 1 io sg my wh n ns nh nx (p5 n) = none) : ∃ (q : Nat → Nat → Int32), ∃ (bo : Int32), mm_Ev 5 246 [.ref 100] (rf_mk M io sg) ((some (.int (-1)), rf_mk M (va_up (va_up io 71 (nI n)) 72 bo) (sW sg q))) := by
  have hq9 : ∃ z, (fun r9 => ∃ (q : Nat → Nat → Int32), ∃ (bo : Int32), r9 = ((some (.int (-1)), rf_mk M (va_up (va_up io 71 (nI n)) 72 bo) (sW sg q)))) z ∧ mm_Ev 5 246 [.ref 100] (rf_mk M io sg) z := by
    refine r_evQ (by decide +kernel) (show (1 : Nat) ≤ mm_nL 246 by decide +kernel) ?_
    show mm_Ru 4 (13, 1, false, prog_14_method_61_code, some .int) 0 [(0, .ref 100)] [] (rf_mk M io sg) (fun r9 => ∃ (q : Nat → Nat → Int32), ∃ (bo : Int32), r9 = ((some (.int (-1)), rf_mk M (va_up (va_up io 71 (nI n)) 72 bo) (sW sg q))))
    refine r_aload_n rfl dc_14_61_0 ?_
    refine r_iconst (v := nI 1) (by decide) dc_14_61_1 ?_
    obtain ⟨q, bo, sf, ⟨hWH, hBI⟩, hpl⟩ := c_plans_1 M hM io sg ns h5 hns nh h3 hnh nx h4 hnx cm w hC hR n wh my hcn hcw hmy0
    rw [hB] at hBI
    refine q_calli (as := [.int (nI 1)]) (rest := []) (v := .int sf) (M1 := rf_mk M (va_up (va_up io 71 (nI n)) 72 bo) (sW sg q)) iv_13_v384 na_1_236 o_236 hM rfl (show (0 : Nat) ≤ 8 by decide) dc_14_61_2 (hpl) ?_
    refine r_ifne (t := 10) (by decide) dc_14_61_5 (fun c_5 => ?_) (fun c_5 => ?_)
    · exact absurd (BIv_1 hBI c_5) (fun z => by obtain ⟨_, z, _⟩ := z; cases z)
    · skip
      refine r_iconst (v := -1) (by decide) dc_14_61_8 ?_
      refine r_iret rfl dc_14_61_9 ?_
      exact ⟨q, bo, rfl⟩
  obtain ⟨z9, ⟨q, bo, e9⟩, h9⟩ := hq9
  subst e9
  exact ⟨q, bo, h9⟩
set_option maxHeartbeats 4000000 in
theorem c_mend_y (M : mH) (hM : 157 ≤ M.1) (io : Nat → Int32) (sg : Nat → Nat → Int32) (ns : Nat) (h5 : io 5 = nI ns) (hns : ns ≤ 16) (nh : Nat) (h3 : io 3 = nI nh) (hnh : nh ≤ 8) (nx : Nat) (h4 : io 4 = nI nx) (hnx : nx ≤ 12) (nf : Nat) (h7 : io 7 = nI nf) (hnf : nf ≤ 200) (cm : Nat → Nat) (w : Nat → Nat → Nat) (hC : CDok sg nx cm w) (hR : RI1 sg ns nh) (n : Nat) (wh : Nat → Nat) (my : Nat → Nat → Int32) (hcn : (cnA (sp_sel sg 1) ns).1 = n) (hcw : (cnA (sp_sel sg 1) ns).2 = wh) (hmy0 : my = (fun s k => sp_mby io sg cm w nx s (sg 60 (4 * s + k)))) (b : Nat) (hB : sp_best 1 io sg my wh n ns nh nx (p5 n) = some b) : ∃ (q : Nat → Nat → Int32), ∃ (bo : Int32), mm_Ev 5 246 [.ref 100] (rf_mk M io sg) ((some (.int (OTv 1 sg wh n b)), rf_mk M (va_up (va_up io 71 (nI n)) 72 bo) (sW (plS (va_up sg 78 (fgS sg wh (co n b) nf n)) my wh (co n b) n) q))) := by
  have hq9 : ∃ z, (fun r9 => ∃ (q : Nat → Nat → Int32), ∃ (bo : Int32), r9 = ((some (.int (OTv 1 sg wh n b)), rf_mk M (va_up (va_up io 71 (nI n)) 72 bo) (sW (plS (va_up sg 78 (fgS sg wh (co n b) nf n)) my wh (co n b) n) q)))) z ∧ mm_Ev 5 246 [.ref 100] (rf_mk M io sg) z := by
    refine r_evQ (by decide +kernel) (show (1 : Nat) ≤ mm_nL 246 by decide +kernel) ?_
    show mm_Ru 4 (13, 1, false, prog_14_method_61_code, some .int) 0 [(0, .ref 100)] [] (rf_mk M io sg) (fun r9 => ∃ (q : Nat → Nat → Int32), ∃ (bo : Int32), r9 = ((some (.int (OTv 1 sg wh n b)), rf_mk M (va_up (va_up io 71 (nI n)) 72 bo) (sW (plS (va_up sg 78 (fgS sg wh (co n b) nf n)) my wh (co n b) n) q))))
    refine r_aload_n rfl dc_14_61_0 ?_
    refine r_iconst (v := nI 1) (by decide) dc_14_61_1 ?_
    obtain ⟨q, bo, sf, ⟨hWH, hBI⟩, hpl⟩ := c_plans_1 M hM io sg ns h5 hns nh h3 hnh nx h4 hnx cm w hC hR n wh my hcn hcw hmy0
    rw [hB] at hBI
    refine q_calli (as := [.int (nI 1)]) (rest := []) (v := .int sf) (M1 := rf_mk M (va_up (va_up io 71 (nI n)) 72 bo) (sW sg q)) iv_13_v384 na_1_236 o_236 hM rfl (show (0 : Nat) ≤ 8 by decide) dc_14_61_2 (hpl) ?_
    refine r_ifne (t := 10) (by decide) dc_14_61_5 (fun c_5 => ?_) (fun c_5 => ?_)
    · skip
      refine r_aload_n rfl dc_14_61_10 ?_
      obtain ⟨b2, hb2, hbest, hbo, hbs⟩ := BIv_1 hBI c_5
      cases hb2
      have hn7 : n ≤ 7 := hcn ▸ cnA_le _ _
      have hwh : ∀ i, i < n → wh i < 16 := fun i hi => by have := cnA_lt (sp_sel sg 1) ns i (hcn ▸ hi); rw [hcw] at this; omega
      have hok := sp_bo_ok hB
      have hc4 : ∀ i, i < n → co n b i ≤ 4 := fun i _ => Nat.le_of_lt_succ (dgt_lt _ _)
      have hdo := c_does M hM (va_up (va_up io 71 (nI n)) 72 bo) sg nf h7 hnf (n := n) rfl hn7 hwh (q := q) (my := my) (fun i hi => (hWH i hi).1) (co n b) hbest hc4 (fun i hi => (hWH i hi).2.2.1) (fun i hi z => (hok.1.1 i hi).elim (fun y => absurd y z) (fun y => by rw [hmy0]; exact (hWH i hi).2.2.2.2 _ y.1))
      refine q_callv (as := []) (rest := []) (M1 := rf_mk M (va_up (va_up io 71 (nI n)) 72 bo) (sW (plS (va_up sg 78 (fgS sg wh (co n b) nf n)) my wh (co n b) n) q)) iv_13_v388 na_1_244 o_244 hM rfl (show (0 : Nat) ≤ 8 by decide) dc_14_61_11 (mm_Ev_up (by decide : 2 ≤ 4) (hdo)) ?_
      refine r_aload_n rfl dc_14_61_14 ?_
      refine q_get (v := .int bo) rx_369 hM rfl dc_14_61_15 ?_
      refine r_iret rfl dc_14_61_18 ?_
      rw [← hbo]
      exact ⟨q, bo, rfl⟩
    · exact absurd (BIv_0 hBI c_5) (fun z => by cases z)
  obtain ⟨z9, ⟨q, bo, e9⟩, h9⟩ := hq9
  subst e9
  exact ⟨q, bo, h9⟩
