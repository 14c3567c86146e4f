/-! the reference: what is closed -/
theorem dc_14_21_0 : decode prog_14_method_21_code 0 = .ok (.aload_n 0, 1) := by decide +kernel
theorem dc_14_21_1 : decode prog_14_method_21_code 1 = .ok (.getfield 243, 3) := by decide +kernel
theorem dc_14_21_4 : decode prog_14_method_21_code 4 = .ok (.ifCond .le 63, 3) := by decide +kernel
theorem dc_14_21_7 : decode prog_14_method_21_code 7 = .ok (.aload_n 0, 1) := by decide +kernel
theorem dc_14_21_8 : decode prog_14_method_21_code 8 = .ok (.getfield 96, 3) := by decide +kernel
theorem dc_14_21_11 : decode prog_14_method_21_code 11 = .ok (.aload_n 0, 1) := by decide +kernel
theorem dc_14_21_12 : decode prog_14_method_21_code 12 = .ok (.getfield 243, 3) := by decide +kernel
theorem dc_14_21_15 : decode prog_14_method_21_code 15 = .ok (.iconst 1, 1) := by decide +kernel
theorem dc_14_21_16 : decode prog_14_method_21_code 16 = .ok (.isub, 1) := by decide +kernel
theorem dc_14_21_17 : decode prog_14_method_21_code 17 = .ok (.iaload, 1) := by decide +kernel
theorem dc_14_21_18 : decode prog_14_method_21_code 18 = .ok (.ldc 246, 2) := by decide +kernel
theorem dc_14_21_20 : decode prog_14_method_21_code 20 = .ok (.if_icmp .eq 47, 3) := by decide +kernel
theorem dc_14_21_23 : decode prog_14_method_21_code 23 = .ok (.aload_n 0, 1) := by decide +kernel
theorem dc_14_21_24 : decode prog_14_method_21_code 24 = .ok (.getfield 96, 3) := by decide +kernel
theorem dc_14_21_27 : decode prog_14_method_21_code 27 = .ok (.aload_n 0, 1) := by decide +kernel
theorem dc_14_21_28 : decode prog_14_method_21_code 28 = .ok (.getfield 243, 3) := by decide +kernel
theorem dc_14_21_31 : decode prog_14_method_21_code 31 = .ok (.iconst 1, 1) := by decide +kernel
theorem dc_14_21_32 : decode prog_14_method_21_code 32 = .ok (.isub, 1) := by decide +kernel
theorem dc_14_21_33 : decode prog_14_method_21_code 33 = .ok (.iaload, 1) := by decide +kernel
theorem dc_14_21_34 : decode prog_14_method_21_code 34 = .ok (.invokestatic 247, 3) := by decide +kernel
theorem dc_14_21_37 : decode prog_14_method_21_code 37 = .ok (.iload_n 1, 1) := by decide +kernel
theorem dc_14_21_38 : decode prog_14_method_21_code 38 = .ok (.if_icmp .lt 29, 3) := by decide +kernel
theorem dc_14_21_41 : decode prog_14_method_21_code 41 = .ok (.aload_n 0, 1) := by decide +kernel
theorem dc_14_21_42 : decode prog_14_method_21_code 42 = .ok (.aload_n 0, 1) := by decide +kernel
theorem dc_14_21_43 : decode prog_14_method_21_code 43 = .ok (.getfield 243, 3) := by decide +kernel
theorem dc_14_21_46 : decode prog_14_method_21_code 46 = .ok (.iconst 1, 1) := by decide +kernel
theorem dc_14_21_47 : decode prog_14_method_21_code 47 = .ok (.isub, 1) := by decide +kernel
theorem dc_14_21_48 : decode prog_14_method_21_code 48 = .ok (.putfield 243, 3) := by decide +kernel
theorem dc_14_21_51 : decode prog_14_method_21_code 51 = .ok (.aload_n 0, 1) := by decide +kernel
theorem dc_14_21_52 : decode prog_14_method_21_code 52 = .ok (.aload_n 0, 1) := by decide +kernel
theorem dc_14_21_53 : decode prog_14_method_21_code 53 = .ok (.getfield 96, 3) := by decide +kernel
theorem dc_14_21_56 : decode prog_14_method_21_code 56 = .ok (.aload_n 0, 1) := by decide +kernel
theorem dc_14_21_57 : decode prog_14_method_21_code 57 = .ok (.getfield 243, 3) := by decide +kernel
theorem dc_14_21_60 : decode prog_14_method_21_code 60 = .ok (.iaload, 1) := by decide +kernel
theorem dc_14_21_61 : decode prog_14_method_21_code 61 = .ok (.invokevirtual 250, 3) := by decide +kernel
theorem dc_14_21_64 : decode prog_14_method_21_code 64 = .ok (.goto (-64), 3) := by decide +kernel
theorem dc_14_21_67 : decode prog_14_method_21_code 67 = .ok (.return_, 1) := by decide +kernel
theorem iv_13_s247 : mm_iv 13 (.invokestatic 247) = some (0, 210) := by decide +kernel
theorem iv_13_v250 : mm_iv 13 (.invokevirtual 250) = some (1, 208) := by decide +kernel
theorem nr_13_246 : mm_nr 13 246 = some (nI 1000003) := by decide +kernel
theorem o_208 : mm_o 208 = 13 := by decide +kernel
theorem na_0_210 : mm_nas 0 210 = 1 := by decide +kernel
theorem na_1_208 : mm_nas 1 208 = 2 := by decide +kernel
def clC (k : Nat) (W : Nat → Nat) (i : Nat) : Prop := ¬ W i = 1000003 ∧ k ≤ bnd (W i)
noncomputable def clk (k : Nat) (W : Nat → Nat) : Nat → Nat
  | 0 => 0
  | n + 1 => @ite _ (clC k W n) (Classical.propDecidable _) (clk k W n + 1) 0
def pps (f : Nat → Int32) (sn : Nat) (W : Nat → Nat) (wn : Nat) : Nat → Nat → Int32
  | 0 => f
  | m + 1 => upd (pps f sn W wn m) (sn + m) (nI (W (wn - m - 1)))
theorem clk_y {k : Nat} {W : Nat → Nat} {n : Nat} (h : clC k W n) : clk k W (n + 1) = clk k W n + 1 := if_pos h
theorem clk_n {k : Nat} {W : Nat → Nat} {n : Nat} (h : ¬ clC k W n) : clk k W (n + 1) = 0 := if_neg h
theorem clk_le (k : Nat) (W : Nat → Nat) : ∀ n, clk k W n ≤ n
  | 0 => Nat.le_refl _
  | n + 1 => by
    by_cases z : clC k W n
    · rw [clk_y z]
      have := clk_le k W n
      omega
    · rw [clk_n z]
      exact Nat.zero_le _
theorem clk_in {k : Nat} {W : Nat → Nat} : ∀ {n m : Nat}, m < clk k W n → clC k W (n - m - 1)
  | 0, m, h => absurd h (Nat.not_lt_zero m)
  | n + 1, m, h => by
    by_cases z : clC k W n
    · rw [clk_y z] at h
      cases m with
      | zero => exact z
      | succ m =>
        have := clk_in (k := k) (W := W) (n := n) (m := m) (by omega)
        rwa [show n + 1 - (m + 1) - 1 = n - m - 1 by omega]
    · rw [clk_n z] at h
      exact absurd h (Nat.not_lt_zero m)
theorem clk_end {k : Nat} {W : Nat → Nat} : ∀ {n : Nat}, clk k W n = n ∨ ¬ clC k W (n - clk k W n - 1)
  | 0 => Or.inl rfl
  | n + 1 => by
    by_cases z : clC k W n
    · rw [clk_y z]
      rcases clk_end (k := k) (W := W) (n := n) with y | y
      · exact Or.inl (by omega)
      · refine Or.inr ?_
        rwa [show n + 1 - (clk k W n + 1) - 1 = n - clk k W n - 1 by omega]
    · rw [clk_n z]
      exact Or.inr z
theorem io_cc (io : Nat → Int32) (a b c d : Int32) : va_up (va_up (va_up (va_up io 40 a) 39 b) 40 c) 39 d = va_up (va_up io 40 c) 39 d := by
  funext j
  by_cases h : j = 39
  · subst h
    rfl
  · rw [up_o _ _ h, up_o _ _ h]
    by_cases h2 : j = 40
    · subst h2
      rfl
    · rw [up_o _ _ h2, up_o _ _ h, up_o _ _ h2, up_o _ _ h2]
theorem io_00 {io : Nat → Int32} {wn sn : Nat} (h40 : io 40 = nI wn) (h39 : io 39 = nI sn) : io = va_up (va_up io 40 (nI (wn - 0))) 39 (nI (sn + 0)) := by
  rw [Nat.sub_zero, Nat.add_zero, ← h40, ← h39]
  exact (va_up_id2 io 40 39).symm
set_option maxHeartbeats 4000000 in
theorem c_closes (M : mH) (hM : 157 ≤ M.1) (io : Nat → Int32) (sg : Nat → Nat → Int32) (k wn sn : Nat) (W : Nat → Nat) (hk : k ≤ 3) (h40 : io 40 = nI wn) (h39 : io 39 = nI sn) (hwn : wn ≤ 80) (hsn : sn + clk k W wn ≤ 80) (hW : ∀ i, i < wn → sg 38 i = nI (W i) ∧ W i ≤ 1000003) : mm_Ev 2 209 [.ref 100, .int (nI k)] (rf_mk M io sg) ((none, rf_mk M (va_up (va_up io 40 (nI (wn - (clk k W wn)))) 39 (nI (sn + (clk k W wn)))) (va_up sg 37 (pps (sg 37) sn W wn (clk k W wn))))) := by
  refine r_ev (by decide +kernel) (show (2 : Nat) ≤ mm_nL 209 by decide +kernel) ?_
  have hle := clk_le k W wn
  have hbd : ∀ i, bnd (W i) ≤ 3 := fun i => by unfold bnd; split; exact Nat.le_refl _; split <;> decide
  show mm_Ru 1 (13, 2, false, prog_14_method_21_code, none) 0 [(0, .ref 100), (1, .int (nI k))] [] (rf_mk M io sg) (fun r9 => r9 = ((none, rf_mk M (va_up (va_up io 40 (nI (wn - (clk k W wn)))) 39 (nI (sn + (clk k W wn)))) (va_up sg 37 (pps (sg 37) sn W wn (clk k W wn))))))
  rw [show rf_mk M io sg = rf_mk M (va_up (va_up io 40 (nI (wn - 0))) 39 (nI (sn + 0))) (va_up sg 37 (pps (sg 37) sn W wn 0)) from rf_mk_c (io_00 h40 h39) (va_up_id sg 37).symm]
  refine mm_cnt (P := fun m => mm_Ru 1 (13, 2, false, prog_14_method_21_code, none) 0 [(0, .ref 100), (1, .int (nI k))] [] (rf_mk M (va_up (va_up io 40 (nI (wn - m))) 39 (nI (sn + m))) (va_up sg 37 (pps (sg 37) sn W wn m))) (fun r9 => r9 = ((none, rf_mk M (va_up (va_up io 40 (nI (wn - (clk k W wn)))) 39 (nI (sn + (clk k W wn)))) (va_up sg 37 (pps (sg 37) sn W wn (clk k W wn))))))) (clk k W wn) ?_ ?_ 0 (by omega)
  · show mm_Ru 1 (13, 2, false, prog_14_method_21_code, none) 0 [(0, .ref 100), (1, .int (nI k))] [] (rf_mk M (va_up (va_up io 40 (nI (wn - (clk k W wn)))) 39 (nI (sn + (clk k W wn)))) (va_up sg 37 (pps (sg 37) sn W wn (clk k W wn)))) (fun r9 => r9 = ((none, rf_mk M (va_up (va_up io 40 (nI (wn - (clk k W wn)))) 39 (nI (sn + (clk k W wn)))) (va_up sg 37 (pps (sg 37) sn W wn (clk k W wn))))))
    refine r_aload_n rfl dc_14_21_0 ?_
    refine q_get (v := .int (nI (wn - (clk k W wn)))) rx_243 hM rfl dc_14_21_1 ?_
    refine r_nzle (t := 67) (by omega) (by decide) dc_14_21_4 (fun c_4 => ?_) (fun c_4 => ?_)
    · skip
      exact r_vret rfl dc_14_21_67 (rfl)
    · have hWe := (hW (wn - (clk k W wn) - 1) (by omega)).2
      have hbe := hbd (wn - (clk k W wn) - 1)
      refine r_aload_n rfl dc_14_21_7 ?_
      refine q_get (v := .ref 129) rx_96 hM rfl dc_14_21_8 ?_
      refine r_aload_n rfl dc_14_21_11 ?_
      refine q_get (v := .int (nI (wn - (clk k W wn)))) rx_243 hM rfl dc_14_21_12 ?_
      refine r_iconst (v := nI 1) (by decide) dc_14_21_15 ?_
      refine r_isub (v := nI (wn - (clk k W wn) - 1)) (nI_sb (by omega)) dc_14_21_16 ?_
      refine q_ild (e := wn - (clk k W wn) - 1) (v := nI (W (wn - (clk k W wn) - 1))) (by decide) (by decide) hM rfl (show wn - (clk k W wn) - 1 < 80 by omega) (by omega) ((hW (wn - (clk k W wn) - 1) (by omega)).1) dc_14_21_17 ?_
      refine r_ldc (v := nI 1000003) nr_13_246 dc_14_21_18 ?_
      refine r_nceq (t := 67) (by omega) (by omega) (by decide) dc_14_21_20 (fun c_20 => ?_) (fun c_20 => ?_)
      · skip
        exact r_vret rfl dc_14_21_67 (rfl)
      · skip
        refine r_aload_n rfl dc_14_21_23 ?_
        refine q_get (v := .ref 129) rx_96 hM rfl dc_14_21_24 ?_
        refine r_aload_n rfl dc_14_21_27 ?_
        refine q_get (v := .int (nI (wn - (clk k W wn)))) rx_243 hM rfl dc_14_21_28 ?_
        refine r_iconst (v := nI 1) (by decide) dc_14_21_31 ?_
        refine r_isub (v := nI (wn - (clk k W wn) - 1)) (nI_sb (by omega)) dc_14_21_32 ?_
        refine q_ild (e := wn - (clk k W wn) - 1) (v := nI (W (wn - (clk k W wn) - 1))) (by decide) (by decide) hM rfl (show wn - (clk k W wn) - 1 < 80 by omega) (by omega) ((hW (wn - (clk k W wn) - 1) (by omega)).1) dc_14_21_33 ?_
        refine q_calls (as := [.int (nI (W (wn - (clk k W wn) - 1)))]) (rest := []) (v := .int (nI (bnd (W (wn - (clk k W wn) - 1))))) iv_13_s247 na_0_210 rfl (show (0 : Nat) ≤ 8 by decide) dc_14_21_34 (c_binds _ (W (wn - (clk k W wn) - 1)) (hW _ (by omega)).2) ?_
        refine r_iload_n rfl dc_14_21_37 ?_
        refine r_nclt (t := 67) (by omega) (by omega) (by decide) dc_14_21_38 (fun c_38 => ?_) (fun c_38 => ?_)
        · skip
          exact r_vret rfl dc_14_21_67 (rfl)
        · exact absurd (show clC k W (wn - (clk k W wn) - 1) from ⟨c_20, by omega⟩) ((clk_end (k := k) (W := W) (n := wn)).resolve_left (by omega))
  · intro m h_m ih_m 
    have hcm := clk_in h_m
    have hWm := (hW (wn - m - 1) (by omega)).2
    have hbm := hbd (wn - m - 1)
    show mm_Ru 1 (13, 2, false, prog_14_method_21_code, none) 0 [(0, .ref 100), (1, .int (nI k))] [] (rf_mk M (va_up (va_up io 40 (nI (wn - m))) 39 (nI (sn + m))) (va_up sg 37 (pps (sg 37) sn W wn m))) (fun r9 => r9 = ((none, rf_mk M (va_up (va_up io 40 (nI (wn - (clk k W wn)))) 39 (nI (sn + (clk k W wn)))) (va_up sg 37 (pps (sg 37) sn W wn (clk k W wn))))))
    refine r_aload_n rfl dc_14_21_0 ?_
    refine q_get (v := .int (nI (wn - m))) rx_243 hM rfl dc_14_21_1 ?_
    refine r_nzle (t := 67) (by omega) (by decide) dc_14_21_4 (fun c_4 => ?_) (fun c_4 => ?_)
    · omega
    · skip
      refine r_aload_n rfl dc_14_21_7 ?_
      refine q_get (v := .ref 129) rx_96 hM rfl dc_14_21_8 ?_
      refine r_aload_n rfl dc_14_21_11 ?_
      refine q_get (v := .int (nI (wn - m))) rx_243 hM rfl dc_14_21_12 ?_
      refine r_iconst (v := nI 1) (by decide) dc_14_21_15 ?_
      refine r_isub (v := nI (wn - m - 1)) (nI_sb (by omega)) dc_14_21_16 ?_
      refine q_ild (e := wn - m - 1) (v := nI (W (wn - m - 1))) (by decide) (by decide) hM rfl (show wn - m - 1 < 80 by omega) (by omega) ((hW (wn - m - 1) (by omega)).1) dc_14_21_17 ?_
      refine r_ldc (v := nI 1000003) nr_13_246 dc_14_21_18 ?_
      refine r_nceq (t := 67) (by omega) (by omega) (by decide) dc_14_21_20 (fun c_20 => ?_) (fun c_20 => ?_)
      · exact absurd c_20 hcm.1
      · skip
        refine r_aload_n rfl dc_14_21_23 ?_
        refine q_get (v := .ref 129) rx_96 hM rfl dc_14_21_24 ?_
        refine r_aload_n rfl dc_14_21_27 ?_
        refine q_get (v := .int (nI (wn - m))) rx_243 hM rfl dc_14_21_28 ?_
        refine r_iconst (v := nI 1) (by decide) dc_14_21_31 ?_
        refine r_isub (v := nI (wn - m - 1)) (nI_sb (by omega)) dc_14_21_32 ?_
        refine q_ild (e := wn - m - 1) (v := nI (W (wn - m - 1))) (by decide) (by decide) hM rfl (show wn - m - 1 < 80 by omega) (by omega) ((hW (wn - m - 1) (by omega)).1) dc_14_21_33 ?_
        refine q_calls (as := [.int (nI (W (wn - m - 1)))]) (rest := []) (v := .int (nI (bnd (W (wn - m - 1))))) iv_13_s247 na_0_210 rfl (show (0 : Nat) ≤ 8 by decide) dc_14_21_34 (c_binds _ (W (wn - m - 1)) (hW _ (by omega)).2) ?_
        refine r_iload_n rfl dc_14_21_37 ?_
        refine r_nclt (t := 67) (by omega) (by omega) (by decide) dc_14_21_38 (fun c_38 => ?_) (fun c_38 => ?_)
        · exact absurd hcm.2 (by omega)
        · skip
          refine r_aload_n rfl dc_14_21_41 ?_
          refine r_aload_n rfl dc_14_21_42 ?_
          refine q_get (v := .int (nI (wn - m))) rx_243 hM rfl dc_14_21_43 ?_
          refine r_iconst (v := nI 1) (by decide) dc_14_21_46 ?_
          refine r_isub (v := nI (wn - m - 1)) (nI_sb (by omega)) dc_14_21_47 ?_
          refine q_put rx_243 (by decide +kernel) (by decide +kernel) (by decide) (rs_40 _) hM dc_14_21_48 ?_
          refine r_aload_n rfl dc_14_21_51 ?_
          refine r_aload_n rfl dc_14_21_52 ?_
          refine q_get (v := .ref 129) rx_96 hM rfl dc_14_21_53 ?_
          refine r_aload_n rfl dc_14_21_56 ?_
          refine q_get (v := .int (nI (wn - m - 1))) rx_243 hM rfl dc_14_21_57 ?_
          refine q_ild (e := wn - m - 1) (v := nI (W (wn - m - 1))) (by decide) (by decide) hM rfl (show wn - m - 1 < 80 by omega) (by omega) ((hW (wn - m - 1) (by omega)).1) dc_14_21_60 ?_
          refine q_callv (as := [.int (nI (W (wn - m - 1)))]) (rest := []) (M1 := rf_mk M (va_up (va_up (va_up (va_up io 40 (nI (wn - m))) 39 (nI (sn + m))) 40 (nI (wn - m - 1))) 39 (nI (sn + m + 1))) (va_up (va_up sg 37 (pps (sg 37) sn W wn m)) 37 (upd ((va_up sg 37 (pps (sg 37) sn W wn m)) 37) (sn + m) (nI (W (wn - m - 1)))))) iv_13_v250 na_1_208 o_208 hM rfl (show (0 : Nat) ≤ 8 by decide) dc_14_21_61 (c_says M hM (va_up (va_up (va_up io 40 (nI (wn - m))) 39 (nI (sn + m))) 40 (nI (wn - m - 1))) (va_up sg 37 (pps (sg 37) sn W wn m)) (sn + m) rfl (by omega) (nI (W (wn - m - 1)))) ?_
          refine r_goto (t := 0) (by decide) dc_14_21_64 ?_
          rw [io_cc, va_up_up]
          exact ih_m
