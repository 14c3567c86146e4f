/-! texts: indexOf -/
theorem dc_21_152_0 : decode prog_21_method_152_code 0 = .ok (.getstatic 38, 3) := by decide +kernel
theorem dc_21_152_3 : decode prog_21_method_152_code 3 = .ok (.ifCond .eq 10, 3) := by decide +kernel
theorem dc_21_152_6 : decode prog_21_method_152_code 6 = .ok (.aload_n 0, 1) := by decide +kernel
theorem dc_21_152_7 : decode prog_21_method_152_code 7 = .ok (.getfield 15, 3) := by decide +kernel
theorem dc_21_152_10 : decode prog_21_method_152_code 10 = .ok (.goto 4, 3) := by decide +kernel
theorem dc_21_152_14 : decode prog_21_method_152_code 14 = .ok (.ireturn, 1) := by decide +kernel
theorem dc_21_154_0 : decode prog_21_method_154_code 0 = .ok (.getstatic 38, 3) := by decide +kernel
theorem dc_21_154_3 : decode prog_21_method_154_code 3 = .ok (.ifCond .eq 14, 3) := by decide +kernel
theorem dc_21_154_6 : decode prog_21_method_154_code 6 = .ok (.aload_n 0, 1) := by decide +kernel
theorem dc_21_154_7 : decode prog_21_method_154_code 7 = .ok (.getfield 15, 3) := by decide +kernel
theorem dc_21_154_10 : decode prog_21_method_154_code 10 = .ok (.ifCond .ne 7, 3) := by decide +kernel
theorem dc_21_154_13 : decode prog_21_method_154_code 13 = .ok (.iconst 1, 1) := by decide +kernel
theorem dc_21_154_14 : decode prog_21_method_154_code 14 = .ok (.goto 4, 3) := by decide +kernel
theorem dc_21_154_18 : decode prog_21_method_154_code 18 = .ok (.ireturn, 1) := by decide +kernel
theorem dc_21_54_0 : decode prog_21_method_54_code 0 = .ok (.aload_n 0, 1) := by decide +kernel
theorem dc_21_54_1 : decode prog_21_method_54_code 1 = .ok (.getfield 9, 3) := by decide +kernel
theorem dc_21_54_4 : decode prog_21_method_54_code 4 = .ok (.arraylength, 1) := by decide +kernel
theorem dc_21_54_5 : decode prog_21_method_54_code 5 = .ok (.aload_n 0, 1) := by decide +kernel
theorem dc_21_54_6 : decode prog_21_method_54_code 6 = .ok (.invokevirtual 335, 3) := by decide +kernel
theorem dc_21_54_9 : decode prog_21_method_54_code 9 = .ok (.ishr, 1) := by decide +kernel
theorem dc_21_54_10 : decode prog_21_method_54_code 10 = .ok (.ireturn, 1) := by decide +kernel
theorem dc_21_79_0 : decode prog_21_method_79_code 0 = .ok (.aload_n 0, 1) := by decide +kernel
theorem dc_21_79_1 : decode prog_21_method_79_code 1 = .ok (.iload_n 1, 1) := by decide +kernel
theorem dc_21_79_2 : decode prog_21_method_79_code 2 = .ok (.iconst 0, 1) := by decide +kernel
theorem dc_21_79_3 : decode prog_21_method_79_code 3 = .ok (.invokevirtual 633, 3) := by decide +kernel
theorem dc_21_79_6 : decode prog_21_method_79_code 6 = .ok (.ireturn, 1) := by decide +kernel
theorem dc_21_80_0 : decode prog_21_method_80_code 0 = .ok (.aload_n 0, 1) := by decide +kernel
theorem dc_21_80_1 : decode prog_21_method_80_code 1 = .ok (.invokevirtual 492, 3) := by decide +kernel
theorem dc_21_80_4 : decode prog_21_method_80_code 4 = .ok (.ifCond .eq 19, 3) := by decide +kernel
theorem dc_21_80_7 : decode prog_21_method_80_code 7 = .ok (.aload_n 0, 1) := by decide +kernel
theorem dc_21_80_8 : decode prog_21_method_80_code 8 = .ok (.getfield 9, 3) := by decide +kernel
theorem dc_21_80_11 : decode prog_21_method_80_code 11 = .ok (.iload_n 1, 1) := by decide +kernel
theorem dc_21_80_12 : decode prog_21_method_80_code 12 = .ok (.iload_n 2, 1) := by decide +kernel
theorem dc_21_80_13 : decode prog_21_method_80_code 13 = .ok (.aload_n 0, 1) := by decide +kernel
theorem dc_21_80_14 : decode prog_21_method_80_code 14 = .ok (.invokevirtual 505, 3) := by decide +kernel
theorem dc_21_80_17 : decode prog_21_method_80_code 17 = .ok (.invokestatic 637, 3) := by decide +kernel
theorem dc_21_80_20 : decode prog_21_method_80_code 20 = .ok (.goto 16, 3) := by decide +kernel
theorem dc_21_80_36 : decode prog_21_method_80_code 36 = .ok (.ireturn, 1) := by decide +kernel
theorem dc_22_22_0 : decode prog_22_method_22_code 0 = .ok (.iload_n 1, 1) := by decide +kernel
theorem dc_22_22_1 : decode prog_22_method_22_code 1 = .ok (.invokestatic 88, 3) := by decide +kernel
theorem dc_22_22_4 : decode prog_22_method_22_code 4 = .ok (.ifCond .ne 5, 3) := by decide +kernel
theorem dc_22_22_9 : decode prog_22_method_22_code 9 = .ok (.iload_n 2, 1) := by decide +kernel
theorem dc_22_22_10 : decode prog_22_method_22_code 10 = .ok (.iconst 0, 1) := by decide +kernel
theorem dc_22_22_11 : decode prog_22_method_22_code 11 = .ok (.invokestatic 92, 3) := by decide +kernel
theorem dc_22_22_14 : decode prog_22_method_22_code 14 = .ok (.istore_n 2, 1) := by decide +kernel
theorem dc_22_22_15 : decode prog_22_method_22_code 15 = .ok (.iload_n 3, 1) := by decide +kernel
theorem dc_22_22_16 : decode prog_22_method_22_code 16 = .ok (.aload_n 0, 1) := by decide +kernel
theorem dc_22_22_17 : decode prog_22_method_22_code 17 = .ok (.arraylength, 1) := by decide +kernel
theorem dc_22_22_18 : decode prog_22_method_22_code 18 = .ok (.invokestatic 38, 3) := by decide +kernel
theorem dc_22_22_21 : decode prog_22_method_22_code 21 = .ok (.istore_n 3, 1) := by decide +kernel
theorem dc_22_22_22 : decode prog_22_method_22_code 22 = .ok (.iload_n 2, 1) := by decide +kernel
theorem dc_22_22_23 : decode prog_22_method_22_code 23 = .ok (.iload_n 3, 1) := by decide +kernel
theorem dc_22_22_24 : decode prog_22_method_22_code 24 = .ok (.if_icmp .lt 5, 3) := by decide +kernel
theorem dc_22_22_29 : decode prog_22_method_22_code 29 = .ok (.aload_n 0, 1) := by decide +kernel
theorem dc_22_22_30 : decode prog_22_method_22_code 30 = .ok (.iload_n 1, 1) := by decide +kernel
theorem dc_22_22_31 : decode prog_22_method_22_code 31 = .ok (.iload_n 2, 1) := by decide +kernel
theorem dc_22_22_32 : decode prog_22_method_22_code 32 = .ok (.iload_n 3, 1) := by decide +kernel
theorem dc_22_22_33 : decode prog_22_method_22_code 33 = .ok (.invokestatic 95, 3) := by decide +kernel
theorem dc_22_22_36 : decode prog_22_method_22_code 36 = .ok (.ireturn, 1) := by decide +kernel
theorem dc_22_23_0 : decode prog_22_method_23_code 0 = .ok (.iload_n 1, 1) := by decide +kernel
theorem dc_22_23_1 : decode prog_22_method_23_code 1 = .ok (.i2b, 1) := by decide +kernel
theorem dc_22_23_2 : decode prog_22_method_23_code 2 = .ok (.istore 4, 2) := by decide +kernel
theorem dc_22_23_4 : decode prog_22_method_23_code 4 = .ok (.iload_n 2, 1) := by decide +kernel
theorem dc_22_23_5 : decode prog_22_method_23_code 5 = .ok (.istore 5, 2) := by decide +kernel
theorem dc_22_23_7 : decode prog_22_method_23_code 7 = .ok (.iload 5, 2) := by decide +kernel
theorem dc_22_23_9 : decode prog_22_method_23_code 9 = .ok (.iload_n 3, 1) := by decide +kernel
theorem dc_22_23_10 : decode prog_22_method_23_code 10 = .ok (.if_icmp .ge 21, 3) := by decide +kernel
theorem dc_22_23_13 : decode prog_22_method_23_code 13 = .ok (.aload_n 0, 1) := by decide +kernel
theorem dc_22_23_14 : decode prog_22_method_23_code 14 = .ok (.iload 5, 2) := by decide +kernel
theorem dc_22_23_16 : decode prog_22_method_23_code 16 = .ok (.baload, 1) := by decide +kernel
theorem dc_22_23_17 : decode prog_22_method_23_code 17 = .ok (.iload 4, 2) := by decide +kernel
theorem dc_22_23_19 : decode prog_22_method_23_code 19 = .ok (.if_icmp .ne 6, 3) := by decide +kernel
theorem dc_22_23_22 : decode prog_22_method_23_code 22 = .ok (.iload 5, 2) := by decide +kernel
theorem dc_22_23_24 : decode prog_22_method_23_code 24 = .ok (.ireturn, 1) := by decide +kernel
theorem dc_22_23_25 : decode prog_22_method_23_code 25 = .ok (.iinc 5 1, 3) := by decide +kernel
theorem dc_22_23_28 : decode prog_22_method_23_code 28 = .ok (.goto (-21), 3) := by decide +kernel
theorem dc_22_23_31 : decode prog_22_method_23_code 31 = .ok (.iconst (-1), 1) := by decide +kernel
theorem dc_22_23_32 : decode prog_22_method_23_code 32 = .ok (.ireturn, 1) := by decide +kernel
theorem dc_22_4_0 : decode prog_22_method_4_code 0 = .ok (.iload_n 0, 1) := by decide +kernel
theorem dc_22_4_1 : decode prog_22_method_4_code 1 = .ok (.ifCond .lt 14, 3) := by decide +kernel
theorem dc_22_4_4 : decode prog_22_method_4_code 4 = .ok (.iload_n 0, 1) := by decide +kernel
theorem dc_22_4_5 : decode prog_22_method_4_code 5 = .ok (.sipush 255, 3) := by decide +kernel
theorem dc_22_4_8 : decode prog_22_method_4_code 8 = .ok (.if_icmp .gt 7, 3) := by decide +kernel
theorem dc_22_4_11 : decode prog_22_method_4_code 11 = .ok (.iconst 1, 1) := by decide +kernel
theorem dc_22_4_12 : decode prog_22_method_4_code 12 = .ok (.goto 4, 3) := by decide +kernel
theorem dc_22_4_16 : decode prog_22_method_4_code 16 = .ok (.ireturn, 1) := by decide +kernel
theorem iv_22_s637 : mm_iv 22 (.invokestatic 637) = some (0, 64) := by decide +kernel
theorem iv_22_v335 : mm_iv 22 (.invokevirtual 335) = some (1, 63) := by decide +kernel
theorem iv_22_v492 : mm_iv 22 (.invokevirtual 492) = some (1, 61) := by decide +kernel
theorem iv_22_v505 : mm_iv 22 (.invokevirtual 505) = some (1, 62) := by decide +kernel
theorem iv_22_v633 : mm_iv 22 (.invokevirtual 633) = some (1, 60) := by decide +kernel
theorem iv_23_s38 : mm_iv 23 (.invokestatic 38) = some (0, 37) := by decide +kernel
theorem iv_23_s88 : mm_iv 23 (.invokestatic 88) = some (0, 65) := by decide +kernel
theorem iv_23_s92 : mm_iv 23 (.invokestatic 92) = some (0, 33) := by decide +kernel
theorem iv_23_s95 : mm_iv 23 (.invokestatic 95) = some (0, 66) := by decide +kernel
theorem o_60 : mm_o 60 = 22 := by decide +kernel
theorem o_61 : mm_o 61 = 22 := by decide +kernel
theorem o_62 : mm_o 62 = 22 := by decide +kernel
theorem o_63 : mm_o 63 = 22 := by decide +kernel
theorem na_0_64 : mm_nas 0 64 = 4 := by decide +kernel
theorem na_0_65 : mm_nas 0 65 = 1 := by decide +kernel
theorem na_0_66 : mm_nas 0 66 = 4 := by decide +kernel
theorem na_1_60 : mm_nas 1 60 = 3 := by decide +kernel
theorem na_1_61 : mm_nas 1 61 = 1 := by decide +kernel
theorem na_1_62 : mm_nas 1 62 = 1 := by decide +kernel
theorem na_1_63 : mm_nas 1 63 = 1 := by decide +kernel
section TX
variable {d o nL pc : Nat} {ini : Bool} {b : ByteArray} {ret : Option FieldType} {ls : List (Nat × Value)} {st : List Value} {R : Option Value × mH → Prop} {N : mH}
theorem x_gs {x a : Nat} {v : Value} (h1 : mm_fr o x = none) (h2 : mm_gs o x N a = some v) (hd : decode b pc = .ok (.getfield x, 3)) (kk : mm_Ru d (o, nL, ini, b, ret) (pc + 3) ls (v :: st) N R) : mm_Ru d (o, nL, ini, b, ret) pc ls (.ref a :: st) N R := r_st (C := (o, nL, ini, b, ret)) hd rfl rfl rfl (by
  have h3 : mm_gf o x N a = none := by
    unfold mm_gf
    rw [h1]
  simp only [mm_st, h3, h2]) kk
theorem x_len {a n : Nat} {F : Nat → Int32} (ha : 1000000 ≤ a ∧ a < 1000010) (hB : N.2.2 a = .inl (1, n, .inl F)) (hd : decode b pc = .ok (.arraylength, 1)) (kk : mm_Ru d (o, nL, ini, b, ret) (pc + 1) ls (.int (nI n) :: st) N R) : mm_Ru d (o, nL, ini, b, ret) pc ls (.ref a :: st) N R := r_alen (by
  unfold mm_lg
  rw [hB]
  dsimp only
  exact if_pos ⟨by unfold mm_ok mm_sta; simp [ha], by decide⟩) hd kk
theorem x_ld {a n e : Nat} {F : Nat → Int32} (ha : 1000000 ≤ a ∧ a < 1000010) (hB : N.2.2 a = .inl (1, n, .inl F)) (he : e < n) (hn : n < 2 ^ 31) (hd : decode b pc = .ok (.baload, 1)) (kk : mm_Ru d (o, nL, ini, b, ret) (pc + 1) ls (.int (F e) :: st) N R) : mm_Ru d (o, nL, ini, b, ret) pc ls (.int (nI e) :: .ref a :: st) N R := r_baload (by
  unfold mm_ai
  rw [hB]
  dsimp only
  rw [nI_clamp (by omega), if_pos ⟨by unfold mm_ok mm_sta; simp [ha], rfl, fun q => q.elim (nI_pos (by omega)) (fun z => by omega)⟩]) hd kk
theorem x_call {x j a : Nat} {fs : List Value} {as rest : List Value} {v : Value} {M1 : mH} (hv : mm_iv o (.invokevirtual x) = some (1, j)) (hn : mm_nas 1 j = as.length + 1) (hj : mm_o j = 22) (ha : 1000000 ≤ a ∧ a < 1000010) (hS : N.2.2 a = .inr (22, fs)) (hst : st = as.reverse ++ .ref a :: rest) (hsum : mm_sum rest ≤ 8) (hd : decode b pc = .ok (.invokevirtual x, 3)) (hc : mm_Ev d j (.ref a :: as) N (some v, M1)) (kk : mm_Ru d (o, nL, ini, b, ret) (pc + 3) ls (v :: rest) M1 R) : mm_Ru d (o, nL, ini, b, ret) pc ls st N R := r_call (C := (o, nL, ini, b, ret)) (as := .ref a :: as) (rest := rest) hd rfl rfl hv rfl (by rw [hst]; simp) hn hsum (by
  unfold mm_rc
  rw [if_pos (Or.inl rfl)]
  dsimp only
  rw [hS, hj]
  unfold mm_sta
  simp [ha]) hc kk
theorem x_bret {v : Int32} (hr : ret = some .byte) (hv : v.toInt8.toInt32 = v) (hd : decode b pc = .ok (.ireturn, 1)) (hR : R (some (Value.int v), N)) : mm_Ru d (o, nL, ini, b, ret) pc ls [.int v] N R := by
  subst hr
  exact r_ret (C := (o, nL, ini, b, some .byte)) hd rfl rfl (if_pos (congrArg Value.int hv)) hR
end TX
set_option maxHeartbeats 4000000 in
theorem x_coder (N : mH) (a b n : Nat) (F : Nat → Int32) (ha : 1000002 ≤ a ∧ a ≤ 1000004) (hb : 1000005 ≤ b ∧ b ≤ 1000007) (hS : N.2.2 a = .inr (22, [.ref b, .int 0])) (hB : N.2.2 b = .inl (1, n, .inl F)) (hn : n ≤ 4) : mm_Ev 1 63 [.ref a] (N) ((some (.int (nI 0)), N)) := by
  refine r_ev (by decide +kernel) (show (1 : Nat) ≤ mm_nL 63 by decide +kernel) ?_
  show mm_Ru 0 (22, 1, false, prog_21_method_152_code, some .byte) 0 [(0, .ref a)] [] (N) (fun r9 => r9 = ((some (.int (nI 0)), N)))
  refine h_gst (v := .int (nI 1)) (by decide) dc_21_152_0 ?_
  refine r_ifeq (t := 13) (by decide) dc_21_152_3 (fun c_3 => ?_) (fun c_3 => ?_)
  · exact absurd c_3 (by decide)
  · skip
    refine r_aload_n rfl dc_21_152_6 ?_
    refine x_gs (v := .int (nI 0)) (by decide +kernel) (by unfold mm_gs; rw [if_pos ⟨rfl, by unfold mm_sta; simp; omega⟩, hS]; rfl) dc_21_152_7 ?_
    refine r_goto (t := 14) (by decide) dc_21_152_10 ?_
    exact x_bret rfl (by decide) dc_21_152_14 rfl
set_option maxHeartbeats 4000000 in
theorem x_isL1 (N : mH) (a b n : Nat) (F : Nat → Int32) (ha : 1000002 ≤ a ∧ a ≤ 1000004) (hb : 1000005 ≤ b ∧ b ≤ 1000007) (hS : N.2.2 a = .inr (22, [.ref b, .int 0])) (hB : N.2.2 b = .inl (1, n, .inl F)) (hn : n ≤ 4) : mm_Ev 1 61 [.ref a] (N) ((some (.int (nI 1)), N)) := by
  refine r_ev (by decide +kernel) (show (1 : Nat) ≤ mm_nL 61 by decide +kernel) ?_
  show mm_Ru 0 (22, 1, false, prog_21_method_154_code, some .boolean) 0 [(0, .ref a)] [] (N) (fun r9 => r9 = ((some (.int (nI 1)), N)))
  refine h_gst (v := .int (nI 1)) (by decide) dc_21_154_0 ?_
  refine r_ifeq (t := 17) (by decide) dc_21_154_3 (fun c_3 => ?_) (fun c_3 => ?_)
  · exact absurd c_3 (by decide)
  · skip
    refine r_aload_n rfl dc_21_154_6 ?_
    refine x_gs (v := .int (nI 0)) (by decide +kernel) (by unfold mm_gs; rw [if_pos ⟨rfl, by unfold mm_sta; simp; omega⟩, hS]; rfl) dc_21_154_7 ?_
    refine r_ifne (t := 17) (by decide) dc_21_154_10 (fun c_10 => ?_) (fun c_10 => ?_)
    · exact absurd c_10 (by decide)
    · skip
      refine r_iconst (v := nI 1) (by decide) dc_21_154_13 ?_
      refine r_goto (t := 18) (by decide) dc_21_154_14 ?_
      exact r_zret rfl (by decide) dc_21_154_18 (rfl)
theorem sh0 : ∀ n, n ≤ 4 → nI n >>> (nI 0 &&& 31) = nI n := by decide +kernel
set_option maxHeartbeats 4000000 in
theorem x_slen (N : mH) (a b n : Nat) (F : Nat → Int32) (ha : 1000002 ≤ a ∧ a ≤ 1000004) (hb : 1000005 ≤ b ∧ b ≤ 1000007) (hS : N.2.2 a = .inr (22, [.ref b, .int 0])) (hB : N.2.2 b = .inl (1, n, .inl F)) (hn : n ≤ 4) : mm_Ev 2 62 [.ref a] (N) ((some (.int (nI n)), N)) := by
  refine r_ev (by decide +kernel) (show (1 : Nat) ≤ mm_nL 62 by decide +kernel) ?_
  show mm_Ru 1 (22, 1, false, prog_21_method_54_code, some .int) 0 [(0, .ref a)] [] (N) (fun r9 => r9 = ((some (.int (nI n)), N)))
  refine r_aload_n rfl dc_21_54_0 ?_
  refine x_gs (v := .ref b) (by decide +kernel) (by unfold mm_gs; rw [if_pos ⟨rfl, by unfold mm_sta; simp; omega⟩, hS]; rfl) dc_21_54_1 ?_
  refine x_len (n := n) ⟨by omega, by omega⟩ hB dc_21_54_4 ?_
  refine r_aload_n rfl dc_21_54_5 ?_
  refine x_call (as := []) (rest := [.int (nI n)]) (v := .int (nI 0)) (M1 := N) iv_22_v335 na_1_63 o_63 ⟨by omega, by omega⟩ hS rfl (show (1 : Nat) ≤ 8 by decide) dc_21_54_6 (x_coder N a b n F ha hb hS hB hn) ?_
  refine r_ishr (v := nI n) (sh0 n hn) dc_21_54_9 ?_
  exact r_iret rfl dc_21_54_10 (rfl)
set_option maxHeartbeats 4000000 in
theorem x_canE (N : mH) (v : Nat) (hv : v < 256) : mm_Ev 1 65 [.int (nI v)] (N) ((some (.int (nI 1)), N)) := by
  refine r_ev (by decide +kernel) (show (1 : Nat) ≤ mm_nL 65 by decide +kernel) ?_
  show mm_Ru 0 (23, 1, false, prog_22_method_4_code, some .boolean) 0 [(0, .int (nI v))] [] (N) (fun r9 => r9 = ((some (.int (nI 1)), N)))
  refine r_iload_n rfl dc_22_4_0 ?_
  refine r_nzlt (t := 15) (by omega) (by decide) dc_22_4_1 ?_
  refine r_iload_n rfl dc_22_4_4 ?_
  refine r_sipush (v := nI 255) (by decide) dc_22_4_5 ?_
  refine r_ncgt (t := 15) (by omega) (by omega) (by decide) dc_22_4_8 (fun c_8 => ?_) (fun c_8 => ?_)
  · omega
  · skip
    refine r_iconst (v := nI 1) (by decide) dc_22_4_11 ?_
    refine r_goto (t := 16) (by decide) dc_22_4_12 ?_
    exact r_zret rfl (by decide) dc_22_4_16 (rfl)
set_option maxHeartbeats 4000000 in
theorem x_ixC (N : mH) (a b n : Nat) (F : Nat → Int32) (ha : 1000002 ≤ a ∧ a ≤ 1000004) (hb : 1000005 ≤ b ∧ b ≤ 1000007) (hS : N.2.2 a = .inr (22, [.ref b, .int 0])) (hB : N.2.2 b = .inl (1, n, .inl F)) (hn : n ≤ 4) (v : Nat) (hv : v < 256) : mm_Ev 1 66 [.ref b, .int (nI v), .int (nI 0), .int (nI n)] (N) ((some (.int (sp_at F ((nI v).toInt8.toInt32) n)), N)) := by
  refine r_ev (by decide +kernel) (show (4 : Nat) ≤ mm_nL 66 by decide +kernel) ?_
  show mm_Ru 0 (23, 6, false, prog_22_method_23_code, some .int) 0 [(0, .ref b), (1, .int (nI v)), (2, .int (nI 0)), (3, .int (nI n))] [] (N) (fun r9 => r9 = ((some (.int (sp_at F ((nI v).toInt8.toInt32) n)), N)))
  refine r_iload_n rfl dc_22_23_0 ?_
  refine r_i2b (v := (nI v).toInt8.toInt32) (rfl) dc_22_23_1 ?_
  refine r_istore (ls' := [(4, .int ((nI v).toInt8.toInt32)), (0, .ref b), (1, .int (nI v)), (2, .int (nI 0)), (3, .int (nI n))]) (by decide) rfl dc_22_23_2 ?_
  refine r_iload_n rfl dc_22_23_4 ?_
  refine r_istore (ls' := [(5, .int (nI 0)), (4, .int ((nI v).toInt8.toInt32)), (0, .ref b), (1, .int (nI v)), (2, .int (nI 0)), (3, .int (nI n))]) (by decide) rfl dc_22_23_5 ?_
  refine r_ls [(5, .int (nI 0)), (0, .ref b), (1, .int (nI v)), (2, .int (nI 0)), (3, .int (nI n)), (4, .int ((nI v).toInt8.toInt32))] (mm_ndk_of [5, 0, 1, 2, 3, 4] rfl (by decide)) (mm_sub_cons rfl (mm_sub_cons rfl (mm_sub_cons rfl (mm_sub_cons rfl (mm_sub_cons rfl (mm_sub_cons rfl (mm_sub_nil _))))))) ?_
  refine mm_cnt (P := fun m => (∀ j, j < m → ¬ F j = ((nI v).toInt8.toInt32)) → mm_Ru 0 (23, 6, false, prog_22_method_23_code, some .int) 7 [(5, .int (nI m)), (0, .ref b), (1, .int (nI v)), (2, .int (nI 0)), (3, .int (nI n)), (4, .int ((nI v).toInt8.toInt32))] [] (N) (fun r9 => r9 = ((some (.int (sp_at F ((nI v).toInt8.toInt32) n)), N)))) n ?_ ?_ 0 (by omega) (fun j hj => absurd hj (Nat.not_lt_zero j))
  · intro  hi_m
    show mm_Ru 0 (23, 6, false, prog_22_method_23_code, some .int) 7 [(5, .int (nI n)), (0, .ref b), (1, .int (nI v)), (2, .int (nI 0)), (3, .int (nI n)), (4, .int ((nI v).toInt8.toInt32))] [] (N) (fun r9 => r9 = ((some (.int (sp_at F ((nI v).toInt8.toInt32) n)), N)))
    refine r_iload rfl dc_22_23_7 ?_
    refine r_iload_n rfl dc_22_23_9 ?_
    refine r_ncge (t := 31) (by omega) (by omega) (by decide) dc_22_23_10 (fun c_10 => ?_) (fun c_10 => ?_)
    · skip
      refine r_iconst (v := -1) (by decide) dc_22_23_31 ?_
      refine r_iret rfl dc_22_23_32 ?_
      rw [sp_at_no hi_m]
    · omega
  · intro m h_m ih_m  hi_m
    show mm_Ru 0 (23, 6, false, prog_22_method_23_code, some .int) 7 [(5, .int (nI m)), (0, .ref b), (1, .int (nI v)), (2, .int (nI 0)), (3, .int (nI n)), (4, .int ((nI v).toInt8.toInt32))] [] (N) (fun r9 => r9 = ((some (.int (sp_at F ((nI v).toInt8.toInt32) n)), N)))
    refine r_iload rfl dc_22_23_7 ?_
    refine r_iload_n rfl dc_22_23_9 ?_
    refine r_ncge (t := 31) (by omega) (by omega) (by decide) dc_22_23_10 (fun c_10 => ?_) (fun c_10 => ?_)
    · omega
    · skip
      refine r_aload_n rfl dc_22_23_13 ?_
      refine r_iload rfl dc_22_23_14 ?_
      refine x_ld (e := m) (F := F) ⟨by omega, by omega⟩ hB (by omega) (by omega) dc_22_23_16 ?_
      refine r_iload rfl dc_22_23_17 ?_
      refine r_icne (t := 25) (by decide) dc_22_23_19 (fun c_19 => ?_) (fun c_19 => ?_)
      · skip
        refine r_iinc (n := 5) (k := 1) (x := nI m) (v := nI (m + 1)) (ls' := [(5, .int (nI (m + 1))), (0, .ref b), (1, .int (nI v)), (2, .int (nI 0)), (3, .int (nI n)), (4, .int ((nI v).toInt8.toInt32))]) rfl (nI_1 _) (by decide) rfl dc_22_23_25 ?_
        refine r_goto (t := 7) (by decide) dc_22_23_28 ?_
        exact ih_m (fun j hj => (by omega : j < m ∨ j = m).elim (fun z => hi_m j z) (fun z => z ▸ c_19))
      · skip
        refine r_iload rfl dc_22_23_22 ?_
        refine r_iret rfl dc_22_23_24 ?_
        rw [sp_at_yes hi_m c_19 (by omega) h_m]
set_option maxHeartbeats 4000000 in
theorem x_ixL (N : mH) (a b n : Nat) (F : Nat → Int32) (ha : 1000002 ≤ a ∧ a ≤ 1000004) (hb : 1000005 ≤ b ∧ b ≤ 1000007) (hS : N.2.2 a = .inr (22, [.ref b, .int 0])) (hB : N.2.2 b = .inl (1, n, .inl F)) (hn : n ≤ 4) (hn0 : 0 < n) (v : Nat) (hv : v < 256) : mm_Ev 2 64 [.ref b, .int (nI v), .int (nI 0), .int (nI n)] (N) ((some (.int (sp_at F ((nI v).toInt8.toInt32) n)), N)) := by
  refine r_ev (by decide +kernel) (show (4 : Nat) ≤ mm_nL 64 by decide +kernel) ?_
  show mm_Ru 1 (23, 4, false, prog_22_method_22_code, some .int) 0 [(0, .ref b), (1, .int (nI v)), (2, .int (nI 0)), (3, .int (nI n))] [] (N) (fun r9 => r9 = ((some (.int (sp_at F ((nI v).toInt8.toInt32) n)), N)))
  refine r_iload_n rfl dc_22_22_0 ?_
  refine h_callS (as := [.int (nI v)]) (rest := []) (v := .int (nI 1)) rfl rfl iv_23_s88 (Or.inl rfl) na_0_65 rfl (show (0 : Nat) ≤ 8 by decide) dc_22_22_1 (x_canE N v hv) ?_
  refine r_ifne (t := 9) (by decide) dc_22_22_4 (fun c_4 => ?_) (fun c_4 => ?_)
  · skip
    refine r_iload_n rfl dc_22_22_9 ?_
    refine r_iconst (v := nI 0) (by decide) dc_22_22_10 ?_
    refine h_callS (as := [.int (nI 0), .int (nI 0)]) (rest := []) (v := .int (nI 0)) rfl rfl iv_23_s92 (Or.inl rfl) na_0_33 rfl (show (0 : Nat) ≤ 8 by decide) dc_22_22_11 (by have h9 := k_max N (nI 0) (nI 0); rw [mx_n (by decide) (by decide)] at h9; exact h9) ?_
    refine r_istore_n (ls' := [(2, .int (nI 0)), (0, .ref b), (1, .int (nI v)), (3, .int (nI n))]) (by decide) rfl dc_22_22_14 ?_
    refine r_iload_n rfl dc_22_22_15 ?_
    refine r_aload_n rfl dc_22_22_16 ?_
    refine x_len (n := n) ⟨by omega, by omega⟩ hB dc_22_22_17 ?_
    refine h_callS (as := [.int (nI n), .int (nI n)]) (rest := []) (v := .int (nI n)) rfl rfl iv_23_s38 (Or.inl rfl) na_0_37 rfl (show (0 : Nat) ≤ 8 by decide) dc_22_22_18 (by have h9 := k_min N (nI n) (nI n); rw [mn_n (by omega) (by omega), Nat.min_self] at h9; exact h9) ?_
    refine r_istore_n (ls' := [(3, .int (nI n)), (2, .int (nI 0)), (0, .ref b), (1, .int (nI v))]) (by decide) rfl dc_22_22_21 ?_
    refine r_iload_n rfl dc_22_22_22 ?_
    refine r_iload_n rfl dc_22_22_23 ?_
    refine r_nclt (t := 29) (by omega) (by omega) (by decide) dc_22_22_24 (fun c_24 => ?_) (fun c_24 => ?_)
    · skip
      refine r_aload_n rfl dc_22_22_29 ?_
      refine r_iload_n rfl dc_22_22_30 ?_
      refine r_iload_n rfl dc_22_22_31 ?_
      refine r_iload_n rfl dc_22_22_32 ?_
      refine h_callS (as := [.ref b, .int (nI v), .int (nI 0), .int (nI n)]) (rest := []) (v := .int (sp_at F ((nI v).toInt8.toInt32) n)) rfl rfl iv_23_s95 (Or.inl rfl) na_0_66 rfl (show (0 : Nat) ≤ 8 by decide) dc_22_22_33 (x_ixC N a b n F ha hb hS hB hn v hv) ?_
      exact r_iret rfl dc_22_22_36 (rfl)
    · omega
  · exact absurd c_4 (by decide)
set_option maxHeartbeats 4000000 in
theorem x_ix2 (N : mH) (a b n : Nat) (F : Nat → Int32) (ha : 1000002 ≤ a ∧ a ≤ 1000004) (hb : 1000005 ≤ b ∧ b ≤ 1000007) (hS : N.2.2 a = .inr (22, [.ref b, .int 0])) (hB : N.2.2 b = .inl (1, n, .inl F)) (hn : n ≤ 4) (hn0 : 0 < n) (v : Nat) (hv : v < 256) : mm_Ev 3 60 [.ref a, .int (nI v), .int (nI 0)] (N) ((some (.int (sp_at F ((nI v).toInt8.toInt32) n)), N)) := by
  refine r_ev (by decide +kernel) (show (3 : Nat) ≤ mm_nL 60 by decide +kernel) ?_
  show mm_Ru 2 (22, 3, false, prog_21_method_80_code, some .int) 0 [(0, .ref a), (1, .int (nI v)), (2, .int (nI 0))] [] (N) (fun r9 => r9 = ((some (.int (sp_at F ((nI v).toInt8.toInt32) n)), N)))
  refine r_aload_n rfl dc_21_80_0 ?_
  refine x_call (as := []) (rest := []) (v := .int (nI 1)) (M1 := N) iv_22_v492 na_1_61 o_61 ⟨by omega, by omega⟩ hS rfl (show (0 : Nat) ≤ 8 by decide) dc_21_80_1 (mm_Ev_up (by decide : 1 ≤ 2) (x_isL1 N a b n F ha hb hS hB hn)) ?_
  refine r_ifeq (t := 23) (by decide) dc_21_80_4 (fun c_4 => ?_) (fun c_4 => ?_)
  · exact absurd c_4 (by decide)
  · skip
    refine r_aload_n rfl dc_21_80_7 ?_
    refine x_gs (v := .ref b) (by decide +kernel) (by unfold mm_gs; rw [if_pos ⟨rfl, by unfold mm_sta; simp; omega⟩, hS]; rfl) dc_21_80_8 ?_
    refine r_iload_n rfl dc_21_80_11 ?_
    refine r_iload_n rfl dc_21_80_12 ?_
    refine r_aload_n rfl dc_21_80_13 ?_
    refine x_call (as := []) (rest := [.int (nI 0), .int (nI v), .ref b]) (v := .int (nI n)) (M1 := N) iv_22_v505 na_1_62 o_62 ⟨by omega, by omega⟩ hS rfl (show (3 : Nat) ≤ 8 by decide) dc_21_80_14 (x_slen N a b n F ha hb hS hB hn) ?_
    refine h_callS (as := [.ref b, .int (nI v), .int (nI 0), .int (nI n)]) (rest := []) (v := .int (sp_at F ((nI v).toInt8.toInt32) n)) rfl rfl iv_22_s637 (Or.inl rfl) na_0_64 rfl (show (0 : Nat) ≤ 8 by decide) dc_21_80_17 (x_ixL N a b n F ha hb hS hB hn hn0 v hv) ?_
    refine r_goto (t := 36) (by decide) dc_21_80_20 ?_
    exact r_iret rfl dc_21_80_36 (rfl)
set_option maxHeartbeats 4000000 in
theorem x_ix1 (N : mH) (a b n : Nat) (F : Nat → Int32) (ha : 1000002 ≤ a ∧ a ≤ 1000004) (hb : 1000005 ≤ b ∧ b ≤ 1000007) (hS : N.2.2 a = .inr (22, [.ref b, .int 0])) (hB : N.2.2 b = .inl (1, n, .inl F)) (hn : n ≤ 4) (hn0 : 0 < n) (v : Nat) (hv : v < 256) : mm_Ev 4 59 [.ref a, .int (nI v)] (N) ((some (.int (sp_at F ((nI v).toInt8.toInt32) n)), N)) := by
  refine r_ev (by decide +kernel) (show (2 : Nat) ≤ mm_nL 59 by decide +kernel) ?_
  show mm_Ru 3 (22, 2, false, prog_21_method_79_code, some .int) 0 [(0, .ref a), (1, .int (nI v))] [] (N) (fun r9 => r9 = ((some (.int (sp_at F ((nI v).toInt8.toInt32) n)), N)))
  refine r_aload_n rfl dc_21_79_0 ?_
  refine r_iload_n rfl dc_21_79_1 ?_
  refine r_iconst (v := nI 0) (by decide) dc_21_79_2 ?_
  refine x_call (as := [.int (nI v), .int (nI 0)]) (rest := []) (v := .int (sp_at F ((nI v).toInt8.toInt32) n)) (M1 := N) iv_22_v633 na_1_60 o_60 ⟨by omega, by omega⟩ hS rfl (show (0 : Nat) ≤ 8 by decide) dc_21_79_3 (x_ix2 N a b n F ha hb hS hB hn hn0 v hv) ?_
  exact r_iret rfl dc_21_79_6 (rfl)
