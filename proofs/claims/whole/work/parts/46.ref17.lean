/-! the reference: bytes and numbers -/
theorem dc_14_15_0 : decode prog_14_method_15_code 0 = .ok (.aload_n 0, 1) := by decide +kernel
theorem dc_14_15_1 : decode prog_14_method_15_code 1 = .ok (.getfield 216, 3) := by decide +kernel
theorem dc_14_15_4 : decode prog_14_method_15_code 4 = .ok (.aload_n 0, 1) := by decide +kernel
theorem dc_14_15_5 : decode prog_14_method_15_code 5 = .ok (.getfield 219, 3) := by decide +kernel
theorem dc_14_15_8 : decode prog_14_method_15_code 8 = .ok (.if_icmp .ge 19, 3) := by decide +kernel
theorem dc_14_15_11 : decode prog_14_method_15_code 11 = .ok (.aload_n 0, 1) := by decide +kernel
theorem dc_14_15_12 : decode prog_14_method_15_code 12 = .ok (.getfield 59, 3) := by decide +kernel
theorem dc_14_15_15 : decode prog_14_method_15_code 15 = .ok (.aload_n 0, 1) := by decide +kernel
theorem dc_14_15_16 : decode prog_14_method_15_code 16 = .ok (.getfield 216, 3) := by decide +kernel
theorem dc_14_15_19 : decode prog_14_method_15_code 19 = .ok (.baload, 1) := by decide +kernel
theorem dc_14_15_20 : decode prog_14_method_15_code 20 = .ok (.sipush 255, 3) := by decide +kernel
theorem dc_14_15_23 : decode prog_14_method_15_code 23 = .ok (.iand, 1) := by decide +kernel
theorem dc_14_15_24 : decode prog_14_method_15_code 24 = .ok (.goto 4, 3) := by decide +kernel
theorem dc_14_15_27 : decode prog_14_method_15_code 27 = .ok (.iconst 0, 1) := by decide +kernel
theorem dc_14_15_28 : decode prog_14_method_15_code 28 = .ok (.ireturn, 1) := by decide +kernel
theorem dc_14_16_0 : decode prog_14_method_16_code 0 = .ok (.aload_n 0, 1) := by decide +kernel
theorem dc_14_16_1 : decode prog_14_method_16_code 1 = .ok (.invokevirtual 222, 3) := by decide +kernel
theorem dc_14_16_4 : decode prog_14_method_16_code 4 = .ok (.bipush 48, 2) := by decide +kernel
theorem dc_14_16_6 : decode prog_14_method_16_code 6 = .ok (.if_icmp .lt 16, 3) := by decide +kernel
theorem dc_14_16_9 : decode prog_14_method_16_code 9 = .ok (.aload_n 0, 1) := by decide +kernel
theorem dc_14_16_10 : decode prog_14_method_16_code 10 = .ok (.invokevirtual 222, 3) := by decide +kernel
theorem dc_14_16_13 : decode prog_14_method_16_code 13 = .ok (.bipush 57, 2) := by decide +kernel
theorem dc_14_16_15 : decode prog_14_method_16_code 15 = .ok (.if_icmp .gt 7, 3) := by decide +kernel
theorem dc_14_16_18 : decode prog_14_method_16_code 18 = .ok (.iconst 1, 1) := by decide +kernel
theorem dc_14_16_19 : decode prog_14_method_16_code 19 = .ok (.goto 4, 3) := by decide +kernel
theorem dc_14_16_22 : decode prog_14_method_16_code 22 = .ok (.iconst 0, 1) := by decide +kernel
theorem dc_14_16_23 : decode prog_14_method_16_code 23 = .ok (.ireturn, 1) := by decide +kernel
theorem dc_14_17_0 : decode prog_14_method_17_code 0 = .ok (.aload_n 0, 1) := by decide +kernel
theorem dc_14_17_1 : decode prog_14_method_17_code 1 = .ok (.bipush (-100), 2) := by decide +kernel
theorem dc_14_17_3 : decode prog_14_method_17_code 3 = .ok (.iload_n 1, 1) := by decide +kernel
theorem dc_14_17_4 : decode prog_14_method_17_code 4 = .ok (.imul, 1) := by decide +kernel
theorem dc_14_17_5 : decode prog_14_method_17_code 5 = .ok (.iload_n 2, 1) := by decide +kernel
theorem dc_14_17_6 : decode prog_14_method_17_code 6 = .ok (.isub, 1) := by decide +kernel
theorem dc_14_17_7 : decode prog_14_method_17_code 7 = .ok (.putfield 226, 3) := by decide +kernel
theorem dc_14_17_10 : decode prog_14_method_17_code 10 = .ok (.iconst 0, 1) := by decide +kernel
theorem dc_14_17_11 : decode prog_14_method_17_code 11 = .ok (.ireturn, 1) := by decide +kernel
theorem dc_14_18_0 : decode prog_14_method_18_code 0 = .ok (.aload_n 0, 1) := by decide +kernel
theorem dc_14_18_1 : decode prog_14_method_18_code 1 = .ok (.getfield 216, 3) := by decide +kernel
theorem dc_14_18_4 : decode prog_14_method_18_code 4 = .ok (.istore_n 3, 1) := by decide +kernel
theorem dc_14_18_5 : decode prog_14_method_18_code 5 = .ok (.aload_n 0, 1) := by decide +kernel
theorem dc_14_18_6 : decode prog_14_method_18_code 6 = .ok (.iconst 0, 1) := by decide +kernel
theorem dc_14_18_7 : decode prog_14_method_18_code 7 = .ok (.putfield 229, 3) := by decide +kernel
theorem dc_14_18_10 : decode prog_14_method_18_code 10 = .ok (.aload_n 0, 1) := by decide +kernel
theorem dc_14_18_11 : decode prog_14_method_18_code 11 = .ok (.invokevirtual 232, 3) := by decide +kernel
theorem dc_14_18_14 : decode prog_14_method_18_code 14 = .ok (.ifCond .ne 13, 3) := by decide +kernel
theorem dc_14_18_17 : decode prog_14_method_18_code 17 = .ok (.aload_n 0, 1) := by decide +kernel
theorem dc_14_18_18 : decode prog_14_method_18_code 18 = .ok (.iconst 1, 1) := by decide +kernel
theorem dc_14_18_19 : decode prog_14_method_18_code 19 = .ok (.aload_n 0, 1) := by decide +kernel
theorem dc_14_18_20 : decode prog_14_method_18_code 20 = .ok (.getfield 216, 3) := by decide +kernel
theorem dc_14_18_23 : decode prog_14_method_18_code 23 = .ok (.invokevirtual 236, 3) := by decide +kernel
theorem dc_14_18_26 : decode prog_14_method_18_code 26 = .ok (.ireturn, 1) := by decide +kernel
theorem dc_14_18_27 : decode prog_14_method_18_code 27 = .ok (.aload_n 0, 1) := by decide +kernel
theorem dc_14_18_28 : decode prog_14_method_18_code 28 = .ok (.invokevirtual 232, 3) := by decide +kernel
theorem dc_14_18_31 : decode prog_14_method_18_code 31 = .ok (.ifCond .eq 55, 3) := by decide +kernel
theorem dc_14_18_34 : decode prog_14_method_18_code 34 = .ok (.aload_n 0, 1) := by decide +kernel
theorem dc_14_18_35 : decode prog_14_method_18_code 35 = .ok (.getfield 216, 3) := by decide +kernel
theorem dc_14_18_38 : decode prog_14_method_18_code 38 = .ok (.iload_n 3, 1) := by decide +kernel
theorem dc_14_18_39 : decode prog_14_method_18_code 39 = .ok (.iconst 4, 1) := by decide +kernel
theorem dc_14_18_40 : decode prog_14_method_18_code 40 = .ok (.iadd, 1) := by decide +kernel
theorem dc_14_18_41 : decode prog_14_method_18_code 41 = .ok (.if_icmp .ne 13, 3) := by decide +kernel
theorem dc_14_18_44 : decode prog_14_method_18_code 44 = .ok (.aload_n 0, 1) := by decide +kernel
theorem dc_14_18_45 : decode prog_14_method_18_code 45 = .ok (.iconst 1, 1) := by decide +kernel
theorem dc_14_18_46 : decode prog_14_method_18_code 46 = .ok (.aload_n 0, 1) := by decide +kernel
theorem dc_14_18_47 : decode prog_14_method_18_code 47 = .ok (.getfield 216, 3) := by decide +kernel
theorem dc_14_18_50 : decode prog_14_method_18_code 50 = .ok (.invokevirtual 236, 3) := by decide +kernel
theorem dc_14_18_53 : decode prog_14_method_18_code 53 = .ok (.ireturn, 1) := by decide +kernel
theorem dc_14_18_54 : decode prog_14_method_18_code 54 = .ok (.aload_n 0, 1) := by decide +kernel
theorem dc_14_18_55 : decode prog_14_method_18_code 55 = .ok (.bipush 10, 2) := by decide +kernel
theorem dc_14_18_57 : decode prog_14_method_18_code 57 = .ok (.aload_n 0, 1) := by decide +kernel
theorem dc_14_18_58 : decode prog_14_method_18_code 58 = .ok (.getfield 229, 3) := by decide +kernel
theorem dc_14_18_61 : decode prog_14_method_18_code 61 = .ok (.imul, 1) := by decide +kernel
theorem dc_14_18_62 : decode prog_14_method_18_code 62 = .ok (.aload_n 0, 1) := by decide +kernel
theorem dc_14_18_63 : decode prog_14_method_18_code 63 = .ok (.invokevirtual 222, 3) := by decide +kernel
theorem dc_14_18_66 : decode prog_14_method_18_code 66 = .ok (.iadd, 1) := by decide +kernel
theorem dc_14_18_67 : decode prog_14_method_18_code 67 = .ok (.bipush 48, 2) := by decide +kernel
theorem dc_14_18_69 : decode prog_14_method_18_code 69 = .ok (.isub, 1) := by decide +kernel
theorem dc_14_18_70 : decode prog_14_method_18_code 70 = .ok (.putfield 229, 3) := by decide +kernel
theorem dc_14_18_73 : decode prog_14_method_18_code 73 = .ok (.aload_n 0, 1) := by decide +kernel
theorem dc_14_18_74 : decode prog_14_method_18_code 74 = .ok (.aload_n 0, 1) := by decide +kernel
theorem dc_14_18_75 : decode prog_14_method_18_code 75 = .ok (.getfield 216, 3) := by decide +kernel
theorem dc_14_18_78 : decode prog_14_method_18_code 78 = .ok (.iconst 1, 1) := by decide +kernel
theorem dc_14_18_79 : decode prog_14_method_18_code 79 = .ok (.iadd, 1) := by decide +kernel
theorem dc_14_18_80 : decode prog_14_method_18_code 80 = .ok (.putfield 216, 3) := by decide +kernel
theorem dc_14_18_83 : decode prog_14_method_18_code 83 = .ok (.goto (-56), 3) := by decide +kernel
theorem dc_14_18_86 : decode prog_14_method_18_code 86 = .ok (.aload_n 0, 1) := by decide +kernel
theorem dc_14_18_87 : decode prog_14_method_18_code 87 = .ok (.getfield 229, 3) := by decide +kernel
theorem dc_14_18_90 : decode prog_14_method_18_code 90 = .ok (.iload_n 1, 1) := by decide +kernel
theorem dc_14_18_91 : decode prog_14_method_18_code 91 = .ok (.iload_n 2, 1) := by decide +kernel
theorem dc_14_18_92 : decode prog_14_method_18_code 92 = .ok (.invokestatic 180, 3) := by decide +kernel
theorem dc_14_18_95 : decode prog_14_method_18_code 95 = .ok (.ifCond .ne 12, 3) := by decide +kernel
theorem dc_14_18_98 : decode prog_14_method_18_code 98 = .ok (.aload_n 0, 1) := by decide +kernel
theorem dc_14_18_99 : decode prog_14_method_18_code 99 = .ok (.iconst 2, 1) := by decide +kernel
theorem dc_14_18_100 : decode prog_14_method_18_code 100 = .ok (.iload_n 3, 1) := by decide +kernel
theorem dc_14_18_101 : decode prog_14_method_18_code 101 = .ok (.invokevirtual 236, 3) := by decide +kernel
theorem dc_14_18_104 : decode prog_14_method_18_code 104 = .ok (.ifCond .eq 7, 3) := by decide +kernel
theorem dc_14_18_107 : decode prog_14_method_18_code 107 = .ok (.iconst 1, 1) := by decide +kernel
theorem dc_14_18_108 : decode prog_14_method_18_code 108 = .ok (.goto 4, 3) := by decide +kernel
theorem dc_14_18_111 : decode prog_14_method_18_code 111 = .ok (.iconst 0, 1) := by decide +kernel
theorem dc_14_18_112 : decode prog_14_method_18_code 112 = .ok (.ireturn, 1) := by decide +kernel
theorem iv_13_v222 : mm_iv 13 (.invokevirtual 222) = some (1, 201) := by decide +kernel
theorem iv_13_v232 : mm_iv 13 (.invokevirtual 232) = some (1, 207) := by decide +kernel
theorem iv_13_v236 : mm_iv 13 (.invokevirtual 236) = some (1, 203) := by decide +kernel
theorem o_201 : mm_o 201 = 13 := by decide +kernel
theorem o_203 : mm_o 203 = 13 := by decide +kernel
theorem o_207 : mm_o 207 = 13 := by decide +kernel
theorem na_1_201 : mm_nas 1 201 = 1 := by decide +kernel
theorem na_1_203 : mm_nas 1 203 = 3 := by decide +kernel
theorem na_1_207 : mm_nas 1 207 = 1 := by decide +kernel
/-- the byte at a place of the TEXT -/
def chr (sg : Nat → Nat → Int32) (sz p : Nat) : Nat := if p < sz then (sg 22 p).toBitVec.toNat % 256 else 0
theorem chr_lt (sg : Nat → Nat → Int32) (sz p : Nat) : chr sg sz p < 256 := by
  unfold chr
  split
  · exact Nat.mod_lt _ (by decide)
  · decide
theorem chr_in {sg : Nat → Nat → Int32} {sz p : Nat} (h : ¬ chr sg sz p = 0) : p < sz := by
  unfold chr at h
  split at h
  · assumption
  · exact absurd rfl h
def dg9 (c : Nat) : Prop := 48 ≤ c ∧ c ≤ 57
noncomputable def dgk (c : Nat → Nat) (p : Nat) : Nat → Nat
  | 0 => 0
  | k + 1 => @ite _ (dg9 (c p)) (Classical.propDecidable _) (dgk c (p + 1) k + 1) 0
theorem dgk_of {c : Nat → Nat} : ∀ {N k p : Nat}, k ≤ N → (∀ j, j < k → dg9 (c (p + j))) → (k < N → ¬ dg9 (c (p + k))) → dgk c p N = k
  | 0, k, p, h, _, _ => (Nat.le_zero.mp h).symm
  | N + 1, 0, p, _, _, h => if_neg (h (Nat.succ_pos N))
  | N + 1, k + 1, p, h, h1, h2 => by
    refine (if_pos (h1 0 (Nat.succ_pos k))).trans (congrArg (· + 1) (dgk_of (by omega) (fun j hj => ?_) (fun hk => ?_)))
    · have := h1 (j + 1) (by omega)
      rwa [show p + (j + 1) = p + 1 + j by omega] at this
    · have := h2 (by omega)
      rwa [show p + (k + 1) = p + 1 + k by omega] at this
def vnk (c : Nat → Nat) (p : Nat) : Nat → Nat
  | 0 => 0
  | k + 1 => 10 * vnk c p k + (c (p + k) - 48)
noncomputable def rn (c : Nat → Nat) (p lo hi : Nat) : Except Nat (Nat × Nat) := if dgk c p 5 = 0 then .error (100 + p) else if dgk c p 5 = 5 then .error (100 + (p + 4)) else if lo ≤ vnk c p (dgk c p 5) ∧ vnk c p (dgk c p 5) ≤ hi then .ok (vnk c p (dgk c p 5), p + dgk c p 5) else .error (200 + p)
def rnP (io : Nat → Int32) (R : Except Nat (Nat × Nat)) (io2 : Nat → Int32) (r : Int32) : Prop := (∀ k, ¬ k = 24 → ¬ k = 26 → ¬ k = 47 → io2 k = io k) ∧ ((∃ v e, R = .ok (v, e) ∧ r = nI 1 ∧ io2 24 = nI e ∧ io2 47 = nI v ∧ io2 26 = io 26) ∨ (∃ f, R = .error f ∧ r = nI 0 ∧ io2 26 = -nI f))
theorem vnk_lt (c : Nat → Nat) (hc : ∀ j, c j < 256) (p : Nat) : vnk c p 1 ≤ 207 ∧ vnk c p 2 ≤ 2277 ∧ vnk c p 3 ≤ 22977 ∧ vnk c p 4 ≤ 229977 := by
  have h0 := hc (p + 0)
  have h1 := hc (p + 1)
  have h2 := hc (p + 2)
  have h3 := hc (p + 3)
  simp only [vnk]
  omega
theorem flt (k p : Nat) : -nI 100 * nI k - nI p = -nI (100 * k + p) := by
  rw [← nI_add, ← pk_mul, Int32.neg_add, Int32.neg_mul, Int32.sub_eq_add_neg]
set_option maxHeartbeats 4000000 in
theorem c_sign (M : mH) (hM : 157 ≤ M.1) (io : Nat → Int32) (sg : Nat → Nat → Int32) (p sz : Nat) (h24 : io 24 = nI p) (h25 : io 25 = nI sz) (hp : p ≤ 80) (hsz : sz ≤ 80) : mm_Ev 1 201 [.ref 100] (rf_mk M io sg) ((some (.int (nI (chr sg sz p))), rf_mk M io sg)) := by
  refine r_ev (by decide +kernel) (show (1 : Nat) ≤ mm_nL 201 by decide +kernel) ?_
  show mm_Ru 0 (13, 1, false, prog_14_method_15_code, some .int) 0 [(0, .ref 100)] [] (rf_mk M io sg) (fun r9 => r9 = ((some (.int (nI (chr sg sz p))), rf_mk M io sg)))
  refine r_aload_n rfl dc_14_15_0 ?_
  refine q_get (v := .int (nI p)) rx_216 hM (congrArg (fun z => some (Value.int z)) (h24)) dc_14_15_1 ?_
  refine r_aload_n rfl dc_14_15_4 ?_
  refine q_get (v := .int (nI sz)) rx_219 hM (congrArg (fun z => some (Value.int z)) (h25)) dc_14_15_5 ?_
  refine r_ncge (t := 27) (by omega) (by omega) (by decide) dc_14_15_8 (fun c_8 => ?_) (fun c_8 => ?_)
  · skip
    refine r_iconst (v := nI 0) (by decide) dc_14_15_27 ?_
    refine r_iret rfl dc_14_15_28 ?_
    unfold chr
    rw [if_neg (by omega)]
  · skip
    refine r_aload_n rfl dc_14_15_11 ?_
    refine q_get (v := .ref 117) rx_59 hM rfl dc_14_15_12 ?_
    refine r_aload_n rfl dc_14_15_15 ?_
    refine q_get (v := .int (nI p)) rx_216 hM (congrArg (fun z => some (Value.int z)) (h24)) dc_14_15_16 ?_
    refine q_bld (e := p) (v := sg 22 p) (by decide) (by decide) hM rfl (show p < 80 by omega) (by omega) (rfl) dc_14_15_19 ?_
    refine r_sipush (v := nI 255) (by decide) dc_14_15_20 ?_
    refine r_iand (v := nI ((sg 22 p).toBitVec.toNat % 256)) (pk_and _ 8 (by decide)) dc_14_15_23 ?_
    refine r_goto (t := 28) (by decide) dc_14_15_24 ?_
    refine r_iret rfl dc_14_15_28 ?_
    unfold chr
    rw [if_pos c_8]
set_option maxHeartbeats 4000000 in
theorem c_isDigit (M : mH) (hM : 157 ≤ M.1) (io : Nat → Int32) (sg : Nat → Nat → Int32) (p sz : Nat) (h24 : io 24 = nI p) (h25 : io 25 = nI sz) (hp : p ≤ 80) (hsz : sz ≤ 80) : mm_Ev 2 207 [.ref 100] (rf_mk M io sg) ((some (.int (pI (dg9 (chr sg sz p)))), rf_mk M io sg)) := by
  refine r_ev (by decide +kernel) (show (1 : Nat) ≤ mm_nL 207 by decide +kernel) ?_
  have hlt := chr_lt sg sz p
  show mm_Ru 1 (13, 1, false, prog_14_method_16_code, some .boolean) 0 [(0, .ref 100)] [] (rf_mk M io sg) (fun r9 => r9 = ((some (.int (pI (dg9 (chr sg sz p)))), rf_mk M io sg)))
  refine r_aload_n rfl dc_14_16_0 ?_
  refine q_calli (as := []) (rest := []) (v := .int (nI (chr sg sz p))) (M1 := rf_mk M io sg) iv_13_v222 na_1_201 o_201 hM rfl (show (0 : Nat) ≤ 8 by decide) dc_14_16_1 (c_sign M hM io sg p sz h24 h25 hp hsz) ?_
  refine r_bipush (v := nI 48) (by decide) dc_14_16_4 ?_
  refine r_nclt (t := 22) (by omega) (by omega) (by decide) dc_14_16_6 (fun c_6 => ?_) (fun c_6 => ?_)
  · skip
    refine r_iconst (v := nI 0) (by decide) dc_14_16_22 ?_
    refine r_zret rfl (by decide) dc_14_16_23 ?_
    rw [pI_f (P := dg9 (chr sg sz p)) (fun z => by have := z.1; have := z.2; omega)]
  · skip
    refine r_aload_n rfl dc_14_16_9 ?_
    refine q_calli (as := []) (rest := []) (v := .int (nI (chr sg sz p))) (M1 := rf_mk M io sg) iv_13_v222 na_1_201 o_201 hM rfl (show (0 : Nat) ≤ 8 by decide) dc_14_16_10 (c_sign M hM io sg p sz h24 h25 hp hsz) ?_
    refine r_bipush (v := nI 57) (by decide) dc_14_16_13 ?_
    refine r_ncgt (t := 22) (by omega) (by omega) (by decide) dc_14_16_15 (fun c_15 => ?_) (fun c_15 => ?_)
    · skip
      refine r_iconst (v := nI 0) (by decide) dc_14_16_22 ?_
      refine r_zret rfl (by decide) dc_14_16_23 ?_
      rw [pI_f (P := dg9 (chr sg sz p)) (fun z => by have := z.1; have := z.2; omega)]
    · skip
      refine r_iconst (v := nI 1) (by decide) dc_14_16_18 ?_
      refine r_goto (t := 23) (by decide) dc_14_16_19 ?_
      refine r_zret rfl (by decide) dc_14_16_23 ?_
      rw [pI_t (P := dg9 (chr sg sz p)) ⟨by omega, by omega⟩]
set_option maxHeartbeats 4000000 in
theorem c_wrong (M : mH) (hM : 157 ≤ M.1) (io : Nat → Int32) (sg : Nat → Nat → Int32) (k p : Nat) : mm_Ev 1 203 [.ref 100, .int (nI k), .int (nI p)] (rf_mk M io sg) ((some (.int (nI 0)), rf_mk M (va_up io 26 (-nI (100 * k + p))) sg)) := by
  refine r_ev (by decide +kernel) (show (3 : Nat) ≤ mm_nL 203 by decide +kernel) ?_
  show mm_Ru 0 (13, 3, false, prog_14_method_17_code, some .boolean) 0 [(0, .ref 100), (1, .int (nI k)), (2, .int (nI p))] [] (rf_mk M io sg) (fun r9 => r9 = ((some (.int (nI 0)), rf_mk M (va_up io 26 (-nI (100 * k + p))) sg)))
  refine r_aload_n rfl dc_14_17_0 ?_
  refine r_bipush (v := -nI 100) (by decide) dc_14_17_1 ?_
  refine r_iload_n rfl dc_14_17_3 ?_
  refine r_imul (v := -nI 100 * nI k) (rfl) dc_14_17_4 ?_
  refine r_iload_n rfl dc_14_17_5 ?_
  refine r_isub (v := -nI (100 * k + p)) (flt k p) dc_14_17_6 ?_
  refine q_put rx_226 (by decide +kernel) (by decide +kernel) (by decide) (rs_26 _) hM dc_14_17_7 ?_
  refine r_iconst (v := nI 0) (by decide) dc_14_17_10 ?_
  exact r_zret rfl (by decide) dc_14_17_11 (rfl)
set_option maxHeartbeats 4000000 in
theorem c_readsNumber (M : mH) (hM : 157 ≤ M.1) (io : Nat → Int32) (sg : Nat → Nat → Int32) (p sz : Nat) (h24 : io 24 = nI p) (h25 : io 25 = nI sz) (hp : p ≤ 70) (hsz : sz ≤ 80) (lo hi : Nat) (hlo : lo ≤ 99999) (hhi : hi ≤ 99999) : ∃ (io2 : Nat → Int32), ∃ (r : Int32), (rnP io (rn (chr sg sz) p lo hi) io2 r) ∧ mm_Ev 3 206 [.ref 100, .int (nI lo), .int (nI hi)] (rf_mk M io sg) ((some (.int r), rf_mk M io2 sg)) := by
  have hq9 : ∃ z, (fun r9 => ∃ (io2 : Nat → Int32), ∃ (r : Int32), (rnP io (rn (chr sg sz) p lo hi) io2 r) ∧ r9 = ((some (.int r), rf_mk M io2 sg))) z ∧ mm_Ev 3 206 [.ref 100, .int (nI lo), .int (nI hi)] (rf_mk M io sg) z := by
    refine r_evQ (by decide +kernel) (show (3 : Nat) ≤ mm_nL 206 by decide +kernel) ?_
    have hvn := vnk_lt (chr sg sz) (chr_lt sg sz) p
    have hv0 : vnk (chr sg sz) p 0 = 0 := rfl
    show mm_Ru 2 (13, 4, false, prog_14_method_18_code, some .boolean) 0 [(0, .ref 100), (1, .int (nI lo)), (2, .int (nI hi))] [] (rf_mk M io sg) (fun r9 => ∃ (io2 : Nat → Int32), ∃ (r : Int32), (rnP io (rn (chr sg sz) p lo hi) io2 r) ∧ r9 = ((some (.int r), rf_mk M io2 sg)))
    refine r_aload_n rfl dc_14_18_0 ?_
    refine q_get (v := .int (nI p)) rx_216 hM (congrArg (fun z => some (Value.int z)) (h24)) dc_14_18_1 ?_
    refine r_istore_n (ls' := [(3, .int (nI p)), (0, .ref 100), (1, .int (nI lo)), (2, .int (nI hi))]) (by decide) rfl dc_14_18_4 ?_
    refine r_aload_n rfl dc_14_18_5 ?_
    refine r_iconst (v := nI 0) (by decide) dc_14_18_6 ?_
    refine q_put rx_229 (by decide +kernel) (by decide +kernel) (by decide) (rs_47 _) hM dc_14_18_7 ?_
    refine r_aload_n rfl dc_14_18_10 ?_
    refine q_calli (as := []) (rest := []) (v := .int (pI (dg9 (chr sg sz (p))))) (M1 := rf_mk M (va_up io 47 (nI 0)) sg) iv_13_v232 na_1_207 o_207 hM rfl (show (0 : Nat) ≤ 8 by decide) dc_14_18_11 (c_isDigit M hM (va_up io 47 (nI 0)) sg (p) sz h24 h25 (by omega) hsz) ?_
    refine r_ifne (t := 27) (by decide) dc_14_18_14 (fun c_14 => ?_) (fun c_14 => ?_)
    · have hd0 := pI_ne c_14
      refine r_aload_n rfl dc_14_18_27 ?_
      have hlt0 := chr_lt sg sz (p)
      have hin0 : dg9 (chr sg sz (p)) → p < sz := fun z => chr_in (sg := sg) (fun y => by have := z.1; omega)
      refine q_calli (as := []) (rest := []) (v := .int (pI (dg9 (chr sg sz (p))))) (M1 := rf_mk M (va_up io 47 (nI 0)) sg) iv_13_v232 na_1_207 o_207 hM rfl (show (0 : Nat) ≤ 8 by decide) dc_14_18_28 (c_isDigit M hM (va_up io 47 (nI 0)) sg (p) sz h24 h25 (by omega) hsz) ?_
      refine r_ifeq (t := 86) (by decide) dc_14_18_31 (fun c_31_0 => ?_) (fun c_31_0 => ?_)
      · exact absurd hd0 (pI_eq0 c_31_0)
      · skip
        have hd0 := pI_ne c_31_0
        have hl0 := hin0 hd0
        have hD0 := hd0
        unfold dg9 at hD0
        refine r_aload_n rfl dc_14_18_34 ?_
        refine q_get (v := .int (nI p)) rx_216 hM (congrArg (fun z => some (Value.int z)) (h24)) dc_14_18_35 ?_
        refine r_iload_n rfl dc_14_18_38 ?_
        refine r_iconst (v := nI 4) (by decide) dc_14_18_39 ?_
        refine r_iadd (v := nI (p + 4)) (nI_add _ _) dc_14_18_40 ?_
        refine r_ncne (t := 54) (by omega) (by omega) (by decide) dc_14_18_41 (fun c_41_0 => ?_) (fun c_41_0 => ?_)
        · skip
          refine r_aload_n rfl dc_14_18_54 ?_
          refine r_bipush (v := nI 10) (by decide) dc_14_18_55 ?_
          refine r_aload_n rfl dc_14_18_57 ?_
          refine q_get (v := .int (nI (vnk (chr sg sz) p 0))) rx_229 hM rfl dc_14_18_58 ?_
          refine r_imul (v := nI (10 * vnk (chr sg sz) p 0)) (pk_mul _ _) dc_14_18_61 ?_
          refine r_aload_n rfl dc_14_18_62 ?_
          refine q_calli (as := []) (rest := [.int (nI (10 * vnk (chr sg sz) p 0)), .ref 100]) (v := .int (nI (chr sg sz (p)))) (M1 := rf_mk M (va_up io 47 (nI 0)) sg) iv_13_v222 na_1_201 o_201 hM rfl (show (2 : Nat) ≤ 8 by decide) dc_14_18_63 (mm_Ev_up (by decide : 1 ≤ 2) (c_sign M hM (va_up io 47 (nI 0)) sg (p) sz h24 h25 (by omega) hsz)) ?_
          refine r_iadd (v := nI (10 * vnk (chr sg sz) p 0 + chr sg sz (p))) (nI_add _ _) dc_14_18_66 ?_
          refine r_bipush (v := nI 48) (by decide) dc_14_18_67 ?_
          refine r_isub (v := nI (vnk (chr sg sz) p 1)) ((pk_sub (by omega)).trans (congrArg nI (by show _ = 10 * vnk (chr sg sz) p 0 + (chr sg sz (p + 0) - 48); show 10 * vnk (chr sg sz) p 0 + chr sg sz p - 48 = 10 * vnk (chr sg sz) p 0 + (chr sg sz p - 48); omega))) dc_14_18_69 ?_
          refine q_put rx_229 (by decide +kernel) (by decide +kernel) (by decide) (rs_47 _) hM dc_14_18_70 ?_
          refine r_aload_n rfl dc_14_18_73 ?_
          refine r_aload_n rfl dc_14_18_74 ?_
          refine q_get (v := .int (nI p)) rx_216 hM (congrArg (fun z => some (Value.int z)) (h24)) dc_14_18_75 ?_
          refine r_iconst (v := nI 1) (by decide) dc_14_18_78 ?_
          refine r_iadd (v := nI (p + 1)) (nI_add _ _) dc_14_18_79 ?_
          refine q_put rx_216 (by decide +kernel) (by decide +kernel) (by decide) (rs_24 _) hM dc_14_18_80 ?_
          refine r_goto (t := 27) (by decide) dc_14_18_83 ?_
          refine r_aload_n rfl dc_14_18_27 ?_
          have hlt1 := chr_lt sg sz (p + 1)
          have hin1 : dg9 (chr sg sz (p + 1)) → p + 1 < sz := fun z => chr_in (sg := sg) (fun y => by have := z.1; omega)
          refine q_calli (as := []) (rest := []) (v := .int (pI (dg9 (chr sg sz (p + 1))))) (M1 := rf_mk M (va_up (va_up (va_up io 47 (nI 0)) 47 (nI (vnk (chr sg sz) p 1))) 24 (nI (p + 1))) sg) iv_13_v232 na_1_207 o_207 hM rfl (show (0 : Nat) ≤ 8 by decide) dc_14_18_28 (c_isDigit M hM (va_up (va_up (va_up io 47 (nI 0)) 47 (nI (vnk (chr sg sz) p 1))) 24 (nI (p + 1))) sg (p + 1) sz rfl h25 (by omega) hsz) ?_
          refine r_ifeq (t := 86) (by decide) dc_14_18_31 (fun c_31_1 => ?_) (fun c_31_1 => ?_)
          · skip
            refine r_aload_n rfl dc_14_18_86 ?_
            refine q_get (v := .int (nI (vnk (chr sg sz) p 1))) rx_229 hM rfl dc_14_18_87 ?_
            refine r_iload_n rfl dc_14_18_90 ?_
            refine r_iload_n rfl dc_14_18_91 ?_
            refine q_calls (as := [.int (nI (vnk (chr sg sz) p 1)), .int (nI lo), .int (nI hi)]) (rest := []) (v := .int (sp_in (nI (vnk (chr sg sz) p 1)) (nI lo) (nI hi))) iv_13_s180 na_0_187 rfl (show (0 : Nat) ≤ 8 by decide) dc_14_18_92 (mm_Ev_up (by decide : 1 ≤ 2) (c_in _ (nI (vnk (chr sg sz) p 1)) (nI lo) (nI hi))) ?_
            refine r_ifne (t := 107) (by decide) dc_14_18_95 (fun c_95_1 => ?_) (fun c_95_1 => ?_)
            · skip
              refine r_iconst (v := nI 1) (by decide) dc_14_18_107 ?_
              refine r_goto (t := 112) (by decide) dc_14_18_108 ?_
              refine r_zret rfl (by decide) dc_14_18_112 ?_
              have hD : dgk (chr sg sz) p 5 = 1 := dgk_of (by decide) (fun j hj => by
                obtain rfl : j = 0 := by omega
                exact hd0) (fun _ => pI_eq0 c_31_1)
              have hr9 := sp_in_ne c_95_1
              have hR : rn (chr sg sz) p lo hi = .ok (vnk (chr sg sz) p 1, p + 1) := by unfold rn; rw [hD, if_neg (by decide), if_neg (by decide), if_pos ⟨(nI_leI (by omega) (by omega)).mp hr9.1, (nI_leI (by omega) (by omega)).mp hr9.2⟩]
              exact ⟨va_up (va_up (va_up io 47 (nI 0)) 47 (nI (vnk (chr sg sz) p 1))) 24 (nI (p + 1)), _, ⟨fun k h1 h2 h3 => by simp only [va_up, if_neg h1, if_neg h2, if_neg h3], Or.inl ⟨_, _, hR, rfl, rfl, rfl, rfl⟩⟩, rfl⟩
            · skip
              refine r_aload_n rfl dc_14_18_98 ?_
              refine r_iconst (v := nI 2) (by decide) dc_14_18_99 ?_
              refine r_iload_n rfl dc_14_18_100 ?_
              refine q_calli (as := [.int (nI 2), .int (nI p)]) (rest := []) (v := .int (nI 0)) (M1 := rf_mk M (va_up (va_up (va_up (va_up io 47 (nI 0)) 47 (nI (vnk (chr sg sz) p 1))) 24 (nI (p + 1))) 26 (-nI (100 * 2 + p))) sg) iv_13_v236 na_1_203 o_203 hM rfl (show (0 : Nat) ≤ 8 by decide) dc_14_18_101 (mm_Ev_up (by decide : 1 ≤ 2) (c_wrong M hM (va_up (va_up (va_up io 47 (nI 0)) 47 (nI (vnk (chr sg sz) p 1))) 24 (nI (p + 1))) sg 2 p)) ?_
              refine r_ifeq (t := 111) (by decide) dc_14_18_104 (fun c_104_1 => ?_) (fun c_104_1 => ?_)
              · skip
                refine r_iconst (v := nI 0) (by decide) dc_14_18_111 ?_
                refine r_zret rfl (by decide) dc_14_18_112 ?_
                have hD : dgk (chr sg sz) p 5 = 1 := dgk_of (by decide) (fun j hj => by
                  obtain rfl : j = 0 := by omega
                  exact hd0) (fun _ => pI_eq0 c_31_1)
                have hR : rn (chr sg sz) p lo hi = .error (200 + p) := by unfold rn; rw [hD, if_neg (by decide), if_neg (by decide), if_neg (fun z => absurd (c_95_1.symm.trans (sp_in_ok z.1 z.2 (by omega))) (by decide))]
                exact ⟨_, _, ⟨fun k h1 h2 h3 => by simp only [va_up, if_neg h1, if_neg h2, if_neg h3], Or.inr ⟨_, hR, rfl, rfl⟩⟩, rfl⟩
              · exact absurd c_104_1 (by decide)
          · skip
            have hd1 := pI_ne c_31_1
            have hl1 := hin1 hd1
            have hD1 := hd1
            unfold dg9 at hD1
            refine r_aload_n rfl dc_14_18_34 ?_
            refine q_get (v := .int (nI (p + 1))) rx_216 hM rfl dc_14_18_35 ?_
            refine r_iload_n rfl dc_14_18_38 ?_
            refine r_iconst (v := nI 4) (by decide) dc_14_18_39 ?_
            refine r_iadd (v := nI (p + 4)) (nI_add _ _) dc_14_18_40 ?_
            refine r_ncne (t := 54) (by omega) (by omega) (by decide) dc_14_18_41 (fun c_41_1 => ?_) (fun c_41_1 => ?_)
            · skip
              refine r_aload_n rfl dc_14_18_54 ?_
              refine r_bipush (v := nI 10) (by decide) dc_14_18_55 ?_
              refine r_aload_n rfl dc_14_18_57 ?_
              refine q_get (v := .int (nI (vnk (chr sg sz) p 1))) rx_229 hM rfl dc_14_18_58 ?_
              refine r_imul (v := nI (10 * vnk (chr sg sz) p 1)) (pk_mul _ _) dc_14_18_61 ?_
              refine r_aload_n rfl dc_14_18_62 ?_
              refine q_calli (as := []) (rest := [.int (nI (10 * vnk (chr sg sz) p 1)), .ref 100]) (v := .int (nI (chr sg sz (p + 1)))) (M1 := rf_mk M (va_up (va_up (va_up io 47 (nI 0)) 47 (nI (vnk (chr sg sz) p 1))) 24 (nI (p + 1))) sg) iv_13_v222 na_1_201 o_201 hM rfl (show (2 : Nat) ≤ 8 by decide) dc_14_18_63 (mm_Ev_up (by decide : 1 ≤ 2) (c_sign M hM (va_up (va_up (va_up io 47 (nI 0)) 47 (nI (vnk (chr sg sz) p 1))) 24 (nI (p + 1))) sg (p + 1) sz rfl h25 (by omega) hsz)) ?_
              refine r_iadd (v := nI (10 * vnk (chr sg sz) p 1 + chr sg sz (p + 1))) (nI_add _ _) dc_14_18_66 ?_
              refine r_bipush (v := nI 48) (by decide) dc_14_18_67 ?_
              refine r_isub (v := nI (vnk (chr sg sz) p 2)) ((pk_sub (by omega)).trans (congrArg nI (by show _ = 10 * vnk (chr sg sz) p 1 + (chr sg sz (p + 1) - 48); omega))) dc_14_18_69 ?_
              refine q_put rx_229 (by decide +kernel) (by decide +kernel) (by decide) (rs_47 _) hM dc_14_18_70 ?_
              refine r_aload_n rfl dc_14_18_73 ?_
              refine r_aload_n rfl dc_14_18_74 ?_
              refine q_get (v := .int (nI (p + 1))) rx_216 hM rfl dc_14_18_75 ?_
              refine r_iconst (v := nI 1) (by decide) dc_14_18_78 ?_
              refine r_iadd (v := nI (p + 2)) (nI_add _ _) dc_14_18_79 ?_
              refine q_put rx_216 (by decide +kernel) (by decide +kernel) (by decide) (rs_24 _) hM dc_14_18_80 ?_
              refine r_goto (t := 27) (by decide) dc_14_18_83 ?_
              refine r_aload_n rfl dc_14_18_27 ?_
              have hlt2 := chr_lt sg sz (p + 2)
              have hin2 : dg9 (chr sg sz (p + 2)) → p + 2 < sz := fun z => chr_in (sg := sg) (fun y => by have := z.1; omega)
              refine q_calli (as := []) (rest := []) (v := .int (pI (dg9 (chr sg sz (p + 2))))) (M1 := rf_mk M (va_up (va_up (va_up (va_up (va_up io 47 (nI 0)) 47 (nI (vnk (chr sg sz) p 1))) 24 (nI (p + 1))) 47 (nI (vnk (chr sg sz) p 2))) 24 (nI (p + 2))) sg) iv_13_v232 na_1_207 o_207 hM rfl (show (0 : Nat) ≤ 8 by decide) dc_14_18_28 (c_isDigit M hM (va_up (va_up (va_up (va_up (va_up io 47 (nI 0)) 47 (nI (vnk (chr sg sz) p 1))) 24 (nI (p + 1))) 47 (nI (vnk (chr sg sz) p 2))) 24 (nI (p + 2))) sg (p + 2) sz rfl h25 (by omega) hsz) ?_
              refine r_ifeq (t := 86) (by decide) dc_14_18_31 (fun c_31_2 => ?_) (fun c_31_2 => ?_)
              · skip
                refine r_aload_n rfl dc_14_18_86 ?_
                refine q_get (v := .int (nI (vnk (chr sg sz) p 2))) rx_229 hM rfl dc_14_18_87 ?_
                refine r_iload_n rfl dc_14_18_90 ?_
                refine r_iload_n rfl dc_14_18_91 ?_
                refine q_calls (as := [.int (nI (vnk (chr sg sz) p 2)), .int (nI lo), .int (nI hi)]) (rest := []) (v := .int (sp_in (nI (vnk (chr sg sz) p 2)) (nI lo) (nI hi))) iv_13_s180 na_0_187 rfl (show (0 : Nat) ≤ 8 by decide) dc_14_18_92 (mm_Ev_up (by decide : 1 ≤ 2) (c_in _ (nI (vnk (chr sg sz) p 2)) (nI lo) (nI hi))) ?_
                refine r_ifne (t := 107) (by decide) dc_14_18_95 (fun c_95_2 => ?_) (fun c_95_2 => ?_)
                · skip
                  refine r_iconst (v := nI 1) (by decide) dc_14_18_107 ?_
                  refine r_goto (t := 112) (by decide) dc_14_18_108 ?_
                  refine r_zret rfl (by decide) dc_14_18_112 ?_
                  have hD : dgk (chr sg sz) p 5 = 2 := dgk_of (by decide) (fun j hj => by
                    rcases (by omega : j = 0 ∨ j = 1) with rfl | rfl
                    · exact hd0
                    · exact hd1) (fun _ => pI_eq0 c_31_2)
                  have hr9 := sp_in_ne c_95_2
                  have hR : rn (chr sg sz) p lo hi = .ok (vnk (chr sg sz) p 2, p + 2) := by unfold rn; rw [hD, if_neg (by decide), if_neg (by decide), if_pos ⟨(nI_leI (by omega) (by omega)).mp hr9.1, (nI_leI (by omega) (by omega)).mp hr9.2⟩]
                  exact ⟨va_up (va_up (va_up (va_up (va_up io 47 (nI 0)) 47 (nI (vnk (chr sg sz) p 1))) 24 (nI (p + 1))) 47 (nI (vnk (chr sg sz) p 2))) 24 (nI (p + 2)), _, ⟨fun k h1 h2 h3 => by simp only [va_up, if_neg h1, if_neg h2, if_neg h3], Or.inl ⟨_, _, hR, rfl, rfl, rfl, rfl⟩⟩, rfl⟩
                · skip
                  refine r_aload_n rfl dc_14_18_98 ?_
                  refine r_iconst (v := nI 2) (by decide) dc_14_18_99 ?_
                  refine r_iload_n rfl dc_14_18_100 ?_
                  refine q_calli (as := [.int (nI 2), .int (nI p)]) (rest := []) (v := .int (nI 0)) (M1 := rf_mk M (va_up (va_up (va_up (va_up (va_up (va_up io 47 (nI 0)) 47 (nI (vnk (chr sg sz) p 1))) 24 (nI (p + 1))) 47 (nI (vnk (chr sg sz) p 2))) 24 (nI (p + 2))) 26 (-nI (100 * 2 + p))) sg) iv_13_v236 na_1_203 o_203 hM rfl (show (0 : Nat) ≤ 8 by decide) dc_14_18_101 (mm_Ev_up (by decide : 1 ≤ 2) (c_wrong M hM (va_up (va_up (va_up (va_up (va_up io 47 (nI 0)) 47 (nI (vnk (chr sg sz) p 1))) 24 (nI (p + 1))) 47 (nI (vnk (chr sg sz) p 2))) 24 (nI (p + 2))) sg 2 p)) ?_
                  refine r_ifeq (t := 111) (by decide) dc_14_18_104 (fun c_104_2 => ?_) (fun c_104_2 => ?_)
                  · skip
                    refine r_iconst (v := nI 0) (by decide) dc_14_18_111 ?_
                    refine r_zret rfl (by decide) dc_14_18_112 ?_
                    have hD : dgk (chr sg sz) p 5 = 2 := dgk_of (by decide) (fun j hj => by
                      rcases (by omega : j = 0 ∨ j = 1) with rfl | rfl
                      · exact hd0
                      · exact hd1) (fun _ => pI_eq0 c_31_2)
                    have hR : rn (chr sg sz) p lo hi = .error (200 + p) := by unfold rn; rw [hD, if_neg (by decide), if_neg (by decide), if_neg (fun z => absurd (c_95_2.symm.trans (sp_in_ok z.1 z.2 (by omega))) (by decide))]
                    exact ⟨_, _, ⟨fun k h1 h2 h3 => by simp only [va_up, if_neg h1, if_neg h2, if_neg h3], Or.inr ⟨_, hR, rfl, rfl⟩⟩, rfl⟩
                  · exact absurd c_104_2 (by decide)
              · skip
                have hd2 := pI_ne c_31_2
                have hl2 := hin2 hd2
                have hD2 := hd2
                unfold dg9 at hD2
                refine r_aload_n rfl dc_14_18_34 ?_
                refine q_get (v := .int (nI (p + 2))) rx_216 hM rfl dc_14_18_35 ?_
                refine r_iload_n rfl dc_14_18_38 ?_
                refine r_iconst (v := nI 4) (by decide) dc_14_18_39 ?_
                refine r_iadd (v := nI (p + 4)) (nI_add _ _) dc_14_18_40 ?_
                refine r_ncne (t := 54) (by omega) (by omega) (by decide) dc_14_18_41 (fun c_41_2 => ?_) (fun c_41_2 => ?_)
                · skip
                  refine r_aload_n rfl dc_14_18_54 ?_
                  refine r_bipush (v := nI 10) (by decide) dc_14_18_55 ?_
                  refine r_aload_n rfl dc_14_18_57 ?_
                  refine q_get (v := .int (nI (vnk (chr sg sz) p 2))) rx_229 hM rfl dc_14_18_58 ?_
                  refine r_imul (v := nI (10 * vnk (chr sg sz) p 2)) (pk_mul _ _) dc_14_18_61 ?_
                  refine r_aload_n rfl dc_14_18_62 ?_
                  refine q_calli (as := []) (rest := [.int (nI (10 * vnk (chr sg sz) p 2)), .ref 100]) (v := .int (nI (chr sg sz (p + 2)))) (M1 := rf_mk M (va_up (va_up (va_up (va_up (va_up io 47 (nI 0)) 47 (nI (vnk (chr sg sz) p 1))) 24 (nI (p + 1))) 47 (nI (vnk (chr sg sz) p 2))) 24 (nI (p + 2))) sg) iv_13_v222 na_1_201 o_201 hM rfl (show (2 : Nat) ≤ 8 by decide) dc_14_18_63 (mm_Ev_up (by decide : 1 ≤ 2) (c_sign M hM (va_up (va_up (va_up (va_up (va_up io 47 (nI 0)) 47 (nI (vnk (chr sg sz) p 1))) 24 (nI (p + 1))) 47 (nI (vnk (chr sg sz) p 2))) 24 (nI (p + 2))) sg (p + 2) sz rfl h25 (by omega) hsz)) ?_
                  refine r_iadd (v := nI (10 * vnk (chr sg sz) p 2 + chr sg sz (p + 2))) (nI_add _ _) dc_14_18_66 ?_
                  refine r_bipush (v := nI 48) (by decide) dc_14_18_67 ?_
                  refine r_isub (v := nI (vnk (chr sg sz) p 3)) ((pk_sub (by omega)).trans (congrArg nI (by show _ = 10 * vnk (chr sg sz) p 2 + (chr sg sz (p + 2) - 48); omega))) dc_14_18_69 ?_
                  refine q_put rx_229 (by decide +kernel) (by decide +kernel) (by decide) (rs_47 _) hM dc_14_18_70 ?_
                  refine r_aload_n rfl dc_14_18_73 ?_
                  refine r_aload_n rfl dc_14_18_74 ?_
                  refine q_get (v := .int (nI (p + 2))) rx_216 hM rfl dc_14_18_75 ?_
                  refine r_iconst (v := nI 1) (by decide) dc_14_18_78 ?_
                  refine r_iadd (v := nI (p + 3)) (nI_add _ _) dc_14_18_79 ?_
                  refine q_put rx_216 (by decide +kernel) (by decide +kernel) (by decide) (rs_24 _) hM dc_14_18_80 ?_
                  refine r_goto (t := 27) (by decide) dc_14_18_83 ?_
                  refine r_aload_n rfl dc_14_18_27 ?_
                  have hlt3 := chr_lt sg sz (p + 3)
                  have hin3 : dg9 (chr sg sz (p + 3)) → p + 3 < sz := fun z => chr_in (sg := sg) (fun y => by have := z.1; omega)
                  refine q_calli (as := []) (rest := []) (v := .int (pI (dg9 (chr sg sz (p + 3))))) (M1 := rf_mk M (va_up (va_up (va_up (va_up (va_up (va_up (va_up io 47 (nI 0)) 47 (nI (vnk (chr sg sz) p 1))) 24 (nI (p + 1))) 47 (nI (vnk (chr sg sz) p 2))) 24 (nI (p + 2))) 47 (nI (vnk (chr sg sz) p 3))) 24 (nI (p + 3))) sg) iv_13_v232 na_1_207 o_207 hM rfl (show (0 : Nat) ≤ 8 by decide) dc_14_18_28 (c_isDigit M hM (va_up (va_up (va_up (va_up (va_up (va_up (va_up io 47 (nI 0)) 47 (nI (vnk (chr sg sz) p 1))) 24 (nI (p + 1))) 47 (nI (vnk (chr sg sz) p 2))) 24 (nI (p + 2))) 47 (nI (vnk (chr sg sz) p 3))) 24 (nI (p + 3))) sg (p + 3) sz rfl h25 (by omega) hsz) ?_
                  refine r_ifeq (t := 86) (by decide) dc_14_18_31 (fun c_31_3 => ?_) (fun c_31_3 => ?_)
                  · skip
                    refine r_aload_n rfl dc_14_18_86 ?_
                    refine q_get (v := .int (nI (vnk (chr sg sz) p 3))) rx_229 hM rfl dc_14_18_87 ?_
                    refine r_iload_n rfl dc_14_18_90 ?_
                    refine r_iload_n rfl dc_14_18_91 ?_
                    refine q_calls (as := [.int (nI (vnk (chr sg sz) p 3)), .int (nI lo), .int (nI hi)]) (rest := []) (v := .int (sp_in (nI (vnk (chr sg sz) p 3)) (nI lo) (nI hi))) iv_13_s180 na_0_187 rfl (show (0 : Nat) ≤ 8 by decide) dc_14_18_92 (mm_Ev_up (by decide : 1 ≤ 2) (c_in _ (nI (vnk (chr sg sz) p 3)) (nI lo) (nI hi))) ?_
                    refine r_ifne (t := 107) (by decide) dc_14_18_95 (fun c_95_3 => ?_) (fun c_95_3 => ?_)
                    · skip
                      refine r_iconst (v := nI 1) (by decide) dc_14_18_107 ?_
                      refine r_goto (t := 112) (by decide) dc_14_18_108 ?_
                      refine r_zret rfl (by decide) dc_14_18_112 ?_
                      have hD : dgk (chr sg sz) p 5 = 3 := dgk_of (by decide) (fun j hj => by
                        rcases (by omega : j = 0 ∨ j = 1 ∨ j = 2) with rfl | rfl | rfl
                        · exact hd0
                        · exact hd1
                        · exact hd2) (fun _ => pI_eq0 c_31_3)
                      have hr9 := sp_in_ne c_95_3
                      have hR : rn (chr sg sz) p lo hi = .ok (vnk (chr sg sz) p 3, p + 3) := by unfold rn; rw [hD, if_neg (by decide), if_neg (by decide), if_pos ⟨(nI_leI (by omega) (by omega)).mp hr9.1, (nI_leI (by omega) (by omega)).mp hr9.2⟩]
                      exact ⟨va_up (va_up (va_up (va_up (va_up (va_up (va_up io 47 (nI 0)) 47 (nI (vnk (chr sg sz) p 1))) 24 (nI (p + 1))) 47 (nI (vnk (chr sg sz) p 2))) 24 (nI (p + 2))) 47 (nI (vnk (chr sg sz) p 3))) 24 (nI (p + 3)), _, ⟨fun k h1 h2 h3 => by simp only [va_up, if_neg h1, if_neg h2, if_neg h3], Or.inl ⟨_, _, hR, rfl, rfl, rfl, rfl⟩⟩, rfl⟩
                    · skip
                      refine r_aload_n rfl dc_14_18_98 ?_
                      refine r_iconst (v := nI 2) (by decide) dc_14_18_99 ?_
                      refine r_iload_n rfl dc_14_18_100 ?_
                      refine q_calli (as := [.int (nI 2), .int (nI p)]) (rest := []) (v := .int (nI 0)) (M1 := rf_mk M (va_up (va_up (va_up (va_up (va_up (va_up (va_up (va_up io 47 (nI 0)) 47 (nI (vnk (chr sg sz) p 1))) 24 (nI (p + 1))) 47 (nI (vnk (chr sg sz) p 2))) 24 (nI (p + 2))) 47 (nI (vnk (chr sg sz) p 3))) 24 (nI (p + 3))) 26 (-nI (100 * 2 + p))) sg) iv_13_v236 na_1_203 o_203 hM rfl (show (0 : Nat) ≤ 8 by decide) dc_14_18_101 (mm_Ev_up (by decide : 1 ≤ 2) (c_wrong M hM (va_up (va_up (va_up (va_up (va_up (va_up (va_up io 47 (nI 0)) 47 (nI (vnk (chr sg sz) p 1))) 24 (nI (p + 1))) 47 (nI (vnk (chr sg sz) p 2))) 24 (nI (p + 2))) 47 (nI (vnk (chr sg sz) p 3))) 24 (nI (p + 3))) sg 2 p)) ?_
                      refine r_ifeq (t := 111) (by decide) dc_14_18_104 (fun c_104_3 => ?_) (fun c_104_3 => ?_)
                      · skip
                        refine r_iconst (v := nI 0) (by decide) dc_14_18_111 ?_
                        refine r_zret rfl (by decide) dc_14_18_112 ?_
                        have hD : dgk (chr sg sz) p 5 = 3 := dgk_of (by decide) (fun j hj => by
                          rcases (by omega : j = 0 ∨ j = 1 ∨ j = 2) with rfl | rfl | rfl
                          · exact hd0
                          · exact hd1
                          · exact hd2) (fun _ => pI_eq0 c_31_3)
                        have hR : rn (chr sg sz) p lo hi = .error (200 + p) := by unfold rn; rw [hD, if_neg (by decide), if_neg (by decide), if_neg (fun z => absurd (c_95_3.symm.trans (sp_in_ok z.1 z.2 (by omega))) (by decide))]
                        exact ⟨_, _, ⟨fun k h1 h2 h3 => by simp only [va_up, if_neg h1, if_neg h2, if_neg h3], Or.inr ⟨_, hR, rfl, rfl⟩⟩, rfl⟩
                      · exact absurd c_104_3 (by decide)
                  · skip
                    have hd3 := pI_ne c_31_3
                    have hl3 := hin3 hd3
                    have hD3 := hd3
                    unfold dg9 at hD3
                    refine r_aload_n rfl dc_14_18_34 ?_
                    refine q_get (v := .int (nI (p + 3))) rx_216 hM rfl dc_14_18_35 ?_
                    refine r_iload_n rfl dc_14_18_38 ?_
                    refine r_iconst (v := nI 4) (by decide) dc_14_18_39 ?_
                    refine r_iadd (v := nI (p + 4)) (nI_add _ _) dc_14_18_40 ?_
                    refine r_ncne (t := 54) (by omega) (by omega) (by decide) dc_14_18_41 (fun c_41_3 => ?_) (fun c_41_3 => ?_)
                    · skip
                      refine r_aload_n rfl dc_14_18_54 ?_
                      refine r_bipush (v := nI 10) (by decide) dc_14_18_55 ?_
                      refine r_aload_n rfl dc_14_18_57 ?_
                      refine q_get (v := .int (nI (vnk (chr sg sz) p 3))) rx_229 hM rfl dc_14_18_58 ?_
                      refine r_imul (v := nI (10 * vnk (chr sg sz) p 3)) (pk_mul _ _) dc_14_18_61 ?_
                      refine r_aload_n rfl dc_14_18_62 ?_
                      refine q_calli (as := []) (rest := [.int (nI (10 * vnk (chr sg sz) p 3)), .ref 100]) (v := .int (nI (chr sg sz (p + 3)))) (M1 := rf_mk M (va_up (va_up (va_up (va_up (va_up (va_up (va_up io 47 (nI 0)) 47 (nI (vnk (chr sg sz) p 1))) 24 (nI (p + 1))) 47 (nI (vnk (chr sg sz) p 2))) 24 (nI (p + 2))) 47 (nI (vnk (chr sg sz) p 3))) 24 (nI (p + 3))) sg) iv_13_v222 na_1_201 o_201 hM rfl (show (2 : Nat) ≤ 8 by decide) dc_14_18_63 (mm_Ev_up (by decide : 1 ≤ 2) (c_sign M hM (va_up (va_up (va_up (va_up (va_up (va_up (va_up io 47 (nI 0)) 47 (nI (vnk (chr sg sz) p 1))) 24 (nI (p + 1))) 47 (nI (vnk (chr sg sz) p 2))) 24 (nI (p + 2))) 47 (nI (vnk (chr sg sz) p 3))) 24 (nI (p + 3))) sg (p + 3) sz rfl h25 (by omega) hsz)) ?_
                      refine r_iadd (v := nI (10 * vnk (chr sg sz) p 3 + chr sg sz (p + 3))) (nI_add _ _) dc_14_18_66 ?_
                      refine r_bipush (v := nI 48) (by decide) dc_14_18_67 ?_
                      refine r_isub (v := nI (vnk (chr sg sz) p 4)) ((pk_sub (by omega)).trans (congrArg nI (by show _ = 10 * vnk (chr sg sz) p 3 + (chr sg sz (p + 3) - 48); omega))) dc_14_18_69 ?_
                      refine q_put rx_229 (by decide +kernel) (by decide +kernel) (by decide) (rs_47 _) hM dc_14_18_70 ?_
                      refine r_aload_n rfl dc_14_18_73 ?_
                      refine r_aload_n rfl dc_14_18_74 ?_
                      refine q_get (v := .int (nI (p + 3))) rx_216 hM rfl dc_14_18_75 ?_
                      refine r_iconst (v := nI 1) (by decide) dc_14_18_78 ?_
                      refine r_iadd (v := nI (p + 4)) (nI_add _ _) dc_14_18_79 ?_
                      refine q_put rx_216 (by decide +kernel) (by decide +kernel) (by decide) (rs_24 _) hM dc_14_18_80 ?_
                      refine r_goto (t := 27) (by decide) dc_14_18_83 ?_
                      refine r_aload_n rfl dc_14_18_27 ?_
                      have hlt4 := chr_lt sg sz (p + 4)
                      have hin4 : dg9 (chr sg sz (p + 4)) → p + 4 < sz := fun z => chr_in (sg := sg) (fun y => by have := z.1; omega)
                      refine q_calli (as := []) (rest := []) (v := .int (pI (dg9 (chr sg sz (p + 4))))) (M1 := rf_mk M (va_up (va_up (va_up (va_up (va_up (va_up (va_up (va_up (va_up io 47 (nI 0)) 47 (nI (vnk (chr sg sz) p 1))) 24 (nI (p + 1))) 47 (nI (vnk (chr sg sz) p 2))) 24 (nI (p + 2))) 47 (nI (vnk (chr sg sz) p 3))) 24 (nI (p + 3))) 47 (nI (vnk (chr sg sz) p 4))) 24 (nI (p + 4))) sg) iv_13_v232 na_1_207 o_207 hM rfl (show (0 : Nat) ≤ 8 by decide) dc_14_18_28 (c_isDigit M hM (va_up (va_up (va_up (va_up (va_up (va_up (va_up (va_up (va_up io 47 (nI 0)) 47 (nI (vnk (chr sg sz) p 1))) 24 (nI (p + 1))) 47 (nI (vnk (chr sg sz) p 2))) 24 (nI (p + 2))) 47 (nI (vnk (chr sg sz) p 3))) 24 (nI (p + 3))) 47 (nI (vnk (chr sg sz) p 4))) 24 (nI (p + 4))) sg (p + 4) sz rfl h25 (by omega) hsz) ?_
                      refine r_ifeq (t := 86) (by decide) dc_14_18_31 (fun c_31_4 => ?_) (fun c_31_4 => ?_)
                      · skip
                        refine r_aload_n rfl dc_14_18_86 ?_
                        refine q_get (v := .int (nI (vnk (chr sg sz) p 4))) rx_229 hM rfl dc_14_18_87 ?_
                        refine r_iload_n rfl dc_14_18_90 ?_
                        refine r_iload_n rfl dc_14_18_91 ?_
                        refine q_calls (as := [.int (nI (vnk (chr sg sz) p 4)), .int (nI lo), .int (nI hi)]) (rest := []) (v := .int (sp_in (nI (vnk (chr sg sz) p 4)) (nI lo) (nI hi))) iv_13_s180 na_0_187 rfl (show (0 : Nat) ≤ 8 by decide) dc_14_18_92 (mm_Ev_up (by decide : 1 ≤ 2) (c_in _ (nI (vnk (chr sg sz) p 4)) (nI lo) (nI hi))) ?_
                        refine r_ifne (t := 107) (by decide) dc_14_18_95 (fun c_95_4 => ?_) (fun c_95_4 => ?_)
                        · skip
                          refine r_iconst (v := nI 1) (by decide) dc_14_18_107 ?_
                          refine r_goto (t := 112) (by decide) dc_14_18_108 ?_
                          refine r_zret rfl (by decide) dc_14_18_112 ?_
                          have hD : dgk (chr sg sz) p 5 = 4 := dgk_of (by decide) (fun j hj => by
                            rcases (by omega : j = 0 ∨ j = 1 ∨ j = 2 ∨ j = 3) with rfl | rfl | rfl | rfl
                            · exact hd0
                            · exact hd1
                            · exact hd2
                            · exact hd3) (fun _ => pI_eq0 c_31_4)
                          have hr9 := sp_in_ne c_95_4
                          have hR : rn (chr sg sz) p lo hi = .ok (vnk (chr sg sz) p 4, p + 4) := by unfold rn; rw [hD, if_neg (by decide), if_neg (by decide), if_pos ⟨(nI_leI (by omega) (by omega)).mp hr9.1, (nI_leI (by omega) (by omega)).mp hr9.2⟩]
                          exact ⟨va_up (va_up (va_up (va_up (va_up (va_up (va_up (va_up (va_up io 47 (nI 0)) 47 (nI (vnk (chr sg sz) p 1))) 24 (nI (p + 1))) 47 (nI (vnk (chr sg sz) p 2))) 24 (nI (p + 2))) 47 (nI (vnk (chr sg sz) p 3))) 24 (nI (p + 3))) 47 (nI (vnk (chr sg sz) p 4))) 24 (nI (p + 4)), _, ⟨fun k h1 h2 h3 => by simp only [va_up, if_neg h1, if_neg h2, if_neg h3], Or.inl ⟨_, _, hR, rfl, rfl, rfl, rfl⟩⟩, rfl⟩
                        · skip
                          refine r_aload_n rfl dc_14_18_98 ?_
                          refine r_iconst (v := nI 2) (by decide) dc_14_18_99 ?_
                          refine r_iload_n rfl dc_14_18_100 ?_
                          refine q_calli (as := [.int (nI 2), .int (nI p)]) (rest := []) (v := .int (nI 0)) (M1 := rf_mk M (va_up (va_up (va_up (va_up (va_up (va_up (va_up (va_up (va_up (va_up io 47 (nI 0)) 47 (nI (vnk (chr sg sz) p 1))) 24 (nI (p + 1))) 47 (nI (vnk (chr sg sz) p 2))) 24 (nI (p + 2))) 47 (nI (vnk (chr sg sz) p 3))) 24 (nI (p + 3))) 47 (nI (vnk (chr sg sz) p 4))) 24 (nI (p + 4))) 26 (-nI (100 * 2 + p))) sg) iv_13_v236 na_1_203 o_203 hM rfl (show (0 : Nat) ≤ 8 by decide) dc_14_18_101 (mm_Ev_up (by decide : 1 ≤ 2) (c_wrong M hM (va_up (va_up (va_up (va_up (va_up (va_up (va_up (va_up (va_up io 47 (nI 0)) 47 (nI (vnk (chr sg sz) p 1))) 24 (nI (p + 1))) 47 (nI (vnk (chr sg sz) p 2))) 24 (nI (p + 2))) 47 (nI (vnk (chr sg sz) p 3))) 24 (nI (p + 3))) 47 (nI (vnk (chr sg sz) p 4))) 24 (nI (p + 4))) sg 2 p)) ?_
                          refine r_ifeq (t := 111) (by decide) dc_14_18_104 (fun c_104_4 => ?_) (fun c_104_4 => ?_)
                          · skip
                            refine r_iconst (v := nI 0) (by decide) dc_14_18_111 ?_
                            refine r_zret rfl (by decide) dc_14_18_112 ?_
                            have hD : dgk (chr sg sz) p 5 = 4 := dgk_of (by decide) (fun j hj => by
                              rcases (by omega : j = 0 ∨ j = 1 ∨ j = 2 ∨ j = 3) with rfl | rfl | rfl | rfl
                              · exact hd0
                              · exact hd1
                              · exact hd2
                              · exact hd3) (fun _ => pI_eq0 c_31_4)
                            have hR : rn (chr sg sz) p lo hi = .error (200 + p) := by unfold rn; rw [hD, if_neg (by decide), if_neg (by decide), if_neg (fun z => absurd (c_95_4.symm.trans (sp_in_ok z.1 z.2 (by omega))) (by decide))]
                            exact ⟨_, _, ⟨fun k h1 h2 h3 => by simp only [va_up, if_neg h1, if_neg h2, if_neg h3], Or.inr ⟨_, hR, rfl, rfl⟩⟩, rfl⟩
                          · exact absurd c_104_4 (by decide)
                      · skip
                        have hd4 := pI_ne c_31_4
                        have hl4 := hin4 hd4
                        have hD4 := hd4
                        unfold dg9 at hD4
                        refine r_aload_n rfl dc_14_18_34 ?_
                        refine q_get (v := .int (nI (p + 4))) rx_216 hM rfl dc_14_18_35 ?_
                        refine r_iload_n rfl dc_14_18_38 ?_
                        refine r_iconst (v := nI 4) (by decide) dc_14_18_39 ?_
                        refine r_iadd (v := nI (p + 4)) (nI_add _ _) dc_14_18_40 ?_
                        refine r_ncne (t := 54) (by omega) (by omega) (by decide) dc_14_18_41 (fun c_41_4 => ?_) (fun c_41_4 => ?_)
                        · omega
                        · skip
                          refine r_aload_n rfl dc_14_18_44 ?_
                          refine r_iconst (v := nI 1) (by decide) dc_14_18_45 ?_
                          refine r_aload_n rfl dc_14_18_46 ?_
                          refine q_get (v := .int (nI (p + 4))) rx_216 hM rfl dc_14_18_47 ?_
                          refine q_calli (as := [.int (nI 1), .int (nI (p + 4))]) (rest := []) (v := .int (nI 0)) (M1 := rf_mk M (va_up (va_up (va_up (va_up (va_up (va_up (va_up (va_up (va_up (va_up io 47 (nI 0)) 47 (nI (vnk (chr sg sz) p 1))) 24 (nI (p + 1))) 47 (nI (vnk (chr sg sz) p 2))) 24 (nI (p + 2))) 47 (nI (vnk (chr sg sz) p 3))) 24 (nI (p + 3))) 47 (nI (vnk (chr sg sz) p 4))) 24 (nI (p + 4))) 26 (-nI (100 * 1 + (p + 4)))) sg) iv_13_v236 na_1_203 o_203 hM rfl (show (0 : Nat) ≤ 8 by decide) dc_14_18_50 (mm_Ev_up (by decide : 1 ≤ 2) (c_wrong M hM (va_up (va_up (va_up (va_up (va_up (va_up (va_up (va_up (va_up io 47 (nI 0)) 47 (nI (vnk (chr sg sz) p 1))) 24 (nI (p + 1))) 47 (nI (vnk (chr sg sz) p 2))) 24 (nI (p + 2))) 47 (nI (vnk (chr sg sz) p 3))) 24 (nI (p + 3))) 47 (nI (vnk (chr sg sz) p 4))) 24 (nI (p + 4))) sg 1 (p + 4))) ?_
                          refine r_zret rfl (by decide) dc_14_18_53 ?_
                          have hD : dgk (chr sg sz) p 5 = 5 := dgk_of (by decide) (fun j hj => by
                            rcases (by omega : j = 0 ∨ j = 1 ∨ j = 2 ∨ j = 3 ∨ j = 4) with rfl | rfl | rfl | rfl | rfl
                            · exact hd0
                            · exact hd1
                            · exact hd2
                            · exact hd3
                            · exact hd4) (fun z => absurd z (by decide))
                          exact ⟨_, _, ⟨fun k h1 h2 h3 => by simp only [va_up, if_neg h1, if_neg h2, if_neg h3], Or.inr ⟨100 + (p + 4), (if_neg (by omega)).trans (if_pos hD), rfl, rfl⟩⟩, rfl⟩
                    · omega
                · omega
            · omega
        · omega
    · have hd0 := pI_eq0 c_14
      refine r_aload_n rfl dc_14_18_17 ?_
      refine r_iconst (v := nI 1) (by decide) dc_14_18_18 ?_
      refine r_aload_n rfl dc_14_18_19 ?_
      refine q_get (v := .int (nI p)) rx_216 hM (congrArg (fun z => some (Value.int z)) (h24)) dc_14_18_20 ?_
      refine q_calli (as := [.int (nI 1), .int (nI p)]) (rest := []) (v := .int (nI 0)) (M1 := rf_mk M (va_up (va_up io 47 (nI 0)) 26 (-nI (100 * 1 + p))) sg) iv_13_v236 na_1_203 o_203 hM rfl (show (0 : Nat) ≤ 8 by decide) dc_14_18_23 (mm_Ev_up (by decide : 1 ≤ 2) (c_wrong M hM (va_up io 47 (nI 0)) sg 1 p)) ?_
      refine r_zret rfl (by decide) dc_14_18_26 ?_
      have hD : dgk (chr sg sz) p 5 = 0 := dgk_of (by decide) (fun j hj => absurd hj (Nat.not_lt_zero j)) (fun _ => hd0)
      exact ⟨_, _, ⟨fun k h1 h2 h3 => by simp only [va_up, if_neg h1, if_neg h2, if_neg h3], Or.inr ⟨100 + p, if_pos hD, rfl, rfl⟩⟩, rfl⟩
  obtain ⟨z9, ⟨io2, r, p9, e9⟩, h9⟩ := hq9
  subst e9
  exact ⟨io2, r, p9, h9⟩
