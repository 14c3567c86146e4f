/-! calls of the law: known, may, balance, there, crowded -/
theorem dc_1_14_0 : decode prog_1_method_14_code 0 = .ok (.aload_n 0, 1) := by decide +kernel
theorem dc_1_14_1 : decode prog_1_method_14_code 1 = .ok (.iload_n 1, 1) := by decide +kernel
theorem dc_1_14_2 : decode prog_1_method_14_code 2 = .ok (.invokevirtual 180, 3) := by decide +kernel
theorem dc_1_14_5 : decode prog_1_method_14_code 5 = .ok (.astore_n 3, 1) := by decide +kernel
theorem dc_1_14_6 : decode prog_1_method_14_code 6 = .ok (.aload_n 3, 1) := by decide +kernel
theorem dc_1_14_7 : decode prog_1_method_14_code 7 = .ok (.ifnonnull 7, 3) := by decide +kernel
theorem dc_1_14_10 : decode prog_1_method_14_code 10 = .ok (.iconst (-1), 1) := by decide +kernel
theorem dc_1_14_11 : decode prog_1_method_14_code 11 = .ok (.goto 9, 3) := by decide +kernel
theorem dc_1_14_14 : decode prog_1_method_14_code 14 = .ok (.aload_n 0, 1) := by decide +kernel
theorem dc_1_14_15 : decode prog_1_method_14_code 15 = .ok (.aload_n 3, 1) := by decide +kernel
theorem dc_1_14_16 : decode prog_1_method_14_code 16 = .ok (.iload_n 2, 1) := by decide +kernel
theorem dc_1_14_17 : decode prog_1_method_14_code 17 = .ok (.invokevirtual 190, 3) := by decide +kernel
theorem dc_1_14_20 : decode prog_1_method_14_code 20 = .ok (.ireturn, 1) := by decide +kernel
theorem dc_1_19_0 : decode prog_1_method_19_code 0 = .ok (.aload_n 0, 1) := by decide +kernel
theorem dc_1_19_1 : decode prog_1_method_19_code 1 = .ok (.iload_n 1, 1) := by decide +kernel
theorem dc_1_19_2 : decode prog_1_method_19_code 2 = .ok (.invokevirtual 214, 3) := by decide +kernel
theorem dc_1_19_5 : decode prog_1_method_19_code 5 = .ok (.ireturn, 1) := by decide +kernel
theorem dc_1_24_0 : decode prog_1_method_24_code 0 = .ok (.aload_n 0, 1) := by decide +kernel
theorem dc_1_24_1 : decode prog_1_method_24_code 1 = .ok (.iload_n 1, 1) := by decide +kernel
theorem dc_1_24_2 : decode prog_1_method_24_code 2 = .ok (.invokevirtual 180, 3) := by decide +kernel
theorem dc_1_24_5 : decode prog_1_method_24_code 5 = .ok (.ifnull 19, 3) := by decide +kernel
theorem dc_1_24_8 : decode prog_1_method_24_code 8 = .ok (.iload_n 2, 1) := by decide +kernel
theorem dc_1_24_9 : decode prog_1_method_24_code 9 = .ok (.iconst 0, 1) := by decide +kernel
theorem dc_1_24_10 : decode prog_1_method_24_code 10 = .ok (.iconst 3, 1) := by decide +kernel
theorem dc_1_24_11 : decode prog_1_method_24_code 11 = .ok (.invokestatic 84, 3) := by decide +kernel
theorem dc_1_24_14 : decode prog_1_method_24_code 14 = .ok (.ifCond .eq 10, 3) := by decide +kernel
theorem dc_1_24_17 : decode prog_1_method_24_code 17 = .ok (.iload_n 3, 1) := by decide +kernel
theorem dc_1_24_18 : decode prog_1_method_24_code 18 = .ok (.invokestatic 108, 3) := by decide +kernel
theorem dc_1_24_21 : decode prog_1_method_24_code 21 = .ok (.ifCond .ne 5, 3) := by decide +kernel
theorem dc_1_24_24 : decode prog_1_method_24_code 24 = .ok (.iconst (-1), 1) := by decide +kernel
theorem dc_1_24_25 : decode prog_1_method_24_code 25 = .ok (.ireturn, 1) := by decide +kernel
theorem dc_1_24_26 : decode prog_1_method_24_code 26 = .ok (.aload_n 0, 1) := by decide +kernel
theorem dc_1_24_27 : decode prog_1_method_24_code 27 = .ok (.getfield 54, 3) := by decide +kernel
theorem dc_1_24_30 : decode prog_1_method_24_code 30 = .ok (.iload_n 1, 1) := by decide +kernel
theorem dc_1_24_31 : decode prog_1_method_24_code 31 = .ok (.iload_n 2, 1) := by decide +kernel
theorem dc_1_24_32 : decode prog_1_method_24_code 32 = .ok (.iload_n 3, 1) := by decide +kernel
theorem dc_1_24_33 : decode prog_1_method_24_code 33 = .ok (.invokevirtual 258, 3) := by decide +kernel
theorem dc_1_24_36 : decode prog_1_method_24_code 36 = .ok (.ireturn, 1) := by decide +kernel
theorem dc_1_26_0 : decode prog_1_method_26_code 0 = .ok (.aload_n 0, 1) := by decide +kernel
theorem dc_1_26_1 : decode prog_1_method_26_code 1 = .ok (.iload_n 1, 1) := by decide +kernel
theorem dc_1_26_2 : decode prog_1_method_26_code 2 = .ok (.invokevirtual 128, 3) := by decide +kernel
theorem dc_1_26_5 : decode prog_1_method_26_code 5 = .ok (.astore 4, 2) := by decide +kernel
theorem dc_1_26_7 : decode prog_1_method_26_code 7 = .ok (.aload 4, 2) := by decide +kernel
theorem dc_1_26_9 : decode prog_1_method_26_code 9 = .ok (.ifnull 17, 3) := by decide +kernel
theorem dc_1_26_12 : decode prog_1_method_26_code 12 = .ok (.iload_n 2, 1) := by decide +kernel
theorem dc_1_26_13 : decode prog_1_method_26_code 13 = .ok (.invokestatic 108, 3) := by decide +kernel
theorem dc_1_26_16 : decode prog_1_method_26_code 16 = .ok (.ifCond .eq 10, 3) := by decide +kernel
theorem dc_1_26_19 : decode prog_1_method_26_code 19 = .ok (.iload_n 3, 1) := by decide +kernel
theorem dc_1_26_20 : decode prog_1_method_26_code 20 = .ok (.invokestatic 108, 3) := by decide +kernel
theorem dc_1_26_23 : decode prog_1_method_26_code 23 = .ok (.ifCond .ne 5, 3) := by decide +kernel
theorem dc_1_26_26 : decode prog_1_method_26_code 26 = .ok (.iconst (-1), 1) := by decide +kernel
theorem dc_1_26_27 : decode prog_1_method_26_code 27 = .ok (.ireturn, 1) := by decide +kernel
theorem dc_1_26_28 : decode prog_1_method_26_code 28 = .ok (.aload_n 0, 1) := by decide +kernel
theorem dc_1_26_29 : decode prog_1_method_26_code 29 = .ok (.iload_n 1, 1) := by decide +kernel
theorem dc_1_26_30 : decode prog_1_method_26_code 30 = .ok (.aload 4, 2) := by decide +kernel
theorem dc_1_26_32 : decode prog_1_method_26_code 32 = .ok (.iload_n 3, 1) := by decide +kernel
theorem dc_1_26_33 : decode prog_1_method_26_code 33 = .ok (.invokevirtual 274, 3) := by decide +kernel
theorem dc_1_26_36 : decode prog_1_method_26_code 36 = .ok (.aload_n 0, 1) := by decide +kernel
theorem dc_1_26_37 : decode prog_1_method_26_code 37 = .ok (.getfield 20, 3) := by decide +kernel
theorem dc_1_26_40 : decode prog_1_method_26_code 40 = .ok (.iload_n 2, 1) := by decide +kernel
theorem dc_1_26_41 : decode prog_1_method_26_code 41 = .ok (.iaload, 1) := by decide +kernel
theorem dc_1_26_42 : decode prog_1_method_26_code 42 = .ok (.ireturn, 1) := by decide +kernel
theorem dc_1_28_0 : decode prog_1_method_28_code 0 = .ok (.aload_n 0, 1) := by decide +kernel
theorem dc_1_28_1 : decode prog_1_method_28_code 1 = .ok (.iload_n 1, 1) := by decide +kernel
theorem dc_1_28_2 : decode prog_1_method_28_code 2 = .ok (.invokevirtual 128, 3) := by decide +kernel
theorem dc_1_28_5 : decode prog_1_method_28_code 5 = .ok (.astore_n 3, 1) := by decide +kernel
theorem dc_1_28_6 : decode prog_1_method_28_code 6 = .ok (.aload_n 3, 1) := by decide +kernel
theorem dc_1_28_7 : decode prog_1_method_28_code 7 = .ok (.ifnull 10, 3) := by decide +kernel
theorem dc_1_28_10 : decode prog_1_method_28_code 10 = .ok (.iload_n 2, 1) := by decide +kernel
theorem dc_1_28_11 : decode prog_1_method_28_code 11 = .ok (.invokestatic 108, 3) := by decide +kernel
theorem dc_1_28_14 : decode prog_1_method_28_code 14 = .ok (.ifCond .ne 5, 3) := by decide +kernel
theorem dc_1_28_17 : decode prog_1_method_28_code 17 = .ok (.iconst (-1), 1) := by decide +kernel
theorem dc_1_28_18 : decode prog_1_method_28_code 18 = .ok (.ireturn, 1) := by decide +kernel
theorem dc_1_28_19 : decode prog_1_method_28_code 19 = .ok (.aload_n 0, 1) := by decide +kernel
theorem dc_1_28_20 : decode prog_1_method_28_code 20 = .ok (.iload_n 1, 1) := by decide +kernel
theorem dc_1_28_21 : decode prog_1_method_28_code 21 = .ok (.aload_n 3, 1) := by decide +kernel
theorem dc_1_28_22 : decode prog_1_method_28_code 22 = .ok (.iload_n 2, 1) := by decide +kernel
theorem dc_1_28_23 : decode prog_1_method_28_code 23 = .ok (.invokevirtual 274, 3) := by decide +kernel
theorem dc_1_28_26 : decode prog_1_method_28_code 26 = .ok (.iconst 0, 1) := by decide +kernel
theorem dc_1_28_27 : decode prog_1_method_28_code 27 = .ok (.istore 4, 2) := by decide +kernel
theorem dc_1_28_29 : decode prog_1_method_28_code 29 = .ok (.iload 4, 2) := by decide +kernel
theorem dc_1_28_31 : decode prog_1_method_28_code 31 = .ok (.sipush 360, 3) := by decide +kernel
theorem dc_1_28_34 : decode prog_1_method_28_code 34 = .ok (.if_icmp .ge 26, 3) := by decide +kernel
theorem dc_1_28_37 : decode prog_1_method_28_code 37 = .ok (.aload_n 0, 1) := by decide +kernel
theorem dc_1_28_38 : decode prog_1_method_28_code 38 = .ok (.getfield 20, 3) := by decide +kernel
theorem dc_1_28_41 : decode prog_1_method_28_code 41 = .ok (.iload 4, 2) := by decide +kernel
theorem dc_1_28_43 : decode prog_1_method_28_code 43 = .ok (.iaload, 1) := by decide +kernel
theorem dc_1_28_44 : decode prog_1_method_28_code 44 = .ok (.aload_n 3, 1) := by decide +kernel
theorem dc_1_28_45 : decode prog_1_method_28_code 45 = .ok (.getfield 132, 3) := by decide +kernel
theorem dc_1_28_48 : decode prog_1_method_28_code 48 = .ok (.if_icmp .le 6, 3) := by decide +kernel
theorem dc_1_28_51 : decode prog_1_method_28_code 51 = .ok (.iload 4, 2) := by decide +kernel
theorem dc_1_28_53 : decode prog_1_method_28_code 53 = .ok (.ireturn, 1) := by decide +kernel
theorem dc_1_28_54 : decode prog_1_method_28_code 54 = .ok (.iinc 4 1, 3) := by decide +kernel
theorem dc_1_28_57 : decode prog_1_method_28_code 57 = .ok (.goto (-28), 3) := by decide +kernel
theorem dc_1_28_60 : decode prog_1_method_28_code 60 = .ok (.iconst (-1), 1) := by decide +kernel
theorem dc_1_28_61 : decode prog_1_method_28_code 61 = .ok (.ireturn, 1) := by decide +kernel
theorem dc_1_39_10 : decode prog_1_method_39_code 10 = .ok (.iconst (-1), 1) := by decide +kernel
theorem dc_1_39_11 : decode prog_1_method_39_code 11 = .ok (.ireturn, 1) := by decide +kernel
theorem iv_0_s108 : mm_iv 0 (.invokestatic 108) = some (0, 25) := by decide +kernel
theorem iv_0_v214 : mm_iv 0 (.invokevirtual 214) = some (1, 144) := by decide +kernel
theorem iv_0_v274 : mm_iv 0 (.invokevirtual 274) = some (1, 163) := by decide +kernel
theorem o_144 : mm_o 144 = 0 := by decide +kernel
theorem o_163 : mm_o 163 = 0 := by decide +kernel
theorem na_0_25 : mm_nas 0 25 = 1 := by decide +kernel
theorem na_1_144 : mm_nas 1 144 = 2 := by decide +kernel
theorem na_1_163 : mm_nas 1 163 = 4 := by decide +kernel
theorem mby_eq {io : Nat → Int32} {sg : Nat → Nat → Int32} {cm : Nat → Nat} {w : Nat → Nat → Nat} {nx s h : Nat} (hh : h < 2 ^ 31) : sp_mby io sg cm w nx s (nI h) = sp_fst (sp_mayP io sg cm w s (nI h) (tN (sg 53 s)) (tN (sp_lev sg s (tN (sg 10 h)))) (tN (sg 54 s)) (tN (sg 52 s))) nx := by
  unfold sp_mby
  rw [tN_nI hh]
theorem n_out {v : Int32} {a b : Nat} (h : ¬ (nI a ≤ v ∧ v ≤ nI b)) (ha : a < 2 ^ 31) (hb : b < 2 ^ 31) : v.toInt < (a : Int) ∨ (b : Int) < v.toInt := by
  rcases Classical.em (nI a ≤ v) with z | z
  · have : ¬ v.toInt ≤ (b : Int) := fun y => h ⟨z, Int32.le_iff_toInt_le.mpr (by rw [nI_toInt hb]; exact y)⟩
    omega
  · have : ¬ (a : Int) ≤ v.toInt := fun y => z (Int32.le_iff_toInt_le.mpr (by rw [nI_toInt ha]; exact y))
    omega
set_option maxHeartbeats 4000000 in
theorem k_agTo_n {M : mH} {T : Nat → mT} {cs sg : Nat → Nat → Int32} {io : Nat → Int32} {e : Nat → Nat} {D : Nat → Nat → Nat} {nh nx ns nf ny tp : Nat} {cm : Nat → Nat} {w : Nat → Nat → Nat} {cn : Nat → Nat} {wc : Nat → Nat → Nat} (hV : CV M T cs io sg e D nh nx ns nf ny tp cm w cn wc) (s : Nat) (v : Int32) (hs : s < ns) (hno : ¬ (0 ≤ v ∧ v < nI nh)) : mm_Ev 3 107 [.ref 0, .ref (D 7 s), .int v] (hk M T cs) ((some (.int (-1)), hk M T cs)) := by
  obtain ⟨⟨hM, hMs, hW⟩, hC, hT, hR, hJ⟩ := id hV
  obtain ⟨hF, ⟨hL0, hL1, hL2⟩, hSc, hAg, hSt⟩ := id hC
  obtain ⟨⟨⟨h3, hnh⟩, ⟨h4, hnx⟩, ⟨h5, hns⟩, ⟨h7, hnf⟩, ⟨h6, hny⟩, ⟨h23, htp⟩⟩, hRa, hRb, hRs, hRs2, hRs3, hRx, hCD, hRt, hRt2, hRf⟩ := id hR
  refine r_ev (by decide +kernel) (show (3 : Nat) ≤ mm_nL 107 by decide +kernel) ?_
  show mm_Ru 2 (0, 7, false, prog_1_method_39_code, some .int) 0 [(0, .ref 0), (1, .ref (D 7 s)), (2, .int v)] [] (hk M T cs) (fun r9 => r9 = ((some (.int (-1)), hk M T cs)))
  refine r_aload_n rfl dc_1_39_0 ?_
  refine r_iload_n rfl dc_1_39_1 ?_
  refine h_callv (t := cT e 0) (as := [.int v]) (rest := []) (v := .null) (M1 := hk M T cs) rfl rfl iv_0_v128 (Or.inl rfl) na_1_39 (hF 0 (by decide)) ⟨by omega, by omega⟩ (show (0 : Nat) < 14 by decide) o_39 rfl (show (0 : Nat) ≤ 8 by decide) dc_1_39_2 (k_scAt_no hV v hno) ?_
  refine r_astore_nZ (ls' := [(3, .null), (0, .ref 0), (1, .ref (D 7 s)), (2, .int v)]) (by decide) rfl dc_1_39_5 ?_
  refine r_aload_nZ rfl dc_1_39_6 ?_
  refine r_ifnonnullZ dc_1_39_7 ?_
  refine r_iconst (v := -1) (by decide) dc_1_39_10 ?_
  exact r_iret rfl dc_1_39_11 (rfl)
set_option maxHeartbeats 4000000 in
theorem s_known {M : mH} {T : Nat → mT} {cs sg : Nat → Nat → Int32} {io : Nat → Int32} {e : Nat → Nat} {D : Nat → Nat → Nat} {nh nx ns nf ny tp : Nat} {cm : Nat → Nat} {w : Nat → Nat → Nat} {cn : Nat → Nat} {wc : Nat → Nat → Nat} (hV : CV M T cs io sg e D nh nx ns nf ny tp cm w cn wc) (s k t : Int32) : ∃ (v : Value), ∃ (cs2 : Nat → Nat → Int32), ∃ (io2 : Nat → Int32), ∃ (sg2 : Nat → Nat → Int32), ∃ (nf2 : Nat), ∃ (ny2 : Nat), ∃ (tp2 : Nat), (mm_Ev 8 257 [.ref 100, .int s, .int k, .int t] (rf_mk (hk M T cs2) io sg) (some v, rf_mk (hk M T cs2) io2 sg2) ∧ CV M T cs2 io2 sg2 e D nh nx ns nf2 ny2 tp2 cm w cn wc) ∧ mm_Ev 5 158 [.ref 0, .int s, .int k, .int t] (hk M T cs) ((some v, hk M T cs2)) := by
  have hq9 : ∃ z, (fun r9 => ∃ (v : Value), ∃ (cs2 : Nat → Nat → Int32), ∃ (io2 : Nat → Int32), ∃ (sg2 : Nat → Nat → Int32), ∃ (nf2 : Nat), ∃ (ny2 : Nat), ∃ (tp2 : Nat), (mm_Ev 8 257 [.ref 100, .int s, .int k, .int t] (rf_mk (hk M T cs2) io sg) (some v, rf_mk (hk M T cs2) io2 sg2) ∧ CV M T cs2 io2 sg2 e D nh nx ns nf2 ny2 tp2 cm w cn wc) ∧ r9 = ((some v, hk M T cs2))) z ∧ mm_Ev 5 158 [.ref 0, .int s, .int k, .int t] (hk M T cs) z := by
    obtain ⟨⟨hM, hMs, hW⟩, hC, hT, hR, hJ⟩ := id hV
    obtain ⟨hF, ⟨hL0, hL1, hL2⟩, hSc, hAg, hSt⟩ := id hC
    obtain ⟨⟨⟨h3, hnh⟩, ⟨h4, hnx⟩, ⟨h5, hns⟩, ⟨h7, hnf⟩, ⟨h6, hny⟩, ⟨h23, htp⟩⟩, hRa, hRb, hRs, hRs2, hRs3, hRx, hCD, hRt, hRt2, hRf⟩ := id hR
    refine r_evQ (by decide +kernel) (show (4 : Nat) ≤ mm_nL 158 by decide +kernel) ?_
    show mm_Ru 4 (0, 4, false, prog_1_method_24_code, some .int) 0 [(0, .ref 0), (1, .int s), (2, .int k), (3, .int t)] [] (hk M T cs) (fun r9 => ∃ (v : Value), ∃ (cs2 : Nat → Nat → Int32), ∃ (io2 : Nat → Int32), ∃ (sg2 : Nat → Nat → Int32), ∃ (nf2 : Nat), ∃ (ny2 : Nat), ∃ (tp2 : Nat), (mm_Ev 8 257 [.ref 100, .int s, .int k, .int t] (rf_mk (hk M T cs2) io sg) (some v, rf_mk (hk M T cs2) io2 sg2) ∧ CV M T cs2 io2 sg2 e D nh nx ns nf2 ny2 tp2 cm w cn wc) ∧ r9 = ((some v, hk M T cs2)))
    refine r_aload_n rfl dc_1_24_0 ?_
    refine r_iload_n rfl dc_1_24_1 ?_
    by_cases h_2 : 0 ≤ s ∧ s < nI ns
    · skip
      obtain ⟨n_2, hn_2, e_2⟩ := g_lt h_2 (by omega)
      subst e_2
      refine h_callv (t := cT e 0) (as := [.int (nI n_2)]) (rest := []) (v := .ref (D 7 n_2)) (M1 := hk M T cs) rfl rfl iv_0_v180 (Or.inl rfl) na_1_102 (hF 0 (by decide)) ⟨by omega, by omega⟩ (show (0 : Nat) < 14 by decide) o_102 rfl (show (0 : Nat) ≤ 8 by decide) dc_1_24_2 (k_stAt_ok hV n_2 hn_2) ?_
      refine r_ifnull dc_1_24_5 ?_
      refine r_iload_n rfl dc_1_24_8 ?_
      refine r_iconst (v := nI 0) (by decide) dc_1_24_9 ?_
      refine r_iconst (v := nI 3) (by decide) dc_1_24_10 ?_
      by_cases h_11 : nI 0 ≤ k ∧ k ≤ nI 3
      · skip
        obtain ⟨n_11, hn_11, e_11⟩ := g_nat2 h_11 (by omega) (by omega)
        subst e_11
        refine h_callS (as := [.int (nI n_11), .int (nI 0), .int (nI 3)]) (rest := []) (v := .int (nI 1)) rfl rfl iv_0_s84 (Or.inl rfl) na_0_13 rfl (show (0 : Nat) ≤ 8 by decide) dc_1_24_11 (mm_Ev_up (by decide : 1 ≤ 4) (by have h9 := k_in (hk M T cs) (nI n_11) (nI 0) (nI 3); rw [show sp_in (nI n_11) (nI 0) (nI 3) = nI 1 from sp_in_ok (by omega) (by omega) (by omega)] at h9; exact h9)) ?_
        refine r_ifeq (t := 24) (by decide) dc_1_24_14 (fun c_14 => ?_) (fun c_14 => ?_)
        · exact absurd c_14 (by decide)
        · skip
          refine r_iload_n rfl dc_1_24_17 ?_
          by_cases h_18 : nI 0 ≤ t ∧ t ≤ nI 359
          · skip
            obtain ⟨n_18, hn_18, e_18⟩ := g_nat2 h_18 (by omega) (by omega)
            subst e_18
            refine h_callS (as := [.int (nI n_18)]) (rest := []) (v := .int (nI 1)) rfl rfl iv_0_s108 (Or.inl rfl) na_0_25 rfl (show (0 : Nat) ≤ 8 by decide) dc_1_24_18 (mm_Ev_up (by decide : 2 ≤ 4) (by have h9 := k_isDay (hk M T cs) (nI n_18); rw [show sp_in (nI n_18) (nI 0) (nI 359) = nI 1 from sp_in_ok (by omega) (by omega) (by omega)] at h9; exact h9)) ?_
            refine r_ifne (t := 26) (by decide) dc_1_24_21 (fun c_21 => ?_) (fun c_21 => ?_)
            · skip
              refine r_aload_n rfl dc_1_24_26 ?_
              refine h_get (t := cT e 0) (v := .ref 20) fx_0_54 (hF 0 (by decide)) ⟨by omega, by omega⟩ (rfl) dc_1_24_27 ?_
              refine r_iload_n rfl dc_1_24_30 ?_
              refine r_iload_n rfl dc_1_24_31 ?_
              refine r_iload_n rfl dc_1_24_32 ?_
              refine h_callv (t := cT e 20) (as := [.int (nI n_2), .int (nI n_11), .int (nI n_18)]) (rest := []) (v := .int (sp_kn sg (nI n_2) (nI n_11) (nI n_18) nf)) (M1 := hk M T cs) rfl rfl iv_0_v258 (Or.inl rfl) na_1_159 (hF 20 (by decide)) ⟨by omega, by omega⟩ (show (5 : Nat) < 14 by decide) o_159 rfl (show (0 : Nat) ≤ 8 by decide) dc_1_24_33 (mm_Ev_up (by decide : 2 ≤ 4) (k_dayOf M hM T e hF cs sg nf hT.2.2.2.2.1 hnf hT.2.2.2.2.2.2 (nI n_2) (nI n_11) (nI n_18))) ?_
              refine r_iret rfl dc_1_24_36 ?_
              refine ⟨_, _, io, sg, nf, ny, tp, ⟨mm_Ev_up (by decide) (c_known_ok (hk M T cs) hM io sg ns h5 hns nf h7 hnf n_2 n_11 n_18 hn_2 (by omega) (by omega)), hV⟩, rfl⟩
            · exact absurd c_21 (by decide)
          · skip
            refine h_callS (as := [.int t]) (rest := []) (v := .int (nI 0)) rfl rfl iv_0_s108 (Or.inl rfl) na_0_25 rfl (show (0 : Nat) ≤ 8 by decide) dc_1_24_18 (mm_Ev_up (by decide : 2 ≤ 4) (by have h9 := k_isDay (hk M T cs) t; rw [show sp_in t (nI 0) (nI 359) = nI 0 from if_neg h_18] at h9; exact h9)) ?_
            refine r_ifne (t := 26) (by decide) dc_1_24_21 (fun c_21 => ?_) (fun c_21 => ?_)
            · exact absurd c_21 (by decide)
            · skip
              refine r_iconst (v := -1) (by decide) dc_1_24_24 ?_
              refine r_iret rfl dc_1_24_25 ?_
              refine ⟨_, _, io, sg, nf, ny, tp, ⟨mm_Ev_up (by decide) (c_known_no (hk M T cs) hM io sg _ _ _ (fun g => h_18 (g_day.mp g.2.2))), hV⟩, rfl⟩
      · skip
        refine h_callS (as := [.int k, .int (nI 0), .int (nI 3)]) (rest := []) (v := .int (nI 0)) rfl rfl iv_0_s84 (Or.inl rfl) na_0_13 rfl (show (0 : Nat) ≤ 8 by decide) dc_1_24_11 (mm_Ev_up (by decide : 1 ≤ 4) (by have h9 := k_in (hk M T cs) k (nI 0) (nI 3); rw [show sp_in k (nI 0) (nI 3) = nI 0 from if_neg h_11] at h9; exact h9)) ?_
        refine r_ifeq (t := 24) (by decide) dc_1_24_14 (fun c_14 => ?_) (fun c_14 => ?_)
        · skip
          refine r_iconst (v := -1) (by decide) dc_1_24_24 ?_
          refine r_iret rfl dc_1_24_25 ?_
          refine ⟨_, _, io, sg, nf, ny, tp, ⟨mm_Ev_up (by decide) (c_known_no (hk M T cs) hM io sg _ _ _ (fun g => h_11 (g.2.1))), hV⟩, rfl⟩
        · exact absurd c_14 (by decide)
    · skip
      refine h_callv (t := cT e 0) (as := [.int s]) (rest := []) (v := .null) (M1 := hk M T cs) rfl rfl iv_0_v180 (Or.inl rfl) na_1_102 (hF 0 (by decide)) ⟨by omega, by omega⟩ (show (0 : Nat) < 14 by decide) o_102 rfl (show (0 : Nat) ≤ 8 by decide) dc_1_24_2 (mm_Ev_up (by decide : 2 ≤ 4) (k_stAt_no hV s h_2)) ?_
      refine r_ifnullZ (t := 24) (by decide) dc_1_24_5 ?_
      refine r_iconst (v := -1) (by decide) dc_1_24_24 ?_
      refine r_iret rfl dc_1_24_25 ?_
      refine ⟨_, _, io, sg, nf, ny, tp, ⟨mm_Ev_up (by decide) (c_known_no (hk M T cs) hM io sg _ _ _ (fun g => h_2 (by rw [← h5]; exact g.1))), hV⟩, rfl⟩
  obtain ⟨z9, ⟨v, cs2, io2, sg2, nf2, ny2, tp2, p9, e9⟩, h9⟩ := hq9
  subst e9
  exact ⟨v, cs2, io2, sg2, nf2, ny2, tp2, p9, h9⟩
theorem st_known (s k t : Int32) : StpN 158 257 [.int s, .int k, .int t] := fun M T cs sg io e D nh nx ns nf ny tp cm w cn wc hV => by
  obtain ⟨v, cs2, io2, sg2, nf2, ny2, tp2, hp, h⟩ := s_known hV s k t
  exact ⟨v, cs2, io2, sg2, nf2, ny2, tp2, hp, mm_Ev_up (by decide) h⟩
set_option maxHeartbeats 4000000 in
theorem s_may {M : mH} {T : Nat → mT} {cs sg : Nat → Nat → Int32} {io : Nat → Int32} {e : Nat → Nat} {D : Nat → Nat → Nat} {nh nx ns nf ny tp : Nat} {cm : Nat → Nat} {w : Nat → Nat → Nat} {cn : Nat → Nat} {wc : Nat → Nat → Nat} (hV : CV M T cs io sg e D nh nx ns nf ny tp cm w cn wc) (s h : Int32) : ∃ (v : Value), ∃ (cs2 : Nat → Nat → Int32), ∃ (io2 : Nat → Int32), ∃ (sg2 : Nat → Nat → Int32), ∃ (nf2 : Nat), ∃ (ny2 : Nat), ∃ (tp2 : Nat), (mm_Ev 8 225 [.ref 100, .int s, .int h] (rf_mk (hk M T cs2) io sg) (some v, rf_mk (hk M T cs2) io2 sg2) ∧ CV M T cs2 io2 sg2 e D nh nx ns nf2 ny2 tp2 cm w cn wc) ∧ mm_Ev 7 106 [.ref 0, .int s, .int h] (hk M T cs) ((some v, hk M T cs2)) := by
  have hq9 : ∃ z, (fun r9 => ∃ (v : Value), ∃ (cs2 : Nat → Nat → Int32), ∃ (io2 : Nat → Int32), ∃ (sg2 : Nat → Nat → Int32), ∃ (nf2 : Nat), ∃ (ny2 : Nat), ∃ (tp2 : Nat), (mm_Ev 8 225 [.ref 100, .int s, .int h] (rf_mk (hk M T cs2) io sg) (some v, rf_mk (hk M T cs2) io2 sg2) ∧ CV M T cs2 io2 sg2 e D nh nx ns nf2 ny2 tp2 cm w cn wc) ∧ r9 = ((some v, hk M T cs2))) z ∧ mm_Ev 7 106 [.ref 0, .int s, .int h] (hk M T cs) z := by
    obtain ⟨⟨hM, hMs, hW⟩, hC, hT, hR, hJ⟩ := id hV
    obtain ⟨hF, ⟨hL0, hL1, hL2⟩, hSc, hAg, hSt⟩ := id hC
    obtain ⟨⟨⟨h3, hnh⟩, ⟨h4, hnx⟩, ⟨h5, hns⟩, ⟨h7, hnf⟩, ⟨h6, hny⟩, ⟨h23, htp⟩⟩, hRa, hRb, hRs, hRs2, hRs3, hRx, hCD, hRt, hRt2, hRf⟩ := id hR
    refine r_evQ (by decide +kernel) (show (3 : Nat) ≤ mm_nL 106 by decide +kernel) ?_
    show mm_Ru 6 (0, 4, false, prog_1_method_14_code, some .int) 0 [(0, .ref 0), (1, .int s), (2, .int h)] [] (hk M T cs) (fun r9 => ∃ (v : Value), ∃ (cs2 : Nat → Nat → Int32), ∃ (io2 : Nat → Int32), ∃ (sg2 : Nat → Nat → Int32), ∃ (nf2 : Nat), ∃ (ny2 : Nat), ∃ (tp2 : Nat), (mm_Ev 8 225 [.ref 100, .int s, .int h] (rf_mk (hk M T cs2) io sg) (some v, rf_mk (hk M T cs2) io2 sg2) ∧ CV M T cs2 io2 sg2 e D nh nx ns nf2 ny2 tp2 cm w cn wc) ∧ r9 = ((some v, hk M T cs2)))
    refine r_aload_n rfl dc_1_14_0 ?_
    refine r_iload_n rfl dc_1_14_1 ?_
    by_cases h_2 : 0 ≤ s ∧ s < nI ns
    · skip
      obtain ⟨n_2, hn_2, e_2⟩ := g_lt h_2 (by omega)
      subst e_2
      refine h_callv (t := cT e 0) (as := [.int (nI n_2)]) (rest := []) (v := .ref (D 7 n_2)) (M1 := hk M T cs) rfl rfl iv_0_v180 (Or.inl rfl) na_1_102 (hF 0 (by decide)) ⟨by omega, by omega⟩ (show (0 : Nat) < 14 by decide) o_102 rfl (show (0 : Nat) ≤ 8 by decide) dc_1_14_2 (mm_Ev_up (by decide : 4 ≤ 6) (k_stAt_ok hV n_2 hn_2)) ?_
      refine r_astore_n (ls' := [(3, .ref (D 7 n_2)), (0, .ref 0), (1, .int (nI n_2)), (2, .int h)]) (by decide) rfl dc_1_14_5 ?_
      refine r_aload_n rfl dc_1_14_6 ?_
      refine r_ifnonnull (t := 14) (by decide) dc_1_14_7 ?_
      refine r_aload_n rfl dc_1_14_14 ?_
      refine r_aload_n rfl dc_1_14_15 ?_
      refine r_iload_n rfl dc_1_14_16 ?_
      by_cases h_17 : 0 ≤ h ∧ h < nI nh
      · skip
        obtain ⟨n_17, hn_17, e_17⟩ := g_lt h_17 (by omega)
        subst e_17
        obtain ⟨cs3, hf3, hev3⟩ := k_agTo hV n_2 n_17 hn_2 hn_17
        rw [mby_eq (by omega)] at hev3
        refine h_callv (t := cT e 0) (as := [.ref (D 7 n_2), .int (nI n_17)]) (rest := []) (v := .int (sp_fst (sp_mayP io sg cm w n_2 (nI n_17) (tN (sg 53 n_2)) (tN (sp_lev sg n_2 (tN (sg 10 n_17)))) (tN (sg 54 n_2)) (tN (sg 52 n_2))) nx)) (M1 := hk M T cs3) rfl rfl iv_0_v190 (Or.inl rfl) na_1_107 (hF 0 (by decide)) ⟨by omega, by omega⟩ (show (0 : Nat) < 14 by decide) o_107 rfl (show (0 : Nat) ≤ 8 by decide) dc_1_14_17 (mm_Ev_up (by decide : 5 ≤ 6) (hev3)) ?_
        refine r_iret rfl dc_1_14_20 ?_
        have q10 := inN_tN (hRs n_17 hn_17).2.1 (by decide)
        have q52 := inN_tN (hRt n_2 hn_2).2.1 (by decide)
        have q53 := inN_tN (hRt n_2 hn_2).2.2.1 (by decide)
        have q54 := inN_tN (hRt n_2 hn_2).2.2.2.1 (by decide)
        have qlv := inN_tN (lev_in ((hRt n_2 hn_2).2.2.2.2.2.1 (tN (sg 10 n_17)) (by omega))) (by decide)
        obtain ⟨q, hq⟩ := c_may_ok (hk M T cs3) hM io sg ns h5 hns nh h3 hnh nx h4 hnx cm w hCD n_2 n_17 (tN (sg 10 n_17)) (tN (sg 53 n_2)) (tN (sp_lev sg n_2 (tN (sg 10 n_17)))) (tN (sg 54 n_2)) (tN (sg 52 n_2)) (by omega) (by omega) q10.1 (by omega) q53.1 q53.2 qlv.1 qlv.2 q54.1 q54.2 q52.1 q52.2 hn_2 hn_17
        refine ⟨_, _, io, (va_up sg 48 q), nf, ny, tp, ⟨mm_Ev_up (by decide) (hq), CV_sc hV (FrD_C hf3) (fun k h1 h2 => up_o sg q (by omega)) (fun k _ => rfl)⟩, rfl⟩
      · skip
        refine h_callv (t := cT e 0) (as := [.ref (D 7 n_2), .int h]) (rest := []) (v := .int ((-1))) (M1 := hk M T cs) rfl rfl iv_0_v190 (Or.inl rfl) na_1_107 (hF 0 (by decide)) ⟨by omega, by omega⟩ (show (0 : Nat) < 14 by decide) o_107 rfl (show (0 : Nat) ≤ 8 by decide) dc_1_14_17 (mm_Ev_up (by decide : 3 ≤ 6) (k_agTo_n hV n_2 h hn_2 h_17)) ?_
        refine r_iret rfl dc_1_14_20 ?_
        refine ⟨_, _, io, sg, nf, ny, tp, ⟨mm_Ev_up (by decide) (c_may_no (hk M T cs) hM io sg _ _ (fun g => h_17 (by rw [← h3]; exact g.2))), hV⟩, rfl⟩
    · skip
      refine h_callv (t := cT e 0) (as := [.int s]) (rest := []) (v := .null) (M1 := hk M T cs) rfl rfl iv_0_v180 (Or.inl rfl) na_1_102 (hF 0 (by decide)) ⟨by omega, by omega⟩ (show (0 : Nat) < 14 by decide) o_102 rfl (show (0 : Nat) ≤ 8 by decide) dc_1_14_2 (mm_Ev_up (by decide : 2 ≤ 6) (k_stAt_no hV s h_2)) ?_
      refine r_astore_nZ (ls' := [(3, .null), (0, .ref 0), (1, .int s), (2, .int h)]) (by decide) rfl dc_1_14_5 ?_
      refine r_aload_nZ rfl dc_1_14_6 ?_
      refine r_ifnonnullZ dc_1_14_7 ?_
      refine r_iconst (v := -1) (by decide) dc_1_14_10 ?_
      refine r_goto (t := 20) (by decide) dc_1_14_11 ?_
      refine r_iret rfl dc_1_14_20 ?_
      refine ⟨_, _, io, sg, nf, ny, tp, ⟨mm_Ev_up (by decide) (c_may_no (hk M T cs) hM io sg _ _ (fun g => h_2 (by rw [← h5]; exact g.1))), hV⟩, rfl⟩
  obtain ⟨z9, ⟨v, cs2, io2, sg2, nf2, ny2, tp2, p9, e9⟩, h9⟩ := hq9
  subst e9
  exact ⟨v, cs2, io2, sg2, nf2, ny2, tp2, p9, h9⟩
theorem st_may (s h : Int32) : StpN 106 225 [.int s, .int h] := fun M T cs sg io e D nh nx ns nf ny tp cm w cn wc hV => by
  obtain ⟨v, cs2, io2, sg2, nf2, ny2, tp2, hp, h⟩ := s_may hV s h
  exact ⟨v, cs2, io2, sg2, nf2, ny2, tp2, hp, mm_Ev_up (by decide) h⟩
set_option maxHeartbeats 4000000 in
theorem s_balance {M : mH} {T : Nat → mT} {cs sg : Nat → Nat → Int32} {io : Nat → Int32} {e : Nat → Nat} {D : Nat → Nat → Nat} {nh nx ns nf ny tp : Nat} {cm : Nat → Nat} {w : Nat → Nat → Nat} {cn : Nat → Nat} {wc : Nat → Nat → Nat} (hV : CV M T cs io sg e D nh nx ns nf ny tp cm w cn wc) (x : Int32) : ∃ (v : Value), ∃ (cs2 : Nat → Nat → Int32), ∃ (io2 : Nat → Int32), ∃ (sg2 : Nat → Nat → Int32), ∃ (nf2 : Nat), ∃ (ny2 : Nat), ∃ (tp2 : Nat), (mm_Ev 8 234 [.ref 100, .int x] (rf_mk (hk M T cs2) io sg) (some v, rf_mk (hk M T cs2) io2 sg2) ∧ CV M T cs2 io2 sg2 e D nh nx ns nf2 ny2 tp2 cm w cn wc) ∧ mm_Ev 8 143 [.ref 0, .int x] (hk M T cs) ((some v, hk M T cs2)) := by
  have hq9 : ∃ z, (fun r9 => ∃ (v : Value), ∃ (cs2 : Nat → Nat → Int32), ∃ (io2 : Nat → Int32), ∃ (sg2 : Nat → Nat → Int32), ∃ (nf2 : Nat), ∃ (ny2 : Nat), ∃ (tp2 : Nat), (mm_Ev 8 234 [.ref 100, .int x] (rf_mk (hk M T cs2) io sg) (some v, rf_mk (hk M T cs2) io2 sg2) ∧ CV M T cs2 io2 sg2 e D nh nx ns nf2 ny2 tp2 cm w cn wc) ∧ r9 = ((some v, hk M T cs2))) z ∧ mm_Ev 8 143 [.ref 0, .int x] (hk M T cs) z := by
    obtain ⟨⟨hM, hMs, hW⟩, hC, hT, hR, hJ⟩ := id hV
    obtain ⟨hF, ⟨hL0, hL1, hL2⟩, hSc, hAg, hSt⟩ := id hC
    obtain ⟨⟨⟨h3, hnh⟩, ⟨h4, hnx⟩, ⟨h5, hns⟩, ⟨h7, hnf⟩, ⟨h6, hny⟩, ⟨h23, htp⟩⟩, hRa, hRb, hRs, hRs2, hRs3, hRx, hCD, hRt, hRt2, hRf⟩ := id hR
    refine r_evQ (by decide +kernel) (show (2 : Nat) ≤ mm_nL 143 by decide +kernel) ?_
    show mm_Ru 7 (0, 2, false, prog_1_method_19_code, some .int) 0 [(0, .ref 0), (1, .int x)] [] (hk M T cs) (fun r9 => ∃ (v : Value), ∃ (cs2 : Nat → Nat → Int32), ∃ (io2 : Nat → Int32), ∃ (sg2 : Nat → Nat → Int32), ∃ (nf2 : Nat), ∃ (ny2 : Nat), ∃ (tp2 : Nat), (mm_Ev 8 234 [.ref 100, .int x] (rf_mk (hk M T cs2) io sg) (some v, rf_mk (hk M T cs2) io2 sg2) ∧ CV M T cs2 io2 sg2 e D nh nx ns nf2 ny2 tp2 cm w cn wc) ∧ r9 = ((some v, hk M T cs2)))
    refine r_aload_n rfl dc_1_19_0 ?_
    refine r_iload_n rfl dc_1_19_1 ?_
    by_cases h_2 : 0 ≤ x ∧ x < nI nx
    · obtain ⟨n_2, hn_2, e_2⟩ := g_lt h_2 (by omega)
      subst e_2
      refine h_callv (t := cT e 0) (as := [.int (nI n_2)]) (rest := []) (v := .int (sp_bal sg ns n_2)) (M1 := hk M T cs) rfl rfl iv_0_v214 (Or.inl rfl) na_1_144 (hF 0 (by decide)) ⟨by omega, by omega⟩ (show (0 : Nat) < 14 by decide) o_144 rfl (show (0 : Nat) ≤ 8 by decide) dc_1_19_2 (mm_Ev_up (by decide : 6 ≤ 7) (k_balOf hV n_2 hn_2)) ?_
      refine r_iret rfl dc_1_19_5 ?_
      refine ⟨_, _, io, sg, nf, ny, tp, ⟨mm_Ev_up (by decide) (c_balance_ok (hk M T cs) hM io sg ns h5 hns nx h4 hnx n_2 hn_2), hV⟩, rfl⟩
    · by_cases h_0 : 0 ≤ x
      · skip
        refine h_callv (t := cT e 0) (as := [.int x]) (rest := []) (v := .int (nI 0)) (M1 := hk M T cs) rfl rfl iv_0_v214 (Or.inl rfl) na_1_144 (hF 0 (by decide)) ⟨by omega, by omega⟩ (show (0 : Nat) < 14 by decide) o_144 rfl (show (0 : Nat) ≤ 8 by decide) dc_1_19_2 (mm_Ev_up (by decide : 4 ≤ 7) (k_balH hV x h_0 (Int32.not_lt.mp (fun z => h_2 ⟨h_0, z⟩)))) ?_
        refine r_iret rfl dc_1_19_5 ?_
        refine ⟨_, _, io, sg, nf, ny, tp, ⟨mm_Ev_up (by decide) (c_balance_no (hk M T cs) hM io sg _ (fun g => h_2 (by rw [← h4]; exact g))), hV⟩, rfl⟩
      · skip
        refine h_callv (t := cT e 0) (as := [.int x]) (rest := []) (v := .int (nI 0)) (M1 := hk M T cs) rfl rfl iv_0_v214 (Or.inl rfl) na_1_144 (hF 0 (by decide)) ⟨by omega, by omega⟩ (show (0 : Nat) < 14 by decide) o_144 rfl (show (0 : Nat) ≤ 8 by decide) dc_1_19_2 (mm_Ev_up (by decide : 1 ≤ 7) (k_balN hV x (Int32.not_le.mp h_0))) ?_
        refine r_iret rfl dc_1_19_5 ?_
        refine ⟨_, _, io, sg, nf, ny, tp, ⟨mm_Ev_up (by decide) (c_balance_no (hk M T cs) hM io sg _ (fun g => h_2 (by rw [← h4]; exact g))), hV⟩, rfl⟩
  obtain ⟨z9, ⟨v, cs2, io2, sg2, nf2, ny2, tp2, p9, e9⟩, h9⟩ := hq9
  subst e9
  exact ⟨v, cs2, io2, sg2, nf2, ny2, tp2, p9, h9⟩
theorem st_balance (x : Int32) : StpN 143 234 [.int x] := fun M T cs sg io e D nh nx ns nf ny tp cm w cn wc hV => by
  obtain ⟨v, cs2, io2, sg2, nf2, ny2, tp2, hp, h⟩ := s_balance hV x
  exact ⟨v, cs2, io2, sg2, nf2, ny2, tp2, hp, mm_Ev_up (by decide) h⟩
set_option maxHeartbeats 4000000 in
theorem s_there {M : mH} {T : Nat → mT} {cs sg : Nat → Nat → Int32} {io : Nat → Int32} {e : Nat → Nat} {D : Nat → Nat → Nat} {nh nx ns nf ny tp : Nat} {cm : Nat → Nat} {w : Nat → Nat → Nat} {cn : Nat → Nat} {wc : Nat → Nat → Nat} (hV : CV M T cs io sg e D nh nx ns nf ny tp cm w cn wc) (h d t : Int32) : ∃ (v : Value), ∃ (cs2 : Nat → Nat → Int32), ∃ (io2 : Nat → Int32), ∃ (sg2 : Nat → Nat → Int32), ∃ (nf2 : Nat), ∃ (ny2 : Nat), ∃ (tp2 : Nat), (mm_Ev 8 260 [.ref 100, .int h, .int d, .int t] (rf_mk (hk M T cs2) io sg) (some v, rf_mk (hk M T cs2) io2 sg2) ∧ CV M T cs2 io2 sg2 e D nh nx ns nf2 ny2 tp2 cm w cn wc) ∧ mm_Ev 7 162 [.ref 0, .int h, .int d, .int t] (hk M T cs) ((some v, hk M T cs2)) := by
  have hq9 : ∃ z, (fun r9 => ∃ (v : Value), ∃ (cs2 : Nat → Nat → Int32), ∃ (io2 : Nat → Int32), ∃ (sg2 : Nat → Nat → Int32), ∃ (nf2 : Nat), ∃ (ny2 : Nat), ∃ (tp2 : Nat), (mm_Ev 8 260 [.ref 100, .int h, .int d, .int t] (rf_mk (hk M T cs2) io sg) (some v, rf_mk (hk M T cs2) io2 sg2) ∧ CV M T cs2 io2 sg2 e D nh nx ns nf2 ny2 tp2 cm w cn wc) ∧ r9 = ((some v, hk M T cs2))) z ∧ mm_Ev 7 162 [.ref 0, .int h, .int d, .int t] (hk M T cs) z := by
    obtain ⟨⟨hM, hMs, hW⟩, hC, hT, hR, hJ⟩ := id hV
    obtain ⟨hF, ⟨hL0, hL1, hL2⟩, hSc, hAg, hSt⟩ := id hC
    obtain ⟨⟨⟨h3, hnh⟩, ⟨h4, hnx⟩, ⟨h5, hns⟩, ⟨h7, hnf⟩, ⟨h6, hny⟩, ⟨h23, htp⟩⟩, hRa, hRb, hRs, hRs2, hRs3, hRx, hCD, hRt, hRt2, hRf⟩ := id hR
    refine r_evQ (by decide +kernel) (show (4 : Nat) ≤ mm_nL 162 by decide +kernel) ?_
    show mm_Ru 6 (0, 5, false, prog_1_method_26_code, some .int) 0 [(0, .ref 0), (1, .int h), (2, .int d), (3, .int t)] [] (hk M T cs) (fun r9 => ∃ (v : Value), ∃ (cs2 : Nat → Nat → Int32), ∃ (io2 : Nat → Int32), ∃ (sg2 : Nat → Nat → Int32), ∃ (nf2 : Nat), ∃ (ny2 : Nat), ∃ (tp2 : Nat), (mm_Ev 8 260 [.ref 100, .int h, .int d, .int t] (rf_mk (hk M T cs2) io sg) (some v, rf_mk (hk M T cs2) io2 sg2) ∧ CV M T cs2 io2 sg2 e D nh nx ns nf2 ny2 tp2 cm w cn wc) ∧ r9 = ((some v, hk M T cs2)))
    refine r_aload_n rfl dc_1_26_0 ?_
    refine r_iload_n rfl dc_1_26_1 ?_
    by_cases h_2 : 0 ≤ h ∧ h < nI nh
    · skip
      obtain ⟨n_2, hn_2, e_2⟩ := g_lt h_2 (by omega)
      subst e_2
      refine h_callv (t := cT e 0) (as := [.int (nI n_2)]) (rest := []) (v := .ref (D 0 n_2)) (M1 := hk M T cs) rfl rfl iv_0_v128 (Or.inl rfl) na_1_39 (hF 0 (by decide)) ⟨by omega, by omega⟩ (show (0 : Nat) < 14 by decide) o_39 rfl (show (0 : Nat) ≤ 8 by decide) dc_1_26_2 (mm_Ev_up (by decide : 4 ≤ 6) (k_scAt_ok hV n_2 hn_2)) ?_
      refine r_astore (ls' := [(4, .ref (D 0 n_2)), (0, .ref 0), (1, .int (nI n_2)), (2, .int d), (3, .int t)]) (by decide) rfl dc_1_26_5 ?_
      refine r_aload rfl dc_1_26_7 ?_
      refine r_ifnull dc_1_26_9 ?_
      refine r_iload_n rfl dc_1_26_12 ?_
      by_cases h_13 : nI 0 ≤ d ∧ d ≤ nI 359
      · skip
        obtain ⟨n_13, hn_13, e_13⟩ := g_nat2 h_13 (by omega) (by omega)
        subst e_13
        refine h_callS (as := [.int (nI n_13)]) (rest := []) (v := .int (nI 1)) rfl rfl iv_0_s108 (Or.inl rfl) na_0_25 rfl (show (0 : Nat) ≤ 8 by decide) dc_1_26_13 (mm_Ev_up (by decide : 2 ≤ 6) (by have h9 := k_isDay (hk M T cs) (nI n_13); rw [show sp_in (nI n_13) (nI 0) (nI 359) = nI 1 from sp_in_ok (by omega) (by omega) (by omega)] at h9; exact h9)) ?_
        refine r_ifeq (t := 26) (by decide) dc_1_26_16 (fun c_16 => ?_) (fun c_16 => ?_)
        · exact absurd c_16 (by decide)
        · skip
          refine r_iload_n rfl dc_1_26_19 ?_
          by_cases h_20 : nI 0 ≤ t ∧ t ≤ nI 359
          · skip
            obtain ⟨n_20, hn_20, e_20⟩ := g_nat2 h_20 (by omega) (by omega)
            subst e_20
            refine h_callS (as := [.int (nI n_20)]) (rest := []) (v := .int (nI 1)) rfl rfl iv_0_s108 (Or.inl rfl) na_0_25 rfl (show (0 : Nat) ≤ 8 by decide) dc_1_26_20 (mm_Ev_up (by decide : 2 ≤ 6) (by have h9 := k_isDay (hk M T cs) (nI n_20); rw [show sp_in (nI n_20) (nI 0) (nI 359) = nI 1 from sp_in_ok (by omega) (by omega) (by omega)] at h9; exact h9)) ?_
            refine r_ifne (t := 28) (by decide) dc_1_26_23 (fun c_23 => ?_) (fun c_23 => ?_)
            · skip
              refine r_aload_n rfl dc_1_26_28 ?_
              refine r_iload_n rfl dc_1_26_29 ?_
              refine r_aload rfl dc_1_26_30 ?_
              refine r_iload_n rfl dc_1_26_32 ?_
              obtain ⟨fr, tt, hft, htt, e13, e14⟩ := (hRs n_2 hn_2).2.2.2.1
              obtain ⟨cs3, ⟨hf3, h33⟩, hev3⟩ := k_count hV n_2 fr tt hn_2 e13 e14 hft htt (nI n_20)
              refine h_call0 (t := cT e 0) (as := [.int (nI n_2), .ref (D 0 n_2), .int (nI n_20)]) (rest := []) (M1 := hk M T cs3) rfl rfl iv_0_v274 (Or.inl rfl) na_1_163 (hF 0 (by decide)) ⟨by omega, by omega⟩ (show (0 : Nat) < 14 by decide) o_163 rfl (show (0 : Nat) ≤ 8 by decide) dc_1_26_33 (mm_Ev_up (by decide : 4 ≤ 6) (hev3)) ?_
              refine r_aload_n rfl dc_1_26_36 ?_
              refine h_get (t := cT e 0) (v := .ref 3) fx_0_20 (hF 0 (by decide)) ⟨by omega, by omega⟩ (rfl) dc_1_26_37 ?_
              refine r_iload_n rfl dc_1_26_40 ?_
              refine h_ild (n := 360) (e := n_13) (v := sp_ton sg nf ns n_2 (nI n_13) (nI n_20)) (hF 3 (by decide)) ⟨by omega, by omega⟩ (show n_13 < 360 by omega) (by omega) (h33 n_13 (by omega)) dc_1_26_41 ?_
              refine r_iret rfl dc_1_26_42 ?_
              refine ⟨_, _, io, sg, nf, ny, tp, ⟨mm_Ev_up (by decide) (c_there_ok (hk M T cs3) hM io sg ns h5 hns nh h3 hnh nf h7 hnf n_2 n_13 n_20 hn_2 (by omega) (by omega)), (CV_f hV hf3)⟩, rfl⟩
            · exact absurd c_23 (by decide)
          · skip
            refine h_callS (as := [.int t]) (rest := []) (v := .int (nI 0)) rfl rfl iv_0_s108 (Or.inl rfl) na_0_25 rfl (show (0 : Nat) ≤ 8 by decide) dc_1_26_20 (mm_Ev_up (by decide : 2 ≤ 6) (by have h9 := k_isDay (hk M T cs) t; rw [show sp_in t (nI 0) (nI 359) = nI 0 from if_neg h_20] at h9; exact h9)) ?_
            refine r_ifne (t := 28) (by decide) dc_1_26_23 (fun c_23 => ?_) (fun c_23 => ?_)
            · exact absurd c_23 (by decide)
            · skip
              refine r_iconst (v := -1) (by decide) dc_1_26_26 ?_
              refine r_iret rfl dc_1_26_27 ?_
              refine ⟨_, _, io, sg, nf, ny, tp, ⟨mm_Ev_up (by decide) (c_there_no (hk M T cs) hM io sg _ _ _ (fun g => h_20 (g_day.mp g.2.2))), hV⟩, rfl⟩
      · skip
        refine h_callS (as := [.int d]) (rest := []) (v := .int (nI 0)) rfl rfl iv_0_s108 (Or.inl rfl) na_0_25 rfl (show (0 : Nat) ≤ 8 by decide) dc_1_26_13 (mm_Ev_up (by decide : 2 ≤ 6) (by have h9 := k_isDay (hk M T cs) d; rw [show sp_in d (nI 0) (nI 359) = nI 0 from if_neg h_13] at h9; exact h9)) ?_
        refine r_ifeq (t := 26) (by decide) dc_1_26_16 (fun c_16 => ?_) (fun c_16 => ?_)
        · skip
          refine r_iconst (v := -1) (by decide) dc_1_26_26 ?_
          refine r_iret rfl dc_1_26_27 ?_
          refine ⟨_, _, io, sg, nf, ny, tp, ⟨mm_Ev_up (by decide) (c_there_no (hk M T cs) hM io sg _ _ _ (fun g => h_13 (g_day.mp g.2.1))), hV⟩, rfl⟩
        · exact absurd c_16 (by decide)
    · skip
      refine h_callv (t := cT e 0) (as := [.int h]) (rest := []) (v := .null) (M1 := hk M T cs) rfl rfl iv_0_v128 (Or.inl rfl) na_1_39 (hF 0 (by decide)) ⟨by omega, by omega⟩ (show (0 : Nat) < 14 by decide) o_39 rfl (show (0 : Nat) ≤ 8 by decide) dc_1_26_2 (mm_Ev_up (by decide : 2 ≤ 6) (k_scAt_no hV h h_2)) ?_
      refine r_astoreZ (ls' := [(4, .null), (0, .ref 0), (1, .int h), (2, .int d), (3, .int t)]) (by decide) rfl dc_1_26_5 ?_
      refine r_aloadZ rfl dc_1_26_7 ?_
      refine r_ifnullZ (t := 26) (by decide) dc_1_26_9 ?_
      refine r_iconst (v := -1) (by decide) dc_1_26_26 ?_
      refine r_iret rfl dc_1_26_27 ?_
      refine ⟨_, _, io, sg, nf, ny, tp, ⟨mm_Ev_up (by decide) (c_there_no (hk M T cs) hM io sg _ _ _ (fun g => h_2 (by rw [← h3]; exact g.1))), hV⟩, rfl⟩
  obtain ⟨z9, ⟨v, cs2, io2, sg2, nf2, ny2, tp2, p9, e9⟩, h9⟩ := hq9
  subst e9
  exact ⟨v, cs2, io2, sg2, nf2, ny2, tp2, p9, h9⟩
theorem st_there (h d t : Int32) : StpN 162 260 [.int h, .int d, .int t] := fun M T cs sg io e D nh nx ns nf ny tp cm w cn wc hV => by
  obtain ⟨v, cs2, io2, sg2, nf2, ny2, tp2, hp, h⟩ := s_there hV h d t
  exact ⟨v, cs2, io2, sg2, nf2, ny2, tp2, hp, mm_Ev_up (by decide) h⟩
set_option maxHeartbeats 4000000 in
theorem s_crowded {M : mH} {T : Nat → mT} {cs sg : Nat → Nat → Int32} {io : Nat → Int32} {e : Nat → Nat} {D : Nat → Nat → Nat} {nh nx ns nf ny tp : Nat} {cm : Nat → Nat} {w : Nat → Nat → Nat} {cn : Nat → Nat} {wc : Nat → Nat → Nat} (hV : CV M T cs io sg e D nh nx ns nf ny tp cm w cn wc) (h t : Int32) : ∃ (v : Value), ∃ (cs2 : Nat → Nat → Int32), ∃ (io2 : Nat → Int32), ∃ (sg2 : Nat → Nat → Int32), ∃ (nf2 : Nat), ∃ (ny2 : Nat), ∃ (tp2 : Nat), (mm_Ev 8 264 [.ref 100, .int h, .int t] (rf_mk (hk M T cs2) io sg) (some v, rf_mk (hk M T cs2) io2 sg2) ∧ CV M T cs2 io2 sg2 e D nh nx ns nf2 ny2 tp2 cm w cn wc) ∧ mm_Ev 7 170 [.ref 0, .int h, .int t] (hk M T cs) ((some v, hk M T cs2)) := by
  have hq9 : ∃ z, (fun r9 => ∃ (v : Value), ∃ (cs2 : Nat → Nat → Int32), ∃ (io2 : Nat → Int32), ∃ (sg2 : Nat → Nat → Int32), ∃ (nf2 : Nat), ∃ (ny2 : Nat), ∃ (tp2 : Nat), (mm_Ev 8 264 [.ref 100, .int h, .int t] (rf_mk (hk M T cs2) io sg) (some v, rf_mk (hk M T cs2) io2 sg2) ∧ CV M T cs2 io2 sg2 e D nh nx ns nf2 ny2 tp2 cm w cn wc) ∧ r9 = ((some v, hk M T cs2))) z ∧ mm_Ev 7 170 [.ref 0, .int h, .int t] (hk M T cs) z := by
    obtain ⟨⟨hM, hMs, hW⟩, hC, hT, hR, hJ⟩ := id hV
    obtain ⟨hF, ⟨hL0, hL1, hL2⟩, hSc, hAg, hSt⟩ := id hC
    obtain ⟨⟨⟨h3, hnh⟩, ⟨h4, hnx⟩, ⟨h5, hns⟩, ⟨h7, hnf⟩, ⟨h6, hny⟩, ⟨h23, htp⟩⟩, hRa, hRb, hRs, hRs2, hRs3, hRx, hCD, hRt, hRt2, hRf⟩ := id hR
    refine r_evQ (by decide +kernel) (show (3 : Nat) ≤ mm_nL 170 by decide +kernel) ?_
    show mm_Ru 6 (0, 5, false, prog_1_method_28_code, some .int) 0 [(0, .ref 0), (1, .int h), (2, .int t)] [] (hk M T cs) (fun r9 => ∃ (v : Value), ∃ (cs2 : Nat → Nat → Int32), ∃ (io2 : Nat → Int32), ∃ (sg2 : Nat → Nat → Int32), ∃ (nf2 : Nat), ∃ (ny2 : Nat), ∃ (tp2 : Nat), (mm_Ev 8 264 [.ref 100, .int h, .int t] (rf_mk (hk M T cs2) io sg) (some v, rf_mk (hk M T cs2) io2 sg2) ∧ CV M T cs2 io2 sg2 e D nh nx ns nf2 ny2 tp2 cm w cn wc) ∧ r9 = ((some v, hk M T cs2)))
    refine r_aload_n rfl dc_1_28_0 ?_
    refine r_iload_n rfl dc_1_28_1 ?_
    by_cases h_2 : 0 ≤ h ∧ h < nI nh
    · skip
      obtain ⟨n_2, hn_2, e_2⟩ := g_lt h_2 (by omega)
      subst e_2
      refine h_callv (t := cT e 0) (as := [.int (nI n_2)]) (rest := []) (v := .ref (D 0 n_2)) (M1 := hk M T cs) rfl rfl iv_0_v128 (Or.inl rfl) na_1_39 (hF 0 (by decide)) ⟨by omega, by omega⟩ (show (0 : Nat) < 14 by decide) o_39 rfl (show (0 : Nat) ≤ 8 by decide) dc_1_28_2 (mm_Ev_up (by decide : 4 ≤ 6) (k_scAt_ok hV n_2 hn_2)) ?_
      refine r_astore_n (ls' := [(3, .ref (D 0 n_2)), (0, .ref 0), (1, .int (nI n_2)), (2, .int t)]) (by decide) rfl dc_1_28_5 ?_
      refine r_aload_n rfl dc_1_28_6 ?_
      refine r_ifnull dc_1_28_7 ?_
      refine r_iload_n rfl dc_1_28_10 ?_
      by_cases h_11 : nI 0 ≤ t ∧ t ≤ nI 359
      · skip
        obtain ⟨n_11, hn_11, e_11⟩ := g_nat2 h_11 (by omega) (by omega)
        subst e_11
        refine h_callS (as := [.int (nI n_11)]) (rest := []) (v := .int (nI 1)) rfl rfl iv_0_s108 (Or.inl rfl) na_0_25 rfl (show (0 : Nat) ≤ 8 by decide) dc_1_28_11 (mm_Ev_up (by decide : 2 ≤ 6) (by have h9 := k_isDay (hk M T cs) (nI n_11); rw [show sp_in (nI n_11) (nI 0) (nI 359) = nI 1 from sp_in_ok (by omega) (by omega) (by omega)] at h9; exact h9)) ?_
        refine r_ifne (t := 19) (by decide) dc_1_28_14 (fun c_14 => ?_) (fun c_14 => ?_)
        · skip
          refine r_aload_n rfl dc_1_28_19 ?_
          refine r_iload_n rfl dc_1_28_20 ?_
          refine r_aload_n rfl dc_1_28_21 ?_
          refine r_iload_n rfl dc_1_28_22 ?_
          obtain ⟨fr, tt, hft, htt, e13, e14⟩ := (hRs n_2 hn_2).2.2.2.1
          obtain ⟨cs3, ⟨hf3, h33⟩, hev3⟩ := k_count hV n_2 fr tt hn_2 e13 e14 hft htt (nI n_11)
          refine h_call0 (t := cT e 0) (as := [.int (nI n_2), .ref (D 0 n_2), .int (nI n_11)]) (rest := []) (M1 := hk M T cs3) rfl rfl iv_0_v274 (Or.inl rfl) na_1_163 (hF 0 (by decide)) ⟨by omega, by omega⟩ (show (0 : Nat) < 14 by decide) o_163 rfl (show (0 : Nat) ≤ 8 by decide) dc_1_28_23 (mm_Ev_up (by decide : 4 ≤ 6) (hev3)) ?_
          refine r_iconst (v := nI 0) (by decide) dc_1_28_26 ?_
          refine r_istore (ls' := [(4, .int (nI 0)), (3, .ref (D 0 n_2)), (0, .ref 0), (1, .int (nI n_2)), (2, .int (nI n_11))]) (by decide) rfl dc_1_28_27 ?_
          refine r_ls [(4, .int (nI 0)), (0, .ref 0), (3, .ref (D 0 n_2)), (1, .int (nI n_2)), (2, .int (nI n_11))] (mm_ndk_of [4, 0, 3, 1, 2] rfl (by decide)) (mm_sub_cons rfl (mm_sub_cons rfl (mm_sub_cons rfl (mm_sub_cons rfl (mm_sub_cons rfl (mm_sub_nil _)))))) ?_
          refine mm_cnt (P := fun m => (∀ i, i < m → ¬ sg 11 n_2 < sp_ton sg nf ns n_2 (nI i) (nI n_11)) → mm_Ru 6 (0, 5, false, prog_1_method_28_code, some .int) 29 [(4, .int (nI m)), (0, .ref 0), (3, .ref (D 0 n_2)), (1, .int (nI n_2)), (2, .int (nI n_11))] [] (hk M T cs3) (fun r9 => ∃ (v : Value), ∃ (cs2 : Nat → Nat → Int32), ∃ (io2 : Nat → Int32), ∃ (sg2 : Nat → Nat → Int32), ∃ (nf2 : Nat), ∃ (ny2 : Nat), ∃ (tp2 : Nat), (mm_Ev 8 264 [.ref 100, .int (nI n_2), .int (nI n_11)] (rf_mk (hk M T cs2) io sg) (some v, rf_mk (hk M T cs2) io2 sg2) ∧ CV M T cs2 io2 sg2 e D nh nx ns nf2 ny2 tp2 cm w cn wc) ∧ r9 = ((some v, hk M T cs2)))) 360 ?_ ?_ 0 (by omega) (fun i hi => absurd hi (Nat.not_lt_zero i))
          · intro  hi_m
            show mm_Ru 6 (0, 5, false, prog_1_method_28_code, some .int) 29 [(4, .int (nI 360)), (0, .ref 0), (3, .ref (D 0 n_2)), (1, .int (nI n_2)), (2, .int (nI n_11))] [] (hk M T cs3) (fun r9 => ∃ (v : Value), ∃ (cs2 : Nat → Nat → Int32), ∃ (io2 : Nat → Int32), ∃ (sg2 : Nat → Nat → Int32), ∃ (nf2 : Nat), ∃ (ny2 : Nat), ∃ (tp2 : Nat), (mm_Ev 8 264 [.ref 100, .int (nI n_2), .int (nI n_11)] (rf_mk (hk M T cs2) io sg) (some v, rf_mk (hk M T cs2) io2 sg2) ∧ CV M T cs2 io2 sg2 e D nh nx ns nf2 ny2 tp2 cm w cn wc) ∧ r9 = ((some v, hk M T cs2)))
            refine r_iload rfl dc_1_28_29 ?_
            refine r_sipush (v := nI 360) (by decide) dc_1_28_31 ?_
            refine r_ncge (t := 60) (by omega) (by omega) (by decide) dc_1_28_34 (fun c_34 => ?_) (fun c_34 => ?_)
            · skip
              refine r_iconst (v := -1) (by decide) dc_1_28_60 ?_
              refine r_iret rfl dc_1_28_61 ?_
              have hr := c_crowded_ok (hk M T cs3) hM io sg ns h5 hns nh h3 hnh nf h7 hnf n_2 n_11 hn_2 (by omega)
              rw [sp_fst_no (p := fun d => sg 11 n_2 < sp_ton sg nf ns n_2 (nI d) (nI n_11)) hi_m] at hr
              refine ⟨_, _, io, sg, nf, ny, tp, ⟨mm_Ev_up (by decide) (hr), (CV_f hV hf3)⟩, rfl⟩
            · omega
          · intro m h_m ih_m  hi_m
            show mm_Ru 6 (0, 5, false, prog_1_method_28_code, some .int) 29 [(4, .int (nI m)), (0, .ref 0), (3, .ref (D 0 n_2)), (1, .int (nI n_2)), (2, .int (nI n_11))] [] (hk M T cs3) (fun r9 => ∃ (v : Value), ∃ (cs2 : Nat → Nat → Int32), ∃ (io2 : Nat → Int32), ∃ (sg2 : Nat → Nat → Int32), ∃ (nf2 : Nat), ∃ (ny2 : Nat), ∃ (tp2 : Nat), (mm_Ev 8 264 [.ref 100, .int (nI n_2), .int (nI n_11)] (rf_mk (hk M T cs2) io sg) (some v, rf_mk (hk M T cs2) io2 sg2) ∧ CV M T cs2 io2 sg2 e D nh nx ns nf2 ny2 tp2 cm w cn wc) ∧ r9 = ((some v, hk M T cs2)))
            refine r_iload rfl dc_1_28_29 ?_
            refine r_sipush (v := nI 360) (by decide) dc_1_28_31 ?_
            refine r_ncge (t := 60) (by omega) (by omega) (by decide) dc_1_28_34 (fun c_34 => ?_) (fun c_34 => ?_)
            · omega
            · skip
              refine r_aload_n rfl dc_1_28_37 ?_
              refine h_get (t := cT e 0) (v := .ref 3) fx_0_20 (hF 0 (by decide)) ⟨by omega, by omega⟩ (rfl) dc_1_28_38 ?_
              refine r_iload rfl dc_1_28_41 ?_
              refine h_ild (n := 360) (e := m) (v := sp_ton sg nf ns n_2 (nI m) (nI n_11)) (hF 3 (by decide)) ⟨by omega, by omega⟩ (show m < 360 by omega) (by omega) (h33 m h_m) dc_1_28_43 ?_
              refine r_aload_n rfl dc_1_28_44 ?_
              refine h_get (t := (9, 0, rl [(6, D 1 n_2)])) (v := .int (sg 11 n_2)) fx_0_132 (hSc n_2 (by omega)).1 (hSc n_2 (by omega)).2.1 (show some (Value.int _) = _ from congrArg (fun z => some (Value.int z)) (((CV_f hV hf3).2.1.2.2.1 n_2 (by omega)).2.2.1.2.2.2.2.2)) dc_1_28_45 ?_
              refine r_icle (t := 54) (by decide) dc_1_28_48 (fun c_48 => ?_) (fun c_48 => ?_)
              · skip
                refine r_iinc (n := 4) (k := 1) (x := nI m) (v := nI (m + 1)) (ls' := [(4, .int (nI (m + 1))), (0, .ref 0), (3, .ref (D 0 n_2)), (1, .int (nI n_2)), (2, .int (nI n_11))]) rfl (nI_1 _) (by decide) rfl dc_1_28_54 ?_
                refine r_goto (t := 29) (by decide) dc_1_28_57 ?_
                exact ih_m (fun i hi => (by omega : i < m ∨ i = m).elim (fun z => hi_m i z) (fun z => z ▸ Int32.not_lt.mpr c_48))
              · skip
                refine r_iload rfl dc_1_28_51 ?_
                refine r_iret rfl dc_1_28_53 ?_
                have hr := c_crowded_ok (hk M T cs3) hM io sg ns h5 hns nh h3 hnh nf h7 hnf n_2 n_11 hn_2 (by omega)
                rw [sp_fst_yes (p := fun d => sg 11 n_2 < sp_ton sg nf ns n_2 (nI d) (nI n_11)) hi_m (Int32.not_le.mp c_48) h_m] at hr
                refine ⟨_, _, io, sg, nf, ny, tp, ⟨mm_Ev_up (by decide) (hr), (CV_f hV hf3)⟩, rfl⟩
        · exact absurd c_14 (by decide)
      · skip
        refine h_callS (as := [.int t]) (rest := []) (v := .int (nI 0)) rfl rfl iv_0_s108 (Or.inl rfl) na_0_25 rfl (show (0 : Nat) ≤ 8 by decide) dc_1_28_11 (mm_Ev_up (by decide : 2 ≤ 6) (by have h9 := k_isDay (hk M T cs) t; rw [show sp_in t (nI 0) (nI 359) = nI 0 from if_neg h_11] at h9; exact h9)) ?_
        refine r_ifne (t := 19) (by decide) dc_1_28_14 (fun c_14 => ?_) (fun c_14 => ?_)
        · exact absurd c_14 (by decide)
        · skip
          refine r_iconst (v := -1) (by decide) dc_1_28_17 ?_
          refine r_iret rfl dc_1_28_18 ?_
          refine ⟨_, _, io, sg, nf, ny, tp, ⟨mm_Ev_up (by decide) (c_crowded_no (hk M T cs) hM io sg _ _ (fun g => h_11 (g_day.mp g.2))), hV⟩, rfl⟩
    · skip
      refine h_callv (t := cT e 0) (as := [.int h]) (rest := []) (v := .null) (M1 := hk M T cs) rfl rfl iv_0_v128 (Or.inl rfl) na_1_39 (hF 0 (by decide)) ⟨by omega, by omega⟩ (show (0 : Nat) < 14 by decide) o_39 rfl (show (0 : Nat) ≤ 8 by decide) dc_1_28_2 (mm_Ev_up (by decide : 2 ≤ 6) (k_scAt_no hV h h_2)) ?_
      refine r_astore_nZ (ls' := [(3, .null), (0, .ref 0), (1, .int h), (2, .int t)]) (by decide) rfl dc_1_28_5 ?_
      refine r_aload_nZ rfl dc_1_28_6 ?_
      refine r_ifnullZ (t := 17) (by decide) dc_1_28_7 ?_
      refine r_iconst (v := -1) (by decide) dc_1_28_17 ?_
      refine r_iret rfl dc_1_28_18 ?_
      refine ⟨_, _, io, sg, nf, ny, tp, ⟨mm_Ev_up (by decide) (c_crowded_no (hk M T cs) hM io sg _ _ (fun g => h_2 (by rw [← h3]; exact g.1))), hV⟩, rfl⟩
  obtain ⟨z9, ⟨v, cs2, io2, sg2, nf2, ny2, tp2, p9, e9⟩, h9⟩ := hq9
  subst e9
  exact ⟨v, cs2, io2, sg2, nf2, ny2, tp2, p9, h9⟩
theorem st_crowded (h t : Int32) : StpN 170 264 [.int h, .int t] := fun M T cs sg io e D nh nx ns nf ny tp cm w cn wc hV => by
  obtain ⟨v, cs2, io2, sg2, nf2, ny2, tp2, hp, h⟩ := s_crowded hV h t
  exact ⟨v, cs2, io2, sg2, nf2, ny2, tp2, hp, mm_Ev_up (by decide) h⟩
