/-! calls of the law: agreement -/
theorem dc_1_8_0 : decode prog_1_method_8_code 0 = .ok (.aload_n 0, 1) := by decide +kernel
theorem dc_1_8_1 : decode prog_1_method_8_code 1 = .ok (.iload_n 1, 1) := by decide +kernel
theorem dc_1_8_2 : decode prog_1_method_8_code 2 = .ok (.invokevirtual 128, 3) := by decide +kernel
theorem dc_1_8_5 : decode prog_1_method_8_code 5 = .ok (.ifnull 51, 3) := by decide +kernel
theorem dc_1_8_8 : decode prog_1_method_8_code 8 = .ok (.aload_n 0, 1) := by decide +kernel
theorem dc_1_8_9 : decode prog_1_method_8_code 9 = .ok (.iload_n 2, 1) := by decide +kernel
theorem dc_1_8_10 : decode prog_1_method_8_code 10 = .ok (.invokevirtual 128, 3) := by decide +kernel
theorem dc_1_8_13 : decode prog_1_method_8_code 13 = .ok (.ifnull 43, 3) := by decide +kernel
theorem dc_1_8_16 : decode prog_1_method_8_code 16 = .ok (.iload_n 1, 1) := by decide +kernel
theorem dc_1_8_17 : decode prog_1_method_8_code 17 = .ok (.iload_n 2, 1) := by decide +kernel
theorem dc_1_8_18 : decode prog_1_method_8_code 18 = .ok (.if_icmp .eq 38, 3) := by decide +kernel
theorem dc_1_8_21 : decode prog_1_method_8_code 21 = .ok (.aload_n 0, 1) := by decide +kernel
theorem dc_1_8_22 : decode prog_1_method_8_code 22 = .ok (.getfield 65, 3) := by decide +kernel
theorem dc_1_8_25 : decode prog_1_method_8_code 25 = .ok (.invokeinterface 113 1, 5) := by decide +kernel
theorem dc_1_8_30 : decode prog_1_method_8_code 30 = .ok (.bipush 12, 2) := by decide +kernel
theorem dc_1_8_32 : decode prog_1_method_8_code 32 = .ok (.if_icmp .ge 24, 3) := by decide +kernel
theorem dc_1_8_35 : decode prog_1_method_8_code 35 = .ok (.iload_n 3, 1) := by decide +kernel
theorem dc_1_8_36 : decode prog_1_method_8_code 36 = .ok (.iconst 1, 1) := by decide +kernel
theorem dc_1_8_37 : decode prog_1_method_8_code 37 = .ok (.bipush 60, 2) := by decide +kernel
theorem dc_1_8_39 : decode prog_1_method_8_code 39 = .ok (.invokestatic 84, 3) := by decide +kernel
theorem dc_1_8_42 : decode prog_1_method_8_code 42 = .ok (.ifCond .eq 14, 3) := by decide +kernel
theorem dc_1_8_45 : decode prog_1_method_8_code 45 = .ok (.iload_n 3, 1) := by decide +kernel
theorem dc_1_8_46 : decode prog_1_method_8_code 46 = .ok (.aload_n 0, 1) := by decide +kernel
theorem dc_1_8_47 : decode prog_1_method_8_code 47 = .ok (.getfield 33, 3) := by decide +kernel
theorem dc_1_8_50 : decode prog_1_method_8_code 50 = .ok (.getfield 143, 3) := by decide +kernel
theorem dc_1_8_53 : decode prog_1_method_8_code 53 = .ok (.if_icmp .le 5, 3) := by decide +kernel
theorem dc_1_8_56 : decode prog_1_method_8_code 56 = .ok (.iconst (-1), 1) := by decide +kernel
theorem dc_1_8_57 : decode prog_1_method_8_code 57 = .ok (.ireturn, 1) := by decide +kernel
theorem dc_1_8_58 : decode prog_1_method_8_code 58 = .ok (.aload_n 0, 1) := by decide +kernel
theorem dc_1_8_59 : decode prog_1_method_8_code 59 = .ok (.getfield 40, 3) := by decide +kernel
theorem dc_1_8_62 : decode prog_1_method_8_code 62 = .ok (.aload_n 0, 1) := by decide +kernel
theorem dc_1_8_63 : decode prog_1_method_8_code 63 = .ok (.getfield 33, 3) := by decide +kernel
theorem dc_1_8_66 : decode prog_1_method_8_code 66 = .ok (.getfield 145, 3) := by decide +kernel
theorem dc_1_8_69 : decode prog_1_method_8_code 69 = .ok (.iload_n 3, 1) := by decide +kernel
theorem dc_1_8_70 : decode prog_1_method_8_code 70 = .ok (.invokevirtual 148, 3) := by decide +kernel
theorem dc_1_8_73 : decode prog_1_method_8_code 73 = .ok (.istore 4, 2) := by decide +kernel
theorem dc_1_8_75 : decode prog_1_method_8_code 75 = .ok (.aload_n 0, 1) := by decide +kernel
theorem dc_1_8_76 : decode prog_1_method_8_code 76 = .ok (.getfield 33, 3) := by decide +kernel
theorem dc_1_8_79 : decode prog_1_method_8_code 79 = .ok (.iconst 0, 1) := by decide +kernel
theorem dc_1_8_80 : decode prog_1_method_8_code 80 = .ok (.putfield 143, 3) := by decide +kernel
theorem dc_1_8_83 : decode prog_1_method_8_code 83 = .ok (.iload 4, 2) := by decide +kernel
theorem dc_1_8_85 : decode prog_1_method_8_code 85 = .ok (.ifCond .eq 6, 3) := by decide +kernel
theorem dc_1_8_88 : decode prog_1_method_8_code 88 = .ok (.iload 4, 2) := by decide +kernel
theorem dc_1_8_90 : decode prog_1_method_8_code 90 = .ok (.ireturn, 1) := by decide +kernel
theorem dc_1_8_91 : decode prog_1_method_8_code 91 = .ok (.aload_n 0, 1) := by decide +kernel
theorem dc_1_8_92 : decode prog_1_method_8_code 92 = .ok (.getfield 65, 3) := by decide +kernel
theorem dc_1_8_95 : decode prog_1_method_8_code 95 = .ok (.new 152, 3) := by decide +kernel
theorem dc_1_8_98 : decode prog_1_method_8_code 98 = .ok (.dup, 1) := by decide +kernel
theorem dc_1_8_99 : decode prog_1_method_8_code 99 = .ok (.iload_n 1, 1) := by decide +kernel
theorem dc_1_8_100 : decode prog_1_method_8_code 100 = .ok (.iload_n 2, 1) := by decide +kernel
theorem dc_1_8_101 : decode prog_1_method_8_code 101 = .ok (.aload_n 0, 1) := by decide +kernel
theorem dc_1_8_102 : decode prog_1_method_8_code 102 = .ok (.getfield 40, 3) := by decide +kernel
theorem dc_1_8_105 : decode prog_1_method_8_code 105 = .ok (.invokespecial 154, 3) := by decide +kernel
theorem dc_1_8_108 : decode prog_1_method_8_code 108 = .ok (.invokeinterface 124 2, 5) := by decide +kernel
theorem dc_1_8_113 : decode prog_1_method_8_code 113 = .ok (.pop, 1) := by decide +kernel
theorem dc_1_8_114 : decode prog_1_method_8_code 114 = .ok (.aload_n 0, 1) := by decide +kernel
theorem dc_1_8_115 : decode prog_1_method_8_code 115 = .ok (.getfield 65, 3) := by decide +kernel
theorem dc_1_8_118 : decode prog_1_method_8_code 118 = .ok (.invokeinterface 113 1, 5) := by decide +kernel
theorem dc_1_8_123 : decode prog_1_method_8_code 123 = .ok (.iconst 1, 1) := by decide +kernel
theorem dc_1_8_124 : decode prog_1_method_8_code 124 = .ok (.isub, 1) := by decide +kernel
theorem dc_1_8_125 : decode prog_1_method_8_code 125 = .ok (.ireturn, 1) := by decide +kernel
theorem iv_0_i154 : mm_iv 0 (.invokespecial 154) = some (2, 81) := by decide +kernel
theorem iv_0_v148 : mm_iv 0 (.invokevirtual 148) = some (1, 48) := by decide +kernel
theorem o_48 : mm_o 48 = 3 := by decide +kernel
theorem na_1_48 : mm_nas 1 48 = 3 := by decide +kernel
theorem na_2_81 : mm_nas 2 81 = 4 := by decide +kernel
set_option maxHeartbeats 4000000 in
theorem s_agreement {M : mH} {T : Nat → mT} {cs sg : Nat → Nat → Int32} {io : Nat → Int32} {e : Nat → Nat} {D : Nat → Nat → Nat} {nh nx ns nf ny tp : Nat} {cm : Nat → Nat} {w : Nat → Nat → Nat} {cn : Nat → Nat} {wc : Nat → Nat → Nat} (hV : CV M T cs io sg e D nh nx ns nf ny tp cm w cn wc) (hM8 : M.1 ≤ 800000) (hE : M.2.2 1000000 = .inl (3, 0, .inr (.inr (.inr (.inr (fun _ => none)))))) (hsx : ∀ j, 2 ≤ j → j < 8 → M.2.2 (1000000 + j) = mm_hs 0 (fun _ => 0) j) (he3 : e 3 = 11 ∨ e 3 = 13) (av bv nv : Int32) : ∃ (v : Value), ∃ (M2 : mH), ∃ (T2 : Nat → mT), ∃ (cs2 : Nat → Nat → Int32), ∃ (io2 : Nat → Int32), ∃ (sg2 : Nat → Nat → Int32), (mm_Ev 30 199 [.ref 100, .int av, .int bv, .int nv] (rf_mk (hk M2 T2 cs2) io sg) (some v, rf_mk (hk M2 T2 cs2) io2 sg2) ∧ (M2.2.2 = M.2.2 ∧ M2.1 ≤ M.1 + 20 ∧ M2.2.1 ≤ M.2.1 + 1000) ∧ ∃ (e2 : Nat → Nat) (D2 : Nat → Nat → Nat) (nh2 nx2 ns2 nf2 ny2 tp2 : Nat) (cm2 : Nat → Nat) (w2 : Nat → Nat → Nat) (cn2 : Nat → Nat) (wc2 : Nat → Nat → Nat), CV M2 T2 cs2 io2 sg2 e2 D2 nh2 nx2 ns2 nf2 ny2 tp2 cm2 w2 cn2 wc2 ∧ (e2 3 = 11 ∨ e2 3 = 13)) ∧ mm_Ev 34 47 [.ref 0, .int av, .int bv, .int nv] (hk M T cs) ((some v, hk M2 T2 cs2)) := by
  have hq9 : ∃ z, (fun r9 => ∃ (v : Value), ∃ (M2 : mH), ∃ (T2 : Nat → mT), ∃ (cs2 : Nat → Nat → Int32), ∃ (io2 : Nat → Int32), ∃ (sg2 : Nat → Nat → Int32), (mm_Ev 30 199 [.ref 100, .int av, .int bv, .int nv] (rf_mk (hk M2 T2 cs2) io sg) (some v, rf_mk (hk M2 T2 cs2) io2 sg2) ∧ (M2.2.2 = M.2.2 ∧ M2.1 ≤ M.1 + 20 ∧ M2.2.1 ≤ M.2.1 + 1000) ∧ ∃ (e2 : Nat → Nat) (D2 : Nat → Nat → Nat) (nh2 nx2 ns2 nf2 ny2 tp2 : Nat) (cm2 : Nat → Nat) (w2 : Nat → Nat → Nat) (cn2 : Nat → Nat) (wc2 : Nat → Nat → Nat), CV M2 T2 cs2 io2 sg2 e2 D2 nh2 nx2 ns2 nf2 ny2 tp2 cm2 w2 cn2 wc2 ∧ (e2 3 = 11 ∨ e2 3 = 13)) ∧ r9 = ((some v, hk M2 T2 cs2))) z ∧ mm_Ev 34 47 [.ref 0, .int av, .int bv, .int nv] (hk M T cs) z := by
    obtain ⟨⟨hM, hMs, hW⟩, hC, hT, hR, hJ⟩ := id hV
    obtain ⟨hF, ⟨hL0, hL1, hL2⟩, hSc, hAg, hSt⟩ := id hC
    obtain ⟨⟨⟨h3, hnh⟩, ⟨h4, hnx⟩, ⟨h5, hns⟩, ⟨h7, hnf⟩, ⟨h6, hny⟩, ⟨h23, htp⟩⟩, hRa, hRb, hRs, hRs2, hRs3, hRx, hCD, hRt, hRt2, hRf⟩ := id hR
    refine r_evQ (by decide +kernel) (show (4 : Nat) ≤ mm_nL 47 by decide +kernel) ?_
    show mm_Ru 33 (0, 5, false, prog_1_method_8_code, some .int) 0 [(0, .ref 0), (1, .int av), (2, .int bv), (3, .int nv)] [] (hk M T cs) (fun r9 => ∃ (v : Value), ∃ (M2 : mH), ∃ (T2 : Nat → mT), ∃ (cs2 : Nat → Nat → Int32), ∃ (io2 : Nat → Int32), ∃ (sg2 : Nat → Nat → Int32), (mm_Ev 30 199 [.ref 100, .int av, .int bv, .int nv] (rf_mk (hk M2 T2 cs2) io sg) (some v, rf_mk (hk M2 T2 cs2) io2 sg2) ∧ (M2.2.2 = M.2.2 ∧ M2.1 ≤ M.1 + 20 ∧ M2.2.1 ≤ M.2.1 + 1000) ∧ ∃ (e2 : Nat → Nat) (D2 : Nat → Nat → Nat) (nh2 nx2 ns2 nf2 ny2 tp2 : Nat) (cm2 : Nat → Nat) (w2 : Nat → Nat → Nat) (cn2 : Nat → Nat) (wc2 : Nat → Nat → Nat), CV M2 T2 cs2 io2 sg2 e2 D2 nh2 nx2 ns2 nf2 ny2 tp2 cm2 w2 cn2 wc2 ∧ (e2 3 = 11 ∨ e2 3 = 13)) ∧ r9 = ((some v, hk M2 T2 cs2)))
    refine r_aload_n rfl dc_1_8_0 ?_
    refine r_iload_n rfl dc_1_8_1 ?_
    by_cases h_2 : 0 ≤ av ∧ av < nI nh
    · skip
      obtain ⟨n_2, hn_2, e_2⟩ := g_lt h_2 (by omega)
      subst e_2
      refine h_callv (t := cT e 0) (as := [.int (nI n_2)]) (rest := []) (v := .ref (D 0 n_2)) (M1 := hk M T cs) rfl rfl iv_0_v128 (Or.inl rfl) na_1_39 ((hF 0 (by decide))) ⟨by omega, by omega⟩ (show (0 : Nat) < 14 by decide) o_39 rfl (show (0 : Nat) ≤ 8 by decide) dc_1_8_2 (mm_Ev_up (by decide : 4 ≤ 33) (k_scAt_ok hV n_2 hn_2)) ?_
      refine r_ifnull dc_1_8_5 ?_
      refine r_aload_n rfl dc_1_8_8 ?_
      refine r_iload_n rfl dc_1_8_9 ?_
      by_cases h_10 : 0 ≤ bv ∧ bv < nI nh
      · skip
        obtain ⟨n_10, hn_10, e_10⟩ := g_lt h_10 (by omega)
        subst e_10
        refine h_callv (t := cT e 0) (as := [.int (nI n_10)]) (rest := []) (v := .ref (D 0 n_10)) (M1 := hk M T cs) rfl rfl iv_0_v128 (Or.inl rfl) na_1_39 ((hF 0 (by decide))) ⟨by omega, by omega⟩ (show (0 : Nat) < 14 by decide) o_39 rfl (show (0 : Nat) ≤ 8 by decide) dc_1_8_10 (mm_Ev_up (by decide : 4 ≤ 33) (k_scAt_ok hV n_10 hn_10)) ?_
        refine r_ifnull dc_1_8_13 ?_
        refine r_iload_n rfl dc_1_8_16 ?_
        refine r_iload_n rfl dc_1_8_17 ?_
        refine r_nceq (t := 56) (by omega) (by omega) (by decide) dc_1_8_18 (fun c_18 => ?_) (fun c_18 => ?_)
        · skip
          refine r_iconst (v := -1) (by decide) dc_1_8_56 ?_
          refine r_iret rfl dc_1_8_57 ?_
          refine ⟨_, M, T, _, io, sg, ⟨mm_Ev_up (by decide) (c_agr_no (hk M T cs) hM io sg _ _ _ (fun g => g.2.2.1 (congrArg nI c_18))), ⟨rfl, by omega, by omega⟩, e, D, nh, nx, ns, nf, ny, tp, cm, w, cn, wc, hV, he3⟩, rfl⟩
        · skip
          refine r_aload_n rfl dc_1_8_21 ?_
          refine h_get (t := cT e 0) (v := .ref 26) fx_0_65 ((hF 0 (by decide))) ⟨by omega, by omega⟩ (rfl) dc_1_8_22 ?_
          refine h_callv (t := cT e 26) (as := []) (rest := []) (v := .int (nI nx)) (M1 := hk M T cs) rfl rfl iv_0_f113 (Or.inr (Or.inr rfl)) na_6_26 ((hF 26 (by decide))) ⟨by omega, by omega⟩ (show (6 : Nat) < 14 by decide) o_26 rfl (show (0 : Nat) ≤ 8 by decide) dc_1_8_25 (mm_Ev_up (by decide : 1 ≤ 33) (k_sizeL hV.2.1.2.1.2.1)) ?_
          refine r_bipush (v := nI 12) (by decide) dc_1_8_30 ?_
          refine r_ncge (t := 56) (by omega) (by omega) (by decide) dc_1_8_32 (fun c_32 => ?_) (fun c_32 => ?_)
          · skip
            refine r_iconst (v := -1) (by decide) dc_1_8_56 ?_
            refine r_iret rfl dc_1_8_57 ?_
            refine ⟨_, M, T, _, io, sg, ⟨mm_Ev_up (by decide) (c_agr_no (hk M T cs) hM io sg _ _ _ (fun g => g.2.2.2.2.2 (by rw [h4, show nx = 12 by omega]))), ⟨rfl, by omega, by omega⟩, e, D, nh, nx, ns, nf, ny, tp, cm, w, cn, wc, hV, he3⟩, rfl⟩
          · skip
            refine r_iload_n rfl dc_1_8_35 ?_
            refine r_iconst (v := nI 1) (by decide) dc_1_8_36 ?_
            refine r_bipush (v := nI 60) (by decide) dc_1_8_37 ?_
            by_cases h_39 : nI 1 ≤ nv ∧ nv ≤ nI 60
            · skip
              obtain ⟨n_39, hn_39, e_39⟩ := g_nat2 h_39 (by omega) (by omega)
              subst e_39
              refine h_callS (as := [.int (nI n_39), .int (nI 1), .int (nI 60)]) (rest := []) (v := .int (nI 1)) rfl rfl iv_0_s84 (Or.inl rfl) na_0_13 rfl (show (0 : Nat) ≤ 8 by decide) dc_1_8_39 (mm_Ev_up (by decide : 1 ≤ 33) (by have h9 := k_in (hk M T cs) (nI n_39) (nI 1) (nI 60); rw [show sp_in (nI n_39) (nI 1) (nI 60) = nI 1 from sp_in_ok (by omega) (by omega) (by omega)] at h9; exact h9)) ?_
              refine r_ifeq (t := 56) (by decide) dc_1_8_42 (fun c_42 => ?_) (fun c_42 => ?_)
              · exact absurd c_42 (by decide)
              · skip
                refine r_iload_n rfl dc_1_8_45 ?_
                refine r_aload_n rfl dc_1_8_46 ?_
                refine h_get (t := cT e 0) (v := .ref 10) fx_0_33 ((hF 0 (by decide))) ⟨by omega, by omega⟩ (rfl) dc_1_8_47 ?_
                refine h_get (t := cT e 10) (v := .int (nI tp)) fx_0_143 ((hF 10 (by decide))) ⟨by omega, by omega⟩ (show some (Value.int _) = _ from congrArg (fun z => some (Value.int z)) (hV.2.2.1.2.2.2.1.1)) dc_1_8_50 ?_
                refine r_ncle (t := 58) (by omega) (by omega) (by decide) dc_1_8_53 (fun c_53 => ?_) (fun c_53 => ?_)
                · skip
                  have e11 : w1 cs 12 1 (nI n_39) 11 = cs 11 := w1_n _ _ _ (by decide)
                  have hb6 : BH (cs 11) n_39 (chr sg n_39) := ⟨by omega, fun p hp => (hT.2.2.2.1.2 p (by omega)).trans (congrArg nI (if_pos hp).symm), fun p => chr_lt sg n_39 p, fun p hp => chr_z sg n_39 p hp⟩
                  have hH : RdH M (va_up T 12 (3, 0, rl [(0, 11), (4, 14)])) (w1 cs 12 1 (nI n_39)) n_39 := ⟨hM, by omega, hsx, if_pos rfl, (up_o _ _ (by decide)).trans (hF 11 (by decide)), (up_o _ _ (by decide)).trans (hF 14 (by decide)), if_pos ⟨rfl, rfl⟩, by omega, fun j hj => ⟨_, Nat.mod_lt _ (by decide), (congrFun e11 j).trans (hT.2.2.2.1.2 j hj)⟩⟩
                  obtain ⟨r, hTT, hBt⟩ := ttx_v hb6 (cs 14)
                  have h9 := k_txt (rb := e 3) (hF 12 (by decide)) (hF 11 (by decide)) rfl rfl hH
                  rw [e11] at h9
                  obtain ⟨F, eF⟩ : ∃ z, z = ttx (cs 11) n_39 (cs 14) := ⟨_, rfl⟩
                  rw [← eF] at h9 hBt
                  obtain ⟨Tr, eTr⟩ : ∃ z, z = va_up T 12 (3, 0, rl [(0, 11), (4, 14)]) := ⟨_, rfl⟩
                  obtain ⟨cr, ecr⟩ : ∃ z, z = RS (qs (w1 cs 12 1 (nI n_39)) F.1) F.2 := ⟨_, rfl⟩
                  obtain ⟨er, eer⟩ : ∃ z : Nat → Nat, z = fun j => if j = 3 then 11 else e j := ⟨_, rfl⟩
                  rw [← eTr, ← ecr] at h9
                  have er3 : er 3 = 11 := by rw [eer]; rfl
                  have hVr : ∀ {io1 : Nat → Int32} {sg1 : Nat → Nat → Int32}, FrQ io sg io1 sg1 → CV M Tr (w1 cr 10 1 (nI 0)) (va_up io1 23 (nI 0)) sg1 er D nh nx ns nf ny 0 cm w cn wc := fun hq => by rw [eTr, ecr, eer]; exact CV_rd hV _ _ _ hq
                  have hV1 := hVr (FrQ_0 io sg)
                  have hFr : ShF Tr er := hV1.2.1.1
                  refine r_aload_n rfl dc_1_8_58 ?_
                  refine h_get (t := cT e 0) (v := .ref 12) fx_0_40 ((hF 0 (by decide))) ⟨by omega, by omega⟩ (rfl) dc_1_8_59 ?_
                  refine r_aload_n rfl dc_1_8_62 ?_
                  refine h_get (t := cT e 0) (v := .ref 10) fx_0_33 ((hF 0 (by decide))) ⟨by omega, by omega⟩ (rfl) dc_1_8_63 ?_
                  refine h_get (t := cT e 10) (v := .ref 11) fx_0_145 ((hF 10 (by decide))) ⟨by omega, by omega⟩ (rfl) dc_1_8_66 ?_
                  refine r_iload_n rfl dc_1_8_69 ?_
                  refine h_callv (t := cT e 12) (as := [.ref 11, .int (nI n_39)]) (rest := []) (v := .int F.2.2.1) (M1 := hk M Tr cr) rfl rfl iv_0_v148 (Or.inl rfl) na_1_48 ((hF 12 (by decide))) ⟨by omega, by omega⟩ (show (3 : Nat) < 14 by decide) o_48 rfl (show (0 : Nat) ≤ 8 by decide) dc_1_8_70 (mm_Ev_up (by decide : 32 ≤ 33) (h9)) ?_
                  refine r_istore (ls' := [(4, .int F.2.2.1), (0, .ref 0), (1, .int (nI n_2)), (2, .int (nI n_10)), (3, .int (nI n_39))]) (by decide) rfl dc_1_8_73 ?_
                  refine r_aload_n rfl dc_1_8_75 ?_
                  refine h_get (t := cT er 0) (v := .ref 10) fx_0_33 ((hFr 0 (by decide))) ⟨by omega, by omega⟩ (rfl) dc_1_8_76 ?_
                  refine r_iconst (v := nI 0) (by decide) dc_1_8_79 ?_
                  refine h_pint (t := cT er 10) fx_0_143 ((hFr 10 (by decide))) ⟨by omega, by omega⟩ (Or.inl fn_2_1) ty_2_1 (pi_2_1 _ _ _ _) dc_1_8_80 ?_
                  refine r_iload rfl dc_1_8_83 ?_
                  refine r_ifeq (t := 91) (by decide) dc_1_8_85 (fun c_85 => ?_) (fun c_85 => ?_)
                  · skip
                    rcases hBt with ⟨p2, S2, q2, E2, L2, g1, g2, g3, g4⟩ | ⟨f, g1, g2, g3, g4⟩
                    · skip
                      have h60 := (TI_fin g4 (by omega)).2.2.2.2.2.1
                      have h125 : (w1 cr 10 1 (nI 0)) 12 5 = nI L2.length := by rw [w1_n _ _ _ (by decide), ecr]; exact g3.2.2.1
                      have hq6 : ∀ k, 6 ≤ k → k ≤ 11 → (w1 cr 10 1 (nI 0)) 12 k = q2 k := fun k h1 h2 => by
                        rw [w1_n _ _ _ (by decide), ecr, ← g2]
                        rcases (by omega : k = 6 ∨ k = 7 ∨ k = 8 ∨ k = 9 ∨ k = 10 ∨ k = 11) with rfl | rfl | rfl | rfl | rfl | rfl <;> rfl
                      have h14k : (w1 cr 10 1 (nI 0)) 14 = F.2.2.2.2 := by rw [w1_n _ _ _ (by decide), ecr]; rfl
                      refine r_aload_n rfl dc_1_8_91 ?_
                      refine h_get (t := cT er 0) (v := .ref 26) fx_0_65 ((hFr 0 (by decide))) ⟨by omega, by omega⟩ (rfl) dc_1_8_92 ?_
                      refine h_new (c := 10) (nf := 10) kr_0_152 (by show M.1 < 1000000; omega) (by show ¬ (100 ≤ M.1 ∧ M.1 < 157); omega) (mk_n10) (by decide +kernel) dc_1_8_95 ?_
                      show mm_Ru 33 (0, 5, false, prog_1_method_8_code, some .int) 98 [(4, .int F.2.2.1), (0, .ref 0), (1, .int (nI n_2)), (2, .int (nI n_10)), (3, .int (nI n_39))] [.ref M.1, .ref 26] (hk (mnew M 10) (va_up Tr M.1 ((10, 0, fun _ => none))) (wA (w1 cr 10 1 (nI 0)) M.1 (fun _ => 0))) (fun r9 => ∃ (v : Value), ∃ (M2 : mH), ∃ (T2 : Nat → mT), ∃ (cs2 : Nat → Nat → Int32), ∃ (io2 : Nat → Int32), ∃ (sg2 : Nat → Nat → Int32), (mm_Ev 30 199 [.ref 100, .int (nI n_2), .int (nI n_10), .int (nI n_39)] (rf_mk (hk M2 T2 cs2) io sg) (some v, rf_mk (hk M2 T2 cs2) io2 sg2) ∧ (M2.2.2 = M.2.2 ∧ M2.1 ≤ M.1 + 20 ∧ M2.2.1 ≤ M.2.1 + 1000) ∧ ∃ (e2 : Nat → Nat) (D2 : Nat → Nat → Nat) (nh2 nx2 ns2 nf2 ny2 tp2 : Nat) (cm2 : Nat → Nat) (w2 : Nat → Nat → Nat) (cn2 : Nat → Nat) (wc2 : Nat → Nat → Nat), CV M2 T2 cs2 io2 sg2 e2 D2 nh2 nx2 ns2 nf2 ny2 tp2 cm2 w2 cn2 wc2 ∧ (e2 3 = 11 ∨ e2 3 = 13)) ∧ r9 = ((some v, hk M2 T2 cs2)))
                      refine r_dup rfl dc_1_8_98 ?_
                      refine r_iload_n rfl dc_1_8_99 ?_
                      refine r_iload_n rfl dc_1_8_100 ?_
                      refine r_aload_n rfl dc_1_8_101 ?_
                      refine h_get (t := cT er 0) (v := .ref 12) fx_0_40 ((up_o _ _ (by omega)).trans ((hFr 0 (by decide)))) ⟨by show 0 < M.1 + 1; omega, by omega⟩ (rfl) dc_1_8_102 ?_
                      obtain ⟨M1, T1, cs1, ⟨⟨m1, m2, m3⟩, hT1, hc1, hnew⟩, hev1⟩ := nw_agr hM hM8 Tr (w1 cr 10 1 (nI 0)) (nI n_2) (nI n_10) (by rw [hFr 12 (by decide), show cT er 12 = (3, 0, rl [(0, er 3), (4, 14)]) from rfl, er3]) (hFr 14 (by decide)) L2.length h125 h60
                      refine h_callI (as := [.int (nI n_2), .int (nI n_10), .ref 12]) (rest := [.ref M.1, .ref 26]) (M1 := hk M1 T1 cs1) rfl rfl iv_0_i154 (Or.inl rfl) na_2_81 rfl (show (2 : Nat) ≤ 8 by decide) dc_1_8_105 (mm_Ev_up (by decide : 4 ≤ 33) (hev1)) ?_
                      have hL1r := hV1.2.1.2.1.2.1
                      have hAgr := hV1.2.1.2.2.2.1
                      have hee : 157 ≤ er 1 ∧ er 1 < M.1 ∨ er 1 = 1000000 := hL1r.2.2.2.2.elim (fun y => Or.inr y.2) (fun ⟨y, c, r, y1, y2, y3⟩ => Or.inl ⟨by rw [← hV1.2.2.2.2.1 1 (by decide)]; exact DJ_lo hV1.2.2.2.2 (dvl_10 (by decide) y), y2.1⟩)
                      have hLx : LsR M1 T1 cs1 26 (er 1) nx (D 4) := LsR_x hL1r (by omega) (hT1 26 (by omega)) (fun h0 => hT1 (er 1) (by rcases hL1r.2.2.2.2 with y | ⟨y, c, r, y1, y2, y3⟩; exact absurd y.1 (by omega); exact y2.1)) (hc1 26 (by omega))
                      have hel : ∀ i, i < nx → inC M1 (D 4 i) ∧ (T1 (D 4 i)).1 < 14 := fun i hi => ⟨inC_x (hAgr i hi).2.1 (by omega), by rw [hT1 _ (hAgr i hi).2.1.1, (hAgr i hi).1]; exact (by decide : 10 < 14)⟩
                      have h14n : (T1 M.1).1 < 14 := by rw [hnew.1]; exact (by decide : 10 < 14)
                      obtain ⟨M2, T2, cs2, ed2, hA, hev2⟩ := k_addL M1 (by omega) (by omega) T1 cs1 26 (er 1) nx (D 4) hLx (by omega) hel (by omega) (by rw [m3]; exact hE) M.1 ⟨by omega, by omega⟩ h14n (by omega)
                      have hs2 := hA.2.2.2.1
                      have hed2 := hA.1
                      have hsl := hA.2.1
                      refine h_callv (t := cT er 26) (as := [.ref M.1]) (rest := []) (v := .int (nI 1)) (M1 := hk M2 T2 cs2) rfl rfl iv_0_f124 (Or.inr (Or.inr rfl)) na_6_28 (((hT1 26 (by omega)).trans (hFr 26 (by decide)))) ⟨by omega, by omega⟩ (show (6 : Nat) < 14 by decide) o_28 rfl (show (0 : Nat) ≤ 8 by decide) dc_1_8_108 (mm_Ev_up (by decide : 7 ≤ 33) (hev2)) ?_
                      refine r_pop rfl dc_1_8_113 ?_
                      refine r_aload_n rfl dc_1_8_114 ?_
                      refine h_get (t := cT er 0) (v := .ref 26) fx_0_65 (((hA.2.2.2.2.1 0 (by omega) (by decide) (by omega)).trans ((hT1 0 (by omega)).trans (hFr 0 (by decide))))) ⟨by omega, by omega⟩ (rfl) dc_1_8_115 ?_
                      refine h_callv (t := (6, 0, rl [(0, ed2)])) (as := []) (rest := []) (v := .int (nI (nx + 1))) (M1 := hk M2 T2 cs2) rfl rfl iv_0_f113 (Or.inr (Or.inr rfl)) na_6_26 hs2.1 hs2.2.1 (show (6 : Nat) < 14 by decide) o_26 rfl (show (0 : Nat) ≤ 8 by decide) dc_1_8_118 (mm_Ev_up (by decide : 1 ≤ 33) (k_sizeL hs2)) ?_
                      refine r_iconst (v := nI 1) (by decide) dc_1_8_123 ?_
                      refine r_isub (v := nI nx) ((nI_sb (by omega)).trans (congrArg nI (by omega))) dc_1_8_124 ?_
                      refine r_iret rfl dc_1_8_125 ?_
                      obtain ⟨z9, hz9, hE9⟩ := c_agr (M := hk M2 T2 cs2) (by show 157 ≤ M2.1; omega) io sg nh h3 hnh nx h4 hnx h23 htp (a := n_2) (b := n_10) (n := n_39) hn_2 hn_10 (by omega) (by omega) (by omega) (by omega) (by omega) hTT
                      rcases hz9 with ⟨io1, sg1, f2, y1, y2, y3⟩ | ⟨io1, sg1, p3, S3, q3, E3, y1, y2, y3⟩
                      · rw [g1] at y1
                        cases y1
                      · rw [g1] at y1
                        cases y1
                        subst y3
                        obtain ⟨v0, v1, v2, v3, v4, v5, v6, v7⟩ := hnew.2.2.2.1
                        obtain ⟨e2, D2, hV3, he2⟩ := CV_agr (hVr y2.2) m1 (by omega) m3 hT1 hc1 hA (a := n_2) (b := n_10) (by omega) hn_2 hn_10 (by omega) g4 (by omega) y2.1.2.2.2.1 hnew.1 hnew.2.1 hnew.2.2.1 ⟨v0, v1, v2.trans (hq6 6 (by decide) (by decide)), v3.trans (hq6 7 (by decide) (by decide)), v4.trans (hq6 8 (by decide) (by decide)), v5.trans (hq6 9 (by decide) (by decide)), v6.trans (hq6 10 (by decide) (by decide)), v7.trans (hq6 11 (by decide) (by decide))⟩ (fun k hk => (hnew.2.2.2.2 k hk).trans ((congrFun h14k k).trans (CL_ix g3.2.2.2 k hk)))
                        exact ⟨_, M2, T2, cs2, _, _, ⟨mm_Ev_up (by decide) hE9, ⟨hA.2.2.1.trans m3, by omega, by omega⟩, e2, D2, _, _, _, _, _, _, _, _, _, _, hV3, Or.inl (he2.trans er3)⟩, rfl⟩
                    · exact absurd c_85 (by rw [g4]; exact neg_n0 g2 g3)
                  · skip
                    refine r_iload rfl dc_1_8_88 ?_
                    refine r_iret rfl dc_1_8_90 ?_
                    rcases hBt with ⟨p2, S2, q2, E2, L2, g1, g2, g3, g4⟩ | ⟨f, g1, g2, g3, g4⟩
                    · exact absurd g3.2.1 c_85
                    · obtain ⟨z9, hz9, hE9⟩ := c_agr (M := hk M Tr (w1 cr 10 1 (nI 0))) hM io sg nh h3 hnh nx h4 hnx h23 htp (a := n_2) (b := n_10) (n := n_39) hn_2 hn_10 (by omega) (by omega) (by omega) (by omega) (by omega) hTT
                      rcases hz9 with ⟨io1, sg1, f2, y1, y2, y3⟩ | ⟨io1, sg1, p3, S3, q3, E3, y1, y2, y3⟩
                      · rw [g1] at y1
                        cases y1
                        subst y3
                        exact ⟨_, M, Tr, _, _, _, ⟨mm_Ev_up (by decide) hE9, ⟨rfl, by omega, by omega⟩, er, D, nh, nx, ns, nf, ny, 0, cm, w, cn, wc, hVr y2, Or.inl er3⟩, by rw [g4]⟩
                      · rw [g1] at y1
                        cases y1
                · skip
                  refine r_iconst (v := -1) (by decide) dc_1_8_56 ?_
                  refine r_iret rfl dc_1_8_57 ?_
                  refine ⟨_, M, T, _, io, sg, ⟨mm_Ev_up (by decide) (c_agr_no (hk M T cs) hM io sg _ _ _ (fun g => g.2.2.2.2.1 (by rw [h23]; exact (nI_ltI (by omega) (by omega)).mpr (by omega)))), ⟨rfl, by omega, by omega⟩, e, D, nh, nx, ns, nf, ny, tp, cm, w, cn, wc, hV, he3⟩, rfl⟩
            · skip
              refine h_callS (as := [.int nv, .int (nI 1), .int (nI 60)]) (rest := []) (v := .int (nI 0)) rfl rfl iv_0_s84 (Or.inl rfl) na_0_13 rfl (show (0 : Nat) ≤ 8 by decide) dc_1_8_39 (mm_Ev_up (by decide : 1 ≤ 33) (by have h9 := k_in (hk M T cs) nv (nI 1) (nI 60); rw [show sp_in nv (nI 1) (nI 60) = nI 0 from if_neg h_39] at h9; exact h9)) ?_
              refine r_ifeq (t := 56) (by decide) dc_1_8_42 (fun c_42 => ?_) (fun c_42 => ?_)
              · skip
                refine r_iconst (v := -1) (by decide) dc_1_8_56 ?_
                refine r_iret rfl dc_1_8_57 ?_
                refine ⟨_, M, T, _, io, sg, ⟨mm_Ev_up (by decide) (c_agr_no (hk M T cs) hM io sg _ _ _ (fun g => h_39 (g.2.2.2.1))), ⟨rfl, by omega, by omega⟩, e, D, nh, nx, ns, nf, ny, tp, cm, w, cn, wc, hV, he3⟩, rfl⟩
              · exact absurd c_42 (by decide)
      · skip
        refine h_callv (t := cT e 0) (as := [.int bv]) (rest := []) (v := .null) (M1 := hk M T cs) rfl rfl iv_0_v128 (Or.inl rfl) na_1_39 ((hF 0 (by decide))) ⟨by omega, by omega⟩ (show (0 : Nat) < 14 by decide) o_39 rfl (show (0 : Nat) ≤ 8 by decide) dc_1_8_10 (mm_Ev_up (by decide : 2 ≤ 33) (k_scAt_no hV bv h_10)) ?_
        refine r_ifnullZ (t := 56) (by decide) dc_1_8_13 ?_
        refine r_iconst (v := -1) (by decide) dc_1_8_56 ?_
        refine r_iret rfl dc_1_8_57 ?_
        refine ⟨_, M, T, _, io, sg, ⟨mm_Ev_up (by decide) (c_agr_no (hk M T cs) hM io sg _ _ _ (fun g => h_10 (by rw [← h3]; exact g.2.1))), ⟨rfl, by omega, by omega⟩, e, D, nh, nx, ns, nf, ny, tp, cm, w, cn, wc, hV, he3⟩, rfl⟩
    · skip
      refine h_callv (t := cT e 0) (as := [.int av]) (rest := []) (v := .null) (M1 := hk M T cs) rfl rfl iv_0_v128 (Or.inl rfl) na_1_39 ((hF 0 (by decide))) ⟨by omega, by omega⟩ (show (0 : Nat) < 14 by decide) o_39 rfl (show (0 : Nat) ≤ 8 by decide) dc_1_8_2 (mm_Ev_up (by decide : 2 ≤ 33) (k_scAt_no hV av h_2)) ?_
      refine r_ifnullZ (t := 56) (by decide) dc_1_8_5 ?_
      refine r_iconst (v := -1) (by decide) dc_1_8_56 ?_
      refine r_iret rfl dc_1_8_57 ?_
      refine ⟨_, M, T, _, io, sg, ⟨mm_Ev_up (by decide) (c_agr_no (hk M T cs) hM io sg _ _ _ (fun g => h_2 (by rw [← h3]; exact g.1))), ⟨rfl, by omega, by omega⟩, e, D, nh, nx, ns, nf, ny, tp, cm, w, cn, wc, hV, he3⟩, rfl⟩
  obtain ⟨z9, ⟨v, M2, T2, cs2, io2, sg2, p9, e9⟩, h9⟩ := hq9
  subst e9
  exact ⟨v, M2, T2, cs2, io2, sg2, p9, h9⟩
theorem st_agreement (av bv nv : Int32) : StpG 47 199 [.int av, .int bv, .int nv] := fun M T cs sg io e D nh nx ns nf ny tp cm w cn wc hV h8 hE hs h3 => by
  obtain ⟨v, M2, T2, cs2, io2, sg2, hp, h⟩ := s_agreement hV h8 hE hs h3 av bv nv
  exact ⟨v, M2, T2, cs2, io2, sg2, hp, mm_Ev_up (by decide) h⟩
