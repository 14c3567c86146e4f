/-! calls of the law: kept, round, mend -/
theorem dc_1_15_0 : decode prog_1_method_15_code 0 = .ok (.aload_n 0, 1) := by decide +kernel
theorem dc_1_15_1 : decode prog_1_method_15_code 1 = .ok (.bipush 7, 2) := by decide +kernel
theorem dc_1_15_3 : decode prog_1_method_15_code 3 = .ok (.iconst 0, 1) := by decide +kernel
theorem dc_1_15_4 : decode prog_1_method_15_code 4 = .ok (.invokevirtual 194, 3) := by decide +kernel
theorem dc_1_15_7 : decode prog_1_method_15_code 7 = .ok (.aload_n 0, 1) := by decide +kernel
theorem dc_1_15_8 : decode prog_1_method_15_code 8 = .ok (.getfield 74, 3) := by decide +kernel
theorem dc_1_15_11 : decode prog_1_method_15_code 11 = .ok (.invokevirtual 198, 3) := by decide +kernel
theorem dc_1_15_14 : decode prog_1_method_15_code 14 = .ok (.ifCond .eq 10, 3) := by decide +kernel
theorem dc_1_15_17 : decode prog_1_method_15_code 17 = .ok (.aload_n 0, 1) := by decide +kernel
theorem dc_1_15_18 : decode prog_1_method_15_code 18 = .ok (.invokevirtual 201, 3) := by decide +kernel
theorem dc_1_15_21 : decode prog_1_method_15_code 21 = .ok (.goto 4, 3) := by decide +kernel
theorem dc_1_15_24 : decode prog_1_method_15_code 24 = .ok (.iconst 0, 1) := by decide +kernel
theorem dc_1_15_25 : decode prog_1_method_15_code 25 = .ok (.ireturn, 1) := by decide +kernel
theorem dc_1_17_0 : decode prog_1_method_17_code 0 = .ok (.aload_n 0, 1) := by decide +kernel
theorem dc_1_17_1 : decode prog_1_method_17_code 1 = .ok (.bipush 7, 2) := by decide +kernel
theorem dc_1_17_3 : decode prog_1_method_17_code 3 = .ok (.iconst 1, 1) := by decide +kernel
theorem dc_1_17_4 : decode prog_1_method_17_code 4 = .ok (.invokevirtual 194, 3) := by decide +kernel
theorem dc_1_17_7 : decode prog_1_method_17_code 7 = .ok (.aload_n 0, 1) := by decide +kernel
theorem dc_1_17_8 : decode prog_1_method_17_code 8 = .ok (.getfield 74, 3) := by decide +kernel
theorem dc_1_17_11 : decode prog_1_method_17_code 11 = .ok (.invokevirtual 198, 3) := by decide +kernel
theorem dc_1_17_14 : decode prog_1_method_17_code 14 = .ok (.ifCond .eq 10, 3) := by decide +kernel
theorem dc_1_17_17 : decode prog_1_method_17_code 17 = .ok (.aload_n 0, 1) := by decide +kernel
theorem dc_1_17_18 : decode prog_1_method_17_code 18 = .ok (.invokevirtual 201, 3) := by decide +kernel
theorem dc_1_17_21 : decode prog_1_method_17_code 21 = .ok (.goto 4, 3) := by decide +kernel
theorem dc_1_17_24 : decode prog_1_method_17_code 24 = .ok (.iconst (-1), 1) := by decide +kernel
theorem dc_1_17_25 : decode prog_1_method_17_code 25 = .ok (.ireturn, 1) := by decide +kernel
theorem dc_1_18_0 : decode prog_1_method_18_code 0 = .ok (.aload_n 0, 1) := by decide +kernel
theorem dc_1_18_1 : decode prog_1_method_18_code 1 = .ok (.iconst 0, 1) := by decide +kernel
theorem dc_1_18_2 : decode prog_1_method_18_code 2 = .ok (.iconst 0, 1) := by decide +kernel
theorem dc_1_18_3 : decode prog_1_method_18_code 3 = .ok (.invokevirtual 194, 3) := by decide +kernel
theorem dc_1_18_6 : decode prog_1_method_18_code 6 = .ok (.aload_n 0, 1) := by decide +kernel
theorem dc_1_18_7 : decode prog_1_method_18_code 7 = .ok (.getfield 74, 3) := by decide +kernel
theorem dc_1_18_10 : decode prog_1_method_18_code 10 = .ok (.invokevirtual 198, 3) := by decide +kernel
theorem dc_1_18_13 : decode prog_1_method_18_code 13 = .ok (.ifCond .eq 7, 3) := by decide +kernel
theorem dc_1_18_16 : decode prog_1_method_18_code 16 = .ok (.iconst 1, 1) := by decide +kernel
theorem dc_1_18_17 : decode prog_1_method_18_code 17 = .ok (.goto 4, 3) := by decide +kernel
theorem dc_1_18_20 : decode prog_1_method_18_code 20 = .ok (.iconst 0, 1) := by decide +kernel
theorem dc_1_18_21 : decode prog_1_method_18_code 21 = .ok (.ireturn, 1) := by decide +kernel
theorem iv_0_v194 : mm_iv 0 (.invokevirtual 194) = some (1, 111) := by decide +kernel
theorem iv_0_v198 : mm_iv 0 (.invokevirtual 198) = some (1, 126) := by decide +kernel
theorem iv_0_v201 : mm_iv 0 (.invokevirtual 201) = some (1, 133) := by decide +kernel
theorem o_111 : mm_o 111 = 0 := by decide +kernel
theorem o_126 : mm_o 126 = 7 := by decide +kernel
theorem o_133 : mm_o 133 = 0 := by decide +kernel
theorem na_1_111 : mm_nas 1 111 = 3 := by decide +kernel
theorem na_1_126 : mm_nas 1 126 = 1 := by decide +kernel
theorem na_1_133 : mm_nas 1 133 = 1 := by decide +kernel
theorem FrF_C {D : Nat → Nat → Nat} {nx : Nat} {cs cs2 : Nat → Nat → Int32} (h : FrF cs cs2) : FrC D nx cs cs2 := fun a h1 _ => h.1 a (by omega)
theorem co_pre {io : Nat → Int32} {sg : Nat → Nat → Int32} {nh nx ns nf ny tp : Nat} {cm : Nat → Nat} {w : Nat → Nat → Nat} {cn : Nat → Nat} {wc : Nat → Nat → Nat} (hR : RV io sg nh nx ns nf ny tp cm w cn wc) {pl : Nat} (hpl : pl = 0 ∨ pl = 1) {my : Nat → Nat → Int32} (hmy : my = (fun s k => sp_mby io sg cm w nx s (sg 60 (4 * s + k)))) {cs : Nat → Nat → Int32} {wo : Nat → Nat → Int} (hS : SD cs (cnA (sp_sel sg pl) ns).1 (qP io (sp_sel sg pl) sg my nh nx ns) wo) {b : Nat} (hp : pRp cs (cnA (sp_sel sg pl) ns).1 (qP io (sp_sel sg pl) sg my nh nx ns) wo (some b)) : (∀ i, i < (cnA (sp_sel sg pl) ns).1 → ∃ o, o < 5 ∧ cs 99 i = nI o ∧ cs (40 + i) o = vD (co (cnA (sp_sel sg pl) ns).1 b i) (co (cnA (sp_sel sg pl) ns).1 b i) ∧ cs (56 + i) o = P58 my (cnA (sp_sel sg pl) ns).2 (co (cnA (sp_sel sg pl) ns).1 b) i) ∧ (∀ i, i < (cnA (sp_sel sg pl) ns).1 → co (cnA (sp_sel sg pl) ns).1 b i = 4 ∨ co (cnA (sp_sel sg pl) ns).1 b i < tN (sg 59 ((cnA (sp_sel sg pl) ns).2 i)) ∧ ¬ my ((cnA (sp_sel sg pl) ns).2 i) (co (cnA (sp_sel sg pl) ns).1 b i) = -1) ∧ (∀ i, i < (cnA (sp_sel sg pl) ns).1 → sg 56 ((cnA (sp_sel sg pl) ns).2 i) = nI 1 ∨ sg 57 ((cnA (sp_sel sg pl) ns).2 i) = -1) := by
  have h59 : ∀ i, i < (cnA (sp_sel sg pl) ns).1 → tN (sg 59 ((cnA (sp_sel sg pl) ns).2 i)) ≤ 4 := fun i hi => (inN_tN (hR.2.2.2.2.2.2.2.2.1 _ (cnA_in _ ns i hi).1).2.2.2.2.2.2.1 (by decide)).2
  refine ⟨fun i hi => ?_, fun i hi => ?_, fun i hi => ?_⟩
  · obtain ⟨b2, e2, -, -, h⟩ := hp.resolve_left (fun z => by cases z.1)
    cases e2
    obtain ⟨o, h1, h2, h3⟩ := h i hi
    obtain ⟨-, hr⟩ := hS.2.2.2 i hi
    obtain ⟨r1, -, r3, -⟩ := hr o h1
    have hs := sd_lo (sg := sg) (my := my) (s := (cnA (sp_sel sg pl) ns).2 i) (o := o) h1 (h59 i hi)
    have hn : sdn sg my ((cnA (sp_sel sg pl) ns).2 i) ≤ 5 := by
      unfold sdn
      have := clA_le (fun d => ¬ my ((cnA (sp_sel sg pl) ns).2 i) d = -1) (tN (sg 59 ((cnA (sp_sel sg pl) ns).2 i)))
      have := h59 i hi
      omega
    have h2' : sdg sg my ((cnA (sp_sel sg pl) ns).2 i) o = co (cnA (sp_sel sg pl) ns).1 b i := h2
    rw [h2'] at hs
    refine ⟨o, Nat.lt_of_lt_of_le h1 hn, h3, r1.trans ?_, r3.trans ?_⟩
    · rw [h2]
    · rw [h2]
      unfold vD P58
      show (if co (cnA (sp_sel sg pl) ns).1 b i = 4 then (-1 : Int32) else nI (tN (my ((cnA (sp_sel sg pl) ns).2 i) (co (cnA (sp_sel sg pl) ns).1 b i)))) = _
      by_cases z : co (cnA (sp_sel sg pl) ns).1 b i = 4
      · rw [if_pos z, if_pos z]
      · rw [if_neg z, if_neg z]
        obtain ⟨j, hj, ej, -⟩ := my_in hmy (hs.resolve_left (fun y => z y.1)).2.2.1
        have hnx := hR.1.2.1.2
        rw [ej, tN_nI (by omega)]
  · obtain ⟨b2, e2, -, -, h⟩ := hp.resolve_left (fun z => by cases z.1)
    cases e2
    obtain ⟨o, h1, h2, h3⟩ := h i hi
    have hs := sd_lo (sg := sg) (my := my) (s := (cnA (sp_sel sg pl) ns).2 i) (o := o) h1 (h59 i hi)
    have h2' : sdg sg my ((cnA (sp_sel sg pl) ns).2 i) o = co (cnA (sp_sel sg pl) ns).1 b i := h2
    rw [h2'] at hs
    exact hs.imp (fun z => z.1) (fun z => ⟨z.2.1, z.2.2.1⟩)
  · obtain ⟨h1, h2, -⟩ := cnA_in (sp_sel sg pl) ns i hi
    rcases h2 with z | z
    · refine Or.inr ?_
      rcases (hR.2.2.2.2.2.2.2.2.1 _ h1).2.2.2.2.2.2.2.2.2 with y | y
      · exact y.2.1
      · exact absurd z (fun u => y.1.elim (fun v => absurd (v.symm.trans u) (by decide)) (fun v => absurd (v.symm.trans u) (by decide)))
    · exact Or.inl z.2
theorem mv_0 {io : Nat → Int32} {sg : Nat → Nat → Int32} {nh nx ns nf ny tp : Nat} {cm : Nat → Nat} {w : Nat → Nat → Nat} {cn : Nat → Nat} {wc : Nat → Nat → Nat} (hR : RV io sg nh nx ns nf ny tp cm w cn wc) {my : Nat → Nat → Int32} {c : Nat → Nat} (hc : ∀ i, i < (cnA (sp_sel sg 0) ns).1 → c i = 4 ∨ c i < tN (sg 59 ((cnA (sp_sel sg 0) ns).2 i)) ∧ ¬ my ((cnA (sp_sel sg 0) ns).2 i) (c i) = -1) : sp_sum (fun i => pI (c i < 4)) (cnA (sp_sel sg 0) ns).1 = nI (cnP (fun i => ¬ P57 sg (cnA (sp_sel sg 0) ns).2 c i = sg 57 ((cnA (sp_sel sg 0) ns).2 i)) (cnA (sp_sel sg 0) ns).1) := by
  rw [sum_cn]
  refine congrArg nI (cnP_c fun i hi => ?_)
  obtain ⟨h1, h2, -⟩ := cnA_in (sp_sel sg 0) ns i hi
  have hT := hR.2.2.2.2.2.2.2.2.1 _ h1
  have h57 : sg 57 ((cnA (sp_sel sg 0) ns).2 i) = -1 := by
    rcases hT.2.2.2.2.2.2.2.2.2 with y | y
    · exact y.2.1
    · exact absurd (h2.resolve_right (fun z => absurd z.1 (by decide))) (fun u => y.1.elim (fun v => absurd (v.symm.trans u) (by decide)) (fun v => absurd (v.symm.trans u) (by decide)))
  have h59 := (inN_tN hT.2.2.2.2.2.2.1 (by decide)).2
  rw [h57]
  unfold P57
  rcases hc i hi with z | z
  · rw [if_pos z]
    exact ⟨fun y => by omega, fun y => absurd rfl y⟩
  · rw [if_neg (by omega)]
    obtain ⟨v, hv, ev⟩ := hT.2.2.2.2.2.2.2.1 (c i) z.1
    rw [ev]
    have := hR.1.1.2
    exact ⟨fun _ => nI_nm1 (by omega), fun _ => by omega⟩
theorem mv_1 {sg : Nat → Nat → Int32} {wh : Nat → Nat} {n b : Nat} : OTv 1 sg wh n b = nI (cnP (fun i => ¬ P57 sg wh (co n b) i = sg 57 (wh i)) n) := by
  unfold OTv sp_ot
  rw [if_neg (by decide), sum_cn]
set_option maxHeartbeats 4000000 in
theorem s_kept {M : mH} {T : Nat → mT} {cs sg : Nat → Nat → Int32} {io : Nat → Int32} {e : Nat → Nat} {D : Nat → Nat → Nat} {nh nx ns nf ny tp : Nat} {cm : Nat → Nat} {w : Nat → Nat → Nat} {cn : Nat → Nat} {wc : Nat → Nat → Nat} (hV : CV M T cs io sg e D nh nx ns nf ny tp cm w cn wc) : ∃ (v : Value), ∃ (cs2 : Nat → Nat → Int32), ∃ (io2 : Nat → Int32), ∃ (sg2 : Nat → Nat → Int32), ∃ (nf2 : Nat), ∃ (ny2 : Nat), ∃ (tp2 : Nat), (mm_Ev 8 229 [.ref 100] (rf_mk (hk M T cs2) io sg) (some v, rf_mk (hk M T cs2) io2 sg2) ∧ CV M T cs2 io2 sg2 e D nh nx ns nf2 ny2 tp2 cm w cn wc) ∧ mm_Ev 20 142 [.ref 0] (hk M T cs) ((some v, hk M T cs2)) := by
  have hq9 : ∃ z, (fun r9 => ∃ (v : Value), ∃ (cs2 : Nat → Nat → Int32), ∃ (io2 : Nat → Int32), ∃ (sg2 : Nat → Nat → Int32), ∃ (nf2 : Nat), ∃ (ny2 : Nat), ∃ (tp2 : Nat), (mm_Ev 8 229 [.ref 100] (rf_mk (hk M T cs2) io sg) (some v, rf_mk (hk M T cs2) io2 sg2) ∧ CV M T cs2 io2 sg2 e D nh nx ns nf2 ny2 tp2 cm w cn wc) ∧ r9 = ((some v, hk M T cs2))) z ∧ mm_Ev 20 142 [.ref 0] (hk M T cs) z := by
    obtain ⟨⟨hM, hMs, hW⟩, hC, hT, hR, hJ⟩ := id hV
    obtain ⟨hF, ⟨hL0, hL1, hL2⟩, hSc, hAg, hSt⟩ := id hC
    obtain ⟨⟨⟨h3, hnh⟩, ⟨h4, hnx⟩, ⟨h5, hns⟩, ⟨h7, hnf⟩, ⟨h6, hny⟩, ⟨h23, htp⟩⟩, hRa, hRb, hRs, hRs2, hRs3, hRx, hCD, hRt, hRt2, hRf⟩ := id hR
    obtain ⟨my, hmy⟩ : ∃ my : Nat → Nat → Int32, my = (fun s k => sp_mby io sg cm w nx s (sg 60 (4 * s + k))) := ⟨_, rfl⟩
    refine r_evQ (by decide +kernel) (show (1 : Nat) ≤ mm_nL 142 by decide +kernel) ?_
    show mm_Ru 19 (0, 1, false, prog_1_method_18_code, some .int) 0 [(0, .ref 0)] [] (hk M T cs) (fun r9 => ∃ (v : Value), ∃ (cs2 : Nat → Nat → Int32), ∃ (io2 : Nat → Int32), ∃ (sg2 : Nat → Nat → Int32), ∃ (nf2 : Nat), ∃ (ny2 : Nat), ∃ (tp2 : Nat), (mm_Ev 8 229 [.ref 100] (rf_mk (hk M T cs2) io sg) (some v, rf_mk (hk M T cs2) io2 sg2) ∧ CV M T cs2 io2 sg2 e D nh nx ns nf2 ny2 tp2 cm w cn wc) ∧ r9 = ((some v, hk M T cs2)))
    refine r_aload_n rfl dc_1_18_0 ?_
    refine r_iconst (v := nI 0) (by decide) dc_1_18_1 ?_
    refine r_iconst (v := nI 0) (by decide) dc_1_18_2 ?_
    obtain ⟨cs3, hP3, hev3⟩ := k_prep00 hV my hmy
    refine h_call0 (t := cT e 0) (as := [.int (nI 0), .int (nI 0)]) (rest := []) (M1 := hk M T cs3) rfl rfl iv_0_v194 (Or.inl rfl) na_1_111 (hF 0 (by decide)) ⟨by omega, by omega⟩ (show (0 : Nat) < 14 by decide) o_111 rfl (show (0 : Nat) ≤ 8 by decide) dc_1_18_3 (mm_Ev_up (by decide : 7 ≤ 19) (hev3)) ?_
    refine r_aload_n rfl dc_1_18_6 ?_
    refine h_get (t := cT e 0) (v := .ref 28) fx_0_74 (hF 0 (by decide)) ⟨by omega, by omega⟩ (rfl) dc_1_18_7 ?_
    obtain ⟨hSD3, hSB3⟩ := PpI_SD hP3 (fun _ => 0)
    obtain ⟨cs4, ⟨hF4, hS4, hR4⟩, hev4⟩ := k_isFound M hM T e hF cs3 _ _ _ _ (pDA_P hR (selM 0 0 sg) 0 hmy) hSD3 (fun _ => 0) hSB3
    have hfr : FrC D nx cs cs4 := FrC_t hP3.1 (FrF_C hF4)
    have hV4 := CV_f hV hfr
    refine h_callv (t := cT e 28) (as := []) (rest := []) (v := .int (pI (¬ sp_bo (pOK (qP io (selM 0 0 sg) sg my nh nx ns) (fun x => blP (selM 0 0 sg) sg x ns) (cnA (selM 0 0 sg) ns).1) (pBT (woP 0 sg (cnA (selM 0 0 sg) ns).2) (cnA (selM 0 0 sg) ns).1) (p5 (cnA (selM 0 0 sg) ns).1) = none))) (M1 := hk M T cs4) rfl rfl iv_0_v198 (Or.inl rfl) na_1_126 (hF 28 (by decide)) ⟨by omega, by omega⟩ (show (7 : Nat) < 14 by decide) o_126 rfl (show (0 : Nat) ≤ 8 by decide) dc_1_18_10 (mm_Ev_up (by decide : 18 ≤ 19) (hev4)) ?_
    refine r_ifeq (t := 20) (by decide) dc_1_18_13 (fun c_13 => ?_) (fun c_13 => ?_)
    · skip
      refine r_iconst (v := nI 0) (by decide) dc_1_18_20 ?_
      refine r_iret rfl dc_1_18_21 ?_
      have hr := c_kept (hk M T cs4) hM io sg ns h5 hns nh h3 hnh nx h4 hnx
      rw [pI_f (fun y => pI_eq0 c_13 ((kept_eq hR hmy).mpr y))] at hr
      refine ⟨_, _, io, sg, nf, ny, tp, ⟨mm_Ev_up (by decide) (hr), hV4⟩, rfl⟩
    · skip
      refine r_iconst (v := nI 1) (by decide) dc_1_18_16 ?_
      refine r_goto (t := 21) (by decide) dc_1_18_17 ?_
      refine r_iret rfl dc_1_18_21 ?_
      have hr := c_kept (hk M T cs4) hM io sg ns h5 hns nh h3 hnh nx h4 hnx
      rw [pI_t ((kept_eq hR hmy).mp (pI_ne c_13))] at hr
      refine ⟨_, _, io, sg, nf, ny, tp, ⟨mm_Ev_up (by decide) (hr), hV4⟩, rfl⟩
  obtain ⟨z9, ⟨v, cs2, io2, sg2, nf2, ny2, tp2, p9, e9⟩, h9⟩ := hq9
  subst e9
  exact ⟨v, cs2, io2, sg2, nf2, ny2, tp2, p9, h9⟩
theorem st_kept : StpN 142 229 [] := fun M T cs sg io e D nh nx ns nf ny tp cm w cn wc hV => by
  obtain ⟨v, cs2, io2, sg2, nf2, ny2, tp2, hp, h⟩ := s_kept hV
  exact ⟨v, cs2, io2, sg2, nf2, ny2, tp2, hp, mm_Ev_up (by decide) h⟩
set_option maxHeartbeats 4000000 in
theorem s_round {M : mH} {T : Nat → mT} {cs sg : Nat → Nat → Int32} {io : Nat → Int32} {e : Nat → Nat} {D : Nat → Nat → Nat} {nh nx ns nf ny tp : Nat} {cm : Nat → Nat} {w : Nat → Nat → Nat} {cn : Nat → Nat} {wc : Nat → Nat → Nat} (hV : CV M T cs io sg e D nh nx ns nf ny tp cm w cn wc) : ∃ (v : Value), ∃ (cs2 : Nat → Nat → Int32), ∃ (io2 : Nat → Int32), ∃ (sg2 : Nat → Nat → Int32), ∃ (nf2 : Nat), ∃ (ny2 : Nat), ∃ (tp2 : Nat), (mm_Ev 8 235 [.ref 100] (rf_mk (hk M T cs2) io sg) (some v, rf_mk (hk M T cs2) io2 sg2) ∧ CV M T cs2 io2 sg2 e D nh nx ns nf2 ny2 tp2 cm w cn wc) ∧ mm_Ev 20 110 [.ref 0] (hk M T cs) ((some v, hk M T cs2)) := by
  have hq9 : ∃ z, (fun r9 => ∃ (v : Value), ∃ (cs2 : Nat → Nat → Int32), ∃ (io2 : Nat → Int32), ∃ (sg2 : Nat → Nat → Int32), ∃ (nf2 : Nat), ∃ (ny2 : Nat), ∃ (tp2 : Nat), (mm_Ev 8 235 [.ref 100] (rf_mk (hk M T cs2) io sg) (some v, rf_mk (hk M T cs2) io2 sg2) ∧ CV M T cs2 io2 sg2 e D nh nx ns nf2 ny2 tp2 cm w cn wc) ∧ r9 = ((some v, hk M T cs2))) z ∧ mm_Ev 20 110 [.ref 0] (hk M T cs) z := by
    obtain ⟨⟨hM, hMs, hW⟩, hC, hT, hR, hJ⟩ := id hV
    obtain ⟨hF, ⟨hL0, hL1, hL2⟩, hSc, hAg, hSt⟩ := id hC
    obtain ⟨⟨⟨h3, hnh⟩, ⟨h4, hnx⟩, ⟨h5, hns⟩, ⟨h7, hnf⟩, ⟨h6, hny⟩, ⟨h23, htp⟩⟩, hRa, hRb, hRs, hRs2, hRs3, hRx, hCD, hRt, hRt2, hRf⟩ := id hR
    obtain ⟨my, hmy⟩ : ∃ my : Nat → Nat → Int32, my = (fun s k => sp_mby io sg cm w nx s (sg 60 (4 * s + k))) := ⟨_, rfl⟩
    refine r_evQ (by decide +kernel) (show (1 : Nat) ≤ mm_nL 110 by decide +kernel) ?_
    show mm_Ru 19 (0, 1, false, prog_1_method_15_code, some .int) 0 [(0, .ref 0)] [] (hk M T cs) (fun r9 => ∃ (v : Value), ∃ (cs2 : Nat → Nat → Int32), ∃ (io2 : Nat → Int32), ∃ (sg2 : Nat → Nat → Int32), ∃ (nf2 : Nat), ∃ (ny2 : Nat), ∃ (tp2 : Nat), (mm_Ev 8 235 [.ref 100] (rf_mk (hk M T cs2) io sg) (some v, rf_mk (hk M T cs2) io2 sg2) ∧ CV M T cs2 io2 sg2 e D nh nx ns nf2 ny2 tp2 cm w cn wc) ∧ r9 = ((some v, hk M T cs2)))
    refine r_aload_n rfl dc_1_15_0 ?_
    refine r_bipush (v := nI 7) (by decide) dc_1_15_1 ?_
    refine r_iconst (v := nI 0) (by decide) dc_1_15_3 ?_
    obtain ⟨cs3, hP3, hev3⟩ := k_prep70 hV my hmy
    rw [selM_7] at hP3
    refine h_call0 (t := cT e 0) (as := [.int (nI 7), .int (nI 0)]) (rest := []) (M1 := hk M T cs3) rfl rfl iv_0_v194 (Or.inl rfl) na_1_111 (hF 0 (by decide)) ⟨by omega, by omega⟩ (show (0 : Nat) < 14 by decide) o_111 rfl (show (0 : Nat) ≤ 8 by decide) dc_1_15_4 (mm_Ev_up (by decide : 7 ≤ 19) (hev3)) ?_
    refine r_aload_n rfl dc_1_15_7 ?_
    refine h_get (t := cT e 0) (v := .ref 28) fx_0_74 (hF 0 (by decide)) ⟨by omega, by omega⟩ (rfl) dc_1_15_8 ?_
    obtain ⟨hSD3, hSB3⟩ := PpI_SD hP3 (fun _ => 0)
    obtain ⟨cs4, ⟨hF4, hS4, hR4⟩, hev4⟩ := k_isFound M hM T e hF cs3 _ _ _ _ (pDA_P hR (sp_sel sg 0) 0 hmy) hSD3 (fun _ => 0) hSB3
    have hfr : FrC D nx cs cs4 := FrC_t hP3.1 (FrF_C hF4)
    have hV4 := CV_f hV hfr
    refine h_callv (t := cT e 28) (as := []) (rest := []) (v := .int (pI (¬ sp_bo (pOK (qP io (sp_sel sg 0) sg my nh nx ns) (fun x => blP (sp_sel sg 0) sg x ns) (cnA (sp_sel sg 0) ns).1) (pBT (woP 0 sg (cnA (sp_sel sg 0) ns).2) (cnA (sp_sel sg 0) ns).1) (p5 (cnA (sp_sel sg 0) ns).1) = none))) (M1 := hk M T cs4) rfl rfl iv_0_v198 (Or.inl rfl) na_1_126 (hF 28 (by decide)) ⟨by omega, by omega⟩ (show (7 : Nat) < 14 by decide) o_126 rfl (show (0 : Nat) ≤ 8 by decide) dc_1_15_11 (mm_Ev_up (by decide : 18 ≤ 19) (hev4)) ?_
    refine r_ifeq (t := 24) (by decide) dc_1_15_14 (fun c_14 => ?_) (fun c_14 => ?_)
    · skip
      refine r_iconst (v := nI 0) (by decide) dc_1_15_24 ?_
      refine r_iret rfl dc_1_15_25 ?_
      have hbe := (best_eq hR (Or.inl rfl) hmy).symm.trans (Classical.byContradiction fun y => pI_eq0 c_14 y)
      obtain ⟨q, bo, hr⟩ := c_round_n (hk M T cs4) hM io sg ns h5 hns nh h3 hnh nx h4 hnx nf h7 hnf cm w hCD (RV_I1 hR) _ _ my rfl rfl hmy hbe
      refine ⟨_, _, _, _, nf, ny, tp, ⟨mm_Ev_up (by decide) (hr), CV_sc hV hfr (fun k h1 h2 => sW_o _ q (scr_f h1 h2)) (fun k hk => (up_o _ _ (by omega)).trans (up_o _ _ (by omega)))⟩, rfl⟩
    · skip
      refine r_aload_n rfl dc_1_15_17 ?_
      obtain ⟨b, hb⟩ := Option.ne_none_iff_exists'.mp (pI_ne c_14)
      rw [hb] at hR4
      have hbe := (best_eq hR (Or.inl rfl) hmy).symm.trans hb
      obtain ⟨hro, hcv, hs0⟩ := co_pre hR (Or.inl rfl) hmy hS4 hR4
      obtain ⟨cs5, hV5, hev5⟩ := k_carry hV4 my hmy (cnA (sp_sel sg 0) ns).2 (co (cnA (sp_sel sg 0) ns).1 b) (cnA (sp_sel sg 0) ns).1 (cnA_le _ ns) (fun i hi => (cnA_in _ ns i hi).1) (fun a b ha hb h => cnA_inj ha hb h) hs0 hS4.1 (fun i hi => (congrFun (hF4.1 37 (by decide)) i).trans (hP3.2.2.1 i hi).1) hro hcv
      refine h_callv (t := cT e 0) (as := []) (rest := []) (v := .int (nI (cnP (fun i => ¬ P57 sg (cnA (sp_sel sg 0) ns).2 (co (cnA (sp_sel sg 0) ns).1 b) i = sg 57 ((cnA (sp_sel sg 0) ns).2 i)) (cnA (sp_sel sg 0) ns).1))) (M1 := hk M T cs5) rfl rfl iv_0_v201 (Or.inl rfl) na_1_133 (hF 0 (by decide)) ⟨by omega, by omega⟩ (show (0 : Nat) < 14 by decide) o_133 rfl (show (0 : Nat) ≤ 8 by decide) dc_1_15_18 (mm_Ev_up (by decide : 5 ≤ 19) (hev5)) ?_
      refine r_goto (t := 25) (by decide) dc_1_15_21 ?_
      refine r_iret rfl dc_1_15_25 ?_
      obtain ⟨q, bo, hr⟩ := c_round_y (hk M T cs5) hM io sg ns h5 hns nh h3 hnh nx h4 hnx nf h7 hnf cm w hCD (RV_I1 hR) _ _ my rfl rfl hmy b hbe
      rw [mv_0 hR hcv] at hr
      refine ⟨_, _, _, _, nf, ny, tp, ⟨mm_Ev_up (by decide) (hr), CV_sc hV5 (FrC_r D nx _) (fun k h1 h2 => sW_o _ q (scr_f h1 h2)) (fun k hk => (up_o _ _ (by omega)).trans (up_o _ _ (by omega)))⟩, rfl⟩
  obtain ⟨z9, ⟨v, cs2, io2, sg2, nf2, ny2, tp2, p9, e9⟩, h9⟩ := hq9
  subst e9
  exact ⟨v, cs2, io2, sg2, nf2, ny2, tp2, p9, h9⟩
theorem st_round : StpN 110 235 [] := fun M T cs sg io e D nh nx ns nf ny tp cm w cn wc hV => by
  obtain ⟨v, cs2, io2, sg2, nf2, ny2, tp2, hp, h⟩ := s_round hV
  exact ⟨v, cs2, io2, sg2, nf2, ny2, tp2, hp, mm_Ev_up (by decide) h⟩
set_option maxHeartbeats 4000000 in
theorem s_mend {M : mH} {T : Nat → mT} {cs sg : Nat → Nat → Int32} {io : Nat → Int32} {e : Nat → Nat} {D : Nat → Nat → Nat} {nh nx ns nf ny tp : Nat} {cm : Nat → Nat} {w : Nat → Nat → Nat} {cn : Nat → Nat} {wc : Nat → Nat → Nat} (hV : CV M T cs io sg e D nh nx ns nf ny tp cm w cn wc) : ∃ (v : Value), ∃ (cs2 : Nat → Nat → Int32), ∃ (io2 : Nat → Int32), ∃ (sg2 : Nat → Nat → Int32), ∃ (nf2 : Nat), ∃ (ny2 : Nat), ∃ (tp2 : Nat), (mm_Ev 8 246 [.ref 100] (rf_mk (hk M T cs2) io sg) (some v, rf_mk (hk M T cs2) io2 sg2) ∧ CV M T cs2 io2 sg2 e D nh nx ns nf2 ny2 tp2 cm w cn wc) ∧ mm_Ev 20 141 [.ref 0] (hk M T cs) ((some v, hk M T cs2)) := by
  have hq9 : ∃ z, (fun r9 => ∃ (v : Value), ∃ (cs2 : Nat → Nat → Int32), ∃ (io2 : Nat → Int32), ∃ (sg2 : Nat → Nat → Int32), ∃ (nf2 : Nat), ∃ (ny2 : Nat), ∃ (tp2 : Nat), (mm_Ev 8 246 [.ref 100] (rf_mk (hk M T cs2) io sg) (some v, rf_mk (hk M T cs2) io2 sg2) ∧ CV M T cs2 io2 sg2 e D nh nx ns nf2 ny2 tp2 cm w cn wc) ∧ r9 = ((some v, hk M T cs2))) z ∧ mm_Ev 20 141 [.ref 0] (hk M T cs) z := by
    obtain ⟨⟨hM, hMs, hW⟩, hC, hT, hR, hJ⟩ := id hV
    obtain ⟨hF, ⟨hL0, hL1, hL2⟩, hSc, hAg, hSt⟩ := id hC
    obtain ⟨⟨⟨h3, hnh⟩, ⟨h4, hnx⟩, ⟨h5, hns⟩, ⟨h7, hnf⟩, ⟨h6, hny⟩, ⟨h23, htp⟩⟩, hRa, hRb, hRs, hRs2, hRs3, hRx, hCD, hRt, hRt2, hRf⟩ := id hR
    obtain ⟨my, hmy⟩ : ∃ my : Nat → Nat → Int32, my = (fun s k => sp_mby io sg cm w nx s (sg 60 (4 * s + k))) := ⟨_, rfl⟩
    refine r_evQ (by decide +kernel) (show (1 : Nat) ≤ mm_nL 141 by decide +kernel) ?_
    show mm_Ru 19 (0, 1, false, prog_1_method_17_code, some .int) 0 [(0, .ref 0)] [] (hk M T cs) (fun r9 => ∃ (v : Value), ∃ (cs2 : Nat → Nat → Int32), ∃ (io2 : Nat → Int32), ∃ (sg2 : Nat → Nat → Int32), ∃ (nf2 : Nat), ∃ (ny2 : Nat), ∃ (tp2 : Nat), (mm_Ev 8 246 [.ref 100] (rf_mk (hk M T cs2) io sg) (some v, rf_mk (hk M T cs2) io2 sg2) ∧ CV M T cs2 io2 sg2 e D nh nx ns nf2 ny2 tp2 cm w cn wc) ∧ r9 = ((some v, hk M T cs2)))
    refine r_aload_n rfl dc_1_17_0 ?_
    refine r_bipush (v := nI 7) (by decide) dc_1_17_1 ?_
    refine r_iconst (v := nI 1) (by decide) dc_1_17_3 ?_
    obtain ⟨cs3, hP3, hev3⟩ := k_prep71 hV my hmy
    rw [selM_7] at hP3
    refine h_call0 (t := cT e 0) (as := [.int (nI 7), .int (nI 1)]) (rest := []) (M1 := hk M T cs3) rfl rfl iv_0_v194 (Or.inl rfl) na_1_111 (hF 0 (by decide)) ⟨by omega, by omega⟩ (show (0 : Nat) < 14 by decide) o_111 rfl (show (0 : Nat) ≤ 8 by decide) dc_1_17_4 (mm_Ev_up (by decide : 7 ≤ 19) (hev3)) ?_
    refine r_aload_n rfl dc_1_17_7 ?_
    refine h_get (t := cT e 0) (v := .ref 28) fx_0_74 (hF 0 (by decide)) ⟨by omega, by omega⟩ (rfl) dc_1_17_8 ?_
    obtain ⟨hSD3, hSB3⟩ := PpI_SD hP3 (fun _ => 0)
    obtain ⟨cs4, ⟨hF4, hS4, hR4⟩, hev4⟩ := k_isFound M hM T e hF cs3 _ _ _ _ (pDA_P hR (sp_sel sg 1) 1 hmy) hSD3 (fun _ => 0) hSB3
    have hfr : FrC D nx cs cs4 := FrC_t hP3.1 (FrF_C hF4)
    have hV4 := CV_f hV hfr
    refine h_callv (t := cT e 28) (as := []) (rest := []) (v := .int (pI (¬ sp_bo (pOK (qP io (sp_sel sg 1) sg my nh nx ns) (fun x => blP (sp_sel sg 1) sg x ns) (cnA (sp_sel sg 1) ns).1) (pBT (woP 1 sg (cnA (sp_sel sg 1) ns).2) (cnA (sp_sel sg 1) ns).1) (p5 (cnA (sp_sel sg 1) ns).1) = none))) (M1 := hk M T cs4) rfl rfl iv_0_v198 (Or.inl rfl) na_1_126 (hF 28 (by decide)) ⟨by omega, by omega⟩ (show (7 : Nat) < 14 by decide) o_126 rfl (show (0 : Nat) ≤ 8 by decide) dc_1_17_11 (mm_Ev_up (by decide : 18 ≤ 19) (hev4)) ?_
    refine r_ifeq (t := 24) (by decide) dc_1_17_14 (fun c_14 => ?_) (fun c_14 => ?_)
    · skip
      refine r_iconst (v := -1) (by decide) dc_1_17_24 ?_
      refine r_iret rfl dc_1_17_25 ?_
      have hbe := (best_eq hR (Or.inr rfl) hmy).symm.trans (Classical.byContradiction fun y => pI_eq0 c_14 y)
      obtain ⟨q, bo, hr⟩ := c_mend_n (hk M T cs4) hM io sg ns h5 hns nh h3 hnh nx h4 hnx nf h7 hnf cm w hCD (RV_I1 hR) _ _ my rfl rfl hmy hbe
      refine ⟨_, _, _, _, nf, ny, tp, ⟨mm_Ev_up (by decide) (hr), CV_sc hV hfr (fun k h1 h2 => sW_o _ q (scr_f h1 h2)) (fun k hk => (up_o _ _ (by omega)).trans (up_o _ _ (by omega)))⟩, rfl⟩
    · skip
      refine r_aload_n rfl dc_1_17_17 ?_
      obtain ⟨b, hb⟩ := Option.ne_none_iff_exists'.mp (pI_ne c_14)
      rw [hb] at hR4
      have hbe := (best_eq hR (Or.inr rfl) hmy).symm.trans hb
      obtain ⟨hro, hcv, hs0⟩ := co_pre hR (Or.inr rfl) hmy hS4 hR4
      obtain ⟨cs5, hV5, hev5⟩ := k_carry hV4 my hmy (cnA (sp_sel sg 1) ns).2 (co (cnA (sp_sel sg 1) ns).1 b) (cnA (sp_sel sg 1) ns).1 (cnA_le _ ns) (fun i hi => (cnA_in _ ns i hi).1) (fun a b ha hb h => cnA_inj ha hb h) hs0 hS4.1 (fun i hi => (congrFun (hF4.1 37 (by decide)) i).trans (hP3.2.2.1 i hi).1) hro hcv
      refine h_callv (t := cT e 0) (as := []) (rest := []) (v := .int (nI (cnP (fun i => ¬ P57 sg (cnA (sp_sel sg 1) ns).2 (co (cnA (sp_sel sg 1) ns).1 b) i = sg 57 ((cnA (sp_sel sg 1) ns).2 i)) (cnA (sp_sel sg 1) ns).1))) (M1 := hk M T cs5) rfl rfl iv_0_v201 (Or.inl rfl) na_1_133 (hF 0 (by decide)) ⟨by omega, by omega⟩ (show (0 : Nat) < 14 by decide) o_133 rfl (show (0 : Nat) ≤ 8 by decide) dc_1_17_18 (mm_Ev_up (by decide : 5 ≤ 19) (hev5)) ?_
      refine r_goto (t := 25) (by decide) dc_1_17_21 ?_
      refine r_iret rfl dc_1_17_25 ?_
      obtain ⟨q, bo, hr⟩ := c_mend_y (hk M T cs5) hM io sg ns h5 hns nh h3 hnh nx h4 hnx nf h7 hnf cm w hCD (RV_I1 hR) _ _ my rfl rfl hmy b hbe
      rw [mv_1] at hr
      refine ⟨_, _, _, _, nf, ny, tp, ⟨mm_Ev_up (by decide) (hr), CV_sc hV5 (FrC_r D nx _) (fun k h1 h2 => sW_o _ q (scr_f h1 h2)) (fun k hk => (up_o _ _ (by omega)).trans (up_o _ _ (by omega)))⟩, rfl⟩
  obtain ⟨z9, ⟨v, cs2, io2, sg2, nf2, ny2, tp2, p9, e9⟩, h9⟩ := hq9
  subst e9
  exact ⟨v, cs2, io2, sg2, nf2, ny2, tp2, p9, h9⟩
theorem st_mend : StpN 141 246 [] := fun M T cs sg io e D nh nx ns nf ny tp cm w cn wc hV => by
  obtain ⟨v, cs2, io2, sg2, nf2, ny2, tp2, hp, h⟩ := s_mend hV
  exact ⟨v, cs2, io2, sg2, nf2, ny2, tp2, hp, mm_Ev_up (by decide) h⟩
