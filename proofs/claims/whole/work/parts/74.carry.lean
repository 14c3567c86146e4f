/-! the whole: the plan is carried out -/
theorem dc_1_44_0 : decode prog_1_method_44_code 0 = .ok (.iconst 0, 1) := by decide +kernel
theorem dc_1_44_1 : decode prog_1_method_44_code 1 = .ok (.istore_n 1, 1) := by decide +kernel
theorem dc_1_44_2 : decode prog_1_method_44_code 2 = .ok (.iconst 0, 1) := by decide +kernel
theorem dc_1_44_3 : decode prog_1_method_44_code 3 = .ok (.istore_n 2, 1) := by decide +kernel
theorem dc_1_44_4 : decode prog_1_method_44_code 4 = .ok (.iload_n 2, 1) := by decide +kernel
theorem dc_1_44_5 : decode prog_1_method_44_code 5 = .ok (.aload_n 0, 1) := by decide +kernel
theorem dc_1_44_6 : decode prog_1_method_44_code 6 = .ok (.getfield 74, 3) := by decide +kernel
theorem dc_1_44_9 : decode prog_1_method_44_code 9 = .ok (.getfield 347, 3) := by decide +kernel
theorem dc_1_44_12 : decode prog_1_method_44_code 12 = .ok (.if_icmp .ge 79, 3) := by decide +kernel
theorem dc_1_44_15 : decode prog_1_method_44_code 15 = .ok (.aload_n 0, 1) := by decide +kernel
theorem dc_1_44_16 : decode prog_1_method_44_code 16 = .ok (.getfield 74, 3) := by decide +kernel
theorem dc_1_44_19 : decode prog_1_method_44_code 19 = .ok (.iload_n 2, 1) := by decide +kernel
theorem dc_1_44_20 : decode prog_1_method_44_code 20 = .ok (.invokevirtual 395, 3) := by decide +kernel
theorem dc_1_44_23 : decode prog_1_method_44_code 23 = .ok (.istore_n 3, 1) := by decide +kernel
theorem dc_1_44_24 : decode prog_1_method_44_code 24 = .ok (.aload_n 0, 1) := by decide +kernel
theorem dc_1_44_25 : decode prog_1_method_44_code 25 = .ok (.iload_n 3, 1) := by decide +kernel
theorem dc_1_44_26 : decode prog_1_method_44_code 26 = .ok (.invokevirtual 180, 3) := by decide +kernel
theorem dc_1_44_29 : decode prog_1_method_44_code 29 = .ok (.astore 4, 2) := by decide +kernel
theorem dc_1_44_31 : decode prog_1_method_44_code 31 = .ok (.aload 4, 2) := by decide +kernel
theorem dc_1_44_33 : decode prog_1_method_44_code 33 = .ok (.ifnull 52, 3) := by decide +kernel
theorem dc_1_44_36 : decode prog_1_method_44_code 36 = .ok (.aload 4, 2) := by decide +kernel
theorem dc_1_44_38 : decode prog_1_method_44_code 38 = .ok (.invokevirtual 261, 3) := by decide +kernel
theorem dc_1_44_41 : decode prog_1_method_44_code 41 = .ok (.istore 5, 2) := by decide +kernel
theorem dc_1_44_43 : decode prog_1_method_44_code 43 = .ok (.aload 4, 2) := by decide +kernel
theorem dc_1_44_45 : decode prog_1_method_44_code 45 = .ok (.aload_n 0, 1) := by decide +kernel
theorem dc_1_44_46 : decode prog_1_method_44_code 46 = .ok (.getfield 74, 3) := by decide +kernel
theorem dc_1_44_49 : decode prog_1_method_44_code 49 = .ok (.iload_n 2, 1) := by decide +kernel
theorem dc_1_44_50 : decode prog_1_method_44_code 50 = .ok (.invokevirtual 398, 3) := by decide +kernel
theorem dc_1_44_53 : decode prog_1_method_44_code 53 = .ok (.aload_n 0, 1) := by decide +kernel
theorem dc_1_44_54 : decode prog_1_method_44_code 54 = .ok (.getfield 74, 3) := by decide +kernel
theorem dc_1_44_57 : decode prog_1_method_44_code 57 = .ok (.iload_n 2, 1) := by decide +kernel
theorem dc_1_44_58 : decode prog_1_method_44_code 58 = .ok (.invokevirtual 401, 3) := by decide +kernel
theorem dc_1_44_61 : decode prog_1_method_44_code 61 = .ok (.invokevirtual 207, 3) := by decide +kernel
theorem dc_1_44_64 : decode prog_1_method_44_code 64 = .ok (.aload 4, 2) := by decide +kernel
theorem dc_1_44_66 : decode prog_1_method_44_code 66 = .ok (.invokevirtual 261, 3) := by decide +kernel
theorem dc_1_44_69 : decode prog_1_method_44_code 69 = .ok (.iload 5, 2) := by decide +kernel
theorem dc_1_44_71 : decode prog_1_method_44_code 71 = .ok (.if_icmp .eq 14, 3) := by decide +kernel
theorem dc_1_44_74 : decode prog_1_method_44_code 74 = .ok (.iinc 1 1, 3) := by decide +kernel
theorem dc_1_44_77 : decode prog_1_method_44_code 77 = .ok (.aload_n 0, 1) := by decide +kernel
theorem dc_1_44_78 : decode prog_1_method_44_code 78 = .ok (.getfield 54, 3) := by decide +kernel
theorem dc_1_44_81 : decode prog_1_method_44_code 81 = .ok (.iload_n 3, 1) := by decide +kernel
theorem dc_1_44_82 : decode prog_1_method_44_code 82 = .ok (.invokevirtual 211, 3) := by decide +kernel
theorem dc_1_44_85 : decode prog_1_method_44_code 85 = .ok (.iinc 2 1, 3) := by decide +kernel
theorem dc_1_44_88 : decode prog_1_method_44_code 88 = .ok (.goto (-84), 3) := by decide +kernel
theorem dc_1_44_91 : decode prog_1_method_44_code 91 = .ok (.iload_n 1, 1) := by decide +kernel
theorem dc_1_44_92 : decode prog_1_method_44_code 92 = .ok (.ireturn, 1) := by decide +kernel
theorem iv_0_v180 : mm_iv 0 (.invokevirtual 180) = some (1, 102) := by decide +kernel
theorem iv_0_v207 : mm_iv 0 (.invokevirtual 207) = some (1, 138) := by decide +kernel
theorem iv_0_v211 : mm_iv 0 (.invokevirtual 211) = some (1, 139) := by decide +kernel
theorem iv_0_v395 : mm_iv 0 (.invokevirtual 395) = some (1, 134) := by decide +kernel
theorem iv_0_v398 : mm_iv 0 (.invokevirtual 398) = some (1, 135) := by decide +kernel
theorem iv_0_v401 : mm_iv 0 (.invokevirtual 401) = some (1, 137) := by decide +kernel
theorem o_102 : mm_o 102 = 0 := by decide +kernel
theorem o_134 : mm_o 134 = 7 := by decide +kernel
theorem o_135 : mm_o 135 = 7 := by decide +kernel
theorem o_137 : mm_o 137 = 7 := by decide +kernel
theorem o_138 : mm_o 138 = 11 := by decide +kernel
theorem o_139 : mm_o 139 = 5 := by decide +kernel
theorem na_1_102 : mm_nas 1 102 = 2 := by decide +kernel
theorem na_1_134 : mm_nas 1 134 = 2 := by decide +kernel
theorem na_1_135 : mm_nas 1 135 = 2 := by decide +kernel
theorem na_1_137 : mm_nas 1 137 = 2 := by decide +kernel
theorem na_1_138 : mm_nas 1 138 = 3 := by decide +kernel
theorem na_1_139 : mm_nas 1 139 = 2 := by decide +kernel
def CoS (sg my : Nat → Nat → Int32) (wh c : Nat → Nat) (nf m k : Nat) : Nat → Nat → Int32 := plS (va_up sg 78 (fgS sg wh c nf m)) my wh c k
theorem CoS_o (sg my : Nat → Nat → Int32) (wh c : Nat → Nat) (nf m k : Nat) {j : Nat} (hj : ¬ (j = 56 ∨ j = 57 ∨ j = 58 ∨ j = 78)) : CoS sg my wh c nf m k j = sg j := by
  show (if j = 58 then _ else if j = 57 then _ else if j = 56 then _ else if j = 78 then _ else sg j) = sg j
  rw [if_neg (by omega), if_neg (by omega), if_neg (by omega), if_neg (by omega)]
theorem CoS_S (sg my : Nat → Nat → Int32) (wh c : Nat → Nat) (nf m : Nat) {j : Nat} (hj : ¬ (j = 56 ∨ j = 57 ∨ j = 58)) : CoS sg my wh c nf m (m + 1) j = CoS sg my wh c nf m m j := by
  show (if j = 58 then _ else if j = 57 then _ else if j = 56 then _ else va_up sg 78 _ j) = (if j = 58 then _ else if j = 57 then _ else if j = 56 then _ else va_up sg 78 _ j)
  rw [if_neg (by omega), if_neg (by omega), if_neg (by omega), if_neg (by omega), if_neg (by omega), if_neg (by omega)]
theorem CoS_e (sg my : Nat → Nat → Int32) (wh c : Nat → Nat) (nf m : Nat) : CoS sg my wh c nf m (m + 1) 56 (wh m) = P56 c m ∧ CoS sg my wh c nf m (m + 1) 57 (wh m) = P57 sg wh c m ∧ CoS sg my wh c nf m (m + 1) 58 (wh m) = P58 my wh c m := ⟨if_pos rfl, if_pos rfl, if_pos rfl⟩
theorem CoS_n (sg my : Nat → Nat → Int32) (wh c : Nat → Nat) (nf m : Nat) {j : Nat} (hj : ¬ j = wh m) : CoS sg my wh c nf m (m + 1) 56 j = CoS sg my wh c nf m m 56 j ∧ CoS sg my wh c nf m (m + 1) 57 j = CoS sg my wh c nf m m 57 j ∧ CoS sg my wh c nf m (m + 1) 58 j = CoS sg my wh c nf m m 58 j := ⟨if_neg hj, if_neg hj, if_neg hj⟩
theorem CoS_h {sg my : Nat → Nat → Int32} {wh c : Nat → Nat} {nf m : Nat} (h : ∀ i, i < m → ¬ wh i = wh m) (h0 : sg 56 (wh m) = nI 1 ∨ sg 57 (wh m) = -1) : hst (CoS sg my wh c nf m m) (wh m) = sg 57 (wh m) := by
  have e1 : CoS sg my wh c nf m m 56 (wh m) = sg 56 (wh m) := gU_old h
  have e2 : CoS sg my wh c nf m m 57 (wh m) = sg 57 (wh m) := gU_old h
  unfold hst
  rw [e1, e2]
  rcases h0 with z | z
  · rw [if_pos z]
  · rw [z]
    split <;> rfl
theorem CoS_g {sg my : Nat → Nat → Int32} {wh c : Nat → Nat} {nf m : Nat} : hst (CoS sg my wh c nf m (m + 1)) (wh m) = P57 sg wh c m := by
  unfold hst
  rw [(CoS_e sg my wh c nf m).1, (CoS_e sg my wh c nf m).2.1]
  unfold P56 P57
  by_cases z : c m = 4
  · rw [if_pos z, if_pos z, if_neg (by decide)]
  · rw [if_neg z, if_neg z, if_pos rfl]
theorem vD_P56 (d : Nat) (h : d ≤ 4) : (if vD d d = -1 then nI 0 else nI 1) = if d = 4 then nI 0 else nI 1 := by
  unfold vD
  by_cases z : d = 4
  · rw [if_pos z, if_pos z, if_pos rfl]
  · rw [if_neg z, if_neg z, if_neg (nI_nm1 (by omega))]
theorem co_set {M : mH} {T : Nat → mT} {cs1 sg : Nat → Nat → Int32} {io : Nat → Int32} {e : Nat → Nat} {D : Nat → Nat → Nat} {nh nx ns nf ny tp : Nat} {cm : Nat → Nat} {w : Nat → Nat → Nat} {cn : Nat → Nat} {wc : Nat → Nat → Nat} {my : Nat → Nat → Int32} {wh c : Nat → Nat} {m : Nat} (hV : CV M T cs1 io (CoS sg my wh c nf m m) e D nh nx ns nf ny tp cm w cn wc) (hmy : my = (fun s k => sp_mby io sg cm w nx s (sg 60 (4 * s + k)))) (hs : wh m < ns) (hcv : c m = 4 ∨ c m < tN (sg 59 (wh m)) ∧ ¬ my (wh m) (c m) = -1) : CV M T (w1 (w1 (w1 cs1 (D 7 (wh m)) 9 (vD (c m) (c m))) (D 7 (wh m)) 10 (P58 my wh c m)) (D 7 (wh m)) 8 (if vD (c m) (c m) = -1 then nI 0 else nI 1)) io (CoS sg my wh c nf m (m + 1)) e D nh nx ns nf ny tp cm w cn wc := by
  obtain ⟨e56, e57, e58⟩ := CoS_e sg my wh c nf m
  have hRt := hV.2.2.2.1.2.2.2.2.2.2.2.2.1 (wh m) hs
  have hJ := hV.2.2.2.2
  have o59 : CoS sg my wh c nf m m 59 = sg 59 := CoS_o sg my wh c nf m m (by decide)
  have o60 : CoS sg my wh c nf m m 60 = sg 60 := CoS_o sg my wh c nf m m (by decide)
  have q59 := inN_tN hRt.2.2.2.2.2.2.1 (by decide)
  rw [o59] at q59
  have hc4 : c m ≤ 4 := by omega
  refine CV_one hV hs (fun a ha => ?_) (fun k hk => CoS_S sg my wh c nf m hk) (fun j hj => CoS_n sg my wh c nf m hj) (StR_set (hV.2.1.2.2.2.2 _ hs) (DJ_ne hJ (dvl_s (by decide) (by decide) hs) (dvl_s (by decide) (by decide) hs) (by omega)) (DJ_ne hJ (dvl_s (by decide) (by decide) hs) (dvl_s (by decide) (by decide) hs) (by omega)) (fun k hk => CoS_S sg my wh c nf m hk) (e56.trans (vD_P56 _ hc4).symm) e58 (fun z => ?_) (fun z => ?_)) ?_
  · rw [w1_n _ _ _ ha, w1_n _ _ _ ha, w1_n _ _ _ ha]
  · have h4 : ¬ c m = 4 := fun y => by
      rw [vD_P56 _ hc4, if_pos y] at z
      exact absurd z (by decide)
    refine ⟨c m, ?_, if_neg h4, ?_⟩
    · rw [o59]
      exact (hcv.resolve_left h4).1
    · rw [e57, o60]
      exact (if_neg h4).symm
  · have h4 : c m = 4 := Classical.byContradiction fun y => by
      rw [vD_P56 _ hc4, if_neg y] at z
      exact z rfl
    exact if_pos h4
  · have g : ∀ k, ¬ (k = 56 ∨ k = 57 ∨ k = 58) → CoS sg my wh c nf m (m + 1) k = CoS sg my wh c nf m m k := fun k hk => CoS_S sg my wh c nf m hk
    obtain ⟨a1, a2, a3, a4, a5, a6, a7, a8, a9, a10⟩ := hRt
    unfold RVt
    rw [g 51 (by decide), g 52 (by decide), g 53 (by decide), g 54 (by decide), g 55 (by decide), g 59 (by decide), g 60 (by decide), g 61 (by decide), g 27 (by decide), g 28 (by decide), e56, e57, e58]
    refine ⟨a1, a2, a3, a4, a5, a6, a7, a8, a9, ?_⟩
    unfold P56 P57 P58
    by_cases h4 : c m = 4
    · rw [if_pos h4, if_pos h4, if_pos h4]
      exact Or.inl ⟨Or.inl rfl, rfl, rfl⟩
    · rw [if_neg h4, if_neg h4, if_neg h4]
      obtain ⟨hc1, hc2⟩ := hcv.resolve_left h4
      obtain ⟨x, hx, ex, hjn⟩ := my_in hmy hc2
      obtain ⟨p, hp, ep⟩ := a8 (c m) (by rw [o59]; exact hc1)
      rw [o60] at ep
      refine Or.inr ⟨Or.inl rfl, x, p, hx, hp, ex, ep, ?_⟩
      rw [CoS_o sg my wh c nf m m (j := 51) (by decide), CoS_o sg my wh c nf m m (j := 27) (by decide), CoS_o sg my wh c nf m m (j := 28) (by decide)]
      exact hjn.elim (fun y => Or.inl y.1.symm) (fun y => Or.inr y.2.symm)
theorem co_for {M : mH} {T : Nat → mT} {cs1 sg : Nat → Nat → Int32} {io : Nat → Int32} {e : Nat → Nat} {D : Nat → Nat → Nat} {nh nx ns nf ny tp : Nat} {cm : Nat → Nat} {w : Nat → Nat → Nat} {cn : Nat → Nat} {wc : Nat → Nat → Nat} {my : Nat → Nat → Int32} {wh c : Nat → Nat} {m : Nat} (hV : CV M T cs1 io (CoS sg my wh c nf m (m + 1)) e D nh nx ns nf ny tp cm w cn wc) (hn : ¬ P57 sg wh c m = sg 57 (wh m)) : CV M T (wA cs1 21 (sp_fo (cs1 21) (nI (wh m)) nf)) io (CoS sg my wh c nf (m + 1) (m + 1)) e D nh nx ns nf ny tp cm w cn wc := by
  have := CV_fo hV (nI (wh m))
  have e78 : CoS sg my wh c nf m (m + 1) 78 = fgS sg wh c nf m := rfl
  have e2 : fgS sg wh c nf (m + 1) = sp_fo (fgS sg wh c nf m) (nI (wh m)) nf := if_neg hn
  rw [e78, ← e2] at this
  unfold CoS at this ⊢
  rw [plS_78] at this
  exact this
theorem co_same {sg my : Nat → Nat → Int32} {wh c : Nat → Nat} {nf m : Nat} (hn : P57 sg wh c m = sg 57 (wh m)) : CoS sg my wh c nf m (m + 1) = CoS sg my wh c nf (m + 1) (m + 1) := by
  have e2 : fgS sg wh c nf (m + 1) = fgS sg wh c nf m := if_pos hn
  unfold CoS
  rw [e2]
theorem CoS_0 (sg my : Nat → Nat → Int32) (wh c : Nat → Nat) (nf : Nat) : CoS sg my wh c nf 0 0 = sg := (plS_0 _ my wh c).trans (va_up_id sg 78)
def CoI (M : mH) (T : Nat → mT) (cs cs1 sg : Nat → Nat → Int32) (io : Nat → Int32) (e : Nat → Nat) (D : Nat → Nat → Nat) (nh nx ns nf ny tp : Nat) (cm : Nat → Nat) (w : Nat → Nat → Nat) (cn : Nat → Nat) (wc : Nat → Nat → Nat) (my : Nat → Nat → Int32) (wh c : Nat → Nat) (m : Nat) : Prop := CV M T cs1 io (CoS sg my wh c nf m m) e D nh nx ns nf ny tp cm w cn wc ∧ ∀ a, 28 ≤ a → a < 100 → cs1 a = cs a
set_option maxHeartbeats 4000000 in
theorem k_carry {M : mH} {T : Nat → mT} {cs sg : Nat → Nat → Int32} {io : Nat → Int32} {e : Nat → Nat} {D : Nat → Nat → Nat} {nh nx ns nf ny tp : Nat} {cm : Nat → Nat} {w : Nat → Nat → Nat} {cn : Nat → Nat} {wc : Nat → Nat → Nat} (hV : CV M T cs io sg e D nh nx ns nf ny tp cm w cn wc) (my : Nat → Nat → Int32) (hmy : my = (fun s k => sp_mby io sg cm w nx s (sg 60 (4 * s + k)))) (wh c : Nat → Nat) (n : Nat) (hn7 : n ≤ 7) (hwh : ∀ i, i < n → wh i < ns) (hinj : ∀ a b, a < n → b < n → wh a = wh b → a = b) (hs0 : ∀ i, i < n → sg 56 (wh i) = nI 1 ∨ sg 57 (wh i) = -1) (h28 : cs 28 1 = nI n) (h37 : ∀ i, i < n → cs 37 i = nI (wh i)) (hro : ∀ i, i < n → ∃ o, o < 5 ∧ cs 99 i = nI o ∧ cs (40 + i) o = vD (c i) (c i) ∧ cs (56 + i) o = P58 my wh c i) (hcv : ∀ i, i < n → c i = 4 ∨ c i < tN (sg 59 (wh i)) ∧ ¬ my (wh i) (c i) = -1) : ∃ (cs2 : Nat → Nat → Int32), (CV M T cs2 io (CoS sg my wh c nf n n) e D nh nx ns nf ny tp cm w cn wc) ∧ mm_Ev 5 133 [.ref 0] (hk M T cs) ((some (.int (nI (cnP (fun i => ¬ P57 sg wh c i = sg 57 (wh i)) n))), hk M T cs2)) := by
  have hq9 : ∃ z, (fun r9 => ∃ (cs2 : Nat → Nat → Int32), (CV M T cs2 io (CoS sg my wh c nf n n) e D nh nx ns nf ny tp cm w cn wc) ∧ r9 = ((some (.int (nI (cnP (fun i => ¬ P57 sg wh c i = sg 57 (wh i)) n))), hk M T cs2))) z ∧ mm_Ev 5 133 [.ref 0] (hk M T cs) z := by
    obtain ⟨⟨hM, hMs, hW⟩, hC, hT, hR, hJ⟩ := id hV
    obtain ⟨hF, ⟨hL0, hL1, hL2⟩, hSc, hAg, hSt⟩ := id hC
    obtain ⟨⟨⟨h3, hnh⟩, ⟨h4, hnx⟩, ⟨h5, hns⟩, ⟨h7, hnf⟩, ⟨h6, hny⟩, ⟨h23, htp⟩⟩, hRa, hRb, hRs, hRs2, hRs3, hRx, hCD, hRt, hRt2, hRf⟩ := id hR
    refine r_evQ (by decide +kernel) (show (1 : Nat) ≤ mm_nL 133 by decide +kernel) ?_
    show mm_Ru 4 (0, 6, false, prog_1_method_44_code, some .int) 0 [(0, .ref 0)] [] (hk M T cs) (fun r9 => ∃ (cs2 : Nat → Nat → Int32), (CV M T cs2 io (CoS sg my wh c nf n n) e D nh nx ns nf ny tp cm w cn wc) ∧ r9 = ((some (.int (nI (cnP (fun i => ¬ P57 sg wh c i = sg 57 (wh i)) n))), hk M T cs2)))
    refine r_iconst (v := nI 0) (by decide) dc_1_44_0 ?_
    refine r_istore_n (ls' := [(1, .int (nI 0)), (0, .ref 0)]) (by decide) rfl dc_1_44_1 ?_
    refine r_iconst (v := nI 0) (by decide) dc_1_44_2 ?_
    refine r_istore_n (ls' := [(2, .int (nI 0)), (1, .int (nI 0)), (0, .ref 0)]) (by decide) rfl dc_1_44_3 ?_
    refine r_ls [(1, .int (nI 0)), (2, .int (nI 0)), (0, .ref 0)] (mm_ndk_of [1, 2, 0] rfl (by decide)) (mm_sub_cons rfl (mm_sub_cons rfl (mm_sub_cons rfl (mm_sub_nil _)))) ?_
    refine mm_cnt (P := fun m => ∀ (cs1 : Nat → Nat → Int32), (CoI M T cs cs1 sg io e D nh nx ns nf ny tp cm w cn wc my wh c m) → mm_Ru 4 (0, 6, false, prog_1_method_44_code, some .int) 4 [(1, .int (nI (cnP (fun i => ¬ P57 sg wh c i = sg 57 (wh i)) m))), (2, .int (nI m)), (0, .ref 0)] [] (hk M T cs1) (fun r9 => ∃ (cs2 : Nat → Nat → Int32), (CV M T cs2 io (CoS sg my wh c nf n n) e D nh nx ns nf ny tp cm w cn wc) ∧ r9 = ((some (.int (nI (cnP (fun i => ¬ P57 sg wh c i = sg 57 (wh i)) n))), hk M T cs2)))) n ?_ ?_ 0 (by omega) cs (⟨by rw [CoS_0]; exact hV, fun _ _ _ => rfl⟩)
    · intro  cs1 hi_m
      show mm_Ru 4 (0, 6, false, prog_1_method_44_code, some .int) 4 [(1, .int (nI (cnP (fun i => ¬ P57 sg wh c i = sg 57 (wh i)) n))), (2, .int (nI n)), (0, .ref 0)] [] (hk M T cs1) (fun r9 => ∃ (cs2 : Nat → Nat → Int32), (CV M T cs2 io (CoS sg my wh c nf n n) e D nh nx ns nf ny tp cm w cn wc) ∧ r9 = ((some (.int (nI (cnP (fun i => ¬ P57 sg wh c i = sg 57 (wh i)) n))), hk M T cs2)))
      obtain ⟨hV1, h281⟩ := hi_m
      refine r_iload_n rfl dc_1_44_4 ?_
      refine r_aload_n rfl dc_1_44_5 ?_
      refine h_get (t := cT e 0) (v := .ref 28) fx_0_74 (hF 0 (by decide)) ⟨by omega, by omega⟩ (rfl) dc_1_44_6 ?_
      refine h_get (t := cT e 28) (v := .int (nI n)) fx_0_347 (hF 28 (by decide)) ⟨by omega, by omega⟩ (show some (Value.int _) = _ from congrArg (fun z => some (Value.int z)) ((congrFun (h281 28 (by decide) (by decide)) 1).trans h28)) dc_1_44_9 ?_
      refine r_ncge (t := 91) (by omega) (by omega) (by decide) dc_1_44_12 (fun c_12 => ?_) (fun c_12 => ?_)
      · skip
        refine r_iload_n rfl dc_1_44_91 ?_
        refine r_iret rfl dc_1_44_92 ?_
        exact ⟨cs1, hV1, rfl⟩
      · omega
    · intro m h_m ih_m  cs1 hi_m
      obtain ⟨hV1, h281⟩ := hi_m
      have hwm := hwh m h_m
      have hcn1 := cnP_le (fun i => ¬ P57 sg wh c i = sg 57 (wh i)) m
      have hnw : ∀ i, i < m → ¬ wh i = wh m := fun i hi z => by have := hinj i m (by omega) h_m z; omega
      obtain ⟨o, ho5, h99, h40, h56⟩ := hro m h_m
      have hlo := DJ_lo hJ (dvl_s (k := 7) (by decide) (by decide) hwm : dvl sg nh nx ns 7 (wh m))
      have q59 := inN_tN (hRt (wh m) hwm).2.2.2.2.2.2.1 (by decide)
      show mm_Ru 4 (0, 6, false, prog_1_method_44_code, some .int) 4 [(1, .int (nI (cnP (fun i => ¬ P57 sg wh c i = sg 57 (wh i)) m))), (2, .int (nI m)), (0, .ref 0)] [] (hk M T cs1) (fun r9 => ∃ (cs2 : Nat → Nat → Int32), (CV M T cs2 io (CoS sg my wh c nf n n) e D nh nx ns nf ny tp cm w cn wc) ∧ r9 = ((some (.int (nI (cnP (fun i => ¬ P57 sg wh c i = sg 57 (wh i)) n))), hk M T cs2)))
      refine r_iload_n rfl dc_1_44_4 ?_
      refine r_aload_n rfl dc_1_44_5 ?_
      refine h_get (t := cT e 0) (v := .ref 28) fx_0_74 (hF 0 (by decide)) ⟨by omega, by omega⟩ (rfl) dc_1_44_6 ?_
      refine h_get (t := cT e 28) (v := .int (nI n)) fx_0_347 (hF 28 (by decide)) ⟨by omega, by omega⟩ (show some (Value.int _) = _ from congrArg (fun z => some (Value.int z)) ((congrFun (h281 28 (by decide) (by decide)) 1).trans h28)) dc_1_44_9 ?_
      refine r_ncge (t := 91) (by omega) (by omega) (by decide) dc_1_44_12 (fun c_12 => ?_) (fun c_12 => ?_)
      · omega
      · skip
        refine r_aload_n rfl dc_1_44_15 ?_
        refine h_get (t := cT e 0) (v := .ref 28) fx_0_74 (hF 0 (by decide)) ⟨by omega, by omega⟩ (rfl) dc_1_44_16 ?_
        refine r_iload_n rfl dc_1_44_19 ?_
        refine h_callv (t := cT e 28) (as := [.int (nI m)]) (rest := []) (v := .int (nI (wh m))) (M1 := hk M T cs1) rfl rfl iv_0_v395 (Or.inl rfl) na_1_134 (hF 28 (by decide)) ⟨by omega, by omega⟩ (show (7 : Nat) < 14 by decide) o_134 rfl (show (0 : Nat) ≤ 8 by decide) dc_1_44_20 (mm_Ev_up (by decide : 1 ≤ 4) (by rw [show (nI (wh m)) = cs1 37 m from ((congrFun (h281 37 (by decide) (by decide)) m).trans (h37 m h_m)).symm]; exact k_stOf M hM T e hF cs1 m (by omega))) ?_
        refine r_istore_n (ls' := [(3, .int (nI (wh m))), (1, .int (nI (cnP (fun i => ¬ P57 sg wh c i = sg 57 (wh i)) m))), (2, .int (nI m)), (0, .ref 0)]) (by decide) rfl dc_1_44_23 ?_
        refine r_aload_n rfl dc_1_44_24 ?_
        refine r_iload_n rfl dc_1_44_25 ?_
        refine h_callv (t := cT e 0) (as := [.int (nI (wh m))]) (rest := []) (v := .ref (D 7 (wh m))) (M1 := hk M T cs1) rfl rfl iv_0_v180 (Or.inl rfl) na_1_102 (hF 0 (by decide)) ⟨by omega, by omega⟩ (show (0 : Nat) < 14 by decide) o_102 rfl (show (0 : Nat) ≤ 8 by decide) dc_1_44_26 (k_stAt_ok hV1 (wh m) hwm) ?_
        refine r_astore (ls' := [(4, .ref (D 7 (wh m))), (3, .int (nI (wh m))), (1, .int (nI (cnP (fun i => ¬ P57 sg wh c i = sg 57 (wh i)) m))), (2, .int (nI m)), (0, .ref 0)]) (by decide) rfl dc_1_44_29 ?_
        refine r_aload rfl dc_1_44_31 ?_
        refine r_ifnull dc_1_44_33 ?_
        refine r_aload rfl dc_1_44_36 ?_
        refine h_callv (t := (11, 0, rl [(6, D 9 (wh m)), (5, D 8 (wh m))])) (as := []) (rest := []) (v := .int (sg 57 (wh m))) (M1 := hk M T cs1) rfl rfl iv_0_v261 (Or.inl rfl) na_1_118 (hSt (wh m) (by omega)).1 (hSt (wh m) (by omega)).2.1 (show (11 : Nat) < 14 by decide) o_118 rfl (show (0 : Nat) ≤ 8 by decide) dc_1_44_38 (mm_Ev_up (by decide : 2 ≤ 4) (by rw [← CoS_h (my := my) (c := c) (nf := nf) hnw (hs0 m h_m)]; exact k_host M T cs1 _ D (wh m) _ (hV1.2.1.2.2.2.2 _ hwm) (by rw [CoS_o sg my wh c nf m m (by decide)]; exact q59.2))) ?_
        refine r_istore (ls' := [(5, .int (sg 57 (wh m))), (4, .ref (D 7 (wh m))), (3, .int (nI (wh m))), (1, .int (nI (cnP (fun i => ¬ P57 sg wh c i = sg 57 (wh i)) m))), (2, .int (nI m)), (0, .ref 0)]) (by decide) rfl dc_1_44_41 ?_
        refine r_aload rfl dc_1_44_43 ?_
        refine r_aload_n rfl dc_1_44_45 ?_
        refine h_get (t := cT e 0) (v := .ref 28) fx_0_74 (hF 0 (by decide)) ⟨by omega, by omega⟩ (rfl) dc_1_44_46 ?_
        refine r_iload_n rfl dc_1_44_49 ?_
        refine h_callv (t := cT e 28) (as := [.int (nI m)]) (rest := [.ref (D 7 (wh m))]) (v := .int (vD (c m) (c m))) (M1 := hk M T cs1) rfl rfl iv_0_v398 (Or.inl rfl) na_1_135 (hF 28 (by decide)) ⟨by omega, by omega⟩ (show (7 : Nat) < 14 by decide) o_135 rfl (show (1 : Nat) ≤ 8 by decide) dc_1_44_50 (mm_Ev_up (by decide : 2 ≤ 4) (by rw [← h40, ← h281 (40 + m) (by omega) (by omega)]; exact k_wishOf M hM T e hF cs1 m o (by omega) (by rw [h281 99 (by decide) (by decide)]; exact h99) ho5)) ?_
        refine r_aload_n rfl dc_1_44_53 ?_
        refine h_get (t := cT e 0) (v := .ref 28) fx_0_74 (hF 0 (by decide)) ⟨by omega, by omega⟩ (rfl) dc_1_44_54 ?_
        refine r_iload_n rfl dc_1_44_57 ?_
        refine h_callv (t := cT e 28) (as := [.int (nI m)]) (rest := [.int (vD (c m) (c m)), .ref (D 7 (wh m))]) (v := .int (P58 my wh c m)) (M1 := hk M T cs1) rfl rfl iv_0_v401 (Or.inl rfl) na_1_137 (hF 28 (by decide)) ⟨by omega, by omega⟩ (show (7 : Nat) < 14 by decide) o_137 rfl (show (2 : Nat) ≤ 8 by decide) dc_1_44_58 (mm_Ev_up (by decide : 2 ≤ 4) (by rw [← h56, ← h281 (56 + m) (by omega) (by omega)]; exact k_agrOf M hM T e hF cs1 m o (by omega) (by rw [h281 99 (by decide) (by decide)]; exact h99) ho5)) ?_
        have hset := k_settle M T cs1 _ D (wh m) _ (hV1.2.1.2.2.2.2 _ hwm) (by rw [CoS_o sg my wh c nf m m (by decide)]; exact q59.2) (vD (c m) (c m)) (P58 my wh c m)
        have hV2 := co_set hV1 hmy hwm (hcv m h_m)
        have h282 : ∀ a, 28 ≤ a → a < 100 → (w1 (w1 (w1 cs1 (D 7 (wh m)) 9 (vD (c m) (c m))) (D 7 (wh m)) 10 (P58 my wh c m)) (D 7 (wh m)) 8 (if vD (c m) (c m) = -1 then nI 0 else nI 1)) a = cs a := fun a h1 h2 => by rw [w1_n _ _ _ (by omega), w1_n _ _ _ (by omega), w1_n _ _ _ (by omega)]; exact h281 a h1 h2
        obtain ⟨cs2, ecs2⟩ : ∃ z, z = w1 (w1 (w1 cs1 (D 7 (wh m)) 9 (vD (c m) (c m))) (D 7 (wh m)) 10 (P58 my wh c m)) (D 7 (wh m)) 8 (if vD (c m) (c m) = -1 then nI 0 else nI 1) := ⟨_, rfl⟩
        rw [← ecs2] at hset hV2 h282
        refine h_call0 (t := (11, 0, rl [(6, D 9 (wh m)), (5, D 8 (wh m))])) (as := [.int (vD (c m) (c m)), .int (P58 my wh c m)]) (rest := []) (M1 := hk M T cs2) rfl rfl iv_0_v207 (Or.inl rfl) na_1_138 (hSt (wh m) (by omega)).1 (hSt (wh m) (by omega)).2.1 (show (11 : Nat) < 14 by decide) o_138 rfl (show (0 : Nat) ≤ 8 by decide) dc_1_44_61 (mm_Ev_up (by decide : 1 ≤ 4) (hset)) ?_
        refine r_aload rfl dc_1_44_64 ?_
        refine h_callv (t := (11, 0, rl [(6, D 9 (wh m)), (5, D 8 (wh m))])) (as := []) (rest := []) (v := .int (P57 sg wh c m)) (M1 := hk M T cs2) rfl rfl iv_0_v261 (Or.inl rfl) na_1_118 (hSt (wh m) (by omega)).1 (hSt (wh m) (by omega)).2.1 (show (11 : Nat) < 14 by decide) o_118 rfl (show (0 : Nat) ≤ 8 by decide) dc_1_44_66 (mm_Ev_up (by decide : 2 ≤ 4) (by rw [← CoS_g (sg := sg) (my := my) (nf := nf)]; exact k_host M T cs2 _ D (wh m) _ (hV2.2.1.2.2.2.2 _ hwm) (by rw [CoS_o sg my wh c nf m (m + 1) (by decide)]; exact q59.2))) ?_
        refine r_iload rfl dc_1_44_69 ?_
        refine r_iceq (t := 85) (by decide) dc_1_44_71 (fun c_71 => ?_) (fun c_71 => ?_)
        · skip
          refine r_iinc (n := 2) (k := 1) (x := nI m) (v := nI (m + 1)) (ls' := [(2, .int (nI (m + 1))), (5, .int (sg 57 (wh m))), (4, .ref (D 7 (wh m))), (3, .int (nI (wh m))), (1, .int (nI (cnP (fun i => ¬ P57 sg wh c i = sg 57 (wh i)) m))), (0, .ref 0)]) rfl (nI_1 _) (by decide) rfl dc_1_44_85 ?_
          refine r_goto (t := 4) (by decide) dc_1_44_88 ?_
          refine r_ls [(1, .int (nI (cnP (fun i => ¬ P57 sg wh c i = sg 57 (wh i)) m))), (2, .int (nI (m + 1))), (0, .ref 0)] (mm_ndk_of [1, 2, 0] rfl (by decide)) (mm_sub_cons rfl (mm_sub_cons rfl (mm_sub_cons rfl (mm_sub_nil _)))) ?_
          show mm_Ru _ _ _ [(1, .int (nI (cnP (fun i => ¬ P57 sg wh c i = sg 57 (wh i)) m))), _, _] _ _ _
          rw [← cnP_f (P := fun i => ¬ P57 sg wh c i = sg 57 (wh i)) (m := m) (fun z => z c_71)]
          exact ih_m cs2 (⟨co_same c_71 ▸ hV2, h282⟩)
        · skip
          refine r_iinc (n := 1) (k := 1) (x := nI (cnP (fun i => ¬ P57 sg wh c i = sg 57 (wh i)) m)) (v := nI (cnP (fun i => ¬ P57 sg wh c i = sg 57 (wh i)) m + 1)) (ls' := [(1, .int (nI (cnP (fun i => ¬ P57 sg wh c i = sg 57 (wh i)) m + 1))), (5, .int (sg 57 (wh m))), (4, .ref (D 7 (wh m))), (3, .int (nI (wh m))), (2, .int (nI m)), (0, .ref 0)]) rfl (nI_1 _) (by decide) rfl dc_1_44_74 ?_
          refine r_aload_n rfl dc_1_44_77 ?_
          refine h_get (t := cT e 0) (v := .ref 20) fx_0_54 (hF 0 (by decide)) ⟨by omega, by omega⟩ (rfl) dc_1_44_78 ?_
          refine r_iload_n rfl dc_1_44_81 ?_
          refine h_call0 (t := cT e 20) (as := [.int (nI (wh m))]) (rest := []) (M1 := hk M T (wA cs2 21 (sp_fo (cs2 21) (nI (wh m)) nf))) rfl rfl iv_0_v211 (Or.inl rfl) na_1_139 (hF 20 (by decide)) ⟨by omega, by omega⟩ (show (5 : Nat) < 14 by decide) o_139 rfl (show (0 : Nat) ≤ 8 by decide) dc_1_44_82 (mm_Ev_up (by decide : 1 ≤ 4) (k_forget M hM T e hF cs2 _ nf hV2.2.2.1.2.2.2.2.1 hnf hV2.2.2.1.2.2.2.2.2.2 (nI (wh m)))) ?_
          refine r_iinc (n := 2) (k := 1) (x := nI m) (v := nI (m + 1)) (ls' := [(2, .int (nI (m + 1))), (1, .int (nI (cnP (fun i => ¬ P57 sg wh c i = sg 57 (wh i)) m + 1))), (5, .int (sg 57 (wh m))), (4, .ref (D 7 (wh m))), (3, .int (nI (wh m))), (0, .ref 0)]) rfl (nI_1 _) (by decide) rfl dc_1_44_85 ?_
          refine r_goto (t := 4) (by decide) dc_1_44_88 ?_
          refine r_ls [(1, .int (nI (cnP (fun i => ¬ P57 sg wh c i = sg 57 (wh i)) m + 1))), (2, .int (nI (m + 1))), (0, .ref 0)] (mm_ndk_of [1, 2, 0] rfl (by decide)) (mm_sub_cons rfl (mm_sub_cons rfl (mm_sub_cons rfl (mm_sub_nil _)))) ?_
          rw [show nI (cnP (fun i => ¬ P57 sg wh c i = sg 57 (wh i)) m + 1) = nI (cnP (fun i => ¬ P57 sg wh c i = sg 57 (wh i)) (m + 1)) by rw [cnP_t (P := fun i => ¬ P57 sg wh c i = sg 57 (wh i)) c_71]]
          exact ih_m (wA cs2 21 (sp_fo (cs2 21) (nI (wh m)) nf)) (⟨co_for hV2 c_71, fun a h1 h2 => (wA_o _ _ (by omega)).trans (h282 a h1 h2)⟩)
  obtain ⟨z9, ⟨cs2, p9, e9⟩, h9⟩ := hq9
  subst e9
  exact ⟨cs2, p9, h9⟩
