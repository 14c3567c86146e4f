/-! the whole: bounds, options -/
theorem dc_1_41_0 : decode prog_1_method_41_code 0 = .ok (.iconst 0, 1) := by decide +kernel
theorem dc_1_41_1 : decode prog_1_method_41_code 1 = .ok (.istore_n 1, 1) := by decide +kernel
theorem dc_1_41_2 : decode prog_1_method_41_code 2 = .ok (.iload_n 1, 1) := by decide +kernel
theorem dc_1_41_3 : decode prog_1_method_41_code 3 = .ok (.aload_n 0, 1) := by decide +kernel
theorem dc_1_41_4 : decode prog_1_method_41_code 4 = .ok (.getfield 61, 3) := by decide +kernel
theorem dc_1_41_7 : decode prog_1_method_41_code 7 = .ok (.invokeinterface 113 1, 5) := by decide +kernel
theorem dc_1_41_12 : decode prog_1_method_41_code 12 = .ok (.if_icmp .ge 36, 3) := by decide +kernel
theorem dc_1_41_15 : decode prog_1_method_41_code 15 = .ok (.aload_n 0, 1) := by decide +kernel
theorem dc_1_41_16 : decode prog_1_method_41_code 16 = .ok (.getfield 74, 3) := by decide +kernel
theorem dc_1_41_19 : decode prog_1_method_41_code 19 = .ok (.getfield 352, 3) := by decide +kernel
theorem dc_1_41_22 : decode prog_1_method_41_code 22 = .ok (.iload_n 1, 1) := by decide +kernel
theorem dc_1_41_23 : decode prog_1_method_41_code 23 = .ok (.aload_n 0, 1) := by decide +kernel
theorem dc_1_41_24 : decode prog_1_method_41_code 24 = .ok (.getfield 61, 3) := by decide +kernel
theorem dc_1_41_27 : decode prog_1_method_41_code 27 = .ok (.iload_n 1, 1) := by decide +kernel
theorem dc_1_41_28 : decode prog_1_method_41_code 28 = .ok (.invokeinterface 227 2, 5) := by decide +kernel
theorem dc_1_41_33 : decode prog_1_method_41_code 33 = .ok (.checkcast 119, 3) := by decide +kernel
theorem dc_1_41_36 : decode prog_1_method_41_code 36 = .ok (.getfield 132, 3) := by decide +kernel
theorem dc_1_41_39 : decode prog_1_method_41_code 39 = .ok (.invokevirtual 371, 3) := by decide +kernel
theorem dc_1_41_42 : decode prog_1_method_41_code 42 = .ok (.iinc 1 1, 3) := by decide +kernel
theorem dc_1_41_45 : decode prog_1_method_41_code 45 = .ok (.goto (-43), 3) := by decide +kernel
theorem dc_1_41_48 : decode prog_1_method_41_code 48 = .ok (.iconst 0, 1) := by decide +kernel
theorem dc_1_41_49 : decode prog_1_method_41_code 49 = .ok (.istore_n 1, 1) := by decide +kernel
theorem dc_1_41_50 : decode prog_1_method_41_code 50 = .ok (.iload_n 1, 1) := by decide +kernel
theorem dc_1_41_51 : decode prog_1_method_41_code 51 = .ok (.aload_n 0, 1) := by decide +kernel
theorem dc_1_41_52 : decode prog_1_method_41_code 52 = .ok (.getfield 65, 3) := by decide +kernel
theorem dc_1_41_55 : decode prog_1_method_41_code 55 = .ok (.invokeinterface 113 1, 5) := by decide +kernel
theorem dc_1_41_60 : decode prog_1_method_41_code 60 = .ok (.if_icmp .ge 53, 3) := by decide +kernel
theorem dc_1_41_63 : decode prog_1_method_41_code 63 = .ok (.aload_n 0, 1) := by decide +kernel
theorem dc_1_41_64 : decode prog_1_method_41_code 64 = .ok (.getfield 65, 3) := by decide +kernel
theorem dc_1_41_67 : decode prog_1_method_41_code 67 = .ok (.iload_n 1, 1) := by decide +kernel
theorem dc_1_41_68 : decode prog_1_method_41_code 68 = .ok (.invokeinterface 227 2, 5) := by decide +kernel
theorem dc_1_41_73 : decode prog_1_method_41_code 73 = .ok (.checkcast 152, 3) := by decide +kernel
theorem dc_1_41_76 : decode prog_1_method_41_code 76 = .ok (.astore_n 2, 1) := by decide +kernel
theorem dc_1_41_77 : decode prog_1_method_41_code 77 = .ok (.aload_n 2, 1) := by decide +kernel
theorem dc_1_41_78 : decode prog_1_method_41_code 78 = .ok (.aload_n 0, 1) := by decide +kernel
theorem dc_1_41_79 : decode prog_1_method_41_code 79 = .ok (.getfield 7, 3) := by decide +kernel
theorem dc_1_41_82 : decode prog_1_method_41_code 82 = .ok (.invokevirtual 318, 3) := by decide +kernel
theorem dc_1_41_85 : decode prog_1_method_41_code 85 = .ok (.ifCond .eq 22, 3) := by decide +kernel
theorem dc_1_41_88 : decode prog_1_method_41_code 88 = .ok (.aload_n 0, 1) := by decide +kernel
theorem dc_1_41_89 : decode prog_1_method_41_code 89 = .ok (.getfield 74, 3) := by decide +kernel
theorem dc_1_41_92 : decode prog_1_method_41_code 92 = .ok (.getfield 352, 3) := by decide +kernel
theorem dc_1_41_95 : decode prog_1_method_41_code 95 = .ok (.iload_n 1, 1) := by decide +kernel
theorem dc_1_41_96 : decode prog_1_method_41_code 96 = .ok (.aload_n 2, 1) := by decide +kernel
theorem dc_1_41_97 : decode prog_1_method_41_code 97 = .ok (.getfield 374, 3) := by decide +kernel
theorem dc_1_41_100 : decode prog_1_method_41_code 100 = .ok (.aload_n 2, 1) := by decide +kernel
theorem dc_1_41_101 : decode prog_1_method_41_code 101 = .ok (.getfield 377, 3) := by decide +kernel
theorem dc_1_41_104 : decode prog_1_method_41_code 104 = .ok (.invokevirtual 380, 3) := by decide +kernel
theorem dc_1_41_107 : decode prog_1_method_41_code 107 = .ok (.iinc 1 1, 3) := by decide +kernel
theorem dc_1_41_110 : decode prog_1_method_41_code 110 = .ok (.goto (-60), 3) := by decide +kernel
theorem dc_1_41_113 : decode prog_1_method_41_code 113 = .ok (.return_, 1) := by decide +kernel
theorem iv_0_v371 : mm_iv 0 (.invokevirtual 371) = some (1, 115) := by decide +kernel
theorem iv_0_v380 : mm_iv 0 (.invokevirtual 380) = some (1, 116) := by decide +kernel
theorem o_115 : mm_o 115 = 8 := by decide +kernel
theorem o_116 : mm_o 116 = 8 := by decide +kernel
theorem na_1_115 : mm_nas 1 115 = 3 := by decide +kernel
theorem na_1_116 : mm_nas 1 116 = 4 := by decide +kernel
def b10 (sg : Nat → Nat → Int32) (nh h : Nat) : Nat := if h < nh then tN (sg 11 h) else 1000
def b8 (io : Nat → Int32) (sg : Nat → Nat → Int32) (k nx x : Nat) : Nat := if x < nx ∧ ¬ sp_inf io sg x = 0 then tN (sg k x) else 1000
theorem b10_S {sg : Nat → Nat → Int32} {cs1 : Nat → Nat → Int32} {m : Nat} (h : ∀ h, h < 8 → cs1 32 h = nI (b10 sg m h)) (hm : sg 11 m = nI (tN (sg 11 m))) : ∀ h, h < 8 → w1 cs1 32 m (sg 11 m) 32 h = nI (b10 sg (m + 1) h) := by
  intro g hg
  unfold b10
  by_cases z : g = m
  · subst z
    rw [w1_s, if_pos (by omega)]
    exact hm
  · rw [w1_o _ _ (Or.inr z), h g hg]
    unfold b10
    by_cases y : g < m
    · rw [if_pos y, if_pos (by omega)]
    · rw [if_neg y, if_neg (by omega)]
theorem b8_S {io : Nat → Int32} {sg : Nat → Nat → Int32} {f g : Nat → Int32} {k m : Nat} (h : ∀ x, x < 12 → f x = nI (b8 io sg k m x)) (hm : g m = nI (if ¬ sp_inf io sg m = 0 then tN (sg k m) else 1000)) (hg : ∀ x, ¬ x = m → g x = f x) : ∀ x, x < 12 → g x = nI (b8 io sg k (m + 1) x) := by
  intro x hx
  unfold b8
  by_cases z : x = m
  · subst z
    rw [hm]
    refine congrArg nI ?_
    by_cases y : ¬ sp_inf io sg x = 0
    · rw [if_pos y, if_pos ⟨by omega, y⟩]
    · rw [if_neg y, if_neg (fun v => y v.2)]
  · rw [hg x z, h x hx]
    refine congrArg nI ?_
    unfold b8
    by_cases y : x < m ∧ ¬ sp_inf io sg x = 0
    · rw [if_pos y, if_pos ⟨by omega, y.2⟩]
    · rw [if_neg y, if_neg (fun v => y ⟨by omega, v.2⟩)]
def FrB (cs cs2 : Nat → Nat → Int32) : Prop := ∀ a, ¬ (30 ≤ a ∧ a ≤ 32) → cs2 a = cs a
theorem FrB_C {D : Nat → Nat → Nat} {nx : Nat} {cs cs2 : Nat → Nat → Int32} (h : FrB cs cs2) : FrC D nx cs cs2 := fun a h1 _ => h a (by omega)
theorem FrB_w {cs : Nat → Nat → Int32} {a k : Nat} {v : Int32} (h : 30 ≤ a ∧ a ≤ 32) : FrB cs (w1 cs a k v) := fun b hb => w1_n _ _ _ (by omega)
theorem FrB_t {a b c : Nat → Nat → Int32} (h : FrB a b) (h2 : FrB b c) : FrB a c := fun x hx => (h2 x hx).trans (h x hx)
set_option maxHeartbeats 4000000 in
theorem k_setB {M : mH} {T : Nat → mT} {cs sg : Nat → Nat → Int32} {io : Nat → Int32} {e : Nat → Nat} {D : Nat → Nat → Nat} {nh nx ns nf ny tp : Nat} {cm : Nat → Nat} {w : Nat → Nat → Nat} {cn : Nat → Nat} {wc : Nat → Nat → Nat} (hV : CV M T cs io sg e D nh nx ns nf ny tp cm w cn wc) (hB : BClr cs) : ∃ (cs2 : Nat → Nat → Int32), (FrB cs cs2 ∧ (∀ h, h < 8 → cs2 32 h = nI (b10 sg nh h)) ∧ (∀ x, x < 12 → cs2 30 x = nI (b8 io sg 29 nx x)) ∧ (∀ x, x < 12 → cs2 31 x = nI (b8 io sg 30 nx x))) ∧ mm_Ev 5 114 [.ref 0] (hk M T cs) ((none, hk M T cs2)) := by
  have hq9 : ∃ z, (fun r9 => ∃ (cs2 : Nat → Nat → Int32), (FrB cs cs2 ∧ (∀ h, h < 8 → cs2 32 h = nI (b10 sg nh h)) ∧ (∀ x, x < 12 → cs2 30 x = nI (b8 io sg 29 nx x)) ∧ (∀ x, x < 12 → cs2 31 x = nI (b8 io sg 30 nx x))) ∧ r9 = ((none, hk M T cs2))) z ∧ mm_Ev 5 114 [.ref 0] (hk M T cs) z := by
    obtain ⟨⟨hM, hMs, hW⟩, hC, hT, hR, hJ⟩ := id hV
    obtain ⟨hF, ⟨hL0, hL1, hL2⟩, hSc, hAg, hSt⟩ := id hC
    obtain ⟨⟨⟨h3, hnh⟩, ⟨h4, hnx⟩, ⟨h5, hns⟩, ⟨h7, hnf⟩, ⟨h6, hny⟩, ⟨h23, htp⟩⟩, hRa, hRb, hRs, hRs2, hRs3, hRx, hCD, hRt, hRt2, hRf⟩ := id hR
    refine r_evQ (by decide +kernel) (show (1 : Nat) ≤ mm_nL 114 by decide +kernel) ?_
    show mm_Ru 4 (0, 3, false, prog_1_method_41_code, none) 0 [(0, .ref 0)] [] (hk M T cs) (fun r9 => ∃ (cs2 : Nat → Nat → Int32), (FrB cs cs2 ∧ (∀ h, h < 8 → cs2 32 h = nI (b10 sg nh h)) ∧ (∀ x, x < 12 → cs2 30 x = nI (b8 io sg 29 nx x)) ∧ (∀ x, x < 12 → cs2 31 x = nI (b8 io sg 30 nx x))) ∧ r9 = ((none, hk M T cs2)))
    refine r_iconst (v := nI 0) (by decide) dc_1_41_0 ?_
    refine r_istore_n (ls' := [(1, .int (nI 0)), (0, .ref 0)]) (by decide) rfl dc_1_41_1 ?_
    refine mm_cnt (P := fun m => ∀ (cs1 : Nat → Nat → Int32), (FrB cs cs1 ∧ (∀ h, h < 8 → cs1 32 h = nI (b10 sg m h)) ∧ cs1 30 = cs 30 ∧ cs1 31 = cs 31) → mm_Ru 4 (0, 3, false, prog_1_method_41_code, none) 2 [(1, .int (nI m)), (0, .ref 0)] [] (hk M T cs1) (fun r9 => ∃ (cs2 : Nat → Nat → Int32), (FrB cs cs2 ∧ (∀ h, h < 8 → cs2 32 h = nI (b10 sg nh h)) ∧ (∀ x, x < 12 → cs2 30 x = nI (b8 io sg 29 nx x)) ∧ (∀ x, x < 12 → cs2 31 x = nI (b8 io sg 30 nx x))) ∧ r9 = ((none, hk M T cs2)))) nh ?_ ?_ 0 (by omega) cs (⟨fun _ _ => rfl, fun h hh => (hB.2 h hh).1, rfl, rfl⟩)
    · intro  cs1 hi_m
      show mm_Ru 4 (0, 3, false, prog_1_method_41_code, none) 2 [(1, .int (nI nh)), (0, .ref 0)] [] (hk M T cs1) (fun r9 => ∃ (cs2 : Nat → Nat → Int32), (FrB cs cs2 ∧ (∀ h, h < 8 → cs2 32 h = nI (b10 sg nh h)) ∧ (∀ x, x < 12 → cs2 30 x = nI (b8 io sg 29 nx x)) ∧ (∀ x, x < 12 → cs2 31 x = nI (b8 io sg 30 nx x))) ∧ r9 = ((none, hk M T cs2)))
      have hV1 := CV_f hV (FrB_C hi_m.1)
      refine r_iload_n rfl dc_1_41_2 ?_
      refine r_aload_n rfl dc_1_41_3 ?_
      refine h_get (t := cT e 0) (v := .ref 25) fx_0_61 (hF 0 (by decide)) ⟨by omega, by omega⟩ (rfl) dc_1_41_4 ?_
      refine h_callv (t := cT e 25) (as := []) (rest := [.int (nI nh)]) (v := .int (nI nh)) (M1 := hk M T cs1) rfl rfl iv_0_f113 (Or.inr (Or.inr rfl)) na_6_26 (hF 25 (by decide)) ⟨by omega, by omega⟩ (show (6 : Nat) < 14 by decide) o_26 rfl (show (1 : Nat) ≤ 8 by decide) dc_1_41_7 (mm_Ev_up (by decide : 1 ≤ 4) (k_sizeL hV1.2.1.2.1.1)) ?_
      refine r_ncge (t := 48) (by omega) (by omega) (by decide) dc_1_41_12 (fun c_12 => ?_) (fun c_12 => ?_)
      · skip
        refine r_iconst (v := nI 0) (by decide) dc_1_41_48 ?_
        refine r_istore_n (ls' := [(1, .int (nI 0)), (0, .ref 0)]) (by decide) rfl dc_1_41_49 ?_
        refine mm_cnt (P := fun k => ∀ (cs2 : Nat → Nat → Int32), (FrB cs cs2 ∧ (∀ h, h < 8 → cs2 32 h = nI (b10 sg nh h)) ∧ (∀ x, x < 12 → cs2 30 x = nI (b8 io sg 29 k x)) ∧ (∀ x, x < 12 → cs2 31 x = nI (b8 io sg 30 k x))) → mm_Ru 4 (0, 3, false, prog_1_method_41_code, none) 50 [(1, .int (nI k)), (0, .ref 0)] [] (hk M T cs2) (fun r9 => ∃ (cs2 : Nat → Nat → Int32), (FrB cs cs2 ∧ (∀ h, h < 8 → cs2 32 h = nI (b10 sg nh h)) ∧ (∀ x, x < 12 → cs2 30 x = nI (b8 io sg 29 nx x)) ∧ (∀ x, x < 12 → cs2 31 x = nI (b8 io sg 30 nx x))) ∧ r9 = ((none, hk M T cs2)))) nx ?_ ?_ 0 (by omega) cs1 (⟨hi_m.1, hi_m.2.1, fun x hx => (congrFun hi_m.2.2.1 x).trans ((hB.1 x hx).1.trans (congrArg nI (if_neg (fun z => absurd z.1 (Nat.not_lt_zero x))).symm)), fun x hx => (congrFun hi_m.2.2.2 x).trans ((hB.1 x hx).2.1.trans (congrArg nI (if_neg (fun z => absurd z.1 (Nat.not_lt_zero x))).symm))⟩)
        · intro  cs2 hi_k
          show mm_Ru 4 (0, 3, false, prog_1_method_41_code, none) 50 [(1, .int (nI nx)), (0, .ref 0)] [] (hk M T cs2) (fun r9 => ∃ (cs2 : Nat → Nat → Int32), (FrB cs cs2 ∧ (∀ h, h < 8 → cs2 32 h = nI (b10 sg nh h)) ∧ (∀ x, x < 12 → cs2 30 x = nI (b8 io sg 29 nx x)) ∧ (∀ x, x < 12 → cs2 31 x = nI (b8 io sg 30 nx x))) ∧ r9 = ((none, hk M T cs2)))
          have hV1 := CV_f hV (FrB_C hi_k.1)
          refine r_iload_n rfl dc_1_41_50 ?_
          refine r_aload_n rfl dc_1_41_51 ?_
          refine h_get (t := cT e 0) (v := .ref 26) fx_0_65 (hF 0 (by decide)) ⟨by omega, by omega⟩ (rfl) dc_1_41_52 ?_
          refine h_callv (t := cT e 26) (as := []) (rest := [.int (nI nx)]) (v := .int (nI nx)) (M1 := hk M T cs2) rfl rfl iv_0_f113 (Or.inr (Or.inr rfl)) na_6_26 (hF 26 (by decide)) ⟨by omega, by omega⟩ (show (6 : Nat) < 14 by decide) o_26 rfl (show (1 : Nat) ≤ 8 by decide) dc_1_41_55 (mm_Ev_up (by decide : 1 ≤ 4) (k_sizeL hV1.2.1.2.1.2.1)) ?_
          refine r_ncge (t := 113) (by omega) (by omega) (by decide) dc_1_41_60 (fun c_60 => ?_) (fun c_60 => ?_)
          · skip
            refine r_vret rfl dc_1_41_113 ?_
            exact ⟨cs2, hi_k, rfl⟩
          · omega
        · intro k h_k ih_k  cs2 hi_k
          have hV1 := CV_f hV (FrB_C hi_k.1)
          show mm_Ru 4 (0, 3, false, prog_1_method_41_code, none) 50 [(1, .int (nI k)), (0, .ref 0)] [] (hk M T cs2) (fun r9 => ∃ (cs2 : Nat → Nat → Int32), (FrB cs cs2 ∧ (∀ h, h < 8 → cs2 32 h = nI (b10 sg nh h)) ∧ (∀ x, x < 12 → cs2 30 x = nI (b8 io sg 29 nx x)) ∧ (∀ x, x < 12 → cs2 31 x = nI (b8 io sg 30 nx x))) ∧ r9 = ((none, hk M T cs2)))
          refine r_iload_n rfl dc_1_41_50 ?_
          refine r_aload_n rfl dc_1_41_51 ?_
          refine h_get (t := cT e 0) (v := .ref 26) fx_0_65 (hF 0 (by decide)) ⟨by omega, by omega⟩ (rfl) dc_1_41_52 ?_
          refine h_callv (t := cT e 26) (as := []) (rest := [.int (nI k)]) (v := .int (nI nx)) (M1 := hk M T cs2) rfl rfl iv_0_f113 (Or.inr (Or.inr rfl)) na_6_26 (hF 26 (by decide)) ⟨by omega, by omega⟩ (show (6 : Nat) < 14 by decide) o_26 rfl (show (1 : Nat) ≤ 8 by decide) dc_1_41_55 (mm_Ev_up (by decide : 1 ≤ 4) (k_sizeL hV1.2.1.2.1.2.1)) ?_
          refine r_ncge (t := 113) (by omega) (by omega) (by decide) dc_1_41_60 (fun c_60 => ?_) (fun c_60 => ?_)
          · omega
          · skip
            refine r_aload_n rfl dc_1_41_63 ?_
            refine h_get (t := cT e 0) (v := .ref 26) fx_0_65 (hF 0 (by decide)) ⟨by omega, by omega⟩ (rfl) dc_1_41_64 ?_
            refine r_iload_n rfl dc_1_41_67 ?_
            refine h_callv (t := cT e 26) (as := [.int (nI k)]) (rest := []) (v := .ref (D 4 k)) (M1 := hk M T cs2) rfl rfl iv_0_f227 (Or.inr (Or.inr rfl)) na_6_40 (hF 26 (by decide)) ⟨by omega, by omega⟩ (show (6 : Nat) < 14 by decide) o_40 rfl (show (0 : Nat) ≤ 8 by decide) dc_1_41_68 (mm_Ev_up (by decide : 3 ≤ 4) (k_getL hV1.2.1.2.1.2.1 k (by omega))) ?_
            refine h_cast (t := (10, 0, rl [(9, D 6 k), (8, D 5 k)])) (c := 10) (hAg k (by omega)).1 (hAg k (by omega)).2.1 (show (10 : Nat) < 14 by decide) kr_0_152 rfl dc_1_41_73 ?_
            refine r_astore_n (ls' := [(2, .ref (D 4 k)), (1, .int (nI k)), (0, .ref 0)]) (by decide) rfl dc_1_41_76 ?_
            refine r_aload_n rfl dc_1_41_77 ?_
            refine r_aload_n rfl dc_1_41_78 ?_
            refine h_get (t := cT e 0) (v := .int (io 6)) fx_0_7 (hF 0 (by decide)) ⟨by omega, by omega⟩ (show some (Value.int _) = _ from congrArg (fun z => some (Value.int z)) (hV1.2.2.1.1)) dc_1_41_79 ?_
            refine h_callv (t := (10, 0, rl [(9, D 6 k), (8, D 5 k)])) (as := [.int (io 6)]) (rest := []) (v := .int (sp_inf io sg k)) (M1 := hk M T cs2) rfl rfl iv_0_v318 (Or.inl rfl) na_1_109 (hAg k (by omega)).1 (hAg k (by omega)).2.1 (show (10 : Nat) < 14 by decide) o_109 rfl (show (0 : Nat) ≤ 8 by decide) dc_1_41_82 (mm_Ev_up (by decide : 2 ≤ 4) (k_inForce M T cs2 sg D k _ _ (hV1.2.1.2.2.2.1 k (by omega)) (io 6))) ?_
            refine r_ifeq (t := 107) (by decide) dc_1_41_85 (fun c_85 => ?_) (fun c_85 => ?_)
            · skip
              refine r_iinc (n := 1) (k := 1) (x := nI k) (v := nI (k + 1)) (ls' := [(1, .int (nI (k + 1))), (2, .ref (D 4 k)), (0, .ref 0)]) rfl (nI_1 _) (by decide) rfl dc_1_41_107 ?_
              refine r_goto (t := 50) (by decide) dc_1_41_110 ?_
              refine r_ls [(1, .int (nI (k + 1))), (0, .ref 0)] (mm_ndk_of [1, 0] rfl (by decide)) (mm_sub_cons rfl (mm_sub_cons rfl (mm_sub_nil _))) ?_
              exact ih_k cs2 (⟨hi_k.1, hi_k.2.1, b8_S hi_k.2.2.1 ((hi_k.2.2.1 k (by omega)).trans (congrArg nI ((if_neg (fun z => absurd z.1 (Nat.lt_irrefl k))).trans (if_neg (fun z => z c_85)).symm))) (fun _ _ => rfl), b8_S hi_k.2.2.2 ((hi_k.2.2.2 k (by omega)).trans (congrArg nI ((if_neg (fun z => absurd z.1 (Nat.lt_irrefl k))).trans (if_neg (fun z => z c_85)).symm))) (fun _ _ => rfl)⟩)
            · skip
              refine r_aload_n rfl dc_1_41_88 ?_
              refine h_get (t := cT e 0) (v := .ref 28) fx_0_74 (hF 0 (by decide)) ⟨by omega, by omega⟩ (rfl) dc_1_41_89 ?_
              refine h_get (t := cT e 28) (v := .ref 29) fx_0_352 (hF 28 (by decide)) ⟨by omega, by omega⟩ (rfl) dc_1_41_92 ?_
              refine r_iload_n rfl dc_1_41_95 ?_
              refine r_aload_n rfl dc_1_41_96 ?_
              refine h_get (t := (10, 0, rl [(9, D 6 k), (8, D 5 k)])) (v := .int (sg 29 k)) fx_0_374 (hAg k (by omega)).1 (hAg k (by omega)).2.1 (show some (Value.int _) = _ from congrArg (fun z => some (Value.int z)) ((hV1.2.1.2.2.2.1 k (by omega)).2.2.2.1.2.2.1)) dc_1_41_97 ?_
              refine r_aload_n rfl dc_1_41_100 ?_
              refine h_get (t := (10, 0, rl [(9, D 6 k), (8, D 5 k)])) (v := .int (sg 30 k)) fx_0_377 (hAg k (by omega)).1 (hAg k (by omega)).2.1 (show some (Value.int _) = _ from congrArg (fun z => some (Value.int z)) ((hV1.2.1.2.2.2.1 k (by omega)).2.2.2.1.2.2.2.1)) dc_1_41_101 ?_
              refine h_call0 (t := cT e 29) (as := [.int (nI k), .int (sg 29 k), .int (sg 30 k)]) (rest := []) (M1 := hk M T (w1 (w1 cs2 30 k (sg 29 k)) 31 k (sg 30 k))) rfl rfl iv_0_v380 (Or.inl rfl) na_1_116 (hF 29 (by decide)) ⟨by omega, by omega⟩ (show (8 : Nat) < 14 by decide) o_116 rfl (show (0 : Nat) ≤ 8 by decide) dc_1_41_104 (mm_Ev_up (by decide : 1 ≤ 4) (k_setAg M hM T e hF cs2 k (sg 29 k) (sg 30 k) (by omega))) ?_
              refine r_iinc (n := 1) (k := 1) (x := nI k) (v := nI (k + 1)) (ls' := [(1, .int (nI (k + 1))), (2, .ref (D 4 k)), (0, .ref 0)]) rfl (nI_1 _) (by decide) rfl dc_1_41_107 ?_
              refine r_goto (t := 50) (by decide) dc_1_41_110 ?_
              refine r_ls [(1, .int (nI (k + 1))), (0, .ref 0)] (mm_ndk_of [1, 0] rfl (by decide)) (mm_sub_cons rfl (mm_sub_cons rfl (mm_sub_nil _))) ?_
              exact ih_k (w1 (w1 cs2 30 k (sg 29 k)) 31 k (sg 30 k)) (⟨FrB_t hi_k.1 (FrB_t (FrB_w (by decide)) (FrB_w (by decide))), fun h hh => (hi_k.2.1 h hh), b8_S hi_k.2.2.1 (by rw [w1_o _ _ (Or.inl (by decide)), w1_s, if_pos c_85]; exact (inN_tN (hRx k h_k).2.1 (by decide)).1) (fun x hx => by rw [w1_o _ _ (Or.inl (by decide)), w1_o _ _ (Or.inr hx)]), b8_S hi_k.2.2.2 (by rw [w1_s, if_pos c_85]; exact (inN_tN (hRx k h_k).2.2.1 (by decide)).1) (fun x hx => by rw [w1_o _ _ (Or.inr hx), w1_o _ _ (Or.inl (by decide))])⟩)
      · omega
    · intro m h_m ih_m  cs1 hi_m
      have hV1 := CV_f hV (FrB_C hi_m.1)
      show mm_Ru 4 (0, 3, false, prog_1_method_41_code, none) 2 [(1, .int (nI m)), (0, .ref 0)] [] (hk M T cs1) (fun r9 => ∃ (cs2 : Nat → Nat → Int32), (FrB cs cs2 ∧ (∀ h, h < 8 → cs2 32 h = nI (b10 sg nh h)) ∧ (∀ x, x < 12 → cs2 30 x = nI (b8 io sg 29 nx x)) ∧ (∀ x, x < 12 → cs2 31 x = nI (b8 io sg 30 nx x))) ∧ r9 = ((none, hk M T cs2)))
      refine r_iload_n rfl dc_1_41_2 ?_
      refine r_aload_n rfl dc_1_41_3 ?_
      refine h_get (t := cT e 0) (v := .ref 25) fx_0_61 (hF 0 (by decide)) ⟨by omega, by omega⟩ (rfl) dc_1_41_4 ?_
      refine h_callv (t := cT e 25) (as := []) (rest := [.int (nI m)]) (v := .int (nI nh)) (M1 := hk M T cs1) rfl rfl iv_0_f113 (Or.inr (Or.inr rfl)) na_6_26 (hF 25 (by decide)) ⟨by omega, by omega⟩ (show (6 : Nat) < 14 by decide) o_26 rfl (show (1 : Nat) ≤ 8 by decide) dc_1_41_7 (mm_Ev_up (by decide : 1 ≤ 4) (k_sizeL hV1.2.1.2.1.1)) ?_
      refine r_ncge (t := 48) (by omega) (by omega) (by decide) dc_1_41_12 (fun c_12 => ?_) (fun c_12 => ?_)
      · omega
      · skip
        refine r_aload_n rfl dc_1_41_15 ?_
        refine h_get (t := cT e 0) (v := .ref 28) fx_0_74 (hF 0 (by decide)) ⟨by omega, by omega⟩ (rfl) dc_1_41_16 ?_
        refine h_get (t := cT e 28) (v := .ref 29) fx_0_352 (hF 28 (by decide)) ⟨by omega, by omega⟩ (rfl) dc_1_41_19 ?_
        refine r_iload_n rfl dc_1_41_22 ?_
        refine r_aload_n rfl dc_1_41_23 ?_
        refine h_get (t := cT e 0) (v := .ref 25) fx_0_61 (hF 0 (by decide)) ⟨by omega, by omega⟩ (rfl) dc_1_41_24 ?_
        refine r_iload_n rfl dc_1_41_27 ?_
        refine h_callv (t := cT e 25) (as := [.int (nI m)]) (rest := [.int (nI m), .ref 29]) (v := .ref (D 0 m)) (M1 := hk M T cs1) rfl rfl iv_0_f227 (Or.inr (Or.inr rfl)) na_6_40 (hF 25 (by decide)) ⟨by omega, by omega⟩ (show (6 : Nat) < 14 by decide) o_40 rfl (show (2 : Nat) ≤ 8 by decide) dc_1_41_28 (mm_Ev_up (by decide : 3 ≤ 4) (k_getL hV1.2.1.2.1.1 m (by omega))) ?_
        refine h_cast (t := (9, 0, rl [(6, D 1 m)])) (c := 9) (hSc m (by omega)).1 (hSc m (by omega)).2.1 (show (9 : Nat) < 14 by decide) kr_0_119 rfl dc_1_41_33 ?_
        refine h_get (t := (9, 0, rl [(6, D 1 m)])) (v := .int (sg 11 m)) fx_0_132 (hSc m (by omega)).1 (hSc m (by omega)).2.1 (show some (Value.int _) = _ from congrArg (fun z => some (Value.int z)) ((hV1.2.1.2.2.1 m (by omega)).2.2.1.2.2.2.2.2)) dc_1_41_36 ?_
        refine h_call0 (t := cT e 29) (as := [.int (nI m), .int (sg 11 m)]) (rest := []) (M1 := hk M T (w1 cs1 32 m (sg 11 m))) rfl rfl iv_0_v371 (Or.inl rfl) na_1_115 (hF 29 (by decide)) ⟨by omega, by omega⟩ (show (8 : Nat) < 14 by decide) o_115 rfl (show (0 : Nat) ≤ 8 by decide) dc_1_41_39 (mm_Ev_up (by decide : 1 ≤ 4) (k_setBeds M hM T e hF cs1 m (sg 11 m) (by omega))) ?_
        refine r_iinc (n := 1) (k := 1) (x := nI m) (v := nI (m + 1)) (ls' := [(1, .int (nI (m + 1))), (0, .ref 0)]) rfl (nI_1 _) (by decide) rfl dc_1_41_42 ?_
        refine r_goto (t := 2) (by decide) dc_1_41_45 ?_
        exact ih_m (w1 cs1 32 m (sg 11 m)) (⟨FrB_t hi_m.1 (FrB_w (by decide)), b10_S hi_m.2.1 (inN_tN (hRs m h_m).2.2.1 (by decide)).1, (w1_n _ _ _ (by decide)).trans hi_m.2.2.1, (w1_n _ _ _ (by decide)).trans hi_m.2.2.2⟩)
  obtain ⟨z9, ⟨cs2, p9, e9⟩, h9⟩ := hq9
  subst e9
  exact ⟨cs2, p9, h9⟩
noncomputable def clA (P : Nat → Prop) : Nat → Nat × (Nat → Nat)
  | 0 => (0, fun _ => 4)
  | m + 1 => @ite _ (P m) (Classical.propDecidable _) ((clA P m).1 + 1, upn (clA P m).2 (clA P m).1 m) (clA P m)
theorem clA_p {P : Nat → Prop} {m : Nat} (h : P m) : clA P (m + 1) = ((clA P m).1 + 1, upn (clA P m).2 (clA P m).1 m) := if_pos h
theorem clA_n {P : Nat → Prop} {m : Nat} (h : ¬ P m) : clA P (m + 1) = clA P m := if_neg h
theorem clA_le (P : Nat → Prop) : ∀ m, (clA P m).1 ≤ m
  | 0 => Nat.le_refl 0
  | m + 1 => by
    have ih := clA_le P m
    by_cases z : P m
    · rw [clA_p z]
      exact Nat.succ_le_succ ih
    · rw [clA_n z]
      omega
theorem clA_hi (P : Nat → Prop) : ∀ m o, (clA P m).1 ≤ o → (clA P m).2 o = 4
  | 0, _, _ => rfl
  | m + 1, o, h => by
    by_cases z : P m
    · rw [clA_p z] at h ⊢
      have h2 : (clA P m).1 + 1 ≤ o := h
      show upn (clA P m).2 (clA P m).1 m o = 4
      rw [upn_o (by omega)]
      exact clA_hi P m o (by omega)
    · rw [clA_n z] at h ⊢
      exact clA_hi P m o h
theorem clA_lo (P : Nat → Prop) : ∀ m o, o < (clA P m).1 → (clA P m).2 o < m ∧ P ((clA P m).2 o)
  | m + 1, o, h => by
    by_cases z : P m
    · rw [clA_p z] at h ⊢
      have h2 : o < (clA P m).1 + 1 := h
      show upn (clA P m).2 (clA P m).1 m o < m + 1 ∧ P (upn (clA P m).2 (clA P m).1 m o)
      by_cases y : o = (clA P m).1
      · rw [y, upn_s]
        exact ⟨Nat.lt_succ_self m, z⟩
      · rw [upn_o y]
        have := clA_lo P m o (by omega)
        exact ⟨by omega, this.2⟩
    · rw [clA_n z] at h ⊢
      have := clA_lo P m o h
      exact ⟨by omega, this.2⟩
theorem clA_mono (P : Nat → Prop) : ∀ m o, o + 1 < (clA P m).1 → (clA P m).2 o < (clA P m).2 (o + 1)
  | m + 1, o, h => by
    by_cases z : P m
    · rw [clA_p z] at h ⊢
      have h2 : o + 1 < (clA P m).1 + 1 := h
      show upn (clA P m).2 (clA P m).1 m o < upn (clA P m).2 (clA P m).1 m (o + 1)
      rw [upn_o (by omega)]
      by_cases y : o + 1 = (clA P m).1
      · rw [y, upn_s]
        exact (clA_lo P m o (by omega)).1
      · rw [upn_o y]
        exact clA_mono P m o (by omega)
    · rw [clA_n z] at h ⊢
      exact clA_mono P m o h
theorem clA_ex (P : Nat → Prop) : ∀ m d, d < m → P d → ∃ o, o < (clA P m).1 ∧ (clA P m).2 o = d
  | m + 1, d, h, hp => by
    by_cases z : P m
    · rw [clA_p z]
      show ∃ o, o < (clA P m).1 + 1 ∧ upn (clA P m).2 (clA P m).1 m o = d
      by_cases y : d = m
      · exact ⟨(clA P m).1, Nat.lt_succ_self _, by rw [upn_s, y]⟩
      · obtain ⟨o, h1, h2⟩ := clA_ex P m d (by omega) hp
        exact ⟨o, by omega, by rw [upn_o (by omega), h2]⟩
    · rw [clA_n z]
      by_cases y : d = m
      · rw [y] at hp
        exact absurd hp z
      · exact clA_ex P m d (by omega) hp
def wInt (d : Nat) : Int := match d with
  | 0 => 512
  | 1 => 64
  | 2 => 8
  | 3 => 1
  | _ => 0
theorem wInt_eq : ∀ d, d < 4 → mm_worth d = zI (wInt d) := by decide
def penI (pl : Nat) : Int := if pl = 1 then 4096 else 0
/-- what a choice is worth -/
def swo (pl : Nat) (sg : Nat → Nat → Int32) (s d : Nat) : Int := wInt d - (if (if d = 4 then -1 else sg 60 (4 * s + d)) = hst sg s then 0 else penI pl)
noncomputable def sdg (sg my : Nat → Nat → Int32) (s o : Nat) : Nat := (clA (fun d => ¬ my s d = -1) (tN (sg 59 s))).2 o
noncomputable def sdn (sg my : Nat → Nat → Int32) (s : Nat) : Nat := (clA (fun d => ¬ my s d = -1) (tN (sg 59 s))).1 + 1
def sway (sg my : Nat → Nat → Int32) (s d : Nat) : Nat := if sg 27 (tN (my s d)) = sg 51 s then 1 else 0
def PLo (cs : Nat → Nat → Int32) (pl : Nat) (sg my : Nat → Nat → Int32) (i s o d : Nat) : Prop := cs (40 + i) o = vD d d ∧ cs (48 + i) o = vD d (tN (sg 60 (4 * s + d))) ∧ cs (56 + i) o = vD d (tN (my s d)) ∧ cs (64 + i) o = wD d (sway sg my s d) ∧ cs (72 + i) o = zI (swo pl sg s d)
def PLr (cs : Nat → Nat → Int32) (pl : Nat) (sg my : Nat → Nat → Int32) (i s : Nat) : Prop := cs 37 i = nI s ∧ cs 38 i = nI (sdn sg my s) ∧ ∀ o, o < sdn sg my s → PLo cs pl sg my i s o (sdg sg my s o)
/-- the rows of place n, and how many there are, have changed -/
def FrP (D : Nat → Nat → Nat) (nx n : Nat) (cs cs2 : Nat → Nat → Int32) : Prop := FrC D nx cs cs2 ∧ (∀ a, 28 < a → a < 100 → ¬ (a = 37 ∨ a = 38 ∨ a = 40 + n ∨ a = 48 + n ∨ a = 56 + n ∨ a = 64 + n ∨ a = 72 + n) → cs2 a = cs a) ∧ ∀ j, ¬ j = n → cs2 37 j = cs 37 j ∧ cs2 38 j = cs 38 j
theorem FrP_t {D : Nat → Nat → Nat} {nx n : Nat} {a b c : Nat → Nat → Int32} (h : FrP D nx n a b) (h2 : FrP D nx n b c) : FrP D nx n a c := ⟨FrC_t h.1 h2.1, fun x h3 h4 h5 => (h2.2.1 x h3 h4 h5).trans (h.2.1 x h3 h4 h5), fun j hj => ⟨(h2.2.2 j hj).1.trans (h.2.2 j hj).1, (h2.2.2 j hj).2.trans (h.2.2 j hj).2⟩⟩
theorem FrP_s {M : mH} {sg : Nat → Nat → Int32} {e : Nat → Nat} {D : Nat → Nat → Nat} {nh nx ns n : Nat} {cs cs2 : Nat → Nat → Int32} (hJ : DJ M sg e D nh nx ns) (h : ∀ a, (∀ x, x < nx → ¬ a = D 6 x) → cs2 a = cs a) : FrP D nx n cs cs2 := by
  have g : ∀ a, a < 100 → cs2 a = cs a := fun a ha => h a (fun x hx z => by
    have := DJ_lo hJ (k := 6) (i := x) (dvl_x (by decide) (by decide) hx)
    omega)
  exact ⟨fun a _ h2 => h a h2, fun a _ h2 _ => g a h2, fun j _ => by rw [g 37 (by decide), g 38 (by decide)]; exact ⟨rfl, rfl⟩⟩
theorem fst_in {P : Nat → Prop} : ∀ n, sp_fst P n = -1 ∨ ∃ j, j < n ∧ sp_fst P n = nI j ∧ P j
  | 0 => Or.inl rfl
  | n + 1 => by
    by_cases z : ∃ j, j < n ∧ P j
    · have e : sp_fst P (n + 1) = sp_fst P n := if_pos z
      rw [e]
      rcases fst_in (P := P) n with y | ⟨j, h1, h2, h3⟩
      · exact Or.inl y
      · exact Or.inr ⟨j, by omega, h2, h3⟩
    · by_cases y : P n
      · exact Or.inr ⟨n, Nat.lt_succ_self n, sp_fst_yes (fun j hj hp => z ⟨j, hj, hp⟩) y (Nat.lt_succ_self n), y⟩
      · exact Or.inl (sp_fst_no (fun j hj hp => by
          rcases (by omega : j < n ∨ j = n) with q | rfl
          · exact z ⟨j, q, hp⟩
          · exact y hp))
/-- an option is put: the rows of place n -/
theorem put_PL {cs1 : Nat → Nat → Int32} {pl : Nat} {sg my : Nat → Nat → Int32} {n s o d : Nat} {v1 v2 v3 v4 v5 v6 : Int32} (hn : n < 7) {f : Nat → Nat} (h : ∀ p, p < o → PLo cs1 pl sg my n s p (f p)) (h1 : v1 = vD d d) (h2 : v2 = vD d (tN (sg 60 (4 * s + d)))) (h3 : v3 = vD d (tN (my s d))) (h4 : v4 = wD d (sway sg my s d)) (h5 : v5 = zI (swo pl sg s d)) : ∀ p, p < o + 1 → PLo (w1 (w1 (w1 (w1 (w1 (w1 cs1 (40 + n) o v1) (48 + n) o v2) (56 + n) o v3) (64 + n) o v4) (72 + n) o v5) 38 n v6) pl sg my n s p (upn f o d p) := by
  intro p hp
  unfold PLo
  by_cases z : p = o
  · subst z
    rw [upn_s]
    refine ⟨?_, ?_, ?_, ?_, ?_⟩
    · rw [w1_n _ _ _ (by omega), w1_n _ _ _ (by omega), w1_n _ _ _ (by omega), w1_n _ _ _ (by omega), w1_n _ _ _ (by omega), w1_s]
      exact h1
    · rw [w1_n _ _ _ (by omega), w1_n _ _ _ (by omega), w1_n _ _ _ (by omega), w1_n _ _ _ (by omega), w1_s]
      exact h2
    · rw [w1_n _ _ _ (by omega), w1_n _ _ _ (by omega), w1_n _ _ _ (by omega), w1_s]
      exact h3
    · rw [w1_n _ _ _ (by omega), w1_n _ _ _ (by omega), w1_s]
      exact h4
    · rw [w1_n _ _ _ (by omega), w1_s]
      exact h5
  · rw [upn_o z]
    obtain ⟨a1, a2, a3, a4, a5⟩ := h p (by omega)
    refine ⟨?_, ?_, ?_, ?_, ?_⟩
    · rw [w1_o _ _ (Or.inl (by omega)), w1_o _ _ (Or.inr z), w1_o _ _ (Or.inr z), w1_o _ _ (Or.inr z), w1_o _ _ (Or.inr z), w1_o _ _ (Or.inr z)]
      exact a1
    · rw [w1_o _ _ (Or.inl (by omega)), w1_o _ _ (Or.inr z), w1_o _ _ (Or.inr z), w1_o _ _ (Or.inr z), w1_o _ _ (Or.inr z), w1_o _ _ (Or.inr z)]
      exact a2
    · rw [w1_o _ _ (Or.inl (by omega)), w1_o _ _ (Or.inr z), w1_o _ _ (Or.inr z), w1_o _ _ (Or.inr z), w1_o _ _ (Or.inr z), w1_o _ _ (Or.inr z)]
      exact a3
    · rw [w1_o _ _ (Or.inl (by omega)), w1_o _ _ (Or.inr z), w1_o _ _ (Or.inr z), w1_o _ _ (Or.inr z), w1_o _ _ (Or.inr z), w1_o _ _ (Or.inr z)]
      exact a4
    · rw [w1_o _ _ (Or.inl (by omega)), w1_o _ _ (Or.inr z), w1_o _ _ (Or.inr z), w1_o _ _ (Or.inr z), w1_o _ _ (Or.inr z), w1_o _ _ (Or.inr z)]
      exact a5
theorem put_Fr {D : Nat → Nat → Nat} {nx : Nat} {cs1 : Nat → Nat → Int32} {n o : Nat} (hn : n < 7) (v1 v2 v3 v4 v5 v6 : Int32) : FrP D nx n cs1 (w1 (w1 (w1 (w1 (w1 (w1 cs1 (40 + n) o v1) (48 + n) o v2) (56 + n) o v3) (64 + n) o v4) (72 + n) o v5) 38 n v6) := by
  have g : ∀ a, ¬ (a = 38 ∨ a = 40 + n ∨ a = 48 + n ∨ a = 56 + n ∨ a = 64 + n ∨ a = 72 + n) → (w1 (w1 (w1 (w1 (w1 (w1 cs1 (40 + n) o v1) (48 + n) o v2) (56 + n) o v3) (64 + n) o v4) (72 + n) o v5) 38 n v6) a = cs1 a := fun a ha => by
    rw [w1_n _ _ _ (by omega), w1_n _ _ _ (by omega), w1_n _ _ _ (by omega), w1_n _ _ _ (by omega), w1_n _ _ _ (by omega), w1_n _ _ _ (by omega)]
  refine ⟨fun a h1 _ => g a (by omega), fun a h1 h2 h3 => g a (by omega), fun j hj => ⟨?_, ?_⟩⟩
  · rw [g 37 (by omega)]
  · rw [w1_o _ _ (Or.inr hj), w1_n _ _ _ (by omega), w1_n _ _ _ (by omega), w1_n _ _ _ (by omega), w1_n _ _ _ (by omega), w1_n _ _ _ (by omega)]
