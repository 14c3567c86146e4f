/-! the reader, raw: the whole text -/
theorem dc_12_2_0 : decode prog_12_method_2_code 0 = .ok (.aload_n 0, 1) := by decide +kernel
theorem dc_12_2_1 : decode prog_12_method_2_code 1 = .ok (.aload_n 1, 1) := by decide +kernel
theorem dc_12_2_2 : decode prog_12_method_2_code 2 = .ok (.putfield 9, 3) := by decide +kernel
theorem dc_12_2_5 : decode prog_12_method_2_code 5 = .ok (.aload_n 0, 1) := by decide +kernel
theorem dc_12_2_6 : decode prog_12_method_2_code 6 = .ok (.iload_n 2, 1) := by decide +kernel
theorem dc_12_2_7 : decode prog_12_method_2_code 7 = .ok (.aload_n 1, 1) := by decide +kernel
theorem dc_12_2_8 : decode prog_12_method_2_code 8 = .ok (.arraylength, 1) := by decide +kernel
theorem dc_12_2_9 : decode prog_12_method_2_code 9 = .ok (.bipush 60, 2) := by decide +kernel
theorem dc_12_2_11 : decode prog_12_method_2_code 11 = .ok (.invokestatic 18, 3) := by decide +kernel
theorem dc_12_2_14 : decode prog_12_method_2_code 14 = .ok (.invokestatic 18, 3) := by decide +kernel
theorem dc_12_2_17 : decode prog_12_method_2_code 17 = .ok (.putfield 24, 3) := by decide +kernel
theorem dc_12_2_20 : decode prog_12_method_2_code 20 = .ok (.aload_n 0, 1) := by decide +kernel
theorem dc_12_2_21 : decode prog_12_method_2_code 21 = .ok (.iconst 0, 1) := by decide +kernel
theorem dc_12_2_22 : decode prog_12_method_2_code 22 = .ok (.putfield 28, 3) := by decide +kernel
theorem dc_12_2_25 : decode prog_12_method_2_code 25 = .ok (.aload_n 0, 1) := by decide +kernel
theorem dc_12_2_26 : decode prog_12_method_2_code 26 = .ok (.iconst 0, 1) := by decide +kernel
theorem dc_12_2_27 : decode prog_12_method_2_code 27 = .ok (.putfield 31, 3) := by decide +kernel
theorem dc_12_2_30 : decode prog_12_method_2_code 30 = .ok (.aload_n 0, 1) := by decide +kernel
theorem dc_12_2_31 : decode prog_12_method_2_code 31 = .ok (.iconst 0, 1) := by decide +kernel
theorem dc_12_2_32 : decode prog_12_method_2_code 32 = .ok (.putfield 34, 3) := by decide +kernel
theorem dc_12_2_35 : decode prog_12_method_2_code 35 = .ok (.aload_n 0, 1) := by decide +kernel
theorem dc_12_2_36 : decode prog_12_method_2_code 36 = .ok (.iconst 1, 1) := by decide +kernel
theorem dc_12_2_37 : decode prog_12_method_2_code 37 = .ok (.putfield 37, 3) := by decide +kernel
theorem dc_12_2_40 : decode prog_12_method_2_code 40 = .ok (.aload_n 0, 1) := by decide +kernel
theorem dc_12_2_41 : decode prog_12_method_2_code 41 = .ok (.iconst 1, 1) := by decide +kernel
theorem dc_12_2_42 : decode prog_12_method_2_code 42 = .ok (.putfield 40, 3) := by decide +kernel
theorem dc_12_2_45 : decode prog_12_method_2_code 45 = .ok (.aload_n 0, 1) := by decide +kernel
theorem dc_12_2_46 : decode prog_12_method_2_code 46 = .ok (.iconst 0, 1) := by decide +kernel
theorem dc_12_2_47 : decode prog_12_method_2_code 47 = .ok (.putfield 43, 3) := by decide +kernel
theorem dc_12_2_50 : decode prog_12_method_2_code 50 = .ok (.aload_n 0, 1) := by decide +kernel
theorem dc_12_2_51 : decode prog_12_method_2_code 51 = .ok (.iconst 0, 1) := by decide +kernel
theorem dc_12_2_52 : decode prog_12_method_2_code 52 = .ok (.putfield 46, 3) := by decide +kernel
theorem dc_12_2_55 : decode prog_12_method_2_code 55 = .ok (.aload_n 0, 1) := by decide +kernel
theorem dc_12_2_56 : decode prog_12_method_2_code 56 = .ok (.bipush 99, 2) := by decide +kernel
theorem dc_12_2_58 : decode prog_12_method_2_code 58 = .ok (.putfield 49, 3) := by decide +kernel
theorem dc_12_2_61 : decode prog_12_method_2_code 61 = .ok (.aload_n 0, 1) := by decide +kernel
theorem dc_12_2_62 : decode prog_12_method_2_code 62 = .ok (.iconst 0, 1) := by decide +kernel
theorem dc_12_2_63 : decode prog_12_method_2_code 63 = .ok (.putfield 52, 3) := by decide +kernel
theorem dc_12_2_66 : decode prog_12_method_2_code 66 = .ok (.aload_n 0, 1) := by decide +kernel
theorem dc_12_2_67 : decode prog_12_method_2_code 67 = .ok (.invokevirtual 55, 3) := by decide +kernel
theorem dc_12_2_70 : decode prog_12_method_2_code 70 = .ok (.iconst 0, 1) := by decide +kernel
theorem dc_12_2_71 : decode prog_12_method_2_code 71 = .ok (.istore_n 3, 1) := by decide +kernel
theorem dc_12_2_72 : decode prog_12_method_2_code 72 = .ok (.iload_n 3, 1) := by decide +kernel
theorem dc_12_2_73 : decode prog_12_method_2_code 73 = .ok (.bipush 60, 2) := by decide +kernel
theorem dc_12_2_75 : decode prog_12_method_2_code 75 = .ok (.if_icmp .ge 37, 3) := by decide +kernel
theorem dc_12_2_78 : decode prog_12_method_2_code 78 = .ok (.aload_n 0, 1) := by decide +kernel
theorem dc_12_2_79 : decode prog_12_method_2_code 79 = .ok (.getfield 31, 3) := by decide +kernel
theorem dc_12_2_82 : decode prog_12_method_2_code 82 = .ok (.ifCond .ne 30, 3) := by decide +kernel
theorem dc_12_2_85 : decode prog_12_method_2_code 85 = .ok (.aload_n 0, 1) := by decide +kernel
theorem dc_12_2_86 : decode prog_12_method_2_code 86 = .ok (.getfield 28, 3) := by decide +kernel
theorem dc_12_2_89 : decode prog_12_method_2_code 89 = .ok (.aload_n 0, 1) := by decide +kernel
theorem dc_12_2_90 : decode prog_12_method_2_code 90 = .ok (.getfield 24, 3) := by decide +kernel
theorem dc_12_2_93 : decode prog_12_method_2_code 93 = .ok (.if_icmp .ge 19, 3) := by decide +kernel
theorem dc_12_2_96 : decode prog_12_method_2_code 96 = .ok (.aload_n 0, 1) := by decide +kernel
theorem dc_12_2_97 : decode prog_12_method_2_code 97 = .ok (.bipush 59, 2) := by decide +kernel
theorem dc_12_2_99 : decode prog_12_method_2_code 99 = .ok (.invokevirtual 58, 3) := by decide +kernel
theorem dc_12_2_102 : decode prog_12_method_2_code 102 = .ok (.aload_n 0, 1) := by decide +kernel
theorem dc_12_2_103 : decode prog_12_method_2_code 103 = .ok (.invokevirtual 55, 3) := by decide +kernel
theorem dc_12_2_106 : decode prog_12_method_2_code 106 = .ok (.iinc 3 1, 3) := by decide +kernel
theorem dc_12_2_109 : decode prog_12_method_2_code 109 = .ok (.goto (-37), 3) := by decide +kernel
theorem dc_12_2_112 : decode prog_12_method_2_code 112 = .ok (.aload_n 0, 1) := by decide +kernel
theorem dc_12_2_113 : decode prog_12_method_2_code 113 = .ok (.getfield 31, 3) := by decide +kernel
theorem dc_12_2_116 : decode prog_12_method_2_code 116 = .ok (.ireturn, 1) := by decide +kernel
theorem iv_3_s18 : mm_iv 3 (.invokestatic 18) = some (0, 37) := by decide +kernel
theorem iv_3_v55 : mm_iv 3 (.invokevirtual 55) = some (1, 49) := by decide +kernel
theorem o_49 : mm_o 49 = 3 := by decide +kernel
theorem na_1_49 : mm_nas 1 49 = 1 := by decide +kernel
/-- what a text begins with -/
def q00 : Nat → Int32 := fun k => if k = 6 then nI 1 else if k = 7 then nI 1 else if k = 10 then nI 99 else nI 0
theorem RS_in (cs : Nat → Nat → Int32) (v : Int32) : w1 (w1 (w1 (w1 (w1 (w1 (w1 (w1 (w1 (w1 cs 12 1 v) 12 2 (nI 0)) 12 3 (nI 0)) 12 5 (nI 0)) 12 6 (nI 1)) 12 7 (nI 1)) 12 8 (nI 0)) 12 9 (nI 0)) 12 10 (nI 99)) 12 11 (nI 0) = RS (qs (w1 cs 12 1 v) q00) (nI 0, nI 0, nI 0, cs 14) := by
  funext a k
  by_cases ha : a = 12
  · subst ha
    by_cases hk : k < 12
    · rcases (by omega : k = 0 ∨ k = 1 ∨ k = 2 ∨ k = 3 ∨ k = 4 ∨ k = 5 ∨ k = 6 ∨ k = 7 ∨ k = 8 ∨ k = 9 ∨ k = 10 ∨ k = 11) with rfl | rfl | rfl | rfl | rfl | rfl | rfl | rfl | rfl | rfl | rfl | rfl <;> rfl
    · unfold RS qs w1
      repeat rw [if_neg (by omega)]
  · by_cases h4 : a = 14
    · subst h4
      rfl
    · unfold RS qs w1
      repeat rw [if_neg (by omega)]
theorem txx_y {b : Nat → Int32} {sz m : Nat} {q : Nat → Int32} {t : rS} (h1 : t.2.1 = 0) (h2 : ¬ nI sz ≤ t.1) (hm : m < 60) : txx b sz (60 - m) q t = txx b sz (60 - (m + 1)) (clx b sz q (exq b sz (nI 59) t)).1 (clx b sz q (exq b sz (nI 59) t)).2 := by
  rw [show 60 - m = (60 - (m + 1)) + 1 by omega]
  exact (if_pos h1).trans (if_neg h2)
theorem txx_f {b : Nat → Int32} {sz : Nat} {q : Nat → Int32} {t : rS} (h1 : ¬ t.2.1 = 0) : ∀ k, txx b sz k q t = (q, t)
  | 0 => rfl
  | _ + 1 => if_neg h1
theorem txx_e {b : Nat → Int32} {sz : Nat} {q : Nat → Int32} {t : rS} (h2 : nI sz ≤ t.1) : ∀ k, txx b sz k q t = (q, t)
  | 0 => rfl
  | k + 1 => by
    by_cases h1 : t.2.1 = 0
    · exact (if_pos h1).trans (if_pos h2)
    · exact if_neg h1
/-- the whole text -/
def ttx (b : Nat → Int32) (sz : Nat) (C : Nat → Int32) : (Nat → Int32) × rS := txx b sz 60 (clx b sz q00 (nI 0, nI 0, nI 0, C)).1 (clx b sz q00 (nI 0, nI 0, nI 0, C)).2
set_option maxHeartbeats 4000000 in
theorem k_txt {M : mH} {T0 T : Nat → mT} {cs0 cs : Nat → Nat → Int32} {sz rb : Nat} (hT20 : T0 12 = (3, 0, rl [(0, rb), (4, 14)])) (hT10 : T0 11 = (20, 80, fun _ => none)) (eT : T = va_up T0 12 (3, 0, rl [(0, 11), (4, 14)])) (ec : cs = w1 cs0 12 1 (nI sz)) (hH : RdH M T cs sz) : mm_Ev 32 48 [.ref 12, .ref 11, .int (nI sz)] (hk M T0 (cs0)) ((some (.int (ttx (cs 11) sz (cs0 14)).2.2.1), hk M T (RS (qs cs (ttx (cs 11) sz (cs0 14)).1) (ttx (cs 11) sz (cs0 14)).2))) := by
  obtain ⟨hM, hM9, hs, hT2, hT1, hT4, he, hsz, hby⟩ := id hH
  refine r_ev (by decide +kernel) (show (3 : Nat) ≤ mm_nL 48 by decide +kernel) ?_
  show mm_Ru 31 (3, 4, false, prog_12_method_2_code, some .int) 0 [(0, .ref 12), (1, .ref 11), (2, .int (nI sz))] [] (hk M T0 (cs0)) (fun r9 => r9 = ((some (.int (ttx (cs 11) sz (cs0 14)).2.2.1), hk M T (RS (qs cs (ttx (cs 11) sz (cs0 14)).1) (ttx (cs 11) sz (cs0 14)).2))))
  refine r_aload_n rfl dc_12_2_0 ?_
  refine r_aload_n rfl dc_12_2_1 ?_
  refine h_pref (t := (3, 0, rl [(0, rb), (4, 14)])) (t2 := (3, 0, rl [(0, 11), (4, 14)])) fx_3_9 hT20 ⟨by omega, by omega⟩ (Or.inl fn_3_0) rfl rfl (rfl) dc_12_2_2 ?_
  refine r_aload_n rfl dc_12_2_5 ?_
  refine r_iload_n rfl dc_12_2_6 ?_
  refine r_aload_n rfl dc_12_2_7 ?_
  refine h_len (c := 20) (n := 80) ((up_o _ _ (by decide)).trans hT10) (Or.inl rfl) ⟨by omega, by omega⟩ dc_12_2_8 ?_
  refine r_bipush (v := nI 60) (by decide) dc_12_2_9 ?_
  refine h_callS (as := [.int (nI 80), .int (nI 60)]) (rest := [.int (nI sz), .ref 12]) (v := .int (nI 60)) rfl rfl iv_3_s18 (Or.inl rfl) na_0_37 rfl (show (2 : Nat) ≤ 8 by decide) dc_12_2_11 (mm_Ev_up (by decide : 1 ≤ 31) (by have h9 := k_min (hk M (va_up T0 12 (3, 0, rl [(0, 11), (4, 14)])) (cs0)) (nI 80) (nI 60); rw [mn_n (by omega) (by omega), Nat.min_eq_right (by omega)] at h9; exact h9)) ?_
  refine h_callS (as := [.int (nI sz), .int (nI 60)]) (rest := [.ref 12]) (v := .int (nI sz)) rfl rfl iv_3_s18 (Or.inl rfl) na_0_37 rfl (show (1 : Nat) ≤ 8 by decide) dc_12_2_14 (mm_Ev_up (by decide : 1 ≤ 31) (by have h9 := k_min (hk M (va_up T0 12 (3, 0, rl [(0, 11), (4, 14)])) (cs0)) (nI sz) (nI 60); rw [mn_n (by omega) (by omega), Nat.min_eq_left (by omega)] at h9; exact h9)) ?_
  refine h_pint (t := (3, 0, rl [(0, 11), (4, 14)])) fx_3_24 (if_pos rfl) ⟨by omega, by omega⟩ (Or.inl fn_3_1) ty_3_1 (pi_3_1 _ _ _ _) dc_12_2_17 ?_
  refine r_aload_n rfl dc_12_2_20 ?_
  refine r_iconst (v := nI 0) (by decide) dc_12_2_21 ?_
  refine h_pint (t := (3, 0, rl [(0, 11), (4, 14)])) fx_3_28 (if_pos rfl) ⟨by omega, by omega⟩ (Or.inl fn_3_2) ty_3_2 (pi_3_2 _ _ _ _) dc_12_2_22 ?_
  refine r_aload_n rfl dc_12_2_25 ?_
  refine r_iconst (v := nI 0) (by decide) dc_12_2_26 ?_
  refine h_pint (t := (3, 0, rl [(0, 11), (4, 14)])) fx_3_31 (if_pos rfl) ⟨by omega, by omega⟩ (Or.inl fn_3_3) ty_3_3 (pi_3_3 _ _ _ _) dc_12_2_27 ?_
  refine r_aload_n rfl dc_12_2_30 ?_
  refine r_iconst (v := nI 0) (by decide) dc_12_2_31 ?_
  refine h_pint (t := (3, 0, rl [(0, 11), (4, 14)])) fx_3_34 (if_pos rfl) ⟨by omega, by omega⟩ (Or.inl fn_3_5) ty_3_5 (pi_3_5 _ _ _ _) dc_12_2_32 ?_
  refine r_aload_n rfl dc_12_2_35 ?_
  refine r_iconst (v := nI 1) (by decide) dc_12_2_36 ?_
  refine h_pint (t := (3, 0, rl [(0, 11), (4, 14)])) fx_3_37 (if_pos rfl) ⟨by omega, by omega⟩ (Or.inl fn_3_6) ty_3_6 (pi_3_6 _ _ _ _) dc_12_2_37 ?_
  refine r_aload_n rfl dc_12_2_40 ?_
  refine r_iconst (v := nI 1) (by decide) dc_12_2_41 ?_
  refine h_pint (t := (3, 0, rl [(0, 11), (4, 14)])) fx_3_40 (if_pos rfl) ⟨by omega, by omega⟩ (Or.inl fn_3_7) ty_3_7 (pi_3_7 _ _ _ _) dc_12_2_42 ?_
  refine r_aload_n rfl dc_12_2_45 ?_
  refine r_iconst (v := nI 0) (by decide) dc_12_2_46 ?_
  refine h_pint (t := (3, 0, rl [(0, 11), (4, 14)])) fx_3_43 (if_pos rfl) ⟨by omega, by omega⟩ (Or.inl fn_3_8) ty_3_8 (pi_3_8 _ _ _ _) dc_12_2_47 ?_
  refine r_aload_n rfl dc_12_2_50 ?_
  refine r_iconst (v := nI 0) (by decide) dc_12_2_51 ?_
  refine h_pint (t := (3, 0, rl [(0, 11), (4, 14)])) fx_3_46 (if_pos rfl) ⟨by omega, by omega⟩ (Or.inl fn_3_9) ty_3_9 (pi_3_9 _ _ _ _) dc_12_2_52 ?_
  refine r_aload_n rfl dc_12_2_55 ?_
  refine r_bipush (v := nI 99) (by decide) dc_12_2_56 ?_
  refine h_pint (t := (3, 0, rl [(0, 11), (4, 14)])) fx_3_49 (if_pos rfl) ⟨by omega, by omega⟩ (Or.inl fn_3_10) ty_3_10 (pi_3_10 _ _ _ _) dc_12_2_58 ?_
  refine r_aload_n rfl dc_12_2_61 ?_
  refine r_iconst (v := nI 0) (by decide) dc_12_2_62 ?_
  refine h_pint (t := (3, 0, rl [(0, 11), (4, 14)])) fx_3_52 (if_pos rfl) ⟨by omega, by omega⟩ (Or.inl fn_3_11) ty_3_11 (pi_3_11 _ _ _ _) dc_12_2_63 ?_
  rw [RS_in, ← eT, ← ec]
  show mm_Ru 31 (3, 4, false, prog_12_method_2_code, some .int) 66 [(0, .ref 12), (1, .ref 11), (2, .int (nI sz))] [] (hk M T (RS (qs cs q00) ((nI 0, nI 0, nI 0, cs0 14)))) (fun r9 => r9 = ((some (.int (ttx (cs 11) sz (cs0 14)).2.2.1), hk M T (RS (qs cs (ttx (cs 11) sz (cs0 14)).1) (ttx (cs 11) sz (cs0 14)).2))))
  refine r_aload_n rfl dc_12_2_66 ?_
  refine h_call0 (t := (3, 0, rl [(0, 11), (4, 14)])) (as := []) (rest := []) (M1 := hk M T (RS (qs cs ((clx (cs 11) sz q00 ((nI 0, nI 0, nI 0, cs0 14))).1)) ((clx (cs 11) sz q00 ((nI 0, nI 0, nI 0, cs0 14))).2))) rfl rfl iv_3_v55 (Or.inl rfl) na_1_49 hT2 ⟨by omega, by omega⟩ (show (3 : Nat) < 14 by decide) o_49 rfl (show (0 : Nat) ≤ 8 by decide) dc_12_2_67 (k_clx hH q00 ((nI 0, nI 0, nI 0, cs0 14))) ?_
  refine r_iconst (v := nI 0) (by decide) dc_12_2_70 ?_
  refine r_istore_n (ls' := [(3, .int (nI 0)), (0, .ref 12), (1, .ref 11), (2, .int (nI sz))]) (by decide) rfl dc_12_2_71 ?_
  refine mm_cnt (P := fun m => ∀ (q : Nat → Int32), ∀ (t : rS), (txx (cs 11) sz (60 - m) q t = ttx (cs 11) sz (cs0 14)) → mm_Ru 31 (3, 4, false, prog_12_method_2_code, some .int) 72 [(3, .int (nI m)), (0, .ref 12), (1, .ref 11), (2, .int (nI sz))] [] (hk M T (RS (qs cs q) t)) (fun r9 => r9 = ((some (.int (ttx (cs 11) sz (cs0 14)).2.2.1), hk M T (RS (qs cs (ttx (cs 11) sz (cs0 14)).1) (ttx (cs 11) sz (cs0 14)).2))))) 60 ?_ ?_ 0 (by omega) ((clx (cs 11) sz q00 ((nI 0, nI 0, nI 0, cs0 14))).1) ((clx (cs 11) sz q00 ((nI 0, nI 0, nI 0, cs0 14))).2) (rfl)
  · intro q t hi_m
    show mm_Ru 31 (3, 4, false, prog_12_method_2_code, some .int) 72 [(3, .int (nI 60)), (0, .ref 12), (1, .ref 11), (2, .int (nI sz))] [] (hk M T (RS (qs cs q) t)) (fun r9 => r9 = ((some (.int (ttx (cs 11) sz (cs0 14)).2.2.1), hk M T (RS (qs cs (ttx (cs 11) sz (cs0 14)).1) (ttx (cs 11) sz (cs0 14)).2))))
    refine r_iload_n rfl dc_12_2_72 ?_
    refine r_bipush (v := nI 60) (by decide) dc_12_2_73 ?_
    refine r_ncge (t := 112) (by omega) (by omega) (by decide) dc_12_2_75 (fun c_75 => ?_) (fun c_75 => ?_)
    · skip
      refine r_aload_n rfl dc_12_2_112 ?_
      refine h_get (t := (3, 0, rl [(0, 11), (4, 14)])) (v := .int t.2.1) fx_3_31 hT2 ⟨by omega, by omega⟩ (rfl) dc_12_2_113 ?_
      refine r_iret rfl dc_12_2_116 ?_
      have h9 : ttx (cs 11) sz (cs0 14) = (q, t) := hi_m.symm.trans (rfl)
      exact congrArg (fun z : (Nat → Int32) × rS => (some (Value.int z.2.2.1), hk M T (RS (qs cs z.1) z.2))) h9.symm
    · omega
  · intro m h_m ih_m q t hi_m
    show mm_Ru 31 (3, 4, false, prog_12_method_2_code, some .int) 72 [(3, .int (nI m)), (0, .ref 12), (1, .ref 11), (2, .int (nI sz))] [] (hk M T (RS (qs cs q) t)) (fun r9 => r9 = ((some (.int (ttx (cs 11) sz (cs0 14)).2.2.1), hk M T (RS (qs cs (ttx (cs 11) sz (cs0 14)).1) (ttx (cs 11) sz (cs0 14)).2))))
    refine r_iload_n rfl dc_12_2_72 ?_
    refine r_bipush (v := nI 60) (by decide) dc_12_2_73 ?_
    refine r_ncge (t := 112) (by omega) (by omega) (by decide) dc_12_2_75 (fun c_75 => ?_) (fun c_75 => ?_)
    · omega
    · skip
      refine r_aload_n rfl dc_12_2_78 ?_
      refine h_get (t := (3, 0, rl [(0, 11), (4, 14)])) (v := .int t.2.1) fx_3_31 hT2 ⟨by omega, by omega⟩ (rfl) dc_12_2_79 ?_
      refine r_ifne (t := 112) (by decide) dc_12_2_82 (fun c_82 => ?_) (fun c_82 => ?_)
      · skip
        refine r_aload_n rfl dc_12_2_112 ?_
        refine h_get (t := (3, 0, rl [(0, 11), (4, 14)])) (v := .int t.2.1) fx_3_31 hT2 ⟨by omega, by omega⟩ (rfl) dc_12_2_113 ?_
        refine r_iret rfl dc_12_2_116 ?_
        have h9 : ttx (cs 11) sz (cs0 14) = (q, t) := hi_m.symm.trans (txx_f c_82 _)
        exact congrArg (fun z : (Nat → Int32) × rS => (some (Value.int z.2.2.1), hk M T (RS (qs cs z.1) z.2))) h9.symm
      · skip
        refine r_aload_n rfl dc_12_2_85 ?_
        refine h_get (t := (3, 0, rl [(0, 11), (4, 14)])) (v := .int t.1) fx_3_28 hT2 ⟨by omega, by omega⟩ (rfl) dc_12_2_86 ?_
        refine r_aload_n rfl dc_12_2_89 ?_
        refine h_get (t := (3, 0, rl [(0, 11), (4, 14)])) (v := .int (nI sz)) fx_3_24 hT2 ⟨by omega, by omega⟩ (show some (Value.int _) = _ from congrArg (fun z => some (Value.int z)) (he)) dc_12_2_90 ?_
        refine r_icge (t := 112) (by decide) dc_12_2_93 (fun c_93 => ?_) (fun c_93 => ?_)
        · skip
          refine r_aload_n rfl dc_12_2_112 ?_
          refine h_get (t := (3, 0, rl [(0, 11), (4, 14)])) (v := .int t.2.1) fx_3_31 hT2 ⟨by omega, by omega⟩ (rfl) dc_12_2_113 ?_
          refine r_iret rfl dc_12_2_116 ?_
          have h9 : ttx (cs 11) sz (cs0 14) = (q, t) := hi_m.symm.trans (txx_e c_93 _)
          exact congrArg (fun z : (Nat → Int32) × rS => (some (Value.int z.2.2.1), hk M T (RS (qs cs z.1) z.2))) h9.symm
        · skip
          refine r_aload_n rfl dc_12_2_96 ?_
          refine r_bipush (v := nI 59) (by decide) dc_12_2_97 ?_
          refine h_call0 (t := (3, 0, rl [(0, 11), (4, 14)])) (as := [.int (nI 59)]) (rest := []) (M1 := hk M T (RS (qs cs q) (exq (cs 11) sz (nI 59) t))) rfl rfl iv_3_v58 (Or.inl rfl) na_1_53 hT2 ⟨by omega, by omega⟩ (show (3 : Nat) < 14 by decide) o_53 rfl (show (0 : Nat) ≤ 8 by decide) dc_12_2_99 (mm_Ev_up (by decide : 2 ≤ 31) (k_exx (RdH_q hH q) t (nI 59))) ?_
          refine r_aload_n rfl dc_12_2_102 ?_
          refine h_call0 (t := (3, 0, rl [(0, 11), (4, 14)])) (as := []) (rest := []) (M1 := hk M T (RS (qs cs ((clx (cs 11) sz q (exq (cs 11) sz (nI 59) t)).1)) ((clx (cs 11) sz q (exq (cs 11) sz (nI 59) t)).2))) rfl rfl iv_3_v55 (Or.inl rfl) na_1_49 hT2 ⟨by omega, by omega⟩ (show (3 : Nat) < 14 by decide) o_49 rfl (show (0 : Nat) ≤ 8 by decide) dc_12_2_103 (k_clx hH q (exq (cs 11) sz (nI 59) t)) ?_
          refine r_iinc (n := 3) (k := 1) (x := nI m) (v := nI (m + 1)) (ls' := [(3, .int (nI (m + 1))), (0, .ref 12), (1, .ref 11), (2, .int (nI sz))]) rfl (nI_1 _) (by decide) rfl dc_12_2_106 ?_
          refine r_goto (t := 72) (by decide) dc_12_2_109 ?_
          exact ih_m ((clx (cs 11) sz q (exq (cs 11) sz (nI 59) t)).1) ((clx (cs 11) sz q (exq (cs 11) sz (nI 59) t)).2) ((txx_y c_82 c_93 h_m).symm.trans hi_m)
