/-! the reader, raw: clauses -/
theorem dc_12_4_0 : decode prog_12_method_4_code 0 = .ok (.aload_n 0, 1) := by decide +kernel
theorem dc_12_4_1 : decode prog_12_method_4_code 1 = .ok (.getfield 31, 3) := by decide +kernel
theorem dc_12_4_4 : decode prog_12_method_4_code 4 = .ok (.ifCond .eq 4, 3) := by decide +kernel
theorem dc_12_4_7 : decode prog_12_method_4_code 7 = .ok (.return_, 1) := by decide +kernel
theorem dc_12_4_8 : decode prog_12_method_4_code 8 = .ok (.aload_n 0, 1) := by decide +kernel
theorem dc_12_4_9 : decode prog_12_method_4_code 9 = .ok (.invokevirtual 71, 3) := by decide +kernel
theorem dc_12_4_12 : decode prog_12_method_4_code 12 = .ok (.istore_n 1, 1) := by decide +kernel
theorem dc_12_4_13 : decode prog_12_method_4_code 13 = .ok (.iload_n 1, 1) := by decide +kernel
theorem dc_12_4_14 : decode prog_12_method_4_code 14 = .ok (.bipush 40, 2) := by decide +kernel
theorem dc_12_4_16 : decode prog_12_method_4_code 16 = .ok (.if_icmp .ne 32, 3) := by decide +kernel
theorem dc_12_4_19 : decode prog_12_method_4_code 19 = .ok (.aload_n 0, 1) := by decide +kernel
theorem dc_12_4_20 : decode prog_12_method_4_code 20 = .ok (.iconst 0, 1) := by decide +kernel
theorem dc_12_4_21 : decode prog_12_method_4_code 21 = .ok (.invokevirtual 75, 3) := by decide +kernel
theorem dc_12_4_24 : decode prog_12_method_4_code 24 = .ok (.aload_n 0, 1) := by decide +kernel
theorem dc_12_4_25 : decode prog_12_method_4_code 25 = .ok (.getfield 52, 3) := by decide +kernel
theorem dc_12_4_28 : decode prog_12_method_4_code 28 = .ok (.ifCond .le 9, 3) := by decide +kernel
theorem dc_12_4_31 : decode prog_12_method_4_code 31 = .ok (.aload_n 0, 1) := by decide +kernel
theorem dc_12_4_32 : decode prog_12_method_4_code 32 = .ok (.bipush (-2), 2) := by decide +kernel
theorem dc_12_4_34 : decode prog_12_method_4_code 34 = .ok (.invokevirtual 79, 3) := by decide +kernel
theorem dc_12_4_37 : decode prog_12_method_4_code 37 = .ok (.aload_n 0, 1) := by decide +kernel
theorem dc_12_4_38 : decode prog_12_method_4_code 38 = .ok (.dup, 1) := by decide +kernel
theorem dc_12_4_39 : decode prog_12_method_4_code 39 = .ok (.getfield 52, 3) := by decide +kernel
theorem dc_12_4_42 : decode prog_12_method_4_code 42 = .ok (.iconst 1, 1) := by decide +kernel
theorem dc_12_4_43 : decode prog_12_method_4_code 43 = .ok (.iadd, 1) := by decide +kernel
theorem dc_12_4_44 : decode prog_12_method_4_code 44 = .ok (.putfield 52, 3) := by decide +kernel
theorem dc_12_4_47 : decode prog_12_method_4_code 47 = .ok (.return_, 1) := by decide +kernel
theorem dc_12_4_48 : decode prog_12_method_4_code 48 = .ok (.aload_n 0, 1) := by decide +kernel
theorem dc_12_4_49 : decode prog_12_method_4_code 49 = .ok (.ldc 82, 2) := by decide +kernel
theorem dc_12_4_51 : decode prog_12_method_4_code 51 = .ok (.invokevirtual 84, 3) := by decide +kernel
theorem dc_12_4_54 : decode prog_12_method_4_code 54 = .ok (.pop, 1) := by decide +kernel
theorem dc_12_4_55 : decode prog_12_method_4_code 55 = .ok (.iload_n 1, 1) := by decide +kernel
theorem dc_12_4_56 : decode prog_12_method_4_code 56 = .ok (.bipush 110, 2) := by decide +kernel
theorem dc_12_4_58 : decode prog_12_method_4_code 58 = .ok (.if_icmp .ne 17, 3) := by decide +kernel
theorem dc_12_4_61 : decode prog_12_method_4_code 61 = .ok (.aload_n 0, 1) := by decide +kernel
theorem dc_12_4_62 : decode prog_12_method_4_code 62 = .ok (.aload_n 0, 1) := by decide +kernel
theorem dc_12_4_63 : decode prog_12_method_4_code 63 = .ok (.iconst 0, 1) := by decide +kernel
theorem dc_12_4_64 : decode prog_12_method_4_code 64 = .ok (.bipush 9, 2) := by decide +kernel
theorem dc_12_4_66 : decode prog_12_method_4_code 66 = .ok (.invokevirtual 88, 3) := by decide +kernel
theorem dc_12_4_69 : decode prog_12_method_4_code 69 = .ok (.putfield 37, 3) := by decide +kernel
theorem dc_12_4_72 : decode prog_12_method_4_code 72 = .ok (.goto 75, 3) := by decide +kernel
theorem dc_12_4_75 : decode prog_12_method_4_code 75 = .ok (.iload_n 1, 1) := by decide +kernel
theorem dc_12_4_76 : decode prog_12_method_4_code 76 = .ok (.bipush 98, 2) := by decide +kernel
theorem dc_12_4_78 : decode prog_12_method_4_code 78 = .ok (.if_icmp .ne 17, 3) := by decide +kernel
theorem dc_12_4_81 : decode prog_12_method_4_code 81 = .ok (.aload_n 0, 1) := by decide +kernel
theorem dc_12_4_82 : decode prog_12_method_4_code 82 = .ok (.aload_n 0, 1) := by decide +kernel
theorem dc_12_4_83 : decode prog_12_method_4_code 83 = .ok (.iconst 0, 1) := by decide +kernel
theorem dc_12_4_84 : decode prog_12_method_4_code 84 = .ok (.bipush 99, 2) := by decide +kernel
theorem dc_12_4_86 : decode prog_12_method_4_code 86 = .ok (.invokevirtual 88, 3) := by decide +kernel
theorem dc_12_4_89 : decode prog_12_method_4_code 89 = .ok (.putfield 40, 3) := by decide +kernel
theorem dc_12_4_92 : decode prog_12_method_4_code 92 = .ok (.goto 55, 3) := by decide +kernel
theorem dc_12_4_95 : decode prog_12_method_4_code 95 = .ok (.iload_n 1, 1) := by decide +kernel
theorem dc_12_4_96 : decode prog_12_method_4_code 96 = .ok (.bipush 112, 2) := by decide +kernel
theorem dc_12_4_98 : decode prog_12_method_4_code 98 = .ok (.if_icmp .ne 18, 3) := by decide +kernel
theorem dc_12_4_101 : decode prog_12_method_4_code 101 = .ok (.aload_n 0, 1) := by decide +kernel
theorem dc_12_4_102 : decode prog_12_method_4_code 102 = .ok (.aload_n 0, 1) := by decide +kernel
theorem dc_12_4_103 : decode prog_12_method_4_code 103 = .ok (.iconst 0, 1) := by decide +kernel
theorem dc_12_4_104 : decode prog_12_method_4_code 104 = .ok (.sipush 9999, 3) := by decide +kernel
theorem dc_12_4_107 : decode prog_12_method_4_code 107 = .ok (.invokevirtual 88, 3) := by decide +kernel
theorem dc_12_4_110 : decode prog_12_method_4_code 110 = .ok (.putfield 43, 3) := by decide +kernel
theorem dc_12_4_113 : decode prog_12_method_4_code 113 = .ok (.goto 34, 3) := by decide +kernel
theorem dc_12_4_116 : decode prog_12_method_4_code 116 = .ok (.aload_n 0, 1) := by decide +kernel
theorem dc_12_4_117 : decode prog_12_method_4_code 117 = .ok (.aload_n 0, 1) := by decide +kernel
theorem dc_12_4_118 : decode prog_12_method_4_code 118 = .ok (.iconst 0, 1) := by decide +kernel
theorem dc_12_4_119 : decode prog_12_method_4_code 119 = .ok (.bipush 99, 2) := by decide +kernel
theorem dc_12_4_121 : decode prog_12_method_4_code 121 = .ok (.invokevirtual 88, 3) := by decide +kernel
theorem dc_12_4_124 : decode prog_12_method_4_code 124 = .ok (.putfield 46, 3) := by decide +kernel
theorem dc_12_4_127 : decode prog_12_method_4_code 127 = .ok (.aload_n 0, 1) := by decide +kernel
theorem dc_12_4_128 : decode prog_12_method_4_code 128 = .ok (.bipush 45, 2) := by decide +kernel
theorem dc_12_4_130 : decode prog_12_method_4_code 130 = .ok (.invokevirtual 58, 3) := by decide +kernel
theorem dc_12_4_133 : decode prog_12_method_4_code 133 = .ok (.aload_n 0, 1) := by decide +kernel
theorem dc_12_4_134 : decode prog_12_method_4_code 134 = .ok (.aload_n 0, 1) := by decide +kernel
theorem dc_12_4_135 : decode prog_12_method_4_code 135 = .ok (.aload_n 0, 1) := by decide +kernel
theorem dc_12_4_136 : decode prog_12_method_4_code 136 = .ok (.getfield 46, 3) := by decide +kernel
theorem dc_12_4_139 : decode prog_12_method_4_code 139 = .ok (.bipush 99, 2) := by decide +kernel
theorem dc_12_4_141 : decode prog_12_method_4_code 141 = .ok (.invokevirtual 88, 3) := by decide +kernel
theorem dc_12_4_144 : decode prog_12_method_4_code 144 = .ok (.putfield 49, 3) := by decide +kernel
theorem dc_12_4_147 : decode prog_12_method_4_code 147 = .ok (.return_, 1) := by decide +kernel
/-- the six numbers of the reader -/
def qs (cs : Nat → Nat → Int32) (q : Nat → Int32) : Nat → Nat → Int32 := fun a k => if a = 12 ∧ 6 ≤ k ∧ k ≤ 11 then q k else cs a k
theorem RS_q (cs : Nat → Nat → Int32) (q : Nat → Int32) (s : rS) {k : Nat} (v : Int32) (h : 6 ≤ k ∧ k ≤ 11) : w1 (RS (qs cs q) s) 12 k v = RS (qs cs (upd q k v)) s := by
  funext a j
  unfold w1 RS qs upd
  by_cases ha : a = 12
  · subst ha
    by_cases hj : j = k
    · subst hj
      rw [if_pos ⟨rfl, rfl⟩, if_neg (by omega), if_neg (by omega), if_neg (by omega), if_neg (by omega), if_pos ⟨rfl, h⟩, if_pos rfl]
    · rw [if_neg (fun z => hj z.2)]
      repeat (first | rfl | (split; rfl))
  · simp [ha]
theorem RdH_q {M : mH} {T : Nat → mT} {cs : Nat → Nat → Int32} {sz : Nat} (hH : RdH M T cs sz) (q : Nat → Int32) : RdH M T (qs cs q) sz := hH
def clx (b : Nat → Int32) (sz : Nat) (q : Nat → Int32) (s : rS) : (Nat → Int32) × rS :=
  if s.2.1 = 0 then
    (if pkx b sz s.1 = nI 40 then (upd q 11 (q 11 + nI 1), if q 11 ≤ 0 then brx b sz 6 s else ptx (brx b sz 6 s) (-2))
    else if pkx b sz s.1 = nI 110 then (upd q 6 (rnx b sz (nI 0) (nI 9) (eox (tF 2) 4 b sz s)).1, (rnx b sz (nI 0) (nI 9) (eox (tF 2) 4 b sz s)).2)
    else if pkx b sz s.1 = nI 98 then (upd q 7 (rnx b sz (nI 0) (nI 99) (eox (tF 2) 4 b sz s)).1, (rnx b sz (nI 0) (nI 99) (eox (tF 2) 4 b sz s)).2)
    else if pkx b sz s.1 = nI 112 then (upd q 8 (rnx b sz (nI 0) (nI 9999) (eox (tF 2) 4 b sz s)).1, (rnx b sz (nI 0) (nI 9999) (eox (tF 2) 4 b sz s)).2)
    else (upd (upd q 9 (rnx b sz (nI 0) (nI 99) (eox (tF 2) 4 b sz s)).1) 10 (rnx b sz (rnx b sz (nI 0) (nI 99) (eox (tF 2) 4 b sz s)).1 (nI 99) (exq b sz (nI 45) (rnx b sz (nI 0) (nI 99) (eox (tF 2) 4 b sz s)).2)).1, (rnx b sz (rnx b sz (nI 0) (nI 99) (eox (tF 2) 4 b sz s)).1 (nI 99) (exq b sz (nI 45) (rnx b sz (nI 0) (nI 99) (eox (tF 2) 4 b sz s)).2)).2))
  else (q, s)
def txx (b : Nat → Int32) (sz : Nat) : Nat → (Nat → Int32) → rS → (Nat → Int32) × rS
  | 0, q, s => (q, s)
  | k + 1, q, s => if s.2.1 = 0 then (if nI sz ≤ s.1 then (q, s) else txx b sz k (clx b sz q (exq b sz (nI 59) s)).1 (clx b sz q (exq b sz (nI 59) s)).2) else (q, s)
set_option maxHeartbeats 4000000 in
theorem k_clx {M : mH} {T : Nat → mT} {cs : Nat → Nat → Int32} {sz : Nat} (hH : RdH M T cs sz) (q : Nat → Int32) (s : rS) : mm_Ev 31 49 [.ref 12] (hk M T (RS (qs cs q) s)) ((none, hk M T (RS (qs cs (clx (cs 11) sz q s).1) (clx (cs 11) sz q s).2))) := by
  obtain ⟨hM, hM9, hs, hT2, hT1, hT4, he, hsz, hby⟩ := id hH
  refine r_ev (by decide +kernel) (show (1 : Nat) ≤ mm_nL 49 by decide +kernel) ?_
  show mm_Ru 30 (3, 2, false, prog_12_method_4_code, none) 0 [(0, .ref 12)] [] (hk M T (RS (qs cs q) s)) (fun r9 => r9 = ((none, hk M T (RS (qs cs (clx (cs 11) sz q s).1) (clx (cs 11) sz q s).2))))
  refine r_aload_n rfl dc_12_4_0 ?_
  refine h_get (t := (3, 0, rl [(0, 11), (4, 14)])) (v := .int s.2.1) fx_3_31 hT2 ⟨by omega, by omega⟩ (rfl) dc_12_4_1 ?_
  refine r_ifeq (t := 8) (by decide) dc_12_4_4 (fun c_4 => ?_) (fun c_4 => ?_)
  · skip
    refine r_aload_n rfl dc_12_4_8 ?_
    refine h_callv (t := (3, 0, rl [(0, 11), (4, 14)])) (as := []) (rest := []) (v := .int (pkx (cs 11) sz s.1)) (M1 := hk M T (RS (qs cs q) s)) rfl rfl iv_3_v71 (Or.inl rfl) na_1_50 hT2 ⟨by omega, by omega⟩ (show (3 : Nat) < 14 by decide) o_50 rfl (show (0 : Nat) ≤ 8 by decide) dc_12_4_9 (mm_Ev_up (by decide : 1 ≤ 30) (k_pk (RdH_q hH q) s)) ?_
    refine r_istore_n (ls' := [(1, .int (pkx (cs 11) sz s.1)), (0, .ref 12)]) (by decide) rfl dc_12_4_12 ?_
    refine r_iload_n rfl dc_12_4_13 ?_
    refine r_bipush (v := nI 40) (by decide) dc_12_4_14 ?_
    refine r_icne (t := 48) (by decide) dc_12_4_16 (fun c_16 => ?_) (fun c_16 => ?_)
    · skip
      refine r_aload_n rfl dc_12_4_48 ?_
      refine r_ldcA (a := 1000004) (by decide +kernel) (by decide +kernel) dc_12_4_49 ?_
      refine h_callv (t := (3, 0, rl [(0, 11), (4, 14)])) (as := [.ref 1000004]) (rest := []) (v := .int (fdx (tF 2) 4 (pkx (cs 11) sz s.1))) (M1 := hk M T (RS (qs cs q) (eox (tF 2) 4 (cs 11) sz s))) rfl rfl iv_3_v84 (Or.inl rfl) na_1_58 hT2 ⟨by omega, by omega⟩ (show (3 : Nat) < 14 by decide) o_58 rfl (show (0 : Nat) ≤ 8 by decide) dc_12_4_51 (mm_Ev_up (by decide : 5 ≤ 30) (k_eox (RdH_q hH q) s (F := tF 2) (by decide) (by decide) (hs 4 (by decide) (by decide)) (hs 7 (by decide) (by decide)) (by decide) (by decide))) ?_
      refine r_pop rfl dc_12_4_54 ?_
      refine r_iload_n rfl dc_12_4_55 ?_
      refine r_bipush (v := nI 110) (by decide) dc_12_4_56 ?_
      refine r_icne (t := 75) (by decide) dc_12_4_58 (fun c_58 => ?_) (fun c_58 => ?_)
      · skip
        refine r_iload_n rfl dc_12_4_75 ?_
        refine r_bipush (v := nI 98) (by decide) dc_12_4_76 ?_
        refine r_icne (t := 95) (by decide) dc_12_4_78 (fun c_78 => ?_) (fun c_78 => ?_)
        · skip
          refine r_iload_n rfl dc_12_4_95 ?_
          refine r_bipush (v := nI 112) (by decide) dc_12_4_96 ?_
          refine r_icne (t := 116) (by decide) dc_12_4_98 (fun c_98 => ?_) (fun c_98 => ?_)
          · skip
            refine r_aload_n rfl dc_12_4_116 ?_
            refine r_aload_n rfl dc_12_4_117 ?_
            refine r_iconst (v := nI 0) (by decide) dc_12_4_118 ?_
            refine r_bipush (v := nI 99) (by decide) dc_12_4_119 ?_
            refine h_callv (t := (3, 0, rl [(0, 11), (4, 14)])) (as := [.int (nI 0), .int (nI 99)]) (rest := [.ref 12]) (v := .int ((rnx (cs 11) sz (nI 0) (nI 99) (eox (tF 2) 4 (cs 11) sz s)).1)) (M1 := hk M T (RS (qs cs q) ((rnx (cs 11) sz (nI 0) (nI 99) (eox (tF 2) 4 (cs 11) sz s)).2))) rfl rfl iv_3_v88 (Or.inl rfl) na_1_79 hT2 ⟨by omega, by omega⟩ (show (3 : Nat) < 14 by decide) o_79 rfl (show (1 : Nat) ≤ 8 by decide) dc_12_4_121 (mm_Ev_up (by decide : 2 ≤ 30) (k_rnx (RdH_q hH q) (eox (tF 2) 4 (cs 11) sz s) (nI 0) (nI 99))) ?_
            refine h_pint (t := (3, 0, rl [(0, 11), (4, 14)])) fx_3_46 hT2 ⟨by omega, by omega⟩ (Or.inl fn_3_9) ty_3_9 (pi_3_9 _ _ _ _) dc_12_4_124 ?_
            rw [RS_q _ _ _ _ (by decide)]
            refine r_aload_n rfl dc_12_4_127 ?_
            refine r_bipush (v := nI 45) (by decide) dc_12_4_128 ?_
            refine h_call0 (t := (3, 0, rl [(0, 11), (4, 14)])) (as := [.int (nI 45)]) (rest := []) (M1 := hk M T (RS (qs cs (upd q 9 ((rnx (cs 11) sz (nI 0) (nI 99) (eox (tF 2) 4 (cs 11) sz s)).1))) (exq (cs 11) sz (nI 45) ((rnx (cs 11) sz (nI 0) (nI 99) (eox (tF 2) 4 (cs 11) sz s)).2)))) rfl rfl iv_3_v58 (Or.inl rfl) na_1_53 hT2 ⟨by omega, by omega⟩ (show (3 : Nat) < 14 by decide) o_53 rfl (show (0 : Nat) ≤ 8 by decide) dc_12_4_130 (mm_Ev_up (by decide : 2 ≤ 30) (k_exx (RdH_q hH (upd q 9 ((rnx (cs 11) sz (nI 0) (nI 99) (eox (tF 2) 4 (cs 11) sz s)).1))) ((rnx (cs 11) sz (nI 0) (nI 99) (eox (tF 2) 4 (cs 11) sz s)).2) (nI 45))) ?_
            refine r_aload_n rfl dc_12_4_133 ?_
            refine r_aload_n rfl dc_12_4_134 ?_
            refine r_aload_n rfl dc_12_4_135 ?_
            refine h_get (t := (3, 0, rl [(0, 11), (4, 14)])) (v := .int ((rnx (cs 11) sz (nI 0) (nI 99) (eox (tF 2) 4 (cs 11) sz s)).1)) fx_3_46 hT2 ⟨by omega, by omega⟩ (rfl) dc_12_4_136 ?_
            refine r_bipush (v := nI 99) (by decide) dc_12_4_139 ?_
            refine h_callv (t := (3, 0, rl [(0, 11), (4, 14)])) (as := [.int ((rnx (cs 11) sz (nI 0) (nI 99) (eox (tF 2) 4 (cs 11) sz s)).1), .int (nI 99)]) (rest := [.ref 12]) (v := .int ((rnx (cs 11) sz ((rnx (cs 11) sz (nI 0) (nI 99) (eox (tF 2) 4 (cs 11) sz s)).1) (nI 99) (exq (cs 11) sz (nI 45) ((rnx (cs 11) sz (nI 0) (nI 99) (eox (tF 2) 4 (cs 11) sz s)).2))).1)) (M1 := hk M T (RS (qs cs (upd q 9 ((rnx (cs 11) sz (nI 0) (nI 99) (eox (tF 2) 4 (cs 11) sz s)).1))) ((rnx (cs 11) sz ((rnx (cs 11) sz (nI 0) (nI 99) (eox (tF 2) 4 (cs 11) sz s)).1) (nI 99) (exq (cs 11) sz (nI 45) ((rnx (cs 11) sz (nI 0) (nI 99) (eox (tF 2) 4 (cs 11) sz s)).2))).2))) rfl rfl iv_3_v88 (Or.inl rfl) na_1_79 hT2 ⟨by omega, by omega⟩ (show (3 : Nat) < 14 by decide) o_79 rfl (show (1 : Nat) ≤ 8 by decide) dc_12_4_141 (mm_Ev_up (by decide : 2 ≤ 30) (k_rnx (RdH_q hH (upd q 9 ((rnx (cs 11) sz (nI 0) (nI 99) (eox (tF 2) 4 (cs 11) sz s)).1))) (exq (cs 11) sz (nI 45) ((rnx (cs 11) sz (nI 0) (nI 99) (eox (tF 2) 4 (cs 11) sz s)).2)) ((rnx (cs 11) sz (nI 0) (nI 99) (eox (tF 2) 4 (cs 11) sz s)).1) (nI 99))) ?_
            refine h_pint (t := (3, 0, rl [(0, 11), (4, 14)])) fx_3_49 hT2 ⟨by omega, by omega⟩ (Or.inl fn_3_10) ty_3_10 (pi_3_10 _ _ _ _) dc_12_4_144 ?_
            rw [RS_q _ _ _ _ (by decide)]
            refine r_vret rfl dc_12_4_147 ?_
            have h9 : clx (cs 11) sz q s = _ := (Eq.trans (if_pos c_4) (Eq.trans (if_neg c_16) (Eq.trans (if_neg c_58) (Eq.trans (if_neg c_78) (if_neg c_98)))))
            rw [h9]
          · skip
            refine r_aload_n rfl dc_12_4_101 ?_
            refine r_aload_n rfl dc_12_4_102 ?_
            refine r_iconst (v := nI 0) (by decide) dc_12_4_103 ?_
            refine r_sipush (v := nI 9999) (by decide) dc_12_4_104 ?_
            refine h_callv (t := (3, 0, rl [(0, 11), (4, 14)])) (as := [.int (nI 0), .int (nI 9999)]) (rest := [.ref 12]) (v := .int ((rnx (cs 11) sz (nI 0) (nI 9999) (eox (tF 2) 4 (cs 11) sz s)).1)) (M1 := hk M T (RS (qs cs q) ((rnx (cs 11) sz (nI 0) (nI 9999) (eox (tF 2) 4 (cs 11) sz s)).2))) rfl rfl iv_3_v88 (Or.inl rfl) na_1_79 hT2 ⟨by omega, by omega⟩ (show (3 : Nat) < 14 by decide) o_79 rfl (show (1 : Nat) ≤ 8 by decide) dc_12_4_107 (mm_Ev_up (by decide : 2 ≤ 30) (k_rnx (RdH_q hH q) (eox (tF 2) 4 (cs 11) sz s) (nI 0) (nI 9999))) ?_
            refine h_pint (t := (3, 0, rl [(0, 11), (4, 14)])) fx_3_43 hT2 ⟨by omega, by omega⟩ (Or.inl fn_3_8) ty_3_8 (pi_3_8 _ _ _ _) dc_12_4_110 ?_
            rw [RS_q _ _ _ _ (by decide)]
            refine r_goto (t := 147) (by decide) dc_12_4_113 ?_
            refine r_vret rfl dc_12_4_147 ?_
            have h9 : clx (cs 11) sz q s = _ := (Eq.trans (if_pos c_4) (Eq.trans (if_neg c_16) (Eq.trans (if_neg c_58) (Eq.trans (if_neg c_78) (if_pos c_98)))))
            rw [h9]
        · skip
          refine r_aload_n rfl dc_12_4_81 ?_
          refine r_aload_n rfl dc_12_4_82 ?_
          refine r_iconst (v := nI 0) (by decide) dc_12_4_83 ?_
          refine r_bipush (v := nI 99) (by decide) dc_12_4_84 ?_
          refine h_callv (t := (3, 0, rl [(0, 11), (4, 14)])) (as := [.int (nI 0), .int (nI 99)]) (rest := [.ref 12]) (v := .int ((rnx (cs 11) sz (nI 0) (nI 99) (eox (tF 2) 4 (cs 11) sz s)).1)) (M1 := hk M T (RS (qs cs q) ((rnx (cs 11) sz (nI 0) (nI 99) (eox (tF 2) 4 (cs 11) sz s)).2))) rfl rfl iv_3_v88 (Or.inl rfl) na_1_79 hT2 ⟨by omega, by omega⟩ (show (3 : Nat) < 14 by decide) o_79 rfl (show (1 : Nat) ≤ 8 by decide) dc_12_4_86 (mm_Ev_up (by decide : 2 ≤ 30) (k_rnx (RdH_q hH q) (eox (tF 2) 4 (cs 11) sz s) (nI 0) (nI 99))) ?_
          refine h_pint (t := (3, 0, rl [(0, 11), (4, 14)])) fx_3_40 hT2 ⟨by omega, by omega⟩ (Or.inl fn_3_7) ty_3_7 (pi_3_7 _ _ _ _) dc_12_4_89 ?_
          rw [RS_q _ _ _ _ (by decide)]
          refine r_goto (t := 147) (by decide) dc_12_4_92 ?_
          refine r_vret rfl dc_12_4_147 ?_
          have h9 : clx (cs 11) sz q s = _ := (Eq.trans (if_pos c_4) (Eq.trans (if_neg c_16) (Eq.trans (if_neg c_58) (if_pos c_78))))
          rw [h9]
      · skip
        refine r_aload_n rfl dc_12_4_61 ?_
        refine r_aload_n rfl dc_12_4_62 ?_
        refine r_iconst (v := nI 0) (by decide) dc_12_4_63 ?_
        refine r_bipush (v := nI 9) (by decide) dc_12_4_64 ?_
        refine h_callv (t := (3, 0, rl [(0, 11), (4, 14)])) (as := [.int (nI 0), .int (nI 9)]) (rest := [.ref 12]) (v := .int ((rnx (cs 11) sz (nI 0) (nI 9) (eox (tF 2) 4 (cs 11) sz s)).1)) (M1 := hk M T (RS (qs cs q) ((rnx (cs 11) sz (nI 0) (nI 9) (eox (tF 2) 4 (cs 11) sz s)).2))) rfl rfl iv_3_v88 (Or.inl rfl) na_1_79 hT2 ⟨by omega, by omega⟩ (show (3 : Nat) < 14 by decide) o_79 rfl (show (1 : Nat) ≤ 8 by decide) dc_12_4_66 (mm_Ev_up (by decide : 2 ≤ 30) (k_rnx (RdH_q hH q) (eox (tF 2) 4 (cs 11) sz s) (nI 0) (nI 9))) ?_
        refine h_pint (t := (3, 0, rl [(0, 11), (4, 14)])) fx_3_37 hT2 ⟨by omega, by omega⟩ (Or.inl fn_3_6) ty_3_6 (pi_3_6 _ _ _ _) dc_12_4_69 ?_
        rw [RS_q _ _ _ _ (by decide)]
        refine r_goto (t := 147) (by decide) dc_12_4_72 ?_
        refine r_vret rfl dc_12_4_147 ?_
        have h9 : clx (cs 11) sz q s = _ := (Eq.trans (if_pos c_4) (Eq.trans (if_neg c_16) (if_pos c_58)))
        rw [h9]
    · skip
      refine r_aload_n rfl dc_12_4_19 ?_
      refine r_iconst (v := nI 0) (by decide) dc_12_4_20 ?_
      refine h_call0 (t := (3, 0, rl [(0, 11), (4, 14)])) (as := [.int (nI 0)]) (rest := []) (M1 := hk M T (RS (qs cs q) (brx (cs 11) sz 6 s))) rfl rfl iv_3_v75 (Or.inl rfl) na_1_51 hT2 ⟨by omega, by omega⟩ (show (3 : Nat) < 14 by decide) o_51 rfl (show (0 : Nat) ≤ 8 by decide) dc_12_4_21 (mm_Ev_up (by decide : 30 ≤ 30) (k_brx (RdH_q hH q) 6 0 rfl s)) ?_
      refine r_aload_n rfl dc_12_4_24 ?_
      refine h_get (t := (3, 0, rl [(0, 11), (4, 14)])) (v := .int (q 11)) fx_3_52 hT2 ⟨by omega, by omega⟩ (rfl) dc_12_4_25 ?_
      refine r_ifle (t := 37) (by decide) dc_12_4_28 (fun c_28 => ?_) (fun c_28 => ?_)
      · skip
        refine r_aload_n rfl dc_12_4_37 ?_
        refine r_dup rfl dc_12_4_38 ?_
        refine h_get (t := (3, 0, rl [(0, 11), (4, 14)])) (v := .int (q 11)) fx_3_52 hT2 ⟨by omega, by omega⟩ (rfl) dc_12_4_39 ?_
        refine r_iconst (v := nI 1) (by decide) dc_12_4_42 ?_
        refine r_iadd (v := (q 11) + (nI 1)) (rfl) dc_12_4_43 ?_
        refine h_pint (t := (3, 0, rl [(0, 11), (4, 14)])) fx_3_52 hT2 ⟨by omega, by omega⟩ (Or.inl fn_3_11) ty_3_11 (pi_3_11 _ _ _ _) dc_12_4_44 ?_
        rw [RS_q _ _ _ _ (by decide)]
        refine r_vret rfl dc_12_4_47 ?_
        have h9 : clx (cs 11) sz q s = _ := (Eq.trans (if_pos c_4) (if_pos c_16))
        rw [h9]
        show _ = (none, hk M T (RS (qs cs (upd q 11 (q 11 + nI 1))) (if q 11 ≤ 0 then brx (cs 11) sz 6 s else ptx (brx (cs 11) sz 6 s) (-2))))
        rw [if_pos c_28]
      · skip
        refine r_aload_n rfl dc_12_4_31 ?_
        refine r_bipush (v := -2) (by decide) dc_12_4_32 ?_
        refine h_call0 (t := (3, 0, rl [(0, 11), (4, 14)])) (as := [.int ((-2))]) (rest := []) (M1 := hk M T (RS (qs cs q) (ptx (brx (cs 11) sz 6 s) ((-2))))) rfl rfl iv_3_v79 (Or.inl rfl) na_1_80 hT2 ⟨by omega, by omega⟩ (show (3 : Nat) < 14 by decide) o_80 rfl (show (0 : Nat) ≤ 8 by decide) dc_12_4_34 (mm_Ev_up (by decide : 1 ≤ 30) (k_ptx (RdH_q hH q) (brx (cs 11) sz 6 s) ((-2)))) ?_
        refine r_aload_n rfl dc_12_4_37 ?_
        refine r_dup rfl dc_12_4_38 ?_
        refine h_get (t := (3, 0, rl [(0, 11), (4, 14)])) (v := .int (q 11)) fx_3_52 hT2 ⟨by omega, by omega⟩ (rfl) dc_12_4_39 ?_
        refine r_iconst (v := nI 1) (by decide) dc_12_4_42 ?_
        refine r_iadd (v := (q 11) + (nI 1)) (rfl) dc_12_4_43 ?_
        refine h_pint (t := (3, 0, rl [(0, 11), (4, 14)])) fx_3_52 hT2 ⟨by omega, by omega⟩ (Or.inl fn_3_11) ty_3_11 (pi_3_11 _ _ _ _) dc_12_4_44 ?_
        rw [RS_q _ _ _ _ (by decide)]
        refine r_vret rfl dc_12_4_47 ?_
        have h9 : clx (cs 11) sz q s = _ := (Eq.trans (if_pos c_4) (if_pos c_16))
        rw [h9]
        show _ = (none, hk M T (RS (qs cs (upd q 11 (q 11 + nI 1))) (if q 11 ≤ 0 then brx (cs 11) sz 6 s else ptx (brx (cs 11) sz 6 s) (-2))))
        rw [if_neg c_28]
  · skip
    refine r_vret rfl dc_12_4_7 ?_
    have h9 : clx (cs 11) sz q s = _ := (if_neg c_4)
    rw [h9]
