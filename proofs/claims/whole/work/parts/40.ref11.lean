/-! the reference: borders -/
theorem dc_14_30_0 : decode prog_14_method_30_code 0 = .ok (.iload_n 0, 1) := by decide +kernel
theorem dc_14_30_1 : decode prog_14_method_30_code 1 = .ok (.ifCond .ne 8, 3) := by decide +kernel
theorem dc_14_30_4 : decode prog_14_method_30_code 4 = .ok (.bipush 100, 2) := by decide +kernel
theorem dc_14_30_6 : decode prog_14_method_30_code 6 = .ok (.goto 25, 3) := by decide +kernel
theorem dc_14_30_9 : decode prog_14_method_30_code 9 = .ok (.iload_n 0, 1) := by decide +kernel
theorem dc_14_30_10 : decode prog_14_method_30_code 10 = .ok (.iconst 1, 1) := by decide +kernel
theorem dc_14_30_11 : decode prog_14_method_30_code 11 = .ok (.if_icmp .ne 8, 3) := by decide +kernel
theorem dc_14_30_14 : decode prog_14_method_30_code 14 = .ok (.bipush 9, 2) := by decide +kernel
theorem dc_14_30_16 : decode prog_14_method_30_code 16 = .ok (.goto 15, 3) := by decide +kernel
theorem dc_14_30_19 : decode prog_14_method_30_code 19 = .ok (.iload_n 0, 1) := by decide +kernel
theorem dc_14_30_20 : decode prog_14_method_30_code 20 = .ok (.iconst 2, 1) := by decide +kernel
theorem dc_14_30_21 : decode prog_14_method_30_code 21 = .ok (.if_icmp .ne 8, 3) := by decide +kernel
theorem dc_14_30_24 : decode prog_14_method_30_code 24 = .ok (.bipush 99, 2) := by decide +kernel
theorem dc_14_30_26 : decode prog_14_method_30_code 26 = .ok (.goto 5, 3) := by decide +kernel
theorem dc_14_30_29 : decode prog_14_method_30_code 29 = .ok (.bipush 7, 2) := by decide +kernel
theorem dc_14_30_31 : decode prog_14_method_30_code 31 = .ok (.ireturn, 1) := by decide +kernel
theorem dc_14_31_0 : decode prog_14_method_31_code 0 = .ok (.iload_n 2, 1) := by decide +kernel
theorem dc_14_31_1 : decode prog_14_method_31_code 1 = .ok (.iload_n 1, 1) := by decide +kernel
theorem dc_14_31_2 : decode prog_14_method_31_code 2 = .ok (.invokestatic 303, 3) := by decide +kernel
theorem dc_14_31_5 : decode prog_14_method_31_code 5 = .ok (.if_icmp .le 4, 3) := by decide +kernel
theorem dc_14_31_8 : decode prog_14_method_31_code 8 = .ok (.return_, 1) := by decide +kernel
theorem dc_14_31_9 : decode prog_14_method_31_code 9 = .ok (.bipush 100, 2) := by decide +kernel
theorem dc_14_31_11 : decode prog_14_method_31_code 11 = .ok (.iload_n 1, 1) := by decide +kernel
theorem dc_14_31_12 : decode prog_14_method_31_code 12 = .ok (.imul, 1) := by decide +kernel
theorem dc_14_31_13 : decode prog_14_method_31_code 13 = .ok (.istore_n 3, 1) := by decide +kernel
theorem dc_14_31_14 : decode prog_14_method_31_code 14 = .ok (.iload_n 3, 1) := by decide +kernel
theorem dc_14_31_15 : decode prog_14_method_31_code 15 = .ok (.bipush 100, 2) := by decide +kernel
theorem dc_14_31_17 : decode prog_14_method_31_code 17 = .ok (.iload_n 1, 1) := by decide +kernel
theorem dc_14_31_18 : decode prog_14_method_31_code 18 = .ok (.imul, 1) := by decide +kernel
theorem dc_14_31_19 : decode prog_14_method_31_code 19 = .ok (.aload_n 0, 1) := by decide +kernel
theorem dc_14_31_20 : decode prog_14_method_31_code 20 = .ok (.getfield 105, 3) := by decide +kernel
theorem dc_14_31_23 : decode prog_14_method_31_code 23 = .ok (.iload_n 1, 1) := by decide +kernel
theorem dc_14_31_24 : decode prog_14_method_31_code 24 = .ok (.iaload, 1) := by decide +kernel
theorem dc_14_31_25 : decode prog_14_method_31_code 25 = .ok (.iadd, 1) := by decide +kernel
theorem dc_14_31_26 : decode prog_14_method_31_code 26 = .ok (.if_icmp .ge 20, 3) := by decide +kernel
theorem dc_14_31_29 : decode prog_14_method_31_code 29 = .ok (.aload_n 0, 1) := by decide +kernel
theorem dc_14_31_30 : decode prog_14_method_31_code 30 = .ok (.getfield 102, 3) := by decide +kernel
theorem dc_14_31_33 : decode prog_14_method_31_code 33 = .ok (.iload_n 3, 1) := by decide +kernel
theorem dc_14_31_34 : decode prog_14_method_31_code 34 = .ok (.iaload, 1) := by decide +kernel
theorem dc_14_31_35 : decode prog_14_method_31_code 35 = .ok (.iload_n 2, 1) := by decide +kernel
theorem dc_14_31_36 : decode prog_14_method_31_code 36 = .ok (.if_icmp .ne 4, 3) := by decide +kernel
theorem dc_14_31_39 : decode prog_14_method_31_code 39 = .ok (.return_, 1) := by decide +kernel
theorem dc_14_31_40 : decode prog_14_method_31_code 40 = .ok (.iinc 3 1, 3) := by decide +kernel
theorem dc_14_31_43 : decode prog_14_method_31_code 43 = .ok (.goto (-29), 3) := by decide +kernel
theorem dc_14_31_46 : decode prog_14_method_31_code 46 = .ok (.aload_n 0, 1) := by decide +kernel
theorem dc_14_31_47 : decode prog_14_method_31_code 47 = .ok (.getfield 102, 3) := by decide +kernel
theorem dc_14_31_50 : decode prog_14_method_31_code 50 = .ok (.bipush 100, 2) := by decide +kernel
theorem dc_14_31_52 : decode prog_14_method_31_code 52 = .ok (.iload_n 1, 1) := by decide +kernel
theorem dc_14_31_53 : decode prog_14_method_31_code 53 = .ok (.imul, 1) := by decide +kernel
theorem dc_14_31_54 : decode prog_14_method_31_code 54 = .ok (.aload_n 0, 1) := by decide +kernel
theorem dc_14_31_55 : decode prog_14_method_31_code 55 = .ok (.getfield 105, 3) := by decide +kernel
theorem dc_14_31_58 : decode prog_14_method_31_code 58 = .ok (.iload_n 1, 1) := by decide +kernel
theorem dc_14_31_59 : decode prog_14_method_31_code 59 = .ok (.iaload, 1) := by decide +kernel
theorem dc_14_31_60 : decode prog_14_method_31_code 60 = .ok (.iadd, 1) := by decide +kernel
theorem dc_14_31_61 : decode prog_14_method_31_code 61 = .ok (.iload_n 2, 1) := by decide +kernel
theorem dc_14_31_62 : decode prog_14_method_31_code 62 = .ok (.iastore, 1) := by decide +kernel
theorem dc_14_31_63 : decode prog_14_method_31_code 63 = .ok (.aload_n 0, 1) := by decide +kernel
theorem dc_14_31_64 : decode prog_14_method_31_code 64 = .ok (.getfield 105, 3) := by decide +kernel
theorem dc_14_31_67 : decode prog_14_method_31_code 67 = .ok (.iload_n 1, 1) := by decide +kernel
theorem dc_14_31_68 : decode prog_14_method_31_code 68 = .ok (.aload_n 0, 1) := by decide +kernel
theorem dc_14_31_69 : decode prog_14_method_31_code 69 = .ok (.getfield 105, 3) := by decide +kernel
theorem dc_14_31_72 : decode prog_14_method_31_code 72 = .ok (.iload_n 1, 1) := by decide +kernel
theorem dc_14_31_73 : decode prog_14_method_31_code 73 = .ok (.iaload, 1) := by decide +kernel
theorem dc_14_31_74 : decode prog_14_method_31_code 74 = .ok (.iconst 1, 1) := by decide +kernel
theorem dc_14_31_75 : decode prog_14_method_31_code 75 = .ok (.iadd, 1) := by decide +kernel
theorem dc_14_31_76 : decode prog_14_method_31_code 76 = .ok (.iastore, 1) := by decide +kernel
theorem dc_14_31_77 : decode prog_14_method_31_code 77 = .ok (.return_, 1) := by decide +kernel
theorem dc_14_32_0 : decode prog_14_method_32_code 0 = .ok (.bipush 80, 2) := by decide +kernel
theorem dc_14_32_2 : decode prog_14_method_32_code 2 = .ok (.iload_n 1, 1) := by decide +kernel
theorem dc_14_32_3 : decode prog_14_method_32_code 3 = .ok (.imul, 1) := by decide +kernel
theorem dc_14_32_4 : decode prog_14_method_32_code 4 = .ok (.istore_n 2, 1) := by decide +kernel
theorem dc_14_32_5 : decode prog_14_method_32_code 5 = .ok (.iload_n 2, 1) := by decide +kernel
theorem dc_14_32_6 : decode prog_14_method_32_code 6 = .ok (.bipush 80, 2) := by decide +kernel
theorem dc_14_32_8 : decode prog_14_method_32_code 8 = .ok (.iload_n 1, 1) := by decide +kernel
theorem dc_14_32_9 : decode prog_14_method_32_code 9 = .ok (.imul, 1) := by decide +kernel
theorem dc_14_32_10 : decode prog_14_method_32_code 10 = .ok (.aload_n 0, 1) := by decide +kernel
theorem dc_14_32_11 : decode prog_14_method_32_code 11 = .ok (.getfield 90, 3) := by decide +kernel
theorem dc_14_32_14 : decode prog_14_method_32_code 14 = .ok (.iload_n 1, 1) := by decide +kernel
theorem dc_14_32_15 : decode prog_14_method_32_code 15 = .ok (.iaload, 1) := by decide +kernel
theorem dc_14_32_16 : decode prog_14_method_32_code 16 = .ok (.iadd, 1) := by decide +kernel
theorem dc_14_32_17 : decode prog_14_method_32_code 17 = .ok (.if_icmp .ge 55, 3) := by decide +kernel
theorem dc_14_32_20 : decode prog_14_method_32_code 20 = .ok (.aload_n 0, 1) := by decide +kernel
theorem dc_14_32_21 : decode prog_14_method_32_code 21 = .ok (.getfield 87, 3) := by decide +kernel
theorem dc_14_32_24 : decode prog_14_method_32_code 24 = .ok (.iload_n 2, 1) := by decide +kernel
theorem dc_14_32_25 : decode prog_14_method_32_code 25 = .ok (.iaload, 1) := by decide +kernel
theorem dc_14_32_26 : decode prog_14_method_32_code 26 = .ok (.istore_n 3, 1) := by decide +kernel
theorem dc_14_32_27 : decode prog_14_method_32_code 27 = .ok (.iload_n 3, 1) := by decide +kernel
theorem dc_14_32_28 : decode prog_14_method_32_code 28 = .ok (.ldc 254, 2) := by decide +kernel
theorem dc_14_32_30 : decode prog_14_method_32_code 30 = .ok (.if_icmp .lt 6, 3) := by decide +kernel
theorem dc_14_32_33 : decode prog_14_method_32_code 33 = .ok (.goto 33, 3) := by decide +kernel
theorem dc_14_32_36 : decode prog_14_method_32_code 36 = .ok (.aload_n 0, 1) := by decide +kernel
theorem dc_14_32_37 : decode prog_14_method_32_code 37 = .ok (.iload_n 3, 1) := by decide +kernel
theorem dc_14_32_38 : decode prog_14_method_32_code 38 = .ok (.ldc_w 264, 3) := by decide +kernel
theorem dc_14_32_41 : decode prog_14_method_32_code 41 = .ok (.idiv, 1) := by decide +kernel
theorem dc_14_32_42 : decode prog_14_method_32_code 42 = .ok (.iload_n 3, 1) := by decide +kernel
theorem dc_14_32_43 : decode prog_14_method_32_code 43 = .ok (.sipush 10000, 3) := by decide +kernel
theorem dc_14_32_46 : decode prog_14_method_32_code 46 = .ok (.irem, 1) := by decide +kernel
theorem dc_14_32_47 : decode prog_14_method_32_code 47 = .ok (.invokevirtual 306, 3) := by decide +kernel
theorem dc_14_32_50 : decode prog_14_method_32_code 50 = .ok (.aload_n 0, 1) := by decide +kernel
theorem dc_14_32_51 : decode prog_14_method_32_code 51 = .ok (.iload_n 3, 1) := by decide +kernel
theorem dc_14_32_52 : decode prog_14_method_32_code 52 = .ok (.ldc_w 264, 3) := by decide +kernel
theorem dc_14_32_55 : decode prog_14_method_32_code 55 = .ok (.idiv, 1) := by decide +kernel
theorem dc_14_32_56 : decode prog_14_method_32_code 56 = .ok (.iload_n 3, 1) := by decide +kernel
theorem dc_14_32_57 : decode prog_14_method_32_code 57 = .ok (.sipush 10000, 3) := by decide +kernel
theorem dc_14_32_60 : decode prog_14_method_32_code 60 = .ok (.irem, 1) := by decide +kernel
theorem dc_14_32_61 : decode prog_14_method_32_code 61 = .ok (.iconst 1, 1) := by decide +kernel
theorem dc_14_32_62 : decode prog_14_method_32_code 62 = .ok (.iadd, 1) := by decide +kernel
theorem dc_14_32_63 : decode prog_14_method_32_code 63 = .ok (.invokevirtual 306, 3) := by decide +kernel
theorem dc_14_32_66 : decode prog_14_method_32_code 66 = .ok (.iinc 2 1, 3) := by decide +kernel
theorem dc_14_32_69 : decode prog_14_method_32_code 69 = .ok (.goto (-64), 3) := by decide +kernel
theorem dc_14_32_72 : decode prog_14_method_32_code 72 = .ok (.return_, 1) := by decide +kernel
theorem iv_13_s303 : mm_iv 13 (.invokestatic 303) = some (0, 217) := by decide +kernel
theorem iv_13_v306 : mm_iv 13 (.invokevirtual 306) = some (1, 216) := by decide +kernel
theorem o_216 : mm_o 216 = 13 := by decide +kernel
theorem na_0_217 : mm_nas 0 217 = 1 := by decide +kernel
theorem na_1_216 : mm_nas 1 216 = 3 := by decide +kernel
/-- the most that a letter can be -/
def mol (l : Nat) : Nat := if l = 0 then 100 else if l = 1 then 9 else if l = 2 then 99 else 7
theorem mol_le (l : Nat) : mol l ≤ 100 := by
  unfold mol
  repeat' split
  all_goals decide
/-- the borders that are put down, of the first L letters -/
def BSb (bm : Nat → Nat) (bv : Nat → Nat → Nat) (L : Nat) (b49 b50 : Nat → Int32) (B : Nat → Nat → Prop) (K : Nat) : Prop := (∀ l, l < L → b50 l = nI (bm l) ∧ bm l ≤ K) ∧ (∀ l, l < L → ∀ k, k < bm l → b49 (100 * l + k) = nI (bv l k) ∧ bv l k ≤ mol l ∧ B l (bv l k)) ∧ (∀ l, l < L → ∀ v, B l v → ∃ k, k < bm l ∧ bv l k = v)
def BS (L : Nat) (b49 b50 : Nat → Int32) (B : Nat → Nat → Prop) (K : Nat) : Prop := ∃ bm bv, BSb bm bv L b49 b50 B K
theorem BS_iff {L : Nat} {b49 b50 : Nat → Int32} {B B2 : Nat → Nat → Prop} {K K2 : Nat} (h : ∀ l v, l < L → (B l v ↔ B2 l v)) (hK : K ≤ K2) (hB : BS L b49 b50 B K) : BS L b49 b50 B2 K2 := by
  obtain ⟨bm, bv, h1, h2, h3⟩ := hB
  exact ⟨bm, bv, fun l hl => ⟨(h1 l hl).1, Nat.le_trans (h1 l hl).2 hK⟩, fun l hl k hk => ⟨(h2 l hl k hk).1, (h2 l hl k hk).2.1, (h l _ hl).mp (h2 l hl k hk).2.2⟩, fun l hl v hv => h3 l hl v ((h l v hl).mpr hv)⟩
theorem BS_new {L : Nat} {b49 b50 : Nat → Int32} {B : Nat → Nat → Prop} {K : Nat} (h : ∀ v, ¬ B L v) (hB : BS L b49 b50 B K) : BS (L + 1) b49 (upd b50 L (nI 0)) B K := by
  obtain ⟨bm, bv, h1, h2, h3⟩ := hB
  refine ⟨fun l => if l = L then 0 else bm l, bv, fun l hl => ?_, fun l hl k hk => ?_, fun l hl v hv => ?_⟩
  · by_cases q : l = L
    · subst q
      exact ⟨(if_pos rfl).trans (congrArg nI (if_pos rfl).symm), by dsimp only; rw [if_pos rfl]; exact Nat.zero_le _⟩
    · exact ⟨(if_neg q).trans ((h1 l (by omega)).1.trans (congrArg nI (if_neg q).symm)), by dsimp only; rw [if_neg q]; exact (h1 l (by omega)).2⟩
  · by_cases q : l = L
    · dsimp only at hk
      rw [if_pos q] at hk
      exact absurd hk (Nat.not_lt_zero k)
    · dsimp only at hk
      rw [if_neg q] at hk
      exact h2 l (by omega) k hk
  · by_cases q : l = L
    · subst q
      exact absurd hv (h v)
    · obtain ⟨k, hk, e⟩ := h3 l (by omega) v hv
      exact ⟨k, by dsimp only; rw [if_neg q]; exact hk, e⟩
theorem BS_add {bm : Nat → Nat} {bv : Nat → Nat → Nat} {L : Nat} {b49 b50 : Nat → Int32} {B : Nat → Nat → Prop} {K l v : Nat} (hB : BSb bm bv L b49 b50 B K) (hL : L ≤ 4) (hl : l < L) (hv : v ≤ mol l) (hK : K < 100) : BS L (upd b49 (100 * l + bm l) (nI v)) (upd b50 l (nI (bm l + 1))) (fun a u => B a u ∨ a = l ∧ u = v ∧ v ≤ mol l) (K + 1) := by
  obtain ⟨h1, h2, h3⟩ := hB
  refine ⟨fun a => if a = l then bm l + 1 else bm a, fun a k => if a = l ∧ k = bm l then v else bv a k, fun a ha => ?_, fun a ha k hk => ?_, fun a ha u hu => ?_⟩
  · have := h1 a ha
    by_cases q : a = l
    · subst q
      exact ⟨(if_pos rfl).trans (congrArg nI (if_pos rfl).symm), by dsimp only; rw [if_pos rfl]; omega⟩
    · exact ⟨(if_neg q).trans ((h1 a ha).1.trans (congrArg nI (if_neg q).symm)), by dsimp only; rw [if_neg q]; omega⟩
  · have hb := (h1 a ha).2
    have hb2 := (h1 l hl).2
    dsimp only at hk ⊢
    by_cases q : a = l ∧ k = bm l
    · rw [if_pos q]
      obtain ⟨q1, q2⟩ := q
      subst q1
      subst q2
      exact ⟨if_pos rfl, hv, Or.inr ⟨rfl, rfl, hv⟩⟩
    · rw [if_neg q]
      have hk2 : k < bm a := by
        by_cases q2 : a = l
        · rw [if_pos q2] at hk
          subst q2
          have : ¬ k = bm a := fun z => q ⟨rfl, z⟩
          omega
        · rw [if_neg q2] at hk
          exact hk
      obtain ⟨e1, e2, e3⟩ := h2 a ha k hk2
      refine ⟨(if_neg (fun z => ?_)).trans e1, e2, Or.inl e3⟩
      by_cases q2 : a = l
      · subst q2
        omega
      · omega
  · rcases hu with hu | ⟨q1, q2, q3⟩
    · obtain ⟨k, hk, e⟩ := h3 a ha u hu
      refine ⟨k, ?_, ?_⟩
      · dsimp only
        split
        · rename_i q
          subst q
          omega
        · exact hk
      · dsimp only
        rw [if_neg (fun z => by obtain ⟨z1, z2⟩ := z; subst z1; omega)]
        exact e
    · subst q1
      subst q2
      exact ⟨bm a, by dsimp only; rw [if_pos rfl]; exact Nat.lt_succ_self _, if_pos ⟨rfl, rfl⟩⟩
set_option maxHeartbeats 4000000 in
theorem c_most (N : mH) (l : Nat) (hl : l < 4) : mm_Ev 1 217 [.int (nI l)] (N) ((some (.int (nI (mol l))), N)) := by
  refine r_ev (by decide +kernel) (show (1 : Nat) ≤ mm_nL 217 by decide +kernel) ?_
  show mm_Ru 0 (13, 1, false, prog_14_method_30_code, some .int) 0 [(0, .int (nI l))] [] (N) (fun r9 => r9 = ((some (.int (nI (mol l))), N)))
  refine r_iload_n rfl dc_14_30_0 ?_
  refine r_nzne (t := 9) (by omega) (by decide) dc_14_30_1 (fun c_1 => ?_) (fun c_1 => ?_)
  · skip
    refine r_iload_n rfl dc_14_30_9 ?_
    refine r_iconst (v := nI 1) (by decide) dc_14_30_10 ?_
    refine r_ncne (t := 19) (by omega) (by omega) (by decide) dc_14_30_11 (fun c_11 => ?_) (fun c_11 => ?_)
    · skip
      refine r_iload_n rfl dc_14_30_19 ?_
      refine r_iconst (v := nI 2) (by decide) dc_14_30_20 ?_
      refine r_ncne (t := 29) (by omega) (by omega) (by decide) dc_14_30_21 (fun c_21 => ?_) (fun c_21 => ?_)
      · skip
        refine r_bipush (v := nI 7) (by decide) dc_14_30_29 ?_
        refine r_iret rfl dc_14_30_31 ?_
        unfold mol
        rw [if_neg c_1, if_neg c_11, if_neg c_21]
      · skip
        refine r_bipush (v := nI 99) (by decide) dc_14_30_24 ?_
        refine r_goto (t := 31) (by decide) dc_14_30_26 ?_
        refine r_iret rfl dc_14_30_31 ?_
        unfold mol
        rw [if_neg c_1, if_neg c_11, if_pos c_21]
    · skip
      refine r_bipush (v := nI 9) (by decide) dc_14_30_14 ?_
      refine r_goto (t := 31) (by decide) dc_14_30_16 ?_
      refine r_iret rfl dc_14_30_31 ?_
      unfold mol
      rw [if_neg c_1, if_pos c_11]
  · skip
    refine r_bipush (v := nI 100) (by decide) dc_14_30_4 ?_
    refine r_goto (t := 31) (by decide) dc_14_30_6 ?_
    refine r_iret rfl dc_14_30_31 ?_
    unfold mol
    rw [if_pos c_1]
set_option maxHeartbeats 4000000 in
theorem c_marks_ (M : mH) (hM : 157 ≤ M.1) (io : Nat → Int32) (sg : Nat → Nat → Int32) (bm : Nat → Nat) (bv : Nat → Nat → Nat) (L : Nat) (b49 b50 : Nat → Int32) (B : Nat → Nat → Prop) (K l v : Nat) (hB : BSb bm bv L b49 b50 B K) (hL : L ≤ 4) (hl : l < L) (hK : K < 100) (hv : v ≤ 10000) : ∃ (c49 : Nat → Int32), ∃ (c50 : Nat → Int32), (BS L c49 c50 (fun a u => B a u ∨ a = l ∧ u = v ∧ v ≤ mol l) (K + 1)) ∧ mm_Ev 2 216 [.ref 100, .int (nI l), .int (nI v)] (rf_mk M io (va_up (va_up sg 49 b49) 50 b50)) ((none, rf_mk M io (va_up (va_up sg 49 c49) 50 c50))) := by
  have hq9 : ∃ z, (fun r9 => ∃ (c49 : Nat → Int32), ∃ (c50 : Nat → Int32), (BS L c49 c50 (fun a u => B a u ∨ a = l ∧ u = v ∧ v ≤ mol l) (K + 1)) ∧ r9 = ((none, rf_mk M io (va_up (va_up sg 49 c49) 50 c50)))) z ∧ mm_Ev 2 216 [.ref 100, .int (nI l), .int (nI v)] (rf_mk M io (va_up (va_up sg 49 b49) 50 b50)) z := by
    refine r_evQ (by decide +kernel) (show (3 : Nat) ≤ mm_nL 216 by decide +kernel) ?_
    have hK9 := (hB.1 l hl).2
    have hm9 := mol_le l
    show mm_Ru 1 (13, 4, false, prog_14_method_31_code, none) 0 [(0, .ref 100), (1, .int (nI l)), (2, .int (nI v))] [] (rf_mk M io (va_up (va_up sg 49 b49) 50 b50)) (fun r9 => ∃ (c49 : Nat → Int32), ∃ (c50 : Nat → Int32), (BS L c49 c50 (fun a u => B a u ∨ a = l ∧ u = v ∧ v ≤ mol l) (K + 1)) ∧ r9 = ((none, rf_mk M io (va_up (va_up sg 49 c49) 50 c50))))
    refine r_iload_n rfl dc_14_31_0 ?_
    refine r_iload_n rfl dc_14_31_1 ?_
    refine q_calls (as := [.int (nI l)]) (rest := [.int (nI v)]) (v := .int (nI (mol l))) iv_13_s303 na_0_217 rfl (show (1 : Nat) ≤ 8 by decide) dc_14_31_2 (c_most _ l (by omega)) ?_
    refine r_ncle (t := 9) (by omega) (by omega) (by decide) dc_14_31_5 (fun c_5 => ?_) (fun c_5 => ?_)
    · skip
      refine r_bipush (v := nI 100) (by decide) dc_14_31_9 ?_
      refine r_iload_n rfl dc_14_31_11 ?_
      refine r_imul (v := nI (100 * l)) (pk_mul _ _) dc_14_31_12 ?_
      refine r_istore_n (ls' := [(3, .int (nI (100 * l))), (0, .ref 100), (1, .int (nI l)), (2, .int (nI v))]) (by decide) rfl dc_14_31_13 ?_
      refine mm_cnt (P := fun m => (∀ j, j < m → ¬ b49 (100 * l + j) = nI v) → mm_Ru 1 (13, 4, false, prog_14_method_31_code, none) 14 [(3, .int (nI (100 * l + m))), (0, .ref 100), (1, .int (nI l)), (2, .int (nI v))] [] (rf_mk M io (va_up (va_up sg 49 b49) 50 b50)) (fun r9 => ∃ (c49 : Nat → Int32), ∃ (c50 : Nat → Int32), (BS L c49 c50 (fun a u => B a u ∨ a = l ∧ u = v ∧ v ≤ mol l) (K + 1)) ∧ r9 = ((none, rf_mk M io (va_up (va_up sg 49 c49) 50 c50))))) (bm l) ?_ ?_ 0 (by omega) (fun j hj => absurd hj (Nat.not_lt_zero j))
      · intro  hi_m
        show mm_Ru 1 (13, 4, false, prog_14_method_31_code, none) 14 [(3, .int (nI (100 * l + bm l))), (0, .ref 100), (1, .int (nI l)), (2, .int (nI v))] [] (rf_mk M io (va_up (va_up sg 49 b49) 50 b50)) (fun r9 => ∃ (c49 : Nat → Int32), ∃ (c50 : Nat → Int32), (BS L c49 c50 (fun a u => B a u ∨ a = l ∧ u = v ∧ v ≤ mol l) (K + 1)) ∧ r9 = ((none, rf_mk M io (va_up (va_up sg 49 c49) 50 c50))))
        refine r_iload_n rfl dc_14_31_14 ?_
        refine r_bipush (v := nI 100) (by decide) dc_14_31_15 ?_
        refine r_iload_n rfl dc_14_31_17 ?_
        refine r_imul (v := nI (100 * l)) (pk_mul _ _) dc_14_31_18 ?_
        refine r_aload_n rfl dc_14_31_19 ?_
        refine q_get (v := .ref 132) rx_105 hM rfl dc_14_31_20 ?_
        refine r_iload_n rfl dc_14_31_23 ?_
        refine q_ild (e := l) (v := nI (bm l)) (by decide) (by decide) hM rfl (show l < 4 by omega) (by omega) ((hB.1 l hl).1) dc_14_31_24 ?_
        refine r_iadd (v := nI (100 * l + (bm l))) (nI_add _ _) dc_14_31_25 ?_
        refine r_ncge (t := 46) (by omega) (by omega) (by decide) dc_14_31_26 (fun c_26 => ?_) (fun c_26 => ?_)
        · skip
          refine r_aload_n rfl dc_14_31_46 ?_
          refine q_get (v := .ref 131) rx_102 hM rfl dc_14_31_47 ?_
          refine r_bipush (v := nI 100) (by decide) dc_14_31_50 ?_
          refine r_iload_n rfl dc_14_31_52 ?_
          refine r_imul (v := nI (100 * l)) (pk_mul _ _) dc_14_31_53 ?_
          refine r_aload_n rfl dc_14_31_54 ?_
          refine q_get (v := .ref 132) rx_105 hM rfl dc_14_31_55 ?_
          refine r_iload_n rfl dc_14_31_58 ?_
          refine q_ild (e := l) (v := nI (bm l)) (by decide) (by decide) hM rfl (show l < 4 by omega) (by omega) ((hB.1 l hl).1) dc_14_31_59 ?_
          refine r_iadd (v := nI (100 * l + (bm l))) (nI_add _ _) dc_14_31_60 ?_
          refine r_iload_n rfl dc_14_31_61 ?_
          refine q_ist (e := 100 * l + (bm l)) (k := 49) (by decide) (by decide) hM rfl rfl (show 100 * l + (bm l) < 400 by omega) (by omega) dc_14_31_62 ?_
          refine r_aload_n rfl dc_14_31_63 ?_
          refine q_get (v := .ref 132) rx_105 hM rfl dc_14_31_64 ?_
          refine r_iload_n rfl dc_14_31_67 ?_
          refine r_aload_n rfl dc_14_31_68 ?_
          refine q_get (v := .ref 132) rx_105 hM rfl dc_14_31_69 ?_
          refine r_iload_n rfl dc_14_31_72 ?_
          refine q_ild (e := l) (v := nI (bm l)) (by decide) (by decide) hM rfl (show l < 4 by omega) (by omega) ((hB.1 l hl).1) dc_14_31_73 ?_
          refine r_iconst (v := nI 1) (by decide) dc_14_31_74 ?_
          refine r_iadd (v := nI (bm l + 1)) (nI_add _ _) dc_14_31_75 ?_
          refine q_ist (e := l) (k := 50) (by decide) (by decide) hM rfl rfl (show l < 4 by omega) (by omega) dc_14_31_76 ?_
          refine r_vret rfl dc_14_31_77 ?_
          rw [va_up4 sg (by decide : ¬ 49 = 50)]
          exact ⟨_, _, BS_add hB hL hl c_5 hK, rfl⟩
        · omega
      · intro m h_m ih_m  hi_m
        show mm_Ru 1 (13, 4, false, prog_14_method_31_code, none) 14 [(3, .int (nI (100 * l + m))), (0, .ref 100), (1, .int (nI l)), (2, .int (nI v))] [] (rf_mk M io (va_up (va_up sg 49 b49) 50 b50)) (fun r9 => ∃ (c49 : Nat → Int32), ∃ (c50 : Nat → Int32), (BS L c49 c50 (fun a u => B a u ∨ a = l ∧ u = v ∧ v ≤ mol l) (K + 1)) ∧ r9 = ((none, rf_mk M io (va_up (va_up sg 49 c49) 50 c50))))
        refine r_iload_n rfl dc_14_31_14 ?_
        refine r_bipush (v := nI 100) (by decide) dc_14_31_15 ?_
        refine r_iload_n rfl dc_14_31_17 ?_
        refine r_imul (v := nI (100 * l)) (pk_mul _ _) dc_14_31_18 ?_
        refine r_aload_n rfl dc_14_31_19 ?_
        refine q_get (v := .ref 132) rx_105 hM rfl dc_14_31_20 ?_
        refine r_iload_n rfl dc_14_31_23 ?_
        refine q_ild (e := l) (v := nI (bm l)) (by decide) (by decide) hM rfl (show l < 4 by omega) (by omega) ((hB.1 l hl).1) dc_14_31_24 ?_
        refine r_iadd (v := nI (100 * l + (bm l))) (nI_add _ _) dc_14_31_25 ?_
        refine r_ncge (t := 46) (by omega) (by omega) (by decide) dc_14_31_26 (fun c_26 => ?_) (fun c_26 => ?_)
        · omega
        · skip
          refine r_aload_n rfl dc_14_31_29 ?_
          refine q_get (v := .ref 131) rx_102 hM rfl dc_14_31_30 ?_
          refine r_iload_n rfl dc_14_31_33 ?_
          refine q_ild (e := 100 * l + m) (v := b49 (100 * l + m)) (by decide) (by decide) hM rfl (show 100 * l + m < 400 by omega) (by omega) (rfl) dc_14_31_34 ?_
          refine r_iload_n rfl dc_14_31_35 ?_
          refine r_icne (t := 40) (by decide) dc_14_31_36 (fun c_36 => ?_) (fun c_36 => ?_)
          · skip
            refine r_iinc (x := nI (100 * l + m)) (v := nI (100 * l + m + 1)) (ls' := [(3, .int (nI (100 * l + m + 1))), (0, .ref 100), (1, .int (nI l)), (2, .int (nI v))]) rfl (nI_1 _) (by decide) rfl dc_14_31_40 ?_
            refine r_goto (t := 14) (by decide) dc_14_31_43 ?_
            exact ih_m (fun j hj => if q : j = m then q ▸ c_36 else hi_m j (by omega))
          · skip
            refine r_vret rfl dc_14_31_39 ?_
            refine ⟨b49, b50, BS_iff (fun a u _ => ⟨Or.inl, fun z => z.elim id (fun z => ?_)⟩) (Nat.le_succ _) ⟨bm, bv, hB⟩, rfl⟩
            obtain ⟨z1, z2, z3⟩ := z
            subst z1
            subst z2
            have e9 := hB.2.1 a hl m h_m
            have e8 := mol_le a
            have e7 : bv a m = u := (nI_eq (by omega) (by omega)).mp (e9.1.symm.trans c_36)
            rw [← e7]
            exact e9.2.2
    · skip
      refine r_vret rfl dc_14_31_8 ?_
      exact ⟨b49, b50, BS_iff (fun a u _ => ⟨Or.inl, fun z => z.elim id (fun z => by omega)⟩) (Nat.le_succ _) ⟨bm, bv, hB⟩, rfl⟩
  obtain ⟨z9, ⟨c49, c50, p9, e9⟩, h9⟩ := hq9
  subst e9
  exact ⟨c49, c50, p9, h9⟩
theorem c_marks (M : mH) (hM : 157 ≤ M.1) (io : Nat → Int32) (sg : Nat → Nat → Int32) {L : Nat} {b49 b50 : Nat → Int32} {B : Nat → Nat → Prop} {K : Nat} (l v : Nat) (hB : BS L b49 b50 B K) (hL : L ≤ 4) (hl : l < L) (hK : K < 100) (hv : v ≤ 10000) : ∃ c49 c50, BS L c49 c50 (fun a u => B a u ∨ a = l ∧ u = v ∧ v ≤ mol l) (K + 1) ∧ mm_Ev 2 216 [.ref 100, .int (nI l), .int (nI v)] (rf_mk M io (va_up (va_up sg 49 b49) 50 b50)) (none, rf_mk M io (va_up (va_up sg 49 c49) 50 c50)) := by
  obtain ⟨bm, bv, hB⟩ := hB
  exact c_marks_ M hM io sg bm bv L b49 b50 B K l v hB hL hl hK hv
/-- a border of the first m codes -/
def bo (w : Nat → Nat) (m l v : Nat) : Prop := ∃ k, k < m ∧ w k < 1000000 ∧ w k / 100000 = l ∧ (v = w k % 10000 ∨ v = w k % 10000 + 1) ∧ v ≤ mol l
/-- how many compares -/
def nc (w : Nat → Nat) : Nat → Nat
  | 0 => 0
  | m + 1 => if w m < 1000000 then nc w m + 1 else nc w m
theorem nc_mono (w : Nat → Nat) : ∀ {m n : Nat}, m ≤ n → nc w m ≤ nc w n
  | m, 0, h => by rw [Nat.le_zero.mp h]; exact Nat.le_refl _
  | m, n + 1, h => by
    by_cases q : m = n + 1
    · rw [q]; exact Nat.le_refl _
    · have e := nc_mono w (show m ≤ n by omega)
      show nc w m ≤ if w n < 1000000 then nc w n + 1 else nc w n
      split
      · omega
      · exact e
theorem bo_S {w : Nat → Nat} {m : Nat} (h : ¬ w m < 1000000) (l v : Nat) : bo w (m + 1) l v ↔ bo w m l v := by
  constructor
  · rintro ⟨k, hk, q1, q2⟩
    refine ⟨k, ?_, q1, q2⟩
    by_cases e : k = m
    · subst e; exact absurd q1 h
    · omega
  · rintro ⟨k, hk, q⟩
    exact ⟨k, by omega, q⟩
theorem bo_T {w : Nat → Nat} {m : Nat} (h : w m < 1000000) (l v : Nat) : bo w (m + 1) l v ↔ (bo w m l v ∨ l = w m / 100000 ∧ v = w m % 10000 ∧ w m % 10000 ≤ mol (w m / 100000)) ∨ l = w m / 100000 ∧ v = w m % 10000 + 1 ∧ w m % 10000 + 1 ≤ mol (w m / 100000) := by
  constructor
  · rintro ⟨k, hk, q1, q2, q3, q4⟩
    by_cases e : k = m
    · subst e
      subst q2
      rcases q3 with q3 | q3
      · exact Or.inl (Or.inr ⟨rfl, q3, q3 ▸ q4⟩)
      · exact Or.inr ⟨rfl, q3, q3 ▸ q4⟩
    · exact Or.inl (Or.inl ⟨k, by omega, q1, q2, q3, q4⟩)
  · rintro ((⟨k, hk, q⟩ | ⟨q1, q2, q3⟩) | ⟨q1, q2, q3⟩)
    · exact ⟨k, by omega, q⟩
    · exact ⟨m, by omega, h, q1.symm, Or.inl q2, by rw [q1, q2]; exact q3⟩
    · exact ⟨m, by omega, h, q1.symm, Or.inr q2, by rw [q1, q2]; exact q3⟩
set_option maxHeartbeats 4000000 in
theorem c_bordersOf (M : mH) (hM : 157 ≤ M.1) (io : Nat → Int32) (sg : Nat → Nat → Int32) (x cm : Nat) (w : Nat → Nat) (hx : x < 12) (hcm : sg 36 x = nI cm) (hc60 : cm ≤ 79) (hw : ∀ k, k < cm → sg 35 (80 * x + k) = nI (w k)) (hw9 : ∀ k, k < cm → w k < 400000 ∨ 1000000 ≤ w k ∧ w k ≤ 1000002) (b49 b50 : Nat → Int32) (B : Nat → Nat → Prop) (K : Nat) (hB : BS 4 b49 b50 B K) (hK : K + 2 * nc w cm ≤ 100) : ∃ (c49 : Nat → Int32), ∃ (c50 : Nat → Int32), (BS 4 c49 c50 (fun l v => B l v ∨ bo w cm l v) (K + 2 * nc w cm)) ∧ mm_Ev 3 218 [.ref 100, .int (nI x)] (rf_mk M io (va_up (va_up sg 49 b49) 50 b50)) ((none, rf_mk M io (va_up (va_up sg 49 c49) 50 c50))) := by
  have hq9 : ∃ z, (fun r9 => ∃ (c49 : Nat → Int32), ∃ (c50 : Nat → Int32), (BS 4 c49 c50 (fun l v => B l v ∨ bo w cm l v) (K + 2 * nc w cm)) ∧ r9 = ((none, rf_mk M io (va_up (va_up sg 49 c49) 50 c50)))) z ∧ mm_Ev 3 218 [.ref 100, .int (nI x)] (rf_mk M io (va_up (va_up sg 49 b49) 50 b50)) z := by
    refine r_evQ (by decide +kernel) (show (2 : Nat) ≤ mm_nL 218 by decide +kernel) ?_
    show mm_Ru 2 (13, 4, false, prog_14_method_32_code, none) 0 [(0, .ref 100), (1, .int (nI x))] [] (rf_mk M io (va_up (va_up sg 49 b49) 50 b50)) (fun r9 => ∃ (c49 : Nat → Int32), ∃ (c50 : Nat → Int32), (BS 4 c49 c50 (fun l v => B l v ∨ bo w cm l v) (K + 2 * nc w cm)) ∧ r9 = ((none, rf_mk M io (va_up (va_up sg 49 c49) 50 c50))))
    refine r_bipush (v := nI 80) (by decide) dc_14_32_0 ?_
    refine r_iload_n rfl dc_14_32_2 ?_
    refine r_imul (v := nI (80 * x)) (pk_mul _ _) dc_14_32_3 ?_
    refine r_istore_n (ls' := [(2, .int (nI (80 * x))), (0, .ref 100), (1, .int (nI x))]) (by decide) rfl dc_14_32_4 ?_
    refine mm_cnt (P := fun m => ∀ (b4 : Nat → Int32), ∀ (b5 : Nat → Int32), (BS 4 b4 b5 (fun l v => B l v ∨ bo w m l v) (K + 2 * nc w m)) → mm_Ru 2 (13, 4, false, prog_14_method_32_code, none) 5 [(2, .int (nI (80 * x + m))), (0, .ref 100), (1, .int (nI x))] [] (rf_mk M io (va_up (va_up sg 49 b4) 50 b5)) (fun r9 => ∃ (c49 : Nat → Int32), ∃ (c50 : Nat → Int32), (BS 4 c49 c50 (fun l v => B l v ∨ bo w cm l v) (K + 2 * nc w cm)) ∧ r9 = ((none, rf_mk M io (va_up (va_up sg 49 c49) 50 c50))))) cm ?_ ?_ 0 (by omega) b49 b50 (BS_iff (fun l v _ => ⟨Or.inl, fun z => z.elim id (fun z => z.elim (fun k q => absurd q.1 (Nat.not_lt_zero k)))⟩) (Nat.le_add_right _ _) hB)
    · intro b4 b5 hi_m
      show mm_Ru 2 (13, 4, false, prog_14_method_32_code, none) 5 [(2, .int (nI (80 * x + cm))), (0, .ref 100), (1, .int (nI x))] [] (rf_mk M io (va_up (va_up sg 49 b4) 50 b5)) (fun r9 => ∃ (c49 : Nat → Int32), ∃ (c50 : Nat → Int32), (BS 4 c49 c50 (fun l v => B l v ∨ bo w cm l v) (K + 2 * nc w cm)) ∧ r9 = ((none, rf_mk M io (va_up (va_up sg 49 c49) 50 c50))))
      refine r_iload_n rfl dc_14_32_5 ?_
      refine r_bipush (v := nI 80) (by decide) dc_14_32_6 ?_
      refine r_iload_n rfl dc_14_32_8 ?_
      refine r_imul (v := nI (80 * x)) (pk_mul _ _) dc_14_32_9 ?_
      refine r_aload_n rfl dc_14_32_10 ?_
      refine q_get (v := .ref 127) rx_90 hM rfl dc_14_32_11 ?_
      refine r_iload_n rfl dc_14_32_14 ?_
      refine q_ild (e := x) (v := nI cm) (by decide) (by decide) hM rfl (show x < 12 by omega) (by omega) (hcm) dc_14_32_15 ?_
      refine r_iadd (v := nI (80 * x + cm)) (nI_add _ _) dc_14_32_16 ?_
      refine r_ncge (t := 72) (by omega) (by omega) (by decide) dc_14_32_17 (fun c_17 => ?_) (fun c_17 => ?_)
      · skip
        refine r_vret rfl dc_14_32_72 ?_
        exact ⟨b4, b5, hi_m, rfl⟩
      · omega
    · intro m h_m ih_m b4 b5 hi_m
      have h6 := hw9 m h_m
      show mm_Ru 2 (13, 4, false, prog_14_method_32_code, none) 5 [(2, .int (nI (80 * x + m))), (0, .ref 100), (1, .int (nI x))] [] (rf_mk M io (va_up (va_up sg 49 b4) 50 b5)) (fun r9 => ∃ (c49 : Nat → Int32), ∃ (c50 : Nat → Int32), (BS 4 c49 c50 (fun l v => B l v ∨ bo w cm l v) (K + 2 * nc w cm)) ∧ r9 = ((none, rf_mk M io (va_up (va_up sg 49 c49) 50 c50))))
      refine r_iload_n rfl dc_14_32_5 ?_
      refine r_bipush (v := nI 80) (by decide) dc_14_32_6 ?_
      refine r_iload_n rfl dc_14_32_8 ?_
      refine r_imul (v := nI (80 * x)) (pk_mul _ _) dc_14_32_9 ?_
      refine r_aload_n rfl dc_14_32_10 ?_
      refine q_get (v := .ref 127) rx_90 hM rfl dc_14_32_11 ?_
      refine r_iload_n rfl dc_14_32_14 ?_
      refine q_ild (e := x) (v := nI cm) (by decide) (by decide) hM rfl (show x < 12 by omega) (by omega) (hcm) dc_14_32_15 ?_
      refine r_iadd (v := nI (80 * x + cm)) (nI_add _ _) dc_14_32_16 ?_
      refine r_ncge (t := 72) (by omega) (by omega) (by decide) dc_14_32_17 (fun c_17 => ?_) (fun c_17 => ?_)
      · omega
      · skip
        refine r_aload_n rfl dc_14_32_20 ?_
        refine q_get (v := .ref 126) rx_87 hM rfl dc_14_32_21 ?_
        refine r_iload_n rfl dc_14_32_24 ?_
        refine q_ild (e := 80 * x + m) (v := nI (w m)) (by decide) (by decide) hM rfl (show 80 * x + m < 960 by omega) (by omega) (hw m h_m) dc_14_32_25 ?_
        refine r_istore_n (ls' := [(3, .int (nI (w m))), (2, .int (nI (80 * x + m))), (0, .ref 100), (1, .int (nI x))]) (by decide) rfl dc_14_32_26 ?_
        refine r_iload_n rfl dc_14_32_27 ?_
        refine r_ldc (v := nI 1000000) nr_13_254 dc_14_32_28 ?_
        refine r_nclt (t := 36) (by omega) (by omega) (by decide) dc_14_32_30 (fun c_30 => ?_) (fun c_30 => ?_)
        · have hlt : w m < 1000000 := c_30
          have hnc : nc w (m + 1) = nc w m + 1 := if_pos hlt
          have hnm := nc_mono w (show m + 1 ≤ cm by omega)
          refine r_aload_n rfl dc_14_32_36 ?_
          refine r_iload_n rfl dc_14_32_37 ?_
          refine r_ldc_w (v := nI 100000) nr_13_264 dc_14_32_38 ?_
          refine r_idiv (v := nI (w m / 100000)) (by decide) (pk_div (by omega) (by decide) (by decide)) dc_14_32_41 ?_
          refine r_iload_n rfl dc_14_32_42 ?_
          refine r_sipush (v := nI 10000) (by decide) dc_14_32_43 ?_
          refine r_irem (v := nI (w m % 10000)) (by decide) (rm_n (by omega) (by decide) (by decide)) dc_14_32_46 ?_
          obtain ⟨c1, d1, hb1, hm1⟩ := c_marks M hM io sg (w m / 100000) (w m % 10000) hi_m (by decide) (by omega) (by omega) (by omega)
          refine q_callv (as := [.int (nI (w m / 100000)), .int (nI (w m % 10000))]) (rest := []) (M1 := rf_mk M io (va_up (va_up sg 49 c1) 50 d1)) iv_13_v306 na_1_216 o_216 hM rfl (show (0 : Nat) ≤ 8 by decide) dc_14_32_47 (hm1) ?_
          refine r_aload_n rfl dc_14_32_50 ?_
          refine r_iload_n rfl dc_14_32_51 ?_
          refine r_ldc_w (v := nI 100000) nr_13_264 dc_14_32_52 ?_
          refine r_idiv (v := nI (w m / 100000)) (by decide) (pk_div (by omega) (by decide) (by decide)) dc_14_32_55 ?_
          refine r_iload_n rfl dc_14_32_56 ?_
          refine r_sipush (v := nI 10000) (by decide) dc_14_32_57 ?_
          refine r_irem (v := nI (w m % 10000)) (by decide) (rm_n (by omega) (by decide) (by decide)) dc_14_32_60 ?_
          refine r_iconst (v := nI 1) (by decide) dc_14_32_61 ?_
          refine r_iadd (v := nI (w m % 10000 + 1)) (nI_add _ _) dc_14_32_62 ?_
          obtain ⟨c2, d2, hb2, hm2⟩ := c_marks M hM io sg (w m / 100000) (w m % 10000 + 1) hb1 (by decide) (by omega) (by omega) (by omega)
          refine q_callv (as := [.int (nI (w m / 100000)), .int (nI (w m % 10000 + 1))]) (rest := []) (M1 := rf_mk M io (va_up (va_up sg 49 c2) 50 d2)) iv_13_v306 na_1_216 o_216 hM rfl (show (0 : Nat) ≤ 8 by decide) dc_14_32_63 (hm2) ?_
          refine r_iinc (x := nI (80 * x + m)) (v := nI (80 * x + m + 1)) (ls' := [(2, .int (nI (80 * x + m + 1))), (3, .int (nI (w m))), (0, .ref 100), (1, .int (nI x))]) rfl (nI_1 _) (by decide) rfl dc_14_32_66 ?_
          refine r_goto (t := 5) (by decide) dc_14_32_69 ?_
          refine r_ls [(2, .int (nI (80 * x + m + 1))), (0, .ref 100), (1, .int (nI x))] (mm_ndk_of [2, 0, 1] rfl (by decide)) (mm_sub_cons rfl (mm_sub_cons rfl (mm_sub_cons rfl (mm_sub_nil _)))) ?_
          exact ih_m c2 d2 (BS_iff (fun l v _ => by rw [bo_T hlt, ← or_assoc, ← or_assoc]) (by omega) hb2)
        · have hnlt : ¬ w m < 1000000 := by omega
          have hnc : nc w (m + 1) = nc w m := if_neg hnlt
          refine r_goto (t := 66) (by decide) dc_14_32_33 ?_
          refine r_iinc (x := nI (80 * x + m)) (v := nI (80 * x + m + 1)) (ls' := [(2, .int (nI (80 * x + m + 1))), (3, .int (nI (w m))), (0, .ref 100), (1, .int (nI x))]) rfl (nI_1 _) (by decide) rfl dc_14_32_66 ?_
          refine r_goto (t := 5) (by decide) dc_14_32_69 ?_
          refine r_ls [(2, .int (nI (80 * x + m + 1))), (0, .ref 100), (1, .int (nI x))] (mm_ndk_of [2, 0, 1] rfl (by decide)) (mm_sub_cons rfl (mm_sub_cons rfl (mm_sub_cons rfl (mm_sub_nil _)))) ?_
          exact ih_m b4 b5 (BS_iff (fun l v _ => by rw [bo_S hnlt]) (by omega) hi_m)
  obtain ⟨z9, ⟨c49, c50, p9, e9⟩, h9⟩ := hq9
  subst e9
  exact ⟨c49, c50, p9, h9⟩
