/-! calls of the law: land, had, beds, level, wish, out, fact -/
theorem dc_1_12_0 : decode prog_1_method_12_code 0 = .ok (.aload_n 0, 1) := by decide +kernel
theorem dc_1_12_1 : decode prog_1_method_12_code 1 = .ok (.iload_n 1, 1) := by decide +kernel
theorem dc_1_12_2 : decode prog_1_method_12_code 2 = .ok (.invokevirtual 180, 3) := by decide +kernel
theorem dc_1_12_5 : decode prog_1_method_12_code 5 = .ok (.astore 4, 2) := by decide +kernel
theorem dc_1_12_7 : decode prog_1_method_12_code 7 = .ok (.aload 4, 2) := by decide +kernel
theorem dc_1_12_9 : decode prog_1_method_12_code 9 = .ok (.ifnull 22, 3) := by decide +kernel
theorem dc_1_12_12 : decode prog_1_method_12_code 12 = .ok (.iload_n 2, 1) := by decide +kernel
theorem dc_1_12_13 : decode prog_1_method_12_code 13 = .ok (.iconst 0, 1) := by decide +kernel
theorem dc_1_12_14 : decode prog_1_method_12_code 14 = .ok (.iconst 3, 1) := by decide +kernel
theorem dc_1_12_15 : decode prog_1_method_12_code 15 = .ok (.invokestatic 84, 3) := by decide +kernel
theorem dc_1_12_18 : decode prog_1_method_12_code 18 = .ok (.ifCond .eq 13, 3) := by decide +kernel
theorem dc_1_12_21 : decode prog_1_method_12_code 21 = .ok (.iload_n 3, 1) := by decide +kernel
theorem dc_1_12_22 : decode prog_1_method_12_code 22 = .ok (.iconst (-1), 1) := by decide +kernel
theorem dc_1_12_23 : decode prog_1_method_12_code 23 = .ok (.bipush 9, 2) := by decide +kernel
theorem dc_1_12_25 : decode prog_1_method_12_code 25 = .ok (.invokestatic 84, 3) := by decide +kernel
theorem dc_1_12_28 : decode prog_1_method_12_code 28 = .ok (.ifCond .ne 5, 3) := by decide +kernel
theorem dc_1_12_31 : decode prog_1_method_12_code 31 = .ok (.iconst 0, 1) := by decide +kernel
theorem dc_1_12_32 : decode prog_1_method_12_code 32 = .ok (.ireturn, 1) := by decide +kernel
theorem dc_1_12_33 : decode prog_1_method_12_code 33 = .ok (.aload 4, 2) := by decide +kernel
theorem dc_1_12_35 : decode prog_1_method_12_code 35 = .ok (.getfield 184, 3) := by decide +kernel
theorem dc_1_12_38 : decode prog_1_method_12_code 38 = .ok (.iload_n 2, 1) := by decide +kernel
theorem dc_1_12_39 : decode prog_1_method_12_code 39 = .ok (.iload_n 3, 1) := by decide +kernel
theorem dc_1_12_40 : decode prog_1_method_12_code 40 = .ok (.iastore, 1) := by decide +kernel
theorem dc_1_12_41 : decode prog_1_method_12_code 41 = .ok (.iconst 1, 1) := by decide +kernel
theorem dc_1_12_42 : decode prog_1_method_12_code 42 = .ok (.ireturn, 1) := by decide +kernel
theorem dc_1_13_0 : decode prog_1_method_13_code 0 = .ok (.aload_n 0, 1) := by decide +kernel
theorem dc_1_13_1 : decode prog_1_method_13_code 1 = .ok (.iload_n 1, 1) := by decide +kernel
theorem dc_1_13_2 : decode prog_1_method_13_code 2 = .ok (.invokevirtual 180, 3) := by decide +kernel
theorem dc_1_13_5 : decode prog_1_method_13_code 5 = .ok (.astore_n 3, 1) := by decide +kernel
theorem dc_1_13_6 : decode prog_1_method_13_code 6 = .ok (.aload_n 3, 1) := by decide +kernel
theorem dc_1_13_7 : decode prog_1_method_13_code 7 = .ok (.ifnull 23, 3) := by decide +kernel
theorem dc_1_13_10 : decode prog_1_method_13_code 10 = .ok (.aload_n 0, 1) := by decide +kernel
theorem dc_1_13_11 : decode prog_1_method_13_code 11 = .ok (.iload_n 2, 1) := by decide +kernel
theorem dc_1_13_12 : decode prog_1_method_13_code 12 = .ok (.invokevirtual 128, 3) := by decide +kernel
theorem dc_1_13_15 : decode prog_1_method_13_code 15 = .ok (.ifnull 15, 3) := by decide +kernel
theorem dc_1_13_18 : decode prog_1_method_13_code 18 = .ok (.aload_n 3, 1) := by decide +kernel
theorem dc_1_13_19 : decode prog_1_method_13_code 19 = .ok (.iload_n 2, 1) := by decide +kernel
theorem dc_1_13_20 : decode prog_1_method_13_code 20 = .ok (.invokevirtual 187, 3) := by decide +kernel
theorem dc_1_13_23 : decode prog_1_method_13_code 23 = .ok (.ifCond .eq 7, 3) := by decide +kernel
theorem dc_1_13_26 : decode prog_1_method_13_code 26 = .ok (.iconst 1, 1) := by decide +kernel
theorem dc_1_13_27 : decode prog_1_method_13_code 27 = .ok (.goto 4, 3) := by decide +kernel
theorem dc_1_13_30 : decode prog_1_method_13_code 30 = .ok (.iconst 0, 1) := by decide +kernel
theorem dc_1_13_31 : decode prog_1_method_13_code 31 = .ok (.ireturn, 1) := by decide +kernel
theorem dc_1_16_0 : decode prog_1_method_16_code 0 = .ok (.aload_n 0, 1) := by decide +kernel
theorem dc_1_16_1 : decode prog_1_method_16_code 1 = .ok (.iload_n 1, 1) := by decide +kernel
theorem dc_1_16_2 : decode prog_1_method_16_code 2 = .ok (.invokevirtual 180, 3) := by decide +kernel
theorem dc_1_16_5 : decode prog_1_method_16_code 5 = .ok (.astore_n 2, 1) := by decide +kernel
theorem dc_1_16_6 : decode prog_1_method_16_code 6 = .ok (.aload_n 2, 1) := by decide +kernel
theorem dc_1_16_7 : decode prog_1_method_16_code 7 = .ok (.ifnull 18, 3) := by decide +kernel
theorem dc_1_16_10 : decode prog_1_method_16_code 10 = .ok (.aload_n 2, 1) := by decide +kernel
theorem dc_1_16_11 : decode prog_1_method_16_code 11 = .ok (.getfield 204, 3) := by decide +kernel
theorem dc_1_16_14 : decode prog_1_method_16_code 14 = .ok (.iconst 1, 1) := by decide +kernel
theorem dc_1_16_15 : decode prog_1_method_16_code 15 = .ok (.if_icmp .eq 12, 3) := by decide +kernel
theorem dc_1_16_18 : decode prog_1_method_16_code 18 = .ok (.aload_n 2, 1) := by decide +kernel
theorem dc_1_16_19 : decode prog_1_method_16_code 19 = .ok (.getfield 204, 3) := by decide +kernel
theorem dc_1_16_22 : decode prog_1_method_16_code 22 = .ok (.ifCond .eq 5, 3) := by decide +kernel
theorem dc_1_16_25 : decode prog_1_method_16_code 25 = .ok (.iconst 0, 1) := by decide +kernel
theorem dc_1_16_26 : decode prog_1_method_16_code 26 = .ok (.ireturn, 1) := by decide +kernel
theorem dc_1_16_27 : decode prog_1_method_16_code 27 = .ok (.aload_n 2, 1) := by decide +kernel
theorem dc_1_16_28 : decode prog_1_method_16_code 28 = .ok (.iconst (-1), 1) := by decide +kernel
theorem dc_1_16_29 : decode prog_1_method_16_code 29 = .ok (.iconst (-1), 1) := by decide +kernel
theorem dc_1_16_30 : decode prog_1_method_16_code 30 = .ok (.invokevirtual 207, 3) := by decide +kernel
theorem dc_1_16_33 : decode prog_1_method_16_code 33 = .ok (.aload_n 2, 1) := by decide +kernel
theorem dc_1_16_34 : decode prog_1_method_16_code 34 = .ok (.iconst 2, 1) := by decide +kernel
theorem dc_1_16_35 : decode prog_1_method_16_code 35 = .ok (.putfield 204, 3) := by decide +kernel
theorem dc_1_16_38 : decode prog_1_method_16_code 38 = .ok (.aload_n 0, 1) := by decide +kernel
theorem dc_1_16_39 : decode prog_1_method_16_code 39 = .ok (.getfield 54, 3) := by decide +kernel
theorem dc_1_16_42 : decode prog_1_method_16_code 42 = .ok (.iload_n 1, 1) := by decide +kernel
theorem dc_1_16_43 : decode prog_1_method_16_code 43 = .ok (.invokevirtual 211, 3) := by decide +kernel
theorem dc_1_16_46 : decode prog_1_method_16_code 46 = .ok (.iconst 1, 1) := by decide +kernel
theorem dc_1_16_47 : decode prog_1_method_16_code 47 = .ok (.ireturn, 1) := by decide +kernel
theorem dc_1_23_0 : decode prog_1_method_23_code 0 = .ok (.aload_n 0, 1) := by decide +kernel
theorem dc_1_23_1 : decode prog_1_method_23_code 1 = .ok (.iload_n 1, 1) := by decide +kernel
theorem dc_1_23_2 : decode prog_1_method_23_code 2 = .ok (.invokevirtual 180, 3) := by decide +kernel
theorem dc_1_23_5 : decode prog_1_method_23_code 5 = .ok (.astore 5, 2) := by decide +kernel
theorem dc_1_23_7 : decode prog_1_method_23_code 7 = .ok (.aload 5, 2) := by decide +kernel
theorem dc_1_23_9 : decode prog_1_method_23_code 9 = .ok (.ifnull 29, 3) := by decide +kernel
theorem dc_1_23_12 : decode prog_1_method_23_code 12 = .ok (.aload 5, 2) := by decide +kernel
theorem dc_1_23_14 : decode prog_1_method_23_code 14 = .ok (.getfield 204, 3) := by decide +kernel
theorem dc_1_23_17 : decode prog_1_method_23_code 17 = .ok (.iconst 1, 1) := by decide +kernel
theorem dc_1_23_18 : decode prog_1_method_23_code 18 = .ok (.if_icmp .ne 20, 3) := by decide +kernel
theorem dc_1_23_21 : decode prog_1_method_23_code 21 = .ok (.iload_n 2, 1) := by decide +kernel
theorem dc_1_23_22 : decode prog_1_method_23_code 22 = .ok (.iconst 0, 1) := by decide +kernel
theorem dc_1_23_23 : decode prog_1_method_23_code 23 = .ok (.iconst 3, 1) := by decide +kernel
theorem dc_1_23_24 : decode prog_1_method_23_code 24 = .ok (.invokestatic 84, 3) := by decide +kernel
theorem dc_1_23_27 : decode prog_1_method_23_code 27 = .ok (.ifCond .eq 11, 3) := by decide +kernel
theorem dc_1_23_30 : decode prog_1_method_23_code 30 = .ok (.iload 4, 2) := by decide +kernel
theorem dc_1_23_32 : decode prog_1_method_23_code 32 = .ok (.invokestatic 108, 3) := by decide +kernel
theorem dc_1_23_35 : decode prog_1_method_23_code 35 = .ok (.ifCond .ne 5, 3) := by decide +kernel
theorem dc_1_23_38 : decode prog_1_method_23_code 38 = .ok (.iconst 0, 1) := by decide +kernel
theorem dc_1_23_39 : decode prog_1_method_23_code 39 = .ok (.ireturn, 1) := by decide +kernel
theorem dc_1_23_40 : decode prog_1_method_23_code 40 = .ok (.iload_n 3, 1) := by decide +kernel
theorem dc_1_23_41 : decode prog_1_method_23_code 41 = .ok (.iconst (-1), 1) := by decide +kernel
theorem dc_1_23_42 : decode prog_1_method_23_code 42 = .ok (.if_icmp .eq 10, 3) := by decide +kernel
theorem dc_1_23_45 : decode prog_1_method_23_code 45 = .ok (.iload_n 3, 1) := by decide +kernel
theorem dc_1_23_46 : decode prog_1_method_23_code 46 = .ok (.invokestatic 108, 3) := by decide +kernel
theorem dc_1_23_49 : decode prog_1_method_23_code 49 = .ok (.ifCond .eq 22, 3) := by decide +kernel
theorem dc_1_23_52 : decode prog_1_method_23_code 52 = .ok (.aload_n 0, 1) := by decide +kernel
theorem dc_1_23_53 : decode prog_1_method_23_code 53 = .ok (.getfield 54, 3) := by decide +kernel
theorem dc_1_23_56 : decode prog_1_method_23_code 56 = .ok (.iload_n 1, 1) := by decide +kernel
theorem dc_1_23_57 : decode prog_1_method_23_code 57 = .ok (.iload_n 2, 1) := by decide +kernel
theorem dc_1_23_58 : decode prog_1_method_23_code 58 = .ok (.iload_n 3, 1) := by decide +kernel
theorem dc_1_23_59 : decode prog_1_method_23_code 59 = .ok (.iload 4, 2) := by decide +kernel
theorem dc_1_23_61 : decode prog_1_method_23_code 61 = .ok (.invokevirtual 254, 3) := by decide +kernel
theorem dc_1_23_64 : decode prog_1_method_23_code 64 = .ok (.ifCond .eq 7, 3) := by decide +kernel
theorem dc_1_23_67 : decode prog_1_method_23_code 67 = .ok (.iconst 1, 1) := by decide +kernel
theorem dc_1_23_68 : decode prog_1_method_23_code 68 = .ok (.goto 4, 3) := by decide +kernel
theorem dc_1_23_71 : decode prog_1_method_23_code 71 = .ok (.iconst 0, 1) := by decide +kernel
theorem dc_1_23_72 : decode prog_1_method_23_code 72 = .ok (.ireturn, 1) := by decide +kernel
theorem dc_1_2_0 : decode prog_1_method_2_code 0 = .ok (.iload_n 1, 1) := by decide +kernel
theorem dc_1_2_1 : decode prog_1_method_2_code 1 = .ok (.iconst 0, 1) := by decide +kernel
theorem dc_1_2_2 : decode prog_1_method_2_code 2 = .ok (.iconst 3, 1) := by decide +kernel
theorem dc_1_2_3 : decode prog_1_method_2_code 3 = .ok (.invokestatic 84, 3) := by decide +kernel
theorem dc_1_2_6 : decode prog_1_method_2_code 6 = .ok (.ifCond .eq 25, 3) := by decide +kernel
theorem dc_1_2_9 : decode prog_1_method_2_code 9 = .ok (.iload_n 2, 1) := by decide +kernel
theorem dc_1_2_10 : decode prog_1_method_2_code 10 = .ok (.iconst 0, 1) := by decide +kernel
theorem dc_1_2_11 : decode prog_1_method_2_code 11 = .ok (.sipush 200, 3) := by decide +kernel
theorem dc_1_2_14 : decode prog_1_method_2_code 14 = .ok (.invokestatic 84, 3) := by decide +kernel
theorem dc_1_2_17 : decode prog_1_method_2_code 17 = .ok (.ifCond .eq 14, 3) := by decide +kernel
theorem dc_1_2_20 : decode prog_1_method_2_code 20 = .ok (.iload_n 3, 1) := by decide +kernel
theorem dc_1_2_21 : decode prog_1_method_2_code 21 = .ok (.iload_n 2, 1) := by decide +kernel
theorem dc_1_2_22 : decode prog_1_method_2_code 22 = .ok (.sipush 200, 3) := by decide +kernel
theorem dc_1_2_25 : decode prog_1_method_2_code 25 = .ok (.invokestatic 84, 3) := by decide +kernel
theorem dc_1_2_28 : decode prog_1_method_2_code 28 = .ok (.ifCond .ne 5, 3) := by decide +kernel
theorem dc_1_2_31 : decode prog_1_method_2_code 31 = .ok (.iconst 0, 1) := by decide +kernel
theorem dc_1_2_32 : decode prog_1_method_2_code 32 = .ok (.ireturn, 1) := by decide +kernel
theorem dc_1_2_33 : decode prog_1_method_2_code 33 = .ok (.aload_n 0, 1) := by decide +kernel
theorem dc_1_2_34 : decode prog_1_method_2_code 34 = .ok (.getfield 13, 3) := by decide +kernel
theorem dc_1_2_37 : decode prog_1_method_2_code 37 = .ok (.iload_n 1, 1) := by decide +kernel
theorem dc_1_2_38 : decode prog_1_method_2_code 38 = .ok (.iload_n 2, 1) := by decide +kernel
theorem dc_1_2_39 : decode prog_1_method_2_code 39 = .ok (.iastore, 1) := by decide +kernel
theorem dc_1_2_40 : decode prog_1_method_2_code 40 = .ok (.aload_n 0, 1) := by decide +kernel
theorem dc_1_2_41 : decode prog_1_method_2_code 41 = .ok (.getfield 17, 3) := by decide +kernel
theorem dc_1_2_44 : decode prog_1_method_2_code 44 = .ok (.iload_n 1, 1) := by decide +kernel
theorem dc_1_2_45 : decode prog_1_method_2_code 45 = .ok (.iload_n 3, 1) := by decide +kernel
theorem dc_1_2_46 : decode prog_1_method_2_code 46 = .ok (.iastore, 1) := by decide +kernel
theorem dc_1_2_47 : decode prog_1_method_2_code 47 = .ok (.iconst 1, 1) := by decide +kernel
theorem dc_1_2_48 : decode prog_1_method_2_code 48 = .ok (.ireturn, 1) := by decide +kernel
theorem dc_1_3_0 : decode prog_1_method_3_code 0 = .ok (.aload_n 0, 1) := by decide +kernel
theorem dc_1_3_1 : decode prog_1_method_3_code 1 = .ok (.getfield 26, 3) := by decide +kernel
theorem dc_1_3_4 : decode prog_1_method_3_code 4 = .ok (.iload_n 1, 1) := by decide +kernel
theorem dc_1_3_5 : decode prog_1_method_3_code 5 = .ok (.iload_n 2, 1) := by decide +kernel
theorem dc_1_3_6 : decode prog_1_method_3_code 6 = .ok (.iload_n 3, 1) := by decide +kernel
theorem dc_1_3_7 : decode prog_1_method_3_code 7 = .ok (.invokevirtual 88, 3) := by decide +kernel
theorem dc_1_3_10 : decode prog_1_method_3_code 10 = .ok (.ireturn, 1) := by decide +kernel
theorem dc_1_6_0 : decode prog_1_method_6_code 0 = .ok (.aload_n 0, 1) := by decide +kernel
theorem dc_1_6_1 : decode prog_1_method_6_code 1 = .ok (.iload_n 1, 1) := by decide +kernel
theorem dc_1_6_2 : decode prog_1_method_6_code 2 = .ok (.invokevirtual 128, 3) := by decide +kernel
theorem dc_1_6_5 : decode prog_1_method_6_code 5 = .ok (.astore_n 3, 1) := by decide +kernel
theorem dc_1_6_6 : decode prog_1_method_6_code 6 = .ok (.aload_n 3, 1) := by decide +kernel
theorem dc_1_6_7 : decode prog_1_method_6_code 7 = .ok (.ifnull 13, 3) := by decide +kernel
theorem dc_1_6_10 : decode prog_1_method_6_code 10 = .ok (.iload_n 2, 1) := by decide +kernel
theorem dc_1_6_11 : decode prog_1_method_6_code 11 = .ok (.iconst 0, 1) := by decide +kernel
theorem dc_1_6_12 : decode prog_1_method_6_code 12 = .ok (.bipush 9, 2) := by decide +kernel
theorem dc_1_6_14 : decode prog_1_method_6_code 14 = .ok (.invokestatic 84, 3) := by decide +kernel
theorem dc_1_6_17 : decode prog_1_method_6_code 17 = .ok (.ifCond .ne 5, 3) := by decide +kernel
theorem dc_1_6_20 : decode prog_1_method_6_code 20 = .ok (.iconst 0, 1) := by decide +kernel
theorem dc_1_6_21 : decode prog_1_method_6_code 21 = .ok (.ireturn, 1) := by decide +kernel
theorem dc_1_6_22 : decode prog_1_method_6_code 22 = .ok (.aload_n 3, 1) := by decide +kernel
theorem dc_1_6_23 : decode prog_1_method_6_code 23 = .ok (.iload_n 2, 1) := by decide +kernel
theorem dc_1_6_24 : decode prog_1_method_6_code 24 = .ok (.putfield 132, 3) := by decide +kernel
theorem dc_1_6_27 : decode prog_1_method_6_code 27 = .ok (.iconst 1, 1) := by decide +kernel
theorem dc_1_6_28 : decode prog_1_method_6_code 28 = .ok (.ireturn, 1) := by decide +kernel
theorem iv_0_v187 : mm_iv 0 (.invokevirtual 187) = some (1, 104) := by decide +kernel
theorem iv_0_v254 : mm_iv 0 (.invokevirtual 254) = some (1, 157) := by decide +kernel
theorem iv_0_v88 : mm_iv 0 (.invokevirtual 88) = some (1, 15) := by decide +kernel
theorem o_104 : mm_o 104 = 11 := by decide +kernel
theorem o_15 : mm_o 15 = 1 := by decide +kernel
theorem o_157 : mm_o 157 = 5 := by decide +kernel
theorem na_1_104 : mm_nas 1 104 = 2 := by decide +kernel
theorem na_1_15 : mm_nas 1 15 = 4 := by decide +kernel
theorem na_1_157 : mm_nas 1 157 = 5 := by decide +kernel
theorem m1_in {n : Int32} (h : -1 ≤ n ∧ n ≤ nI 9) : n = -1 ∨ inN n 9 := by
  by_cases z : n = -1
  · exact Or.inl z
  · refine Or.inr ?_
    have h0 : (-1 : Int) ≤ n.toInt := Int32.le_iff_toInt_le.mp h.1
    have h1 : n.toInt ≤ 9 := Int32.le_iff_toInt_le.mp h.2
    have h2 : ¬ n.toInt = -1 := fun y => z (Int32.toInt_inj.mp y)
    refine ⟨n.toInt.toNat, by omega, Int32.toInt_inj.mp ?_⟩
    rw [nI_toInt (by omega)]
    omega
theorem at_iff {f : Nat → Int32} {v : Int32} : ∀ {n : Nat}, n < 2 ^ 31 → (sp_at f v n = -1 ↔ ∀ j, j < n → ¬ f j = v)
  | 0, _ => ⟨fun _ j hj => absurd hj (Nat.not_lt_zero j), fun _ => rfl⟩
  | n + 1, hn => by
    have ih := at_iff (f := f) (v := v) (n := n) (by omega)
    unfold sp_at
    by_cases z : sp_at f v n = -1
    · have g := ih.mp z
      rw [if_pos z]
      by_cases y : f n = v
      · rw [if_pos y]
        exact ⟨fun u => absurd u (nI_nm1 (by omega)), fun u => absurd y (u n (by omega))⟩
      · rw [if_neg y]
        exact ⟨fun _ j hj => (by omega : j < n ∨ j = n).elim (fun q => g j q) (fun q => q ▸ y), fun _ => rfl⟩
    · rw [if_neg z]
      exact ⟨fun u => absurd u z, fun u => absurd (ih.mpr (fun j hj => u j (by omega))) z⟩
set_option maxHeartbeats 4000000 in
theorem s_land {M : mH} {T : Nat → mT} {cs sg : Nat → Nat → Int32} {io : Nat → Int32} {e : Nat → Nat} {D : Nat → Nat → Nat} {nh nx ns nf ny tp : Nat} {cm : Nat → Nat} {w : Nat → Nat → Nat} {cn : Nat → Nat} {wc : Nat → Nat → Nat} (hV : CV M T cs io sg e D nh nx ns nf ny tp cm w cn wc) (l a b : Int32) : ∃ (v : Value), ∃ (cs2 : Nat → Nat → Int32), ∃ (io2 : Nat → Int32), ∃ (sg2 : Nat → Nat → Int32), ∃ (nf2 : Nat), ∃ (ny2 : Nat), ∃ (tp2 : Nat), (mm_Ev 8 186 [.ref 100, .int l, .int a, .int b] (rf_mk (hk M T cs2) io sg) (some v, rf_mk (hk M T cs2) io2 sg2) ∧ CV M T cs2 io2 sg2 e D nh nx ns nf2 ny2 tp2 cm w cn wc) ∧ mm_Ev 3 12 [.ref 0, .int l, .int a, .int b] (hk M T cs) ((some v, hk M T cs2)) := by
  have hq9 : ∃ z, (fun r9 => ∃ (v : Value), ∃ (cs2 : Nat → Nat → Int32), ∃ (io2 : Nat → Int32), ∃ (sg2 : Nat → Nat → Int32), ∃ (nf2 : Nat), ∃ (ny2 : Nat), ∃ (tp2 : Nat), (mm_Ev 8 186 [.ref 100, .int l, .int a, .int b] (rf_mk (hk M T cs2) io sg) (some v, rf_mk (hk M T cs2) io2 sg2) ∧ CV M T cs2 io2 sg2 e D nh nx ns nf2 ny2 tp2 cm w cn wc) ∧ r9 = ((some v, hk M T cs2))) z ∧ mm_Ev 3 12 [.ref 0, .int l, .int a, .int b] (hk M T cs) z := by
    obtain ⟨⟨hM, hMs, hW⟩, hC, hT, hR, hJ⟩ := id hV
    obtain ⟨hF, ⟨hL0, hL1, hL2⟩, hSc, hAg, hSt⟩ := id hC
    obtain ⟨⟨⟨h3, hnh⟩, ⟨h4, hnx⟩, ⟨h5, hns⟩, ⟨h7, hnf⟩, ⟨h6, hny⟩, ⟨h23, htp⟩⟩, hRa, hRb, hRs, hRs2, hRs3, hRx, hCD, hRt, hRt2, hRf⟩ := id hR
    refine r_evQ (by decide +kernel) (show (4 : Nat) ≤ mm_nL 12 by decide +kernel) ?_
    show mm_Ru 2 (0, 4, false, prog_1_method_2_code, some .boolean) 0 [(0, .ref 0), (1, .int l), (2, .int a), (3, .int b)] [] (hk M T cs) (fun r9 => ∃ (v : Value), ∃ (cs2 : Nat → Nat → Int32), ∃ (io2 : Nat → Int32), ∃ (sg2 : Nat → Nat → Int32), ∃ (nf2 : Nat), ∃ (ny2 : Nat), ∃ (tp2 : Nat), (mm_Ev 8 186 [.ref 100, .int l, .int a, .int b] (rf_mk (hk M T cs2) io sg) (some v, rf_mk (hk M T cs2) io2 sg2) ∧ CV M T cs2 io2 sg2 e D nh nx ns nf2 ny2 tp2 cm w cn wc) ∧ r9 = ((some v, hk M T cs2)))
    refine r_iload_n rfl dc_1_2_0 ?_
    refine r_iconst (v := nI 0) (by decide) dc_1_2_1 ?_
    refine r_iconst (v := nI 3) (by decide) dc_1_2_2 ?_
    by_cases h_3 : nI 0 ≤ l ∧ l ≤ nI 3
    · skip
      obtain ⟨n_3, hn_3, e_3⟩ := g_nat2 h_3 (by omega) (by omega)
      subst e_3
      refine h_callS (as := [.int (nI n_3), .int (nI 0), .int (nI 3)]) (rest := []) (v := .int (nI 1)) rfl rfl iv_0_s84 (Or.inl rfl) na_0_13 rfl (show (0 : Nat) ≤ 8 by decide) dc_1_2_3 (mm_Ev_up (by decide : 1 ≤ 2) (by have h9 := k_in (hk M T cs) (nI n_3) (nI 0) (nI 3); rw [show sp_in (nI n_3) (nI 0) (nI 3) = nI 1 from sp_in_ok (by omega) (by omega) (by omega)] at h9; exact h9)) ?_
      refine r_ifeq (t := 31) (by decide) dc_1_2_6 (fun c_6 => ?_) (fun c_6 => ?_)
      · exact absurd c_6 (by decide)
      · skip
        refine r_iload_n rfl dc_1_2_9 ?_
        refine r_iconst (v := nI 0) (by decide) dc_1_2_10 ?_
        refine r_sipush (v := nI 200) (by decide) dc_1_2_11 ?_
        by_cases h_14 : nI 0 ≤ a ∧ a ≤ nI 200
        · skip
          obtain ⟨n_14, hn_14, e_14⟩ := g_nat2 h_14 (by omega) (by omega)
          subst e_14
          refine h_callS (as := [.int (nI n_14), .int (nI 0), .int (nI 200)]) (rest := []) (v := .int (nI 1)) rfl rfl iv_0_s84 (Or.inl rfl) na_0_13 rfl (show (0 : Nat) ≤ 8 by decide) dc_1_2_14 (mm_Ev_up (by decide : 1 ≤ 2) (by have h9 := k_in (hk M T cs) (nI n_14) (nI 0) (nI 200); rw [show sp_in (nI n_14) (nI 0) (nI 200) = nI 1 from sp_in_ok (by omega) (by omega) (by omega)] at h9; exact h9)) ?_
          refine r_ifeq (t := 31) (by decide) dc_1_2_17 (fun c_17 => ?_) (fun c_17 => ?_)
          · exact absurd c_17 (by decide)
          · skip
            refine r_iload_n rfl dc_1_2_20 ?_
            refine r_iload_n rfl dc_1_2_21 ?_
            refine r_sipush (v := nI 200) (by decide) dc_1_2_22 ?_
            by_cases h_25 : nI n_14 ≤ b ∧ b ≤ nI 200
            · skip
              obtain ⟨n_25, hn_25, e_25⟩ := g_nat2 h_25 (by omega) (by omega)
              subst e_25
              refine h_callS (as := [.int (nI n_25), .int (nI n_14), .int (nI 200)]) (rest := []) (v := .int (nI 1)) rfl rfl iv_0_s84 (Or.inl rfl) na_0_13 rfl (show (0 : Nat) ≤ 8 by decide) dc_1_2_25 (mm_Ev_up (by decide : 1 ≤ 2) (by have h9 := k_in (hk M T cs) (nI n_25) (nI n_14) (nI 200); rw [show sp_in (nI n_25) (nI n_14) (nI 200) = nI 1 from sp_in_ok (by omega) (by omega) (by omega)] at h9; exact h9)) ?_
              refine r_ifne (t := 33) (by decide) dc_1_2_28 (fun c_28 => ?_) (fun c_28 => ?_)
              · skip
                refine r_aload_n rfl dc_1_2_33 ?_
                refine h_get (t := cT e 0) (v := .ref 1) fx_0_13 (hF 0 (by decide)) ⟨by omega, by omega⟩ (rfl) dc_1_2_34 ?_
                refine r_iload_n rfl dc_1_2_37 ?_
                refine r_iload_n rfl dc_1_2_38 ?_
                refine h_ist (n := 4) (e := n_3) (hF 1 (by decide)) ⟨by omega, by omega⟩ (show n_3 < 4 by omega) (by omega) dc_1_2_39 ?_
                refine r_aload_n rfl dc_1_2_40 ?_
                refine h_get (t := cT e 0) (v := .ref 2) fx_0_17 (hF 0 (by decide)) ⟨by omega, by omega⟩ (rfl) dc_1_2_41 ?_
                refine r_iload_n rfl dc_1_2_44 ?_
                refine r_iload_n rfl dc_1_2_45 ?_
                refine h_ist (n := 4) (e := n_3) (hF 2 (by decide)) ⟨by omega, by omega⟩ (show n_3 < 4 by omega) (by omega) dc_1_2_46 ?_
                refine r_iconst (v := nI 1) (by decide) dc_1_2_47 ?_
                refine r_zret rfl (by decide) dc_1_2_48 ?_
                refine ⟨_, _, io, _, nf, ny, tp, ⟨mm_Ev_up (by decide) (c_land_ok (hk M T (w1 (w1 cs 1 n_3 (nI n_14)) 2 n_3 (nI n_25))) hM io sg n_3 n_14 n_25 (by omega) (by omega) (by omega)), CV_land hV (by omega) (by omega) (by omega)⟩, rfl⟩
              · exact absurd c_28 (by decide)
            · skip
              refine h_callS (as := [.int b, .int (nI n_14), .int (nI 200)]) (rest := []) (v := .int (nI 0)) rfl rfl iv_0_s84 (Or.inl rfl) na_0_13 rfl (show (0 : Nat) ≤ 8 by decide) dc_1_2_25 (mm_Ev_up (by decide : 1 ≤ 2) (by have h9 := k_in (hk M T cs) b (nI n_14) (nI 200); rw [show sp_in b (nI n_14) (nI 200) = nI 0 from if_neg h_25] at h9; exact h9)) ?_
              refine r_ifne (t := 33) (by decide) dc_1_2_28 (fun c_28 => ?_) (fun c_28 => ?_)
              · exact absurd c_28 (by decide)
              · skip
                refine r_iconst (v := nI 0) (by decide) dc_1_2_31 ?_
                refine r_zret rfl (by decide) dc_1_2_32 ?_
                refine ⟨_, _, io, sg, nf, ny, tp, ⟨mm_Ev_up (by decide) (c_land_no (hk M T cs) hM io sg _ _ _ (fun g => h_25 (g.2.2))), hV⟩, rfl⟩
        · skip
          refine h_callS (as := [.int a, .int (nI 0), .int (nI 200)]) (rest := []) (v := .int (nI 0)) rfl rfl iv_0_s84 (Or.inl rfl) na_0_13 rfl (show (0 : Nat) ≤ 8 by decide) dc_1_2_14 (mm_Ev_up (by decide : 1 ≤ 2) (by have h9 := k_in (hk M T cs) a (nI 0) (nI 200); rw [show sp_in a (nI 0) (nI 200) = nI 0 from if_neg h_14] at h9; exact h9)) ?_
          refine r_ifeq (t := 31) (by decide) dc_1_2_17 (fun c_17 => ?_) (fun c_17 => ?_)
          · skip
            refine r_iconst (v := nI 0) (by decide) dc_1_2_31 ?_
            refine r_zret rfl (by decide) dc_1_2_32 ?_
            refine ⟨_, _, io, sg, nf, ny, tp, ⟨mm_Ev_up (by decide) (c_land_no (hk M T cs) hM io sg _ _ _ (fun g => h_14 (g.2.1))), hV⟩, rfl⟩
          · exact absurd c_17 (by decide)
    · skip
      refine h_callS (as := [.int l, .int (nI 0), .int (nI 3)]) (rest := []) (v := .int (nI 0)) rfl rfl iv_0_s84 (Or.inl rfl) na_0_13 rfl (show (0 : Nat) ≤ 8 by decide) dc_1_2_3 (mm_Ev_up (by decide : 1 ≤ 2) (by have h9 := k_in (hk M T cs) l (nI 0) (nI 3); rw [show sp_in l (nI 0) (nI 3) = nI 0 from if_neg h_3] at h9; exact h9)) ?_
      refine r_ifeq (t := 31) (by decide) dc_1_2_6 (fun c_6 => ?_) (fun c_6 => ?_)
      · skip
        refine r_iconst (v := nI 0) (by decide) dc_1_2_31 ?_
        refine r_zret rfl (by decide) dc_1_2_32 ?_
        refine ⟨_, _, io, sg, nf, ny, tp, ⟨mm_Ev_up (by decide) (c_land_no (hk M T cs) hM io sg _ _ _ (fun g => h_3 (g.1))), hV⟩, rfl⟩
      · exact absurd c_6 (by decide)
  obtain ⟨z9, ⟨v, cs2, io2, sg2, nf2, ny2, tp2, p9, e9⟩, h9⟩ := hq9
  subst e9
  exact ⟨v, cs2, io2, sg2, nf2, ny2, tp2, p9, h9⟩
theorem st_land (l a b : Int32) : StpN 12 186 [.int l, .int a, .int b] := fun M T cs sg io e D nh nx ns nf ny tp cm w cn wc hV => by
  obtain ⟨v, cs2, io2, sg2, nf2, ny2, tp2, hp, h⟩ := s_land hV l a b
  exact ⟨v, cs2, io2, sg2, nf2, ny2, tp2, hp, mm_Ev_up (by decide) h⟩
set_option maxHeartbeats 4000000 in
theorem s_had {M : mH} {T : Nat → mT} {cs sg : Nat → Nat → Int32} {io : Nat → Int32} {e : Nat → Nat} {D : Nat → Nat → Nat} {nh nx ns nf ny tp : Nat} {cm : Nat → Nat} {w : Nat → Nat → Nat} {cn : Nat → Nat} {wc : Nat → Nat → Nat} (hV : CV M T cs io sg e D nh nx ns nf ny tp cm w cn wc) (c m n : Int32) : ∃ (v : Value), ∃ (cs2 : Nat → Nat → Int32), ∃ (io2 : Nat → Int32), ∃ (sg2 : Nat → Nat → Int32), ∃ (nf2 : Nat), ∃ (ny2 : Nat), ∃ (tp2 : Nat), (mm_Ev 8 188 [.ref 100, .int c, .int m, .int n] (rf_mk (hk M T cs2) io sg) (some v, rf_mk (hk M T cs2) io2 sg2) ∧ CV M T cs2 io2 sg2 e D nh nx ns nf2 ny2 tp2 cm w cn wc) ∧ mm_Ev 4 14 [.ref 0, .int c, .int m, .int n] (hk M T cs) ((some v, hk M T cs2)) := by
  have hq9 : ∃ z, (fun r9 => ∃ (v : Value), ∃ (cs2 : Nat → Nat → Int32), ∃ (io2 : Nat → Int32), ∃ (sg2 : Nat → Nat → Int32), ∃ (nf2 : Nat), ∃ (ny2 : Nat), ∃ (tp2 : Nat), (mm_Ev 8 188 [.ref 100, .int c, .int m, .int n] (rf_mk (hk M T cs2) io sg) (some v, rf_mk (hk M T cs2) io2 sg2) ∧ CV M T cs2 io2 sg2 e D nh nx ns nf2 ny2 tp2 cm w cn wc) ∧ r9 = ((some v, hk M T cs2))) z ∧ mm_Ev 4 14 [.ref 0, .int c, .int m, .int n] (hk M T cs) z := by
    obtain ⟨⟨hM, hMs, hW⟩, hC, hT, hR, hJ⟩ := id hV
    obtain ⟨hF, ⟨hL0, hL1, hL2⟩, hSc, hAg, hSt⟩ := id hC
    obtain ⟨⟨⟨h3, hnh⟩, ⟨h4, hnx⟩, ⟨h5, hns⟩, ⟨h7, hnf⟩, ⟨h6, hny⟩, ⟨h23, htp⟩⟩, hRa, hRb, hRs, hRs2, hRs3, hRx, hCD, hRt, hRt2, hRf⟩ := id hR
    refine r_evQ (by decide +kernel) (show (4 : Nat) ≤ mm_nL 14 by decide +kernel) ?_
    show mm_Ru 3 (0, 4, false, prog_1_method_3_code, some .boolean) 0 [(0, .ref 0), (1, .int c), (2, .int m), (3, .int n)] [] (hk M T cs) (fun r9 => ∃ (v : Value), ∃ (cs2 : Nat → Nat → Int32), ∃ (io2 : Nat → Int32), ∃ (sg2 : Nat → Nat → Int32), ∃ (nf2 : Nat), ∃ (ny2 : Nat), ∃ (tp2 : Nat), (mm_Ev 8 188 [.ref 100, .int c, .int m, .int n] (rf_mk (hk M T cs2) io sg) (some v, rf_mk (hk M T cs2) io2 sg2) ∧ CV M T cs2 io2 sg2 e D nh nx ns nf2 ny2 tp2 cm w cn wc) ∧ r9 = ((some v, hk M T cs2)))
    refine r_aload_n rfl dc_1_3_0 ?_
    refine h_get (t := cT e 0) (v := .ref 4) fx_0_26 (hF 0 (by decide)) ⟨by omega, by omega⟩ (rfl) dc_1_3_1 ?_
    refine r_iload_n rfl dc_1_3_4 ?_
    refine r_iload_n rfl dc_1_3_5 ?_
    refine r_iload_n rfl dc_1_3_6 ?_
    by_cases h_7 : gd_had c m n
    · skip
      obtain ⟨n_1, hn_1, e_1⟩ := g_nat2 h_7.1 (by decide) (by decide)
      obtain ⟨n_2, hn_2, e_2⟩ := g_nat2 h_7.2.1 (by decide) (by decide)
      obtain ⟨n_3, hn_3, e_3⟩ := g_nat2 h_7.2.2 (by decide) (by decide)
      subst e_1
      subst e_2
      subst e_3
      refine h_callv (t := cT e 4) (as := [.int (nI n_1), .int (nI n_2), .int (nI n_3)]) (rest := []) (v := .int (nI 1)) (M1 := hk M T (w1 cs (6 + n_1) n_2 (nI n_3))) rfl rfl iv_0_v88 (Or.inl rfl) na_1_15 (hF 4 (by decide)) ⟨by omega, by omega⟩ (show (1 : Nat) < 14 by decide) o_15 rfl (show (0 : Nat) ≤ 8 by decide) dc_1_3_7 (k_setHad_ok M hM T e hF cs n_1 n_2 n_3 (by omega) (by omega) (by omega)) ?_
      refine r_zret rfl (by decide) dc_1_3_10 ?_
      refine ⟨_, _, io, _, nf, ny, tp, ⟨mm_Ev_up (by decide) (c_had_ok (hk M T (w1 cs (6 + n_1) n_2 (nI n_3))) hM io sg n_1 n_2 n_3 (by omega) (by omega) (by omega)), CV_had hV (by omega) (by omega) (by omega)⟩, rfl⟩
    · skip
      refine h_callv (t := cT e 4) (as := [.int c, .int m, .int n]) (rest := []) (v := .int (nI 0)) (M1 := hk M T cs) rfl rfl iv_0_v88 (Or.inl rfl) na_1_15 (hF 4 (by decide)) ⟨by omega, by omega⟩ (show (1 : Nat) < 14 by decide) o_15 rfl (show (0 : Nat) ≤ 8 by decide) dc_1_3_7 (k_setHad_no M hM T e hF cs c m n h_7) ?_
      refine r_zret rfl (by decide) dc_1_3_10 ?_
      refine ⟨_, _, io, sg, nf, ny, tp, ⟨mm_Ev_up (by decide) (c_had_no (hk M T cs) hM io sg c m n h_7), hV⟩, rfl⟩
  obtain ⟨z9, ⟨v, cs2, io2, sg2, nf2, ny2, tp2, p9, e9⟩, h9⟩ := hq9
  subst e9
  exact ⟨v, cs2, io2, sg2, nf2, ny2, tp2, p9, h9⟩
theorem st_had (c m n : Int32) : StpN 14 188 [.int c, .int m, .int n] := fun M T cs sg io e D nh nx ns nf ny tp cm w cn wc hV => by
  obtain ⟨v, cs2, io2, sg2, nf2, ny2, tp2, hp, h⟩ := s_had hV c m n
  exact ⟨v, cs2, io2, sg2, nf2, ny2, tp2, hp, mm_Ev_up (by decide) h⟩
set_option maxHeartbeats 4000000 in
theorem s_beds {M : mH} {T : Nat → mT} {cs sg : Nat → Nat → Int32} {io : Nat → Int32} {e : Nat → Nat} {D : Nat → Nat → Nat} {nh nx ns nf ny tp : Nat} {cm : Nat → Nat} {w : Nat → Nat → Nat} {cn : Nat → Nat} {wc : Nat → Nat → Nat} (hV : CV M T cs io sg e D nh nx ns nf ny tp cm w cn wc) (h n : Int32) : ∃ (v : Value), ∃ (cs2 : Nat → Nat → Int32), ∃ (io2 : Nat → Int32), ∃ (sg2 : Nat → Nat → Int32), ∃ (nf2 : Nat), ∃ (ny2 : Nat), ∃ (tp2 : Nat), (mm_Ev 8 195 [.ref 100, .int h, .int n] (rf_mk (hk M T cs2) io sg) (some v, rf_mk (hk M T cs2) io2 sg2) ∧ CV M T cs2 io2 sg2 e D nh nx ns nf2 ny2 tp2 cm w cn wc) ∧ mm_Ev 5 38 [.ref 0, .int h, .int n] (hk M T cs) ((some v, hk M T cs2)) := by
  have hq9 : ∃ z, (fun r9 => ∃ (v : Value), ∃ (cs2 : Nat → Nat → Int32), ∃ (io2 : Nat → Int32), ∃ (sg2 : Nat → Nat → Int32), ∃ (nf2 : Nat), ∃ (ny2 : Nat), ∃ (tp2 : Nat), (mm_Ev 8 195 [.ref 100, .int h, .int n] (rf_mk (hk M T cs2) io sg) (some v, rf_mk (hk M T cs2) io2 sg2) ∧ CV M T cs2 io2 sg2 e D nh nx ns nf2 ny2 tp2 cm w cn wc) ∧ r9 = ((some v, hk M T cs2))) z ∧ mm_Ev 5 38 [.ref 0, .int h, .int n] (hk M T cs) z := by
    obtain ⟨⟨hM, hMs, hW⟩, hC, hT, hR, hJ⟩ := id hV
    obtain ⟨hF, ⟨hL0, hL1, hL2⟩, hSc, hAg, hSt⟩ := id hC
    obtain ⟨⟨⟨h3, hnh⟩, ⟨h4, hnx⟩, ⟨h5, hns⟩, ⟨h7, hnf⟩, ⟨h6, hny⟩, ⟨h23, htp⟩⟩, hRa, hRb, hRs, hRs2, hRs3, hRx, hCD, hRt, hRt2, hRf⟩ := id hR
    refine r_evQ (by decide +kernel) (show (3 : Nat) ≤ mm_nL 38 by decide +kernel) ?_
    show mm_Ru 4 (0, 4, false, prog_1_method_6_code, some .boolean) 0 [(0, .ref 0), (1, .int h), (2, .int n)] [] (hk M T cs) (fun r9 => ∃ (v : Value), ∃ (cs2 : Nat → Nat → Int32), ∃ (io2 : Nat → Int32), ∃ (sg2 : Nat → Nat → Int32), ∃ (nf2 : Nat), ∃ (ny2 : Nat), ∃ (tp2 : Nat), (mm_Ev 8 195 [.ref 100, .int h, .int n] (rf_mk (hk M T cs2) io sg) (some v, rf_mk (hk M T cs2) io2 sg2) ∧ CV M T cs2 io2 sg2 e D nh nx ns nf2 ny2 tp2 cm w cn wc) ∧ r9 = ((some v, hk M T cs2)))
    refine r_aload_n rfl dc_1_6_0 ?_
    refine r_iload_n rfl dc_1_6_1 ?_
    by_cases h_2 : 0 ≤ h ∧ h < nI nh
    · skip
      obtain ⟨n_2, hn_2, e_2⟩ := g_lt h_2 (by omega)
      subst e_2
      refine h_callv (t := cT e 0) (as := [.int (nI n_2)]) (rest := []) (v := .ref (D 0 n_2)) (M1 := hk M T cs) rfl rfl iv_0_v128 (Or.inl rfl) na_1_39 (hF 0 (by decide)) ⟨by omega, by omega⟩ (show (0 : Nat) < 14 by decide) o_39 rfl (show (0 : Nat) ≤ 8 by decide) dc_1_6_2 (k_scAt_ok hV n_2 hn_2) ?_
      refine r_astore_n (ls' := [(3, .ref (D 0 n_2)), (0, .ref 0), (1, .int (nI n_2)), (2, .int n)]) (by decide) rfl dc_1_6_5 ?_
      refine r_aload_n rfl dc_1_6_6 ?_
      refine r_ifnull dc_1_6_7 ?_
      refine r_iload_n rfl dc_1_6_10 ?_
      refine r_iconst (v := nI 0) (by decide) dc_1_6_11 ?_
      refine r_bipush (v := nI 9) (by decide) dc_1_6_12 ?_
      by_cases h_14 : nI 0 ≤ n ∧ n ≤ nI 9
      · skip
        obtain ⟨n_14, hn_14, e_14⟩ := g_nat2 h_14 (by omega) (by omega)
        subst e_14
        refine h_callS (as := [.int (nI n_14), .int (nI 0), .int (nI 9)]) (rest := []) (v := .int (nI 1)) rfl rfl iv_0_s84 (Or.inl rfl) na_0_13 rfl (show (0 : Nat) ≤ 8 by decide) dc_1_6_14 (mm_Ev_up (by decide : 1 ≤ 4) (by have h9 := k_in (hk M T cs) (nI n_14) (nI 0) (nI 9); rw [show sp_in (nI n_14) (nI 0) (nI 9) = nI 1 from sp_in_ok (by omega) (by omega) (by omega)] at h9; exact h9)) ?_
        refine r_ifne (t := 22) (by decide) dc_1_6_17 (fun c_17 => ?_) (fun c_17 => ?_)
        · skip
          refine r_aload_n rfl dc_1_6_22 ?_
          refine r_iload_n rfl dc_1_6_23 ?_
          refine h_pint (t := (9, 0, rl [(6, D 1 n_2)])) fx_0_132 (hSc n_2 (by omega)).1 (hSc n_2 (by omega)).2.1 (Or.inl fn_9_5) ty_9_5 (pi_9_5 _ _ _ _) dc_1_6_24 ?_
          refine r_iconst (v := nI 1) (by decide) dc_1_6_27 ?_
          refine r_zret rfl (by decide) dc_1_6_28 ?_
          refine ⟨_, _, io, _, nf, ny, tp, ⟨mm_Ev_up (by decide) (c_beds_ok (hk M T (w1 cs (D 0 n_2) 5 (nI n_14))) hM io sg nh h3 hnh n_2 n_14 hn_2 (by omega)), CV_beds hV hn_2 (by omega)⟩, rfl⟩
        · exact absurd c_17 (by decide)
      · skip
        refine h_callS (as := [.int n, .int (nI 0), .int (nI 9)]) (rest := []) (v := .int (nI 0)) rfl rfl iv_0_s84 (Or.inl rfl) na_0_13 rfl (show (0 : Nat) ≤ 8 by decide) dc_1_6_14 (mm_Ev_up (by decide : 1 ≤ 4) (by have h9 := k_in (hk M T cs) n (nI 0) (nI 9); rw [show sp_in n (nI 0) (nI 9) = nI 0 from if_neg h_14] at h9; exact h9)) ?_
        refine r_ifne (t := 22) (by decide) dc_1_6_17 (fun c_17 => ?_) (fun c_17 => ?_)
        · exact absurd c_17 (by decide)
        · skip
          refine r_iconst (v := nI 0) (by decide) dc_1_6_20 ?_
          refine r_zret rfl (by decide) dc_1_6_21 ?_
          refine ⟨_, _, io, sg, nf, ny, tp, ⟨mm_Ev_up (by decide) (c_beds_no (hk M T cs) hM io sg _ _ (fun g => h_14 (g.2))), hV⟩, rfl⟩
    · skip
      refine h_callv (t := cT e 0) (as := [.int h]) (rest := []) (v := .null) (M1 := hk M T cs) rfl rfl iv_0_v128 (Or.inl rfl) na_1_39 (hF 0 (by decide)) ⟨by omega, by omega⟩ (show (0 : Nat) < 14 by decide) o_39 rfl (show (0 : Nat) ≤ 8 by decide) dc_1_6_2 (mm_Ev_up (by decide : 2 ≤ 4) (k_scAt_no hV h h_2)) ?_
      refine r_astore_nZ (ls' := [(3, .null), (0, .ref 0), (1, .int h), (2, .int n)]) (by decide) rfl dc_1_6_5 ?_
      refine r_aload_nZ rfl dc_1_6_6 ?_
      refine r_ifnullZ (t := 20) (by decide) dc_1_6_7 ?_
      refine r_iconst (v := nI 0) (by decide) dc_1_6_20 ?_
      refine r_zret rfl (by decide) dc_1_6_21 ?_
      refine ⟨_, _, io, sg, nf, ny, tp, ⟨mm_Ev_up (by decide) (c_beds_no (hk M T cs) hM io sg _ _ (fun g => h_2 (by rw [← h3]; exact g.1))), hV⟩, rfl⟩
  obtain ⟨z9, ⟨v, cs2, io2, sg2, nf2, ny2, tp2, p9, e9⟩, h9⟩ := hq9
  subst e9
  exact ⟨v, cs2, io2, sg2, nf2, ny2, tp2, p9, h9⟩
theorem st_beds (h n : Int32) : StpN 38 195 [.int h, .int n] := fun M T cs sg io e D nh nx ns nf ny tp cm w cn wc hV => by
  obtain ⟨v, cs2, io2, sg2, nf2, ny2, tp2, hp, h⟩ := s_beds hV h n
  exact ⟨v, cs2, io2, sg2, nf2, ny2, tp2, hp, mm_Ev_up (by decide) h⟩
set_option maxHeartbeats 4000000 in
theorem s_level {M : mH} {T : Nat → mT} {cs sg : Nat → Nat → Int32} {io : Nat → Int32} {e : Nat → Nat} {D : Nat → Nat → Nat} {nh nx ns nf ny tp : Nat} {cm : Nat → Nat} {w : Nat → Nat → Nat} {cn : Nat → Nat} {wc : Nat → Nat → Nat} (hV : CV M T cs io sg e D nh nx ns nf ny tp cm w cn wc) (s t n : Int32) : ∃ (v : Value), ∃ (cs2 : Nat → Nat → Int32), ∃ (io2 : Nat → Int32), ∃ (sg2 : Nat → Nat → Int32), ∃ (nf2 : Nat), ∃ (ny2 : Nat), ∃ (tp2 : Nat), (mm_Ev 8 221 [.ref 100, .int s, .int t, .int n] (rf_mk (hk M T cs2) io sg) (some v, rf_mk (hk M T cs2) io2 sg2) ∧ CV M T cs2 io2 sg2 e D nh nx ns nf2 ny2 tp2 cm w cn wc) ∧ mm_Ev 5 101 [.ref 0, .int s, .int t, .int n] (hk M T cs) ((some v, hk M T cs2)) := by
  have hq9 : ∃ z, (fun r9 => ∃ (v : Value), ∃ (cs2 : Nat → Nat → Int32), ∃ (io2 : Nat → Int32), ∃ (sg2 : Nat → Nat → Int32), ∃ (nf2 : Nat), ∃ (ny2 : Nat), ∃ (tp2 : Nat), (mm_Ev 8 221 [.ref 100, .int s, .int t, .int n] (rf_mk (hk M T cs2) io sg) (some v, rf_mk (hk M T cs2) io2 sg2) ∧ CV M T cs2 io2 sg2 e D nh nx ns nf2 ny2 tp2 cm w cn wc) ∧ r9 = ((some v, hk M T cs2))) z ∧ mm_Ev 5 101 [.ref 0, .int s, .int t, .int n] (hk M T cs) z := by
    obtain ⟨⟨hM, hMs, hW⟩, hC, hT, hR, hJ⟩ := id hV
    obtain ⟨hF, ⟨hL0, hL1, hL2⟩, hSc, hAg, hSt⟩ := id hC
    obtain ⟨⟨⟨h3, hnh⟩, ⟨h4, hnx⟩, ⟨h5, hns⟩, ⟨h7, hnf⟩, ⟨h6, hny⟩, ⟨h23, htp⟩⟩, hRa, hRb, hRs, hRs2, hRs3, hRx, hCD, hRt, hRt2, hRf⟩ := id hR
    refine r_evQ (by decide +kernel) (show (4 : Nat) ≤ mm_nL 101 by decide +kernel) ?_
    show mm_Ru 4 (0, 5, false, prog_1_method_12_code, some .boolean) 0 [(0, .ref 0), (1, .int s), (2, .int t), (3, .int n)] [] (hk M T cs) (fun r9 => ∃ (v : Value), ∃ (cs2 : Nat → Nat → Int32), ∃ (io2 : Nat → Int32), ∃ (sg2 : Nat → Nat → Int32), ∃ (nf2 : Nat), ∃ (ny2 : Nat), ∃ (tp2 : Nat), (mm_Ev 8 221 [.ref 100, .int s, .int t, .int n] (rf_mk (hk M T cs2) io sg) (some v, rf_mk (hk M T cs2) io2 sg2) ∧ CV M T cs2 io2 sg2 e D nh nx ns nf2 ny2 tp2 cm w cn wc) ∧ r9 = ((some v, hk M T cs2)))
    refine r_aload_n rfl dc_1_12_0 ?_
    refine r_iload_n rfl dc_1_12_1 ?_
    by_cases h_2 : 0 ≤ s ∧ s < nI ns
    · skip
      obtain ⟨n_2, hn_2, e_2⟩ := g_lt h_2 (by omega)
      subst e_2
      refine h_callv (t := cT e 0) (as := [.int (nI n_2)]) (rest := []) (v := .ref (D 7 n_2)) (M1 := hk M T cs) rfl rfl iv_0_v180 (Or.inl rfl) na_1_102 (hF 0 (by decide)) ⟨by omega, by omega⟩ (show (0 : Nat) < 14 by decide) o_102 rfl (show (0 : Nat) ≤ 8 by decide) dc_1_12_2 (k_stAt_ok hV n_2 hn_2) ?_
      refine r_astore (ls' := [(4, .ref (D 7 n_2)), (0, .ref 0), (1, .int (nI n_2)), (2, .int t), (3, .int n)]) (by decide) rfl dc_1_12_5 ?_
      refine r_aload rfl dc_1_12_7 ?_
      refine r_ifnull dc_1_12_9 ?_
      refine r_iload_n rfl dc_1_12_12 ?_
      refine r_iconst (v := nI 0) (by decide) dc_1_12_13 ?_
      refine r_iconst (v := nI 3) (by decide) dc_1_12_14 ?_
      by_cases h_15 : nI 0 ≤ t ∧ t ≤ nI 3
      · skip
        obtain ⟨n_15, hn_15, e_15⟩ := g_nat2 h_15 (by omega) (by omega)
        subst e_15
        refine h_callS (as := [.int (nI n_15), .int (nI 0), .int (nI 3)]) (rest := []) (v := .int (nI 1)) rfl rfl iv_0_s84 (Or.inl rfl) na_0_13 rfl (show (0 : Nat) ≤ 8 by decide) dc_1_12_15 (mm_Ev_up (by decide : 1 ≤ 4) (by have h9 := k_in (hk M T cs) (nI n_15) (nI 0) (nI 3); rw [show sp_in (nI n_15) (nI 0) (nI 3) = nI 1 from sp_in_ok (by omega) (by omega) (by omega)] at h9; exact h9)) ?_
        refine r_ifeq (t := 31) (by decide) dc_1_12_18 (fun c_18 => ?_) (fun c_18 => ?_)
        · exact absurd c_18 (by decide)
        · skip
          refine r_iload_n rfl dc_1_12_21 ?_
          refine r_iconst (v := -1) (by decide) dc_1_12_22 ?_
          refine r_bipush (v := nI 9) (by decide) dc_1_12_23 ?_
          by_cases h_25 : (-1) ≤ n ∧ n ≤ nI 9
          · skip
            refine h_callS (as := [.int n, .int ((-1)), .int (nI 9)]) (rest := []) (v := .int (nI 1)) rfl rfl iv_0_s84 (Or.inl rfl) na_0_13 rfl (show (0 : Nat) ≤ 8 by decide) dc_1_12_25 (mm_Ev_up (by decide : 1 ≤ 4) (by have h9 := k_in (hk M T cs) n ((-1)) (nI 9); rw [show sp_in n ((-1)) (nI 9) = nI 1 from if_pos h_25] at h9; exact h9)) ?_
            refine r_ifne (t := 33) (by decide) dc_1_12_28 (fun c_28 => ?_) (fun c_28 => ?_)
            · skip
              refine r_aload rfl dc_1_12_33 ?_
              refine h_get (t := (11, 0, rl [(6, D 9 n_2), (5, D 8 n_2)])) (v := .ref (D 8 n_2)) fx_0_184 (hSt n_2 (by omega)).1 (hSt n_2 (by omega)).2.1 (rfl) dc_1_12_35 ?_
              refine r_iload_n rfl dc_1_12_38 ?_
              refine r_iload_n rfl dc_1_12_39 ?_
              refine h_ist (n := 4) (e := n_15) (hSt n_2 (by omega)).2.2.1.1 (hSt n_2 (by omega)).2.2.1.2.1 (show n_15 < 4 by omega) (by omega) dc_1_12_40 ?_
              refine r_iconst (v := nI 1) (by decide) dc_1_12_41 ?_
              refine r_zret rfl (by decide) dc_1_12_42 ?_
              refine ⟨_, _, io, _, nf, ny, tp, ⟨mm_Ev_up (by decide) (c_level_ok (hk M T (w1 cs (D 8 n_2) n_15 n)) hM io sg ns h5 hns n_2 n_15 n hn_2 (by omega) h_25), CV_level hV hn_2 (by omega) (m1_in h_25)⟩, rfl⟩
            · exact absurd c_28 (by decide)
          · skip
            refine h_callS (as := [.int n, .int ((-1)), .int (nI 9)]) (rest := []) (v := .int (nI 0)) rfl rfl iv_0_s84 (Or.inl rfl) na_0_13 rfl (show (0 : Nat) ≤ 8 by decide) dc_1_12_25 (mm_Ev_up (by decide : 1 ≤ 4) (by have h9 := k_in (hk M T cs) n ((-1)) (nI 9); rw [show sp_in n ((-1)) (nI 9) = nI 0 from if_neg h_25] at h9; exact h9)) ?_
            refine r_ifne (t := 33) (by decide) dc_1_12_28 (fun c_28 => ?_) (fun c_28 => ?_)
            · exact absurd c_28 (by decide)
            · skip
              refine r_iconst (v := nI 0) (by decide) dc_1_12_31 ?_
              refine r_zret rfl (by decide) dc_1_12_32 ?_
              refine ⟨_, _, io, sg, nf, ny, tp, ⟨mm_Ev_up (by decide) (c_level_no (hk M T cs) hM io sg _ _ _ (fun g => h_25 (g.2.2))), hV⟩, rfl⟩
      · skip
        refine h_callS (as := [.int t, .int (nI 0), .int (nI 3)]) (rest := []) (v := .int (nI 0)) rfl rfl iv_0_s84 (Or.inl rfl) na_0_13 rfl (show (0 : Nat) ≤ 8 by decide) dc_1_12_15 (mm_Ev_up (by decide : 1 ≤ 4) (by have h9 := k_in (hk M T cs) t (nI 0) (nI 3); rw [show sp_in t (nI 0) (nI 3) = nI 0 from if_neg h_15] at h9; exact h9)) ?_
        refine r_ifeq (t := 31) (by decide) dc_1_12_18 (fun c_18 => ?_) (fun c_18 => ?_)
        · skip
          refine r_iconst (v := nI 0) (by decide) dc_1_12_31 ?_
          refine r_zret rfl (by decide) dc_1_12_32 ?_
          refine ⟨_, _, io, sg, nf, ny, tp, ⟨mm_Ev_up (by decide) (c_level_no (hk M T cs) hM io sg _ _ _ (fun g => h_15 (g.2.1))), hV⟩, rfl⟩
        · exact absurd c_18 (by decide)
    · skip
      refine h_callv (t := cT e 0) (as := [.int s]) (rest := []) (v := .null) (M1 := hk M T cs) rfl rfl iv_0_v180 (Or.inl rfl) na_1_102 (hF 0 (by decide)) ⟨by omega, by omega⟩ (show (0 : Nat) < 14 by decide) o_102 rfl (show (0 : Nat) ≤ 8 by decide) dc_1_12_2 (mm_Ev_up (by decide : 2 ≤ 4) (k_stAt_no hV s h_2)) ?_
      refine r_astoreZ (ls' := [(4, .null), (0, .ref 0), (1, .int s), (2, .int t), (3, .int n)]) (by decide) rfl dc_1_12_5 ?_
      refine r_aloadZ rfl dc_1_12_7 ?_
      refine r_ifnullZ (t := 31) (by decide) dc_1_12_9 ?_
      refine r_iconst (v := nI 0) (by decide) dc_1_12_31 ?_
      refine r_zret rfl (by decide) dc_1_12_32 ?_
      refine ⟨_, _, io, sg, nf, ny, tp, ⟨mm_Ev_up (by decide) (c_level_no (hk M T cs) hM io sg _ _ _ (fun g => h_2 (by rw [← h5]; exact g.1))), hV⟩, rfl⟩
  obtain ⟨z9, ⟨v, cs2, io2, sg2, nf2, ny2, tp2, p9, e9⟩, h9⟩ := hq9
  subst e9
  exact ⟨v, cs2, io2, sg2, nf2, ny2, tp2, p9, h9⟩
theorem st_level (s t n : Int32) : StpN 101 221 [.int s, .int t, .int n] := fun M T cs sg io e D nh nx ns nf ny tp cm w cn wc hV => by
  obtain ⟨v, cs2, io2, sg2, nf2, ny2, tp2, hp, h⟩ := s_level hV s t n
  exact ⟨v, cs2, io2, sg2, nf2, ny2, tp2, hp, mm_Ev_up (by decide) h⟩
set_option maxHeartbeats 4000000 in
theorem s_wish {M : mH} {T : Nat → mT} {cs sg : Nat → Nat → Int32} {io : Nat → Int32} {e : Nat → Nat} {D : Nat → Nat → Nat} {nh nx ns nf ny tp : Nat} {cm : Nat → Nat} {w : Nat → Nat → Nat} {cn : Nat → Nat} {wc : Nat → Nat → Nat} (hV : CV M T cs io sg e D nh nx ns nf ny tp cm w cn wc) (s h : Int32) : ∃ (v : Value), ∃ (cs2 : Nat → Nat → Int32), ∃ (io2 : Nat → Int32), ∃ (sg2 : Nat → Nat → Int32), ∃ (nf2 : Nat), ∃ (ny2 : Nat), ∃ (tp2 : Nat), (mm_Ev 8 223 [.ref 100, .int s, .int h] (rf_mk (hk M T cs2) io sg) (some v, rf_mk (hk M T cs2) io2 sg2) ∧ CV M T cs2 io2 sg2 e D nh nx ns nf2 ny2 tp2 cm w cn wc) ∧ mm_Ev 5 103 [.ref 0, .int s, .int h] (hk M T cs) ((some v, hk M T cs2)) := by
  have hq9 : ∃ z, (fun r9 => ∃ (v : Value), ∃ (cs2 : Nat → Nat → Int32), ∃ (io2 : Nat → Int32), ∃ (sg2 : Nat → Nat → Int32), ∃ (nf2 : Nat), ∃ (ny2 : Nat), ∃ (tp2 : Nat), (mm_Ev 8 223 [.ref 100, .int s, .int h] (rf_mk (hk M T cs2) io sg) (some v, rf_mk (hk M T cs2) io2 sg2) ∧ CV M T cs2 io2 sg2 e D nh nx ns nf2 ny2 tp2 cm w cn wc) ∧ r9 = ((some v, hk M T cs2))) z ∧ mm_Ev 5 103 [.ref 0, .int s, .int h] (hk M T cs) z := by
    obtain ⟨⟨hM, hMs, hW⟩, hC, hT, hR, hJ⟩ := id hV
    obtain ⟨hF, ⟨hL0, hL1, hL2⟩, hSc, hAg, hSt⟩ := id hC
    obtain ⟨⟨⟨h3, hnh⟩, ⟨h4, hnx⟩, ⟨h5, hns⟩, ⟨h7, hnf⟩, ⟨h6, hny⟩, ⟨h23, htp⟩⟩, hRa, hRb, hRs, hRs2, hRs3, hRx, hCD, hRt, hRt2, hRf⟩ := id hR
    refine r_evQ (by decide +kernel) (show (3 : Nat) ≤ mm_nL 103 by decide +kernel) ?_
    show mm_Ru 4 (0, 4, false, prog_1_method_13_code, some .boolean) 0 [(0, .ref 0), (1, .int s), (2, .int h)] [] (hk M T cs) (fun r9 => ∃ (v : Value), ∃ (cs2 : Nat → Nat → Int32), ∃ (io2 : Nat → Int32), ∃ (sg2 : Nat → Nat → Int32), ∃ (nf2 : Nat), ∃ (ny2 : Nat), ∃ (tp2 : Nat), (mm_Ev 8 223 [.ref 100, .int s, .int h] (rf_mk (hk M T cs2) io sg) (some v, rf_mk (hk M T cs2) io2 sg2) ∧ CV M T cs2 io2 sg2 e D nh nx ns nf2 ny2 tp2 cm w cn wc) ∧ r9 = ((some v, hk M T cs2)))
    refine r_aload_n rfl dc_1_13_0 ?_
    refine r_iload_n rfl dc_1_13_1 ?_
    by_cases h_2 : 0 ≤ s ∧ s < nI ns
    · skip
      obtain ⟨n_2, hn_2, e_2⟩ := g_lt h_2 (by omega)
      subst e_2
      refine h_callv (t := cT e 0) (as := [.int (nI n_2)]) (rest := []) (v := .ref (D 7 n_2)) (M1 := hk M T cs) rfl rfl iv_0_v180 (Or.inl rfl) na_1_102 (hF 0 (by decide)) ⟨by omega, by omega⟩ (show (0 : Nat) < 14 by decide) o_102 rfl (show (0 : Nat) ≤ 8 by decide) dc_1_13_2 (k_stAt_ok hV n_2 hn_2) ?_
      refine r_astore_n (ls' := [(3, .ref (D 7 n_2)), (0, .ref 0), (1, .int (nI n_2)), (2, .int h)]) (by decide) rfl dc_1_13_5 ?_
      refine r_aload_n rfl dc_1_13_6 ?_
      refine r_ifnull dc_1_13_7 ?_
      refine r_aload_n rfl dc_1_13_10 ?_
      refine r_iload_n rfl dc_1_13_11 ?_
      by_cases h_12 : 0 ≤ h ∧ h < nI nh
      · skip
        obtain ⟨n_12, hn_12, e_12⟩ := g_lt h_12 (by omega)
        subst e_12
        refine h_callv (t := cT e 0) (as := [.int (nI n_12)]) (rest := []) (v := .ref (D 0 n_12)) (M1 := hk M T cs) rfl rfl iv_0_v128 (Or.inl rfl) na_1_39 (hF 0 (by decide)) ⟨by omega, by omega⟩ (show (0 : Nat) < 14 by decide) o_39 rfl (show (0 : Nat) ≤ 8 by decide) dc_1_13_12 (k_scAt_ok hV n_12 hn_12) ?_
        refine r_ifnull dc_1_13_15 ?_
        refine r_aload_n rfl dc_1_13_18 ?_
        refine r_iload_n rfl dc_1_13_19 ?_
        by_cases h_20 : sg 56 n_2 = 0 ∧ ¬ sg 51 n_2 = nI n_12 ∧ tN (sg 59 n_2) < 4 ∧ ∀ j, j < tN (sg 59 n_2) → ¬ sg 60 (4 * n_2 + j) = nI n_12
        · skip
          have q59 := inN_tN (hRt n_2 hn_2).2.2.2.2.2.2.1 (by decide)
          refine h_callv (t := (11, 0, rl [(6, D 9 n_2), (5, D 8 n_2)])) (as := [.int (nI n_12)]) (rest := []) (v := .int (nI 1)) (M1 := hk M T (w1 (w1 cs (D 9 n_2) (tN (sg 59 n_2)) (nI n_12)) (D 7 n_2) 7 (nI (tN (sg 59 n_2) + 1)))) rfl rfl iv_0_v187 (Or.inl rfl) na_1_104 (hSt n_2 (by omega)).1 (hSt n_2 (by omega)).2.1 (show (11 : Nat) < 14 by decide) o_104 rfl (show (0 : Nat) ≤ 8 by decide) dc_1_13_20 (mm_Ev_up (by decide : 2 ≤ 4) (k_addW_ok M T cs sg D n_2 _ (hSt n_2 hn_2) q59.2 (nI n_12) h_20.1 h_20.2.1 h_20.2.2.1 h_20.2.2.2 (DJ_ne hJ (dvl_s (by decide) (by decide) hn_2) (dvl_s (by decide) (by decide) hn_2) (by omega)))) ?_
          refine r_ifeq (t := 30) (by decide) dc_1_13_23 (fun c_23 => ?_) (fun c_23 => ?_)
          · exact absurd c_23 (by decide)
          · skip
            refine r_iconst (v := nI 1) (by decide) dc_1_13_26 ?_
            refine r_goto (t := 31) (by decide) dc_1_13_27 ?_
            refine r_zret rfl (by decide) dc_1_13_31 ?_
            refine ⟨_, _, io, _, nf, ny, tp, ⟨mm_Ev_up (by decide) (c_wish_ok (hk M T (w1 (w1 cs (D 9 n_2) (tN (sg 59 n_2)) (nI n_12)) (D 7 n_2) 7 (nI (tN (sg 59 n_2) + 1)))) hM io sg ns h5 hns nh h3 hnh n_2 n_12 hn_2 hn_12 _ q59.1 q59.2 ⟨h_20.2.1, (at_iff (by omega)).mpr h_20.2.2.2, by omega, h_20.1⟩), CV_wish hV hn_2 hn_12 q59.1 h_20.2.2.1 h_20.1 h_20.2.2.2⟩, rfl⟩
        · skip
          have q59 := inN_tN (hRt n_2 hn_2).2.2.2.2.2.2.1 (by decide)
          refine h_callv (t := (11, 0, rl [(6, D 9 n_2), (5, D 8 n_2)])) (as := [.int (nI n_12)]) (rest := []) (v := .int (nI 0)) (M1 := hk M T cs) rfl rfl iv_0_v187 (Or.inl rfl) na_1_104 (hSt n_2 (by omega)).1 (hSt n_2 (by omega)).2.1 (show (11 : Nat) < 14 by decide) o_104 rfl (show (0 : Nat) ≤ 8 by decide) dc_1_13_20 (mm_Ev_up (by decide : 2 ≤ 4) (k_addW_no M T cs sg D n_2 _ (hSt n_2 hn_2) q59.2 (nI n_12) h_20)) ?_
          refine r_ifeq (t := 30) (by decide) dc_1_13_23 (fun c_23 => ?_) (fun c_23 => ?_)
          · skip
            refine r_iconst (v := nI 0) (by decide) dc_1_13_30 ?_
            refine r_zret rfl (by decide) dc_1_13_31 ?_
            refine ⟨_, _, io, sg, nf, ny, tp, ⟨mm_Ev_up (by decide) (c_wish_n2 (hk M T cs) hM io sg ns h5 hns nh h3 hnh n_2 n_12 hn_2 hn_12 _ q59.1 q59.2 (fun g => h_20 ⟨g.2.2.2, g.1, by have := g.2.2.1; omega, (at_iff (by omega)).mp g.2.1⟩)), hV⟩, rfl⟩
          · exact absurd c_23 (by decide)
      · skip
        refine h_callv (t := cT e 0) (as := [.int h]) (rest := []) (v := .null) (M1 := hk M T cs) rfl rfl iv_0_v128 (Or.inl rfl) na_1_39 (hF 0 (by decide)) ⟨by omega, by omega⟩ (show (0 : Nat) < 14 by decide) o_39 rfl (show (0 : Nat) ≤ 8 by decide) dc_1_13_12 (mm_Ev_up (by decide : 2 ≤ 4) (k_scAt_no hV h h_12)) ?_
        refine r_ifnullZ (t := 30) (by decide) dc_1_13_15 ?_
        refine r_iconst (v := nI 0) (by decide) dc_1_13_30 ?_
        refine r_zret rfl (by decide) dc_1_13_31 ?_
        refine ⟨_, _, io, sg, nf, ny, tp, ⟨mm_Ev_up (by decide) (c_wish_no (hk M T cs) hM io sg _ _ (fun g => h_12 (by rw [← h3]; exact g.2))), hV⟩, rfl⟩
    · skip
      refine h_callv (t := cT e 0) (as := [.int s]) (rest := []) (v := .null) (M1 := hk M T cs) rfl rfl iv_0_v180 (Or.inl rfl) na_1_102 (hF 0 (by decide)) ⟨by omega, by omega⟩ (show (0 : Nat) < 14 by decide) o_102 rfl (show (0 : Nat) ≤ 8 by decide) dc_1_13_2 (mm_Ev_up (by decide : 2 ≤ 4) (k_stAt_no hV s h_2)) ?_
      refine r_astore_nZ (ls' := [(3, .null), (0, .ref 0), (1, .int s), (2, .int h)]) (by decide) rfl dc_1_13_5 ?_
      refine r_aload_nZ rfl dc_1_13_6 ?_
      refine r_ifnullZ (t := 30) (by decide) dc_1_13_7 ?_
      refine r_iconst (v := nI 0) (by decide) dc_1_13_30 ?_
      refine r_zret rfl (by decide) dc_1_13_31 ?_
      refine ⟨_, _, io, sg, nf, ny, tp, ⟨mm_Ev_up (by decide) (c_wish_no (hk M T cs) hM io sg _ _ (fun g => h_2 (by rw [← h5]; exact g.1))), hV⟩, rfl⟩
  obtain ⟨z9, ⟨v, cs2, io2, sg2, nf2, ny2, tp2, p9, e9⟩, h9⟩ := hq9
  subst e9
  exact ⟨v, cs2, io2, sg2, nf2, ny2, tp2, p9, h9⟩
theorem st_wish (s h : Int32) : StpN 103 223 [.int s, .int h] := fun M T cs sg io e D nh nx ns nf ny tp cm w cn wc hV => by
  obtain ⟨v, cs2, io2, sg2, nf2, ny2, tp2, hp, h⟩ := s_wish hV s h
  exact ⟨v, cs2, io2, sg2, nf2, ny2, tp2, hp, mm_Ev_up (by decide) h⟩
set_option maxHeartbeats 4000000 in
theorem s_out {M : mH} {T : Nat → mT} {cs sg : Nat → Nat → Int32} {io : Nat → Int32} {e : Nat → Nat} {D : Nat → Nat → Nat} {nh nx ns nf ny tp : Nat} {cm : Nat → Nat} {w : Nat → Nat → Nat} {cn : Nat → Nat} {wc : Nat → Nat → Nat} (hV : CV M T cs io sg e D nh nx ns nf ny tp cm w cn wc) (s : Int32) : ∃ (v : Value), ∃ (cs2 : Nat → Nat → Int32), ∃ (io2 : Nat → Int32), ∃ (sg2 : Nat → Nat → Int32), ∃ (nf2 : Nat), ∃ (ny2 : Nat), ∃ (tp2 : Nat), (mm_Ev 8 247 [.ref 100, .int s] (rf_mk (hk M T cs2) io sg) (some v, rf_mk (hk M T cs2) io2 sg2) ∧ CV M T cs2 io2 sg2 e D nh nx ns nf2 ny2 tp2 cm w cn wc) ∧ mm_Ev 5 140 [.ref 0, .int s] (hk M T cs) ((some v, hk M T cs2)) := by
  have hq9 : ∃ z, (fun r9 => ∃ (v : Value), ∃ (cs2 : Nat → Nat → Int32), ∃ (io2 : Nat → Int32), ∃ (sg2 : Nat → Nat → Int32), ∃ (nf2 : Nat), ∃ (ny2 : Nat), ∃ (tp2 : Nat), (mm_Ev 8 247 [.ref 100, .int s] (rf_mk (hk M T cs2) io sg) (some v, rf_mk (hk M T cs2) io2 sg2) ∧ CV M T cs2 io2 sg2 e D nh nx ns nf2 ny2 tp2 cm w cn wc) ∧ r9 = ((some v, hk M T cs2))) z ∧ mm_Ev 5 140 [.ref 0, .int s] (hk M T cs) z := by
    obtain ⟨⟨hM, hMs, hW⟩, hC, hT, hR, hJ⟩ := id hV
    obtain ⟨hF, ⟨hL0, hL1, hL2⟩, hSc, hAg, hSt⟩ := id hC
    obtain ⟨⟨⟨h3, hnh⟩, ⟨h4, hnx⟩, ⟨h5, hns⟩, ⟨h7, hnf⟩, ⟨h6, hny⟩, ⟨h23, htp⟩⟩, hRa, hRb, hRs, hRs2, hRs3, hRx, hCD, hRt, hRt2, hRf⟩ := id hR
    refine r_evQ (by decide +kernel) (show (2 : Nat) ≤ mm_nL 140 by decide +kernel) ?_
    show mm_Ru 4 (0, 3, false, prog_1_method_16_code, some .boolean) 0 [(0, .ref 0), (1, .int s)] [] (hk M T cs) (fun r9 => ∃ (v : Value), ∃ (cs2 : Nat → Nat → Int32), ∃ (io2 : Nat → Int32), ∃ (sg2 : Nat → Nat → Int32), ∃ (nf2 : Nat), ∃ (ny2 : Nat), ∃ (tp2 : Nat), (mm_Ev 8 247 [.ref 100, .int s] (rf_mk (hk M T cs2) io sg) (some v, rf_mk (hk M T cs2) io2 sg2) ∧ CV M T cs2 io2 sg2 e D nh nx ns nf2 ny2 tp2 cm w cn wc) ∧ r9 = ((some v, hk M T cs2)))
    refine r_aload_n rfl dc_1_16_0 ?_
    refine r_iload_n rfl dc_1_16_1 ?_
    by_cases h_2 : 0 ≤ s ∧ s < nI ns
    · skip
      obtain ⟨n_2, hn_2, e_2⟩ := g_lt h_2 (by omega)
      subst e_2
      refine h_callv (t := cT e 0) (as := [.int (nI n_2)]) (rest := []) (v := .ref (D 7 n_2)) (M1 := hk M T cs) rfl rfl iv_0_v180 (Or.inl rfl) na_1_102 (hF 0 (by decide)) ⟨by omega, by omega⟩ (show (0 : Nat) < 14 by decide) o_102 rfl (show (0 : Nat) ≤ 8 by decide) dc_1_16_2 (k_stAt_ok hV n_2 hn_2) ?_
      refine r_astore_n (ls' := [(2, .ref (D 7 n_2)), (0, .ref 0), (1, .int (nI n_2))]) (by decide) rfl dc_1_16_5 ?_
      refine r_aload_n rfl dc_1_16_6 ?_
      refine r_ifnull dc_1_16_7 ?_
      refine r_aload_n rfl dc_1_16_10 ?_
      refine h_get (t := (11, 0, rl [(6, D 9 n_2), (5, D 8 n_2)])) (v := .int (sg 56 n_2)) fx_0_204 (hSt n_2 (by omega)).1 (hSt n_2 (by omega)).2.1 (show some (Value.int _) = _ from congrArg (fun z => some (Value.int z)) ((hV.2.1.2.2.2.2 n_2 (by omega)).2.2.2.1.2.2.2.2.2.2.1)) dc_1_16_11 ?_
      refine r_iconst (v := nI 1) (by decide) dc_1_16_14 ?_
      refine r_iceq (t := 27) (by decide) dc_1_16_15 (fun c_15 => ?_) (fun c_15 => ?_)
      · skip
        refine r_aload_n rfl dc_1_16_27 ?_
        refine r_iconst (v := -1) (by decide) dc_1_16_28 ?_
        refine r_iconst (v := -1) (by decide) dc_1_16_29 ?_
        have q59 := inN_tN (hRt n_2 hn_2).2.2.2.2.2.2.1 (by decide)
        have hse := k_settle M T cs sg D n_2 _ (hSt n_2 hn_2) q59.2 (-1) (-1)
        rw [if_pos rfl] at hse
        refine h_call0 (t := (11, 0, rl [(6, D 9 n_2), (5, D 8 n_2)])) (as := [.int ((-1)), .int ((-1))]) (rest := []) (M1 := hk M T (w1 (w1 (w1 cs (D 7 n_2) 9 (-1)) (D 7 n_2) 10 (-1)) (D 7 n_2) 8 (nI 0))) rfl rfl iv_0_v207 (Or.inl rfl) na_1_138 (hSt n_2 (by omega)).1 (hSt n_2 (by omega)).2.1 (show (11 : Nat) < 14 by decide) o_138 rfl (show (0 : Nat) ≤ 8 by decide) dc_1_16_30 (mm_Ev_up (by decide : 1 ≤ 4) (hse)) ?_
        refine r_aload_n rfl dc_1_16_33 ?_
        refine r_iconst (v := nI 2) (by decide) dc_1_16_34 ?_
        refine h_pint (t := (11, 0, rl [(6, D 9 n_2), (5, D 8 n_2)])) fx_0_204 (hSt n_2 (by omega)).1 (hSt n_2 (by omega)).2.1 (Or.inl fn_11_8) ty_11_8 (pi_11_8 _ _ _ _) dc_1_16_35 ?_
        rw [w1_w1]
        have hVo := CV_out hV hn_2
        refine r_aload_n rfl dc_1_16_38 ?_
        refine h_get (t := cT e 0) (v := .ref 20) fx_0_54 (hF 0 (by decide)) ⟨by omega, by omega⟩ (rfl) dc_1_16_39 ?_
        refine r_iload_n rfl dc_1_16_42 ?_
        refine h_call0 (t := cT e 20) (as := [.int (nI n_2)]) (rest := []) (M1 := hk M T (wA (w1 (w1 (w1 cs (D 7 n_2) 9 (-1)) (D 7 n_2) 10 (-1)) (D 7 n_2) 8 (nI 2)) 21 (sp_fo ((w1 (w1 (w1 cs (D 7 n_2) 9 (-1)) (D 7 n_2) 10 (-1)) (D 7 n_2) 8 (nI 2)) 21) (nI n_2) nf))) rfl rfl iv_0_v211 (Or.inl rfl) na_1_139 (hF 20 (by decide)) ⟨by omega, by omega⟩ (show (5 : Nat) < 14 by decide) o_139 rfl (show (0 : Nat) ≤ 8 by decide) dc_1_16_43 (mm_Ev_up (by decide : 1 ≤ 4) (k_forget M hM T e hF _ _ nf hVo.2.2.1.2.2.2.2.1 hnf hVo.2.2.1.2.2.2.2.2.2 (nI n_2))) ?_
        refine r_iconst (v := nI 1) (by decide) dc_1_16_46 ?_
        refine r_zret rfl (by decide) dc_1_16_47 ?_
        refine ⟨_, _, io, _, nf, ny, tp, ⟨mm_Ev_up (by decide) (c_out_ok (hk M T (wA (w1 (w1 (w1 cs (D 7 n_2) 9 (-1)) (D 7 n_2) 10 (-1)) (D 7 n_2) 8 (nI 2)) 21 (sp_fo ((w1 (w1 (w1 cs (D 7 n_2) 9 (-1)) (D 7 n_2) 10 (-1)) (D 7 n_2) 8 (nI 2)) 21) (nI n_2) nf))) hM io sg ns h5 hns nf h7 hnf n_2 hn_2 (Or.inl c_15)), CV_fo hVo (nI n_2)⟩, rfl⟩
      · skip
        refine r_aload_n rfl dc_1_16_18 ?_
        refine h_get (t := (11, 0, rl [(6, D 9 n_2), (5, D 8 n_2)])) (v := .int (sg 56 n_2)) fx_0_204 (hSt n_2 (by omega)).1 (hSt n_2 (by omega)).2.1 (show some (Value.int _) = _ from congrArg (fun z => some (Value.int z)) ((hV.2.1.2.2.2.2 n_2 (by omega)).2.2.2.1.2.2.2.2.2.2.1)) dc_1_16_19 ?_
        refine r_ifeq (t := 27) (by decide) dc_1_16_22 (fun c_22 => ?_) (fun c_22 => ?_)
        · skip
          refine r_aload_n rfl dc_1_16_27 ?_
          refine r_iconst (v := -1) (by decide) dc_1_16_28 ?_
          refine r_iconst (v := -1) (by decide) dc_1_16_29 ?_
          have q59 := inN_tN (hRt n_2 hn_2).2.2.2.2.2.2.1 (by decide)
          have hse := k_settle M T cs sg D n_2 _ (hSt n_2 hn_2) q59.2 (-1) (-1)
          rw [if_pos rfl] at hse
          refine h_call0 (t := (11, 0, rl [(6, D 9 n_2), (5, D 8 n_2)])) (as := [.int ((-1)), .int ((-1))]) (rest := []) (M1 := hk M T (w1 (w1 (w1 cs (D 7 n_2) 9 (-1)) (D 7 n_2) 10 (-1)) (D 7 n_2) 8 (nI 0))) rfl rfl iv_0_v207 (Or.inl rfl) na_1_138 (hSt n_2 (by omega)).1 (hSt n_2 (by omega)).2.1 (show (11 : Nat) < 14 by decide) o_138 rfl (show (0 : Nat) ≤ 8 by decide) dc_1_16_30 (mm_Ev_up (by decide : 1 ≤ 4) (hse)) ?_
          refine r_aload_n rfl dc_1_16_33 ?_
          refine r_iconst (v := nI 2) (by decide) dc_1_16_34 ?_
          refine h_pint (t := (11, 0, rl [(6, D 9 n_2), (5, D 8 n_2)])) fx_0_204 (hSt n_2 (by omega)).1 (hSt n_2 (by omega)).2.1 (Or.inl fn_11_8) ty_11_8 (pi_11_8 _ _ _ _) dc_1_16_35 ?_
          rw [w1_w1]
          have hVo := CV_out hV hn_2
          refine r_aload_n rfl dc_1_16_38 ?_
          refine h_get (t := cT e 0) (v := .ref 20) fx_0_54 (hF 0 (by decide)) ⟨by omega, by omega⟩ (rfl) dc_1_16_39 ?_
          refine r_iload_n rfl dc_1_16_42 ?_
          refine h_call0 (t := cT e 20) (as := [.int (nI n_2)]) (rest := []) (M1 := hk M T (wA (w1 (w1 (w1 cs (D 7 n_2) 9 (-1)) (D 7 n_2) 10 (-1)) (D 7 n_2) 8 (nI 2)) 21 (sp_fo ((w1 (w1 (w1 cs (D 7 n_2) 9 (-1)) (D 7 n_2) 10 (-1)) (D 7 n_2) 8 (nI 2)) 21) (nI n_2) nf))) rfl rfl iv_0_v211 (Or.inl rfl) na_1_139 (hF 20 (by decide)) ⟨by omega, by omega⟩ (show (5 : Nat) < 14 by decide) o_139 rfl (show (0 : Nat) ≤ 8 by decide) dc_1_16_43 (mm_Ev_up (by decide : 1 ≤ 4) (k_forget M hM T e hF _ _ nf hVo.2.2.1.2.2.2.2.1 hnf hVo.2.2.1.2.2.2.2.2.2 (nI n_2))) ?_
          refine r_iconst (v := nI 1) (by decide) dc_1_16_46 ?_
          refine r_zret rfl (by decide) dc_1_16_47 ?_
          refine ⟨_, _, io, _, nf, ny, tp, ⟨mm_Ev_up (by decide) (c_out_ok (hk M T (wA (w1 (w1 (w1 cs (D 7 n_2) 9 (-1)) (D 7 n_2) 10 (-1)) (D 7 n_2) 8 (nI 2)) 21 (sp_fo ((w1 (w1 (w1 cs (D 7 n_2) 9 (-1)) (D 7 n_2) 10 (-1)) (D 7 n_2) 8 (nI 2)) 21) (nI n_2) nf))) hM io sg ns h5 hns nf h7 hnf n_2 hn_2 (Or.inr c_22)), CV_fo hVo (nI n_2)⟩, rfl⟩
        · skip
          refine r_iconst (v := nI 0) (by decide) dc_1_16_25 ?_
          refine r_zret rfl (by decide) dc_1_16_26 ?_
          refine ⟨_, _, io, sg, nf, ny, tp, ⟨mm_Ev_up (by decide) (c_out_n2 (hk M T cs) hM io sg ns h5 hns n_2 hn_2 (fun g => g.elim c_15 c_22)), hV⟩, rfl⟩
    · skip
      refine h_callv (t := cT e 0) (as := [.int s]) (rest := []) (v := .null) (M1 := hk M T cs) rfl rfl iv_0_v180 (Or.inl rfl) na_1_102 (hF 0 (by decide)) ⟨by omega, by omega⟩ (show (0 : Nat) < 14 by decide) o_102 rfl (show (0 : Nat) ≤ 8 by decide) dc_1_16_2 (mm_Ev_up (by decide : 2 ≤ 4) (k_stAt_no hV s h_2)) ?_
      refine r_astore_nZ (ls' := [(2, .null), (0, .ref 0), (1, .int s)]) (by decide) rfl dc_1_16_5 ?_
      refine r_aload_nZ rfl dc_1_16_6 ?_
      refine r_ifnullZ (t := 25) (by decide) dc_1_16_7 ?_
      refine r_iconst (v := nI 0) (by decide) dc_1_16_25 ?_
      refine r_zret rfl (by decide) dc_1_16_26 ?_
      refine ⟨_, _, io, sg, nf, ny, tp, ⟨mm_Ev_up (by decide) (c_out_no (hk M T cs) hM io sg _ (fun g => h_2 (by rw [← h5]; exact g))), hV⟩, rfl⟩
  obtain ⟨z9, ⟨v, cs2, io2, sg2, nf2, ny2, tp2, p9, e9⟩, h9⟩ := hq9
  subst e9
  exact ⟨v, cs2, io2, sg2, nf2, ny2, tp2, p9, h9⟩
theorem st_out (s : Int32) : StpN 140 247 [.int s] := fun M T cs sg io e D nh nx ns nf ny tp cm w cn wc hV => by
  obtain ⟨v, cs2, io2, sg2, nf2, ny2, tp2, hp, h⟩ := s_out hV s
  exact ⟨v, cs2, io2, sg2, nf2, ny2, tp2, hp, mm_Ev_up (by decide) h⟩
set_option maxHeartbeats 4000000 in
theorem s_fact {M : mH} {T : Nat → mT} {cs sg : Nat → Nat → Int32} {io : Nat → Int32} {e : Nat → Nat} {D : Nat → Nat → Nat} {nh nx ns nf ny tp : Nat} {cm : Nat → Nat} {w : Nat → Nat → Nat} {cn : Nat → Nat} {wc : Nat → Nat → Nat} (hV : CV M T cs io sg e D nh nx ns nf ny tp cm w cn wc) (s k d t : Int32) : ∃ (v : Value), ∃ (cs2 : Nat → Nat → Int32), ∃ (io2 : Nat → Int32), ∃ (sg2 : Nat → Nat → Int32), ∃ (nf2 : Nat), ∃ (ny2 : Nat), ∃ (tp2 : Nat), (mm_Ev 8 255 [.ref 100, .int s, .int k, .int d, .int t] (rf_mk (hk M T cs2) io sg) (some v, rf_mk (hk M T cs2) io2 sg2) ∧ CV M T cs2 io2 sg2 e D nh nx ns nf2 ny2 tp2 cm w cn wc) ∧ mm_Ev 5 156 [.ref 0, .int s, .int k, .int d, .int t] (hk M T cs) ((some v, hk M T cs2)) := by
  have hq9 : ∃ z, (fun r9 => ∃ (v : Value), ∃ (cs2 : Nat → Nat → Int32), ∃ (io2 : Nat → Int32), ∃ (sg2 : Nat → Nat → Int32), ∃ (nf2 : Nat), ∃ (ny2 : Nat), ∃ (tp2 : Nat), (mm_Ev 8 255 [.ref 100, .int s, .int k, .int d, .int t] (rf_mk (hk M T cs2) io sg) (some v, rf_mk (hk M T cs2) io2 sg2) ∧ CV M T cs2 io2 sg2 e D nh nx ns nf2 ny2 tp2 cm w cn wc) ∧ r9 = ((some v, hk M T cs2))) z ∧ mm_Ev 5 156 [.ref 0, .int s, .int k, .int d, .int t] (hk M T cs) z := by
    obtain ⟨⟨hM, hMs, hW⟩, hC, hT, hR, hJ⟩ := id hV
    obtain ⟨hF, ⟨hL0, hL1, hL2⟩, hSc, hAg, hSt⟩ := id hC
    obtain ⟨⟨⟨h3, hnh⟩, ⟨h4, hnx⟩, ⟨h5, hns⟩, ⟨h7, hnf⟩, ⟨h6, hny⟩, ⟨h23, htp⟩⟩, hRa, hRb, hRs, hRs2, hRs3, hRx, hCD, hRt, hRt2, hRf⟩ := id hR
    refine r_evQ (by decide +kernel) (show (5 : Nat) ≤ mm_nL 156 by decide +kernel) ?_
    show mm_Ru 4 (0, 6, false, prog_1_method_23_code, some .boolean) 0 [(0, .ref 0), (1, .int s), (2, .int k), (3, .int d), (4, .int t)] [] (hk M T cs) (fun r9 => ∃ (v : Value), ∃ (cs2 : Nat → Nat → Int32), ∃ (io2 : Nat → Int32), ∃ (sg2 : Nat → Nat → Int32), ∃ (nf2 : Nat), ∃ (ny2 : Nat), ∃ (tp2 : Nat), (mm_Ev 8 255 [.ref 100, .int s, .int k, .int d, .int t] (rf_mk (hk M T cs2) io sg) (some v, rf_mk (hk M T cs2) io2 sg2) ∧ CV M T cs2 io2 sg2 e D nh nx ns nf2 ny2 tp2 cm w cn wc) ∧ r9 = ((some v, hk M T cs2)))
    refine r_aload_n rfl dc_1_23_0 ?_
    refine r_iload_n rfl dc_1_23_1 ?_
    by_cases h_2 : 0 ≤ s ∧ s < nI ns
    · skip
      obtain ⟨n_2, hn_2, e_2⟩ := g_lt h_2 (by omega)
      subst e_2
      refine h_callv (t := cT e 0) (as := [.int (nI n_2)]) (rest := []) (v := .ref (D 7 n_2)) (M1 := hk M T cs) rfl rfl iv_0_v180 (Or.inl rfl) na_1_102 (hF 0 (by decide)) ⟨by omega, by omega⟩ (show (0 : Nat) < 14 by decide) o_102 rfl (show (0 : Nat) ≤ 8 by decide) dc_1_23_2 (k_stAt_ok hV n_2 hn_2) ?_
      refine r_astore (ls' := [(5, .ref (D 7 n_2)), (0, .ref 0), (1, .int (nI n_2)), (2, .int k), (3, .int d), (4, .int t)]) (by decide) rfl dc_1_23_5 ?_
      refine r_aload rfl dc_1_23_7 ?_
      refine r_ifnull dc_1_23_9 ?_
      refine r_aload rfl dc_1_23_12 ?_
      refine h_get (t := (11, 0, rl [(6, D 9 n_2), (5, D 8 n_2)])) (v := .int (sg 56 n_2)) fx_0_204 (hSt n_2 (by omega)).1 (hSt n_2 (by omega)).2.1 (show some (Value.int _) = _ from congrArg (fun z => some (Value.int z)) ((hV.2.1.2.2.2.2 n_2 (by omega)).2.2.2.1.2.2.2.2.2.2.1)) dc_1_23_14 ?_
      refine r_iconst (v := nI 1) (by decide) dc_1_23_17 ?_
      refine r_icne (t := 38) (by decide) dc_1_23_18 (fun c_18 => ?_) (fun c_18 => ?_)
      · skip
        refine r_iconst (v := nI 0) (by decide) dc_1_23_38 ?_
        refine r_zret rfl (by decide) dc_1_23_39 ?_
        refine ⟨_, _, io, sg, nf, ny, tp, ⟨mm_Ev_up (by decide) (c_fact_n2 (hk M T cs) hM io sg ns h5 hns n_2 _ _ _ hn_2 (fun g => c_18 g.1)), hV⟩, rfl⟩
      · skip
        refine r_iload_n rfl dc_1_23_21 ?_
        refine r_iconst (v := nI 0) (by decide) dc_1_23_22 ?_
        refine r_iconst (v := nI 3) (by decide) dc_1_23_23 ?_
        by_cases h_24 : nI 0 ≤ k ∧ k ≤ nI 3
        · skip
          obtain ⟨n_24, hn_24, e_24⟩ := g_nat2 h_24 (by omega) (by omega)
          subst e_24
          refine h_callS (as := [.int (nI n_24), .int (nI 0), .int (nI 3)]) (rest := []) (v := .int (nI 1)) rfl rfl iv_0_s84 (Or.inl rfl) na_0_13 rfl (show (0 : Nat) ≤ 8 by decide) dc_1_23_24 (mm_Ev_up (by decide : 1 ≤ 4) (by have h9 := k_in (hk M T cs) (nI n_24) (nI 0) (nI 3); rw [show sp_in (nI n_24) (nI 0) (nI 3) = nI 1 from sp_in_ok (by omega) (by omega) (by omega)] at h9; exact h9)) ?_
          refine r_ifeq (t := 38) (by decide) dc_1_23_27 (fun c_27 => ?_) (fun c_27 => ?_)
          · exact absurd c_27 (by decide)
          · skip
            refine r_iload rfl dc_1_23_30 ?_
            by_cases h_32 : nI 0 ≤ t ∧ t ≤ nI 359
            · skip
              obtain ⟨n_32, hn_32, e_32⟩ := g_nat2 h_32 (by omega) (by omega)
              subst e_32
              refine h_callS (as := [.int (nI n_32)]) (rest := []) (v := .int (nI 1)) rfl rfl iv_0_s108 (Or.inl rfl) na_0_25 rfl (show (0 : Nat) ≤ 8 by decide) dc_1_23_32 (mm_Ev_up (by decide : 2 ≤ 4) (by have h9 := k_isDay (hk M T cs) (nI n_32); rw [show sp_in (nI n_32) (nI 0) (nI 359) = nI 1 from sp_in_ok (by omega) (by omega) (by omega)] at h9; exact h9)) ?_
              refine r_ifne (t := 40) (by decide) dc_1_23_35 (fun c_35 => ?_) (fun c_35 => ?_)
              · skip
                refine r_iload_n rfl dc_1_23_40 ?_
                refine r_iconst (v := -1) (by decide) dc_1_23_41 ?_
                refine r_iceq (t := 52) (by decide) dc_1_23_42 (fun c_42 => ?_) (fun c_42 => ?_)
                · skip
                  refine r_aload_n rfl dc_1_23_52 ?_
                  refine h_get (t := cT e 0) (v := .ref 20) fx_0_54 (hF 0 (by decide)) ⟨by omega, by omega⟩ (rfl) dc_1_23_53 ?_
                  refine r_iload_n rfl dc_1_23_56 ?_
                  refine r_iload_n rfl dc_1_23_57 ?_
                  refine r_iload_n rfl dc_1_23_58 ?_
                  refine r_iload rfl dc_1_23_59 ?_
                  by_cases h_61 : io 8 ≤ nI n_32 ∧ nf < 200
                  · skip
                    refine h_callv (t := cT e 20) (as := [.int (nI n_2), .int (nI n_24), .int d, .int (nI n_32)]) (rest := []) (v := .int (nI 1)) (M1 := hk M T (w1 (w1 (w1 (w1 (w1 (w1 cs 21 nf (nI n_2)) 22 nf (nI n_24)) 23 nf d) 24 nf (nI n_32)) 20 0 (nI (nf + 1))) 20 1 (nI n_32))) rfl rfl iv_0_v254 (Or.inl rfl) na_1_157 (hF 20 (by decide)) ⟨by omega, by omega⟩ (show (5 : Nat) < 14 by decide) o_157 rfl (show (0 : Nat) ≤ 8 by decide) dc_1_23_61 (mm_Ev_up (by decide : 1 ≤ 4) (k_tell_ok M hM T e hF cs sg nf hT.2.2.2.2.1 hnf hT.2.2.2.2.2.2 (nI n_2) (nI n_24) d (nI n_32) (by rw [hT.2.2.2.2.2.1]; exact h_61.1) h_61.2)) ?_
                    refine r_ifeq (t := 71) (by decide) dc_1_23_64 (fun c_64 => ?_) (fun c_64 => ?_)
                    · exact absurd c_64 (by decide)
                    · skip
                      refine r_iconst (v := nI 1) (by decide) dc_1_23_67 ?_
                      refine r_goto (t := 72) (by decide) dc_1_23_68 ?_
                      refine r_zret rfl (by decide) dc_1_23_72 ?_
                      refine ⟨_, _, _, _, (nf + 1), ny, tp, ⟨mm_Ev_up (by decide) (c_fact_ok (hk M T (w1 (w1 (w1 (w1 (w1 (w1 cs 21 nf (nI n_2)) 22 nf (nI n_24)) 23 nf d) 24 nf (nI n_32)) 20 0 (nI (nf + 1))) 20 1 (nI n_32))) hM io sg ns h5 hns nf h7 hnf n_2 n_24 n_32 d hn_2 c_18 (by omega) (Or.inl c_42) (by omega) h_61.1 h_61.2), CV_fact hV (Or.inl c_42) h_61.2⟩, rfl⟩
                  · skip
                    refine h_callv (t := cT e 20) (as := [.int (nI n_2), .int (nI n_24), .int d, .int (nI n_32)]) (rest := []) (v := .int (nI 0)) (M1 := hk M T cs) rfl rfl iv_0_v254 (Or.inl rfl) na_1_157 (hF 20 (by decide)) ⟨by omega, by omega⟩ (show (5 : Nat) < 14 by decide) o_157 rfl (show (0 : Nat) ≤ 8 by decide) dc_1_23_61 (mm_Ev_up (by decide : 1 ≤ 4) (k_tell_no M hM T e hF cs sg nf hT.2.2.2.2.1 hnf hT.2.2.2.2.2.2 (nI n_2) (nI n_24) d (nI n_32) (by rw [hT.2.2.2.2.2.1]; exact h_61))) ?_
                    refine r_ifeq (t := 71) (by decide) dc_1_23_64 (fun c_64 => ?_) (fun c_64 => ?_)
                    · skip
                      refine r_iconst (v := nI 0) (by decide) dc_1_23_71 ?_
                      refine r_zret rfl (by decide) dc_1_23_72 ?_
                      refine ⟨_, _, io, sg, nf, ny, tp, ⟨mm_Ev_up (by decide) (c_fact_n2 (hk M T cs) hM io sg ns h5 hns n_2 _ _ _ hn_2 (fun g => h_61 ⟨g.2.2.2.2.1, by have y := g.2.2.2.2.2; rw [h7] at y; exact Nat.lt_of_le_of_ne hnf (fun u => y (by rw [u]))⟩)), hV⟩, rfl⟩
                    · exact absurd c_64 (by decide)
                · skip
                  refine r_iload_n rfl dc_1_23_45 ?_
                  by_cases h_46 : nI 0 ≤ d ∧ d ≤ nI 359
                  · skip
                    obtain ⟨n_46, hn_46, e_46⟩ := g_nat2 h_46 (by omega) (by omega)
                    subst e_46
                    refine h_callS (as := [.int (nI n_46)]) (rest := []) (v := .int (nI 1)) rfl rfl iv_0_s108 (Or.inl rfl) na_0_25 rfl (show (0 : Nat) ≤ 8 by decide) dc_1_23_46 (mm_Ev_up (by decide : 2 ≤ 4) (by have h9 := k_isDay (hk M T cs) (nI n_46); rw [show sp_in (nI n_46) (nI 0) (nI 359) = nI 1 from sp_in_ok (by omega) (by omega) (by omega)] at h9; exact h9)) ?_
                    refine r_ifeq (t := 71) (by decide) dc_1_23_49 (fun c_49 => ?_) (fun c_49 => ?_)
                    · exact absurd c_49 (by decide)
                    · skip
                      refine r_aload_n rfl dc_1_23_52 ?_
                      refine h_get (t := cT e 0) (v := .ref 20) fx_0_54 (hF 0 (by decide)) ⟨by omega, by omega⟩ (rfl) dc_1_23_53 ?_
                      refine r_iload_n rfl dc_1_23_56 ?_
                      refine r_iload_n rfl dc_1_23_57 ?_
                      refine r_iload_n rfl dc_1_23_58 ?_
                      refine r_iload rfl dc_1_23_59 ?_
                      by_cases h_61 : io 8 ≤ nI n_32 ∧ nf < 200
                      · skip
                        refine h_callv (t := cT e 20) (as := [.int (nI n_2), .int (nI n_24), .int (nI n_46), .int (nI n_32)]) (rest := []) (v := .int (nI 1)) (M1 := hk M T (w1 (w1 (w1 (w1 (w1 (w1 cs 21 nf (nI n_2)) 22 nf (nI n_24)) 23 nf (nI n_46)) 24 nf (nI n_32)) 20 0 (nI (nf + 1))) 20 1 (nI n_32))) rfl rfl iv_0_v254 (Or.inl rfl) na_1_157 (hF 20 (by decide)) ⟨by omega, by omega⟩ (show (5 : Nat) < 14 by decide) o_157 rfl (show (0 : Nat) ≤ 8 by decide) dc_1_23_61 (mm_Ev_up (by decide : 1 ≤ 4) (k_tell_ok M hM T e hF cs sg nf hT.2.2.2.2.1 hnf hT.2.2.2.2.2.2 (nI n_2) (nI n_24) (nI n_46) (nI n_32) (by rw [hT.2.2.2.2.2.1]; exact h_61.1) h_61.2)) ?_
                        refine r_ifeq (t := 71) (by decide) dc_1_23_64 (fun c_64 => ?_) (fun c_64 => ?_)
                        · exact absurd c_64 (by decide)
                        · skip
                          refine r_iconst (v := nI 1) (by decide) dc_1_23_67 ?_
                          refine r_goto (t := 72) (by decide) dc_1_23_68 ?_
                          refine r_zret rfl (by decide) dc_1_23_72 ?_
                          refine ⟨_, _, _, _, (nf + 1), ny, tp, ⟨mm_Ev_up (by decide) (c_fact_ok (hk M T (w1 (w1 (w1 (w1 (w1 (w1 cs 21 nf (nI n_2)) 22 nf (nI n_24)) 23 nf (nI n_46)) 24 nf (nI n_32)) 20 0 (nI (nf + 1))) 20 1 (nI n_32))) hM io sg ns h5 hns nf h7 hnf n_2 n_24 n_32 (nI n_46) hn_2 c_18 (by omega) (Or.inr (g_day.mpr ⟨nI_le (by omega) (by omega), nI_le (by omega) (by omega)⟩)) (by omega) h_61.1 h_61.2), CV_fact hV (Or.inr ⟨n_46, by omega, rfl⟩) h_61.2⟩, rfl⟩
                      · skip
                        refine h_callv (t := cT e 20) (as := [.int (nI n_2), .int (nI n_24), .int (nI n_46), .int (nI n_32)]) (rest := []) (v := .int (nI 0)) (M1 := hk M T cs) rfl rfl iv_0_v254 (Or.inl rfl) na_1_157 (hF 20 (by decide)) ⟨by omega, by omega⟩ (show (5 : Nat) < 14 by decide) o_157 rfl (show (0 : Nat) ≤ 8 by decide) dc_1_23_61 (mm_Ev_up (by decide : 1 ≤ 4) (k_tell_no M hM T e hF cs sg nf hT.2.2.2.2.1 hnf hT.2.2.2.2.2.2 (nI n_2) (nI n_24) (nI n_46) (nI n_32) (by rw [hT.2.2.2.2.2.1]; exact h_61))) ?_
                        refine r_ifeq (t := 71) (by decide) dc_1_23_64 (fun c_64 => ?_) (fun c_64 => ?_)
                        · skip
                          refine r_iconst (v := nI 0) (by decide) dc_1_23_71 ?_
                          refine r_zret rfl (by decide) dc_1_23_72 ?_
                          refine ⟨_, _, io, sg, nf, ny, tp, ⟨mm_Ev_up (by decide) (c_fact_n2 (hk M T cs) hM io sg ns h5 hns n_2 _ _ _ hn_2 (fun g => h_61 ⟨g.2.2.2.2.1, by have y := g.2.2.2.2.2; rw [h7] at y; exact Nat.lt_of_le_of_ne hnf (fun u => y (by rw [u]))⟩)), hV⟩, rfl⟩
                        · exact absurd c_64 (by decide)
                  · skip
                    refine h_callS (as := [.int d]) (rest := []) (v := .int (nI 0)) rfl rfl iv_0_s108 (Or.inl rfl) na_0_25 rfl (show (0 : Nat) ≤ 8 by decide) dc_1_23_46 (mm_Ev_up (by decide : 2 ≤ 4) (by have h9 := k_isDay (hk M T cs) d; rw [show sp_in d (nI 0) (nI 359) = nI 0 from if_neg h_46] at h9; exact h9)) ?_
                    refine r_ifeq (t := 71) (by decide) dc_1_23_49 (fun c_49 => ?_) (fun c_49 => ?_)
                    · skip
                      refine r_iconst (v := nI 0) (by decide) dc_1_23_71 ?_
                      refine r_zret rfl (by decide) dc_1_23_72 ?_
                      refine ⟨_, _, io, sg, nf, ny, tp, ⟨mm_Ev_up (by decide) (c_fact_n2 (hk M T cs) hM io sg ns h5 hns n_2 _ _ _ hn_2 (fun g => g.2.2.1.elim c_42 (fun y => h_46 (g_day.mp y)))), hV⟩, rfl⟩
                    · exact absurd c_49 (by decide)
              · exact absurd c_35 (by decide)
            · skip
              refine h_callS (as := [.int t]) (rest := []) (v := .int (nI 0)) rfl rfl iv_0_s108 (Or.inl rfl) na_0_25 rfl (show (0 : Nat) ≤ 8 by decide) dc_1_23_32 (mm_Ev_up (by decide : 2 ≤ 4) (by have h9 := k_isDay (hk M T cs) t; rw [show sp_in t (nI 0) (nI 359) = nI 0 from if_neg h_32] at h9; exact h9)) ?_
              refine r_ifne (t := 40) (by decide) dc_1_23_35 (fun c_35 => ?_) (fun c_35 => ?_)
              · exact absurd c_35 (by decide)
              · skip
                refine r_iconst (v := nI 0) (by decide) dc_1_23_38 ?_
                refine r_zret rfl (by decide) dc_1_23_39 ?_
                refine ⟨_, _, io, sg, nf, ny, tp, ⟨mm_Ev_up (by decide) (c_fact_n2 (hk M T cs) hM io sg ns h5 hns n_2 _ _ _ hn_2 (fun g => h_32 (g_day.mp g.2.2.2.1))), hV⟩, rfl⟩
        · skip
          refine h_callS (as := [.int k, .int (nI 0), .int (nI 3)]) (rest := []) (v := .int (nI 0)) rfl rfl iv_0_s84 (Or.inl rfl) na_0_13 rfl (show (0 : Nat) ≤ 8 by decide) dc_1_23_24 (mm_Ev_up (by decide : 1 ≤ 4) (by have h9 := k_in (hk M T cs) k (nI 0) (nI 3); rw [show sp_in k (nI 0) (nI 3) = nI 0 from if_neg h_24] at h9; exact h9)) ?_
          refine r_ifeq (t := 38) (by decide) dc_1_23_27 (fun c_27 => ?_) (fun c_27 => ?_)
          · skip
            refine r_iconst (v := nI 0) (by decide) dc_1_23_38 ?_
            refine r_zret rfl (by decide) dc_1_23_39 ?_
            refine ⟨_, _, io, sg, nf, ny, tp, ⟨mm_Ev_up (by decide) (c_fact_n2 (hk M T cs) hM io sg ns h5 hns n_2 _ _ _ hn_2 (fun g => h_24 g.2.1)), hV⟩, rfl⟩
          · exact absurd c_27 (by decide)
    · skip
      refine h_callv (t := cT e 0) (as := [.int s]) (rest := []) (v := .null) (M1 := hk M T cs) rfl rfl iv_0_v180 (Or.inl rfl) na_1_102 (hF 0 (by decide)) ⟨by omega, by omega⟩ (show (0 : Nat) < 14 by decide) o_102 rfl (show (0 : Nat) ≤ 8 by decide) dc_1_23_2 (mm_Ev_up (by decide : 2 ≤ 4) (k_stAt_no hV s h_2)) ?_
      refine r_astoreZ (ls' := [(5, .null), (0, .ref 0), (1, .int s), (2, .int k), (3, .int d), (4, .int t)]) (by decide) rfl dc_1_23_5 ?_
      refine r_aloadZ rfl dc_1_23_7 ?_
      refine r_ifnullZ (t := 38) (by decide) dc_1_23_9 ?_
      refine r_iconst (v := nI 0) (by decide) dc_1_23_38 ?_
      refine r_zret rfl (by decide) dc_1_23_39 ?_
      refine ⟨_, _, io, sg, nf, ny, tp, ⟨mm_Ev_up (by decide) (c_fact_no (hk M T cs) hM io sg _ _ _ _ (fun g => h_2 (by rw [← h5]; exact g))), hV⟩, rfl⟩
  obtain ⟨z9, ⟨v, cs2, io2, sg2, nf2, ny2, tp2, p9, e9⟩, h9⟩ := hq9
  subst e9
  exact ⟨v, cs2, io2, sg2, nf2, ny2, tp2, p9, h9⟩
theorem st_fact (s k d t : Int32) : StpN 156 255 [.int s, .int k, .int d, .int t] := fun M T cs sg io e D nh nx ns nf ny tp cm w cn wc hV => by
  obtain ⟨v, cs2, io2, sg2, nf2, ny2, tp2, hp, h⟩ := s_fact hV s k d t
  exact ⟨v, cs2, io2, sg2, nf2, ny2, tp2, hp, mm_Ev_up (by decide) h⟩
