/-! the whole: a student goes into the plan -/
theorem dc_1_42_0 : decode prog_1_method_42_code 0 = .ok (.iload_n 3, 1) := by decide +kernel
theorem dc_1_42_1 : decode prog_1_method_42_code 1 = .ok (.ifCond .eq 9, 3) := by decide +kernel
theorem dc_1_42_4 : decode prog_1_method_42_code 4 = .ok (.sipush 4096, 3) := by decide +kernel
theorem dc_1_42_7 : decode prog_1_method_42_code 7 = .ok (.goto 4, 3) := by decide +kernel
theorem dc_1_42_10 : decode prog_1_method_42_code 10 = .ok (.iconst 0, 1) := by decide +kernel
theorem dc_1_42_11 : decode prog_1_method_42_code 11 = .ok (.istore 4, 2) := by decide +kernel
theorem dc_1_42_13 : decode prog_1_method_42_code 13 = .ok (.aload_n 2, 1) := by decide +kernel
theorem dc_1_42_14 : decode prog_1_method_42_code 14 = .ok (.invokevirtual 261, 3) := by decide +kernel
theorem dc_1_42_17 : decode prog_1_method_42_code 17 = .ok (.istore 5, 2) := by decide +kernel
theorem dc_1_42_19 : decode prog_1_method_42_code 19 = .ok (.aload_n 0, 1) := by decide +kernel
theorem dc_1_42_20 : decode prog_1_method_42_code 20 = .ok (.getfield 74, 3) := by decide +kernel
theorem dc_1_42_23 : decode prog_1_method_42_code 23 = .ok (.iload_n 1, 1) := by decide +kernel
theorem dc_1_42_24 : decode prog_1_method_42_code 24 = .ok (.invokevirtual 383, 3) := by decide +kernel
theorem dc_1_42_27 : decode prog_1_method_42_code 27 = .ok (.iconst 0, 1) := by decide +kernel
theorem dc_1_42_28 : decode prog_1_method_42_code 28 = .ok (.istore 6, 2) := by decide +kernel
theorem dc_1_42_30 : decode prog_1_method_42_code 30 = .ok (.iload 6, 2) := by decide +kernel
theorem dc_1_42_32 : decode prog_1_method_42_code 32 = .ok (.aload_n 2, 1) := by decide +kernel
theorem dc_1_42_33 : decode prog_1_method_42_code 33 = .ok (.getfield 386, 3) := by decide +kernel
theorem dc_1_42_36 : decode prog_1_method_42_code 36 = .ok (.if_icmp .ge 68, 3) := by decide +kernel
theorem dc_1_42_39 : decode prog_1_method_42_code 39 = .ok (.aload_n 2, 1) := by decide +kernel
theorem dc_1_42_40 : decode prog_1_method_42_code 40 = .ok (.iload 6, 2) := by decide +kernel
theorem dc_1_42_42 : decode prog_1_method_42_code 42 = .ok (.invokevirtual 306, 3) := by decide +kernel
theorem dc_1_42_45 : decode prog_1_method_42_code 45 = .ok (.istore 7, 2) := by decide +kernel
theorem dc_1_42_47 : decode prog_1_method_42_code 47 = .ok (.aload_n 0, 1) := by decide +kernel
theorem dc_1_42_48 : decode prog_1_method_42_code 48 = .ok (.aload_n 2, 1) := by decide +kernel
theorem dc_1_42_49 : decode prog_1_method_42_code 49 = .ok (.iload 7, 2) := by decide +kernel
theorem dc_1_42_51 : decode prog_1_method_42_code 51 = .ok (.invokevirtual 190, 3) := by decide +kernel
theorem dc_1_42_54 : decode prog_1_method_42_code 54 = .ok (.istore 8, 2) := by decide +kernel
theorem dc_1_42_56 : decode prog_1_method_42_code 56 = .ok (.iload 8, 2) := by decide +kernel
theorem dc_1_42_58 : decode prog_1_method_42_code 58 = .ok (.iconst (-1), 1) := by decide +kernel
theorem dc_1_42_59 : decode prog_1_method_42_code 59 = .ok (.if_icmp .eq 39, 3) := by decide +kernel
theorem dc_1_42_62 : decode prog_1_method_42_code 62 = .ok (.aload_n 0, 1) := by decide +kernel
theorem dc_1_42_63 : decode prog_1_method_42_code 63 = .ok (.getfield 74, 3) := by decide +kernel
theorem dc_1_42_66 : decode prog_1_method_42_code 66 = .ok (.iload 6, 2) := by decide +kernel
theorem dc_1_42_68 : decode prog_1_method_42_code 68 = .ok (.iload 7, 2) := by decide +kernel
theorem dc_1_42_70 : decode prog_1_method_42_code 70 = .ok (.iload 8, 2) := by decide +kernel
theorem dc_1_42_72 : decode prog_1_method_42_code 72 = .ok (.aload_n 0, 1) := by decide +kernel
theorem dc_1_42_73 : decode prog_1_method_42_code 73 = .ok (.aload_n 2, 1) := by decide +kernel
theorem dc_1_42_74 : decode prog_1_method_42_code 74 = .ok (.getfield 264, 3) := by decide +kernel
theorem dc_1_42_77 : decode prog_1_method_42_code 77 = .ok (.iload 8, 2) := by decide +kernel
theorem dc_1_42_79 : decode prog_1_method_42_code 79 = .ok (.invokevirtual 359, 3) := by decide +kernel
theorem dc_1_42_82 : decode prog_1_method_42_code 82 = .ok (.iload 7, 2) := by decide +kernel
theorem dc_1_42_84 : decode prog_1_method_42_code 84 = .ok (.iload 5, 2) := by decide +kernel
theorem dc_1_42_86 : decode prog_1_method_42_code 86 = .ok (.if_icmp .ne 7, 3) := by decide +kernel
theorem dc_1_42_89 : decode prog_1_method_42_code 89 = .ok (.iconst 0, 1) := by decide +kernel
theorem dc_1_42_90 : decode prog_1_method_42_code 90 = .ok (.goto 5, 3) := by decide +kernel
theorem dc_1_42_93 : decode prog_1_method_42_code 93 = .ok (.iload 4, 2) := by decide +kernel
theorem dc_1_42_95 : decode prog_1_method_42_code 95 = .ok (.invokevirtual 389, 3) := by decide +kernel
theorem dc_1_42_98 : decode prog_1_method_42_code 98 = .ok (.iinc 6 1, 3) := by decide +kernel
theorem dc_1_42_101 : decode prog_1_method_42_code 101 = .ok (.goto (-71), 3) := by decide +kernel
theorem dc_1_42_104 : decode prog_1_method_42_code 104 = .ok (.aload_n 0, 1) := by decide +kernel
theorem dc_1_42_105 : decode prog_1_method_42_code 105 = .ok (.getfield 74, 3) := by decide +kernel
theorem dc_1_42_108 : decode prog_1_method_42_code 108 = .ok (.iload 5, 2) := by decide +kernel
theorem dc_1_42_110 : decode prog_1_method_42_code 110 = .ok (.iconst (-1), 1) := by decide +kernel
theorem dc_1_42_111 : decode prog_1_method_42_code 111 = .ok (.if_icmp .ne 7, 3) := by decide +kernel
theorem dc_1_42_114 : decode prog_1_method_42_code 114 = .ok (.iconst 0, 1) := by decide +kernel
theorem dc_1_42_115 : decode prog_1_method_42_code 115 = .ok (.goto 5, 3) := by decide +kernel
theorem dc_1_42_118 : decode prog_1_method_42_code 118 = .ok (.iload 4, 2) := by decide +kernel
theorem dc_1_42_120 : decode prog_1_method_42_code 120 = .ok (.invokevirtual 392, 3) := by decide +kernel
theorem dc_1_42_123 : decode prog_1_method_42_code 123 = .ok (.return_, 1) := by decide +kernel
theorem iv_0_v190 : mm_iv 0 (.invokevirtual 190) = some (1, 107) := by decide +kernel
theorem iv_0_v306 : mm_iv 0 (.invokevirtual 306) = some (1, 105) := by decide +kernel
theorem iv_0_v383 : mm_iv 0 (.invokevirtual 383) = some (1, 119) := by decide +kernel
theorem iv_0_v389 : mm_iv 0 (.invokevirtual 389) = some (1, 121) := by decide +kernel
theorem iv_0_v392 : mm_iv 0 (.invokevirtual 392) = some (1, 123) := by decide +kernel
theorem o_107 : mm_o 107 = 0 := by decide +kernel
theorem o_119 : mm_o 119 = 7 := by decide +kernel
theorem o_121 : mm_o 121 = 7 := by decide +kernel
theorem o_123 : mm_o 123 = 7 := by decide +kernel
theorem na_1_107 : mm_nas 1 107 = 3 := by decide +kernel
theorem na_1_119 : mm_nas 1 119 = 2 := by decide +kernel
theorem na_1_121 : mm_nas 1 121 = 6 := by decide +kernel
theorem na_1_123 : mm_nas 1 123 = 2 := by decide +kernel
theorem pen_z (pl : Nat) (hp : pl = 0 ∨ pl = 1) : zI (penI pl) = nI (if pl = 1 then 4096 else 0) := by
  rcases hp with rfl | rfl <;> decide
theorem opt_w {pl : Nat} {sg : Nat → Nat → Int32} {s d v : Nat} {p : Int32} (hd : d < 4) (hv : sg 60 (4 * s + d) = nI v) (hp : p = zI (if nI v = hst sg s then 0 else penI pl)) : mm_worth d - p = zI (swo pl sg s d) := by
  rw [hp, wInt_eq d hd, zI_sub]
  unfold swo
  rw [if_neg (show ¬ d = 4 by omega), hv]
theorem opt_4 {pl : Nat} {sg : Nat → Nat → Int32} {s : Nat} {p : Int32} (hp : p = zI (if -1 = hst sg s then 0 else penI pl)) : -p = zI (swo pl sg s 4) := by
  rw [hp, zI_neg]
  unfold swo
  rw [if_pos rfl]
  exact congrArg zI (by show _ = 0 - _; omega)
theorem opt_y {sg my : Nat → Nat → Int32} {s d xv : Nat} (hd : d < 4) (hx : my s d = nI xv) (hb : xv < 2 ^ 31) : (if sg 27 xv = sg 51 s then nI 1 else -1) = wD d (sway sg my s d) := by
  unfold wD sway
  rw [if_neg (show ¬ d = 4 by omega), hx, tN_nI hb]
  by_cases z : sg 27 xv = sg 51 s
  · rw [if_pos z, if_pos z, if_pos rfl]
  · rw [if_neg z, if_neg z, if_neg (by decide)]
def AdI (D : Nat → Nat → Nat) (nx n : Nat) (cs cs1 : Nat → Nat → Int32) (pl : Nat) (sg my : Nat → Nat → Int32) (s m : Nat) : Prop := FrP D nx n cs cs1 ∧ cs1 28 1 = nI (n + 1) ∧ cs1 37 n = nI s ∧ cs1 38 n = nI (clA (fun d => ¬ my s d = -1) m).1 ∧ ∀ o, o < (clA (fun d => ¬ my s d = -1) m).1 → PLo cs1 pl sg my n s o ((clA (fun d => ¬ my s d = -1) m).2 o)
theorem AdI_0 {D : Nat → Nat → Nat} {nx n : Nat} {cs : Nat → Nat → Int32} {pl : Nat} {sg my : Nat → Nat → Int32} {s : Nat} (hn : n < 7) : AdI D nx n cs (w1 (w1 (w1 cs 37 n (nI s)) 38 n (nI 0)) 28 1 (nI (n + 1))) pl sg my s 0 := by
  have g : ∀ a, ¬ (a = 28 ∨ a = 37 ∨ a = 38) → (w1 (w1 (w1 cs 37 n (nI s)) 38 n (nI 0)) 28 1 (nI (n + 1))) a = cs a := fun a ha => by
    rw [w1_n _ _ _ (by omega), w1_n _ _ _ (by omega), w1_n _ _ _ (by omega)]
  refine ⟨⟨fun a h1 _ => g a (by omega), fun a h1 h2 h3 => g a (by omega), fun j hj => ⟨?_, ?_⟩⟩, w1_s _ _ _ _, ?_, ?_, fun o ho => absurd ho (Nat.not_lt_zero o)⟩
  · rw [w1_n _ _ _ (by decide), w1_n _ _ _ (by decide), w1_o _ _ (Or.inr hj)]
  · rw [w1_n _ _ _ (by decide), w1_o _ _ (Or.inr hj), w1_n _ _ _ (by decide)]
  · rw [w1_n _ _ _ (by decide), w1_n _ _ _ (by decide), w1_s]
  · rw [w1_n _ _ _ (by decide), w1_s]
    rfl
theorem PLo_f {cs1 cs2 : Nat → Nat → Int32} {pl : Nat} {sg my : Nat → Nat → Int32} {n s o d : Nat} (hn : n < 7) (h : PLo cs1 pl sg my n s o d) (hf : ∀ a, 40 ≤ a → a < 79 → cs2 a = cs1 a) : PLo cs2 pl sg my n s o d := by
  unfold PLo at h ⊢
  rw [hf (40 + n) (by omega) (by omega), hf (48 + n) (by omega) (by omega), hf (56 + n) (by omega) (by omega), hf (64 + n) (by omega) (by omega), hf (72 + n) (by omega) (by omega)]
  exact h
theorem FrD_lo {M : mH} {sg : Nat → Nat → Int32} {e : Nat → Nat} {D : Nat → Nat → Nat} {nh nx ns a : Nat} {cs cs2 : Nat → Nat → Int32} (hf : FrD D nx cs cs2) (h : DJ M sg e D nh nx ns) (h1 : a < 157) : cs2 a = cs a := hf a (fun x hx z => by
  have := DJ_lo h (k := 6) (i := x) (dvl_x (by decide) (by decide) hx)
  omega)
theorem AdI_D {M : mH} {sg : Nat → Nat → Int32} {e : Nat → Nat} {D : Nat → Nat → Nat} {nh nx ns n : Nat} {cs cs1 cs2 : Nat → Nat → Int32} {pl : Nat} {my : Nat → Nat → Int32} {s m : Nat} (hn : n < 7) (hJ : DJ M sg e D nh nx ns) (h : AdI D nx n cs cs1 pl sg my s m) (hf : FrD D nx cs1 cs2) : AdI D nx n cs cs2 pl sg my s m := by
  obtain ⟨a1, a2, a3, a4, a5⟩ := h
  have g : ∀ a, a < 157 → cs2 a = cs1 a := fun a ha => FrD_lo hf hJ ha
  exact ⟨FrP_t a1 (FrP_s hJ hf), by rw [g 28 (by decide)]; exact a2, by rw [g 37 (by decide)]; exact a3, by rw [g 38 (by decide)]; exact a4, fun o ho => PLo_f hn (a5 o ho) (fun a _ h2 => g a (by omega))⟩
theorem AdI_n {D : Nat → Nat → Nat} {nx n : Nat} {cs cs1 : Nat → Nat → Int32} {pl : Nat} {sg my : Nat → Nat → Int32} {s m : Nat} (h : AdI D nx n cs cs1 pl sg my s m) (hm : my s m = -1) : AdI D nx n cs cs1 pl sg my s (m + 1) := by
  unfold AdI
  rw [clA_n (P := fun d => ¬ my s d = -1) (fun z => z hm)]
  exact h
theorem AdI_p {D : Nat → Nat → Nat} {nx n : Nat} {cs cs1 : Nat → Nat → Int32} {pl : Nat} {sg my : Nat → Nat → Int32} {s m v xv : Nat} {v4 v5 : Int32} (hn : n < 7) (hm4 : m < 4) (h : AdI D nx n cs cs1 pl sg my s m) (hm : my s m = nI xv) (hx : xv < 2 ^ 31) (hv : sg 60 (4 * s + m) = nI v) (hvb : v < 2 ^ 31) (h4 : v4 = wD m (sway sg my s m)) (h5 : v5 = zI (swo pl sg s m)) : AdI D nx n cs (w1 (w1 (w1 (w1 (w1 (w1 cs1 (40 + n) (clA (fun d => ¬ my s d = -1) m).1 (nI m)) (48 + n) (clA (fun d => ¬ my s d = -1) m).1 (nI v)) (56 + n) (clA (fun d => ¬ my s d = -1) m).1 (my s m)) (64 + n) (clA (fun d => ¬ my s d = -1) m).1 v4) (72 + n) (clA (fun d => ¬ my s d = -1) m).1 v5) 38 n (nI ((clA (fun d => ¬ my s d = -1) m).1 + 1))) pl sg my s (m + 1) := by
  obtain ⟨a1, a2, a3, a4, a5⟩ := h
  have hP : (fun d => ¬ my s d = -1) m := fun z => nI_nm1 hx (hm.symm.trans z)
  unfold AdI
  rw [clA_p (P := fun d => ¬ my s d = -1) hP]
  refine ⟨FrP_t a1 (put_Fr hn _ _ _ _ _ _), ?_, ?_, w1_s _ _ _ _, put_PL hn a5 (if_neg (by omega)).symm ?_ ?_ h4 h5⟩
  · rw [w1_n _ _ _ (by omega), w1_n _ _ _ (by omega), w1_n _ _ _ (by omega), w1_n _ _ _ (by omega), w1_n _ _ _ (by omega), w1_n _ _ _ (by omega)]
    exact a2
  · rw [w1_n _ _ _ (by omega), w1_n _ _ _ (by omega), w1_n _ _ _ (by omega), w1_n _ _ _ (by omega), w1_n _ _ _ (by omega), w1_n _ _ _ (by omega)]
    exact a3
  · rw [hv, tN_nI hvb]
    exact (if_neg (by omega)).symm
  · rw [hm, tN_nI hx]
    exact (if_neg (by omega)).symm
theorem AdI_E {D : Nat → Nat → Nat} {nx n : Nat} {cs cs1 : Nat → Nat → Int32} {pl : Nat} {sg my : Nat → Nat → Int32} {s : Nat} {v5 : Int32} (hn : n < 7) (h : AdI D nx n cs cs1 pl sg my s (tN (sg 59 s))) (h5 : v5 = zI (swo pl sg s 4)) : FrP D nx n cs (w1 (w1 (w1 (w1 (w1 (w1 cs1 (40 + n) (clA (fun d => ¬ my s d = -1) (tN (sg 59 s))).1 (-1)) (48 + n) (clA (fun d => ¬ my s d = -1) (tN (sg 59 s))).1 (-1)) (56 + n) (clA (fun d => ¬ my s d = -1) (tN (sg 59 s))).1 (-1)) (64 + n) (clA (fun d => ¬ my s d = -1) (tN (sg 59 s))).1 (nI 0)) (72 + n) (clA (fun d => ¬ my s d = -1) (tN (sg 59 s))).1 v5) 38 n (nI ((clA (fun d => ¬ my s d = -1) (tN (sg 59 s))).1 + 1))) ∧ (w1 (w1 (w1 (w1 (w1 (w1 cs1 (40 + n) (clA (fun d => ¬ my s d = -1) (tN (sg 59 s))).1 (-1)) (48 + n) (clA (fun d => ¬ my s d = -1) (tN (sg 59 s))).1 (-1)) (56 + n) (clA (fun d => ¬ my s d = -1) (tN (sg 59 s))).1 (-1)) (64 + n) (clA (fun d => ¬ my s d = -1) (tN (sg 59 s))).1 (nI 0)) (72 + n) (clA (fun d => ¬ my s d = -1) (tN (sg 59 s))).1 v5) 38 n (nI ((clA (fun d => ¬ my s d = -1) (tN (sg 59 s))).1 + 1))) 28 1 = nI (n + 1) ∧ PLr (w1 (w1 (w1 (w1 (w1 (w1 cs1 (40 + n) (clA (fun d => ¬ my s d = -1) (tN (sg 59 s))).1 (-1)) (48 + n) (clA (fun d => ¬ my s d = -1) (tN (sg 59 s))).1 (-1)) (56 + n) (clA (fun d => ¬ my s d = -1) (tN (sg 59 s))).1 (-1)) (64 + n) (clA (fun d => ¬ my s d = -1) (tN (sg 59 s))).1 (nI 0)) (72 + n) (clA (fun d => ¬ my s d = -1) (tN (sg 59 s))).1 v5) 38 n (nI ((clA (fun d => ¬ my s d = -1) (tN (sg 59 s))).1 + 1))) pl sg my n s := by
  obtain ⟨a1, a2, a3, a4, a5⟩ := h
  refine ⟨FrP_t a1 (put_Fr hn _ _ _ _ _ _), ?_, ?_, w1_s _ _ _ _, fun o ho => ?_⟩
  · rw [w1_n _ _ _ (by omega), w1_n _ _ _ (by omega), w1_n _ _ _ (by omega), w1_n _ _ _ (by omega), w1_n _ _ _ (by omega), w1_n _ _ _ (by omega)]
    exact a2
  · rw [w1_n _ _ _ (by omega), w1_n _ _ _ (by omega), w1_n _ _ _ (by omega), w1_n _ _ _ (by omega), w1_n _ _ _ (by omega), w1_n _ _ _ (by omega)]
    exact a3
  · have := put_PL (d := 4) (v1 := -1) (v2 := -1) (v3 := -1) (v4 := nI 0) (v6 := nI ((clA (fun d => ¬ my s d = -1) (tN (sg 59 s))).1 + 1)) hn a5 rfl rfl rfl rfl h5 o ho
    have e : upn (clA (fun d => ¬ my s d = -1) (tN (sg 59 s))).2 (clA (fun d => ¬ my s d = -1) (tN (sg 59 s))).1 4 o = sdg sg my s o := by
      by_cases z : o = (clA (fun d => ¬ my s d = -1) (tN (sg 59 s))).1
      · rw [z, upn_s]
        exact (clA_hi _ _ _ (Nat.le_refl _)).symm
      · rw [upn_o z]
        rfl
    rw [e] at this
    exact this
set_option maxHeartbeats 4000000 in
theorem k_addP0 {M : mH} {T : Nat → mT} {cs sg : Nat → Nat → Int32} {io : Nat → Int32} {e : Nat → Nat} {D : Nat → Nat → Nat} {nh nx ns nf ny tp : Nat} {cm : Nat → Nat} {w : Nat → Nat → Nat} {cn : Nat → Nat} {wc : Nat → Nat → Nat} (hV : CV M T cs io sg e D nh nx ns nf ny tp cm w cn wc) (s n : Nat) (hs : s < ns) (hn : n < 7) (hsz : cs 28 1 = nI n) (my : Nat → Nat → Int32) (hmy : my = (fun s k => sp_mby io sg cm w nx s (sg 60 (4 * s + k)))) : ∃ (cs3 : Nat → Nat → Int32), (FrP D nx n cs cs3 ∧ cs3 28 1 = nI (n + 1) ∧ PLr cs3 0 sg my n s) ∧ mm_Ev 6 117 [.ref 0, .int (nI s), .ref (D 7 s), .int (nI 0)] (hk M T cs) ((none, hk M T cs3)) := by
  have hq9 : ∃ z, (fun r9 => ∃ (cs3 : Nat → Nat → Int32), (FrP D nx n cs cs3 ∧ cs3 28 1 = nI (n + 1) ∧ PLr cs3 0 sg my n s) ∧ r9 = ((none, hk M T cs3))) z ∧ mm_Ev 6 117 [.ref 0, .int (nI s), .ref (D 7 s), .int (nI 0)] (hk M T cs) z := by
    obtain ⟨⟨hM, hMs, hW⟩, hC, hT, hR, hJ⟩ := id hV
    obtain ⟨hF, ⟨hL0, hL1, hL2⟩, hSc, hAg, hSt⟩ := id hC
    obtain ⟨⟨⟨h3, hnh⟩, ⟨h4, hnx⟩, ⟨h5, hns⟩, ⟨h7, hnf⟩, ⟨h6, hny⟩, ⟨h23, htp⟩⟩, hRa, hRb, hRs, hRs2, hRs3, hRx, hCD, hRt, hRt2, hRf⟩ := id hR
    have q59 := inN_tN (hRt s hs).2.2.2.2.2.2.1 (by decide)
    refine r_evQ (by decide +kernel) (show (4 : Nat) ≤ mm_nL 117 by decide +kernel) ?_
    show mm_Ru 5 (0, 9, false, prog_1_method_42_code, none) 0 [(0, .ref 0), (1, .int (nI s)), (2, .ref (D 7 s)), (3, .int (nI 0))] [] (hk M T cs) (fun r9 => ∃ (cs3 : Nat → Nat → Int32), (FrP D nx n cs cs3 ∧ cs3 28 1 = nI (n + 1) ∧ PLr cs3 0 sg my n s) ∧ r9 = ((none, hk M T cs3)))
    refine r_iload_n rfl dc_1_42_0 ?_
    refine r_ifeq (t := 10) (by decide) dc_1_42_1 (fun c_1 => ?_) (fun c_1 => ?_)
    · skip
      refine r_iconst (v := nI 0) (by decide) dc_1_42_10 ?_
      refine r_istore (ls' := [(4, .int (nI 0)), (0, .ref 0), (1, .int (nI s)), (2, .ref (D 7 s)), (3, .int (nI 0))]) (by decide) rfl dc_1_42_11 ?_
      refine r_aload_n rfl dc_1_42_13 ?_
      refine h_callv (t := (11, 0, rl [(6, D 9 s), (5, D 8 s)])) (as := []) (rest := []) (v := .int (hst sg s)) (M1 := hk M T cs) rfl rfl iv_0_v261 (Or.inl rfl) na_1_118 (hSt s (by omega)).1 (hSt s (by omega)).2.1 (show (11 : Nat) < 14 by decide) o_118 rfl (show (0 : Nat) ≤ 8 by decide) dc_1_42_14 (mm_Ev_up (by decide : 2 ≤ 5) (k_host M T cs sg D s _ (hV.2.1.2.2.2.2 s (by omega)) (inN_tN (hRt s (by omega)).2.2.2.2.2.2.1 (by decide)).2)) ?_
      refine r_istore (ls' := [(5, .int (hst sg s)), (4, .int (nI 0)), (0, .ref 0), (1, .int (nI s)), (2, .ref (D 7 s)), (3, .int (nI 0))]) (by decide) rfl dc_1_42_17 ?_
      refine r_aload_n rfl dc_1_42_19 ?_
      refine h_get (t := cT e 0) (v := .ref 28) fx_0_74 (hF 0 (by decide)) ⟨by omega, by omega⟩ (rfl) dc_1_42_20 ?_
      refine r_iload_n rfl dc_1_42_23 ?_
      refine h_call0 (t := cT e 28) (as := [.int (nI s)]) (rest := []) (M1 := hk M T (w1 (w1 (w1 cs 37 n (nI s)) 38 n (nI 0)) 28 1 (nI (n + 1)))) rfl rfl iv_0_v383 (Or.inl rfl) na_1_119 (hF 28 (by decide)) ⟨by omega, by omega⟩ (show (7 : Nat) < 14 by decide) o_119 rfl (show (0 : Nat) ≤ 8 by decide) dc_1_42_24 (mm_Ev_up (by decide : 1 ≤ 5) (k_addSt M hM T e hF cs n hsz hn (nI s))) ?_
      refine r_iconst (v := nI 0) (by decide) dc_1_42_27 ?_
      refine r_istore (ls' := [(6, .int (nI 0)), (5, .int (hst sg s)), (4, .int (nI 0)), (0, .ref 0), (1, .int (nI s)), (2, .ref (D 7 s)), (3, .int (nI 0))]) (by decide) rfl dc_1_42_28 ?_
      refine r_ls [(6, .int (nI 0)), (0, .ref 0), (1, .int (nI s)), (2, .ref (D 7 s)), (3, .int (nI 0)), (4, .int (nI 0)), (5, .int (hst sg s))] (mm_ndk_of [6, 0, 1, 2, 3, 4, 5] rfl (by decide)) (mm_sub_cons rfl (mm_sub_cons rfl (mm_sub_cons rfl (mm_sub_cons rfl (mm_sub_cons rfl (mm_sub_cons rfl (mm_sub_cons rfl (mm_sub_nil _)))))))) ?_
      refine mm_cnt (P := fun m => ∀ (cs1 : Nat → Nat → Int32), (AdI D nx n cs cs1 0 sg my s m) → mm_Ru 5 (0, 9, false, prog_1_method_42_code, none) 30 [(6, .int (nI m)), (0, .ref 0), (1, .int (nI s)), (2, .ref (D 7 s)), (3, .int (nI 0)), (4, .int (nI 0)), (5, .int (hst sg s))] [] (hk M T cs1) (fun r9 => ∃ (cs3 : Nat → Nat → Int32), (FrP D nx n cs cs3 ∧ cs3 28 1 = nI (n + 1) ∧ PLr cs3 0 sg my n s) ∧ r9 = ((none, hk M T cs3)))) (tN (sg 59 s)) ?_ ?_ 0 (by omega) (w1 (w1 (w1 cs 37 n (nI s)) 38 n (nI 0)) 28 1 (nI (n + 1))) (AdI_0 hn)
      · intro  cs1 hi_m
        show mm_Ru 5 (0, 9, false, prog_1_method_42_code, none) 30 [(6, .int (nI (tN (sg 59 s)))), (0, .ref 0), (1, .int (nI s)), (2, .ref (D 7 s)), (3, .int (nI 0)), (4, .int (nI 0)), (5, .int (hst sg s))] [] (hk M T cs1) (fun r9 => ∃ (cs3 : Nat → Nat → Int32), (FrP D nx n cs cs3 ∧ cs3 28 1 = nI (n + 1) ∧ PLr cs3 0 sg my n s) ∧ r9 = ((none, hk M T cs3)))
        have hV1 := CV_f hV hi_m.1.1
        have hcl := clA_le (fun d => ¬ my s d = -1) (tN (sg 59 s))
        refine r_iload rfl dc_1_42_30 ?_
        refine r_aload_n rfl dc_1_42_32 ?_
        refine h_get (t := (11, 0, rl [(6, D 9 s), (5, D 8 s)])) (v := .int (nI (tN (sg 59 s)))) fx_0_386 (hSt s (by omega)).1 (hSt s (by omega)).2.1 (show some (Value.int _) = _ from congrArg (fun z => some (Value.int z)) ((hV1.2.1.2.2.2.2 s (by omega)).2.2.2.1.2.2.2.2.2.1)) dc_1_42_33 ?_
        refine r_ncge (t := 104) (by omega) (by omega) (by decide) dc_1_42_36 (fun c_36 => ?_) (fun c_36 => ?_)
        · skip
          refine r_aload_n rfl dc_1_42_104 ?_
          refine h_get (t := cT e 0) (v := .ref 28) fx_0_74 (hF 0 (by decide)) ⟨by omega, by omega⟩ (rfl) dc_1_42_105 ?_
          refine r_iload rfl dc_1_42_108 ?_
          refine r_iconst (v := -1) (by decide) dc_1_42_110 ?_
          refine r_icne (t := 118) (by decide) dc_1_42_111 (fun c_111 => ?_) (fun c_111 => ?_)
          · skip
            refine r_iload rfl dc_1_42_118 ?_
            refine h_call0 (t := cT e 28) (as := [.int (nI 0)]) (rest := []) (M1 := hk M T (w1 (w1 (w1 (w1 (w1 (w1 cs1 (40 + n) (clA (fun d => ¬ my s d = -1) (tN (sg 59 s))).1 (-1)) (48 + n) (clA (fun d => ¬ my s d = -1) (tN (sg 59 s))).1 (-1)) (56 + n) (clA (fun d => ¬ my s d = -1) (tN (sg 59 s))).1 (-1)) (64 + n) (clA (fun d => ¬ my s d = -1) (tN (sg 59 s))).1 (nI 0)) (72 + n) (clA (fun d => ¬ my s d = -1) (tN (sg 59 s))).1 (-(nI 0))) 38 n (nI ((clA (fun d => ¬ my s d = -1) (tN (sg 59 s))).1 + 1)))) rfl rfl iv_0_v392 (Or.inl rfl) na_1_123 (hF 28 (by decide)) ⟨by omega, by omega⟩ (show (7 : Nat) < 14 by decide) o_123 rfl (show (0 : Nat) ≤ 8 by decide) dc_1_42_120 (mm_Ev_up (by decide : 2 ≤ 5) (k_addNo M hM T e hF cs1 n (clA (fun d => ¬ my s d = -1) (tN (sg 59 s))).1 hi_m.2.1 hn hi_m.2.2.2.1 (by omega) (nI 0))) ?_
            refine r_vret rfl dc_1_42_123 ?_
            exact ⟨_, AdI_E hn hi_m (opt_4 (by rw [if_neg (fun z => c_111 z.symm)]; decide)), rfl⟩
          · skip
            refine r_iconst (v := nI 0) (by decide) dc_1_42_114 ?_
            refine r_goto (t := 120) (by decide) dc_1_42_115 ?_
            refine h_call0 (t := cT e 28) (as := [.int (nI 0)]) (rest := []) (M1 := hk M T (w1 (w1 (w1 (w1 (w1 (w1 cs1 (40 + n) (clA (fun d => ¬ my s d = -1) (tN (sg 59 s))).1 (-1)) (48 + n) (clA (fun d => ¬ my s d = -1) (tN (sg 59 s))).1 (-1)) (56 + n) (clA (fun d => ¬ my s d = -1) (tN (sg 59 s))).1 (-1)) (64 + n) (clA (fun d => ¬ my s d = -1) (tN (sg 59 s))).1 (nI 0)) (72 + n) (clA (fun d => ¬ my s d = -1) (tN (sg 59 s))).1 (-(nI 0))) 38 n (nI ((clA (fun d => ¬ my s d = -1) (tN (sg 59 s))).1 + 1)))) rfl rfl iv_0_v392 (Or.inl rfl) na_1_123 (hF 28 (by decide)) ⟨by omega, by omega⟩ (show (7 : Nat) < 14 by decide) o_123 rfl (show (0 : Nat) ≤ 8 by decide) dc_1_42_120 (mm_Ev_up (by decide : 2 ≤ 5) (k_addNo M hM T e hF cs1 n (clA (fun d => ¬ my s d = -1) (tN (sg 59 s))).1 hi_m.2.1 hn hi_m.2.2.2.1 (by omega) (nI 0))) ?_
            refine r_vret rfl dc_1_42_123 ?_
            exact ⟨_, AdI_E hn hi_m (opt_4 (by rw [if_pos c_111.symm]; decide)), rfl⟩
        · omega
      · intro m h_m ih_m  cs1 hi_m
        have hV1 := CV_f hV hi_m.1.1
        have hcl := clA_le (fun d => ¬ my s d = -1) m
        show mm_Ru 5 (0, 9, false, prog_1_method_42_code, none) 30 [(6, .int (nI m)), (0, .ref 0), (1, .int (nI s)), (2, .ref (D 7 s)), (3, .int (nI 0)), (4, .int (nI 0)), (5, .int (hst sg s))] [] (hk M T cs1) (fun r9 => ∃ (cs3 : Nat → Nat → Int32), (FrP D nx n cs cs3 ∧ cs3 28 1 = nI (n + 1) ∧ PLr cs3 0 sg my n s) ∧ r9 = ((none, hk M T cs3)))
        refine r_iload rfl dc_1_42_30 ?_
        refine r_aload_n rfl dc_1_42_32 ?_
        refine h_get (t := (11, 0, rl [(6, D 9 s), (5, D 8 s)])) (v := .int (nI (tN (sg 59 s)))) fx_0_386 (hSt s (by omega)).1 (hSt s (by omega)).2.1 (show some (Value.int _) = _ from congrArg (fun z => some (Value.int z)) ((hV1.2.1.2.2.2.2 s (by omega)).2.2.2.1.2.2.2.2.2.1)) dc_1_42_33 ?_
        refine r_ncge (t := 104) (by omega) (by omega) (by decide) dc_1_42_36 (fun c_36 => ?_) (fun c_36 => ?_)
        · omega
        · skip
          refine r_aload_n rfl dc_1_42_39 ?_
          refine r_iload rfl dc_1_42_40 ?_
          obtain ⟨v9, hv9, ew9⟩ := (hRt s hs).2.2.2.2.2.2.2.1 m h_m
          refine h_callv (t := (11, 0, rl [(6, D 9 s), (5, D 8 s)])) (as := [.int (nI m)]) (rest := []) (v := .int (nI v9)) (M1 := hk M T cs1) rfl rfl iv_0_v306 (Or.inl rfl) na_1_105 (hSt s (by omega)).1 (hSt s (by omega)).2.1 (show (11 : Nat) < 14 by decide) o_105 rfl (show (0 : Nat) ≤ 8 by decide) dc_1_42_42 (mm_Ev_up (by decide : 1 ≤ 5) (ew9 ▸ k_wishAt M T cs1 sg D s _ (hV1.2.1.2.2.2.2 s (by omega)) q59.2 m h_m)) ?_
          refine r_istore (ls' := [(7, .int (nI v9)), (6, .int (nI m)), (0, .ref 0), (1, .int (nI s)), (2, .ref (D 7 s)), (3, .int (nI 0)), (4, .int (nI 0)), (5, .int (hst sg s))]) (by decide) rfl dc_1_42_45 ?_
          refine r_aload_n rfl dc_1_42_47 ?_
          refine r_aload_n rfl dc_1_42_48 ?_
          refine r_iload rfl dc_1_42_49 ?_
          obtain ⟨cs2, hf2, hev2⟩ := k_agTo hV1 s v9 hs hv9
          have emy : my s m = sp_mby io sg cm w nx s (nI v9) := by rw [hmy, ← ew9]
          have hin : my s m = -1 ∨ ∃ j, j < nx ∧ my s m = nI j := by
            rw [emy]
            unfold sp_mby
            exact (fst_in nx).imp id (fun z => z.elim fun j h => ⟨j, h.1, h.2.1⟩)
          have hV2 := CV_f hV1 (FrD_C hf2)
          have hA2 := AdI_D hn hJ hi_m hf2
          refine h_callv (t := cT e 0) (as := [.ref (D 7 s), .int (nI v9)]) (rest := []) (v := .int (my s m)) (M1 := hk M T cs2) rfl rfl iv_0_v190 (Or.inl rfl) na_1_107 (hF 0 (by decide)) ⟨by omega, by omega⟩ (show (0 : Nat) < 14 by decide) o_107 rfl (show (0 : Nat) ≤ 8 by decide) dc_1_42_51 (by rw [emy]; exact hev2) ?_
          refine r_istore (ls' := [(8, .int (my s m)), (7, .int (nI v9)), (6, .int (nI m)), (0, .ref 0), (1, .int (nI s)), (2, .ref (D 7 s)), (3, .int (nI 0)), (4, .int (nI 0)), (5, .int (hst sg s))]) (by decide) rfl dc_1_42_54 ?_
          refine r_iload rfl dc_1_42_56 ?_
          refine r_iconst (v := -1) (by decide) dc_1_42_58 ?_
          refine r_iceq (t := 98) (by decide) dc_1_42_59 (fun c_59 => ?_) (fun c_59 => ?_)
          · skip
            refine r_iinc (n := 6) (k := 1) (x := nI m) (v := nI (m + 1)) (ls' := [(6, .int (nI (m + 1))), (8, .int (my s m)), (7, .int (nI v9)), (0, .ref 0), (1, .int (nI s)), (2, .ref (D 7 s)), (3, .int (nI 0)), (4, .int (nI 0)), (5, .int (hst sg s))]) rfl (nI_1 _) (by decide) rfl dc_1_42_98 ?_
            refine r_goto (t := 30) (by decide) dc_1_42_101 ?_
            refine r_ls [(6, .int (nI (m + 1))), (0, .ref 0), (1, .int (nI s)), (2, .ref (D 7 s)), (3, .int (nI 0)), (4, .int (nI 0)), (5, .int (hst sg s))] (mm_ndk_of [6, 0, 1, 2, 3, 4, 5] rfl (by decide)) (mm_sub_cons rfl (mm_sub_cons rfl (mm_sub_cons rfl (mm_sub_cons rfl (mm_sub_cons rfl (mm_sub_cons rfl (mm_sub_cons rfl (mm_sub_nil _)))))))) ?_
            exact ih_m cs2 (AdI_n hA2 c_59)
          · obtain ⟨xv, hxv, exv⟩ := hin.resolve_left c_59
            refine r_aload_n rfl dc_1_42_62 ?_
            refine h_get (t := cT e 0) (v := .ref 28) fx_0_74 (hF 0 (by decide)) ⟨by omega, by omega⟩ (rfl) dc_1_42_63 ?_
            refine r_iload rfl dc_1_42_66 ?_
            refine r_iload rfl dc_1_42_68 ?_
            refine r_iload rfl dc_1_42_70 ?_
            refine r_aload_n rfl dc_1_42_72 ?_
            refine r_aload_n rfl dc_1_42_73 ?_
            refine h_get (t := (11, 0, rl [(6, D 9 s), (5, D 8 s)])) (v := .int (sg 51 s)) fx_0_264 (hSt s (by omega)).1 (hSt s (by omega)).2.1 (show some (Value.int _) = _ from congrArg (fun z => some (Value.int z)) ((hV2.2.1.2.2.2.2 s (by omega)).2.2.2.1.1)) dc_1_42_74 ?_
            refine r_iload rfl dc_1_42_77 ?_
            refine h_callv (t := cT e 0) (as := [.int (sg 51 s), .int (my s m)]) (rest := [.int (my s m), .int (nI v9), .int (nI m), .ref 28]) (v := .int (if sg 27 xv = sg 51 s then nI 1 else -1)) (M1 := hk M T cs2) rfl rfl iv_0_v359 (Or.inl rfl) na_1_120 (hF 0 (by decide)) ⟨by omega, by omega⟩ (show (0 : Nat) < 14 by decide) o_120 rfl (show (4 : Nat) ≤ 8 by decide) dc_1_42_79 (by rw [exv]; exact k_wayOf hV2 xv hxv (sg 51 s)) ?_
            refine r_iload rfl dc_1_42_82 ?_
            refine r_iload rfl dc_1_42_84 ?_
            refine r_icne (t := 93) (by decide) dc_1_42_86 (fun c_86 => ?_) (fun c_86 => ?_)
            · skip
              refine r_iload rfl dc_1_42_93 ?_
              refine h_call0 (t := cT e 28) (as := [.int (nI m), .int (nI v9), .int (my s m), .int (if sg 27 xv = sg 51 s then nI 1 else -1), .int (nI 0)]) (rest := []) (M1 := hk M T (w1 (w1 (w1 (w1 (w1 (w1 cs2 (40 + n) (clA (fun d => ¬ my s d = -1) m).1 (nI m)) (48 + n) (clA (fun d => ¬ my s d = -1) m).1 (nI v9)) (56 + n) (clA (fun d => ¬ my s d = -1) m).1 (my s m)) (64 + n) (clA (fun d => ¬ my s d = -1) m).1 (if sg 27 xv = sg 51 s then nI 1 else -1)) (72 + n) (clA (fun d => ¬ my s d = -1) m).1 (mm_worth m - nI 0)) 38 n (nI ((clA (fun d => ¬ my s d = -1) m).1 + 1)))) rfl rfl iv_0_v389 (Or.inl rfl) na_1_121 (hF 28 (by decide)) ⟨by omega, by omega⟩ (show (7 : Nat) < 14 by decide) o_121 rfl (show (0 : Nat) ≤ 8 by decide) dc_1_42_95 (mm_Ev_up (by decide : 2 ≤ 5) (k_addO M hM T e hF cs2 (by omega) hW n (clA (fun d => ¬ my s d = -1) m).1 hA2.2.1 hn hA2.2.2.2.1 (by omega) m (by omega) (nI v9) (my s m) (if sg 27 xv = sg 51 s then nI 1 else -1) (nI 0))) ?_
              refine r_iinc (n := 6) (k := 1) (x := nI m) (v := nI (m + 1)) (ls' := [(6, .int (nI (m + 1))), (8, .int (my s m)), (7, .int (nI v9)), (0, .ref 0), (1, .int (nI s)), (2, .ref (D 7 s)), (3, .int (nI 0)), (4, .int (nI 0)), (5, .int (hst sg s))]) rfl (nI_1 _) (by decide) rfl dc_1_42_98 ?_
              refine r_goto (t := 30) (by decide) dc_1_42_101 ?_
              refine r_ls [(6, .int (nI (m + 1))), (0, .ref 0), (1, .int (nI s)), (2, .ref (D 7 s)), (3, .int (nI 0)), (4, .int (nI 0)), (5, .int (hst sg s))] (mm_ndk_of [6, 0, 1, 2, 3, 4, 5] rfl (by decide)) (mm_sub_cons rfl (mm_sub_cons rfl (mm_sub_cons rfl (mm_sub_cons rfl (mm_sub_cons rfl (mm_sub_cons rfl (mm_sub_cons rfl (mm_sub_nil _)))))))) ?_
              exact ih_m (w1 (w1 (w1 (w1 (w1 (w1 cs2 (40 + n) (clA (fun d => ¬ my s d = -1) m).1 (nI m)) (48 + n) (clA (fun d => ¬ my s d = -1) m).1 (nI v9)) (56 + n) (clA (fun d => ¬ my s d = -1) m).1 (my s m)) (64 + n) (clA (fun d => ¬ my s d = -1) m).1 (if sg 27 xv = sg 51 s then nI 1 else -1)) (72 + n) (clA (fun d => ¬ my s d = -1) m).1 (mm_worth m - nI 0)) 38 n (nI ((clA (fun d => ¬ my s d = -1) m).1 + 1))) (AdI_p hn (by omega) hA2 exv (by omega) ew9 (by omega) (opt_y (by omega) exv (by omega)) (opt_w (by omega) ew9 (by rw [if_neg c_86]; decide)))
            · skip
              refine r_iconst (v := nI 0) (by decide) dc_1_42_89 ?_
              refine r_goto (t := 95) (by decide) dc_1_42_90 ?_
              refine h_call0 (t := cT e 28) (as := [.int (nI m), .int (nI v9), .int (my s m), .int (if sg 27 xv = sg 51 s then nI 1 else -1), .int (nI 0)]) (rest := []) (M1 := hk M T (w1 (w1 (w1 (w1 (w1 (w1 cs2 (40 + n) (clA (fun d => ¬ my s d = -1) m).1 (nI m)) (48 + n) (clA (fun d => ¬ my s d = -1) m).1 (nI v9)) (56 + n) (clA (fun d => ¬ my s d = -1) m).1 (my s m)) (64 + n) (clA (fun d => ¬ my s d = -1) m).1 (if sg 27 xv = sg 51 s then nI 1 else -1)) (72 + n) (clA (fun d => ¬ my s d = -1) m).1 (mm_worth m - nI 0)) 38 n (nI ((clA (fun d => ¬ my s d = -1) m).1 + 1)))) rfl rfl iv_0_v389 (Or.inl rfl) na_1_121 (hF 28 (by decide)) ⟨by omega, by omega⟩ (show (7 : Nat) < 14 by decide) o_121 rfl (show (0 : Nat) ≤ 8 by decide) dc_1_42_95 (mm_Ev_up (by decide : 2 ≤ 5) (k_addO M hM T e hF cs2 (by omega) hW n (clA (fun d => ¬ my s d = -1) m).1 hA2.2.1 hn hA2.2.2.2.1 (by omega) m (by omega) (nI v9) (my s m) (if sg 27 xv = sg 51 s then nI 1 else -1) (nI 0))) ?_
              refine r_iinc (n := 6) (k := 1) (x := nI m) (v := nI (m + 1)) (ls' := [(6, .int (nI (m + 1))), (8, .int (my s m)), (7, .int (nI v9)), (0, .ref 0), (1, .int (nI s)), (2, .ref (D 7 s)), (3, .int (nI 0)), (4, .int (nI 0)), (5, .int (hst sg s))]) rfl (nI_1 _) (by decide) rfl dc_1_42_98 ?_
              refine r_goto (t := 30) (by decide) dc_1_42_101 ?_
              refine r_ls [(6, .int (nI (m + 1))), (0, .ref 0), (1, .int (nI s)), (2, .ref (D 7 s)), (3, .int (nI 0)), (4, .int (nI 0)), (5, .int (hst sg s))] (mm_ndk_of [6, 0, 1, 2, 3, 4, 5] rfl (by decide)) (mm_sub_cons rfl (mm_sub_cons rfl (mm_sub_cons rfl (mm_sub_cons rfl (mm_sub_cons rfl (mm_sub_cons rfl (mm_sub_cons rfl (mm_sub_nil _)))))))) ?_
              exact ih_m (w1 (w1 (w1 (w1 (w1 (w1 cs2 (40 + n) (clA (fun d => ¬ my s d = -1) m).1 (nI m)) (48 + n) (clA (fun d => ¬ my s d = -1) m).1 (nI v9)) (56 + n) (clA (fun d => ¬ my s d = -1) m).1 (my s m)) (64 + n) (clA (fun d => ¬ my s d = -1) m).1 (if sg 27 xv = sg 51 s then nI 1 else -1)) (72 + n) (clA (fun d => ¬ my s d = -1) m).1 (mm_worth m - nI 0)) 38 n (nI ((clA (fun d => ¬ my s d = -1) m).1 + 1))) (AdI_p hn (by omega) hA2 exv (by omega) ew9 (by omega) (opt_y (by omega) exv (by omega)) (opt_w (by omega) ew9 (by rw [if_pos c_86]; decide)))
    · exact absurd c_1 (by decide)
  obtain ⟨z9, ⟨cs3, p9, e9⟩, h9⟩ := hq9
  subst e9
  exact ⟨cs3, p9, h9⟩
set_option maxHeartbeats 4000000 in
theorem k_addP1 {M : mH} {T : Nat → mT} {cs sg : Nat → Nat → Int32} {io : Nat → Int32} {e : Nat → Nat} {D : Nat → Nat → Nat} {nh nx ns nf ny tp : Nat} {cm : Nat → Nat} {w : Nat → Nat → Nat} {cn : Nat → Nat} {wc : Nat → Nat → Nat} (hV : CV M T cs io sg e D nh nx ns nf ny tp cm w cn wc) (s n : Nat) (hs : s < ns) (hn : n < 7) (hsz : cs 28 1 = nI n) (my : Nat → Nat → Int32) (hmy : my = (fun s k => sp_mby io sg cm w nx s (sg 60 (4 * s + k)))) : ∃ (cs3 : Nat → Nat → Int32), (FrP D nx n cs cs3 ∧ cs3 28 1 = nI (n + 1) ∧ PLr cs3 1 sg my n s) ∧ mm_Ev 6 117 [.ref 0, .int (nI s), .ref (D 7 s), .int (nI 1)] (hk M T cs) ((none, hk M T cs3)) := by
  have hq9 : ∃ z, (fun r9 => ∃ (cs3 : Nat → Nat → Int32), (FrP D nx n cs cs3 ∧ cs3 28 1 = nI (n + 1) ∧ PLr cs3 1 sg my n s) ∧ r9 = ((none, hk M T cs3))) z ∧ mm_Ev 6 117 [.ref 0, .int (nI s), .ref (D 7 s), .int (nI 1)] (hk M T cs) z := by
    obtain ⟨⟨hM, hMs, hW⟩, hC, hT, hR, hJ⟩ := id hV
    obtain ⟨hF, ⟨hL0, hL1, hL2⟩, hSc, hAg, hSt⟩ := id hC
    obtain ⟨⟨⟨h3, hnh⟩, ⟨h4, hnx⟩, ⟨h5, hns⟩, ⟨h7, hnf⟩, ⟨h6, hny⟩, ⟨h23, htp⟩⟩, hRa, hRb, hRs, hRs2, hRs3, hRx, hCD, hRt, hRt2, hRf⟩ := id hR
    have q59 := inN_tN (hRt s hs).2.2.2.2.2.2.1 (by decide)
    refine r_evQ (by decide +kernel) (show (4 : Nat) ≤ mm_nL 117 by decide +kernel) ?_
    show mm_Ru 5 (0, 9, false, prog_1_method_42_code, none) 0 [(0, .ref 0), (1, .int (nI s)), (2, .ref (D 7 s)), (3, .int (nI 1))] [] (hk M T cs) (fun r9 => ∃ (cs3 : Nat → Nat → Int32), (FrP D nx n cs cs3 ∧ cs3 28 1 = nI (n + 1) ∧ PLr cs3 1 sg my n s) ∧ r9 = ((none, hk M T cs3)))
    refine r_iload_n rfl dc_1_42_0 ?_
    refine r_ifeq (t := 10) (by decide) dc_1_42_1 (fun c_1 => ?_) (fun c_1 => ?_)
    · exact absurd c_1 (by decide)
    · skip
      refine r_sipush (v := nI 4096) (by decide) dc_1_42_4 ?_
      refine r_goto (t := 11) (by decide) dc_1_42_7 ?_
      refine r_istore (ls' := [(4, .int (nI 4096)), (0, .ref 0), (1, .int (nI s)), (2, .ref (D 7 s)), (3, .int (nI 1))]) (by decide) rfl dc_1_42_11 ?_
      refine r_aload_n rfl dc_1_42_13 ?_
      refine h_callv (t := (11, 0, rl [(6, D 9 s), (5, D 8 s)])) (as := []) (rest := []) (v := .int (hst sg s)) (M1 := hk M T cs) rfl rfl iv_0_v261 (Or.inl rfl) na_1_118 (hSt s (by omega)).1 (hSt s (by omega)).2.1 (show (11 : Nat) < 14 by decide) o_118 rfl (show (0 : Nat) ≤ 8 by decide) dc_1_42_14 (mm_Ev_up (by decide : 2 ≤ 5) (k_host M T cs sg D s _ (hV.2.1.2.2.2.2 s (by omega)) (inN_tN (hRt s (by omega)).2.2.2.2.2.2.1 (by decide)).2)) ?_
      refine r_istore (ls' := [(5, .int (hst sg s)), (4, .int (nI 4096)), (0, .ref 0), (1, .int (nI s)), (2, .ref (D 7 s)), (3, .int (nI 1))]) (by decide) rfl dc_1_42_17 ?_
      refine r_aload_n rfl dc_1_42_19 ?_
      refine h_get (t := cT e 0) (v := .ref 28) fx_0_74 (hF 0 (by decide)) ⟨by omega, by omega⟩ (rfl) dc_1_42_20 ?_
      refine r_iload_n rfl dc_1_42_23 ?_
      refine h_call0 (t := cT e 28) (as := [.int (nI s)]) (rest := []) (M1 := hk M T (w1 (w1 (w1 cs 37 n (nI s)) 38 n (nI 0)) 28 1 (nI (n + 1)))) rfl rfl iv_0_v383 (Or.inl rfl) na_1_119 (hF 28 (by decide)) ⟨by omega, by omega⟩ (show (7 : Nat) < 14 by decide) o_119 rfl (show (0 : Nat) ≤ 8 by decide) dc_1_42_24 (mm_Ev_up (by decide : 1 ≤ 5) (k_addSt M hM T e hF cs n hsz hn (nI s))) ?_
      refine r_iconst (v := nI 0) (by decide) dc_1_42_27 ?_
      refine r_istore (ls' := [(6, .int (nI 0)), (5, .int (hst sg s)), (4, .int (nI 4096)), (0, .ref 0), (1, .int (nI s)), (2, .ref (D 7 s)), (3, .int (nI 1))]) (by decide) rfl dc_1_42_28 ?_
      refine r_ls [(6, .int (nI 0)), (0, .ref 0), (1, .int (nI s)), (2, .ref (D 7 s)), (3, .int (nI 1)), (4, .int (nI 4096)), (5, .int (hst sg s))] (mm_ndk_of [6, 0, 1, 2, 3, 4, 5] rfl (by decide)) (mm_sub_cons rfl (mm_sub_cons rfl (mm_sub_cons rfl (mm_sub_cons rfl (mm_sub_cons rfl (mm_sub_cons rfl (mm_sub_cons rfl (mm_sub_nil _)))))))) ?_
      refine mm_cnt (P := fun m => ∀ (cs1 : Nat → Nat → Int32), (AdI D nx n cs cs1 1 sg my s m) → mm_Ru 5 (0, 9, false, prog_1_method_42_code, none) 30 [(6, .int (nI m)), (0, .ref 0), (1, .int (nI s)), (2, .ref (D 7 s)), (3, .int (nI 1)), (4, .int (nI 4096)), (5, .int (hst sg s))] [] (hk M T cs1) (fun r9 => ∃ (cs3 : Nat → Nat → Int32), (FrP D nx n cs cs3 ∧ cs3 28 1 = nI (n + 1) ∧ PLr cs3 1 sg my n s) ∧ r9 = ((none, hk M T cs3)))) (tN (sg 59 s)) ?_ ?_ 0 (by omega) (w1 (w1 (w1 cs 37 n (nI s)) 38 n (nI 0)) 28 1 (nI (n + 1))) (AdI_0 hn)
      · intro  cs1 hi_m
        show mm_Ru 5 (0, 9, false, prog_1_method_42_code, none) 30 [(6, .int (nI (tN (sg 59 s)))), (0, .ref 0), (1, .int (nI s)), (2, .ref (D 7 s)), (3, .int (nI 1)), (4, .int (nI 4096)), (5, .int (hst sg s))] [] (hk M T cs1) (fun r9 => ∃ (cs3 : Nat → Nat → Int32), (FrP D nx n cs cs3 ∧ cs3 28 1 = nI (n + 1) ∧ PLr cs3 1 sg my n s) ∧ r9 = ((none, hk M T cs3)))
        have hV1 := CV_f hV hi_m.1.1
        have hcl := clA_le (fun d => ¬ my s d = -1) (tN (sg 59 s))
        refine r_iload rfl dc_1_42_30 ?_
        refine r_aload_n rfl dc_1_42_32 ?_
        refine h_get (t := (11, 0, rl [(6, D 9 s), (5, D 8 s)])) (v := .int (nI (tN (sg 59 s)))) fx_0_386 (hSt s (by omega)).1 (hSt s (by omega)).2.1 (show some (Value.int _) = _ from congrArg (fun z => some (Value.int z)) ((hV1.2.1.2.2.2.2 s (by omega)).2.2.2.1.2.2.2.2.2.1)) dc_1_42_33 ?_
        refine r_ncge (t := 104) (by omega) (by omega) (by decide) dc_1_42_36 (fun c_36 => ?_) (fun c_36 => ?_)
        · skip
          refine r_aload_n rfl dc_1_42_104 ?_
          refine h_get (t := cT e 0) (v := .ref 28) fx_0_74 (hF 0 (by decide)) ⟨by omega, by omega⟩ (rfl) dc_1_42_105 ?_
          refine r_iload rfl dc_1_42_108 ?_
          refine r_iconst (v := -1) (by decide) dc_1_42_110 ?_
          refine r_icne (t := 118) (by decide) dc_1_42_111 (fun c_111 => ?_) (fun c_111 => ?_)
          · skip
            refine r_iload rfl dc_1_42_118 ?_
            refine h_call0 (t := cT e 28) (as := [.int (nI 4096)]) (rest := []) (M1 := hk M T (w1 (w1 (w1 (w1 (w1 (w1 cs1 (40 + n) (clA (fun d => ¬ my s d = -1) (tN (sg 59 s))).1 (-1)) (48 + n) (clA (fun d => ¬ my s d = -1) (tN (sg 59 s))).1 (-1)) (56 + n) (clA (fun d => ¬ my s d = -1) (tN (sg 59 s))).1 (-1)) (64 + n) (clA (fun d => ¬ my s d = -1) (tN (sg 59 s))).1 (nI 0)) (72 + n) (clA (fun d => ¬ my s d = -1) (tN (sg 59 s))).1 (-(nI 4096))) 38 n (nI ((clA (fun d => ¬ my s d = -1) (tN (sg 59 s))).1 + 1)))) rfl rfl iv_0_v392 (Or.inl rfl) na_1_123 (hF 28 (by decide)) ⟨by omega, by omega⟩ (show (7 : Nat) < 14 by decide) o_123 rfl (show (0 : Nat) ≤ 8 by decide) dc_1_42_120 (mm_Ev_up (by decide : 2 ≤ 5) (k_addNo M hM T e hF cs1 n (clA (fun d => ¬ my s d = -1) (tN (sg 59 s))).1 hi_m.2.1 hn hi_m.2.2.2.1 (by omega) (nI 4096))) ?_
            refine r_vret rfl dc_1_42_123 ?_
            exact ⟨_, AdI_E hn hi_m (opt_4 (by rw [if_neg (fun z => c_111 z.symm)]; decide)), rfl⟩
          · skip
            refine r_iconst (v := nI 0) (by decide) dc_1_42_114 ?_
            refine r_goto (t := 120) (by decide) dc_1_42_115 ?_
            refine h_call0 (t := cT e 28) (as := [.int (nI 0)]) (rest := []) (M1 := hk M T (w1 (w1 (w1 (w1 (w1 (w1 cs1 (40 + n) (clA (fun d => ¬ my s d = -1) (tN (sg 59 s))).1 (-1)) (48 + n) (clA (fun d => ¬ my s d = -1) (tN (sg 59 s))).1 (-1)) (56 + n) (clA (fun d => ¬ my s d = -1) (tN (sg 59 s))).1 (-1)) (64 + n) (clA (fun d => ¬ my s d = -1) (tN (sg 59 s))).1 (nI 0)) (72 + n) (clA (fun d => ¬ my s d = -1) (tN (sg 59 s))).1 (-(nI 0))) 38 n (nI ((clA (fun d => ¬ my s d = -1) (tN (sg 59 s))).1 + 1)))) rfl rfl iv_0_v392 (Or.inl rfl) na_1_123 (hF 28 (by decide)) ⟨by omega, by omega⟩ (show (7 : Nat) < 14 by decide) o_123 rfl (show (0 : Nat) ≤ 8 by decide) dc_1_42_120 (mm_Ev_up (by decide : 2 ≤ 5) (k_addNo M hM T e hF cs1 n (clA (fun d => ¬ my s d = -1) (tN (sg 59 s))).1 hi_m.2.1 hn hi_m.2.2.2.1 (by omega) (nI 0))) ?_
            refine r_vret rfl dc_1_42_123 ?_
            exact ⟨_, AdI_E hn hi_m (opt_4 (by rw [if_pos c_111.symm]; decide)), rfl⟩
        · omega
      · intro m h_m ih_m  cs1 hi_m
        have hV1 := CV_f hV hi_m.1.1
        have hcl := clA_le (fun d => ¬ my s d = -1) m
        show mm_Ru 5 (0, 9, false, prog_1_method_42_code, none) 30 [(6, .int (nI m)), (0, .ref 0), (1, .int (nI s)), (2, .ref (D 7 s)), (3, .int (nI 1)), (4, .int (nI 4096)), (5, .int (hst sg s))] [] (hk M T cs1) (fun r9 => ∃ (cs3 : Nat → Nat → Int32), (FrP D nx n cs cs3 ∧ cs3 28 1 = nI (n + 1) ∧ PLr cs3 1 sg my n s) ∧ r9 = ((none, hk M T cs3)))
        refine r_iload rfl dc_1_42_30 ?_
        refine r_aload_n rfl dc_1_42_32 ?_
        refine h_get (t := (11, 0, rl [(6, D 9 s), (5, D 8 s)])) (v := .int (nI (tN (sg 59 s)))) fx_0_386 (hSt s (by omega)).1 (hSt s (by omega)).2.1 (show some (Value.int _) = _ from congrArg (fun z => some (Value.int z)) ((hV1.2.1.2.2.2.2 s (by omega)).2.2.2.1.2.2.2.2.2.1)) dc_1_42_33 ?_
        refine r_ncge (t := 104) (by omega) (by omega) (by decide) dc_1_42_36 (fun c_36 => ?_) (fun c_36 => ?_)
        · omega
        · skip
          refine r_aload_n rfl dc_1_42_39 ?_
          refine r_iload rfl dc_1_42_40 ?_
          obtain ⟨v9, hv9, ew9⟩ := (hRt s hs).2.2.2.2.2.2.2.1 m h_m
          refine h_callv (t := (11, 0, rl [(6, D 9 s), (5, D 8 s)])) (as := [.int (nI m)]) (rest := []) (v := .int (nI v9)) (M1 := hk M T cs1) rfl rfl iv_0_v306 (Or.inl rfl) na_1_105 (hSt s (by omega)).1 (hSt s (by omega)).2.1 (show (11 : Nat) < 14 by decide) o_105 rfl (show (0 : Nat) ≤ 8 by decide) dc_1_42_42 (mm_Ev_up (by decide : 1 ≤ 5) (ew9 ▸ k_wishAt M T cs1 sg D s _ (hV1.2.1.2.2.2.2 s (by omega)) q59.2 m h_m)) ?_
          refine r_istore (ls' := [(7, .int (nI v9)), (6, .int (nI m)), (0, .ref 0), (1, .int (nI s)), (2, .ref (D 7 s)), (3, .int (nI 1)), (4, .int (nI 4096)), (5, .int (hst sg s))]) (by decide) rfl dc_1_42_45 ?_
          refine r_aload_n rfl dc_1_42_47 ?_
          refine r_aload_n rfl dc_1_42_48 ?_
          refine r_iload rfl dc_1_42_49 ?_
          obtain ⟨cs2, hf2, hev2⟩ := k_agTo hV1 s v9 hs hv9
          have emy : my s m = sp_mby io sg cm w nx s (nI v9) := by rw [hmy, ← ew9]
          have hin : my s m = -1 ∨ ∃ j, j < nx ∧ my s m = nI j := by
            rw [emy]
            unfold sp_mby
            exact (fst_in nx).imp id (fun z => z.elim fun j h => ⟨j, h.1, h.2.1⟩)
          have hV2 := CV_f hV1 (FrD_C hf2)
          have hA2 := AdI_D hn hJ hi_m hf2
          refine h_callv (t := cT e 0) (as := [.ref (D 7 s), .int (nI v9)]) (rest := []) (v := .int (my s m)) (M1 := hk M T cs2) rfl rfl iv_0_v190 (Or.inl rfl) na_1_107 (hF 0 (by decide)) ⟨by omega, by omega⟩ (show (0 : Nat) < 14 by decide) o_107 rfl (show (0 : Nat) ≤ 8 by decide) dc_1_42_51 (by rw [emy]; exact hev2) ?_
          refine r_istore (ls' := [(8, .int (my s m)), (7, .int (nI v9)), (6, .int (nI m)), (0, .ref 0), (1, .int (nI s)), (2, .ref (D 7 s)), (3, .int (nI 1)), (4, .int (nI 4096)), (5, .int (hst sg s))]) (by decide) rfl dc_1_42_54 ?_
          refine r_iload rfl dc_1_42_56 ?_
          refine r_iconst (v := -1) (by decide) dc_1_42_58 ?_
          refine r_iceq (t := 98) (by decide) dc_1_42_59 (fun c_59 => ?_) (fun c_59 => ?_)
          · skip
            refine r_iinc (n := 6) (k := 1) (x := nI m) (v := nI (m + 1)) (ls' := [(6, .int (nI (m + 1))), (8, .int (my s m)), (7, .int (nI v9)), (0, .ref 0), (1, .int (nI s)), (2, .ref (D 7 s)), (3, .int (nI 1)), (4, .int (nI 4096)), (5, .int (hst sg s))]) rfl (nI_1 _) (by decide) rfl dc_1_42_98 ?_
            refine r_goto (t := 30) (by decide) dc_1_42_101 ?_
            refine r_ls [(6, .int (nI (m + 1))), (0, .ref 0), (1, .int (nI s)), (2, .ref (D 7 s)), (3, .int (nI 1)), (4, .int (nI 4096)), (5, .int (hst sg s))] (mm_ndk_of [6, 0, 1, 2, 3, 4, 5] rfl (by decide)) (mm_sub_cons rfl (mm_sub_cons rfl (mm_sub_cons rfl (mm_sub_cons rfl (mm_sub_cons rfl (mm_sub_cons rfl (mm_sub_cons rfl (mm_sub_nil _)))))))) ?_
            exact ih_m cs2 (AdI_n hA2 c_59)
          · obtain ⟨xv, hxv, exv⟩ := hin.resolve_left c_59
            refine r_aload_n rfl dc_1_42_62 ?_
            refine h_get (t := cT e 0) (v := .ref 28) fx_0_74 (hF 0 (by decide)) ⟨by omega, by omega⟩ (rfl) dc_1_42_63 ?_
            refine r_iload rfl dc_1_42_66 ?_
            refine r_iload rfl dc_1_42_68 ?_
            refine r_iload rfl dc_1_42_70 ?_
            refine r_aload_n rfl dc_1_42_72 ?_
            refine r_aload_n rfl dc_1_42_73 ?_
            refine h_get (t := (11, 0, rl [(6, D 9 s), (5, D 8 s)])) (v := .int (sg 51 s)) fx_0_264 (hSt s (by omega)).1 (hSt s (by omega)).2.1 (show some (Value.int _) = _ from congrArg (fun z => some (Value.int z)) ((hV2.2.1.2.2.2.2 s (by omega)).2.2.2.1.1)) dc_1_42_74 ?_
            refine r_iload rfl dc_1_42_77 ?_
            refine h_callv (t := cT e 0) (as := [.int (sg 51 s), .int (my s m)]) (rest := [.int (my s m), .int (nI v9), .int (nI m), .ref 28]) (v := .int (if sg 27 xv = sg 51 s then nI 1 else -1)) (M1 := hk M T cs2) rfl rfl iv_0_v359 (Or.inl rfl) na_1_120 (hF 0 (by decide)) ⟨by omega, by omega⟩ (show (0 : Nat) < 14 by decide) o_120 rfl (show (4 : Nat) ≤ 8 by decide) dc_1_42_79 (by rw [exv]; exact k_wayOf hV2 xv hxv (sg 51 s)) ?_
            refine r_iload rfl dc_1_42_82 ?_
            refine r_iload rfl dc_1_42_84 ?_
            refine r_icne (t := 93) (by decide) dc_1_42_86 (fun c_86 => ?_) (fun c_86 => ?_)
            · skip
              refine r_iload rfl dc_1_42_93 ?_
              refine h_call0 (t := cT e 28) (as := [.int (nI m), .int (nI v9), .int (my s m), .int (if sg 27 xv = sg 51 s then nI 1 else -1), .int (nI 4096)]) (rest := []) (M1 := hk M T (w1 (w1 (w1 (w1 (w1 (w1 cs2 (40 + n) (clA (fun d => ¬ my s d = -1) m).1 (nI m)) (48 + n) (clA (fun d => ¬ my s d = -1) m).1 (nI v9)) (56 + n) (clA (fun d => ¬ my s d = -1) m).1 (my s m)) (64 + n) (clA (fun d => ¬ my s d = -1) m).1 (if sg 27 xv = sg 51 s then nI 1 else -1)) (72 + n) (clA (fun d => ¬ my s d = -1) m).1 (mm_worth m - nI 4096)) 38 n (nI ((clA (fun d => ¬ my s d = -1) m).1 + 1)))) rfl rfl iv_0_v389 (Or.inl rfl) na_1_121 (hF 28 (by decide)) ⟨by omega, by omega⟩ (show (7 : Nat) < 14 by decide) o_121 rfl (show (0 : Nat) ≤ 8 by decide) dc_1_42_95 (mm_Ev_up (by decide : 2 ≤ 5) (k_addO M hM T e hF cs2 (by omega) hW n (clA (fun d => ¬ my s d = -1) m).1 hA2.2.1 hn hA2.2.2.2.1 (by omega) m (by omega) (nI v9) (my s m) (if sg 27 xv = sg 51 s then nI 1 else -1) (nI 4096))) ?_
              refine r_iinc (n := 6) (k := 1) (x := nI m) (v := nI (m + 1)) (ls' := [(6, .int (nI (m + 1))), (8, .int (my s m)), (7, .int (nI v9)), (0, .ref 0), (1, .int (nI s)), (2, .ref (D 7 s)), (3, .int (nI 1)), (4, .int (nI 4096)), (5, .int (hst sg s))]) rfl (nI_1 _) (by decide) rfl dc_1_42_98 ?_
              refine r_goto (t := 30) (by decide) dc_1_42_101 ?_
              refine r_ls [(6, .int (nI (m + 1))), (0, .ref 0), (1, .int (nI s)), (2, .ref (D 7 s)), (3, .int (nI 1)), (4, .int (nI 4096)), (5, .int (hst sg s))] (mm_ndk_of [6, 0, 1, 2, 3, 4, 5] rfl (by decide)) (mm_sub_cons rfl (mm_sub_cons rfl (mm_sub_cons rfl (mm_sub_cons rfl (mm_sub_cons rfl (mm_sub_cons rfl (mm_sub_cons rfl (mm_sub_nil _)))))))) ?_
              exact ih_m (w1 (w1 (w1 (w1 (w1 (w1 cs2 (40 + n) (clA (fun d => ¬ my s d = -1) m).1 (nI m)) (48 + n) (clA (fun d => ¬ my s d = -1) m).1 (nI v9)) (56 + n) (clA (fun d => ¬ my s d = -1) m).1 (my s m)) (64 + n) (clA (fun d => ¬ my s d = -1) m).1 (if sg 27 xv = sg 51 s then nI 1 else -1)) (72 + n) (clA (fun d => ¬ my s d = -1) m).1 (mm_worth m - nI 4096)) 38 n (nI ((clA (fun d => ¬ my s d = -1) m).1 + 1))) (AdI_p hn (by omega) hA2 exv (by omega) ew9 (by omega) (opt_y (by omega) exv (by omega)) (opt_w (by omega) ew9 (by rw [if_neg c_86]; decide)))
            · skip
              refine r_iconst (v := nI 0) (by decide) dc_1_42_89 ?_
              refine r_goto (t := 95) (by decide) dc_1_42_90 ?_
              refine h_call0 (t := cT e 28) (as := [.int (nI m), .int (nI v9), .int (my s m), .int (if sg 27 xv = sg 51 s then nI 1 else -1), .int (nI 0)]) (rest := []) (M1 := hk M T (w1 (w1 (w1 (w1 (w1 (w1 cs2 (40 + n) (clA (fun d => ¬ my s d = -1) m).1 (nI m)) (48 + n) (clA (fun d => ¬ my s d = -1) m).1 (nI v9)) (56 + n) (clA (fun d => ¬ my s d = -1) m).1 (my s m)) (64 + n) (clA (fun d => ¬ my s d = -1) m).1 (if sg 27 xv = sg 51 s then nI 1 else -1)) (72 + n) (clA (fun d => ¬ my s d = -1) m).1 (mm_worth m - nI 0)) 38 n (nI ((clA (fun d => ¬ my s d = -1) m).1 + 1)))) rfl rfl iv_0_v389 (Or.inl rfl) na_1_121 (hF 28 (by decide)) ⟨by omega, by omega⟩ (show (7 : Nat) < 14 by decide) o_121 rfl (show (0 : Nat) ≤ 8 by decide) dc_1_42_95 (mm_Ev_up (by decide : 2 ≤ 5) (k_addO M hM T e hF cs2 (by omega) hW n (clA (fun d => ¬ my s d = -1) m).1 hA2.2.1 hn hA2.2.2.2.1 (by omega) m (by omega) (nI v9) (my s m) (if sg 27 xv = sg 51 s then nI 1 else -1) (nI 0))) ?_
              refine r_iinc (n := 6) (k := 1) (x := nI m) (v := nI (m + 1)) (ls' := [(6, .int (nI (m + 1))), (8, .int (my s m)), (7, .int (nI v9)), (0, .ref 0), (1, .int (nI s)), (2, .ref (D 7 s)), (3, .int (nI 1)), (4, .int (nI 4096)), (5, .int (hst sg s))]) rfl (nI_1 _) (by decide) rfl dc_1_42_98 ?_
              refine r_goto (t := 30) (by decide) dc_1_42_101 ?_
              refine r_ls [(6, .int (nI (m + 1))), (0, .ref 0), (1, .int (nI s)), (2, .ref (D 7 s)), (3, .int (nI 1)), (4, .int (nI 4096)), (5, .int (hst sg s))] (mm_ndk_of [6, 0, 1, 2, 3, 4, 5] rfl (by decide)) (mm_sub_cons rfl (mm_sub_cons rfl (mm_sub_cons rfl (mm_sub_cons rfl (mm_sub_cons rfl (mm_sub_cons rfl (mm_sub_cons rfl (mm_sub_nil _)))))))) ?_
              exact ih_m (w1 (w1 (w1 (w1 (w1 (w1 cs2 (40 + n) (clA (fun d => ¬ my s d = -1) m).1 (nI m)) (48 + n) (clA (fun d => ¬ my s d = -1) m).1 (nI v9)) (56 + n) (clA (fun d => ¬ my s d = -1) m).1 (my s m)) (64 + n) (clA (fun d => ¬ my s d = -1) m).1 (if sg 27 xv = sg 51 s then nI 1 else -1)) (72 + n) (clA (fun d => ¬ my s d = -1) m).1 (mm_worth m - nI 0)) 38 n (nI ((clA (fun d => ¬ my s d = -1) m).1 + 1))) (AdI_p hn (by omega) hA2 exv (by omega) ew9 (by omega) (opt_y (by omega) exv (by omega)) (opt_w (by omega) ew9 (by rw [if_pos c_86]; decide)))
  obtain ⟨z9, ⟨cs3, p9, e9⟩, h9⟩ := hq9
  subst e9
  exact ⟨cs3, p9, h9⟩
