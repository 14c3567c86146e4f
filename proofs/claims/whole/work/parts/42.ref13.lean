/-! the reference: begins -/
theorem dc_14_51_0 : decode prog_14_method_51_code 0 = .ok (.aload_n 0, 1) := by decide +kernel
theorem dc_14_51_1 : decode prog_14_method_51_code 1 = .ok (.iconst 0, 1) := by decide +kernel
theorem dc_14_51_2 : decode prog_14_method_51_code 2 = .ok (.putfield 353, 3) := by decide +kernel
theorem dc_14_51_5 : decode prog_14_method_51_code 5 = .ok (.iconst 0, 1) := by decide +kernel
theorem dc_14_51_6 : decode prog_14_method_51_code 6 = .ok (.istore_n 2, 1) := by decide +kernel
theorem dc_14_51_7 : decode prog_14_method_51_code 7 = .ok (.iload_n 2, 1) := by decide +kernel
theorem dc_14_51_8 : decode prog_14_method_51_code 8 = .ok (.aload_n 0, 1) := by decide +kernel
theorem dc_14_51_9 : decode prog_14_method_51_code 9 = .ok (.getfield 320, 3) := by decide +kernel
theorem dc_14_51_12 : decode prog_14_method_51_code 12 = .ok (.if_icmp .ge 152, 3) := by decide +kernel
theorem dc_14_51_15 : decode prog_14_method_51_code 15 = .ok (.aload_n 0, 1) := by decide +kernel
theorem dc_14_51_16 : decode prog_14_method_51_code 16 = .ok (.getfield 353, 3) := by decide +kernel
theorem dc_14_51_19 : decode prog_14_method_51_code 19 = .ok (.bipush 7, 2) := by decide +kernel
theorem dc_14_51_21 : decode prog_14_method_51_code 21 = .ok (.if_icmp .ge 143, 3) := by decide +kernel
theorem dc_14_51_24 : decode prog_14_method_51_code 24 = .ok (.aload_n 0, 1) := by decide +kernel
theorem dc_14_51_25 : decode prog_14_method_51_code 25 = .ok (.getfield 123, 3) := by decide +kernel
theorem dc_14_51_28 : decode prog_14_method_51_code 28 = .ok (.iload_n 2, 1) := by decide +kernel
theorem dc_14_51_29 : decode prog_14_method_51_code 29 = .ok (.iaload, 1) := by decide +kernel
theorem dc_14_51_30 : decode prog_14_method_51_code 30 = .ok (.ifCond .eq 20, 3) := by decide +kernel
theorem dc_14_51_33 : decode prog_14_method_51_code 33 = .ok (.iload_n 1, 1) := by decide +kernel
theorem dc_14_51_34 : decode prog_14_method_51_code 34 = .ok (.ifCond .eq 124, 3) := by decide +kernel
theorem dc_14_51_37 : decode prog_14_method_51_code 37 = .ok (.aload_n 0, 1) := by decide +kernel
theorem dc_14_51_38 : decode prog_14_method_51_code 38 = .ok (.getfield 123, 3) := by decide +kernel
theorem dc_14_51_41 : decode prog_14_method_51_code 41 = .ok (.iload_n 2, 1) := by decide +kernel
theorem dc_14_51_42 : decode prog_14_method_51_code 42 = .ok (.iaload, 1) := by decide +kernel
theorem dc_14_51_43 : decode prog_14_method_51_code 43 = .ok (.iconst 1, 1) := by decide +kernel
theorem dc_14_51_44 : decode prog_14_method_51_code 44 = .ok (.if_icmp .eq 6, 3) := by decide +kernel
theorem dc_14_51_47 : decode prog_14_method_51_code 47 = .ok (.goto 111, 3) := by decide +kernel
theorem dc_14_51_50 : decode prog_14_method_51_code 50 = .ok (.aload_n 0, 1) := by decide +kernel
theorem dc_14_51_51 : decode prog_14_method_51_code 51 = .ok (.getfield 141, 3) := by decide +kernel
theorem dc_14_51_54 : decode prog_14_method_51_code 54 = .ok (.aload_n 0, 1) := by decide +kernel
theorem dc_14_51_55 : decode prog_14_method_51_code 55 = .ok (.getfield 353, 3) := by decide +kernel
theorem dc_14_51_58 : decode prog_14_method_51_code 58 = .ok (.iload_n 2, 1) := by decide +kernel
theorem dc_14_51_59 : decode prog_14_method_51_code 59 = .ok (.iastore, 1) := by decide +kernel
theorem dc_14_51_60 : decode prog_14_method_51_code 60 = .ok (.aload_n 0, 1) := by decide +kernel
theorem dc_14_51_61 : decode prog_14_method_51_code 61 = .ok (.getfield 144, 3) := by decide +kernel
theorem dc_14_51_64 : decode prog_14_method_51_code 64 = .ok (.aload_n 0, 1) := by decide +kernel
theorem dc_14_51_65 : decode prog_14_method_51_code 65 = .ok (.getfield 353, 3) := by decide +kernel
theorem dc_14_51_68 : decode prog_14_method_51_code 68 = .ok (.aload_n 0, 1) := by decide +kernel
theorem dc_14_51_69 : decode prog_14_method_51_code 69 = .ok (.getfield 123, 3) := by decide +kernel
theorem dc_14_51_72 : decode prog_14_method_51_code 72 = .ok (.iload_n 2, 1) := by decide +kernel
theorem dc_14_51_73 : decode prog_14_method_51_code 73 = .ok (.iaload, 1) := by decide +kernel
theorem dc_14_51_74 : decode prog_14_method_51_code 74 = .ok (.iastore, 1) := by decide +kernel
theorem dc_14_51_75 : decode prog_14_method_51_code 75 = .ok (.aload_n 0, 1) := by decide +kernel
theorem dc_14_51_76 : decode prog_14_method_51_code 76 = .ok (.getfield 147, 3) := by decide +kernel
theorem dc_14_51_79 : decode prog_14_method_51_code 79 = .ok (.aload_n 0, 1) := by decide +kernel
theorem dc_14_51_80 : decode prog_14_method_51_code 80 = .ok (.getfield 353, 3) := by decide +kernel
theorem dc_14_51_83 : decode prog_14_method_51_code 83 = .ok (.aload_n 0, 1) := by decide +kernel
theorem dc_14_51_84 : decode prog_14_method_51_code 84 = .ok (.getfield 126, 3) := by decide +kernel
theorem dc_14_51_87 : decode prog_14_method_51_code 87 = .ok (.iload_n 2, 1) := by decide +kernel
theorem dc_14_51_88 : decode prog_14_method_51_code 88 = .ok (.iaload, 1) := by decide +kernel
theorem dc_14_51_89 : decode prog_14_method_51_code 89 = .ok (.iastore, 1) := by decide +kernel
theorem dc_14_51_90 : decode prog_14_method_51_code 90 = .ok (.aload_n 0, 1) := by decide +kernel
theorem dc_14_51_91 : decode prog_14_method_51_code 91 = .ok (.getfield 150, 3) := by decide +kernel
theorem dc_14_51_94 : decode prog_14_method_51_code 94 = .ok (.aload_n 0, 1) := by decide +kernel
theorem dc_14_51_95 : decode prog_14_method_51_code 95 = .ok (.getfield 353, 3) := by decide +kernel
theorem dc_14_51_98 : decode prog_14_method_51_code 98 = .ok (.aload_n 0, 1) := by decide +kernel
theorem dc_14_51_99 : decode prog_14_method_51_code 99 = .ok (.getfield 129, 3) := by decide +kernel
theorem dc_14_51_102 : decode prog_14_method_51_code 102 = .ok (.iload_n 2, 1) := by decide +kernel
theorem dc_14_51_103 : decode prog_14_method_51_code 103 = .ok (.iaload, 1) := by decide +kernel
theorem dc_14_51_104 : decode prog_14_method_51_code 104 = .ok (.iastore, 1) := by decide +kernel
theorem dc_14_51_105 : decode prog_14_method_51_code 105 = .ok (.iconst 0, 1) := by decide +kernel
theorem dc_14_51_106 : decode prog_14_method_51_code 106 = .ok (.istore_n 3, 1) := by decide +kernel
theorem dc_14_51_107 : decode prog_14_method_51_code 107 = .ok (.iload_n 3, 1) := by decide +kernel
theorem dc_14_51_108 : decode prog_14_method_51_code 108 = .ok (.aload_n 0, 1) := by decide +kernel
theorem dc_14_51_109 : decode prog_14_method_51_code 109 = .ok (.getfield 132, 3) := by decide +kernel
theorem dc_14_51_112 : decode prog_14_method_51_code 112 = .ok (.iload_n 2, 1) := by decide +kernel
theorem dc_14_51_113 : decode prog_14_method_51_code 113 = .ok (.iaload, 1) := by decide +kernel
theorem dc_14_51_114 : decode prog_14_method_51_code 114 = .ok (.if_icmp .ge 34, 3) := by decide +kernel
theorem dc_14_51_117 : decode prog_14_method_51_code 117 = .ok (.aload_n 0, 1) := by decide +kernel
theorem dc_14_51_118 : decode prog_14_method_51_code 118 = .ok (.getfield 159, 3) := by decide +kernel
theorem dc_14_51_121 : decode prog_14_method_51_code 121 = .ok (.iconst 4, 1) := by decide +kernel
theorem dc_14_51_122 : decode prog_14_method_51_code 122 = .ok (.iload_n 2, 1) := by decide +kernel
theorem dc_14_51_123 : decode prog_14_method_51_code 123 = .ok (.imul, 1) := by decide +kernel
theorem dc_14_51_124 : decode prog_14_method_51_code 124 = .ok (.iload_n 3, 1) := by decide +kernel
theorem dc_14_51_125 : decode prog_14_method_51_code 125 = .ok (.iadd, 1) := by decide +kernel
theorem dc_14_51_126 : decode prog_14_method_51_code 126 = .ok (.aload_n 0, 1) := by decide +kernel
theorem dc_14_51_127 : decode prog_14_method_51_code 127 = .ok (.iload_n 2, 1) := by decide +kernel
theorem dc_14_51_128 : decode prog_14_method_51_code 128 = .ok (.aload_n 0, 1) := by decide +kernel
theorem dc_14_51_129 : decode prog_14_method_51_code 129 = .ok (.getfield 135, 3) := by decide +kernel
theorem dc_14_51_132 : decode prog_14_method_51_code 132 = .ok (.iconst 4, 1) := by decide +kernel
theorem dc_14_51_133 : decode prog_14_method_51_code 133 = .ok (.iload_n 2, 1) := by decide +kernel
theorem dc_14_51_134 : decode prog_14_method_51_code 134 = .ok (.imul, 1) := by decide +kernel
theorem dc_14_51_135 : decode prog_14_method_51_code 135 = .ok (.iload_n 3, 1) := by decide +kernel
theorem dc_14_51_136 : decode prog_14_method_51_code 136 = .ok (.iadd, 1) := by decide +kernel
theorem dc_14_51_137 : decode prog_14_method_51_code 137 = .ok (.iaload, 1) := by decide +kernel
theorem dc_14_51_138 : decode prog_14_method_51_code 138 = .ok (.invokevirtual 338, 3) := by decide +kernel
theorem dc_14_51_141 : decode prog_14_method_51_code 141 = .ok (.iastore, 1) := by decide +kernel
theorem dc_14_51_142 : decode prog_14_method_51_code 142 = .ok (.iinc 3 1, 3) := by decide +kernel
theorem dc_14_51_145 : decode prog_14_method_51_code 145 = .ok (.goto (-38), 3) := by decide +kernel
theorem dc_14_51_148 : decode prog_14_method_51_code 148 = .ok (.aload_n 0, 1) := by decide +kernel
theorem dc_14_51_149 : decode prog_14_method_51_code 149 = .ok (.aload_n 0, 1) := by decide +kernel
theorem dc_14_51_150 : decode prog_14_method_51_code 150 = .ok (.getfield 353, 3) := by decide +kernel
theorem dc_14_51_153 : decode prog_14_method_51_code 153 = .ok (.iconst 1, 1) := by decide +kernel
theorem dc_14_51_154 : decode prog_14_method_51_code 154 = .ok (.iadd, 1) := by decide +kernel
theorem dc_14_51_155 : decode prog_14_method_51_code 155 = .ok (.putfield 353, 3) := by decide +kernel
theorem dc_14_51_158 : decode prog_14_method_51_code 158 = .ok (.iinc 2 1, 3) := by decide +kernel
theorem dc_14_51_161 : decode prog_14_method_51_code 161 = .ok (.goto (-154), 3) := by decide +kernel
theorem dc_14_51_164 : decode prog_14_method_51_code 164 = .ok (.return_, 1) := by decide +kernel
/-- rows that only a call in hand uses -/
def scr (k : Nat) : Bool := k == 37 || k == 38 || (Nat.ble 48 k && Nat.ble k 50) || (Nat.ble 62 k && Nat.ble k 70)
def sW (sg q : Nat → Nat → Int32) : Nat → Nat → Int32 := fun k => if scr k = true then q k else sg k
theorem sW_s {sg q : Nat → Nat → Int32} (k : Nat) (f : Nat → Int32) (h : scr k = true) : va_up (sW sg q) k f = sW sg (va_up q k f) := by
  funext j
  simp only [va_up, sW]
  by_cases e : j = k
  · subst e
    simp [h]
  · simp [e]
theorem sW_n {sg q : Nat → Nat → Int32} (k : Nat) (f : Nat → Int32) (h : scr k = false) : va_up (sW sg q) k f = sW (va_up sg k f) q := by
  funext j
  simp only [va_up, sW]
  by_cases e : j = k
  · subst e
    simp [h]
  · simp [e]
theorem sW_id (sg : Nat → Nat → Int32) : sW sg sg = sg := by
  funext j
  unfold sW
  split <;> rfl
theorem sW_W (sg q r : Nat → Nat → Int32) : sW (sW sg q) r = sW sg r := by
  funext j
  unfold sW
  split <;> rfl
def tN (x : Int32) : Nat := x.toInt.toNat
def inN (x : Int32) (hi : Nat) : Prop := ∃ v : Nat, v ≤ hi ∧ x = nI v
theorem tN_nI {v : Nat} (h : v < 2 ^ 31) : tN (nI v) = v := by
  unfold tN
  rw [nI_toInt h]
  rfl
theorem inN_tN {x : Int32} {hi : Nat} (h : inN x hi) (hb : hi < 2 ^ 31) : x = nI (tN x) ∧ tN x ≤ hi := by
  obtain ⟨v, hv, rfl⟩ := h
  rw [tN_nI (by omega)]
  exact ⟨rfl, hv⟩
/-- the reference's STUDENTS and WISHES stand within their bounds -/
def RI1 (sg : Nat → Nat → Int32) (ns nh : Nat) : Prop := (∀ h, h < nh → inN (sg 10 h) 3) ∧ (∀ s, s < ns → inN (sg 52 s) 7 ∧ inN (sg 53 s) 100 ∧ inN (sg 54 s) 99 ∧ (∀ t, t < 4 → sg 61 (4 * s + t) = -1 ∨ inN (sg 61 (4 * s + t)) 9) ∧ inN (sg 59 s) 4 ∧ (∀ k, k < tN (sg 59 s) → ∃ v, v < nh ∧ sg 60 (4 * s + k) = nI v))
theorem lev_in {sg : Nat → Nat → Int32} {s t : Nat} (h : sg 61 (4 * s + t) = -1 ∨ inN (sg 61 (4 * s + t)) 9) : inN (sp_lev sg s t) 9 := by
  unfold sp_lev
  rcases h with h | h
  · rw [if_pos h]
    exact ⟨0, by decide, rfl⟩
  · split
    · exact ⟨0, by decide, rfl⟩
    · exact h
/-- the AGREEMENT by which s may go to h -/
noncomputable def sp_mby (io : Nat → Int32) (sg : Nat → Nat → Int32) (cm : Nat → Nat) (w : Nat → Nat → Nat) (nx s : Nat) (h : Int32) : Int32 := sp_fst (sp_mayP io sg cm w s h (tN (sg 53 s)) (tN (sp_lev sg s (tN (sg 10 (tN h))))) (tN (sg 54 s)) (tN (sg 52 s))) nx
theorem c_mby (M : mH) (hM : 157 ≤ M.1) (io : Nat → Int32) (sg : Nat → Nat → Int32) {ns nh nx : Nat} {cm : Nat → Nat} {w : Nat → Nat → Nat} (h4 : io 4 = nI nx) (hnx : nx ≤ 12) (hns : ns ≤ 16) (hnh : nh ≤ 8) (hC : CDok sg nx cm w) (hR : RI1 sg ns nh) (s h : Nat) (hs : s < ns) (hh : h < nh) : ∃ q : Nat → Int32, mm_Ev 2 226 [.ref 100, .int (nI s), .int (nI h)] (rf_mk M io sg) (some (.int (sp_mby io sg cm w nx s (nI h))), rf_mk M io (va_up sg 48 q)) := by
  obtain ⟨r1, r2, r3, r4, r5, r6⟩ := hR.2 s hs
  have t1 := inN_tN (hR.1 h hh) (by decide)
  have t2 := inN_tN r1 (by decide)
  have t3 := inN_tN r2 (by decide)
  have t4 := inN_tN r3 (by decide)
  have t5 := inN_tN (lev_in (r4 (tN (sg 10 h)) (by omega))) (by decide)
  unfold sp_mby
  rw [tN_nI (show h < 2 ^ 31 by omega)]
  exact c_mayBy M hM io sg nx h4 hnx cm w hC s h (tN (sg 10 h)) _ _ _ _ (by omega) (by omega) t1.1 (by omega) t3.1 t3.2 t5.1 t5.2 t4.1 t4.2 t2.1 t2.2
def upn (f : Nat → Nat) (i v : Nat) : Nat → Nat := fun j => if j = i then v else f j
/-- those who are planned, by numbers -/
noncomputable def cnA (sel : Nat → Prop) : Nat → Nat × (Nat → Nat)
  | 0 => (0, fun _ => 0)
  | m + 1 => @ite _ ((cnA sel m).1 < 7 ∧ sel m) (Classical.propDecidable _) ((cnA sel m).1 + 1, upn (cnA sel m).2 (cnA sel m).1 m) (cnA sel m)
theorem cnA_p {sel : Nat → Prop} {m : Nat} (h : (cnA sel m).1 < 7) (h2 : sel m) : cnA sel (m + 1) = ((cnA sel m).1 + 1, upn (cnA sel m).2 (cnA sel m).1 m) := if_pos ⟨h, h2⟩
theorem cnA_n {sel : Nat → Prop} {m : Nat} (h : ¬ sel m) : cnA sel (m + 1) = cnA sel m := if_neg (fun q => h q.2)
theorem cnA_f {sel : Nat → Prop} {m : Nat} (h : ¬ (cnA sel m).1 < 7) : ∀ n, m ≤ n → cnA sel n = cnA sel m
  | 0, hn => by rw [Nat.le_zero.mp hn]
  | n + 1, hn => by
    by_cases q : m = n + 1
    · rw [q]
    · have e := cnA_f h n (by omega)
      exact (if_neg (fun z => h (by rw [← e]; exact z.1))).trans e
theorem cnA_le (sel : Nat → Prop) : ∀ m, (cnA sel m).1 ≤ 7
  | 0 => Nat.zero_le 7
  | m + 1 => by
    have e := cnA_le sel m
    unfold cnA
    split
    · rename_i q; exact q.1
    · exact e
theorem cnA_lt (sel : Nat → Prop) : ∀ m i, i < (cnA sel m).1 → (cnA sel m).2 i < m
  | 0, i, h => absurd h (Nat.not_lt_zero i)
  | m + 1, i, h => by
    have e := cnA_lt sel m
    unfold cnA at h ⊢
    split at h
    · rename_i q
      rw [if_pos q]
      show upn (cnA sel m).2 (cnA sel m).1 m i < m + 1
      unfold upn
      split
      · omega
      · have := e i (by have h2 : i < (cnA sel m).1 + 1 := h; omega)
        omega
    · rename_i q
      rw [if_neg q]
      have := e i h
      omega
theorem cnA_old {sel : Nat → Prop} {m i : Nat} (h : i < (cnA sel m).1) : upn (cnA sel m).2 (cnA sel m).1 m i = (cnA sel m).2 i := if_neg (by omega)
theorem cnA_new (sel : Nat → Prop) (m : Nat) : upn (cnA sel m).2 (cnA sel m).1 m (cnA sel m).1 = m := if_pos rfl
/-- what is put down of those who are planned -/
def WHq (io : Nat → Int32) (sg : Nat → Nat → Int32) (cm : Nat → Nat) (w : Nat → Nat → Nat) (nx : Nat) (q : Nat → Nat → Int32) (n : Nat) (wh : Nat → Nat) : Prop := ∀ i, i < n → q 62 i = nI (wh i) ∧ q 63 i = sg 56 (wh i) ∧ q 64 i = sg 57 (wh i) ∧ q 65 i = sg 58 (wh i) ∧ ∀ k, k < tN (sg 59 (wh i)) → q 68 (4 * wh i + k) = sp_mby io sg cm w nx (wh i) (sg 60 (4 * wh i + k))
def sp_sel (sg : Nat → Nat → Int32) (pl s : Nat) : Prop := sg 56 s = 0 ∨ pl = 1 ∧ sg 56 s = nI 1
set_option maxHeartbeats 4000000 in
theorem c_begins (M : mH) (hM : 157 ≤ M.1) (io : Nat → Int32) (sg : Nat → Nat → Int32) (ns : Nat) (h5 : io 5 = nI ns) (hns : ns ≤ 16) (nx : Nat) (h4 : io 4 = nI nx) (hnx : nx ≤ 12) (nh : Nat) (hnh : nh ≤ 8) (cm : Nat → Nat) (w : Nat → Nat → Nat) (hC : CDok sg nx cm w) (hR : RI1 sg ns nh) (pl : Nat) (hpl : pl ≤ 1) : ∃ (q : Nat → Nat → Int32), (WHq io sg cm w nx q (cnA (sp_sel sg pl) ns).1 (cnA (sp_sel sg pl) ns).2) ∧ mm_Ev 3 237 [.ref 100, .int (nI pl)] (rf_mk M io sg) ((none, rf_mk M (va_up io 71 (nI (cnA (sp_sel sg pl) ns).1)) (sW sg q))) := by
  have hq9 : ∃ z, (fun r9 => ∃ (q : Nat → Nat → Int32), (WHq io sg cm w nx q (cnA (sp_sel sg pl) ns).1 (cnA (sp_sel sg pl) ns).2) ∧ r9 = ((none, rf_mk M (va_up io 71 (nI (cnA (sp_sel sg pl) ns).1)) (sW sg q)))) z ∧ mm_Ev 3 237 [.ref 100, .int (nI pl)] (rf_mk M io sg) z := by
    refine r_evQ (by decide +kernel) (show (2 : Nat) ≤ mm_nL 237 by decide +kernel) ?_
    show mm_Ru 2 (13, 4, false, prog_14_method_51_code, none) 0 [(0, .ref 100), (1, .int (nI pl))] [] (rf_mk M io sg) (fun r9 => ∃ (q : Nat → Nat → Int32), (WHq io sg cm w nx q (cnA (sp_sel sg pl) ns).1 (cnA (sp_sel sg pl) ns).2) ∧ r9 = ((none, rf_mk M (va_up io 71 (nI (cnA (sp_sel sg pl) ns).1)) (sW sg q))))
    refine r_aload_n rfl dc_14_51_0 ?_
    refine r_iconst (v := nI 0) (by decide) dc_14_51_1 ?_
    refine q_put rx_353 (by decide +kernel) (by decide +kernel) (by decide) (rs_71 _) hM dc_14_51_2 ?_
    refine r_iconst (v := nI 0) (by decide) dc_14_51_5 ?_
    refine r_istore_n (ls' := [(2, .int (nI 0)), (0, .ref 100), (1, .int (nI pl))]) (by decide) rfl dc_14_51_6 ?_
    rw [show rf_mk M (va_up io 71 (nI 0)) sg = rf_mk M (va_up io 71 (nI 0)) (sW sg sg) from by rw [sW_id]]
    refine mm_cnt (P := fun m => ∀ (q : Nat → Nat → Int32), (WHq io sg cm w nx q (cnA (sp_sel sg pl) m).1 (cnA (sp_sel sg pl) m).2) → mm_Ru 2 (13, 4, false, prog_14_method_51_code, none) 7 [(2, .int (nI m)), (0, .ref 100), (1, .int (nI pl))] [] (rf_mk M (va_up io 71 (nI (cnA (sp_sel sg pl) m).1)) (sW sg q)) (fun r9 => ∃ (q : Nat → Nat → Int32), (WHq io sg cm w nx q (cnA (sp_sel sg pl) ns).1 (cnA (sp_sel sg pl) ns).2) ∧ r9 = ((none, rf_mk M (va_up io 71 (nI (cnA (sp_sel sg pl) ns).1)) (sW sg q))))) ns ?_ ?_ 0 (by omega) sg (fun i hi => absurd hi (Nat.not_lt_zero i))
    · intro q hi_m
      show mm_Ru 2 (13, 4, false, prog_14_method_51_code, none) 7 [(2, .int (nI ns)), (0, .ref 100), (1, .int (nI pl))] [] (rf_mk M (va_up io 71 (nI (cnA (sp_sel sg pl) ns).1)) (sW sg q)) (fun r9 => ∃ (q : Nat → Nat → Int32), (WHq io sg cm w nx q (cnA (sp_sel sg pl) ns).1 (cnA (sp_sel sg pl) ns).2) ∧ r9 = ((none, rf_mk M (va_up io 71 (nI (cnA (sp_sel sg pl) ns).1)) (sW sg q))))
      refine r_iload_n rfl dc_14_51_7 ?_
      refine r_aload_n rfl dc_14_51_8 ?_
      refine q_get (v := .int (nI ns)) rx_320 hM (congrArg (fun z => some (Value.int z)) (h5)) dc_14_51_9 ?_
      refine r_ncge (t := 164) (by omega) (by omega) (by decide) dc_14_51_12 (fun c_12 => ?_) (fun c_12 => ?_)
      · skip
        refine r_vret rfl dc_14_51_164 ?_
        exact ⟨q, hi_m, rfl⟩
      · omega
    · intro m h_m ih_m q hi_m
      have h79 := cnA_le (sp_sel sg pl) m
      obtain ⟨r1, r2, r3, r4, r5, r6⟩ := hR.2 m (by omega)
      have t5 := inN_tN r5 (by decide)
      show mm_Ru 2 (13, 4, false, prog_14_method_51_code, none) 7 [(2, .int (nI m)), (0, .ref 100), (1, .int (nI pl))] [] (rf_mk M (va_up io 71 (nI (cnA (sp_sel sg pl) m).1)) (sW sg q)) (fun r9 => ∃ (q : Nat → Nat → Int32), (WHq io sg cm w nx q (cnA (sp_sel sg pl) ns).1 (cnA (sp_sel sg pl) ns).2) ∧ r9 = ((none, rf_mk M (va_up io 71 (nI (cnA (sp_sel sg pl) ns).1)) (sW sg q))))
      refine r_iload_n rfl dc_14_51_7 ?_
      refine r_aload_n rfl dc_14_51_8 ?_
      refine q_get (v := .int (nI ns)) rx_320 hM (congrArg (fun z => some (Value.int z)) (h5)) dc_14_51_9 ?_
      refine r_ncge (t := 164) (by omega) (by omega) (by decide) dc_14_51_12 (fun c_12 => ?_) (fun c_12 => ?_)
      · omega
      · skip
        refine r_aload_n rfl dc_14_51_15 ?_
        refine q_get (v := .int (nI ((cnA (sp_sel sg pl) m).1))) rx_353 hM rfl dc_14_51_16 ?_
        refine r_bipush (v := nI 7) (by decide) dc_14_51_19 ?_
        refine r_ncge (t := 164) (by omega) (by omega) (by decide) dc_14_51_21 (fun c_21 => ?_) (fun c_21 => ?_)
        · skip
          refine r_vret rfl dc_14_51_164 ?_
          rw [← cnA_f (sel := sp_sel sg pl) (m := m) (by omega) ns (by omega)] at hi_m ⊢
          exact ⟨q, hi_m, rfl⟩
        · skip
          refine r_aload_n rfl dc_14_51_24 ?_
          refine q_get (v := .ref 138) rx_123 hM rfl dc_14_51_25 ?_
          refine r_iload_n rfl dc_14_51_28 ?_
          refine q_ild (e := m) (v := (sW sg q) 56 m) (by decide) (by decide) hM rfl (show m < 16 by omega) (by omega) (rfl) dc_14_51_29 ?_
          refine r_ifeq (t := 50) (by decide) dc_14_51_30 (fun c_30 => ?_) (fun c_30 => ?_)
          · skip
            refine r_aload_n rfl dc_14_51_50 ?_
            refine q_get (v := .ref 144) rx_141 hM rfl dc_14_51_51 ?_
            refine r_aload_n rfl dc_14_51_54 ?_
            refine q_get (v := .int (nI ((cnA (sp_sel sg pl) m).1))) rx_353 hM rfl dc_14_51_55 ?_
            refine r_iload_n rfl dc_14_51_58 ?_
            refine q_ist (e := (cnA (sp_sel sg pl) m).1) (k := 62) (by decide) (by decide) hM rfl rfl (show (cnA (sp_sel sg pl) m).1 < 7 by omega) (by omega) dc_14_51_59 ?_
            rw [sW_s 62 _ rfl]
            refine r_aload_n rfl dc_14_51_60 ?_
            refine q_get (v := .ref 145) rx_144 hM rfl dc_14_51_61 ?_
            refine r_aload_n rfl dc_14_51_64 ?_
            refine q_get (v := .int (nI ((cnA (sp_sel sg pl) m).1))) rx_353 hM rfl dc_14_51_65 ?_
            refine r_aload_n rfl dc_14_51_68 ?_
            refine q_get (v := .ref 138) rx_123 hM rfl dc_14_51_69 ?_
            refine r_iload_n rfl dc_14_51_72 ?_
            refine q_ild (e := m) (v := (sW sg (va_up q 62 (upd (q 62) ((cnA (sp_sel sg pl) m).1) (nI m)))) 56 m) (by decide) (by decide) hM rfl (show m < 16 by omega) (by omega) (rfl) dc_14_51_73 ?_
            refine q_ist (e := (cnA (sp_sel sg pl) m).1) (k := 63) (by decide) (by decide) hM rfl rfl (show (cnA (sp_sel sg pl) m).1 < 7 by omega) (by omega) dc_14_51_74 ?_
            rw [sW_s 63 _ rfl]
            refine r_aload_n rfl dc_14_51_75 ?_
            refine q_get (v := .ref 146) rx_147 hM rfl dc_14_51_76 ?_
            refine r_aload_n rfl dc_14_51_79 ?_
            refine q_get (v := .int (nI ((cnA (sp_sel sg pl) m).1))) rx_353 hM rfl dc_14_51_80 ?_
            refine r_aload_n rfl dc_14_51_83 ?_
            refine q_get (v := .ref 139) rx_126 hM rfl dc_14_51_84 ?_
            refine r_iload_n rfl dc_14_51_87 ?_
            refine q_ild (e := m) (v := (sW sg (va_up (va_up q 62 (upd (q 62) ((cnA (sp_sel sg pl) m).1) (nI m))) 63 (upd ((va_up q 62 (upd (q 62) ((cnA (sp_sel sg pl) m).1) (nI m))) 63) ((cnA (sp_sel sg pl) m).1) ((sW sg (va_up q 62 (upd (q 62) ((cnA (sp_sel sg pl) m).1) (nI m)))) 56 m)))) 57 m) (by decide) (by decide) hM rfl (show m < 16 by omega) (by omega) (rfl) dc_14_51_88 ?_
            refine q_ist (e := (cnA (sp_sel sg pl) m).1) (k := 64) (by decide) (by decide) hM rfl rfl (show (cnA (sp_sel sg pl) m).1 < 7 by omega) (by omega) dc_14_51_89 ?_
            rw [sW_s 64 _ rfl]
            refine r_aload_n rfl dc_14_51_90 ?_
            refine q_get (v := .ref 147) rx_150 hM rfl dc_14_51_91 ?_
            refine r_aload_n rfl dc_14_51_94 ?_
            refine q_get (v := .int (nI ((cnA (sp_sel sg pl) m).1))) rx_353 hM rfl dc_14_51_95 ?_
            refine r_aload_n rfl dc_14_51_98 ?_
            refine q_get (v := .ref 140) rx_129 hM rfl dc_14_51_99 ?_
            refine r_iload_n rfl dc_14_51_102 ?_
            refine q_ild (e := m) (v := (sW sg (va_up (va_up (va_up q 62 (upd (q 62) ((cnA (sp_sel sg pl) m).1) (nI m))) 63 (upd ((va_up q 62 (upd (q 62) ((cnA (sp_sel sg pl) m).1) (nI m))) 63) ((cnA (sp_sel sg pl) m).1) ((sW sg (va_up q 62 (upd (q 62) ((cnA (sp_sel sg pl) m).1) (nI m)))) 56 m))) 64 (upd ((va_up (va_up q 62 (upd (q 62) ((cnA (sp_sel sg pl) m).1) (nI m))) 63 (upd ((va_up q 62 (upd (q 62) ((cnA (sp_sel sg pl) m).1) (nI m))) 63) ((cnA (sp_sel sg pl) m).1) ((sW sg (va_up q 62 (upd (q 62) ((cnA (sp_sel sg pl) m).1) (nI m)))) 56 m))) 64) ((cnA (sp_sel sg pl) m).1) ((sW sg (va_up (va_up q 62 (upd (q 62) ((cnA (sp_sel sg pl) m).1) (nI m))) 63 (upd ((va_up q 62 (upd (q 62) ((cnA (sp_sel sg pl) m).1) (nI m))) 63) ((cnA (sp_sel sg pl) m).1) ((sW sg (va_up q 62 (upd (q 62) ((cnA (sp_sel sg pl) m).1) (nI m)))) 56 m)))) 57 m)))) 58 m) (by decide) (by decide) hM rfl (show m < 16 by omega) (by omega) (rfl) dc_14_51_103 ?_
            refine q_ist (e := (cnA (sp_sel sg pl) m).1) (k := 65) (by decide) (by decide) hM rfl rfl (show (cnA (sp_sel sg pl) m).1 < 7 by omega) (by omega) dc_14_51_104 ?_
            rw [sW_s 65 _ rfl]
            refine r_iconst (v := nI 0) (by decide) dc_14_51_105 ?_
            refine r_istore_n (ls' := [(3, .int (nI 0)), (2, .int (nI m)), (0, .ref 100), (1, .int (nI pl))]) (by decide) rfl dc_14_51_106 ?_
            refine mm_cnt (P := fun j => ∀ (r : Nat → Nat → Int32), ((∀ z, ¬ z = 68 → ¬ z = 48 → r z = (va_up (va_up (va_up (va_up q 62 (upd (q 62) ((cnA (sp_sel sg pl) m).1) (nI m))) 63 (upd ((va_up q 62 (upd (q 62) ((cnA (sp_sel sg pl) m).1) (nI m))) 63) ((cnA (sp_sel sg pl) m).1) ((sW sg (va_up q 62 (upd (q 62) ((cnA (sp_sel sg pl) m).1) (nI m)))) 56 m))) 64 (upd ((va_up (va_up q 62 (upd (q 62) ((cnA (sp_sel sg pl) m).1) (nI m))) 63 (upd ((va_up q 62 (upd (q 62) ((cnA (sp_sel sg pl) m).1) (nI m))) 63) ((cnA (sp_sel sg pl) m).1) ((sW sg (va_up q 62 (upd (q 62) ((cnA (sp_sel sg pl) m).1) (nI m)))) 56 m))) 64) ((cnA (sp_sel sg pl) m).1) ((sW sg (va_up (va_up q 62 (upd (q 62) ((cnA (sp_sel sg pl) m).1) (nI m))) 63 (upd ((va_up q 62 (upd (q 62) ((cnA (sp_sel sg pl) m).1) (nI m))) 63) ((cnA (sp_sel sg pl) m).1) ((sW sg (va_up q 62 (upd (q 62) ((cnA (sp_sel sg pl) m).1) (nI m)))) 56 m)))) 57 m))) 65 (upd ((va_up (va_up (va_up q 62 (upd (q 62) ((cnA (sp_sel sg pl) m).1) (nI m))) 63 (upd ((va_up q 62 (upd (q 62) ((cnA (sp_sel sg pl) m).1) (nI m))) 63) ((cnA (sp_sel sg pl) m).1) ((sW sg (va_up q 62 (upd (q 62) ((cnA (sp_sel sg pl) m).1) (nI m)))) 56 m))) 64 (upd ((va_up (va_up q 62 (upd (q 62) ((cnA (sp_sel sg pl) m).1) (nI m))) 63 (upd ((va_up q 62 (upd (q 62) ((cnA (sp_sel sg pl) m).1) (nI m))) 63) ((cnA (sp_sel sg pl) m).1) ((sW sg (va_up q 62 (upd (q 62) ((cnA (sp_sel sg pl) m).1) (nI m)))) 56 m))) 64) ((cnA (sp_sel sg pl) m).1) ((sW sg (va_up (va_up q 62 (upd (q 62) ((cnA (sp_sel sg pl) m).1) (nI m))) 63 (upd ((va_up q 62 (upd (q 62) ((cnA (sp_sel sg pl) m).1) (nI m))) 63) ((cnA (sp_sel sg pl) m).1) ((sW sg (va_up q 62 (upd (q 62) ((cnA (sp_sel sg pl) m).1) (nI m)))) 56 m)))) 57 m))) 65) ((cnA (sp_sel sg pl) m).1) ((sW sg (va_up (va_up (va_up q 62 (upd (q 62) ((cnA (sp_sel sg pl) m).1) (nI m))) 63 (upd ((va_up q 62 (upd (q 62) ((cnA (sp_sel sg pl) m).1) (nI m))) 63) ((cnA (sp_sel sg pl) m).1) ((sW sg (va_up q 62 (upd (q 62) ((cnA (sp_sel sg pl) m).1) (nI m)))) 56 m))) 64 (upd ((va_up (va_up q 62 (upd (q 62) ((cnA (sp_sel sg pl) m).1) (nI m))) 63 (upd ((va_up q 62 (upd (q 62) ((cnA (sp_sel sg pl) m).1) (nI m))) 63) ((cnA (sp_sel sg pl) m).1) ((sW sg (va_up q 62 (upd (q 62) ((cnA (sp_sel sg pl) m).1) (nI m)))) 56 m))) 64) ((cnA (sp_sel sg pl) m).1) ((sW sg (va_up (va_up q 62 (upd (q 62) ((cnA (sp_sel sg pl) m).1) (nI m))) 63 (upd ((va_up q 62 (upd (q 62) ((cnA (sp_sel sg pl) m).1) (nI m))) 63) ((cnA (sp_sel sg pl) m).1) ((sW sg (va_up q 62 (upd (q 62) ((cnA (sp_sel sg pl) m).1) (nI m)))) 56 m)))) 57 m)))) 58 m))) z) ∧ (∀ k, k < j → r 68 (4 * m + k) = sp_mby io sg cm w nx m (sg 60 (4 * m + k))) ∧ (∀ y, y < 4 * m → r 68 y = q 68 y)) → mm_Ru 2 (13, 4, false, prog_14_method_51_code, none) 107 [(3, .int (nI j)), (2, .int (nI m)), (0, .ref 100), (1, .int (nI pl))] [] (rf_mk M (va_up io 71 (nI (cnA (sp_sel sg pl) m).1)) (sW sg r)) (fun r9 => ∃ (q : Nat → Nat → Int32), (WHq io sg cm w nx q (cnA (sp_sel sg pl) ns).1 (cnA (sp_sel sg pl) ns).2) ∧ r9 = ((none, rf_mk M (va_up io 71 (nI (cnA (sp_sel sg pl) ns).1)) (sW sg q))))) (tN (sg 59 m)) ?_ ?_ 0 (by omega) (va_up (va_up (va_up (va_up q 62 (upd (q 62) ((cnA (sp_sel sg pl) m).1) (nI m))) 63 (upd ((va_up q 62 (upd (q 62) ((cnA (sp_sel sg pl) m).1) (nI m))) 63) ((cnA (sp_sel sg pl) m).1) ((sW sg (va_up q 62 (upd (q 62) ((cnA (sp_sel sg pl) m).1) (nI m)))) 56 m))) 64 (upd ((va_up (va_up q 62 (upd (q 62) ((cnA (sp_sel sg pl) m).1) (nI m))) 63 (upd ((va_up q 62 (upd (q 62) ((cnA (sp_sel sg pl) m).1) (nI m))) 63) ((cnA (sp_sel sg pl) m).1) ((sW sg (va_up q 62 (upd (q 62) ((cnA (sp_sel sg pl) m).1) (nI m)))) 56 m))) 64) ((cnA (sp_sel sg pl) m).1) ((sW sg (va_up (va_up q 62 (upd (q 62) ((cnA (sp_sel sg pl) m).1) (nI m))) 63 (upd ((va_up q 62 (upd (q 62) ((cnA (sp_sel sg pl) m).1) (nI m))) 63) ((cnA (sp_sel sg pl) m).1) ((sW sg (va_up q 62 (upd (q 62) ((cnA (sp_sel sg pl) m).1) (nI m)))) 56 m)))) 57 m))) 65 (upd ((va_up (va_up (va_up q 62 (upd (q 62) ((cnA (sp_sel sg pl) m).1) (nI m))) 63 (upd ((va_up q 62 (upd (q 62) ((cnA (sp_sel sg pl) m).1) (nI m))) 63) ((cnA (sp_sel sg pl) m).1) ((sW sg (va_up q 62 (upd (q 62) ((cnA (sp_sel sg pl) m).1) (nI m)))) 56 m))) 64 (upd ((va_up (va_up q 62 (upd (q 62) ((cnA (sp_sel sg pl) m).1) (nI m))) 63 (upd ((va_up q 62 (upd (q 62) ((cnA (sp_sel sg pl) m).1) (nI m))) 63) ((cnA (sp_sel sg pl) m).1) ((sW sg (va_up q 62 (upd (q 62) ((cnA (sp_sel sg pl) m).1) (nI m)))) 56 m))) 64) ((cnA (sp_sel sg pl) m).1) ((sW sg (va_up (va_up q 62 (upd (q 62) ((cnA (sp_sel sg pl) m).1) (nI m))) 63 (upd ((va_up q 62 (upd (q 62) ((cnA (sp_sel sg pl) m).1) (nI m))) 63) ((cnA (sp_sel sg pl) m).1) ((sW sg (va_up q 62 (upd (q 62) ((cnA (sp_sel sg pl) m).1) (nI m)))) 56 m)))) 57 m))) 65) ((cnA (sp_sel sg pl) m).1) ((sW sg (va_up (va_up (va_up q 62 (upd (q 62) ((cnA (sp_sel sg pl) m).1) (nI m))) 63 (upd ((va_up q 62 (upd (q 62) ((cnA (sp_sel sg pl) m).1) (nI m))) 63) ((cnA (sp_sel sg pl) m).1) ((sW sg (va_up q 62 (upd (q 62) ((cnA (sp_sel sg pl) m).1) (nI m)))) 56 m))) 64 (upd ((va_up (va_up q 62 (upd (q 62) ((cnA (sp_sel sg pl) m).1) (nI m))) 63 (upd ((va_up q 62 (upd (q 62) ((cnA (sp_sel sg pl) m).1) (nI m))) 63) ((cnA (sp_sel sg pl) m).1) ((sW sg (va_up q 62 (upd (q 62) ((cnA (sp_sel sg pl) m).1) (nI m)))) 56 m))) 64) ((cnA (sp_sel sg pl) m).1) ((sW sg (va_up (va_up q 62 (upd (q 62) ((cnA (sp_sel sg pl) m).1) (nI m))) 63 (upd ((va_up q 62 (upd (q 62) ((cnA (sp_sel sg pl) m).1) (nI m))) 63) ((cnA (sp_sel sg pl) m).1) ((sW sg (va_up q 62 (upd (q 62) ((cnA (sp_sel sg pl) m).1) (nI m)))) 56 m)))) 57 m)))) 58 m))) (⟨fun _ _ _ => rfl, fun k hk => absurd hk (Nat.not_lt_zero k), fun _ _ => rfl⟩)
            · intro r hi_j
              show mm_Ru 2 (13, 4, false, prog_14_method_51_code, none) 107 [(3, .int (nI (tN (sg 59 m)))), (2, .int (nI m)), (0, .ref 100), (1, .int (nI pl))] [] (rf_mk M (va_up io 71 (nI (cnA (sp_sel sg pl) m).1)) (sW sg r)) (fun r9 => ∃ (q : Nat → Nat → Int32), (WHq io sg cm w nx q (cnA (sp_sel sg pl) ns).1 (cnA (sp_sel sg pl) ns).2) ∧ r9 = ((none, rf_mk M (va_up io 71 (nI (cnA (sp_sel sg pl) ns).1)) (sW sg q))))
              refine r_iload_n rfl dc_14_51_107 ?_
              refine r_aload_n rfl dc_14_51_108 ?_
              refine q_get (v := .ref 141) rx_132 hM rfl dc_14_51_109 ?_
              refine r_iload_n rfl dc_14_51_112 ?_
              refine q_ild (e := m) (v := nI (tN (sg 59 m))) (by decide) (by decide) hM rfl (show m < 16 by omega) (by omega) (t5.1) dc_14_51_113 ?_
              refine r_ncge (t := 148) (by omega) (by omega) (by decide) dc_14_51_114 (fun c_114 => ?_) (fun c_114 => ?_)
              · skip
                refine r_aload_n rfl dc_14_51_148 ?_
                refine r_aload_n rfl dc_14_51_149 ?_
                refine q_get (v := .int (nI ((cnA (sp_sel sg pl) m).1))) rx_353 hM rfl dc_14_51_150 ?_
                refine r_iconst (v := nI 1) (by decide) dc_14_51_153 ?_
                refine r_iadd (v := nI ((cnA (sp_sel sg pl) m).1 + 1)) (nI_add _ _) dc_14_51_154 ?_
                refine q_put rx_353 (by decide +kernel) (by decide +kernel) (by decide) (rs_71 _) hM dc_14_51_155 ?_
                rw [va_up_up]
                have hsel : sp_sel sg pl m := Or.inl c_30
                have hcp := cnA_p (sel := sp_sel sg pl) c_21 hsel
                have hWH : WHq io sg cm w nx r ((cnA (sp_sel sg pl) m).1 + 1) (upn (cnA (sp_sel sg pl) m).2 (cnA (sp_sel sg pl) m).1 m) := by
                  intro i hi
                  have g62 := congrFun (hi_j.1 62 (by decide) (by decide)) i
                  have g63 := congrFun (hi_j.1 63 (by decide) (by decide)) i
                  have g64 := congrFun (hi_j.1 64 (by decide) (by decide)) i
                  have g65 := congrFun (hi_j.1 65 (by decide) (by decide)) i
                  by_cases e : i = (cnA (sp_sel sg pl) m).1
                  · subst e
                    rw [cnA_new]
                    exact ⟨g62.trans (if_pos rfl), g63.trans (if_pos rfl), g64.trans (if_pos rfl), g65.trans (if_pos rfl), hi_j.2.1⟩
                  · have hi2 : i < (cnA (sp_sel sg pl) m).1 := by omega
                    rw [cnA_old hi2]
                    obtain ⟨w1, w2, w3, w4, w5⟩ := hi_m i hi2
                    have hlt := cnA_lt (sp_sel sg pl) m i hi2
                    refine ⟨g62.trans ((if_neg e).trans w1), g63.trans ((if_neg e).trans w2), g64.trans ((if_neg e).trans w3), g65.trans ((if_neg e).trans w4), fun k hk => (hi_j.2.2 _ ?_).trans (w5 k hk)⟩
                    have := (inN_tN (hR.2 ((cnA (sp_sel sg pl) m).2 i) (by omega)).2.2.2.2.1 (by decide)).2
                    omega
                refine r_iinc (x := nI m) (v := nI (m + 1)) (ls' := [(2, .int (nI (m + 1))), (3, .int (nI (tN (sg 59 m)))), (0, .ref 100), (1, .int (nI pl))]) rfl (nI_1 _) (by decide) rfl dc_14_51_158 ?_
                refine r_goto (t := 7) (by decide) dc_14_51_161 ?_
                refine r_ls [(2, .int (nI (m + 1))), (0, .ref 100), (1, .int (nI pl))] (mm_ndk_of [2, 0, 1] rfl (by decide)) (mm_sub_cons rfl (mm_sub_cons rfl (mm_sub_cons rfl (mm_sub_nil _)))) ?_
                rw [hcp] at ih_m
                exact ih_m r (hWH)
              · omega
            · intro j h_j ih_j r hi_j
              obtain ⟨v9, hv9, e60⟩ := r6 j h_j
              show mm_Ru 2 (13, 4, false, prog_14_method_51_code, none) 107 [(3, .int (nI j)), (2, .int (nI m)), (0, .ref 100), (1, .int (nI pl))] [] (rf_mk M (va_up io 71 (nI (cnA (sp_sel sg pl) m).1)) (sW sg r)) (fun r9 => ∃ (q : Nat → Nat → Int32), (WHq io sg cm w nx q (cnA (sp_sel sg pl) ns).1 (cnA (sp_sel sg pl) ns).2) ∧ r9 = ((none, rf_mk M (va_up io 71 (nI (cnA (sp_sel sg pl) ns).1)) (sW sg q))))
              refine r_iload_n rfl dc_14_51_107 ?_
              refine r_aload_n rfl dc_14_51_108 ?_
              refine q_get (v := .ref 141) rx_132 hM rfl dc_14_51_109 ?_
              refine r_iload_n rfl dc_14_51_112 ?_
              refine q_ild (e := m) (v := nI (tN (sg 59 m))) (by decide) (by decide) hM rfl (show m < 16 by omega) (by omega) (t5.1) dc_14_51_113 ?_
              refine r_ncge (t := 148) (by omega) (by omega) (by decide) dc_14_51_114 (fun c_114 => ?_) (fun c_114 => ?_)
              · omega
              · skip
                refine r_aload_n rfl dc_14_51_117 ?_
                refine q_get (v := .ref 150) rx_159 hM rfl dc_14_51_118 ?_
                refine r_iconst (v := nI 4) (by decide) dc_14_51_121 ?_
                refine r_iload_n rfl dc_14_51_122 ?_
                refine r_imul (v := nI (4 * m)) (pk_mul _ _) dc_14_51_123 ?_
                refine r_iload_n rfl dc_14_51_124 ?_
                refine r_iadd (v := nI (4 * m + j)) (nI_add _ _) dc_14_51_125 ?_
                refine r_aload_n rfl dc_14_51_126 ?_
                refine r_iload_n rfl dc_14_51_127 ?_
                refine r_aload_n rfl dc_14_51_128 ?_
                refine q_get (v := .ref 142) rx_135 hM rfl dc_14_51_129 ?_
                refine r_iconst (v := nI 4) (by decide) dc_14_51_132 ?_
                refine r_iload_n rfl dc_14_51_133 ?_
                refine r_imul (v := nI (4 * m)) (pk_mul _ _) dc_14_51_134 ?_
                refine r_iload_n rfl dc_14_51_135 ?_
                refine r_iadd (v := nI (4 * m + j)) (nI_add _ _) dc_14_51_136 ?_
                refine q_ild (e := 4 * m + j) (v := nI v9) (by decide) (by decide) hM rfl (show 4 * m + j < 64 by omega) (by omega) (e60) dc_14_51_137 ?_
                obtain ⟨q5, hmb⟩ := c_mby M hM (va_up io 71 (nI (cnA (sp_sel sg pl) m).1)) (sW sg r) (ns := ns) (nh := nh) (nx := nx) (cm := cm) (w := w) h4 hnx hns hnh hC hR m v9 (by omega) hv9
                refine q_calli (as := [.int (nI m), .int (nI v9)]) (rest := [.int (nI (4 * m + j)), .ref 150]) (v := .int (sp_mby io sg cm w nx m (nI v9))) (M1 := rf_mk M (va_up io 71 (nI (cnA (sp_sel sg pl) m).1)) (va_up (sW sg r) 48 q5)) iv_13_v338 na_1_226 o_226 hM rfl (show (2 : Nat) ≤ 8 by decide) dc_14_51_138 (hmb) ?_
                rw [sW_s 48 _ rfl, ← e60]
                refine q_ist (e := 4 * m + j) (k := 68) (by decide) (by decide) hM rfl rfl (show 4 * m + j < 64 by omega) (by omega) dc_14_51_141 ?_
                rw [sW_s 68 _ rfl]
                refine r_iinc (x := nI j) (v := nI (j + 1)) (ls' := [(3, .int (nI (j + 1))), (2, .int (nI m)), (0, .ref 100), (1, .int (nI pl))]) rfl (nI_1 _) (by decide) rfl dc_14_51_142 ?_
                refine r_goto (t := 107) (by decide) dc_14_51_145 ?_
                exact ih_j (va_up (va_up r 48 q5) 68 (upd ((va_up r 48 q5) 68) (4 * m + j) (sp_mby io sg cm w nx m (sg 60 (4 * m + j))))) (⟨fun z h1 h2 => (if_neg h1).trans ((if_neg h2).trans (hi_j.1 z h1 h2)), fun k hk => (if e : k = j then e ▸ if_pos rfl else (if_neg (by omega)).trans (hi_j.2.1 k (by omega))), fun y hy => (if_neg (by omega)).trans (hi_j.2.2 y hy)⟩)
          · skip
            refine r_iload_n rfl dc_14_51_33 ?_
            refine r_nzeq (t := 158) (by omega) (by decide) dc_14_51_34 (fun c_34 => ?_) (fun c_34 => ?_)
            · skip
              refine r_iinc (x := nI m) (v := nI (m + 1)) (ls' := [(2, .int (nI (m + 1))), (0, .ref 100), (1, .int (nI pl))]) rfl (nI_1 _) (by decide) rfl dc_14_51_158 ?_
              refine r_goto (t := 7) (by decide) dc_14_51_161 ?_
              rw [cnA_n (fun z => z.elim c_30 (fun y => by omega))] at ih_m
              exact ih_m q (hi_m)
            · skip
              refine r_aload_n rfl dc_14_51_37 ?_
              refine q_get (v := .ref 138) rx_123 hM rfl dc_14_51_38 ?_
              refine r_iload_n rfl dc_14_51_41 ?_
              refine q_ild (e := m) (v := (sW sg q) 56 m) (by decide) (by decide) hM rfl (show m < 16 by omega) (by omega) (rfl) dc_14_51_42 ?_
              refine r_iconst (v := nI 1) (by decide) dc_14_51_43 ?_
              refine r_iceq (t := 50) (by decide) dc_14_51_44 (fun c_44 => ?_) (fun c_44 => ?_)
              · skip
                refine r_aload_n rfl dc_14_51_50 ?_
                refine q_get (v := .ref 144) rx_141 hM rfl dc_14_51_51 ?_
                refine r_aload_n rfl dc_14_51_54 ?_
                refine q_get (v := .int (nI ((cnA (sp_sel sg pl) m).1))) rx_353 hM rfl dc_14_51_55 ?_
                refine r_iload_n rfl dc_14_51_58 ?_
                refine q_ist (e := (cnA (sp_sel sg pl) m).1) (k := 62) (by decide) (by decide) hM rfl rfl (show (cnA (sp_sel sg pl) m).1 < 7 by omega) (by omega) dc_14_51_59 ?_
                rw [sW_s 62 _ rfl]
                refine r_aload_n rfl dc_14_51_60 ?_
                refine q_get (v := .ref 145) rx_144 hM rfl dc_14_51_61 ?_
                refine r_aload_n rfl dc_14_51_64 ?_
                refine q_get (v := .int (nI ((cnA (sp_sel sg pl) m).1))) rx_353 hM rfl dc_14_51_65 ?_
                refine r_aload_n rfl dc_14_51_68 ?_
                refine q_get (v := .ref 138) rx_123 hM rfl dc_14_51_69 ?_
                refine r_iload_n rfl dc_14_51_72 ?_
                refine q_ild (e := m) (v := (sW sg (va_up q 62 (upd (q 62) ((cnA (sp_sel sg pl) m).1) (nI m)))) 56 m) (by decide) (by decide) hM rfl (show m < 16 by omega) (by omega) (rfl) dc_14_51_73 ?_
                refine q_ist (e := (cnA (sp_sel sg pl) m).1) (k := 63) (by decide) (by decide) hM rfl rfl (show (cnA (sp_sel sg pl) m).1 < 7 by omega) (by omega) dc_14_51_74 ?_
                rw [sW_s 63 _ rfl]
                refine r_aload_n rfl dc_14_51_75 ?_
                refine q_get (v := .ref 146) rx_147 hM rfl dc_14_51_76 ?_
                refine r_aload_n rfl dc_14_51_79 ?_
                refine q_get (v := .int (nI ((cnA (sp_sel sg pl) m).1))) rx_353 hM rfl dc_14_51_80 ?_
                refine r_aload_n rfl dc_14_51_83 ?_
                refine q_get (v := .ref 139) rx_126 hM rfl dc_14_51_84 ?_
                refine r_iload_n rfl dc_14_51_87 ?_
                refine q_ild (e := m) (v := (sW sg (va_up (va_up q 62 (upd (q 62) ((cnA (sp_sel sg pl) m).1) (nI m))) 63 (upd ((va_up q 62 (upd (q 62) ((cnA (sp_sel sg pl) m).1) (nI m))) 63) ((cnA (sp_sel sg pl) m).1) ((sW sg (va_up q 62 (upd (q 62) ((cnA (sp_sel sg pl) m).1) (nI m)))) 56 m)))) 57 m) (by decide) (by decide) hM rfl (show m < 16 by omega) (by omega) (rfl) dc_14_51_88 ?_
                refine q_ist (e := (cnA (sp_sel sg pl) m).1) (k := 64) (by decide) (by decide) hM rfl rfl (show (cnA (sp_sel sg pl) m).1 < 7 by omega) (by omega) dc_14_51_89 ?_
                rw [sW_s 64 _ rfl]
                refine r_aload_n rfl dc_14_51_90 ?_
                refine q_get (v := .ref 147) rx_150 hM rfl dc_14_51_91 ?_
                refine r_aload_n rfl dc_14_51_94 ?_
                refine q_get (v := .int (nI ((cnA (sp_sel sg pl) m).1))) rx_353 hM rfl dc_14_51_95 ?_
                refine r_aload_n rfl dc_14_51_98 ?_
                refine q_get (v := .ref 140) rx_129 hM rfl dc_14_51_99 ?_
                refine r_iload_n rfl dc_14_51_102 ?_
                refine q_ild (e := m) (v := (sW sg (va_up (va_up (va_up q 62 (upd (q 62) ((cnA (sp_sel sg pl) m).1) (nI m))) 63 (upd ((va_up q 62 (upd (q 62) ((cnA (sp_sel sg pl) m).1) (nI m))) 63) ((cnA (sp_sel sg pl) m).1) ((sW sg (va_up q 62 (upd (q 62) ((cnA (sp_sel sg pl) m).1) (nI m)))) 56 m))) 64 (upd ((va_up (va_up q 62 (upd (q 62) ((cnA (sp_sel sg pl) m).1) (nI m))) 63 (upd ((va_up q 62 (upd (q 62) ((cnA (sp_sel sg pl) m).1) (nI m))) 63) ((cnA (sp_sel sg pl) m).1) ((sW sg (va_up q 62 (upd (q 62) ((cnA (sp_sel sg pl) m).1) (nI m)))) 56 m))) 64) ((cnA (sp_sel sg pl) m).1) ((sW sg (va_up (va_up q 62 (upd (q 62) ((cnA (sp_sel sg pl) m).1) (nI m))) 63 (upd ((va_up q 62 (upd (q 62) ((cnA (sp_sel sg pl) m).1) (nI m))) 63) ((cnA (sp_sel sg pl) m).1) ((sW sg (va_up q 62 (upd (q 62) ((cnA (sp_sel sg pl) m).1) (nI m)))) 56 m)))) 57 m)))) 58 m) (by decide) (by decide) hM rfl (show m < 16 by omega) (by omega) (rfl) dc_14_51_103 ?_
                refine q_ist (e := (cnA (sp_sel sg pl) m).1) (k := 65) (by decide) (by decide) hM rfl rfl (show (cnA (sp_sel sg pl) m).1 < 7 by omega) (by omega) dc_14_51_104 ?_
                rw [sW_s 65 _ rfl]
                refine r_iconst (v := nI 0) (by decide) dc_14_51_105 ?_
                refine r_istore_n (ls' := [(3, .int (nI 0)), (2, .int (nI m)), (0, .ref 100), (1, .int (nI pl))]) (by decide) rfl dc_14_51_106 ?_
                refine mm_cnt (P := fun j => ∀ (r : Nat → Nat → Int32), ((∀ z, ¬ z = 68 → ¬ z = 48 → r z = (va_up (va_up (va_up (va_up q 62 (upd (q 62) ((cnA (sp_sel sg pl) m).1) (nI m))) 63 (upd ((va_up q 62 (upd (q 62) ((cnA (sp_sel sg pl) m).1) (nI m))) 63) ((cnA (sp_sel sg pl) m).1) ((sW sg (va_up q 62 (upd (q 62) ((cnA (sp_sel sg pl) m).1) (nI m)))) 56 m))) 64 (upd ((va_up (va_up q 62 (upd (q 62) ((cnA (sp_sel sg pl) m).1) (nI m))) 63 (upd ((va_up q 62 (upd (q 62) ((cnA (sp_sel sg pl) m).1) (nI m))) 63) ((cnA (sp_sel sg pl) m).1) ((sW sg (va_up q 62 (upd (q 62) ((cnA (sp_sel sg pl) m).1) (nI m)))) 56 m))) 64) ((cnA (sp_sel sg pl) m).1) ((sW sg (va_up (va_up q 62 (upd (q 62) ((cnA (sp_sel sg pl) m).1) (nI m))) 63 (upd ((va_up q 62 (upd (q 62) ((cnA (sp_sel sg pl) m).1) (nI m))) 63) ((cnA (sp_sel sg pl) m).1) ((sW sg (va_up q 62 (upd (q 62) ((cnA (sp_sel sg pl) m).1) (nI m)))) 56 m)))) 57 m))) 65 (upd ((va_up (va_up (va_up q 62 (upd (q 62) ((cnA (sp_sel sg pl) m).1) (nI m))) 63 (upd ((va_up q 62 (upd (q 62) ((cnA (sp_sel sg pl) m).1) (nI m))) 63) ((cnA (sp_sel sg pl) m).1) ((sW sg (va_up q 62 (upd (q 62) ((cnA (sp_sel sg pl) m).1) (nI m)))) 56 m))) 64 (upd ((va_up (va_up q 62 (upd (q 62) ((cnA (sp_sel sg pl) m).1) (nI m))) 63 (upd ((va_up q 62 (upd (q 62) ((cnA (sp_sel sg pl) m).1) (nI m))) 63) ((cnA (sp_sel sg pl) m).1) ((sW sg (va_up q 62 (upd (q 62) ((cnA (sp_sel sg pl) m).1) (nI m)))) 56 m))) 64) ((cnA (sp_sel sg pl) m).1) ((sW sg (va_up (va_up q 62 (upd (q 62) ((cnA (sp_sel sg pl) m).1) (nI m))) 63 (upd ((va_up q 62 (upd (q 62) ((cnA (sp_sel sg pl) m).1) (nI m))) 63) ((cnA (sp_sel sg pl) m).1) ((sW sg (va_up q 62 (upd (q 62) ((cnA (sp_sel sg pl) m).1) (nI m)))) 56 m)))) 57 m))) 65) ((cnA (sp_sel sg pl) m).1) ((sW sg (va_up (va_up (va_up q 62 (upd (q 62) ((cnA (sp_sel sg pl) m).1) (nI m))) 63 (upd ((va_up q 62 (upd (q 62) ((cnA (sp_sel sg pl) m).1) (nI m))) 63) ((cnA (sp_sel sg pl) m).1) ((sW sg (va_up q 62 (upd (q 62) ((cnA (sp_sel sg pl) m).1) (nI m)))) 56 m))) 64 (upd ((va_up (va_up q 62 (upd (q 62) ((cnA (sp_sel sg pl) m).1) (nI m))) 63 (upd ((va_up q 62 (upd (q 62) ((cnA (sp_sel sg pl) m).1) (nI m))) 63) ((cnA (sp_sel sg pl) m).1) ((sW sg (va_up q 62 (upd (q 62) ((cnA (sp_sel sg pl) m).1) (nI m)))) 56 m))) 64) ((cnA (sp_sel sg pl) m).1) ((sW sg (va_up (va_up q 62 (upd (q 62) ((cnA (sp_sel sg pl) m).1) (nI m))) 63 (upd ((va_up q 62 (upd (q 62) ((cnA (sp_sel sg pl) m).1) (nI m))) 63) ((cnA (sp_sel sg pl) m).1) ((sW sg (va_up q 62 (upd (q 62) ((cnA (sp_sel sg pl) m).1) (nI m)))) 56 m)))) 57 m)))) 58 m))) z) ∧ (∀ k, k < j → r 68 (4 * m + k) = sp_mby io sg cm w nx m (sg 60 (4 * m + k))) ∧ (∀ y, y < 4 * m → r 68 y = q 68 y)) → mm_Ru 2 (13, 4, false, prog_14_method_51_code, none) 107 [(3, .int (nI j)), (2, .int (nI m)), (0, .ref 100), (1, .int (nI pl))] [] (rf_mk M (va_up io 71 (nI (cnA (sp_sel sg pl) m).1)) (sW sg r)) (fun r9 => ∃ (q : Nat → Nat → Int32), (WHq io sg cm w nx q (cnA (sp_sel sg pl) ns).1 (cnA (sp_sel sg pl) ns).2) ∧ r9 = ((none, rf_mk M (va_up io 71 (nI (cnA (sp_sel sg pl) ns).1)) (sW sg q))))) (tN (sg 59 m)) ?_ ?_ 0 (by omega) (va_up (va_up (va_up (va_up q 62 (upd (q 62) ((cnA (sp_sel sg pl) m).1) (nI m))) 63 (upd ((va_up q 62 (upd (q 62) ((cnA (sp_sel sg pl) m).1) (nI m))) 63) ((cnA (sp_sel sg pl) m).1) ((sW sg (va_up q 62 (upd (q 62) ((cnA (sp_sel sg pl) m).1) (nI m)))) 56 m))) 64 (upd ((va_up (va_up q 62 (upd (q 62) ((cnA (sp_sel sg pl) m).1) (nI m))) 63 (upd ((va_up q 62 (upd (q 62) ((cnA (sp_sel sg pl) m).1) (nI m))) 63) ((cnA (sp_sel sg pl) m).1) ((sW sg (va_up q 62 (upd (q 62) ((cnA (sp_sel sg pl) m).1) (nI m)))) 56 m))) 64) ((cnA (sp_sel sg pl) m).1) ((sW sg (va_up (va_up q 62 (upd (q 62) ((cnA (sp_sel sg pl) m).1) (nI m))) 63 (upd ((va_up q 62 (upd (q 62) ((cnA (sp_sel sg pl) m).1) (nI m))) 63) ((cnA (sp_sel sg pl) m).1) ((sW sg (va_up q 62 (upd (q 62) ((cnA (sp_sel sg pl) m).1) (nI m)))) 56 m)))) 57 m))) 65 (upd ((va_up (va_up (va_up q 62 (upd (q 62) ((cnA (sp_sel sg pl) m).1) (nI m))) 63 (upd ((va_up q 62 (upd (q 62) ((cnA (sp_sel sg pl) m).1) (nI m))) 63) ((cnA (sp_sel sg pl) m).1) ((sW sg (va_up q 62 (upd (q 62) ((cnA (sp_sel sg pl) m).1) (nI m)))) 56 m))) 64 (upd ((va_up (va_up q 62 (upd (q 62) ((cnA (sp_sel sg pl) m).1) (nI m))) 63 (upd ((va_up q 62 (upd (q 62) ((cnA (sp_sel sg pl) m).1) (nI m))) 63) ((cnA (sp_sel sg pl) m).1) ((sW sg (va_up q 62 (upd (q 62) ((cnA (sp_sel sg pl) m).1) (nI m)))) 56 m))) 64) ((cnA (sp_sel sg pl) m).1) ((sW sg (va_up (va_up q 62 (upd (q 62) ((cnA (sp_sel sg pl) m).1) (nI m))) 63 (upd ((va_up q 62 (upd (q 62) ((cnA (sp_sel sg pl) m).1) (nI m))) 63) ((cnA (sp_sel sg pl) m).1) ((sW sg (va_up q 62 (upd (q 62) ((cnA (sp_sel sg pl) m).1) (nI m)))) 56 m)))) 57 m))) 65) ((cnA (sp_sel sg pl) m).1) ((sW sg (va_up (va_up (va_up q 62 (upd (q 62) ((cnA (sp_sel sg pl) m).1) (nI m))) 63 (upd ((va_up q 62 (upd (q 62) ((cnA (sp_sel sg pl) m).1) (nI m))) 63) ((cnA (sp_sel sg pl) m).1) ((sW sg (va_up q 62 (upd (q 62) ((cnA (sp_sel sg pl) m).1) (nI m)))) 56 m))) 64 (upd ((va_up (va_up q 62 (upd (q 62) ((cnA (sp_sel sg pl) m).1) (nI m))) 63 (upd ((va_up q 62 (upd (q 62) ((cnA (sp_sel sg pl) m).1) (nI m))) 63) ((cnA (sp_sel sg pl) m).1) ((sW sg (va_up q 62 (upd (q 62) ((cnA (sp_sel sg pl) m).1) (nI m)))) 56 m))) 64) ((cnA (sp_sel sg pl) m).1) ((sW sg (va_up (va_up q 62 (upd (q 62) ((cnA (sp_sel sg pl) m).1) (nI m))) 63 (upd ((va_up q 62 (upd (q 62) ((cnA (sp_sel sg pl) m).1) (nI m))) 63) ((cnA (sp_sel sg pl) m).1) ((sW sg (va_up q 62 (upd (q 62) ((cnA (sp_sel sg pl) m).1) (nI m)))) 56 m)))) 57 m)))) 58 m))) (⟨fun _ _ _ => rfl, fun k hk => absurd hk (Nat.not_lt_zero k), fun _ _ => rfl⟩)
                · intro r hi_j
                  show mm_Ru 2 (13, 4, false, prog_14_method_51_code, none) 107 [(3, .int (nI (tN (sg 59 m)))), (2, .int (nI m)), (0, .ref 100), (1, .int (nI pl))] [] (rf_mk M (va_up io 71 (nI (cnA (sp_sel sg pl) m).1)) (sW sg r)) (fun r9 => ∃ (q : Nat → Nat → Int32), (WHq io sg cm w nx q (cnA (sp_sel sg pl) ns).1 (cnA (sp_sel sg pl) ns).2) ∧ r9 = ((none, rf_mk M (va_up io 71 (nI (cnA (sp_sel sg pl) ns).1)) (sW sg q))))
                  refine r_iload_n rfl dc_14_51_107 ?_
                  refine r_aload_n rfl dc_14_51_108 ?_
                  refine q_get (v := .ref 141) rx_132 hM rfl dc_14_51_109 ?_
                  refine r_iload_n rfl dc_14_51_112 ?_
                  refine q_ild (e := m) (v := nI (tN (sg 59 m))) (by decide) (by decide) hM rfl (show m < 16 by omega) (by omega) (t5.1) dc_14_51_113 ?_
                  refine r_ncge (t := 148) (by omega) (by omega) (by decide) dc_14_51_114 (fun c_114 => ?_) (fun c_114 => ?_)
                  · skip
                    refine r_aload_n rfl dc_14_51_148 ?_
                    refine r_aload_n rfl dc_14_51_149 ?_
                    refine q_get (v := .int (nI ((cnA (sp_sel sg pl) m).1))) rx_353 hM rfl dc_14_51_150 ?_
                    refine r_iconst (v := nI 1) (by decide) dc_14_51_153 ?_
                    refine r_iadd (v := nI ((cnA (sp_sel sg pl) m).1 + 1)) (nI_add _ _) dc_14_51_154 ?_
                    refine q_put rx_353 (by decide +kernel) (by decide +kernel) (by decide) (rs_71 _) hM dc_14_51_155 ?_
                    rw [va_up_up]
                    have hsel : sp_sel sg pl m := Or.inr ⟨by omega, c_44⟩
                    have hcp := cnA_p (sel := sp_sel sg pl) c_21 hsel
                    have hWH : WHq io sg cm w nx r ((cnA (sp_sel sg pl) m).1 + 1) (upn (cnA (sp_sel sg pl) m).2 (cnA (sp_sel sg pl) m).1 m) := by
                      intro i hi
                      have g62 := congrFun (hi_j.1 62 (by decide) (by decide)) i
                      have g63 := congrFun (hi_j.1 63 (by decide) (by decide)) i
                      have g64 := congrFun (hi_j.1 64 (by decide) (by decide)) i
                      have g65 := congrFun (hi_j.1 65 (by decide) (by decide)) i
                      by_cases e : i = (cnA (sp_sel sg pl) m).1
                      · subst e
                        rw [cnA_new]
                        exact ⟨g62.trans (if_pos rfl), g63.trans (if_pos rfl), g64.trans (if_pos rfl), g65.trans (if_pos rfl), hi_j.2.1⟩
                      · have hi2 : i < (cnA (sp_sel sg pl) m).1 := by omega
                        rw [cnA_old hi2]
                        obtain ⟨w1, w2, w3, w4, w5⟩ := hi_m i hi2
                        have hlt := cnA_lt (sp_sel sg pl) m i hi2
                        refine ⟨g62.trans ((if_neg e).trans w1), g63.trans ((if_neg e).trans w2), g64.trans ((if_neg e).trans w3), g65.trans ((if_neg e).trans w4), fun k hk => (hi_j.2.2 _ ?_).trans (w5 k hk)⟩
                        have := (inN_tN (hR.2 ((cnA (sp_sel sg pl) m).2 i) (by omega)).2.2.2.2.1 (by decide)).2
                        omega
                    refine r_iinc (x := nI m) (v := nI (m + 1)) (ls' := [(2, .int (nI (m + 1))), (3, .int (nI (tN (sg 59 m)))), (0, .ref 100), (1, .int (nI pl))]) rfl (nI_1 _) (by decide) rfl dc_14_51_158 ?_
                    refine r_goto (t := 7) (by decide) dc_14_51_161 ?_
                    refine r_ls [(2, .int (nI (m + 1))), (0, .ref 100), (1, .int (nI pl))] (mm_ndk_of [2, 0, 1] rfl (by decide)) (mm_sub_cons rfl (mm_sub_cons rfl (mm_sub_cons rfl (mm_sub_nil _)))) ?_
                    rw [hcp] at ih_m
                    exact ih_m r (hWH)
                  · omega
                · intro j h_j ih_j r hi_j
                  obtain ⟨v9, hv9, e60⟩ := r6 j h_j
                  show mm_Ru 2 (13, 4, false, prog_14_method_51_code, none) 107 [(3, .int (nI j)), (2, .int (nI m)), (0, .ref 100), (1, .int (nI pl))] [] (rf_mk M (va_up io 71 (nI (cnA (sp_sel sg pl) m).1)) (sW sg r)) (fun r9 => ∃ (q : Nat → Nat → Int32), (WHq io sg cm w nx q (cnA (sp_sel sg pl) ns).1 (cnA (sp_sel sg pl) ns).2) ∧ r9 = ((none, rf_mk M (va_up io 71 (nI (cnA (sp_sel sg pl) ns).1)) (sW sg q))))
                  refine r_iload_n rfl dc_14_51_107 ?_
                  refine r_aload_n rfl dc_14_51_108 ?_
                  refine q_get (v := .ref 141) rx_132 hM rfl dc_14_51_109 ?_
                  refine r_iload_n rfl dc_14_51_112 ?_
                  refine q_ild (e := m) (v := nI (tN (sg 59 m))) (by decide) (by decide) hM rfl (show m < 16 by omega) (by omega) (t5.1) dc_14_51_113 ?_
                  refine r_ncge (t := 148) (by omega) (by omega) (by decide) dc_14_51_114 (fun c_114 => ?_) (fun c_114 => ?_)
                  · omega
                  · skip
                    refine r_aload_n rfl dc_14_51_117 ?_
                    refine q_get (v := .ref 150) rx_159 hM rfl dc_14_51_118 ?_
                    refine r_iconst (v := nI 4) (by decide) dc_14_51_121 ?_
                    refine r_iload_n rfl dc_14_51_122 ?_
                    refine r_imul (v := nI (4 * m)) (pk_mul _ _) dc_14_51_123 ?_
                    refine r_iload_n rfl dc_14_51_124 ?_
                    refine r_iadd (v := nI (4 * m + j)) (nI_add _ _) dc_14_51_125 ?_
                    refine r_aload_n rfl dc_14_51_126 ?_
                    refine r_iload_n rfl dc_14_51_127 ?_
                    refine r_aload_n rfl dc_14_51_128 ?_
                    refine q_get (v := .ref 142) rx_135 hM rfl dc_14_51_129 ?_
                    refine r_iconst (v := nI 4) (by decide) dc_14_51_132 ?_
                    refine r_iload_n rfl dc_14_51_133 ?_
                    refine r_imul (v := nI (4 * m)) (pk_mul _ _) dc_14_51_134 ?_
                    refine r_iload_n rfl dc_14_51_135 ?_
                    refine r_iadd (v := nI (4 * m + j)) (nI_add _ _) dc_14_51_136 ?_
                    refine q_ild (e := 4 * m + j) (v := nI v9) (by decide) (by decide) hM rfl (show 4 * m + j < 64 by omega) (by omega) (e60) dc_14_51_137 ?_
                    obtain ⟨q5, hmb⟩ := c_mby M hM (va_up io 71 (nI (cnA (sp_sel sg pl) m).1)) (sW sg r) (ns := ns) (nh := nh) (nx := nx) (cm := cm) (w := w) h4 hnx hns hnh hC hR m v9 (by omega) hv9
                    refine q_calli (as := [.int (nI m), .int (nI v9)]) (rest := [.int (nI (4 * m + j)), .ref 150]) (v := .int (sp_mby io sg cm w nx m (nI v9))) (M1 := rf_mk M (va_up io 71 (nI (cnA (sp_sel sg pl) m).1)) (va_up (sW sg r) 48 q5)) iv_13_v338 na_1_226 o_226 hM rfl (show (2 : Nat) ≤ 8 by decide) dc_14_51_138 (hmb) ?_
                    rw [sW_s 48 _ rfl, ← e60]
                    refine q_ist (e := 4 * m + j) (k := 68) (by decide) (by decide) hM rfl rfl (show 4 * m + j < 64 by omega) (by omega) dc_14_51_141 ?_
                    rw [sW_s 68 _ rfl]
                    refine r_iinc (x := nI j) (v := nI (j + 1)) (ls' := [(3, .int (nI (j + 1))), (2, .int (nI m)), (0, .ref 100), (1, .int (nI pl))]) rfl (nI_1 _) (by decide) rfl dc_14_51_142 ?_
                    refine r_goto (t := 107) (by decide) dc_14_51_145 ?_
                    exact ih_j (va_up (va_up r 48 q5) 68 (upd ((va_up r 48 q5) 68) (4 * m + j) (sp_mby io sg cm w nx m (sg 60 (4 * m + j))))) (⟨fun z h1 h2 => (if_neg h1).trans ((if_neg h2).trans (hi_j.1 z h1 h2)), fun k hk => (if e : k = j then e ▸ if_pos rfl else (if_neg (by omega)).trans (hi_j.2.1 k (by omega))), fun y hy => (if_neg (by omega)).trans (hi_j.2.2 y hy)⟩)
              · skip
                refine r_goto (t := 158) (by decide) dc_14_51_47 ?_
                refine r_iinc (x := nI m) (v := nI (m + 1)) (ls' := [(2, .int (nI (m + 1))), (0, .ref 100), (1, .int (nI pl))]) rfl (nI_1 _) (by decide) rfl dc_14_51_158 ?_
                refine r_goto (t := 7) (by decide) dc_14_51_161 ?_
                rw [cnA_n (fun z => z.elim c_30 (fun y => c_44 y.2))] at ih_m
                exact ih_m q (hi_m)
  obtain ⟨z9, ⟨q, p9, e9⟩, h9⟩ := hq9
  subst e9
  exact ⟨q, p9, h9⟩
