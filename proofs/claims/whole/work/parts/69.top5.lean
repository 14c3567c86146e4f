/-! the whole: the plan is prepared -/
theorem dc_1_40_0 : decode prog_1_method_40_code 0 = .ok (.aload_n 0, 1) := by decide +kernel
theorem dc_1_40_1 : decode prog_1_method_40_code 1 = .ok (.getfield 74, 3) := by decide +kernel
theorem dc_1_40_4 : decode prog_1_method_40_code 4 = .ok (.invokevirtual 343, 3) := by decide +kernel
theorem dc_1_40_7 : decode prog_1_method_40_code 7 = .ok (.aload_n 0, 1) := by decide +kernel
theorem dc_1_40_8 : decode prog_1_method_40_code 8 = .ok (.invokevirtual 344, 3) := by decide +kernel
theorem dc_1_40_11 : decode prog_1_method_40_code 11 = .ok (.iconst 0, 1) := by decide +kernel
theorem dc_1_40_12 : decode prog_1_method_40_code 12 = .ok (.istore_n 3, 1) := by decide +kernel
theorem dc_1_40_13 : decode prog_1_method_40_code 13 = .ok (.iload_n 3, 1) := by decide +kernel
theorem dc_1_40_14 : decode prog_1_method_40_code 14 = .ok (.aload_n 0, 1) := by decide +kernel
theorem dc_1_40_15 : decode prog_1_method_40_code 15 = .ok (.getfield 68, 3) := by decide +kernel
theorem dc_1_40_18 : decode prog_1_method_40_code 18 = .ok (.invokeinterface 113 1, 5) := by decide +kernel
theorem dc_1_40_23 : decode prog_1_method_40_code 23 = .ok (.if_icmp .ge 165, 3) := by decide +kernel
theorem dc_1_40_26 : decode prog_1_method_40_code 26 = .ok (.aload_n 0, 1) := by decide +kernel
theorem dc_1_40_27 : decode prog_1_method_40_code 27 = .ok (.getfield 68, 3) := by decide +kernel
theorem dc_1_40_30 : decode prog_1_method_40_code 30 = .ok (.iload_n 3, 1) := by decide +kernel
theorem dc_1_40_31 : decode prog_1_method_40_code 31 = .ok (.invokeinterface 227 2, 5) := by decide +kernel
theorem dc_1_40_36 : decode prog_1_method_40_code 36 = .ok (.checkcast 175, 3) := by decide +kernel
theorem dc_1_40_39 : decode prog_1_method_40_code 39 = .ok (.astore 4, 2) := by decide +kernel
theorem dc_1_40_41 : decode prog_1_method_40_code 41 = .ok (.aload 4, 2) := by decide +kernel
theorem dc_1_40_43 : decode prog_1_method_40_code 43 = .ok (.getfield 204, 3) := by decide +kernel
theorem dc_1_40_46 : decode prog_1_method_40_code 46 = .ok (.ifCond .eq 16, 3) := by decide +kernel
theorem dc_1_40_49 : decode prog_1_method_40_code 49 = .ok (.iload_n 2, 1) := by decide +kernel
theorem dc_1_40_50 : decode prog_1_method_40_code 50 = .ok (.ifCond .eq 16, 3) := by decide +kernel
theorem dc_1_40_53 : decode prog_1_method_40_code 53 = .ok (.aload 4, 2) := by decide +kernel
theorem dc_1_40_55 : decode prog_1_method_40_code 55 = .ok (.getfield 204, 3) := by decide +kernel
theorem dc_1_40_58 : decode prog_1_method_40_code 58 = .ok (.iconst 1, 1) := by decide +kernel
theorem dc_1_40_59 : decode prog_1_method_40_code 59 = .ok (.if_icmp .ne 7, 3) := by decide +kernel
theorem dc_1_40_62 : decode prog_1_method_40_code 62 = .ok (.iconst 1, 1) := by decide +kernel
theorem dc_1_40_63 : decode prog_1_method_40_code 63 = .ok (.goto 4, 3) := by decide +kernel
theorem dc_1_40_66 : decode prog_1_method_40_code 66 = .ok (.iconst 0, 1) := by decide +kernel
theorem dc_1_40_67 : decode prog_1_method_40_code 67 = .ok (.istore 5, 2) := by decide +kernel
theorem dc_1_40_69 : decode prog_1_method_40_code 69 = .ok (.iload 5, 2) := by decide +kernel
theorem dc_1_40_71 : decode prog_1_method_40_code 71 = .ok (.ifCond .eq 25, 3) := by decide +kernel
theorem dc_1_40_74 : decode prog_1_method_40_code 74 = .ok (.aload_n 0, 1) := by decide +kernel
theorem dc_1_40_75 : decode prog_1_method_40_code 75 = .ok (.getfield 74, 3) := by decide +kernel
theorem dc_1_40_78 : decode prog_1_method_40_code 78 = .ok (.getfield 347, 3) := by decide +kernel
theorem dc_1_40_81 : decode prog_1_method_40_code 81 = .ok (.iload_n 1, 1) := by decide +kernel
theorem dc_1_40_82 : decode prog_1_method_40_code 82 = .ok (.if_icmp .ge 14, 3) := by decide +kernel
theorem dc_1_40_85 : decode prog_1_method_40_code 85 = .ok (.aload_n 0, 1) := by decide +kernel
theorem dc_1_40_86 : decode prog_1_method_40_code 86 = .ok (.iload_n 3, 1) := by decide +kernel
theorem dc_1_40_87 : decode prog_1_method_40_code 87 = .ok (.aload 4, 2) := by decide +kernel
theorem dc_1_40_89 : decode prog_1_method_40_code 89 = .ok (.iload_n 2, 1) := by decide +kernel
theorem dc_1_40_90 : decode prog_1_method_40_code 90 = .ok (.invokevirtual 348, 3) := by decide +kernel
theorem dc_1_40_93 : decode prog_1_method_40_code 93 = .ok (.goto 89, 3) := by decide +kernel
theorem dc_1_40_96 : decode prog_1_method_40_code 96 = .ok (.aload 4, 2) := by decide +kernel
theorem dc_1_40_98 : decode prog_1_method_40_code 98 = .ok (.getfield 204, 3) := by decide +kernel
theorem dc_1_40_101 : decode prog_1_method_40_code 101 = .ok (.iconst 1, 1) := by decide +kernel
theorem dc_1_40_102 : decode prog_1_method_40_code 102 = .ok (.if_icmp .ne 41, 3) := by decide +kernel
theorem dc_1_40_105 : decode prog_1_method_40_code 105 = .ok (.aload_n 0, 1) := by decide +kernel
theorem dc_1_40_106 : decode prog_1_method_40_code 106 = .ok (.getfield 74, 3) := by decide +kernel
theorem dc_1_40_109 : decode prog_1_method_40_code 109 = .ok (.getfield 352, 3) := by decide +kernel
theorem dc_1_40_112 : decode prog_1_method_40_code 112 = .ok (.aload 4, 2) := by decide +kernel
theorem dc_1_40_114 : decode prog_1_method_40_code 114 = .ok (.getfield 356, 3) := by decide +kernel
theorem dc_1_40_117 : decode prog_1_method_40_code 117 = .ok (.aload 4, 2) := by decide +kernel
theorem dc_1_40_119 : decode prog_1_method_40_code 119 = .ok (.invokevirtual 261, 3) := by decide +kernel
theorem dc_1_40_122 : decode prog_1_method_40_code 122 = .ok (.aload_n 0, 1) := by decide +kernel
theorem dc_1_40_123 : decode prog_1_method_40_code 123 = .ok (.aload 4, 2) := by decide +kernel
theorem dc_1_40_125 : decode prog_1_method_40_code 125 = .ok (.getfield 264, 3) := by decide +kernel
theorem dc_1_40_128 : decode prog_1_method_40_code 128 = .ok (.aload 4, 2) := by decide +kernel
theorem dc_1_40_130 : decode prog_1_method_40_code 130 = .ok (.getfield 356, 3) := by decide +kernel
theorem dc_1_40_133 : decode prog_1_method_40_code 133 = .ok (.invokevirtual 359, 3) := by decide +kernel
theorem dc_1_40_136 : decode prog_1_method_40_code 136 = .ok (.iconst 1, 1) := by decide +kernel
theorem dc_1_40_137 : decode prog_1_method_40_code 137 = .ok (.invokevirtual 362, 3) := by decide +kernel
theorem dc_1_40_140 : decode prog_1_method_40_code 140 = .ok (.goto 42, 3) := by decide +kernel
theorem dc_1_40_143 : decode prog_1_method_40_code 143 = .ok (.aload 4, 2) := by decide +kernel
theorem dc_1_40_145 : decode prog_1_method_40_code 145 = .ok (.getfield 204, 3) := by decide +kernel
theorem dc_1_40_148 : decode prog_1_method_40_code 148 = .ok (.iconst 3, 1) := by decide +kernel
theorem dc_1_40_149 : decode prog_1_method_40_code 149 = .ok (.if_icmp .ne 33, 3) := by decide +kernel
theorem dc_1_40_152 : decode prog_1_method_40_code 152 = .ok (.aload_n 0, 1) := by decide +kernel
theorem dc_1_40_153 : decode prog_1_method_40_code 153 = .ok (.getfield 74, 3) := by decide +kernel
theorem dc_1_40_156 : decode prog_1_method_40_code 156 = .ok (.getfield 352, 3) := by decide +kernel
theorem dc_1_40_159 : decode prog_1_method_40_code 159 = .ok (.aload 4, 2) := by decide +kernel
theorem dc_1_40_161 : decode prog_1_method_40_code 161 = .ok (.getfield 356, 3) := by decide +kernel
theorem dc_1_40_164 : decode prog_1_method_40_code 164 = .ok (.aload_n 0, 1) := by decide +kernel
theorem dc_1_40_165 : decode prog_1_method_40_code 165 = .ok (.aload 4, 2) := by decide +kernel
theorem dc_1_40_167 : decode prog_1_method_40_code 167 = .ok (.getfield 264, 3) := by decide +kernel
theorem dc_1_40_170 : decode prog_1_method_40_code 170 = .ok (.aload 4, 2) := by decide +kernel
theorem dc_1_40_172 : decode prog_1_method_40_code 172 = .ok (.getfield 356, 3) := by decide +kernel
theorem dc_1_40_175 : decode prog_1_method_40_code 175 = .ok (.invokevirtual 359, 3) := by decide +kernel
theorem dc_1_40_178 : decode prog_1_method_40_code 178 = .ok (.iconst 1, 1) := by decide +kernel
theorem dc_1_40_179 : decode prog_1_method_40_code 179 = .ok (.invokevirtual 367, 3) := by decide +kernel
theorem dc_1_40_182 : decode prog_1_method_40_code 182 = .ok (.iinc 3 1, 3) := by decide +kernel
theorem dc_1_40_185 : decode prog_1_method_40_code 185 = .ok (.goto (-172), 3) := by decide +kernel
theorem dc_1_40_188 : decode prog_1_method_40_code 188 = .ok (.return_, 1) := by decide +kernel
theorem iv_0_v343 : mm_iv 0 (.invokevirtual 343) = some (1, 112) := by decide +kernel
theorem iv_0_v344 : mm_iv 0 (.invokevirtual 344) = some (1, 114) := by decide +kernel
theorem iv_0_v348 : mm_iv 0 (.invokevirtual 348) = some (1, 117) := by decide +kernel
theorem iv_0_v362 : mm_iv 0 (.invokevirtual 362) = some (1, 124) := by decide +kernel
theorem iv_0_v367 : mm_iv 0 (.invokevirtual 367) = some (1, 125) := by decide +kernel
theorem o_112 : mm_o 112 = 7 := by decide +kernel
theorem o_114 : mm_o 114 = 0 := by decide +kernel
theorem o_117 : mm_o 117 = 0 := by decide +kernel
theorem o_125 : mm_o 125 = 8 := by decide +kernel
theorem na_1_112 : mm_nas 1 112 = 1 := by decide +kernel
theorem na_1_114 : mm_nas 1 114 = 1 := by decide +kernel
theorem na_1_117 : mm_nas 1 117 = 4 := by decide +kernel
theorem na_1_125 : mm_nas 1 125 = 4 := by decide +kernel
def selM (mo pl : Nat) (sg : Nat → Nat → Int32) (s : Nat) : Prop := mo = 7 ∧ sp_sel sg pl s
def chs (sel : Nat → Prop) (s : Nat) : Prop := sel s ∧ (cnA sel s).1 < 7
def bsO (sel : Nat → Prop) (sg : Nat → Nat → Int32) (x s : Nat) : Prop := ¬ chs sel s ∧ sg 56 s = nI 1 ∧ sg 58 s = nI x ∧ sg 27 x = sg 51 s
def bsB (sel : Nat → Prop) (sg : Nat → Nat → Int32) (x s : Nat) : Prop := ¬ chs sel s ∧ sg 56 s = nI 1 ∧ sg 58 s = nI x ∧ ¬ sg 27 x = sg 51 s
def bsG (sel : Nat → Prop) (sg : Nat → Nat → Int32) (h s : Nat) : Prop := ¬ chs sel s ∧ sg 56 s = nI 1 ∧ sg 57 s = nI h
def beO (sel : Nat → Prop) (sg : Nat → Nat → Int32) (x s : Nat) : Prop := ¬ chs sel s ∧ (sg 56 s = nI 1 ∨ sg 56 s = nI 3) ∧ sg 58 s = nI x ∧ sg 27 x = sg 51 s
def beB (sel : Nat → Prop) (sg : Nat → Nat → Int32) (x s : Nat) : Prop := ¬ chs sel s ∧ (sg 56 s = nI 1 ∨ sg 56 s = nI 3) ∧ sg 58 s = nI x ∧ ¬ sg 27 x = sg 51 s
noncomputable def blP (sel : Nat → Prop) (sg : Nat → Nat → Int32) (x m : Nat) : Int := (cnP (beO sel sg x) m : Int) - (cnP (beB sel sg x) m : Int)
def PpB (cs1 : Nat → Nat → Int32) (sel : Nat → Prop) (sg : Nat → Nat → Int32) (m : Nat) : Prop := (∀ x, x < 12 → cs1 33 x = nI (cnP (bsO sel sg x) m) ∧ cs1 34 x = nI (cnP (bsB sel sg x) m) ∧ cs1 35 x = zI (blP sel sg x m)) ∧ ∀ h, h < 8 → cs1 36 h = nI (cnP (bsG sel sg h) m)
def PpL (cs1 : Nat → Nat → Int32) (io : Nat → Int32) (sg : Nat → Nat → Int32) (nh nx : Nat) : Prop := (∀ h, h < 8 → cs1 32 h = nI (b10 sg nh h)) ∧ (∀ x, x < 12 → cs1 30 x = nI (b8 io sg 29 nx x)) ∧ (∀ x, x < 12 → cs1 31 x = nI (b8 io sg 30 nx x))
def PpI (D : Nat → Nat → Nat) (cs cs1 : Nat → Nat → Int32) (io : Nat → Int32) (sel : Nat → Prop) (pl : Nat) (sg my : Nat → Nat → Int32) (nh nx m : Nat) : Prop := FrC D nx cs cs1 ∧ cs1 28 1 = nI (cnA sel m).1 ∧ (∀ i, i < (cnA sel m).1 → PLr cs1 pl sg my i ((cnA sel m).2 i)) ∧ PpB cs1 sel sg m ∧ PpL cs1 io sg nh nx
theorem PpB_n {cs1 : Nat → Nat → Int32} {sel : Nat → Prop} {sg : Nat → Nat → Int32} {m : Nat} (h : PpB cs1 sel sg m) (hn : chs sel m ∨ ¬ sg 56 m = nI 1 ∧ ¬ sg 56 m = nI 3) : PpB cs1 sel sg (m + 1) := by
  have a1 : ∀ x, cnP (bsO sel sg x) (m + 1) = cnP (bsO sel sg x) m := fun x => cnP_f (fun z => hn.elim z.1 (fun y => y.1 z.2.1))
  have a2 : ∀ x, cnP (bsB sel sg x) (m + 1) = cnP (bsB sel sg x) m := fun x => cnP_f (fun z => hn.elim z.1 (fun y => y.1 z.2.1))
  have a3 : ∀ x, cnP (bsG sel sg x) (m + 1) = cnP (bsG sel sg x) m := fun x => cnP_f (fun z => hn.elim z.1 (fun y => y.1 z.2.1))
  have a4 : ∀ x, cnP (beO sel sg x) (m + 1) = cnP (beO sel sg x) m := fun x => cnP_f (fun z => hn.elim z.1 (fun y => z.2.1.elim y.1 y.2))
  have a5 : ∀ x, cnP (beB sel sg x) (m + 1) = cnP (beB sel sg x) m := fun x => cnP_f (fun z => hn.elim z.1 (fun y => z.2.1.elim y.1 y.2))
  unfold PpB blP at h ⊢
  simp only [a1, a2, a3, a4, a5]
  exact h
theorem PpB_f {cs1 cs2 : Nat → Nat → Int32} {sel : Nat → Prop} {sg : Nat → Nat → Int32} {m : Nat} (h : PpB cs1 sel sg m) (hf : ∀ a, 33 ≤ a → a ≤ 36 → cs2 a = cs1 a) : PpB cs2 sel sg m := by
  unfold PpB at h ⊢
  rw [hf 33 (by omega) (by omega), hf 34 (by omega) (by omega), hf 35 (by omega) (by omega), hf 36 (by omega) (by omega)]
  exact h
theorem PpL_f {cs1 cs2 : Nat → Nat → Int32} {io : Nat → Int32} {sg : Nat → Nat → Int32} {nh nx : Nat} (h : PpL cs1 io sg nh nx) (hf : ∀ a, 30 ≤ a → a ≤ 32 → cs2 a = cs1 a) : PpL cs2 io sg nh nx := by
  unfold PpL at h ⊢
  rw [hf 30 (by omega) (by omega), hf 31 (by omega) (by omega), hf 32 (by omega) (by omega)]
  exact h
theorem PLr_f {cs1 cs2 : Nat → Nat → Int32} {pl : Nat} {sg my : Nat → Nat → Int32} {i s : Nat} (h : PLr cs1 pl sg my i s) (h37 : cs2 37 i = cs1 37 i) (h38 : cs2 38 i = cs1 38 i) (hf : ∀ a, a = 40 + i ∨ a = 48 + i ∨ a = 56 + i ∨ a = 64 + i ∨ a = 72 + i → cs2 a = cs1 a) : PLr cs2 pl sg my i s := by
  unfold PLr PLo at h ⊢
  rw [h37, h38, hf (40 + i) (by omega), hf (48 + i) (by omega), hf (56 + i) (by omega), hf (64 + i) (by omega), hf (72 + i) (by omega)]
  exact h
/-- nothing happens to the plan and its bounds -/
theorem PpI_n {D : Nat → Nat → Nat} {cs cs1 : Nat → Nat → Int32} {io : Nat → Int32} {sel : Nat → Prop} {pl : Nat} {sg my : Nat → Nat → Int32} {nh nx m : Nat} (h : PpI D cs cs1 io sel pl sg my nh nx m) (hc : ¬ chs sel m) (hn : ¬ sg 56 m = nI 1 ∧ ¬ sg 56 m = nI 3) : PpI D cs cs1 io sel pl sg my nh nx (m + 1) := by
  have e : cnA sel (m + 1) = cnA sel m := if_neg (fun z => hc ⟨z.2, z.1⟩)
  unfold PpI
  rw [e]
  exact ⟨h.1, h.2.1, h.2.2.1, PpB_n h.2.2.2.1 (Or.inr hn), h.2.2.2.2⟩
theorem PpI_b {D : Nat → Nat → Nat} {cs cs1 cs2 : Nat → Nat → Int32} {io : Nat → Int32} {sel : Nat → Prop} {pl : Nat} {sg my : Nat → Nat → Int32} {nh nx m : Nat} (h : PpI D cs cs1 io sel pl sg my nh nx m) (hc : ¬ chs sel m) (hf : ∀ a, ¬ (33 ≤ a ∧ a ≤ 36) → cs2 a = cs1 a) (hB : PpB cs2 sel sg (m + 1)) : PpI D cs cs2 io sel pl sg my nh nx (m + 1) := by
  have e : cnA sel (m + 1) = cnA sel m := if_neg (fun z => hc ⟨z.2, z.1⟩)
  have hl := cnA_le sel m
  unfold PpI
  rw [e]
  refine ⟨FrC_t h.1 (fun a h1 _ => hf a (by omega)), by rw [hf 28 (by decide)]; exact h.2.1, fun i hi => PLr_f (h.2.2.1 i hi) (by rw [hf 37 (by decide)]) (by rw [hf 38 (by decide)]) (fun a ha => hf a (by omega)), hB, PpL_f h.2.2.2.2 (fun a h1 h2 => hf a (by omega))⟩
theorem PpI_a {D : Nat → Nat → Nat} {cs cs1 cs2 : Nat → Nat → Int32} {io : Nat → Int32} {sel : Nat → Prop} {pl : Nat} {sg my : Nat → Nat → Int32} {nh nx m : Nat} (h : PpI D cs cs1 io sel pl sg my nh nx m) (hc : chs sel m) (hf : FrP D nx (cnA sel m).1 cs1 cs2) (h28 : cs2 28 1 = nI ((cnA sel m).1 + 1)) (hr : PLr cs2 pl sg my (cnA sel m).1 m) : PpI D cs cs2 io sel pl sg my nh nx (m + 1) := by
  have hl := hc.2
  refine ⟨FrC_t h.1 hf.1, ?_, fun i hi => ?_, PpB_n (PpB_f h.2.2.2.1 (fun a h1 h2 => hf.2.1 a (by omega) (by omega) (by omega))) (Or.inl hc), PpL_f h.2.2.2.2 (fun a h1 h2 => hf.2.1 a (by omega) (by omega) (by omega))⟩
  · rw [cnA_p hc.2 hc.1]
    exact h28
  · rw [cnA_p hc.2 hc.1] at hi ⊢
    have hi2 : i < (cnA sel m).1 + 1 := hi
    show PLr cs2 pl sg my i (upn (cnA sel m).2 (cnA sel m).1 m i)
    by_cases z : i = (cnA sel m).1
    · rw [z, upn_s]
      exact hr
    · rw [upn_o z]
      exact PLr_f (h.2.2.1 i (by omega)) (hf.2.2 i z).1 (hf.2.2 i z).2 (fun a ha => hf.2.1 a (by omega) (by omega) (by omega))
theorem PpB_p1 {cs1 : Nat → Nat → Int32} {sel : Nat → Prop} {sg : Nat → Nat → Int32} {m xv pv : Nat} (h : PpB cs1 sel sg m) (hc : ¬ chs sel m) (h56 : sg 56 m = nI 1) (h58 : sg 58 m = nI xv) (h57 : sg 57 m = nI pv) (hx : xv < 12) (hp : pv < 8) (hw : sg 27 xv = sg 51 m) : PpB (w1 (w1 (w1 cs1 36 pv (cs1 36 pv + nI 1)) 33 xv (cs1 33 xv + nI 1)) 35 xv (cs1 35 xv + (nI 1) * nI 1)) sel sg (m + 1) := by
  have n58 : ∀ x, x < 12 → (sg 58 m = nI x ↔ x = xv) := fun x hx2 => by
    rw [h58, nI_eq (by omega) (by omega)]
    exact ⟨fun z => z.symm, fun z => z.symm⟩
  refine ⟨fun x h12 => ?_, fun g h8 => ?_⟩
  · obtain ⟨a1, a2, a3⟩ := h.1 x h12
    unfold blP at a3 ⊢
    by_cases z : x = xv
    · subst z
      rw [cnP_t (P := bsO sel sg x) ⟨hc, h56, h58, hw⟩, cnP_f (P := bsB sel sg x) (fun y => y.2.2.2 hw), cnP_t (P := beO sel sg x) ⟨hc, Or.inl h56, h58, hw⟩, cnP_f (P := beB sel sg x) (fun y => y.2.2.2 hw)]
      refine ⟨?_, ?_, ?_⟩
      · exact (by simp [w1] : _ = cs1 33 x + nI 1).trans (by rw [a1, nI_add])
      · exact (by simp [w1] : _ = cs1 34 x).trans a2
      · exact (by simp [w1] : _ = cs1 35 x + (nI 1) * nI 1).trans (by rw [a3, show (nI 1) * nI 1 = zI (1) by decide, zI_add]; exact congrArg zI (by omega))
    · have z2 : ¬ sg 58 m = nI x := fun y => z ((n58 x h12).mp y)
      rw [cnP_f (P := bsO sel sg x) (fun y => z2 y.2.2.1), cnP_f (P := bsB sel sg x) (fun y => z2 y.2.2.1), cnP_f (P := beO sel sg x) (fun y => z2 y.2.2.1), cnP_f (P := beB sel sg x) (fun y => z2 y.2.2.1)]
      exact ⟨(by simp [w1, z] : _ = cs1 33 x).trans a1, (by simp [w1, z] : _ = cs1 34 x).trans a2, (by simp [w1, z] : _ = cs1 35 x).trans a3⟩
  · have a1 := h.2 g h8
    by_cases z : g = pv
    · subst z
      rw [cnP_t (P := bsG sel sg g) ⟨hc, h56, h57⟩]
      exact (by simp [w1] : _ = cs1 36 g + nI 1).trans (by rw [a1, nI_add])
    · rw [cnP_f (P := bsG sel sg g) (fun y => z ((nI_eq (by omega) (by omega)).mp (y.2.2.symm.trans h57)))]
      exact (by simp [w1, z] : _ = cs1 36 g).trans a1
theorem PpB_m1 {cs1 : Nat → Nat → Int32} {sel : Nat → Prop} {sg : Nat → Nat → Int32} {m xv pv : Nat} (h : PpB cs1 sel sg m) (hc : ¬ chs sel m) (h56 : sg 56 m = nI 1) (h58 : sg 58 m = nI xv) (h57 : sg 57 m = nI pv) (hx : xv < 12) (hp : pv < 8) (hw : ¬ sg 27 xv = sg 51 m) : PpB (w1 (w1 (w1 cs1 36 pv (cs1 36 pv + nI 1)) 34 xv (cs1 34 xv + nI 1)) 35 xv (cs1 35 xv + ((-1)) * nI 1)) sel sg (m + 1) := by
  have n58 : ∀ x, x < 12 → (sg 58 m = nI x ↔ x = xv) := fun x hx2 => by
    rw [h58, nI_eq (by omega) (by omega)]
    exact ⟨fun z => z.symm, fun z => z.symm⟩
  refine ⟨fun x h12 => ?_, fun g h8 => ?_⟩
  · obtain ⟨a1, a2, a3⟩ := h.1 x h12
    unfold blP at a3 ⊢
    by_cases z : x = xv
    · subst z
      rw [cnP_f (P := bsO sel sg x) (fun y => hw y.2.2.2), cnP_t (P := bsB sel sg x) ⟨hc, h56, h58, hw⟩, cnP_f (P := beO sel sg x) (fun y => hw y.2.2.2), cnP_t (P := beB sel sg x) ⟨hc, Or.inl h56, h58, hw⟩]
      refine ⟨?_, ?_, ?_⟩
      · exact (by simp [w1] : _ = cs1 33 x).trans a1
      · exact (by simp [w1] : _ = cs1 34 x + nI 1).trans (by rw [a2, nI_add])
      · exact (by simp [w1] : _ = cs1 35 x + ((-1)) * nI 1).trans (by rw [a3, show ((-1)) * nI 1 = zI (-1) by decide, zI_add]; exact congrArg zI (by omega))
    · have z2 : ¬ sg 58 m = nI x := fun y => z ((n58 x h12).mp y)
      rw [cnP_f (P := bsO sel sg x) (fun y => z2 y.2.2.1), cnP_f (P := bsB sel sg x) (fun y => z2 y.2.2.1), cnP_f (P := beO sel sg x) (fun y => z2 y.2.2.1), cnP_f (P := beB sel sg x) (fun y => z2 y.2.2.1)]
      exact ⟨(by simp [w1, z] : _ = cs1 33 x).trans a1, (by simp [w1, z] : _ = cs1 34 x).trans a2, (by simp [w1, z] : _ = cs1 35 x).trans a3⟩
  · have a1 := h.2 g h8
    by_cases z : g = pv
    · subst z
      rw [cnP_t (P := bsG sel sg g) ⟨hc, h56, h57⟩]
      exact (by simp [w1] : _ = cs1 36 g + nI 1).trans (by rw [a1, nI_add])
    · rw [cnP_f (P := bsG sel sg g) (fun y => z ((nI_eq (by omega) (by omega)).mp (y.2.2.symm.trans h57)))]
      exact (by simp [w1, z] : _ = cs1 36 g).trans a1
theorem PpB_p3 {cs1 : Nat → Nat → Int32} {sel : Nat → Prop} {sg : Nat → Nat → Int32} {m xv pv : Nat} (h : PpB cs1 sel sg m) (hc : ¬ chs sel m) (h56 : sg 56 m = nI 3) (h58 : sg 58 m = nI xv) (h57 : sg 57 m = nI pv) (hx : xv < 12) (hp : pv < 8) (hw : sg 27 xv = sg 51 m) : PpB (w1 cs1 35 xv (cs1 35 xv + (nI 1) * nI 1)) sel sg (m + 1) := by
  have n58 : ∀ x, x < 12 → (sg 58 m = nI x ↔ x = xv) := fun x hx2 => by
    rw [h58, nI_eq (by omega) (by omega)]
    exact ⟨fun z => z.symm, fun z => z.symm⟩
  refine ⟨fun x h12 => ?_, fun g h8 => ?_⟩
  · obtain ⟨a1, a2, a3⟩ := h.1 x h12
    unfold blP at a3 ⊢
    by_cases z : x = xv
    · subst z
      rw [cnP_f (P := bsO sel sg x) (fun y => absurd (h56.symm.trans y.2.1) (by decide)), cnP_f (P := bsB sel sg x) (fun y => absurd (h56.symm.trans y.2.1) (by decide)), cnP_t (P := beO sel sg x) ⟨hc, Or.inr h56, h58, hw⟩, cnP_f (P := beB sel sg x) (fun y => y.2.2.2 hw)]
      refine ⟨?_, ?_, ?_⟩
      · exact (by simp [w1] : _ = cs1 33 x).trans a1
      · exact (by simp [w1] : _ = cs1 34 x).trans a2
      · exact (by simp [w1] : _ = cs1 35 x + (nI 1) * nI 1).trans (by rw [a3, show (nI 1) * nI 1 = zI (1) by decide, zI_add]; exact congrArg zI (by omega))
    · have z2 : ¬ sg 58 m = nI x := fun y => z ((n58 x h12).mp y)
      rw [cnP_f (P := bsO sel sg x) (fun y => z2 y.2.2.1), cnP_f (P := bsB sel sg x) (fun y => z2 y.2.2.1), cnP_f (P := beO sel sg x) (fun y => z2 y.2.2.1), cnP_f (P := beB sel sg x) (fun y => z2 y.2.2.1)]
      exact ⟨(by simp [w1, z] : _ = cs1 33 x).trans a1, (by simp [w1, z] : _ = cs1 34 x).trans a2, (by simp [w1, z] : _ = cs1 35 x).trans a3⟩
  · have a1 := h.2 g h8
    rw [cnP_f (P := bsG sel sg g) (fun y => absurd (h56.symm.trans y.2.1) (by decide))]
    exact (by simp [w1] : _ = cs1 36 g).trans a1
theorem PpB_m3 {cs1 : Nat → Nat → Int32} {sel : Nat → Prop} {sg : Nat → Nat → Int32} {m xv pv : Nat} (h : PpB cs1 sel sg m) (hc : ¬ chs sel m) (h56 : sg 56 m = nI 3) (h58 : sg 58 m = nI xv) (h57 : sg 57 m = nI pv) (hx : xv < 12) (hp : pv < 8) (hw : ¬ sg 27 xv = sg 51 m) : PpB (w1 cs1 35 xv (cs1 35 xv + ((-1)) * nI 1)) sel sg (m + 1) := by
  have n58 : ∀ x, x < 12 → (sg 58 m = nI x ↔ x = xv) := fun x hx2 => by
    rw [h58, nI_eq (by omega) (by omega)]
    exact ⟨fun z => z.symm, fun z => z.symm⟩
  refine ⟨fun x h12 => ?_, fun g h8 => ?_⟩
  · obtain ⟨a1, a2, a3⟩ := h.1 x h12
    unfold blP at a3 ⊢
    by_cases z : x = xv
    · subst z
      rw [cnP_f (P := bsO sel sg x) (fun y => absurd (h56.symm.trans y.2.1) (by decide)), cnP_f (P := bsB sel sg x) (fun y => absurd (h56.symm.trans y.2.1) (by decide)), cnP_f (P := beO sel sg x) (fun y => hw y.2.2.2), cnP_t (P := beB sel sg x) ⟨hc, Or.inr h56, h58, hw⟩]
      refine ⟨?_, ?_, ?_⟩
      · exact (by simp [w1] : _ = cs1 33 x).trans a1
      · exact (by simp [w1] : _ = cs1 34 x).trans a2
      · exact (by simp [w1] : _ = cs1 35 x + ((-1)) * nI 1).trans (by rw [a3, show ((-1)) * nI 1 = zI (-1) by decide, zI_add]; exact congrArg zI (by omega))
    · have z2 : ¬ sg 58 m = nI x := fun y => z ((n58 x h12).mp y)
      rw [cnP_f (P := bsO sel sg x) (fun y => z2 y.2.2.1), cnP_f (P := bsB sel sg x) (fun y => z2 y.2.2.1), cnP_f (P := beO sel sg x) (fun y => z2 y.2.2.1), cnP_f (P := beB sel sg x) (fun y => z2 y.2.2.1)]
      exact ⟨(by simp [w1, z] : _ = cs1 33 x).trans a1, (by simp [w1, z] : _ = cs1 34 x).trans a2, (by simp [w1, z] : _ = cs1 35 x).trans a3⟩
  · have a1 := h.2 g h8
    rw [cnP_f (P := bsG sel sg g) (fun y => absurd (h56.symm.trans y.2.1) (by decide))]
    exact (by simp [w1] : _ = cs1 36 g).trans a1
set_option maxHeartbeats 4000000 in
theorem k_prep70 {M : mH} {T : Nat → mT} {cs sg : Nat → Nat → Int32} {io : Nat → Int32} {e : Nat → Nat} {D : Nat → Nat → Nat} {nh nx ns nf ny tp : Nat} {cm : Nat → Nat} {w : Nat → Nat → Nat} {cn : Nat → Nat} {wc : Nat → Nat → Nat} (hV : CV M T cs io sg e D nh nx ns nf ny tp cm w cn wc) (my : Nat → Nat → Int32) (hmy : my = (fun s k => sp_mby io sg cm w nx s (sg 60 (4 * s + k)))) : ∃ (cs1 : Nat → Nat → Int32), (PpI D cs cs1 io (selM 7 0 sg) 0 sg my nh nx ns) ∧ mm_Ev 7 111 [.ref 0, .int (nI 7), .int (nI 0)] (hk M T cs) ((none, hk M T cs1)) := by
  have hq9 : ∃ z, (fun r9 => ∃ (cs1 : Nat → Nat → Int32), (PpI D cs cs1 io (selM 7 0 sg) 0 sg my nh nx ns) ∧ r9 = ((none, hk M T cs1))) z ∧ mm_Ev 7 111 [.ref 0, .int (nI 7), .int (nI 0)] (hk M T cs) z := by
    obtain ⟨⟨hM, hMs, hW⟩, hC, hT, hR, hJ⟩ := id hV
    obtain ⟨hF, ⟨hL0, hL1, hL2⟩, hSc, hAg, hSt⟩ := id hC
    obtain ⟨⟨⟨h3, hnh⟩, ⟨h4, hnx⟩, ⟨h5, hns⟩, ⟨h7, hnf⟩, ⟨h6, hny⟩, ⟨h23, htp⟩⟩, hRa, hRb, hRs, hRs2, hRs3, hRx, hCD, hRt, hRt2, hRf⟩ := id hR
    refine r_evQ (by decide +kernel) (show (3 : Nat) ≤ mm_nL 111 by decide +kernel) ?_
    show mm_Ru 6 (0, 6, false, prog_1_method_40_code, none) 0 [(0, .ref 0), (1, .int (nI 7)), (2, .int (nI 0))] [] (hk M T cs) (fun r9 => ∃ (cs1 : Nat → Nat → Int32), (PpI D cs cs1 io (selM 7 0 sg) 0 sg my nh nx ns) ∧ r9 = ((none, hk M T cs1)))
    refine r_aload_n rfl dc_1_40_0 ?_
    refine h_get (t := cT e 0) (v := .ref 28) fx_0_74 (hF 0 (by decide)) ⟨by omega, by omega⟩ (rfl) dc_1_40_1 ?_
    obtain ⟨csa, ⟨hba, hsa, hfa, -⟩, heva⟩ := k_pclear M hM T e hF cs
    have hVa : CV M T csa io sg e D nh nx ns nf ny tp cm w cn wc := CV_f hV (fun a h1 _ => hfa a (by omega))
    refine h_call0 (t := cT e 28) (as := []) (rest := []) (M1 := hk M T csa) rfl rfl iv_0_v343 (Or.inl rfl) na_1_112 (hF 28 (by decide)) ⟨by omega, by omega⟩ (show (7 : Nat) < 14 by decide) o_112 rfl (show (0 : Nat) ≤ 8 by decide) dc_1_40_4 (mm_Ev_up (by decide : 3 ≤ 6) (heva)) ?_
    refine r_aload_n rfl dc_1_40_7 ?_
    obtain ⟨csb, ⟨hfb, hb1, hb2, hb3⟩, hevb⟩ := k_setB hVa hba
    have hVb := CV_f hVa (FrB_C hfb)
    have hI0 : PpI D cs csb io (selM 7 0 sg) 0 sg my nh nx 0 := ⟨fun a h1 _ => (hfb a (by omega)).trans (hfa a (by omega)), by rw [hfb 28 (by decide)]; exact hsa, fun i hi => absurd hi (Nat.not_lt_zero i), ⟨fun x hx => by rw [hfb 33 (by decide), hfb 34 (by decide), hfb 35 (by decide)]; exact ⟨(hba.1 x hx).2.2.1, (hba.1 x hx).2.2.2.1, (hba.1 x hx).2.2.2.2⟩, fun h hh => by rw [hfb 36 (by decide)]; exact (hba.2 h hh).2⟩, hb1, hb2, hb3⟩
    refine h_call0 (t := cT e 0) (as := []) (rest := []) (M1 := hk M T csb) rfl rfl iv_0_v344 (Or.inl rfl) na_1_114 (hF 0 (by decide)) ⟨by omega, by omega⟩ (show (0 : Nat) < 14 by decide) o_114 rfl (show (0 : Nat) ≤ 8 by decide) dc_1_40_8 (mm_Ev_up (by decide : 5 ≤ 6) (hevb)) ?_
    refine r_iconst (v := nI 0) (by decide) dc_1_40_11 ?_
    refine r_istore_n (ls' := [(3, .int (nI 0)), (0, .ref 0), (1, .int (nI 7)), (2, .int (nI 0))]) (by decide) rfl dc_1_40_12 ?_
    refine mm_cnt (P := fun m => ∀ (cs1 : Nat → Nat → Int32), (PpI D cs cs1 io (selM 7 0 sg) 0 sg my nh nx m) → mm_Ru 6 (0, 6, false, prog_1_method_40_code, none) 13 [(3, .int (nI m)), (0, .ref 0), (1, .int (nI 7)), (2, .int (nI 0))] [] (hk M T cs1) (fun r9 => ∃ (cs1 : Nat → Nat → Int32), (PpI D cs cs1 io (selM 7 0 sg) 0 sg my nh nx ns) ∧ r9 = ((none, hk M T cs1)))) ns ?_ ?_ 0 (by omega) csb (hI0)
    · intro  cs1 hi_m
      show mm_Ru 6 (0, 6, false, prog_1_method_40_code, none) 13 [(3, .int (nI ns)), (0, .ref 0), (1, .int (nI 7)), (2, .int (nI 0))] [] (hk M T cs1) (fun r9 => ∃ (cs1 : Nat → Nat → Int32), (PpI D cs cs1 io (selM 7 0 sg) 0 sg my nh nx ns) ∧ r9 = ((none, hk M T cs1)))
      have hV1 := CV_f hV hi_m.1
      refine r_iload_n rfl dc_1_40_13 ?_
      refine r_aload_n rfl dc_1_40_14 ?_
      refine h_get (t := cT e 0) (v := .ref 27) fx_0_68 (hF 0 (by decide)) ⟨by omega, by omega⟩ (rfl) dc_1_40_15 ?_
      refine h_callv (t := cT e 27) (as := []) (rest := [.int (nI ns)]) (v := .int (nI ns)) (M1 := hk M T cs1) rfl rfl iv_0_f113 (Or.inr (Or.inr rfl)) na_6_26 (hF 27 (by decide)) ⟨by omega, by omega⟩ (show (6 : Nat) < 14 by decide) o_26 rfl (show (1 : Nat) ≤ 8 by decide) dc_1_40_18 (mm_Ev_up (by decide : 1 ≤ 6) (k_sizeL hV1.2.1.2.1.2.2)) ?_
      refine r_ncge (t := 188) (by omega) (by omega) (by decide) dc_1_40_23 (fun c_23 => ?_) (fun c_23 => ?_)
      · skip
        refine r_vret rfl dc_1_40_188 ?_
        exact ⟨cs1, hi_m, rfl⟩
      · omega
    · intro m h_m ih_m  cs1 hi_m
      have hV1 := CV_f hV hi_m.1
      have hcl := cnA_le (selM 7 0 sg) m
      have hst9 := (hRt m h_m).2.2.2.2.2.2.2.2.2
      show mm_Ru 6 (0, 6, false, prog_1_method_40_code, none) 13 [(3, .int (nI m)), (0, .ref 0), (1, .int (nI 7)), (2, .int (nI 0))] [] (hk M T cs1) (fun r9 => ∃ (cs1 : Nat → Nat → Int32), (PpI D cs cs1 io (selM 7 0 sg) 0 sg my nh nx ns) ∧ r9 = ((none, hk M T cs1)))
      refine r_iload_n rfl dc_1_40_13 ?_
      refine r_aload_n rfl dc_1_40_14 ?_
      refine h_get (t := cT e 0) (v := .ref 27) fx_0_68 (hF 0 (by decide)) ⟨by omega, by omega⟩ (rfl) dc_1_40_15 ?_
      refine h_callv (t := cT e 27) (as := []) (rest := [.int (nI m)]) (v := .int (nI ns)) (M1 := hk M T cs1) rfl rfl iv_0_f113 (Or.inr (Or.inr rfl)) na_6_26 (hF 27 (by decide)) ⟨by omega, by omega⟩ (show (6 : Nat) < 14 by decide) o_26 rfl (show (1 : Nat) ≤ 8 by decide) dc_1_40_18 (mm_Ev_up (by decide : 1 ≤ 6) (k_sizeL hV1.2.1.2.1.2.2)) ?_
      refine r_ncge (t := 188) (by omega) (by omega) (by decide) dc_1_40_23 (fun c_23 => ?_) (fun c_23 => ?_)
      · omega
      · skip
        refine r_aload_n rfl dc_1_40_26 ?_
        refine h_get (t := cT e 0) (v := .ref 27) fx_0_68 (hF 0 (by decide)) ⟨by omega, by omega⟩ (rfl) dc_1_40_27 ?_
        refine r_iload_n rfl dc_1_40_30 ?_
        refine h_callv (t := cT e 27) (as := [.int (nI m)]) (rest := []) (v := .ref (D 7 m)) (M1 := hk M T cs1) rfl rfl iv_0_f227 (Or.inr (Or.inr rfl)) na_6_40 (hF 27 (by decide)) ⟨by omega, by omega⟩ (show (6 : Nat) < 14 by decide) o_40 rfl (show (0 : Nat) ≤ 8 by decide) dc_1_40_31 (mm_Ev_up (by decide : 3 ≤ 6) (k_getL hV1.2.1.2.1.2.2 m (by omega))) ?_
        refine h_cast (t := (11, 0, rl [(6, D 9 m), (5, D 8 m)])) (c := 11) (hSt m (by omega)).1 (hSt m (by omega)).2.1 (show (11 : Nat) < 14 by decide) kr_0_175 rfl dc_1_40_36 ?_
        refine r_astore (ls' := [(4, .ref (D 7 m)), (3, .int (nI m)), (0, .ref 0), (1, .int (nI 7)), (2, .int (nI 0))]) (by decide) rfl dc_1_40_39 ?_
        refine r_aload rfl dc_1_40_41 ?_
        refine h_get (t := (11, 0, rl [(6, D 9 m), (5, D 8 m)])) (v := .int (sg 56 m)) fx_0_204 (hSt m (by omega)).1 (hSt m (by omega)).2.1 (show some (Value.int _) = _ from congrArg (fun z => some (Value.int z)) ((hV1.2.1.2.2.2.2 m (by omega)).2.2.2.1.2.2.2.2.2.2.1)) dc_1_40_43 ?_
        refine r_ifeq (t := 62) (by decide) dc_1_40_46 (fun c_46 => ?_) (fun c_46 => ?_)
        · skip
          refine r_iconst (v := nI 1) (by decide) dc_1_40_62 ?_
          refine r_goto (t := 67) (by decide) dc_1_40_63 ?_
          refine r_istore (ls' := [(5, .int (nI 1)), (4, .ref (D 7 m)), (3, .int (nI m)), (0, .ref 0), (1, .int (nI 7)), (2, .int (nI 0))]) (by decide) rfl dc_1_40_67 ?_
          refine r_iload rfl dc_1_40_69 ?_
          refine r_ifeq (t := 96) (by decide) dc_1_40_71 (fun c_71 => ?_) (fun c_71 => ?_)
          · exact absurd c_71 (by decide)
          · skip
            refine r_aload_n rfl dc_1_40_74 ?_
            refine h_get (t := cT e 0) (v := .ref 28) fx_0_74 (hF 0 (by decide)) ⟨by omega, by omega⟩ (rfl) dc_1_40_75 ?_
            refine h_get (t := cT e 28) (v := .int (nI ((cnA (selM 7 0 sg) m).1))) fx_0_347 (hF 28 (by decide)) ⟨by omega, by omega⟩ (show some (Value.int _) = _ from congrArg (fun z => some (Value.int z)) (hi_m.2.1)) dc_1_40_78 ?_
            refine r_iload_n rfl dc_1_40_81 ?_
            refine r_ncge (t := 96) (by omega) (by omega) (by decide) dc_1_40_82 (fun c_82 => ?_) (fun c_82 => ?_)
            · skip
              have hnc : ¬ chs (selM 7 0 sg) m := fun z => by have := z.2; omega
              refine r_aload rfl dc_1_40_96 ?_
              refine h_get (t := (11, 0, rl [(6, D 9 m), (5, D 8 m)])) (v := .int (sg 56 m)) fx_0_204 (hSt m (by omega)).1 (hSt m (by omega)).2.1 (show some (Value.int _) = _ from congrArg (fun z => some (Value.int z)) ((hV1.2.1.2.2.2.2 m (by omega)).2.2.2.1.2.2.2.2.2.2.1)) dc_1_40_98 ?_
              refine r_iconst (v := nI 1) (by decide) dc_1_40_101 ?_
              refine r_icne (t := 143) (by decide) dc_1_40_102 (fun c_102 => ?_) (fun c_102 => ?_)
              · skip
                refine r_aload rfl dc_1_40_143 ?_
                refine h_get (t := (11, 0, rl [(6, D 9 m), (5, D 8 m)])) (v := .int (sg 56 m)) fx_0_204 (hSt m (by omega)).1 (hSt m (by omega)).2.1 (show some (Value.int _) = _ from congrArg (fun z => some (Value.int z)) ((hV1.2.1.2.2.2.2 m (by omega)).2.2.2.1.2.2.2.2.2.2.1)) dc_1_40_145 ?_
                refine r_iconst (v := nI 3) (by decide) dc_1_40_148 ?_
                refine r_icne (t := 182) (by decide) dc_1_40_149 (fun c_149 => ?_) (fun c_149 => ?_)
                · skip
                  refine r_iinc (n := 3) (k := 1) (x := nI m) (v := nI (m + 1)) (ls' := [(3, .int (nI (m + 1))), (5, .int (nI 1)), (4, .ref (D 7 m)), (0, .ref 0), (1, .int (nI 7)), (2, .int (nI 0))]) rfl (nI_1 _) (by decide) rfl dc_1_40_182 ?_
                  refine r_goto (t := 13) (by decide) dc_1_40_185 ?_
                  refine r_ls [(3, .int (nI (m + 1))), (0, .ref 0), (1, .int (nI 7)), (2, .int (nI 0))] (mm_ndk_of [3, 0, 1, 2] rfl (by decide)) (mm_sub_cons rfl (mm_sub_cons rfl (mm_sub_cons rfl (mm_sub_cons rfl (mm_sub_nil _))))) ?_
                  exact ih_m cs1 (PpI_n hi_m hnc ⟨c_102, c_149⟩)
                · skip
                  obtain ⟨xv, pv, hxv, hpv, e58, e57, -⟩ := (hst9.resolve_left (fun z => z.1.elim (fun y => absurd (c_149.symm.trans y) (by decide)) (fun y => absurd (c_149.symm.trans y) (by decide)))).2
                  by_cases hfw : sg 27 xv = sg 51 m
                  · skip
                    refine r_aload_n rfl dc_1_40_152 ?_
                    refine h_get (t := cT e 0) (v := .ref 28) fx_0_74 (hF 0 (by decide)) ⟨by omega, by omega⟩ (rfl) dc_1_40_153 ?_
                    refine h_get (t := cT e 28) (v := .ref 29) fx_0_352 (hF 28 (by decide)) ⟨by omega, by omega⟩ (rfl) dc_1_40_156 ?_
                    refine r_aload rfl dc_1_40_159 ?_
                    refine h_get (t := (11, 0, rl [(6, D 9 m), (5, D 8 m)])) (v := .int (nI xv)) fx_0_356 (hSt m (by omega)).1 (hSt m (by omega)).2.1 (show some (Value.int _) = _ from congrArg (fun z => some (Value.int z)) (((hV1.2.1.2.2.2.2 m (by omega)).2.2.2.1.2.2.2.2.2.2.2).trans e58)) dc_1_40_161 ?_
                    refine r_aload_n rfl dc_1_40_164 ?_
                    refine r_aload rfl dc_1_40_165 ?_
                    refine h_get (t := (11, 0, rl [(6, D 9 m), (5, D 8 m)])) (v := .int (sg 51 m)) fx_0_264 (hSt m (by omega)).1 (hSt m (by omega)).2.1 (show some (Value.int _) = _ from congrArg (fun z => some (Value.int z)) ((hV1.2.1.2.2.2.2 m (by omega)).2.2.2.1.1)) dc_1_40_167 ?_
                    refine r_aload rfl dc_1_40_170 ?_
                    refine h_get (t := (11, 0, rl [(6, D 9 m), (5, D 8 m)])) (v := .int (nI xv)) fx_0_356 (hSt m (by omega)).1 (hSt m (by omega)).2.1 (show some (Value.int _) = _ from congrArg (fun z => some (Value.int z)) (((hV1.2.1.2.2.2.2 m (by omega)).2.2.2.1.2.2.2.2.2.2.2).trans e58)) dc_1_40_172 ?_
                    refine h_callv (t := cT e 0) (as := [.int (sg 51 m), .int (nI xv)]) (rest := [.int (nI xv), .ref 29]) (v := .int (nI 1)) (M1 := hk M T cs1) rfl rfl iv_0_v359 (Or.inl rfl) na_1_120 (hF 0 (by decide)) ⟨by omega, by omega⟩ (show (0 : Nat) < 14 by decide) o_120 rfl (show (2 : Nat) ≤ 8 by decide) dc_1_40_175 (by rw [← (if_pos hfw : (if sg 27 xv = sg 51 m then nI 1 else -1) = nI 1)]; exact mm_Ev_up (by decide : 5 ≤ 6) (k_wayOf hV1 xv hxv (sg 51 m))) ?_
                    refine r_iconst (v := nI 1) (by decide) dc_1_40_178 ?_
                    refine h_call0 (t := cT e 29) (as := [.int (nI xv), .int (nI 1), .int (nI 1)]) (rest := []) (M1 := hk M T (w1 cs1 35 xv (cs1 35 xv + (nI 1) * nI 1))) rfl rfl iv_0_v367 (Or.inl rfl) na_1_125 (hF 29 (by decide)) ⟨by omega, by omega⟩ (show (8 : Nat) < 14 by decide) o_125 rfl (show (0 : Nat) ≤ 8 by decide) dc_1_40_179 (mm_Ev_up (by decide : 1 ≤ 6) (k_addB M hM T e hF cs1 xv (nI 1) (nI 1) (by omega))) ?_
                    refine r_iinc (n := 3) (k := 1) (x := nI m) (v := nI (m + 1)) (ls' := [(3, .int (nI (m + 1))), (5, .int (nI 1)), (4, .ref (D 7 m)), (0, .ref 0), (1, .int (nI 7)), (2, .int (nI 0))]) rfl (nI_1 _) (by decide) rfl dc_1_40_182 ?_
                    refine r_goto (t := 13) (by decide) dc_1_40_185 ?_
                    refine r_ls [(3, .int (nI (m + 1))), (0, .ref 0), (1, .int (nI 7)), (2, .int (nI 0))] (mm_ndk_of [3, 0, 1, 2] rfl (by decide)) (mm_sub_cons rfl (mm_sub_cons rfl (mm_sub_cons rfl (mm_sub_cons rfl (mm_sub_nil _))))) ?_
                    exact ih_m (w1 cs1 35 xv (cs1 35 xv + (nI 1) * nI 1)) (PpI_b hi_m hnc (fun a ha => by rw [w1_n _ _ _ (by omega)]) (PpB_p3 (pv := pv) hi_m.2.2.2.1 hnc c_149 e58 e57 (by omega) (by omega) hfw))
                  · skip
                    refine r_aload_n rfl dc_1_40_152 ?_
                    refine h_get (t := cT e 0) (v := .ref 28) fx_0_74 (hF 0 (by decide)) ⟨by omega, by omega⟩ (rfl) dc_1_40_153 ?_
                    refine h_get (t := cT e 28) (v := .ref 29) fx_0_352 (hF 28 (by decide)) ⟨by omega, by omega⟩ (rfl) dc_1_40_156 ?_
                    refine r_aload rfl dc_1_40_159 ?_
                    refine h_get (t := (11, 0, rl [(6, D 9 m), (5, D 8 m)])) (v := .int (nI xv)) fx_0_356 (hSt m (by omega)).1 (hSt m (by omega)).2.1 (show some (Value.int _) = _ from congrArg (fun z => some (Value.int z)) (((hV1.2.1.2.2.2.2 m (by omega)).2.2.2.1.2.2.2.2.2.2.2).trans e58)) dc_1_40_161 ?_
                    refine r_aload_n rfl dc_1_40_164 ?_
                    refine r_aload rfl dc_1_40_165 ?_
                    refine h_get (t := (11, 0, rl [(6, D 9 m), (5, D 8 m)])) (v := .int (sg 51 m)) fx_0_264 (hSt m (by omega)).1 (hSt m (by omega)).2.1 (show some (Value.int _) = _ from congrArg (fun z => some (Value.int z)) ((hV1.2.1.2.2.2.2 m (by omega)).2.2.2.1.1)) dc_1_40_167 ?_
                    refine r_aload rfl dc_1_40_170 ?_
                    refine h_get (t := (11, 0, rl [(6, D 9 m), (5, D 8 m)])) (v := .int (nI xv)) fx_0_356 (hSt m (by omega)).1 (hSt m (by omega)).2.1 (show some (Value.int _) = _ from congrArg (fun z => some (Value.int z)) (((hV1.2.1.2.2.2.2 m (by omega)).2.2.2.1.2.2.2.2.2.2.2).trans e58)) dc_1_40_172 ?_
                    refine h_callv (t := cT e 0) (as := [.int (sg 51 m), .int (nI xv)]) (rest := [.int (nI xv), .ref 29]) (v := .int ((-1))) (M1 := hk M T cs1) rfl rfl iv_0_v359 (Or.inl rfl) na_1_120 (hF 0 (by decide)) ⟨by omega, by omega⟩ (show (0 : Nat) < 14 by decide) o_120 rfl (show (2 : Nat) ≤ 8 by decide) dc_1_40_175 (by rw [← (if_neg hfw : (if sg 27 xv = sg 51 m then nI 1 else -1) = -1)]; exact mm_Ev_up (by decide : 5 ≤ 6) (k_wayOf hV1 xv hxv (sg 51 m))) ?_
                    refine r_iconst (v := nI 1) (by decide) dc_1_40_178 ?_
                    refine h_call0 (t := cT e 29) (as := [.int (nI xv), .int ((-1)), .int (nI 1)]) (rest := []) (M1 := hk M T (w1 cs1 35 xv (cs1 35 xv + ((-1)) * nI 1))) rfl rfl iv_0_v367 (Or.inl rfl) na_1_125 (hF 29 (by decide)) ⟨by omega, by omega⟩ (show (8 : Nat) < 14 by decide) o_125 rfl (show (0 : Nat) ≤ 8 by decide) dc_1_40_179 (mm_Ev_up (by decide : 1 ≤ 6) (k_addB M hM T e hF cs1 xv ((-1)) (nI 1) (by omega))) ?_
                    refine r_iinc (n := 3) (k := 1) (x := nI m) (v := nI (m + 1)) (ls' := [(3, .int (nI (m + 1))), (5, .int (nI 1)), (4, .ref (D 7 m)), (0, .ref 0), (1, .int (nI 7)), (2, .int (nI 0))]) rfl (nI_1 _) (by decide) rfl dc_1_40_182 ?_
                    refine r_goto (t := 13) (by decide) dc_1_40_185 ?_
                    refine r_ls [(3, .int (nI (m + 1))), (0, .ref 0), (1, .int (nI 7)), (2, .int (nI 0))] (mm_ndk_of [3, 0, 1, 2] rfl (by decide)) (mm_sub_cons rfl (mm_sub_cons rfl (mm_sub_cons rfl (mm_sub_cons rfl (mm_sub_nil _))))) ?_
                    exact ih_m (w1 cs1 35 xv (cs1 35 xv + ((-1)) * nI 1)) (PpI_b hi_m hnc (fun a ha => by rw [w1_n _ _ _ (by omega)]) (PpB_m3 (pv := pv) hi_m.2.2.2.1 hnc c_149 e58 e57 (by omega) (by omega) hfw))
              · skip
                obtain ⟨xv, pv, hxv, hpv, e58, e57, -⟩ := (hst9.resolve_left (fun z => z.1.elim (fun y => absurd (c_102.symm.trans y) (by decide)) (fun y => absurd (c_102.symm.trans y) (by decide)))).2
                have ehs : hst sg m = nI pv := (if_pos c_102).trans e57
                by_cases hfw : sg 27 xv = sg 51 m
                · skip
                  refine r_aload_n rfl dc_1_40_105 ?_
                  refine h_get (t := cT e 0) (v := .ref 28) fx_0_74 (hF 0 (by decide)) ⟨by omega, by omega⟩ (rfl) dc_1_40_106 ?_
                  refine h_get (t := cT e 28) (v := .ref 29) fx_0_352 (hF 28 (by decide)) ⟨by omega, by omega⟩ (rfl) dc_1_40_109 ?_
                  refine r_aload rfl dc_1_40_112 ?_
                  refine h_get (t := (11, 0, rl [(6, D 9 m), (5, D 8 m)])) (v := .int (nI xv)) fx_0_356 (hSt m (by omega)).1 (hSt m (by omega)).2.1 (show some (Value.int _) = _ from congrArg (fun z => some (Value.int z)) (((hV1.2.1.2.2.2.2 m (by omega)).2.2.2.1.2.2.2.2.2.2.2).trans e58)) dc_1_40_114 ?_
                  refine r_aload rfl dc_1_40_117 ?_
                  refine h_callv (t := (11, 0, rl [(6, D 9 m), (5, D 8 m)])) (as := []) (rest := [.int (nI xv), .ref 29]) (v := .int (nI pv)) (M1 := hk M T cs1) rfl rfl iv_0_v261 (Or.inl rfl) na_1_118 (hSt m (by omega)).1 (hSt m (by omega)).2.1 (show (11 : Nat) < 14 by decide) o_118 rfl (show (2 : Nat) ≤ 8 by decide) dc_1_40_119 (by rw [← ehs]; exact mm_Ev_up (by decide : 2 ≤ 6) (k_host M T cs1 sg D m _ (hV1.2.1.2.2.2.2 m (by omega)) (inN_tN (hRt m (by omega)).2.2.2.2.2.2.1 (by decide)).2)) ?_
                  refine r_aload_n rfl dc_1_40_122 ?_
                  refine r_aload rfl dc_1_40_123 ?_
                  refine h_get (t := (11, 0, rl [(6, D 9 m), (5, D 8 m)])) (v := .int (sg 51 m)) fx_0_264 (hSt m (by omega)).1 (hSt m (by omega)).2.1 (show some (Value.int _) = _ from congrArg (fun z => some (Value.int z)) ((hV1.2.1.2.2.2.2 m (by omega)).2.2.2.1.1)) dc_1_40_125 ?_
                  refine r_aload rfl dc_1_40_128 ?_
                  refine h_get (t := (11, 0, rl [(6, D 9 m), (5, D 8 m)])) (v := .int (nI xv)) fx_0_356 (hSt m (by omega)).1 (hSt m (by omega)).2.1 (show some (Value.int _) = _ from congrArg (fun z => some (Value.int z)) (((hV1.2.1.2.2.2.2 m (by omega)).2.2.2.1.2.2.2.2.2.2.2).trans e58)) dc_1_40_130 ?_
                  refine h_callv (t := cT e 0) (as := [.int (sg 51 m), .int (nI xv)]) (rest := [.int (nI pv), .int (nI xv), .ref 29]) (v := .int (nI 1)) (M1 := hk M T cs1) rfl rfl iv_0_v359 (Or.inl rfl) na_1_120 (hF 0 (by decide)) ⟨by omega, by omega⟩ (show (0 : Nat) < 14 by decide) o_120 rfl (show (3 : Nat) ≤ 8 by decide) dc_1_40_133 (by rw [← (if_pos hfw : (if sg 27 xv = sg 51 m then nI 1 else -1) = nI 1)]; exact mm_Ev_up (by decide : 5 ≤ 6) (k_wayOf hV1 xv hxv (sg 51 m))) ?_
                  refine r_iconst (v := nI 1) (by decide) dc_1_40_136 ?_
                  refine h_call0 (t := cT e 29) (as := [.int (nI xv), .int (nI pv), .int (nI 1), .int (nI 1)]) (rest := []) (M1 := hk M T (w1 (w1 (w1 cs1 36 pv (cs1 36 pv + nI 1)) 33 xv (cs1 33 xv + nI 1)) 35 xv (cs1 35 xv + (nI 1) * nI 1))) rfl rfl iv_0_v362 (Or.inl rfl) na_1_124 (hF 29 (by decide)) ⟨by omega, by omega⟩ (show (8 : Nat) < 14 by decide) o_124 rfl (show (0 : Nat) ≤ 8 by decide) dc_1_40_137 (mm_Ev_up (by decide : 1 ≤ 6) (k_addGp M hM T e hF cs1 xv pv (nI 1) (by omega) (by omega))) ?_
                  refine r_goto (t := 182) (by decide) dc_1_40_140 ?_
                  refine r_iinc (n := 3) (k := 1) (x := nI m) (v := nI (m + 1)) (ls' := [(3, .int (nI (m + 1))), (5, .int (nI 1)), (4, .ref (D 7 m)), (0, .ref 0), (1, .int (nI 7)), (2, .int (nI 0))]) rfl (nI_1 _) (by decide) rfl dc_1_40_182 ?_
                  refine r_goto (t := 13) (by decide) dc_1_40_185 ?_
                  refine r_ls [(3, .int (nI (m + 1))), (0, .ref 0), (1, .int (nI 7)), (2, .int (nI 0))] (mm_ndk_of [3, 0, 1, 2] rfl (by decide)) (mm_sub_cons rfl (mm_sub_cons rfl (mm_sub_cons rfl (mm_sub_cons rfl (mm_sub_nil _))))) ?_
                  exact ih_m (w1 (w1 (w1 cs1 36 pv (cs1 36 pv + nI 1)) 33 xv (cs1 33 xv + nI 1)) 35 xv (cs1 35 xv + (nI 1) * nI 1)) (PpI_b hi_m hnc (fun a ha => by rw [w1_n _ _ _ (by omega), w1_n _ _ _ (by omega), w1_n _ _ _ (by omega)]) (PpB_p1 hi_m.2.2.2.1 hnc c_102 e58 e57 (by omega) (by omega) hfw))
                · skip
                  refine r_aload_n rfl dc_1_40_105 ?_
                  refine h_get (t := cT e 0) (v := .ref 28) fx_0_74 (hF 0 (by decide)) ⟨by omega, by omega⟩ (rfl) dc_1_40_106 ?_
                  refine h_get (t := cT e 28) (v := .ref 29) fx_0_352 (hF 28 (by decide)) ⟨by omega, by omega⟩ (rfl) dc_1_40_109 ?_
                  refine r_aload rfl dc_1_40_112 ?_
                  refine h_get (t := (11, 0, rl [(6, D 9 m), (5, D 8 m)])) (v := .int (nI xv)) fx_0_356 (hSt m (by omega)).1 (hSt m (by omega)).2.1 (show some (Value.int _) = _ from congrArg (fun z => some (Value.int z)) (((hV1.2.1.2.2.2.2 m (by omega)).2.2.2.1.2.2.2.2.2.2.2).trans e58)) dc_1_40_114 ?_
                  refine r_aload rfl dc_1_40_117 ?_
                  refine h_callv (t := (11, 0, rl [(6, D 9 m), (5, D 8 m)])) (as := []) (rest := [.int (nI xv), .ref 29]) (v := .int (nI pv)) (M1 := hk M T cs1) rfl rfl iv_0_v261 (Or.inl rfl) na_1_118 (hSt m (by omega)).1 (hSt m (by omega)).2.1 (show (11 : Nat) < 14 by decide) o_118 rfl (show (2 : Nat) ≤ 8 by decide) dc_1_40_119 (by rw [← ehs]; exact mm_Ev_up (by decide : 2 ≤ 6) (k_host M T cs1 sg D m _ (hV1.2.1.2.2.2.2 m (by omega)) (inN_tN (hRt m (by omega)).2.2.2.2.2.2.1 (by decide)).2)) ?_
                  refine r_aload_n rfl dc_1_40_122 ?_
                  refine r_aload rfl dc_1_40_123 ?_
                  refine h_get (t := (11, 0, rl [(6, D 9 m), (5, D 8 m)])) (v := .int (sg 51 m)) fx_0_264 (hSt m (by omega)).1 (hSt m (by omega)).2.1 (show some (Value.int _) = _ from congrArg (fun z => some (Value.int z)) ((hV1.2.1.2.2.2.2 m (by omega)).2.2.2.1.1)) dc_1_40_125 ?_
                  refine r_aload rfl dc_1_40_128 ?_
                  refine h_get (t := (11, 0, rl [(6, D 9 m), (5, D 8 m)])) (v := .int (nI xv)) fx_0_356 (hSt m (by omega)).1 (hSt m (by omega)).2.1 (show some (Value.int _) = _ from congrArg (fun z => some (Value.int z)) (((hV1.2.1.2.2.2.2 m (by omega)).2.2.2.1.2.2.2.2.2.2.2).trans e58)) dc_1_40_130 ?_
                  refine h_callv (t := cT e 0) (as := [.int (sg 51 m), .int (nI xv)]) (rest := [.int (nI pv), .int (nI xv), .ref 29]) (v := .int ((-1))) (M1 := hk M T cs1) rfl rfl iv_0_v359 (Or.inl rfl) na_1_120 (hF 0 (by decide)) ⟨by omega, by omega⟩ (show (0 : Nat) < 14 by decide) o_120 rfl (show (3 : Nat) ≤ 8 by decide) dc_1_40_133 (by rw [← (if_neg hfw : (if sg 27 xv = sg 51 m then nI 1 else -1) = -1)]; exact mm_Ev_up (by decide : 5 ≤ 6) (k_wayOf hV1 xv hxv (sg 51 m))) ?_
                  refine r_iconst (v := nI 1) (by decide) dc_1_40_136 ?_
                  refine h_call0 (t := cT e 29) (as := [.int (nI xv), .int (nI pv), .int ((-1)), .int (nI 1)]) (rest := []) (M1 := hk M T (w1 (w1 (w1 cs1 36 pv (cs1 36 pv + nI 1)) 34 xv (cs1 34 xv + nI 1)) 35 xv (cs1 35 xv + ((-1)) * nI 1))) rfl rfl iv_0_v362 (Or.inl rfl) na_1_124 (hF 29 (by decide)) ⟨by omega, by omega⟩ (show (8 : Nat) < 14 by decide) o_124 rfl (show (0 : Nat) ≤ 8 by decide) dc_1_40_137 (mm_Ev_up (by decide : 1 ≤ 6) (k_addGm M hM T e hF cs1 xv pv (nI 1) (by omega) (by omega))) ?_
                  refine r_goto (t := 182) (by decide) dc_1_40_140 ?_
                  refine r_iinc (n := 3) (k := 1) (x := nI m) (v := nI (m + 1)) (ls' := [(3, .int (nI (m + 1))), (5, .int (nI 1)), (4, .ref (D 7 m)), (0, .ref 0), (1, .int (nI 7)), (2, .int (nI 0))]) rfl (nI_1 _) (by decide) rfl dc_1_40_182 ?_
                  refine r_goto (t := 13) (by decide) dc_1_40_185 ?_
                  refine r_ls [(3, .int (nI (m + 1))), (0, .ref 0), (1, .int (nI 7)), (2, .int (nI 0))] (mm_ndk_of [3, 0, 1, 2] rfl (by decide)) (mm_sub_cons rfl (mm_sub_cons rfl (mm_sub_cons rfl (mm_sub_cons rfl (mm_sub_nil _))))) ?_
                  exact ih_m (w1 (w1 (w1 cs1 36 pv (cs1 36 pv + nI 1)) 34 xv (cs1 34 xv + nI 1)) 35 xv (cs1 35 xv + ((-1)) * nI 1)) (PpI_b hi_m hnc (fun a ha => by rw [w1_n _ _ _ (by omega), w1_n _ _ _ (by omega), w1_n _ _ _ (by omega)]) (PpB_m1 hi_m.2.2.2.1 hnc c_102 e58 e57 (by omega) (by omega) hfw))
            · skip
              refine r_aload_n rfl dc_1_40_85 ?_
              refine r_iload_n rfl dc_1_40_86 ?_
              refine r_aload rfl dc_1_40_87 ?_
              refine r_iload_n rfl dc_1_40_89 ?_
              obtain ⟨cs3, ⟨hf3, h283, hr3⟩, hev3⟩ := k_addP0 hV1 m (cnA (selM 7 0 sg) m).1 h_m (by omega) hi_m.2.1 my hmy
              refine h_call0 (t := cT e 0) (as := [.int (nI m), .ref (D 7 m), .int (nI 0)]) (rest := []) (M1 := hk M T cs3) rfl rfl iv_0_v348 (Or.inl rfl) na_1_117 (hF 0 (by decide)) ⟨by omega, by omega⟩ (show (0 : Nat) < 14 by decide) o_117 rfl (show (0 : Nat) ≤ 8 by decide) dc_1_40_90 (hev3) ?_
              refine r_goto (t := 182) (by decide) dc_1_40_93 ?_
              refine r_iinc (n := 3) (k := 1) (x := nI m) (v := nI (m + 1)) (ls' := [(3, .int (nI (m + 1))), (5, .int (nI 1)), (4, .ref (D 7 m)), (0, .ref 0), (1, .int (nI 7)), (2, .int (nI 0))]) rfl (nI_1 _) (by decide) rfl dc_1_40_182 ?_
              refine r_goto (t := 13) (by decide) dc_1_40_185 ?_
              refine r_ls [(3, .int (nI (m + 1))), (0, .ref 0), (1, .int (nI 7)), (2, .int (nI 0))] (mm_ndk_of [3, 0, 1, 2] rfl (by decide)) (mm_sub_cons rfl (mm_sub_cons rfl (mm_sub_cons rfl (mm_sub_cons rfl (mm_sub_nil _))))) ?_
              exact ih_m cs3 (PpI_a hi_m ⟨⟨rfl, Or.inl c_46⟩, by omega⟩ hf3 h283 hr3)
        · skip
          refine r_iload_n rfl dc_1_40_49 ?_
          refine r_ifeq (t := 66) (by decide) dc_1_40_50 (fun c_50 => ?_) (fun c_50 => ?_)
          · skip
            refine r_iconst (v := nI 0) (by decide) dc_1_40_66 ?_
            refine r_istore (ls' := [(5, .int (nI 0)), (4, .ref (D 7 m)), (3, .int (nI m)), (0, .ref 0), (1, .int (nI 7)), (2, .int (nI 0))]) (by decide) rfl dc_1_40_67 ?_
            refine r_iload rfl dc_1_40_69 ?_
            refine r_ifeq (t := 96) (by decide) dc_1_40_71 (fun c_71 => ?_) (fun c_71 => ?_)
            · skip
              have hnc : ¬ chs (selM 7 0 sg) m := fun z => z.1.2.elim c_46 (fun y => absurd y.1 (by decide))
              refine r_aload rfl dc_1_40_96 ?_
              refine h_get (t := (11, 0, rl [(6, D 9 m), (5, D 8 m)])) (v := .int (sg 56 m)) fx_0_204 (hSt m (by omega)).1 (hSt m (by omega)).2.1 (show some (Value.int _) = _ from congrArg (fun z => some (Value.int z)) ((hV1.2.1.2.2.2.2 m (by omega)).2.2.2.1.2.2.2.2.2.2.1)) dc_1_40_98 ?_
              refine r_iconst (v := nI 1) (by decide) dc_1_40_101 ?_
              refine r_icne (t := 143) (by decide) dc_1_40_102 (fun c_102 => ?_) (fun c_102 => ?_)
              · skip
                refine r_aload rfl dc_1_40_143 ?_
                refine h_get (t := (11, 0, rl [(6, D 9 m), (5, D 8 m)])) (v := .int (sg 56 m)) fx_0_204 (hSt m (by omega)).1 (hSt m (by omega)).2.1 (show some (Value.int _) = _ from congrArg (fun z => some (Value.int z)) ((hV1.2.1.2.2.2.2 m (by omega)).2.2.2.1.2.2.2.2.2.2.1)) dc_1_40_145 ?_
                refine r_iconst (v := nI 3) (by decide) dc_1_40_148 ?_
                refine r_icne (t := 182) (by decide) dc_1_40_149 (fun c_149 => ?_) (fun c_149 => ?_)
                · skip
                  refine r_iinc (n := 3) (k := 1) (x := nI m) (v := nI (m + 1)) (ls' := [(3, .int (nI (m + 1))), (5, .int (nI 0)), (4, .ref (D 7 m)), (0, .ref 0), (1, .int (nI 7)), (2, .int (nI 0))]) rfl (nI_1 _) (by decide) rfl dc_1_40_182 ?_
                  refine r_goto (t := 13) (by decide) dc_1_40_185 ?_
                  refine r_ls [(3, .int (nI (m + 1))), (0, .ref 0), (1, .int (nI 7)), (2, .int (nI 0))] (mm_ndk_of [3, 0, 1, 2] rfl (by decide)) (mm_sub_cons rfl (mm_sub_cons rfl (mm_sub_cons rfl (mm_sub_cons rfl (mm_sub_nil _))))) ?_
                  exact ih_m cs1 (PpI_n hi_m hnc ⟨c_102, c_149⟩)
                · skip
                  obtain ⟨xv, pv, hxv, hpv, e58, e57, -⟩ := (hst9.resolve_left (fun z => z.1.elim (fun y => absurd (c_149.symm.trans y) (by decide)) (fun y => absurd (c_149.symm.trans y) (by decide)))).2
                  by_cases hfw : sg 27 xv = sg 51 m
                  · skip
                    refine r_aload_n rfl dc_1_40_152 ?_
                    refine h_get (t := cT e 0) (v := .ref 28) fx_0_74 (hF 0 (by decide)) ⟨by omega, by omega⟩ (rfl) dc_1_40_153 ?_
                    refine h_get (t := cT e 28) (v := .ref 29) fx_0_352 (hF 28 (by decide)) ⟨by omega, by omega⟩ (rfl) dc_1_40_156 ?_
                    refine r_aload rfl dc_1_40_159 ?_
                    refine h_get (t := (11, 0, rl [(6, D 9 m), (5, D 8 m)])) (v := .int (nI xv)) fx_0_356 (hSt m (by omega)).1 (hSt m (by omega)).2.1 (show some (Value.int _) = _ from congrArg (fun z => some (Value.int z)) (((hV1.2.1.2.2.2.2 m (by omega)).2.2.2.1.2.2.2.2.2.2.2).trans e58)) dc_1_40_161 ?_
                    refine r_aload_n rfl dc_1_40_164 ?_
                    refine r_aload rfl dc_1_40_165 ?_
                    refine h_get (t := (11, 0, rl [(6, D 9 m), (5, D 8 m)])) (v := .int (sg 51 m)) fx_0_264 (hSt m (by omega)).1 (hSt m (by omega)).2.1 (show some (Value.int _) = _ from congrArg (fun z => some (Value.int z)) ((hV1.2.1.2.2.2.2 m (by omega)).2.2.2.1.1)) dc_1_40_167 ?_
                    refine r_aload rfl dc_1_40_170 ?_
                    refine h_get (t := (11, 0, rl [(6, D 9 m), (5, D 8 m)])) (v := .int (nI xv)) fx_0_356 (hSt m (by omega)).1 (hSt m (by omega)).2.1 (show some (Value.int _) = _ from congrArg (fun z => some (Value.int z)) (((hV1.2.1.2.2.2.2 m (by omega)).2.2.2.1.2.2.2.2.2.2.2).trans e58)) dc_1_40_172 ?_
                    refine h_callv (t := cT e 0) (as := [.int (sg 51 m), .int (nI xv)]) (rest := [.int (nI xv), .ref 29]) (v := .int (nI 1)) (M1 := hk M T cs1) rfl rfl iv_0_v359 (Or.inl rfl) na_1_120 (hF 0 (by decide)) ⟨by omega, by omega⟩ (show (0 : Nat) < 14 by decide) o_120 rfl (show (2 : Nat) ≤ 8 by decide) dc_1_40_175 (by rw [← (if_pos hfw : (if sg 27 xv = sg 51 m then nI 1 else -1) = nI 1)]; exact mm_Ev_up (by decide : 5 ≤ 6) (k_wayOf hV1 xv hxv (sg 51 m))) ?_
                    refine r_iconst (v := nI 1) (by decide) dc_1_40_178 ?_
                    refine h_call0 (t := cT e 29) (as := [.int (nI xv), .int (nI 1), .int (nI 1)]) (rest := []) (M1 := hk M T (w1 cs1 35 xv (cs1 35 xv + (nI 1) * nI 1))) rfl rfl iv_0_v367 (Or.inl rfl) na_1_125 (hF 29 (by decide)) ⟨by omega, by omega⟩ (show (8 : Nat) < 14 by decide) o_125 rfl (show (0 : Nat) ≤ 8 by decide) dc_1_40_179 (mm_Ev_up (by decide : 1 ≤ 6) (k_addB M hM T e hF cs1 xv (nI 1) (nI 1) (by omega))) ?_
                    refine r_iinc (n := 3) (k := 1) (x := nI m) (v := nI (m + 1)) (ls' := [(3, .int (nI (m + 1))), (5, .int (nI 0)), (4, .ref (D 7 m)), (0, .ref 0), (1, .int (nI 7)), (2, .int (nI 0))]) rfl (nI_1 _) (by decide) rfl dc_1_40_182 ?_
                    refine r_goto (t := 13) (by decide) dc_1_40_185 ?_
                    refine r_ls [(3, .int (nI (m + 1))), (0, .ref 0), (1, .int (nI 7)), (2, .int (nI 0))] (mm_ndk_of [3, 0, 1, 2] rfl (by decide)) (mm_sub_cons rfl (mm_sub_cons rfl (mm_sub_cons rfl (mm_sub_cons rfl (mm_sub_nil _))))) ?_
                    exact ih_m (w1 cs1 35 xv (cs1 35 xv + (nI 1) * nI 1)) (PpI_b hi_m hnc (fun a ha => by rw [w1_n _ _ _ (by omega)]) (PpB_p3 (pv := pv) hi_m.2.2.2.1 hnc c_149 e58 e57 (by omega) (by omega) hfw))
                  · skip
                    refine r_aload_n rfl dc_1_40_152 ?_
                    refine h_get (t := cT e 0) (v := .ref 28) fx_0_74 (hF 0 (by decide)) ⟨by omega, by omega⟩ (rfl) dc_1_40_153 ?_
                    refine h_get (t := cT e 28) (v := .ref 29) fx_0_352 (hF 28 (by decide)) ⟨by omega, by omega⟩ (rfl) dc_1_40_156 ?_
                    refine r_aload rfl dc_1_40_159 ?_
                    refine h_get (t := (11, 0, rl [(6, D 9 m), (5, D 8 m)])) (v := .int (nI xv)) fx_0_356 (hSt m (by omega)).1 (hSt m (by omega)).2.1 (show some (Value.int _) = _ from congrArg (fun z => some (Value.int z)) (((hV1.2.1.2.2.2.2 m (by omega)).2.2.2.1.2.2.2.2.2.2.2).trans e58)) dc_1_40_161 ?_
                    refine r_aload_n rfl dc_1_40_164 ?_
                    refine r_aload rfl dc_1_40_165 ?_
                    refine h_get (t := (11, 0, rl [(6, D 9 m), (5, D 8 m)])) (v := .int (sg 51 m)) fx_0_264 (hSt m (by omega)).1 (hSt m (by omega)).2.1 (show some (Value.int _) = _ from congrArg (fun z => some (Value.int z)) ((hV1.2.1.2.2.2.2 m (by omega)).2.2.2.1.1)) dc_1_40_167 ?_
                    refine r_aload rfl dc_1_40_170 ?_
                    refine h_get (t := (11, 0, rl [(6, D 9 m), (5, D 8 m)])) (v := .int (nI xv)) fx_0_356 (hSt m (by omega)).1 (hSt m (by omega)).2.1 (show some (Value.int _) = _ from congrArg (fun z => some (Value.int z)) (((hV1.2.1.2.2.2.2 m (by omega)).2.2.2.1.2.2.2.2.2.2.2).trans e58)) dc_1_40_172 ?_
                    refine h_callv (t := cT e 0) (as := [.int (sg 51 m), .int (nI xv)]) (rest := [.int (nI xv), .ref 29]) (v := .int ((-1))) (M1 := hk M T cs1) rfl rfl iv_0_v359 (Or.inl rfl) na_1_120 (hF 0 (by decide)) ⟨by omega, by omega⟩ (show (0 : Nat) < 14 by decide) o_120 rfl (show (2 : Nat) ≤ 8 by decide) dc_1_40_175 (by rw [← (if_neg hfw : (if sg 27 xv = sg 51 m then nI 1 else -1) = -1)]; exact mm_Ev_up (by decide : 5 ≤ 6) (k_wayOf hV1 xv hxv (sg 51 m))) ?_
                    refine r_iconst (v := nI 1) (by decide) dc_1_40_178 ?_
                    refine h_call0 (t := cT e 29) (as := [.int (nI xv), .int ((-1)), .int (nI 1)]) (rest := []) (M1 := hk M T (w1 cs1 35 xv (cs1 35 xv + ((-1)) * nI 1))) rfl rfl iv_0_v367 (Or.inl rfl) na_1_125 (hF 29 (by decide)) ⟨by omega, by omega⟩ (show (8 : Nat) < 14 by decide) o_125 rfl (show (0 : Nat) ≤ 8 by decide) dc_1_40_179 (mm_Ev_up (by decide : 1 ≤ 6) (k_addB M hM T e hF cs1 xv ((-1)) (nI 1) (by omega))) ?_
                    refine r_iinc (n := 3) (k := 1) (x := nI m) (v := nI (m + 1)) (ls' := [(3, .int (nI (m + 1))), (5, .int (nI 0)), (4, .ref (D 7 m)), (0, .ref 0), (1, .int (nI 7)), (2, .int (nI 0))]) rfl (nI_1 _) (by decide) rfl dc_1_40_182 ?_
                    refine r_goto (t := 13) (by decide) dc_1_40_185 ?_
                    refine r_ls [(3, .int (nI (m + 1))), (0, .ref 0), (1, .int (nI 7)), (2, .int (nI 0))] (mm_ndk_of [3, 0, 1, 2] rfl (by decide)) (mm_sub_cons rfl (mm_sub_cons rfl (mm_sub_cons rfl (mm_sub_cons rfl (mm_sub_nil _))))) ?_
                    exact ih_m (w1 cs1 35 xv (cs1 35 xv + ((-1)) * nI 1)) (PpI_b hi_m hnc (fun a ha => by rw [w1_n _ _ _ (by omega)]) (PpB_m3 (pv := pv) hi_m.2.2.2.1 hnc c_149 e58 e57 (by omega) (by omega) hfw))
              · skip
                obtain ⟨xv, pv, hxv, hpv, e58, e57, -⟩ := (hst9.resolve_left (fun z => z.1.elim (fun y => absurd (c_102.symm.trans y) (by decide)) (fun y => absurd (c_102.symm.trans y) (by decide)))).2
                have ehs : hst sg m = nI pv := (if_pos c_102).trans e57
                by_cases hfw : sg 27 xv = sg 51 m
                · skip
                  refine r_aload_n rfl dc_1_40_105 ?_
                  refine h_get (t := cT e 0) (v := .ref 28) fx_0_74 (hF 0 (by decide)) ⟨by omega, by omega⟩ (rfl) dc_1_40_106 ?_
                  refine h_get (t := cT e 28) (v := .ref 29) fx_0_352 (hF 28 (by decide)) ⟨by omega, by omega⟩ (rfl) dc_1_40_109 ?_
                  refine r_aload rfl dc_1_40_112 ?_
                  refine h_get (t := (11, 0, rl [(6, D 9 m), (5, D 8 m)])) (v := .int (nI xv)) fx_0_356 (hSt m (by omega)).1 (hSt m (by omega)).2.1 (show some (Value.int _) = _ from congrArg (fun z => some (Value.int z)) (((hV1.2.1.2.2.2.2 m (by omega)).2.2.2.1.2.2.2.2.2.2.2).trans e58)) dc_1_40_114 ?_
                  refine r_aload rfl dc_1_40_117 ?_
                  refine h_callv (t := (11, 0, rl [(6, D 9 m), (5, D 8 m)])) (as := []) (rest := [.int (nI xv), .ref 29]) (v := .int (nI pv)) (M1 := hk M T cs1) rfl rfl iv_0_v261 (Or.inl rfl) na_1_118 (hSt m (by omega)).1 (hSt m (by omega)).2.1 (show (11 : Nat) < 14 by decide) o_118 rfl (show (2 : Nat) ≤ 8 by decide) dc_1_40_119 (by rw [← ehs]; exact mm_Ev_up (by decide : 2 ≤ 6) (k_host M T cs1 sg D m _ (hV1.2.1.2.2.2.2 m (by omega)) (inN_tN (hRt m (by omega)).2.2.2.2.2.2.1 (by decide)).2)) ?_
                  refine r_aload_n rfl dc_1_40_122 ?_
                  refine r_aload rfl dc_1_40_123 ?_
                  refine h_get (t := (11, 0, rl [(6, D 9 m), (5, D 8 m)])) (v := .int (sg 51 m)) fx_0_264 (hSt m (by omega)).1 (hSt m (by omega)).2.1 (show some (Value.int _) = _ from congrArg (fun z => some (Value.int z)) ((hV1.2.1.2.2.2.2 m (by omega)).2.2.2.1.1)) dc_1_40_125 ?_
                  refine r_aload rfl dc_1_40_128 ?_
                  refine h_get (t := (11, 0, rl [(6, D 9 m), (5, D 8 m)])) (v := .int (nI xv)) fx_0_356 (hSt m (by omega)).1 (hSt m (by omega)).2.1 (show some (Value.int _) = _ from congrArg (fun z => some (Value.int z)) (((hV1.2.1.2.2.2.2 m (by omega)).2.2.2.1.2.2.2.2.2.2.2).trans e58)) dc_1_40_130 ?_
                  refine h_callv (t := cT e 0) (as := [.int (sg 51 m), .int (nI xv)]) (rest := [.int (nI pv), .int (nI xv), .ref 29]) (v := .int (nI 1)) (M1 := hk M T cs1) rfl rfl iv_0_v359 (Or.inl rfl) na_1_120 (hF 0 (by decide)) ⟨by omega, by omega⟩ (show (0 : Nat) < 14 by decide) o_120 rfl (show (3 : Nat) ≤ 8 by decide) dc_1_40_133 (by rw [← (if_pos hfw : (if sg 27 xv = sg 51 m then nI 1 else -1) = nI 1)]; exact mm_Ev_up (by decide : 5 ≤ 6) (k_wayOf hV1 xv hxv (sg 51 m))) ?_
                  refine r_iconst (v := nI 1) (by decide) dc_1_40_136 ?_
                  refine h_call0 (t := cT e 29) (as := [.int (nI xv), .int (nI pv), .int (nI 1), .int (nI 1)]) (rest := []) (M1 := hk M T (w1 (w1 (w1 cs1 36 pv (cs1 36 pv + nI 1)) 33 xv (cs1 33 xv + nI 1)) 35 xv (cs1 35 xv + (nI 1) * nI 1))) rfl rfl iv_0_v362 (Or.inl rfl) na_1_124 (hF 29 (by decide)) ⟨by omega, by omega⟩ (show (8 : Nat) < 14 by decide) o_124 rfl (show (0 : Nat) ≤ 8 by decide) dc_1_40_137 (mm_Ev_up (by decide : 1 ≤ 6) (k_addGp M hM T e hF cs1 xv pv (nI 1) (by omega) (by omega))) ?_
                  refine r_goto (t := 182) (by decide) dc_1_40_140 ?_
                  refine r_iinc (n := 3) (k := 1) (x := nI m) (v := nI (m + 1)) (ls' := [(3, .int (nI (m + 1))), (5, .int (nI 0)), (4, .ref (D 7 m)), (0, .ref 0), (1, .int (nI 7)), (2, .int (nI 0))]) rfl (nI_1 _) (by decide) rfl dc_1_40_182 ?_
                  refine r_goto (t := 13) (by decide) dc_1_40_185 ?_
                  refine r_ls [(3, .int (nI (m + 1))), (0, .ref 0), (1, .int (nI 7)), (2, .int (nI 0))] (mm_ndk_of [3, 0, 1, 2] rfl (by decide)) (mm_sub_cons rfl (mm_sub_cons rfl (mm_sub_cons rfl (mm_sub_cons rfl (mm_sub_nil _))))) ?_
                  exact ih_m (w1 (w1 (w1 cs1 36 pv (cs1 36 pv + nI 1)) 33 xv (cs1 33 xv + nI 1)) 35 xv (cs1 35 xv + (nI 1) * nI 1)) (PpI_b hi_m hnc (fun a ha => by rw [w1_n _ _ _ (by omega), w1_n _ _ _ (by omega), w1_n _ _ _ (by omega)]) (PpB_p1 hi_m.2.2.2.1 hnc c_102 e58 e57 (by omega) (by omega) hfw))
                · skip
                  refine r_aload_n rfl dc_1_40_105 ?_
                  refine h_get (t := cT e 0) (v := .ref 28) fx_0_74 (hF 0 (by decide)) ⟨by omega, by omega⟩ (rfl) dc_1_40_106 ?_
                  refine h_get (t := cT e 28) (v := .ref 29) fx_0_352 (hF 28 (by decide)) ⟨by omega, by omega⟩ (rfl) dc_1_40_109 ?_
                  refine r_aload rfl dc_1_40_112 ?_
                  refine h_get (t := (11, 0, rl [(6, D 9 m), (5, D 8 m)])) (v := .int (nI xv)) fx_0_356 (hSt m (by omega)).1 (hSt m (by omega)).2.1 (show some (Value.int _) = _ from congrArg (fun z => some (Value.int z)) (((hV1.2.1.2.2.2.2 m (by omega)).2.2.2.1.2.2.2.2.2.2.2).trans e58)) dc_1_40_114 ?_
                  refine r_aload rfl dc_1_40_117 ?_
                  refine h_callv (t := (11, 0, rl [(6, D 9 m), (5, D 8 m)])) (as := []) (rest := [.int (nI xv), .ref 29]) (v := .int (nI pv)) (M1 := hk M T cs1) rfl rfl iv_0_v261 (Or.inl rfl) na_1_118 (hSt m (by omega)).1 (hSt m (by omega)).2.1 (show (11 : Nat) < 14 by decide) o_118 rfl (show (2 : Nat) ≤ 8 by decide) dc_1_40_119 (by rw [← ehs]; exact mm_Ev_up (by decide : 2 ≤ 6) (k_host M T cs1 sg D m _ (hV1.2.1.2.2.2.2 m (by omega)) (inN_tN (hRt m (by omega)).2.2.2.2.2.2.1 (by decide)).2)) ?_
                  refine r_aload_n rfl dc_1_40_122 ?_
                  refine r_aload rfl dc_1_40_123 ?_
                  refine h_get (t := (11, 0, rl [(6, D 9 m), (5, D 8 m)])) (v := .int (sg 51 m)) fx_0_264 (hSt m (by omega)).1 (hSt m (by omega)).2.1 (show some (Value.int _) = _ from congrArg (fun z => some (Value.int z)) ((hV1.2.1.2.2.2.2 m (by omega)).2.2.2.1.1)) dc_1_40_125 ?_
                  refine r_aload rfl dc_1_40_128 ?_
                  refine h_get (t := (11, 0, rl [(6, D 9 m), (5, D 8 m)])) (v := .int (nI xv)) fx_0_356 (hSt m (by omega)).1 (hSt m (by omega)).2.1 (show some (Value.int _) = _ from congrArg (fun z => some (Value.int z)) (((hV1.2.1.2.2.2.2 m (by omega)).2.2.2.1.2.2.2.2.2.2.2).trans e58)) dc_1_40_130 ?_
                  refine h_callv (t := cT e 0) (as := [.int (sg 51 m), .int (nI xv)]) (rest := [.int (nI pv), .int (nI xv), .ref 29]) (v := .int ((-1))) (M1 := hk M T cs1) rfl rfl iv_0_v359 (Or.inl rfl) na_1_120 (hF 0 (by decide)) ⟨by omega, by omega⟩ (show (0 : Nat) < 14 by decide) o_120 rfl (show (3 : Nat) ≤ 8 by decide) dc_1_40_133 (by rw [← (if_neg hfw : (if sg 27 xv = sg 51 m then nI 1 else -1) = -1)]; exact mm_Ev_up (by decide : 5 ≤ 6) (k_wayOf hV1 xv hxv (sg 51 m))) ?_
                  refine r_iconst (v := nI 1) (by decide) dc_1_40_136 ?_
                  refine h_call0 (t := cT e 29) (as := [.int (nI xv), .int (nI pv), .int ((-1)), .int (nI 1)]) (rest := []) (M1 := hk M T (w1 (w1 (w1 cs1 36 pv (cs1 36 pv + nI 1)) 34 xv (cs1 34 xv + nI 1)) 35 xv (cs1 35 xv + ((-1)) * nI 1))) rfl rfl iv_0_v362 (Or.inl rfl) na_1_124 (hF 29 (by decide)) ⟨by omega, by omega⟩ (show (8 : Nat) < 14 by decide) o_124 rfl (show (0 : Nat) ≤ 8 by decide) dc_1_40_137 (mm_Ev_up (by decide : 1 ≤ 6) (k_addGm M hM T e hF cs1 xv pv (nI 1) (by omega) (by omega))) ?_
                  refine r_goto (t := 182) (by decide) dc_1_40_140 ?_
                  refine r_iinc (n := 3) (k := 1) (x := nI m) (v := nI (m + 1)) (ls' := [(3, .int (nI (m + 1))), (5, .int (nI 0)), (4, .ref (D 7 m)), (0, .ref 0), (1, .int (nI 7)), (2, .int (nI 0))]) rfl (nI_1 _) (by decide) rfl dc_1_40_182 ?_
                  refine r_goto (t := 13) (by decide) dc_1_40_185 ?_
                  refine r_ls [(3, .int (nI (m + 1))), (0, .ref 0), (1, .int (nI 7)), (2, .int (nI 0))] (mm_ndk_of [3, 0, 1, 2] rfl (by decide)) (mm_sub_cons rfl (mm_sub_cons rfl (mm_sub_cons rfl (mm_sub_cons rfl (mm_sub_nil _))))) ?_
                  exact ih_m (w1 (w1 (w1 cs1 36 pv (cs1 36 pv + nI 1)) 34 xv (cs1 34 xv + nI 1)) 35 xv (cs1 35 xv + ((-1)) * nI 1)) (PpI_b hi_m hnc (fun a ha => by rw [w1_n _ _ _ (by omega), w1_n _ _ _ (by omega), w1_n _ _ _ (by omega)]) (PpB_m1 hi_m.2.2.2.1 hnc c_102 e58 e57 (by omega) (by omega) hfw))
            · exact absurd c_71 (by decide)
          · exact absurd c_50 (by decide)
  obtain ⟨z9, ⟨cs1, p9, e9⟩, h9⟩ := hq9
  subst e9
  exact ⟨cs1, p9, h9⟩
set_option maxHeartbeats 4000000 in
theorem k_prep71 {M : mH} {T : Nat → mT} {cs sg : Nat → Nat → Int32} {io : Nat → Int32} {e : Nat → Nat} {D : Nat → Nat → Nat} {nh nx ns nf ny tp : Nat} {cm : Nat → Nat} {w : Nat → Nat → Nat} {cn : Nat → Nat} {wc : Nat → Nat → Nat} (hV : CV M T cs io sg e D nh nx ns nf ny tp cm w cn wc) (my : Nat → Nat → Int32) (hmy : my = (fun s k => sp_mby io sg cm w nx s (sg 60 (4 * s + k)))) : ∃ (cs1 : Nat → Nat → Int32), (PpI D cs cs1 io (selM 7 1 sg) 1 sg my nh nx ns) ∧ mm_Ev 7 111 [.ref 0, .int (nI 7), .int (nI 1)] (hk M T cs) ((none, hk M T cs1)) := by
  have hq9 : ∃ z, (fun r9 => ∃ (cs1 : Nat → Nat → Int32), (PpI D cs cs1 io (selM 7 1 sg) 1 sg my nh nx ns) ∧ r9 = ((none, hk M T cs1))) z ∧ mm_Ev 7 111 [.ref 0, .int (nI 7), .int (nI 1)] (hk M T cs) z := by
    obtain ⟨⟨hM, hMs, hW⟩, hC, hT, hR, hJ⟩ := id hV
    obtain ⟨hF, ⟨hL0, hL1, hL2⟩, hSc, hAg, hSt⟩ := id hC
    obtain ⟨⟨⟨h3, hnh⟩, ⟨h4, hnx⟩, ⟨h5, hns⟩, ⟨h7, hnf⟩, ⟨h6, hny⟩, ⟨h23, htp⟩⟩, hRa, hRb, hRs, hRs2, hRs3, hRx, hCD, hRt, hRt2, hRf⟩ := id hR
    refine r_evQ (by decide +kernel) (show (3 : Nat) ≤ mm_nL 111 by decide +kernel) ?_
    show mm_Ru 6 (0, 6, false, prog_1_method_40_code, none) 0 [(0, .ref 0), (1, .int (nI 7)), (2, .int (nI 1))] [] (hk M T cs) (fun r9 => ∃ (cs1 : Nat → Nat → Int32), (PpI D cs cs1 io (selM 7 1 sg) 1 sg my nh nx ns) ∧ r9 = ((none, hk M T cs1)))
    refine r_aload_n rfl dc_1_40_0 ?_
    refine h_get (t := cT e 0) (v := .ref 28) fx_0_74 (hF 0 (by decide)) ⟨by omega, by omega⟩ (rfl) dc_1_40_1 ?_
    obtain ⟨csa, ⟨hba, hsa, hfa, -⟩, heva⟩ := k_pclear M hM T e hF cs
    have hVa : CV M T csa io sg e D nh nx ns nf ny tp cm w cn wc := CV_f hV (fun a h1 _ => hfa a (by omega))
    refine h_call0 (t := cT e 28) (as := []) (rest := []) (M1 := hk M T csa) rfl rfl iv_0_v343 (Or.inl rfl) na_1_112 (hF 28 (by decide)) ⟨by omega, by omega⟩ (show (7 : Nat) < 14 by decide) o_112 rfl (show (0 : Nat) ≤ 8 by decide) dc_1_40_4 (mm_Ev_up (by decide : 3 ≤ 6) (heva)) ?_
    refine r_aload_n rfl dc_1_40_7 ?_
    obtain ⟨csb, ⟨hfb, hb1, hb2, hb3⟩, hevb⟩ := k_setB hVa hba
    have hVb := CV_f hVa (FrB_C hfb)
    have hI0 : PpI D cs csb io (selM 7 1 sg) 1 sg my nh nx 0 := ⟨fun a h1 _ => (hfb a (by omega)).trans (hfa a (by omega)), by rw [hfb 28 (by decide)]; exact hsa, fun i hi => absurd hi (Nat.not_lt_zero i), ⟨fun x hx => by rw [hfb 33 (by decide), hfb 34 (by decide), hfb 35 (by decide)]; exact ⟨(hba.1 x hx).2.2.1, (hba.1 x hx).2.2.2.1, (hba.1 x hx).2.2.2.2⟩, fun h hh => by rw [hfb 36 (by decide)]; exact (hba.2 h hh).2⟩, hb1, hb2, hb3⟩
    refine h_call0 (t := cT e 0) (as := []) (rest := []) (M1 := hk M T csb) rfl rfl iv_0_v344 (Or.inl rfl) na_1_114 (hF 0 (by decide)) ⟨by omega, by omega⟩ (show (0 : Nat) < 14 by decide) o_114 rfl (show (0 : Nat) ≤ 8 by decide) dc_1_40_8 (mm_Ev_up (by decide : 5 ≤ 6) (hevb)) ?_
    refine r_iconst (v := nI 0) (by decide) dc_1_40_11 ?_
    refine r_istore_n (ls' := [(3, .int (nI 0)), (0, .ref 0), (1, .int (nI 7)), (2, .int (nI 1))]) (by decide) rfl dc_1_40_12 ?_
    refine mm_cnt (P := fun m => ∀ (cs1 : Nat → Nat → Int32), (PpI D cs cs1 io (selM 7 1 sg) 1 sg my nh nx m) → mm_Ru 6 (0, 6, false, prog_1_method_40_code, none) 13 [(3, .int (nI m)), (0, .ref 0), (1, .int (nI 7)), (2, .int (nI 1))] [] (hk M T cs1) (fun r9 => ∃ (cs1 : Nat → Nat → Int32), (PpI D cs cs1 io (selM 7 1 sg) 1 sg my nh nx ns) ∧ r9 = ((none, hk M T cs1)))) ns ?_ ?_ 0 (by omega) csb (hI0)
    · intro  cs1 hi_m
      show mm_Ru 6 (0, 6, false, prog_1_method_40_code, none) 13 [(3, .int (nI ns)), (0, .ref 0), (1, .int (nI 7)), (2, .int (nI 1))] [] (hk M T cs1) (fun r9 => ∃ (cs1 : Nat → Nat → Int32), (PpI D cs cs1 io (selM 7 1 sg) 1 sg my nh nx ns) ∧ r9 = ((none, hk M T cs1)))
      have hV1 := CV_f hV hi_m.1
      refine r_iload_n rfl dc_1_40_13 ?_
      refine r_aload_n rfl dc_1_40_14 ?_
      refine h_get (t := cT e 0) (v := .ref 27) fx_0_68 (hF 0 (by decide)) ⟨by omega, by omega⟩ (rfl) dc_1_40_15 ?_
      refine h_callv (t := cT e 27) (as := []) (rest := [.int (nI ns)]) (v := .int (nI ns)) (M1 := hk M T cs1) rfl rfl iv_0_f113 (Or.inr (Or.inr rfl)) na_6_26 (hF 27 (by decide)) ⟨by omega, by omega⟩ (show (6 : Nat) < 14 by decide) o_26 rfl (show (1 : Nat) ≤ 8 by decide) dc_1_40_18 (mm_Ev_up (by decide : 1 ≤ 6) (k_sizeL hV1.2.1.2.1.2.2)) ?_
      refine r_ncge (t := 188) (by omega) (by omega) (by decide) dc_1_40_23 (fun c_23 => ?_) (fun c_23 => ?_)
      · skip
        refine r_vret rfl dc_1_40_188 ?_
        exact ⟨cs1, hi_m, rfl⟩
      · omega
    · intro m h_m ih_m  cs1 hi_m
      have hV1 := CV_f hV hi_m.1
      have hcl := cnA_le (selM 7 1 sg) m
      have hst9 := (hRt m h_m).2.2.2.2.2.2.2.2.2
      show mm_Ru 6 (0, 6, false, prog_1_method_40_code, none) 13 [(3, .int (nI m)), (0, .ref 0), (1, .int (nI 7)), (2, .int (nI 1))] [] (hk M T cs1) (fun r9 => ∃ (cs1 : Nat → Nat → Int32), (PpI D cs cs1 io (selM 7 1 sg) 1 sg my nh nx ns) ∧ r9 = ((none, hk M T cs1)))
      refine r_iload_n rfl dc_1_40_13 ?_
      refine r_aload_n rfl dc_1_40_14 ?_
      refine h_get (t := cT e 0) (v := .ref 27) fx_0_68 (hF 0 (by decide)) ⟨by omega, by omega⟩ (rfl) dc_1_40_15 ?_
      refine h_callv (t := cT e 27) (as := []) (rest := [.int (nI m)]) (v := .int (nI ns)) (M1 := hk M T cs1) rfl rfl iv_0_f113 (Or.inr (Or.inr rfl)) na_6_26 (hF 27 (by decide)) ⟨by omega, by omega⟩ (show (6 : Nat) < 14 by decide) o_26 rfl (show (1 : Nat) ≤ 8 by decide) dc_1_40_18 (mm_Ev_up (by decide : 1 ≤ 6) (k_sizeL hV1.2.1.2.1.2.2)) ?_
      refine r_ncge (t := 188) (by omega) (by omega) (by decide) dc_1_40_23 (fun c_23 => ?_) (fun c_23 => ?_)
      · omega
      · skip
        refine r_aload_n rfl dc_1_40_26 ?_
        refine h_get (t := cT e 0) (v := .ref 27) fx_0_68 (hF 0 (by decide)) ⟨by omega, by omega⟩ (rfl) dc_1_40_27 ?_
        refine r_iload_n rfl dc_1_40_30 ?_
        refine h_callv (t := cT e 27) (as := [.int (nI m)]) (rest := []) (v := .ref (D 7 m)) (M1 := hk M T cs1) rfl rfl iv_0_f227 (Or.inr (Or.inr rfl)) na_6_40 (hF 27 (by decide)) ⟨by omega, by omega⟩ (show (6 : Nat) < 14 by decide) o_40 rfl (show (0 : Nat) ≤ 8 by decide) dc_1_40_31 (mm_Ev_up (by decide : 3 ≤ 6) (k_getL hV1.2.1.2.1.2.2 m (by omega))) ?_
        refine h_cast (t := (11, 0, rl [(6, D 9 m), (5, D 8 m)])) (c := 11) (hSt m (by omega)).1 (hSt m (by omega)).2.1 (show (11 : Nat) < 14 by decide) kr_0_175 rfl dc_1_40_36 ?_
        refine r_astore (ls' := [(4, .ref (D 7 m)), (3, .int (nI m)), (0, .ref 0), (1, .int (nI 7)), (2, .int (nI 1))]) (by decide) rfl dc_1_40_39 ?_
        refine r_aload rfl dc_1_40_41 ?_
        refine h_get (t := (11, 0, rl [(6, D 9 m), (5, D 8 m)])) (v := .int (sg 56 m)) fx_0_204 (hSt m (by omega)).1 (hSt m (by omega)).2.1 (show some (Value.int _) = _ from congrArg (fun z => some (Value.int z)) ((hV1.2.1.2.2.2.2 m (by omega)).2.2.2.1.2.2.2.2.2.2.1)) dc_1_40_43 ?_
        refine r_ifeq (t := 62) (by decide) dc_1_40_46 (fun c_46 => ?_) (fun c_46 => ?_)
        · skip
          refine r_iconst (v := nI 1) (by decide) dc_1_40_62 ?_
          refine r_goto (t := 67) (by decide) dc_1_40_63 ?_
          refine r_istore (ls' := [(5, .int (nI 1)), (4, .ref (D 7 m)), (3, .int (nI m)), (0, .ref 0), (1, .int (nI 7)), (2, .int (nI 1))]) (by decide) rfl dc_1_40_67 ?_
          refine r_iload rfl dc_1_40_69 ?_
          refine r_ifeq (t := 96) (by decide) dc_1_40_71 (fun c_71 => ?_) (fun c_71 => ?_)
          · exact absurd c_71 (by decide)
          · skip
            refine r_aload_n rfl dc_1_40_74 ?_
            refine h_get (t := cT e 0) (v := .ref 28) fx_0_74 (hF 0 (by decide)) ⟨by omega, by omega⟩ (rfl) dc_1_40_75 ?_
            refine h_get (t := cT e 28) (v := .int (nI ((cnA (selM 7 1 sg) m).1))) fx_0_347 (hF 28 (by decide)) ⟨by omega, by omega⟩ (show some (Value.int _) = _ from congrArg (fun z => some (Value.int z)) (hi_m.2.1)) dc_1_40_78 ?_
            refine r_iload_n rfl dc_1_40_81 ?_
            refine r_ncge (t := 96) (by omega) (by omega) (by decide) dc_1_40_82 (fun c_82 => ?_) (fun c_82 => ?_)
            · skip
              have hnc : ¬ chs (selM 7 1 sg) m := fun z => by have := z.2; omega
              refine r_aload rfl dc_1_40_96 ?_
              refine h_get (t := (11, 0, rl [(6, D 9 m), (5, D 8 m)])) (v := .int (sg 56 m)) fx_0_204 (hSt m (by omega)).1 (hSt m (by omega)).2.1 (show some (Value.int _) = _ from congrArg (fun z => some (Value.int z)) ((hV1.2.1.2.2.2.2 m (by omega)).2.2.2.1.2.2.2.2.2.2.1)) dc_1_40_98 ?_
              refine r_iconst (v := nI 1) (by decide) dc_1_40_101 ?_
              refine r_icne (t := 143) (by decide) dc_1_40_102 (fun c_102 => ?_) (fun c_102 => ?_)
              · skip
                refine r_aload rfl dc_1_40_143 ?_
                refine h_get (t := (11, 0, rl [(6, D 9 m), (5, D 8 m)])) (v := .int (sg 56 m)) fx_0_204 (hSt m (by omega)).1 (hSt m (by omega)).2.1 (show some (Value.int _) = _ from congrArg (fun z => some (Value.int z)) ((hV1.2.1.2.2.2.2 m (by omega)).2.2.2.1.2.2.2.2.2.2.1)) dc_1_40_145 ?_
                refine r_iconst (v := nI 3) (by decide) dc_1_40_148 ?_
                refine r_icne (t := 182) (by decide) dc_1_40_149 (fun c_149 => ?_) (fun c_149 => ?_)
                · skip
                  refine r_iinc (n := 3) (k := 1) (x := nI m) (v := nI (m + 1)) (ls' := [(3, .int (nI (m + 1))), (5, .int (nI 1)), (4, .ref (D 7 m)), (0, .ref 0), (1, .int (nI 7)), (2, .int (nI 1))]) rfl (nI_1 _) (by decide) rfl dc_1_40_182 ?_
                  refine r_goto (t := 13) (by decide) dc_1_40_185 ?_
                  refine r_ls [(3, .int (nI (m + 1))), (0, .ref 0), (1, .int (nI 7)), (2, .int (nI 1))] (mm_ndk_of [3, 0, 1, 2] rfl (by decide)) (mm_sub_cons rfl (mm_sub_cons rfl (mm_sub_cons rfl (mm_sub_cons rfl (mm_sub_nil _))))) ?_
                  exact ih_m cs1 (PpI_n hi_m hnc ⟨c_102, c_149⟩)
                · skip
                  obtain ⟨xv, pv, hxv, hpv, e58, e57, -⟩ := (hst9.resolve_left (fun z => z.1.elim (fun y => absurd (c_149.symm.trans y) (by decide)) (fun y => absurd (c_149.symm.trans y) (by decide)))).2
                  by_cases hfw : sg 27 xv = sg 51 m
                  · skip
                    refine r_aload_n rfl dc_1_40_152 ?_
                    refine h_get (t := cT e 0) (v := .ref 28) fx_0_74 (hF 0 (by decide)) ⟨by omega, by omega⟩ (rfl) dc_1_40_153 ?_
                    refine h_get (t := cT e 28) (v := .ref 29) fx_0_352 (hF 28 (by decide)) ⟨by omega, by omega⟩ (rfl) dc_1_40_156 ?_
                    refine r_aload rfl dc_1_40_159 ?_
                    refine h_get (t := (11, 0, rl [(6, D 9 m), (5, D 8 m)])) (v := .int (nI xv)) fx_0_356 (hSt m (by omega)).1 (hSt m (by omega)).2.1 (show some (Value.int _) = _ from congrArg (fun z => some (Value.int z)) (((hV1.2.1.2.2.2.2 m (by omega)).2.2.2.1.2.2.2.2.2.2.2).trans e58)) dc_1_40_161 ?_
                    refine r_aload_n rfl dc_1_40_164 ?_
                    refine r_aload rfl dc_1_40_165 ?_
                    refine h_get (t := (11, 0, rl [(6, D 9 m), (5, D 8 m)])) (v := .int (sg 51 m)) fx_0_264 (hSt m (by omega)).1 (hSt m (by omega)).2.1 (show some (Value.int _) = _ from congrArg (fun z => some (Value.int z)) ((hV1.2.1.2.2.2.2 m (by omega)).2.2.2.1.1)) dc_1_40_167 ?_
                    refine r_aload rfl dc_1_40_170 ?_
                    refine h_get (t := (11, 0, rl [(6, D 9 m), (5, D 8 m)])) (v := .int (nI xv)) fx_0_356 (hSt m (by omega)).1 (hSt m (by omega)).2.1 (show some (Value.int _) = _ from congrArg (fun z => some (Value.int z)) (((hV1.2.1.2.2.2.2 m (by omega)).2.2.2.1.2.2.2.2.2.2.2).trans e58)) dc_1_40_172 ?_
                    refine h_callv (t := cT e 0) (as := [.int (sg 51 m), .int (nI xv)]) (rest := [.int (nI xv), .ref 29]) (v := .int (nI 1)) (M1 := hk M T cs1) rfl rfl iv_0_v359 (Or.inl rfl) na_1_120 (hF 0 (by decide)) ⟨by omega, by omega⟩ (show (0 : Nat) < 14 by decide) o_120 rfl (show (2 : Nat) ≤ 8 by decide) dc_1_40_175 (by rw [← (if_pos hfw : (if sg 27 xv = sg 51 m then nI 1 else -1) = nI 1)]; exact mm_Ev_up (by decide : 5 ≤ 6) (k_wayOf hV1 xv hxv (sg 51 m))) ?_
                    refine r_iconst (v := nI 1) (by decide) dc_1_40_178 ?_
                    refine h_call0 (t := cT e 29) (as := [.int (nI xv), .int (nI 1), .int (nI 1)]) (rest := []) (M1 := hk M T (w1 cs1 35 xv (cs1 35 xv + (nI 1) * nI 1))) rfl rfl iv_0_v367 (Or.inl rfl) na_1_125 (hF 29 (by decide)) ⟨by omega, by omega⟩ (show (8 : Nat) < 14 by decide) o_125 rfl (show (0 : Nat) ≤ 8 by decide) dc_1_40_179 (mm_Ev_up (by decide : 1 ≤ 6) (k_addB M hM T e hF cs1 xv (nI 1) (nI 1) (by omega))) ?_
                    refine r_iinc (n := 3) (k := 1) (x := nI m) (v := nI (m + 1)) (ls' := [(3, .int (nI (m + 1))), (5, .int (nI 1)), (4, .ref (D 7 m)), (0, .ref 0), (1, .int (nI 7)), (2, .int (nI 1))]) rfl (nI_1 _) (by decide) rfl dc_1_40_182 ?_
                    refine r_goto (t := 13) (by decide) dc_1_40_185 ?_
                    refine r_ls [(3, .int (nI (m + 1))), (0, .ref 0), (1, .int (nI 7)), (2, .int (nI 1))] (mm_ndk_of [3, 0, 1, 2] rfl (by decide)) (mm_sub_cons rfl (mm_sub_cons rfl (mm_sub_cons rfl (mm_sub_cons rfl (mm_sub_nil _))))) ?_
                    exact ih_m (w1 cs1 35 xv (cs1 35 xv + (nI 1) * nI 1)) (PpI_b hi_m hnc (fun a ha => by rw [w1_n _ _ _ (by omega)]) (PpB_p3 (pv := pv) hi_m.2.2.2.1 hnc c_149 e58 e57 (by omega) (by omega) hfw))
                  · skip
                    refine r_aload_n rfl dc_1_40_152 ?_
                    refine h_get (t := cT e 0) (v := .ref 28) fx_0_74 (hF 0 (by decide)) ⟨by omega, by omega⟩ (rfl) dc_1_40_153 ?_
                    refine h_get (t := cT e 28) (v := .ref 29) fx_0_352 (hF 28 (by decide)) ⟨by omega, by omega⟩ (rfl) dc_1_40_156 ?_
                    refine r_aload rfl dc_1_40_159 ?_
                    refine h_get (t := (11, 0, rl [(6, D 9 m), (5, D 8 m)])) (v := .int (nI xv)) fx_0_356 (hSt m (by omega)).1 (hSt m (by omega)).2.1 (show some (Value.int _) = _ from congrArg (fun z => some (Value.int z)) (((hV1.2.1.2.2.2.2 m (by omega)).2.2.2.1.2.2.2.2.2.2.2).trans e58)) dc_1_40_161 ?_
                    refine r_aload_n rfl dc_1_40_164 ?_
                    refine r_aload rfl dc_1_40_165 ?_
                    refine h_get (t := (11, 0, rl [(6, D 9 m), (5, D 8 m)])) (v := .int (sg 51 m)) fx_0_264 (hSt m (by omega)).1 (hSt m (by omega)).2.1 (show some (Value.int _) = _ from congrArg (fun z => some (Value.int z)) ((hV1.2.1.2.2.2.2 m (by omega)).2.2.2.1.1)) dc_1_40_167 ?_
                    refine r_aload rfl dc_1_40_170 ?_
                    refine h_get (t := (11, 0, rl [(6, D 9 m), (5, D 8 m)])) (v := .int (nI xv)) fx_0_356 (hSt m (by omega)).1 (hSt m (by omega)).2.1 (show some (Value.int _) = _ from congrArg (fun z => some (Value.int z)) (((hV1.2.1.2.2.2.2 m (by omega)).2.2.2.1.2.2.2.2.2.2.2).trans e58)) dc_1_40_172 ?_
                    refine h_callv (t := cT e 0) (as := [.int (sg 51 m), .int (nI xv)]) (rest := [.int (nI xv), .ref 29]) (v := .int ((-1))) (M1 := hk M T cs1) rfl rfl iv_0_v359 (Or.inl rfl) na_1_120 (hF 0 (by decide)) ⟨by omega, by omega⟩ (show (0 : Nat) < 14 by decide) o_120 rfl (show (2 : Nat) ≤ 8 by decide) dc_1_40_175 (by rw [← (if_neg hfw : (if sg 27 xv = sg 51 m then nI 1 else -1) = -1)]; exact mm_Ev_up (by decide : 5 ≤ 6) (k_wayOf hV1 xv hxv (sg 51 m))) ?_
                    refine r_iconst (v := nI 1) (by decide) dc_1_40_178 ?_
                    refine h_call0 (t := cT e 29) (as := [.int (nI xv), .int ((-1)), .int (nI 1)]) (rest := []) (M1 := hk M T (w1 cs1 35 xv (cs1 35 xv + ((-1)) * nI 1))) rfl rfl iv_0_v367 (Or.inl rfl) na_1_125 (hF 29 (by decide)) ⟨by omega, by omega⟩ (show (8 : Nat) < 14 by decide) o_125 rfl (show (0 : Nat) ≤ 8 by decide) dc_1_40_179 (mm_Ev_up (by decide : 1 ≤ 6) (k_addB M hM T e hF cs1 xv ((-1)) (nI 1) (by omega))) ?_
                    refine r_iinc (n := 3) (k := 1) (x := nI m) (v := nI (m + 1)) (ls' := [(3, .int (nI (m + 1))), (5, .int (nI 1)), (4, .ref (D 7 m)), (0, .ref 0), (1, .int (nI 7)), (2, .int (nI 1))]) rfl (nI_1 _) (by decide) rfl dc_1_40_182 ?_
                    refine r_goto (t := 13) (by decide) dc_1_40_185 ?_
                    refine r_ls [(3, .int (nI (m + 1))), (0, .ref 0), (1, .int (nI 7)), (2, .int (nI 1))] (mm_ndk_of [3, 0, 1, 2] rfl (by decide)) (mm_sub_cons rfl (mm_sub_cons rfl (mm_sub_cons rfl (mm_sub_cons rfl (mm_sub_nil _))))) ?_
                    exact ih_m (w1 cs1 35 xv (cs1 35 xv + ((-1)) * nI 1)) (PpI_b hi_m hnc (fun a ha => by rw [w1_n _ _ _ (by omega)]) (PpB_m3 (pv := pv) hi_m.2.2.2.1 hnc c_149 e58 e57 (by omega) (by omega) hfw))
              · skip
                obtain ⟨xv, pv, hxv, hpv, e58, e57, -⟩ := (hst9.resolve_left (fun z => z.1.elim (fun y => absurd (c_102.symm.trans y) (by decide)) (fun y => absurd (c_102.symm.trans y) (by decide)))).2
                have ehs : hst sg m = nI pv := (if_pos c_102).trans e57
                by_cases hfw : sg 27 xv = sg 51 m
                · skip
                  refine r_aload_n rfl dc_1_40_105 ?_
                  refine h_get (t := cT e 0) (v := .ref 28) fx_0_74 (hF 0 (by decide)) ⟨by omega, by omega⟩ (rfl) dc_1_40_106 ?_
                  refine h_get (t := cT e 28) (v := .ref 29) fx_0_352 (hF 28 (by decide)) ⟨by omega, by omega⟩ (rfl) dc_1_40_109 ?_
                  refine r_aload rfl dc_1_40_112 ?_
                  refine h_get (t := (11, 0, rl [(6, D 9 m), (5, D 8 m)])) (v := .int (nI xv)) fx_0_356 (hSt m (by omega)).1 (hSt m (by omega)).2.1 (show some (Value.int _) = _ from congrArg (fun z => some (Value.int z)) (((hV1.2.1.2.2.2.2 m (by omega)).2.2.2.1.2.2.2.2.2.2.2).trans e58)) dc_1_40_114 ?_
                  refine r_aload rfl dc_1_40_117 ?_
                  refine h_callv (t := (11, 0, rl [(6, D 9 m), (5, D 8 m)])) (as := []) (rest := [.int (nI xv), .ref 29]) (v := .int (nI pv)) (M1 := hk M T cs1) rfl rfl iv_0_v261 (Or.inl rfl) na_1_118 (hSt m (by omega)).1 (hSt m (by omega)).2.1 (show (11 : Nat) < 14 by decide) o_118 rfl (show (2 : Nat) ≤ 8 by decide) dc_1_40_119 (by rw [← ehs]; exact mm_Ev_up (by decide : 2 ≤ 6) (k_host M T cs1 sg D m _ (hV1.2.1.2.2.2.2 m (by omega)) (inN_tN (hRt m (by omega)).2.2.2.2.2.2.1 (by decide)).2)) ?_
                  refine r_aload_n rfl dc_1_40_122 ?_
                  refine r_aload rfl dc_1_40_123 ?_
                  refine h_get (t := (11, 0, rl [(6, D 9 m), (5, D 8 m)])) (v := .int (sg 51 m)) fx_0_264 (hSt m (by omega)).1 (hSt m (by omega)).2.1 (show some (Value.int _) = _ from congrArg (fun z => some (Value.int z)) ((hV1.2.1.2.2.2.2 m (by omega)).2.2.2.1.1)) dc_1_40_125 ?_
                  refine r_aload rfl dc_1_40_128 ?_
                  refine h_get (t := (11, 0, rl [(6, D 9 m), (5, D 8 m)])) (v := .int (nI xv)) fx_0_356 (hSt m (by omega)).1 (hSt m (by omega)).2.1 (show some (Value.int _) = _ from congrArg (fun z => some (Value.int z)) (((hV1.2.1.2.2.2.2 m (by omega)).2.2.2.1.2.2.2.2.2.2.2).trans e58)) dc_1_40_130 ?_
                  refine h_callv (t := cT e 0) (as := [.int (sg 51 m), .int (nI xv)]) (rest := [.int (nI pv), .int (nI xv), .ref 29]) (v := .int (nI 1)) (M1 := hk M T cs1) rfl rfl iv_0_v359 (Or.inl rfl) na_1_120 (hF 0 (by decide)) ⟨by omega, by omega⟩ (show (0 : Nat) < 14 by decide) o_120 rfl (show (3 : Nat) ≤ 8 by decide) dc_1_40_133 (by rw [← (if_pos hfw : (if sg 27 xv = sg 51 m then nI 1 else -1) = nI 1)]; exact mm_Ev_up (by decide : 5 ≤ 6) (k_wayOf hV1 xv hxv (sg 51 m))) ?_
                  refine r_iconst (v := nI 1) (by decide) dc_1_40_136 ?_
                  refine h_call0 (t := cT e 29) (as := [.int (nI xv), .int (nI pv), .int (nI 1), .int (nI 1)]) (rest := []) (M1 := hk M T (w1 (w1 (w1 cs1 36 pv (cs1 36 pv + nI 1)) 33 xv (cs1 33 xv + nI 1)) 35 xv (cs1 35 xv + (nI 1) * nI 1))) rfl rfl iv_0_v362 (Or.inl rfl) na_1_124 (hF 29 (by decide)) ⟨by omega, by omega⟩ (show (8 : Nat) < 14 by decide) o_124 rfl (show (0 : Nat) ≤ 8 by decide) dc_1_40_137 (mm_Ev_up (by decide : 1 ≤ 6) (k_addGp M hM T e hF cs1 xv pv (nI 1) (by omega) (by omega))) ?_
                  refine r_goto (t := 182) (by decide) dc_1_40_140 ?_
                  refine r_iinc (n := 3) (k := 1) (x := nI m) (v := nI (m + 1)) (ls' := [(3, .int (nI (m + 1))), (5, .int (nI 1)), (4, .ref (D 7 m)), (0, .ref 0), (1, .int (nI 7)), (2, .int (nI 1))]) rfl (nI_1 _) (by decide) rfl dc_1_40_182 ?_
                  refine r_goto (t := 13) (by decide) dc_1_40_185 ?_
                  refine r_ls [(3, .int (nI (m + 1))), (0, .ref 0), (1, .int (nI 7)), (2, .int (nI 1))] (mm_ndk_of [3, 0, 1, 2] rfl (by decide)) (mm_sub_cons rfl (mm_sub_cons rfl (mm_sub_cons rfl (mm_sub_cons rfl (mm_sub_nil _))))) ?_
                  exact ih_m (w1 (w1 (w1 cs1 36 pv (cs1 36 pv + nI 1)) 33 xv (cs1 33 xv + nI 1)) 35 xv (cs1 35 xv + (nI 1) * nI 1)) (PpI_b hi_m hnc (fun a ha => by rw [w1_n _ _ _ (by omega), w1_n _ _ _ (by omega), w1_n _ _ _ (by omega)]) (PpB_p1 hi_m.2.2.2.1 hnc c_102 e58 e57 (by omega) (by omega) hfw))
                · skip
                  refine r_aload_n rfl dc_1_40_105 ?_
                  refine h_get (t := cT e 0) (v := .ref 28) fx_0_74 (hF 0 (by decide)) ⟨by omega, by omega⟩ (rfl) dc_1_40_106 ?_
                  refine h_get (t := cT e 28) (v := .ref 29) fx_0_352 (hF 28 (by decide)) ⟨by omega, by omega⟩ (rfl) dc_1_40_109 ?_
                  refine r_aload rfl dc_1_40_112 ?_
                  refine h_get (t := (11, 0, rl [(6, D 9 m), (5, D 8 m)])) (v := .int (nI xv)) fx_0_356 (hSt m (by omega)).1 (hSt m (by omega)).2.1 (show some (Value.int _) = _ from congrArg (fun z => some (Value.int z)) (((hV1.2.1.2.2.2.2 m (by omega)).2.2.2.1.2.2.2.2.2.2.2).trans e58)) dc_1_40_114 ?_
                  refine r_aload rfl dc_1_40_117 ?_
                  refine h_callv (t := (11, 0, rl [(6, D 9 m), (5, D 8 m)])) (as := []) (rest := [.int (nI xv), .ref 29]) (v := .int (nI pv)) (M1 := hk M T cs1) rfl rfl iv_0_v261 (Or.inl rfl) na_1_118 (hSt m (by omega)).1 (hSt m (by omega)).2.1 (show (11 : Nat) < 14 by decide) o_118 rfl (show (2 : Nat) ≤ 8 by decide) dc_1_40_119 (by rw [← ehs]; exact mm_Ev_up (by decide : 2 ≤ 6) (k_host M T cs1 sg D m _ (hV1.2.1.2.2.2.2 m (by omega)) (inN_tN (hRt m (by omega)).2.2.2.2.2.2.1 (by decide)).2)) ?_
                  refine r_aload_n rfl dc_1_40_122 ?_
                  refine r_aload rfl dc_1_40_123 ?_
                  refine h_get (t := (11, 0, rl [(6, D 9 m), (5, D 8 m)])) (v := .int (sg 51 m)) fx_0_264 (hSt m (by omega)).1 (hSt m (by omega)).2.1 (show some (Value.int _) = _ from congrArg (fun z => some (Value.int z)) ((hV1.2.1.2.2.2.2 m (by omega)).2.2.2.1.1)) dc_1_40_125 ?_
                  refine r_aload rfl dc_1_40_128 ?_
                  refine h_get (t := (11, 0, rl [(6, D 9 m), (5, D 8 m)])) (v := .int (nI xv)) fx_0_356 (hSt m (by omega)).1 (hSt m (by omega)).2.1 (show some (Value.int _) = _ from congrArg (fun z => some (Value.int z)) (((hV1.2.1.2.2.2.2 m (by omega)).2.2.2.1.2.2.2.2.2.2.2).trans e58)) dc_1_40_130 ?_
                  refine h_callv (t := cT e 0) (as := [.int (sg 51 m), .int (nI xv)]) (rest := [.int (nI pv), .int (nI xv), .ref 29]) (v := .int ((-1))) (M1 := hk M T cs1) rfl rfl iv_0_v359 (Or.inl rfl) na_1_120 (hF 0 (by decide)) ⟨by omega, by omega⟩ (show (0 : Nat) < 14 by decide) o_120 rfl (show (3 : Nat) ≤ 8 by decide) dc_1_40_133 (by rw [← (if_neg hfw : (if sg 27 xv = sg 51 m then nI 1 else -1) = -1)]; exact mm_Ev_up (by decide : 5 ≤ 6) (k_wayOf hV1 xv hxv (sg 51 m))) ?_
                  refine r_iconst (v := nI 1) (by decide) dc_1_40_136 ?_
                  refine h_call0 (t := cT e 29) (as := [.int (nI xv), .int (nI pv), .int ((-1)), .int (nI 1)]) (rest := []) (M1 := hk M T (w1 (w1 (w1 cs1 36 pv (cs1 36 pv + nI 1)) 34 xv (cs1 34 xv + nI 1)) 35 xv (cs1 35 xv + ((-1)) * nI 1))) rfl rfl iv_0_v362 (Or.inl rfl) na_1_124 (hF 29 (by decide)) ⟨by omega, by omega⟩ (show (8 : Nat) < 14 by decide) o_124 rfl (show (0 : Nat) ≤ 8 by decide) dc_1_40_137 (mm_Ev_up (by decide : 1 ≤ 6) (k_addGm M hM T e hF cs1 xv pv (nI 1) (by omega) (by omega))) ?_
                  refine r_goto (t := 182) (by decide) dc_1_40_140 ?_
                  refine r_iinc (n := 3) (k := 1) (x := nI m) (v := nI (m + 1)) (ls' := [(3, .int (nI (m + 1))), (5, .int (nI 1)), (4, .ref (D 7 m)), (0, .ref 0), (1, .int (nI 7)), (2, .int (nI 1))]) rfl (nI_1 _) (by decide) rfl dc_1_40_182 ?_
                  refine r_goto (t := 13) (by decide) dc_1_40_185 ?_
                  refine r_ls [(3, .int (nI (m + 1))), (0, .ref 0), (1, .int (nI 7)), (2, .int (nI 1))] (mm_ndk_of [3, 0, 1, 2] rfl (by decide)) (mm_sub_cons rfl (mm_sub_cons rfl (mm_sub_cons rfl (mm_sub_cons rfl (mm_sub_nil _))))) ?_
                  exact ih_m (w1 (w1 (w1 cs1 36 pv (cs1 36 pv + nI 1)) 34 xv (cs1 34 xv + nI 1)) 35 xv (cs1 35 xv + ((-1)) * nI 1)) (PpI_b hi_m hnc (fun a ha => by rw [w1_n _ _ _ (by omega), w1_n _ _ _ (by omega), w1_n _ _ _ (by omega)]) (PpB_m1 hi_m.2.2.2.1 hnc c_102 e58 e57 (by omega) (by omega) hfw))
            · skip
              refine r_aload_n rfl dc_1_40_85 ?_
              refine r_iload_n rfl dc_1_40_86 ?_
              refine r_aload rfl dc_1_40_87 ?_
              refine r_iload_n rfl dc_1_40_89 ?_
              obtain ⟨cs3, ⟨hf3, h283, hr3⟩, hev3⟩ := k_addP1 hV1 m (cnA (selM 7 1 sg) m).1 h_m (by omega) hi_m.2.1 my hmy
              refine h_call0 (t := cT e 0) (as := [.int (nI m), .ref (D 7 m), .int (nI 1)]) (rest := []) (M1 := hk M T cs3) rfl rfl iv_0_v348 (Or.inl rfl) na_1_117 (hF 0 (by decide)) ⟨by omega, by omega⟩ (show (0 : Nat) < 14 by decide) o_117 rfl (show (0 : Nat) ≤ 8 by decide) dc_1_40_90 (hev3) ?_
              refine r_goto (t := 182) (by decide) dc_1_40_93 ?_
              refine r_iinc (n := 3) (k := 1) (x := nI m) (v := nI (m + 1)) (ls' := [(3, .int (nI (m + 1))), (5, .int (nI 1)), (4, .ref (D 7 m)), (0, .ref 0), (1, .int (nI 7)), (2, .int (nI 1))]) rfl (nI_1 _) (by decide) rfl dc_1_40_182 ?_
              refine r_goto (t := 13) (by decide) dc_1_40_185 ?_
              refine r_ls [(3, .int (nI (m + 1))), (0, .ref 0), (1, .int (nI 7)), (2, .int (nI 1))] (mm_ndk_of [3, 0, 1, 2] rfl (by decide)) (mm_sub_cons rfl (mm_sub_cons rfl (mm_sub_cons rfl (mm_sub_cons rfl (mm_sub_nil _))))) ?_
              exact ih_m cs3 (PpI_a hi_m ⟨⟨rfl, Or.inl c_46⟩, by omega⟩ hf3 h283 hr3)
        · skip
          refine r_iload_n rfl dc_1_40_49 ?_
          refine r_ifeq (t := 66) (by decide) dc_1_40_50 (fun c_50 => ?_) (fun c_50 => ?_)
          · exact absurd c_50 (by decide)
          · skip
            refine r_aload rfl dc_1_40_53 ?_
            refine h_get (t := (11, 0, rl [(6, D 9 m), (5, D 8 m)])) (v := .int (sg 56 m)) fx_0_204 (hSt m (by omega)).1 (hSt m (by omega)).2.1 (show some (Value.int _) = _ from congrArg (fun z => some (Value.int z)) ((hV1.2.1.2.2.2.2 m (by omega)).2.2.2.1.2.2.2.2.2.2.1)) dc_1_40_55 ?_
            refine r_iconst (v := nI 1) (by decide) dc_1_40_58 ?_
            refine r_icne (t := 66) (by decide) dc_1_40_59 (fun c_59 => ?_) (fun c_59 => ?_)
            · skip
              refine r_iconst (v := nI 0) (by decide) dc_1_40_66 ?_
              refine r_istore (ls' := [(5, .int (nI 0)), (4, .ref (D 7 m)), (3, .int (nI m)), (0, .ref 0), (1, .int (nI 7)), (2, .int (nI 1))]) (by decide) rfl dc_1_40_67 ?_
              refine r_iload rfl dc_1_40_69 ?_
              refine r_ifeq (t := 96) (by decide) dc_1_40_71 (fun c_71 => ?_) (fun c_71 => ?_)
              · skip
                have hnc : ¬ chs (selM 7 1 sg) m := fun z => z.1.2.elim c_46 (fun y => c_59 y.2)
                refine r_aload rfl dc_1_40_96 ?_
                refine h_get (t := (11, 0, rl [(6, D 9 m), (5, D 8 m)])) (v := .int (sg 56 m)) fx_0_204 (hSt m (by omega)).1 (hSt m (by omega)).2.1 (show some (Value.int _) = _ from congrArg (fun z => some (Value.int z)) ((hV1.2.1.2.2.2.2 m (by omega)).2.2.2.1.2.2.2.2.2.2.1)) dc_1_40_98 ?_
                refine r_iconst (v := nI 1) (by decide) dc_1_40_101 ?_
                refine r_icne (t := 143) (by decide) dc_1_40_102 (fun c_102 => ?_) (fun c_102 => ?_)
                · skip
                  refine r_aload rfl dc_1_40_143 ?_
                  refine h_get (t := (11, 0, rl [(6, D 9 m), (5, D 8 m)])) (v := .int (sg 56 m)) fx_0_204 (hSt m (by omega)).1 (hSt m (by omega)).2.1 (show some (Value.int _) = _ from congrArg (fun z => some (Value.int z)) ((hV1.2.1.2.2.2.2 m (by omega)).2.2.2.1.2.2.2.2.2.2.1)) dc_1_40_145 ?_
                  refine r_iconst (v := nI 3) (by decide) dc_1_40_148 ?_
                  refine r_icne (t := 182) (by decide) dc_1_40_149 (fun c_149 => ?_) (fun c_149 => ?_)
                  · skip
                    refine r_iinc (n := 3) (k := 1) (x := nI m) (v := nI (m + 1)) (ls' := [(3, .int (nI (m + 1))), (5, .int (nI 0)), (4, .ref (D 7 m)), (0, .ref 0), (1, .int (nI 7)), (2, .int (nI 1))]) rfl (nI_1 _) (by decide) rfl dc_1_40_182 ?_
                    refine r_goto (t := 13) (by decide) dc_1_40_185 ?_
                    refine r_ls [(3, .int (nI (m + 1))), (0, .ref 0), (1, .int (nI 7)), (2, .int (nI 1))] (mm_ndk_of [3, 0, 1, 2] rfl (by decide)) (mm_sub_cons rfl (mm_sub_cons rfl (mm_sub_cons rfl (mm_sub_cons rfl (mm_sub_nil _))))) ?_
                    exact ih_m cs1 (PpI_n hi_m hnc ⟨c_102, c_149⟩)
                  · skip
                    obtain ⟨xv, pv, hxv, hpv, e58, e57, -⟩ := (hst9.resolve_left (fun z => z.1.elim (fun y => absurd (c_149.symm.trans y) (by decide)) (fun y => absurd (c_149.symm.trans y) (by decide)))).2
                    by_cases hfw : sg 27 xv = sg 51 m
                    · skip
                      refine r_aload_n rfl dc_1_40_152 ?_
                      refine h_get (t := cT e 0) (v := .ref 28) fx_0_74 (hF 0 (by decide)) ⟨by omega, by omega⟩ (rfl) dc_1_40_153 ?_
                      refine h_get (t := cT e 28) (v := .ref 29) fx_0_352 (hF 28 (by decide)) ⟨by omega, by omega⟩ (rfl) dc_1_40_156 ?_
                      refine r_aload rfl dc_1_40_159 ?_
                      refine h_get (t := (11, 0, rl [(6, D 9 m), (5, D 8 m)])) (v := .int (nI xv)) fx_0_356 (hSt m (by omega)).1 (hSt m (by omega)).2.1 (show some (Value.int _) = _ from congrArg (fun z => some (Value.int z)) (((hV1.2.1.2.2.2.2 m (by omega)).2.2.2.1.2.2.2.2.2.2.2).trans e58)) dc_1_40_161 ?_
                      refine r_aload_n rfl dc_1_40_164 ?_
                      refine r_aload rfl dc_1_40_165 ?_
                      refine h_get (t := (11, 0, rl [(6, D 9 m), (5, D 8 m)])) (v := .int (sg 51 m)) fx_0_264 (hSt m (by omega)).1 (hSt m (by omega)).2.1 (show some (Value.int _) = _ from congrArg (fun z => some (Value.int z)) ((hV1.2.1.2.2.2.2 m (by omega)).2.2.2.1.1)) dc_1_40_167 ?_
                      refine r_aload rfl dc_1_40_170 ?_
                      refine h_get (t := (11, 0, rl [(6, D 9 m), (5, D 8 m)])) (v := .int (nI xv)) fx_0_356 (hSt m (by omega)).1 (hSt m (by omega)).2.1 (show some (Value.int _) = _ from congrArg (fun z => some (Value.int z)) (((hV1.2.1.2.2.2.2 m (by omega)).2.2.2.1.2.2.2.2.2.2.2).trans e58)) dc_1_40_172 ?_
                      refine h_callv (t := cT e 0) (as := [.int (sg 51 m), .int (nI xv)]) (rest := [.int (nI xv), .ref 29]) (v := .int (nI 1)) (M1 := hk M T cs1) rfl rfl iv_0_v359 (Or.inl rfl) na_1_120 (hF 0 (by decide)) ⟨by omega, by omega⟩ (show (0 : Nat) < 14 by decide) o_120 rfl (show (2 : Nat) ≤ 8 by decide) dc_1_40_175 (by rw [← (if_pos hfw : (if sg 27 xv = sg 51 m then nI 1 else -1) = nI 1)]; exact mm_Ev_up (by decide : 5 ≤ 6) (k_wayOf hV1 xv hxv (sg 51 m))) ?_
                      refine r_iconst (v := nI 1) (by decide) dc_1_40_178 ?_
                      refine h_call0 (t := cT e 29) (as := [.int (nI xv), .int (nI 1), .int (nI 1)]) (rest := []) (M1 := hk M T (w1 cs1 35 xv (cs1 35 xv + (nI 1) * nI 1))) rfl rfl iv_0_v367 (Or.inl rfl) na_1_125 (hF 29 (by decide)) ⟨by omega, by omega⟩ (show (8 : Nat) < 14 by decide) o_125 rfl (show (0 : Nat) ≤ 8 by decide) dc_1_40_179 (mm_Ev_up (by decide : 1 ≤ 6) (k_addB M hM T e hF cs1 xv (nI 1) (nI 1) (by omega))) ?_
                      refine r_iinc (n := 3) (k := 1) (x := nI m) (v := nI (m + 1)) (ls' := [(3, .int (nI (m + 1))), (5, .int (nI 0)), (4, .ref (D 7 m)), (0, .ref 0), (1, .int (nI 7)), (2, .int (nI 1))]) rfl (nI_1 _) (by decide) rfl dc_1_40_182 ?_
                      refine r_goto (t := 13) (by decide) dc_1_40_185 ?_
                      refine r_ls [(3, .int (nI (m + 1))), (0, .ref 0), (1, .int (nI 7)), (2, .int (nI 1))] (mm_ndk_of [3, 0, 1, 2] rfl (by decide)) (mm_sub_cons rfl (mm_sub_cons rfl (mm_sub_cons rfl (mm_sub_cons rfl (mm_sub_nil _))))) ?_
                      exact ih_m (w1 cs1 35 xv (cs1 35 xv + (nI 1) * nI 1)) (PpI_b hi_m hnc (fun a ha => by rw [w1_n _ _ _ (by omega)]) (PpB_p3 (pv := pv) hi_m.2.2.2.1 hnc c_149 e58 e57 (by omega) (by omega) hfw))
                    · skip
                      refine r_aload_n rfl dc_1_40_152 ?_
                      refine h_get (t := cT e 0) (v := .ref 28) fx_0_74 (hF 0 (by decide)) ⟨by omega, by omega⟩ (rfl) dc_1_40_153 ?_
                      refine h_get (t := cT e 28) (v := .ref 29) fx_0_352 (hF 28 (by decide)) ⟨by omega, by omega⟩ (rfl) dc_1_40_156 ?_
                      refine r_aload rfl dc_1_40_159 ?_
                      refine h_get (t := (11, 0, rl [(6, D 9 m), (5, D 8 m)])) (v := .int (nI xv)) fx_0_356 (hSt m (by omega)).1 (hSt m (by omega)).2.1 (show some (Value.int _) = _ from congrArg (fun z => some (Value.int z)) (((hV1.2.1.2.2.2.2 m (by omega)).2.2.2.1.2.2.2.2.2.2.2).trans e58)) dc_1_40_161 ?_
                      refine r_aload_n rfl dc_1_40_164 ?_
                      refine r_aload rfl dc_1_40_165 ?_
                      refine h_get (t := (11, 0, rl [(6, D 9 m), (5, D 8 m)])) (v := .int (sg 51 m)) fx_0_264 (hSt m (by omega)).1 (hSt m (by omega)).2.1 (show some (Value.int _) = _ from congrArg (fun z => some (Value.int z)) ((hV1.2.1.2.2.2.2 m (by omega)).2.2.2.1.1)) dc_1_40_167 ?_
                      refine r_aload rfl dc_1_40_170 ?_
                      refine h_get (t := (11, 0, rl [(6, D 9 m), (5, D 8 m)])) (v := .int (nI xv)) fx_0_356 (hSt m (by omega)).1 (hSt m (by omega)).2.1 (show some (Value.int _) = _ from congrArg (fun z => some (Value.int z)) (((hV1.2.1.2.2.2.2 m (by omega)).2.2.2.1.2.2.2.2.2.2.2).trans e58)) dc_1_40_172 ?_
                      refine h_callv (t := cT e 0) (as := [.int (sg 51 m), .int (nI xv)]) (rest := [.int (nI xv), .ref 29]) (v := .int ((-1))) (M1 := hk M T cs1) rfl rfl iv_0_v359 (Or.inl rfl) na_1_120 (hF 0 (by decide)) ⟨by omega, by omega⟩ (show (0 : Nat) < 14 by decide) o_120 rfl (show (2 : Nat) ≤ 8 by decide) dc_1_40_175 (by rw [← (if_neg hfw : (if sg 27 xv = sg 51 m then nI 1 else -1) = -1)]; exact mm_Ev_up (by decide : 5 ≤ 6) (k_wayOf hV1 xv hxv (sg 51 m))) ?_
                      refine r_iconst (v := nI 1) (by decide) dc_1_40_178 ?_
                      refine h_call0 (t := cT e 29) (as := [.int (nI xv), .int ((-1)), .int (nI 1)]) (rest := []) (M1 := hk M T (w1 cs1 35 xv (cs1 35 xv + ((-1)) * nI 1))) rfl rfl iv_0_v367 (Or.inl rfl) na_1_125 (hF 29 (by decide)) ⟨by omega, by omega⟩ (show (8 : Nat) < 14 by decide) o_125 rfl (show (0 : Nat) ≤ 8 by decide) dc_1_40_179 (mm_Ev_up (by decide : 1 ≤ 6) (k_addB M hM T e hF cs1 xv ((-1)) (nI 1) (by omega))) ?_
                      refine r_iinc (n := 3) (k := 1) (x := nI m) (v := nI (m + 1)) (ls' := [(3, .int (nI (m + 1))), (5, .int (nI 0)), (4, .ref (D 7 m)), (0, .ref 0), (1, .int (nI 7)), (2, .int (nI 1))]) rfl (nI_1 _) (by decide) rfl dc_1_40_182 ?_
                      refine r_goto (t := 13) (by decide) dc_1_40_185 ?_
                      refine r_ls [(3, .int (nI (m + 1))), (0, .ref 0), (1, .int (nI 7)), (2, .int (nI 1))] (mm_ndk_of [3, 0, 1, 2] rfl (by decide)) (mm_sub_cons rfl (mm_sub_cons rfl (mm_sub_cons rfl (mm_sub_cons rfl (mm_sub_nil _))))) ?_
                      exact ih_m (w1 cs1 35 xv (cs1 35 xv + ((-1)) * nI 1)) (PpI_b hi_m hnc (fun a ha => by rw [w1_n _ _ _ (by omega)]) (PpB_m3 (pv := pv) hi_m.2.2.2.1 hnc c_149 e58 e57 (by omega) (by omega) hfw))
                · skip
                  obtain ⟨xv, pv, hxv, hpv, e58, e57, -⟩ := (hst9.resolve_left (fun z => z.1.elim (fun y => absurd (c_102.symm.trans y) (by decide)) (fun y => absurd (c_102.symm.trans y) (by decide)))).2
                  have ehs : hst sg m = nI pv := (if_pos c_102).trans e57
                  by_cases hfw : sg 27 xv = sg 51 m
                  · skip
                    refine r_aload_n rfl dc_1_40_105 ?_
                    refine h_get (t := cT e 0) (v := .ref 28) fx_0_74 (hF 0 (by decide)) ⟨by omega, by omega⟩ (rfl) dc_1_40_106 ?_
                    refine h_get (t := cT e 28) (v := .ref 29) fx_0_352 (hF 28 (by decide)) ⟨by omega, by omega⟩ (rfl) dc_1_40_109 ?_
                    refine r_aload rfl dc_1_40_112 ?_
                    refine h_get (t := (11, 0, rl [(6, D 9 m), (5, D 8 m)])) (v := .int (nI xv)) fx_0_356 (hSt m (by omega)).1 (hSt m (by omega)).2.1 (show some (Value.int _) = _ from congrArg (fun z => some (Value.int z)) (((hV1.2.1.2.2.2.2 m (by omega)).2.2.2.1.2.2.2.2.2.2.2).trans e58)) dc_1_40_114 ?_
                    refine r_aload rfl dc_1_40_117 ?_
                    refine h_callv (t := (11, 0, rl [(6, D 9 m), (5, D 8 m)])) (as := []) (rest := [.int (nI xv), .ref 29]) (v := .int (nI pv)) (M1 := hk M T cs1) rfl rfl iv_0_v261 (Or.inl rfl) na_1_118 (hSt m (by omega)).1 (hSt m (by omega)).2.1 (show (11 : Nat) < 14 by decide) o_118 rfl (show (2 : Nat) ≤ 8 by decide) dc_1_40_119 (by rw [← ehs]; exact mm_Ev_up (by decide : 2 ≤ 6) (k_host M T cs1 sg D m _ (hV1.2.1.2.2.2.2 m (by omega)) (inN_tN (hRt m (by omega)).2.2.2.2.2.2.1 (by decide)).2)) ?_
                    refine r_aload_n rfl dc_1_40_122 ?_
                    refine r_aload rfl dc_1_40_123 ?_
                    refine h_get (t := (11, 0, rl [(6, D 9 m), (5, D 8 m)])) (v := .int (sg 51 m)) fx_0_264 (hSt m (by omega)).1 (hSt m (by omega)).2.1 (show some (Value.int _) = _ from congrArg (fun z => some (Value.int z)) ((hV1.2.1.2.2.2.2 m (by omega)).2.2.2.1.1)) dc_1_40_125 ?_
                    refine r_aload rfl dc_1_40_128 ?_
                    refine h_get (t := (11, 0, rl [(6, D 9 m), (5, D 8 m)])) (v := .int (nI xv)) fx_0_356 (hSt m (by omega)).1 (hSt m (by omega)).2.1 (show some (Value.int _) = _ from congrArg (fun z => some (Value.int z)) (((hV1.2.1.2.2.2.2 m (by omega)).2.2.2.1.2.2.2.2.2.2.2).trans e58)) dc_1_40_130 ?_
                    refine h_callv (t := cT e 0) (as := [.int (sg 51 m), .int (nI xv)]) (rest := [.int (nI pv), .int (nI xv), .ref 29]) (v := .int (nI 1)) (M1 := hk M T cs1) rfl rfl iv_0_v359 (Or.inl rfl) na_1_120 (hF 0 (by decide)) ⟨by omega, by omega⟩ (show (0 : Nat) < 14 by decide) o_120 rfl (show (3 : Nat) ≤ 8 by decide) dc_1_40_133 (by rw [← (if_pos hfw : (if sg 27 xv = sg 51 m then nI 1 else -1) = nI 1)]; exact mm_Ev_up (by decide : 5 ≤ 6) (k_wayOf hV1 xv hxv (sg 51 m))) ?_
                    refine r_iconst (v := nI 1) (by decide) dc_1_40_136 ?_
                    refine h_call0 (t := cT e 29) (as := [.int (nI xv), .int (nI pv), .int (nI 1), .int (nI 1)]) (rest := []) (M1 := hk M T (w1 (w1 (w1 cs1 36 pv (cs1 36 pv + nI 1)) 33 xv (cs1 33 xv + nI 1)) 35 xv (cs1 35 xv + (nI 1) * nI 1))) rfl rfl iv_0_v362 (Or.inl rfl) na_1_124 (hF 29 (by decide)) ⟨by omega, by omega⟩ (show (8 : Nat) < 14 by decide) o_124 rfl (show (0 : Nat) ≤ 8 by decide) dc_1_40_137 (mm_Ev_up (by decide : 1 ≤ 6) (k_addGp M hM T e hF cs1 xv pv (nI 1) (by omega) (by omega))) ?_
                    refine r_goto (t := 182) (by decide) dc_1_40_140 ?_
                    refine r_iinc (n := 3) (k := 1) (x := nI m) (v := nI (m + 1)) (ls' := [(3, .int (nI (m + 1))), (5, .int (nI 0)), (4, .ref (D 7 m)), (0, .ref 0), (1, .int (nI 7)), (2, .int (nI 1))]) rfl (nI_1 _) (by decide) rfl dc_1_40_182 ?_
                    refine r_goto (t := 13) (by decide) dc_1_40_185 ?_
                    refine r_ls [(3, .int (nI (m + 1))), (0, .ref 0), (1, .int (nI 7)), (2, .int (nI 1))] (mm_ndk_of [3, 0, 1, 2] rfl (by decide)) (mm_sub_cons rfl (mm_sub_cons rfl (mm_sub_cons rfl (mm_sub_cons rfl (mm_sub_nil _))))) ?_
                    exact ih_m (w1 (w1 (w1 cs1 36 pv (cs1 36 pv + nI 1)) 33 xv (cs1 33 xv + nI 1)) 35 xv (cs1 35 xv + (nI 1) * nI 1)) (PpI_b hi_m hnc (fun a ha => by rw [w1_n _ _ _ (by omega), w1_n _ _ _ (by omega), w1_n _ _ _ (by omega)]) (PpB_p1 hi_m.2.2.2.1 hnc c_102 e58 e57 (by omega) (by omega) hfw))
                  · skip
                    refine r_aload_n rfl dc_1_40_105 ?_
                    refine h_get (t := cT e 0) (v := .ref 28) fx_0_74 (hF 0 (by decide)) ⟨by omega, by omega⟩ (rfl) dc_1_40_106 ?_
                    refine h_get (t := cT e 28) (v := .ref 29) fx_0_352 (hF 28 (by decide)) ⟨by omega, by omega⟩ (rfl) dc_1_40_109 ?_
                    refine r_aload rfl dc_1_40_112 ?_
                    refine h_get (t := (11, 0, rl [(6, D 9 m), (5, D 8 m)])) (v := .int (nI xv)) fx_0_356 (hSt m (by omega)).1 (hSt m (by omega)).2.1 (show some (Value.int _) = _ from congrArg (fun z => some (Value.int z)) (((hV1.2.1.2.2.2.2 m (by omega)).2.2.2.1.2.2.2.2.2.2.2).trans e58)) dc_1_40_114 ?_
                    refine r_aload rfl dc_1_40_117 ?_
                    refine h_callv (t := (11, 0, rl [(6, D 9 m), (5, D 8 m)])) (as := []) (rest := [.int (nI xv), .ref 29]) (v := .int (nI pv)) (M1 := hk M T cs1) rfl rfl iv_0_v261 (Or.inl rfl) na_1_118 (hSt m (by omega)).1 (hSt m (by omega)).2.1 (show (11 : Nat) < 14 by decide) o_118 rfl (show (2 : Nat) ≤ 8 by decide) dc_1_40_119 (by rw [← ehs]; exact mm_Ev_up (by decide : 2 ≤ 6) (k_host M T cs1 sg D m _ (hV1.2.1.2.2.2.2 m (by omega)) (inN_tN (hRt m (by omega)).2.2.2.2.2.2.1 (by decide)).2)) ?_
                    refine r_aload_n rfl dc_1_40_122 ?_
                    refine r_aload rfl dc_1_40_123 ?_
                    refine h_get (t := (11, 0, rl [(6, D 9 m), (5, D 8 m)])) (v := .int (sg 51 m)) fx_0_264 (hSt m (by omega)).1 (hSt m (by omega)).2.1 (show some (Value.int _) = _ from congrArg (fun z => some (Value.int z)) ((hV1.2.1.2.2.2.2 m (by omega)).2.2.2.1.1)) dc_1_40_125 ?_
                    refine r_aload rfl dc_1_40_128 ?_
                    refine h_get (t := (11, 0, rl [(6, D 9 m), (5, D 8 m)])) (v := .int (nI xv)) fx_0_356 (hSt m (by omega)).1 (hSt m (by omega)).2.1 (show some (Value.int _) = _ from congrArg (fun z => some (Value.int z)) (((hV1.2.1.2.2.2.2 m (by omega)).2.2.2.1.2.2.2.2.2.2.2).trans e58)) dc_1_40_130 ?_
                    refine h_callv (t := cT e 0) (as := [.int (sg 51 m), .int (nI xv)]) (rest := [.int (nI pv), .int (nI xv), .ref 29]) (v := .int ((-1))) (M1 := hk M T cs1) rfl rfl iv_0_v359 (Or.inl rfl) na_1_120 (hF 0 (by decide)) ⟨by omega, by omega⟩ (show (0 : Nat) < 14 by decide) o_120 rfl (show (3 : Nat) ≤ 8 by decide) dc_1_40_133 (by rw [← (if_neg hfw : (if sg 27 xv = sg 51 m then nI 1 else -1) = -1)]; exact mm_Ev_up (by decide : 5 ≤ 6) (k_wayOf hV1 xv hxv (sg 51 m))) ?_
                    refine r_iconst (v := nI 1) (by decide) dc_1_40_136 ?_
                    refine h_call0 (t := cT e 29) (as := [.int (nI xv), .int (nI pv), .int ((-1)), .int (nI 1)]) (rest := []) (M1 := hk M T (w1 (w1 (w1 cs1 36 pv (cs1 36 pv + nI 1)) 34 xv (cs1 34 xv + nI 1)) 35 xv (cs1 35 xv + ((-1)) * nI 1))) rfl rfl iv_0_v362 (Or.inl rfl) na_1_124 (hF 29 (by decide)) ⟨by omega, by omega⟩ (show (8 : Nat) < 14 by decide) o_124 rfl (show (0 : Nat) ≤ 8 by decide) dc_1_40_137 (mm_Ev_up (by decide : 1 ≤ 6) (k_addGm M hM T e hF cs1 xv pv (nI 1) (by omega) (by omega))) ?_
                    refine r_goto (t := 182) (by decide) dc_1_40_140 ?_
                    refine r_iinc (n := 3) (k := 1) (x := nI m) (v := nI (m + 1)) (ls' := [(3, .int (nI (m + 1))), (5, .int (nI 0)), (4, .ref (D 7 m)), (0, .ref 0), (1, .int (nI 7)), (2, .int (nI 1))]) rfl (nI_1 _) (by decide) rfl dc_1_40_182 ?_
                    refine r_goto (t := 13) (by decide) dc_1_40_185 ?_
                    refine r_ls [(3, .int (nI (m + 1))), (0, .ref 0), (1, .int (nI 7)), (2, .int (nI 1))] (mm_ndk_of [3, 0, 1, 2] rfl (by decide)) (mm_sub_cons rfl (mm_sub_cons rfl (mm_sub_cons rfl (mm_sub_cons rfl (mm_sub_nil _))))) ?_
                    exact ih_m (w1 (w1 (w1 cs1 36 pv (cs1 36 pv + nI 1)) 34 xv (cs1 34 xv + nI 1)) 35 xv (cs1 35 xv + ((-1)) * nI 1)) (PpI_b hi_m hnc (fun a ha => by rw [w1_n _ _ _ (by omega), w1_n _ _ _ (by omega), w1_n _ _ _ (by omega)]) (PpB_m1 hi_m.2.2.2.1 hnc c_102 e58 e57 (by omega) (by omega) hfw))
              · exact absurd c_71 (by decide)
            · skip
              refine r_iconst (v := nI 1) (by decide) dc_1_40_62 ?_
              refine r_goto (t := 67) (by decide) dc_1_40_63 ?_
              refine r_istore (ls' := [(5, .int (nI 1)), (4, .ref (D 7 m)), (3, .int (nI m)), (0, .ref 0), (1, .int (nI 7)), (2, .int (nI 1))]) (by decide) rfl dc_1_40_67 ?_
              refine r_iload rfl dc_1_40_69 ?_
              refine r_ifeq (t := 96) (by decide) dc_1_40_71 (fun c_71 => ?_) (fun c_71 => ?_)
              · exact absurd c_71 (by decide)
              · skip
                refine r_aload_n rfl dc_1_40_74 ?_
                refine h_get (t := cT e 0) (v := .ref 28) fx_0_74 (hF 0 (by decide)) ⟨by omega, by omega⟩ (rfl) dc_1_40_75 ?_
                refine h_get (t := cT e 28) (v := .int (nI ((cnA (selM 7 1 sg) m).1))) fx_0_347 (hF 28 (by decide)) ⟨by omega, by omega⟩ (show some (Value.int _) = _ from congrArg (fun z => some (Value.int z)) (hi_m.2.1)) dc_1_40_78 ?_
                refine r_iload_n rfl dc_1_40_81 ?_
                refine r_ncge (t := 96) (by omega) (by omega) (by decide) dc_1_40_82 (fun c_82 => ?_) (fun c_82 => ?_)
                · skip
                  have hnc : ¬ chs (selM 7 1 sg) m := fun z => by have := z.2; omega
                  refine r_aload rfl dc_1_40_96 ?_
                  refine h_get (t := (11, 0, rl [(6, D 9 m), (5, D 8 m)])) (v := .int (sg 56 m)) fx_0_204 (hSt m (by omega)).1 (hSt m (by omega)).2.1 (show some (Value.int _) = _ from congrArg (fun z => some (Value.int z)) ((hV1.2.1.2.2.2.2 m (by omega)).2.2.2.1.2.2.2.2.2.2.1)) dc_1_40_98 ?_
                  refine r_iconst (v := nI 1) (by decide) dc_1_40_101 ?_
                  refine r_icne (t := 143) (by decide) dc_1_40_102 (fun c_102 => ?_) (fun c_102 => ?_)
                  · skip
                    refine r_aload rfl dc_1_40_143 ?_
                    refine h_get (t := (11, 0, rl [(6, D 9 m), (5, D 8 m)])) (v := .int (sg 56 m)) fx_0_204 (hSt m (by omega)).1 (hSt m (by omega)).2.1 (show some (Value.int _) = _ from congrArg (fun z => some (Value.int z)) ((hV1.2.1.2.2.2.2 m (by omega)).2.2.2.1.2.2.2.2.2.2.1)) dc_1_40_145 ?_
                    refine r_iconst (v := nI 3) (by decide) dc_1_40_148 ?_
                    refine r_icne (t := 182) (by decide) dc_1_40_149 (fun c_149 => ?_) (fun c_149 => ?_)
                    · skip
                      refine r_iinc (n := 3) (k := 1) (x := nI m) (v := nI (m + 1)) (ls' := [(3, .int (nI (m + 1))), (5, .int (nI 1)), (4, .ref (D 7 m)), (0, .ref 0), (1, .int (nI 7)), (2, .int (nI 1))]) rfl (nI_1 _) (by decide) rfl dc_1_40_182 ?_
                      refine r_goto (t := 13) (by decide) dc_1_40_185 ?_
                      refine r_ls [(3, .int (nI (m + 1))), (0, .ref 0), (1, .int (nI 7)), (2, .int (nI 1))] (mm_ndk_of [3, 0, 1, 2] rfl (by decide)) (mm_sub_cons rfl (mm_sub_cons rfl (mm_sub_cons rfl (mm_sub_cons rfl (mm_sub_nil _))))) ?_
                      exact ih_m cs1 (PpI_n hi_m hnc ⟨c_102, c_149⟩)
                    · skip
                      obtain ⟨xv, pv, hxv, hpv, e58, e57, -⟩ := (hst9.resolve_left (fun z => z.1.elim (fun y => absurd (c_149.symm.trans y) (by decide)) (fun y => absurd (c_149.symm.trans y) (by decide)))).2
                      by_cases hfw : sg 27 xv = sg 51 m
                      · skip
                        refine r_aload_n rfl dc_1_40_152 ?_
                        refine h_get (t := cT e 0) (v := .ref 28) fx_0_74 (hF 0 (by decide)) ⟨by omega, by omega⟩ (rfl) dc_1_40_153 ?_
                        refine h_get (t := cT e 28) (v := .ref 29) fx_0_352 (hF 28 (by decide)) ⟨by omega, by omega⟩ (rfl) dc_1_40_156 ?_
                        refine r_aload rfl dc_1_40_159 ?_
                        refine h_get (t := (11, 0, rl [(6, D 9 m), (5, D 8 m)])) (v := .int (nI xv)) fx_0_356 (hSt m (by omega)).1 (hSt m (by omega)).2.1 (show some (Value.int _) = _ from congrArg (fun z => some (Value.int z)) (((hV1.2.1.2.2.2.2 m (by omega)).2.2.2.1.2.2.2.2.2.2.2).trans e58)) dc_1_40_161 ?_
                        refine r_aload_n rfl dc_1_40_164 ?_
                        refine r_aload rfl dc_1_40_165 ?_
                        refine h_get (t := (11, 0, rl [(6, D 9 m), (5, D 8 m)])) (v := .int (sg 51 m)) fx_0_264 (hSt m (by omega)).1 (hSt m (by omega)).2.1 (show some (Value.int _) = _ from congrArg (fun z => some (Value.int z)) ((hV1.2.1.2.2.2.2 m (by omega)).2.2.2.1.1)) dc_1_40_167 ?_
                        refine r_aload rfl dc_1_40_170 ?_
                        refine h_get (t := (11, 0, rl [(6, D 9 m), (5, D 8 m)])) (v := .int (nI xv)) fx_0_356 (hSt m (by omega)).1 (hSt m (by omega)).2.1 (show some (Value.int _) = _ from congrArg (fun z => some (Value.int z)) (((hV1.2.1.2.2.2.2 m (by omega)).2.2.2.1.2.2.2.2.2.2.2).trans e58)) dc_1_40_172 ?_
                        refine h_callv (t := cT e 0) (as := [.int (sg 51 m), .int (nI xv)]) (rest := [.int (nI xv), .ref 29]) (v := .int (nI 1)) (M1 := hk M T cs1) rfl rfl iv_0_v359 (Or.inl rfl) na_1_120 (hF 0 (by decide)) ⟨by omega, by omega⟩ (show (0 : Nat) < 14 by decide) o_120 rfl (show (2 : Nat) ≤ 8 by decide) dc_1_40_175 (by rw [← (if_pos hfw : (if sg 27 xv = sg 51 m then nI 1 else -1) = nI 1)]; exact mm_Ev_up (by decide : 5 ≤ 6) (k_wayOf hV1 xv hxv (sg 51 m))) ?_
                        refine r_iconst (v := nI 1) (by decide) dc_1_40_178 ?_
                        refine h_call0 (t := cT e 29) (as := [.int (nI xv), .int (nI 1), .int (nI 1)]) (rest := []) (M1 := hk M T (w1 cs1 35 xv (cs1 35 xv + (nI 1) * nI 1))) rfl rfl iv_0_v367 (Or.inl rfl) na_1_125 (hF 29 (by decide)) ⟨by omega, by omega⟩ (show (8 : Nat) < 14 by decide) o_125 rfl (show (0 : Nat) ≤ 8 by decide) dc_1_40_179 (mm_Ev_up (by decide : 1 ≤ 6) (k_addB M hM T e hF cs1 xv (nI 1) (nI 1) (by omega))) ?_
                        refine r_iinc (n := 3) (k := 1) (x := nI m) (v := nI (m + 1)) (ls' := [(3, .int (nI (m + 1))), (5, .int (nI 1)), (4, .ref (D 7 m)), (0, .ref 0), (1, .int (nI 7)), (2, .int (nI 1))]) rfl (nI_1 _) (by decide) rfl dc_1_40_182 ?_
                        refine r_goto (t := 13) (by decide) dc_1_40_185 ?_
                        refine r_ls [(3, .int (nI (m + 1))), (0, .ref 0), (1, .int (nI 7)), (2, .int (nI 1))] (mm_ndk_of [3, 0, 1, 2] rfl (by decide)) (mm_sub_cons rfl (mm_sub_cons rfl (mm_sub_cons rfl (mm_sub_cons rfl (mm_sub_nil _))))) ?_
                        exact ih_m (w1 cs1 35 xv (cs1 35 xv + (nI 1) * nI 1)) (PpI_b hi_m hnc (fun a ha => by rw [w1_n _ _ _ (by omega)]) (PpB_p3 (pv := pv) hi_m.2.2.2.1 hnc c_149 e58 e57 (by omega) (by omega) hfw))
                      · skip
                        refine r_aload_n rfl dc_1_40_152 ?_
                        refine h_get (t := cT e 0) (v := .ref 28) fx_0_74 (hF 0 (by decide)) ⟨by omega, by omega⟩ (rfl) dc_1_40_153 ?_
                        refine h_get (t := cT e 28) (v := .ref 29) fx_0_352 (hF 28 (by decide)) ⟨by omega, by omega⟩ (rfl) dc_1_40_156 ?_
                        refine r_aload rfl dc_1_40_159 ?_
                        refine h_get (t := (11, 0, rl [(6, D 9 m), (5, D 8 m)])) (v := .int (nI xv)) fx_0_356 (hSt m (by omega)).1 (hSt m (by omega)).2.1 (show some (Value.int _) = _ from congrArg (fun z => some (Value.int z)) (((hV1.2.1.2.2.2.2 m (by omega)).2.2.2.1.2.2.2.2.2.2.2).trans e58)) dc_1_40_161 ?_
                        refine r_aload_n rfl dc_1_40_164 ?_
                        refine r_aload rfl dc_1_40_165 ?_
                        refine h_get (t := (11, 0, rl [(6, D 9 m), (5, D 8 m)])) (v := .int (sg 51 m)) fx_0_264 (hSt m (by omega)).1 (hSt m (by omega)).2.1 (show some (Value.int _) = _ from congrArg (fun z => some (Value.int z)) ((hV1.2.1.2.2.2.2 m (by omega)).2.2.2.1.1)) dc_1_40_167 ?_
                        refine r_aload rfl dc_1_40_170 ?_
                        refine h_get (t := (11, 0, rl [(6, D 9 m), (5, D 8 m)])) (v := .int (nI xv)) fx_0_356 (hSt m (by omega)).1 (hSt m (by omega)).2.1 (show some (Value.int _) = _ from congrArg (fun z => some (Value.int z)) (((hV1.2.1.2.2.2.2 m (by omega)).2.2.2.1.2.2.2.2.2.2.2).trans e58)) dc_1_40_172 ?_
                        refine h_callv (t := cT e 0) (as := [.int (sg 51 m), .int (nI xv)]) (rest := [.int (nI xv), .ref 29]) (v := .int ((-1))) (M1 := hk M T cs1) rfl rfl iv_0_v359 (Or.inl rfl) na_1_120 (hF 0 (by decide)) ⟨by omega, by omega⟩ (show (0 : Nat) < 14 by decide) o_120 rfl (show (2 : Nat) ≤ 8 by decide) dc_1_40_175 (by rw [← (if_neg hfw : (if sg 27 xv = sg 51 m then nI 1 else -1) = -1)]; exact mm_Ev_up (by decide : 5 ≤ 6) (k_wayOf hV1 xv hxv (sg 51 m))) ?_
                        refine r_iconst (v := nI 1) (by decide) dc_1_40_178 ?_
                        refine h_call0 (t := cT e 29) (as := [.int (nI xv), .int ((-1)), .int (nI 1)]) (rest := []) (M1 := hk M T (w1 cs1 35 xv (cs1 35 xv + ((-1)) * nI 1))) rfl rfl iv_0_v367 (Or.inl rfl) na_1_125 (hF 29 (by decide)) ⟨by omega, by omega⟩ (show (8 : Nat) < 14 by decide) o_125 rfl (show (0 : Nat) ≤ 8 by decide) dc_1_40_179 (mm_Ev_up (by decide : 1 ≤ 6) (k_addB M hM T e hF cs1 xv ((-1)) (nI 1) (by omega))) ?_
                        refine r_iinc (n := 3) (k := 1) (x := nI m) (v := nI (m + 1)) (ls' := [(3, .int (nI (m + 1))), (5, .int (nI 1)), (4, .ref (D 7 m)), (0, .ref 0), (1, .int (nI 7)), (2, .int (nI 1))]) rfl (nI_1 _) (by decide) rfl dc_1_40_182 ?_
                        refine r_goto (t := 13) (by decide) dc_1_40_185 ?_
                        refine r_ls [(3, .int (nI (m + 1))), (0, .ref 0), (1, .int (nI 7)), (2, .int (nI 1))] (mm_ndk_of [3, 0, 1, 2] rfl (by decide)) (mm_sub_cons rfl (mm_sub_cons rfl (mm_sub_cons rfl (mm_sub_cons rfl (mm_sub_nil _))))) ?_
                        exact ih_m (w1 cs1 35 xv (cs1 35 xv + ((-1)) * nI 1)) (PpI_b hi_m hnc (fun a ha => by rw [w1_n _ _ _ (by omega)]) (PpB_m3 (pv := pv) hi_m.2.2.2.1 hnc c_149 e58 e57 (by omega) (by omega) hfw))
                  · skip
                    obtain ⟨xv, pv, hxv, hpv, e58, e57, -⟩ := (hst9.resolve_left (fun z => z.1.elim (fun y => absurd (c_102.symm.trans y) (by decide)) (fun y => absurd (c_102.symm.trans y) (by decide)))).2
                    have ehs : hst sg m = nI pv := (if_pos c_102).trans e57
                    by_cases hfw : sg 27 xv = sg 51 m
                    · skip
                      refine r_aload_n rfl dc_1_40_105 ?_
                      refine h_get (t := cT e 0) (v := .ref 28) fx_0_74 (hF 0 (by decide)) ⟨by omega, by omega⟩ (rfl) dc_1_40_106 ?_
                      refine h_get (t := cT e 28) (v := .ref 29) fx_0_352 (hF 28 (by decide)) ⟨by omega, by omega⟩ (rfl) dc_1_40_109 ?_
                      refine r_aload rfl dc_1_40_112 ?_
                      refine h_get (t := (11, 0, rl [(6, D 9 m), (5, D 8 m)])) (v := .int (nI xv)) fx_0_356 (hSt m (by omega)).1 (hSt m (by omega)).2.1 (show some (Value.int _) = _ from congrArg (fun z => some (Value.int z)) (((hV1.2.1.2.2.2.2 m (by omega)).2.2.2.1.2.2.2.2.2.2.2).trans e58)) dc_1_40_114 ?_
                      refine r_aload rfl dc_1_40_117 ?_
                      refine h_callv (t := (11, 0, rl [(6, D 9 m), (5, D 8 m)])) (as := []) (rest := [.int (nI xv), .ref 29]) (v := .int (nI pv)) (M1 := hk M T cs1) rfl rfl iv_0_v261 (Or.inl rfl) na_1_118 (hSt m (by omega)).1 (hSt m (by omega)).2.1 (show (11 : Nat) < 14 by decide) o_118 rfl (show (2 : Nat) ≤ 8 by decide) dc_1_40_119 (by rw [← ehs]; exact mm_Ev_up (by decide : 2 ≤ 6) (k_host M T cs1 sg D m _ (hV1.2.1.2.2.2.2 m (by omega)) (inN_tN (hRt m (by omega)).2.2.2.2.2.2.1 (by decide)).2)) ?_
                      refine r_aload_n rfl dc_1_40_122 ?_
                      refine r_aload rfl dc_1_40_123 ?_
                      refine h_get (t := (11, 0, rl [(6, D 9 m), (5, D 8 m)])) (v := .int (sg 51 m)) fx_0_264 (hSt m (by omega)).1 (hSt m (by omega)).2.1 (show some (Value.int _) = _ from congrArg (fun z => some (Value.int z)) ((hV1.2.1.2.2.2.2 m (by omega)).2.2.2.1.1)) dc_1_40_125 ?_
                      refine r_aload rfl dc_1_40_128 ?_
                      refine h_get (t := (11, 0, rl [(6, D 9 m), (5, D 8 m)])) (v := .int (nI xv)) fx_0_356 (hSt m (by omega)).1 (hSt m (by omega)).2.1 (show some (Value.int _) = _ from congrArg (fun z => some (Value.int z)) (((hV1.2.1.2.2.2.2 m (by omega)).2.2.2.1.2.2.2.2.2.2.2).trans e58)) dc_1_40_130 ?_
                      refine h_callv (t := cT e 0) (as := [.int (sg 51 m), .int (nI xv)]) (rest := [.int (nI pv), .int (nI xv), .ref 29]) (v := .int (nI 1)) (M1 := hk M T cs1) rfl rfl iv_0_v359 (Or.inl rfl) na_1_120 (hF 0 (by decide)) ⟨by omega, by omega⟩ (show (0 : Nat) < 14 by decide) o_120 rfl (show (3 : Nat) ≤ 8 by decide) dc_1_40_133 (by rw [← (if_pos hfw : (if sg 27 xv = sg 51 m then nI 1 else -1) = nI 1)]; exact mm_Ev_up (by decide : 5 ≤ 6) (k_wayOf hV1 xv hxv (sg 51 m))) ?_
                      refine r_iconst (v := nI 1) (by decide) dc_1_40_136 ?_
                      refine h_call0 (t := cT e 29) (as := [.int (nI xv), .int (nI pv), .int (nI 1), .int (nI 1)]) (rest := []) (M1 := hk M T (w1 (w1 (w1 cs1 36 pv (cs1 36 pv + nI 1)) 33 xv (cs1 33 xv + nI 1)) 35 xv (cs1 35 xv + (nI 1) * nI 1))) rfl rfl iv_0_v362 (Or.inl rfl) na_1_124 (hF 29 (by decide)) ⟨by omega, by omega⟩ (show (8 : Nat) < 14 by decide) o_124 rfl (show (0 : Nat) ≤ 8 by decide) dc_1_40_137 (mm_Ev_up (by decide : 1 ≤ 6) (k_addGp M hM T e hF cs1 xv pv (nI 1) (by omega) (by omega))) ?_
                      refine r_goto (t := 182) (by decide) dc_1_40_140 ?_
                      refine r_iinc (n := 3) (k := 1) (x := nI m) (v := nI (m + 1)) (ls' := [(3, .int (nI (m + 1))), (5, .int (nI 1)), (4, .ref (D 7 m)), (0, .ref 0), (1, .int (nI 7)), (2, .int (nI 1))]) rfl (nI_1 _) (by decide) rfl dc_1_40_182 ?_
                      refine r_goto (t := 13) (by decide) dc_1_40_185 ?_
                      refine r_ls [(3, .int (nI (m + 1))), (0, .ref 0), (1, .int (nI 7)), (2, .int (nI 1))] (mm_ndk_of [3, 0, 1, 2] rfl (by decide)) (mm_sub_cons rfl (mm_sub_cons rfl (mm_sub_cons rfl (mm_sub_cons rfl (mm_sub_nil _))))) ?_
                      exact ih_m (w1 (w1 (w1 cs1 36 pv (cs1 36 pv + nI 1)) 33 xv (cs1 33 xv + nI 1)) 35 xv (cs1 35 xv + (nI 1) * nI 1)) (PpI_b hi_m hnc (fun a ha => by rw [w1_n _ _ _ (by omega), w1_n _ _ _ (by omega), w1_n _ _ _ (by omega)]) (PpB_p1 hi_m.2.2.2.1 hnc c_102 e58 e57 (by omega) (by omega) hfw))
                    · skip
                      refine r_aload_n rfl dc_1_40_105 ?_
                      refine h_get (t := cT e 0) (v := .ref 28) fx_0_74 (hF 0 (by decide)) ⟨by omega, by omega⟩ (rfl) dc_1_40_106 ?_
                      refine h_get (t := cT e 28) (v := .ref 29) fx_0_352 (hF 28 (by decide)) ⟨by omega, by omega⟩ (rfl) dc_1_40_109 ?_
                      refine r_aload rfl dc_1_40_112 ?_
                      refine h_get (t := (11, 0, rl [(6, D 9 m), (5, D 8 m)])) (v := .int (nI xv)) fx_0_356 (hSt m (by omega)).1 (hSt m (by omega)).2.1 (show some (Value.int _) = _ from congrArg (fun z => some (Value.int z)) (((hV1.2.1.2.2.2.2 m (by omega)).2.2.2.1.2.2.2.2.2.2.2).trans e58)) dc_1_40_114 ?_
                      refine r_aload rfl dc_1_40_117 ?_
                      refine h_callv (t := (11, 0, rl [(6, D 9 m), (5, D 8 m)])) (as := []) (rest := [.int (nI xv), .ref 29]) (v := .int (nI pv)) (M1 := hk M T cs1) rfl rfl iv_0_v261 (Or.inl rfl) na_1_118 (hSt m (by omega)).1 (hSt m (by omega)).2.1 (show (11 : Nat) < 14 by decide) o_118 rfl (show (2 : Nat) ≤ 8 by decide) dc_1_40_119 (by rw [← ehs]; exact mm_Ev_up (by decide : 2 ≤ 6) (k_host M T cs1 sg D m _ (hV1.2.1.2.2.2.2 m (by omega)) (inN_tN (hRt m (by omega)).2.2.2.2.2.2.1 (by decide)).2)) ?_
                      refine r_aload_n rfl dc_1_40_122 ?_
                      refine r_aload rfl dc_1_40_123 ?_
                      refine h_get (t := (11, 0, rl [(6, D 9 m), (5, D 8 m)])) (v := .int (sg 51 m)) fx_0_264 (hSt m (by omega)).1 (hSt m (by omega)).2.1 (show some (Value.int _) = _ from congrArg (fun z => some (Value.int z)) ((hV1.2.1.2.2.2.2 m (by omega)).2.2.2.1.1)) dc_1_40_125 ?_
                      refine r_aload rfl dc_1_40_128 ?_
                      refine h_get (t := (11, 0, rl [(6, D 9 m), (5, D 8 m)])) (v := .int (nI xv)) fx_0_356 (hSt m (by omega)).1 (hSt m (by omega)).2.1 (show some (Value.int _) = _ from congrArg (fun z => some (Value.int z)) (((hV1.2.1.2.2.2.2 m (by omega)).2.2.2.1.2.2.2.2.2.2.2).trans e58)) dc_1_40_130 ?_
                      refine h_callv (t := cT e 0) (as := [.int (sg 51 m), .int (nI xv)]) (rest := [.int (nI pv), .int (nI xv), .ref 29]) (v := .int ((-1))) (M1 := hk M T cs1) rfl rfl iv_0_v359 (Or.inl rfl) na_1_120 (hF 0 (by decide)) ⟨by omega, by omega⟩ (show (0 : Nat) < 14 by decide) o_120 rfl (show (3 : Nat) ≤ 8 by decide) dc_1_40_133 (by rw [← (if_neg hfw : (if sg 27 xv = sg 51 m then nI 1 else -1) = -1)]; exact mm_Ev_up (by decide : 5 ≤ 6) (k_wayOf hV1 xv hxv (sg 51 m))) ?_
                      refine r_iconst (v := nI 1) (by decide) dc_1_40_136 ?_
                      refine h_call0 (t := cT e 29) (as := [.int (nI xv), .int (nI pv), .int ((-1)), .int (nI 1)]) (rest := []) (M1 := hk M T (w1 (w1 (w1 cs1 36 pv (cs1 36 pv + nI 1)) 34 xv (cs1 34 xv + nI 1)) 35 xv (cs1 35 xv + ((-1)) * nI 1))) rfl rfl iv_0_v362 (Or.inl rfl) na_1_124 (hF 29 (by decide)) ⟨by omega, by omega⟩ (show (8 : Nat) < 14 by decide) o_124 rfl (show (0 : Nat) ≤ 8 by decide) dc_1_40_137 (mm_Ev_up (by decide : 1 ≤ 6) (k_addGm M hM T e hF cs1 xv pv (nI 1) (by omega) (by omega))) ?_
                      refine r_goto (t := 182) (by decide) dc_1_40_140 ?_
                      refine r_iinc (n := 3) (k := 1) (x := nI m) (v := nI (m + 1)) (ls' := [(3, .int (nI (m + 1))), (5, .int (nI 1)), (4, .ref (D 7 m)), (0, .ref 0), (1, .int (nI 7)), (2, .int (nI 1))]) rfl (nI_1 _) (by decide) rfl dc_1_40_182 ?_
                      refine r_goto (t := 13) (by decide) dc_1_40_185 ?_
                      refine r_ls [(3, .int (nI (m + 1))), (0, .ref 0), (1, .int (nI 7)), (2, .int (nI 1))] (mm_ndk_of [3, 0, 1, 2] rfl (by decide)) (mm_sub_cons rfl (mm_sub_cons rfl (mm_sub_cons rfl (mm_sub_cons rfl (mm_sub_nil _))))) ?_
                      exact ih_m (w1 (w1 (w1 cs1 36 pv (cs1 36 pv + nI 1)) 34 xv (cs1 34 xv + nI 1)) 35 xv (cs1 35 xv + ((-1)) * nI 1)) (PpI_b hi_m hnc (fun a ha => by rw [w1_n _ _ _ (by omega), w1_n _ _ _ (by omega), w1_n _ _ _ (by omega)]) (PpB_m1 hi_m.2.2.2.1 hnc c_102 e58 e57 (by omega) (by omega) hfw))
                · skip
                  refine r_aload_n rfl dc_1_40_85 ?_
                  refine r_iload_n rfl dc_1_40_86 ?_
                  refine r_aload rfl dc_1_40_87 ?_
                  refine r_iload_n rfl dc_1_40_89 ?_
                  obtain ⟨cs3, ⟨hf3, h283, hr3⟩, hev3⟩ := k_addP1 hV1 m (cnA (selM 7 1 sg) m).1 h_m (by omega) hi_m.2.1 my hmy
                  refine h_call0 (t := cT e 0) (as := [.int (nI m), .ref (D 7 m), .int (nI 1)]) (rest := []) (M1 := hk M T cs3) rfl rfl iv_0_v348 (Or.inl rfl) na_1_117 (hF 0 (by decide)) ⟨by omega, by omega⟩ (show (0 : Nat) < 14 by decide) o_117 rfl (show (0 : Nat) ≤ 8 by decide) dc_1_40_90 (hev3) ?_
                  refine r_goto (t := 182) (by decide) dc_1_40_93 ?_
                  refine r_iinc (n := 3) (k := 1) (x := nI m) (v := nI (m + 1)) (ls' := [(3, .int (nI (m + 1))), (5, .int (nI 1)), (4, .ref (D 7 m)), (0, .ref 0), (1, .int (nI 7)), (2, .int (nI 1))]) rfl (nI_1 _) (by decide) rfl dc_1_40_182 ?_
                  refine r_goto (t := 13) (by decide) dc_1_40_185 ?_
                  refine r_ls [(3, .int (nI (m + 1))), (0, .ref 0), (1, .int (nI 7)), (2, .int (nI 1))] (mm_ndk_of [3, 0, 1, 2] rfl (by decide)) (mm_sub_cons rfl (mm_sub_cons rfl (mm_sub_cons rfl (mm_sub_cons rfl (mm_sub_nil _))))) ?_
                  exact ih_m cs3 (PpI_a hi_m ⟨⟨rfl, Or.inr ⟨rfl, c_59⟩⟩, by omega⟩ hf3 h283 hr3)
  obtain ⟨z9, ⟨cs1, p9, e9⟩, h9⟩ := hq9
  subst e9
  exact ⟨cs1, p9, h9⟩
set_option maxHeartbeats 4000000 in
theorem k_prep00 {M : mH} {T : Nat → mT} {cs sg : Nat → Nat → Int32} {io : Nat → Int32} {e : Nat → Nat} {D : Nat → Nat → Nat} {nh nx ns nf ny tp : Nat} {cm : Nat → Nat} {w : Nat → Nat → Nat} {cn : Nat → Nat} {wc : Nat → Nat → Nat} (hV : CV M T cs io sg e D nh nx ns nf ny tp cm w cn wc) (my : Nat → Nat → Int32) (hmy : my = (fun s k => sp_mby io sg cm w nx s (sg 60 (4 * s + k)))) : ∃ (cs1 : Nat → Nat → Int32), (PpI D cs cs1 io (selM 0 0 sg) 0 sg my nh nx ns) ∧ mm_Ev 7 111 [.ref 0, .int (nI 0), .int (nI 0)] (hk M T cs) ((none, hk M T cs1)) := by
  have hq9 : ∃ z, (fun r9 => ∃ (cs1 : Nat → Nat → Int32), (PpI D cs cs1 io (selM 0 0 sg) 0 sg my nh nx ns) ∧ r9 = ((none, hk M T cs1))) z ∧ mm_Ev 7 111 [.ref 0, .int (nI 0), .int (nI 0)] (hk M T cs) z := by
    obtain ⟨⟨hM, hMs, hW⟩, hC, hT, hR, hJ⟩ := id hV
    obtain ⟨hF, ⟨hL0, hL1, hL2⟩, hSc, hAg, hSt⟩ := id hC
    obtain ⟨⟨⟨h3, hnh⟩, ⟨h4, hnx⟩, ⟨h5, hns⟩, ⟨h7, hnf⟩, ⟨h6, hny⟩, ⟨h23, htp⟩⟩, hRa, hRb, hRs, hRs2, hRs3, hRx, hCD, hRt, hRt2, hRf⟩ := id hR
    refine r_evQ (by decide +kernel) (show (3 : Nat) ≤ mm_nL 111 by decide +kernel) ?_
    show mm_Ru 6 (0, 6, false, prog_1_method_40_code, none) 0 [(0, .ref 0), (1, .int (nI 0)), (2, .int (nI 0))] [] (hk M T cs) (fun r9 => ∃ (cs1 : Nat → Nat → Int32), (PpI D cs cs1 io (selM 0 0 sg) 0 sg my nh nx ns) ∧ r9 = ((none, hk M T cs1)))
    refine r_aload_n rfl dc_1_40_0 ?_
    refine h_get (t := cT e 0) (v := .ref 28) fx_0_74 (hF 0 (by decide)) ⟨by omega, by omega⟩ (rfl) dc_1_40_1 ?_
    obtain ⟨csa, ⟨hba, hsa, hfa, -⟩, heva⟩ := k_pclear M hM T e hF cs
    have hVa : CV M T csa io sg e D nh nx ns nf ny tp cm w cn wc := CV_f hV (fun a h1 _ => hfa a (by omega))
    refine h_call0 (t := cT e 28) (as := []) (rest := []) (M1 := hk M T csa) rfl rfl iv_0_v343 (Or.inl rfl) na_1_112 (hF 28 (by decide)) ⟨by omega, by omega⟩ (show (7 : Nat) < 14 by decide) o_112 rfl (show (0 : Nat) ≤ 8 by decide) dc_1_40_4 (mm_Ev_up (by decide : 3 ≤ 6) (heva)) ?_
    refine r_aload_n rfl dc_1_40_7 ?_
    obtain ⟨csb, ⟨hfb, hb1, hb2, hb3⟩, hevb⟩ := k_setB hVa hba
    have hVb := CV_f hVa (FrB_C hfb)
    have hI0 : PpI D cs csb io (selM 0 0 sg) 0 sg my nh nx 0 := ⟨fun a h1 _ => (hfb a (by omega)).trans (hfa a (by omega)), by rw [hfb 28 (by decide)]; exact hsa, fun i hi => absurd hi (Nat.not_lt_zero i), ⟨fun x hx => by rw [hfb 33 (by decide), hfb 34 (by decide), hfb 35 (by decide)]; exact ⟨(hba.1 x hx).2.2.1, (hba.1 x hx).2.2.2.1, (hba.1 x hx).2.2.2.2⟩, fun h hh => by rw [hfb 36 (by decide)]; exact (hba.2 h hh).2⟩, hb1, hb2, hb3⟩
    refine h_call0 (t := cT e 0) (as := []) (rest := []) (M1 := hk M T csb) rfl rfl iv_0_v344 (Or.inl rfl) na_1_114 (hF 0 (by decide)) ⟨by omega, by omega⟩ (show (0 : Nat) < 14 by decide) o_114 rfl (show (0 : Nat) ≤ 8 by decide) dc_1_40_8 (mm_Ev_up (by decide : 5 ≤ 6) (hevb)) ?_
    refine r_iconst (v := nI 0) (by decide) dc_1_40_11 ?_
    refine r_istore_n (ls' := [(3, .int (nI 0)), (0, .ref 0), (1, .int (nI 0)), (2, .int (nI 0))]) (by decide) rfl dc_1_40_12 ?_
    refine mm_cnt (P := fun m => ∀ (cs1 : Nat → Nat → Int32), (PpI D cs cs1 io (selM 0 0 sg) 0 sg my nh nx m) → mm_Ru 6 (0, 6, false, prog_1_method_40_code, none) 13 [(3, .int (nI m)), (0, .ref 0), (1, .int (nI 0)), (2, .int (nI 0))] [] (hk M T cs1) (fun r9 => ∃ (cs1 : Nat → Nat → Int32), (PpI D cs cs1 io (selM 0 0 sg) 0 sg my nh nx ns) ∧ r9 = ((none, hk M T cs1)))) ns ?_ ?_ 0 (by omega) csb (hI0)
    · intro  cs1 hi_m
      show mm_Ru 6 (0, 6, false, prog_1_method_40_code, none) 13 [(3, .int (nI ns)), (0, .ref 0), (1, .int (nI 0)), (2, .int (nI 0))] [] (hk M T cs1) (fun r9 => ∃ (cs1 : Nat → Nat → Int32), (PpI D cs cs1 io (selM 0 0 sg) 0 sg my nh nx ns) ∧ r9 = ((none, hk M T cs1)))
      have hV1 := CV_f hV hi_m.1
      refine r_iload_n rfl dc_1_40_13 ?_
      refine r_aload_n rfl dc_1_40_14 ?_
      refine h_get (t := cT e 0) (v := .ref 27) fx_0_68 (hF 0 (by decide)) ⟨by omega, by omega⟩ (rfl) dc_1_40_15 ?_
      refine h_callv (t := cT e 27) (as := []) (rest := [.int (nI ns)]) (v := .int (nI ns)) (M1 := hk M T cs1) rfl rfl iv_0_f113 (Or.inr (Or.inr rfl)) na_6_26 (hF 27 (by decide)) ⟨by omega, by omega⟩ (show (6 : Nat) < 14 by decide) o_26 rfl (show (1 : Nat) ≤ 8 by decide) dc_1_40_18 (mm_Ev_up (by decide : 1 ≤ 6) (k_sizeL hV1.2.1.2.1.2.2)) ?_
      refine r_ncge (t := 188) (by omega) (by omega) (by decide) dc_1_40_23 (fun c_23 => ?_) (fun c_23 => ?_)
      · skip
        refine r_vret rfl dc_1_40_188 ?_
        exact ⟨cs1, hi_m, rfl⟩
      · omega
    · intro m h_m ih_m  cs1 hi_m
      have hV1 := CV_f hV hi_m.1
      have hcl := cnA_le (selM 0 0 sg) m
      have hst9 := (hRt m h_m).2.2.2.2.2.2.2.2.2
      show mm_Ru 6 (0, 6, false, prog_1_method_40_code, none) 13 [(3, .int (nI m)), (0, .ref 0), (1, .int (nI 0)), (2, .int (nI 0))] [] (hk M T cs1) (fun r9 => ∃ (cs1 : Nat → Nat → Int32), (PpI D cs cs1 io (selM 0 0 sg) 0 sg my nh nx ns) ∧ r9 = ((none, hk M T cs1)))
      refine r_iload_n rfl dc_1_40_13 ?_
      refine r_aload_n rfl dc_1_40_14 ?_
      refine h_get (t := cT e 0) (v := .ref 27) fx_0_68 (hF 0 (by decide)) ⟨by omega, by omega⟩ (rfl) dc_1_40_15 ?_
      refine h_callv (t := cT e 27) (as := []) (rest := [.int (nI m)]) (v := .int (nI ns)) (M1 := hk M T cs1) rfl rfl iv_0_f113 (Or.inr (Or.inr rfl)) na_6_26 (hF 27 (by decide)) ⟨by omega, by omega⟩ (show (6 : Nat) < 14 by decide) o_26 rfl (show (1 : Nat) ≤ 8 by decide) dc_1_40_18 (mm_Ev_up (by decide : 1 ≤ 6) (k_sizeL hV1.2.1.2.1.2.2)) ?_
      refine r_ncge (t := 188) (by omega) (by omega) (by decide) dc_1_40_23 (fun c_23 => ?_) (fun c_23 => ?_)
      · omega
      · skip
        refine r_aload_n rfl dc_1_40_26 ?_
        refine h_get (t := cT e 0) (v := .ref 27) fx_0_68 (hF 0 (by decide)) ⟨by omega, by omega⟩ (rfl) dc_1_40_27 ?_
        refine r_iload_n rfl dc_1_40_30 ?_
        refine h_callv (t := cT e 27) (as := [.int (nI m)]) (rest := []) (v := .ref (D 7 m)) (M1 := hk M T cs1) rfl rfl iv_0_f227 (Or.inr (Or.inr rfl)) na_6_40 (hF 27 (by decide)) ⟨by omega, by omega⟩ (show (6 : Nat) < 14 by decide) o_40 rfl (show (0 : Nat) ≤ 8 by decide) dc_1_40_31 (mm_Ev_up (by decide : 3 ≤ 6) (k_getL hV1.2.1.2.1.2.2 m (by omega))) ?_
        refine h_cast (t := (11, 0, rl [(6, D 9 m), (5, D 8 m)])) (c := 11) (hSt m (by omega)).1 (hSt m (by omega)).2.1 (show (11 : Nat) < 14 by decide) kr_0_175 rfl dc_1_40_36 ?_
        refine r_astore (ls' := [(4, .ref (D 7 m)), (3, .int (nI m)), (0, .ref 0), (1, .int (nI 0)), (2, .int (nI 0))]) (by decide) rfl dc_1_40_39 ?_
        refine r_aload rfl dc_1_40_41 ?_
        refine h_get (t := (11, 0, rl [(6, D 9 m), (5, D 8 m)])) (v := .int (sg 56 m)) fx_0_204 (hSt m (by omega)).1 (hSt m (by omega)).2.1 (show some (Value.int _) = _ from congrArg (fun z => some (Value.int z)) ((hV1.2.1.2.2.2.2 m (by omega)).2.2.2.1.2.2.2.2.2.2.1)) dc_1_40_43 ?_
        refine r_ifeq (t := 62) (by decide) dc_1_40_46 (fun c_46 => ?_) (fun c_46 => ?_)
        · skip
          refine r_iconst (v := nI 1) (by decide) dc_1_40_62 ?_
          refine r_goto (t := 67) (by decide) dc_1_40_63 ?_
          refine r_istore (ls' := [(5, .int (nI 1)), (4, .ref (D 7 m)), (3, .int (nI m)), (0, .ref 0), (1, .int (nI 0)), (2, .int (nI 0))]) (by decide) rfl dc_1_40_67 ?_
          refine r_iload rfl dc_1_40_69 ?_
          refine r_ifeq (t := 96) (by decide) dc_1_40_71 (fun c_71 => ?_) (fun c_71 => ?_)
          · exact absurd c_71 (by decide)
          · skip
            refine r_aload_n rfl dc_1_40_74 ?_
            refine h_get (t := cT e 0) (v := .ref 28) fx_0_74 (hF 0 (by decide)) ⟨by omega, by omega⟩ (rfl) dc_1_40_75 ?_
            refine h_get (t := cT e 28) (v := .int (nI ((cnA (selM 0 0 sg) m).1))) fx_0_347 (hF 28 (by decide)) ⟨by omega, by omega⟩ (show some (Value.int _) = _ from congrArg (fun z => some (Value.int z)) (hi_m.2.1)) dc_1_40_78 ?_
            refine r_iload_n rfl dc_1_40_81 ?_
            refine r_ncge (t := 96) (by omega) (by omega) (by decide) dc_1_40_82 (fun c_82 => ?_) (fun c_82 => ?_)
            · skip
              have hnc : ¬ chs (selM 0 0 sg) m := fun z => absurd z.1.1 (by decide)
              refine r_aload rfl dc_1_40_96 ?_
              refine h_get (t := (11, 0, rl [(6, D 9 m), (5, D 8 m)])) (v := .int (sg 56 m)) fx_0_204 (hSt m (by omega)).1 (hSt m (by omega)).2.1 (show some (Value.int _) = _ from congrArg (fun z => some (Value.int z)) ((hV1.2.1.2.2.2.2 m (by omega)).2.2.2.1.2.2.2.2.2.2.1)) dc_1_40_98 ?_
              refine r_iconst (v := nI 1) (by decide) dc_1_40_101 ?_
              refine r_icne (t := 143) (by decide) dc_1_40_102 (fun c_102 => ?_) (fun c_102 => ?_)
              · skip
                refine r_aload rfl dc_1_40_143 ?_
                refine h_get (t := (11, 0, rl [(6, D 9 m), (5, D 8 m)])) (v := .int (sg 56 m)) fx_0_204 (hSt m (by omega)).1 (hSt m (by omega)).2.1 (show some (Value.int _) = _ from congrArg (fun z => some (Value.int z)) ((hV1.2.1.2.2.2.2 m (by omega)).2.2.2.1.2.2.2.2.2.2.1)) dc_1_40_145 ?_
                refine r_iconst (v := nI 3) (by decide) dc_1_40_148 ?_
                refine r_icne (t := 182) (by decide) dc_1_40_149 (fun c_149 => ?_) (fun c_149 => ?_)
                · skip
                  refine r_iinc (n := 3) (k := 1) (x := nI m) (v := nI (m + 1)) (ls' := [(3, .int (nI (m + 1))), (5, .int (nI 1)), (4, .ref (D 7 m)), (0, .ref 0), (1, .int (nI 0)), (2, .int (nI 0))]) rfl (nI_1 _) (by decide) rfl dc_1_40_182 ?_
                  refine r_goto (t := 13) (by decide) dc_1_40_185 ?_
                  refine r_ls [(3, .int (nI (m + 1))), (0, .ref 0), (1, .int (nI 0)), (2, .int (nI 0))] (mm_ndk_of [3, 0, 1, 2] rfl (by decide)) (mm_sub_cons rfl (mm_sub_cons rfl (mm_sub_cons rfl (mm_sub_cons rfl (mm_sub_nil _))))) ?_
                  exact ih_m cs1 (PpI_n hi_m hnc ⟨c_102, c_149⟩)
                · skip
                  obtain ⟨xv, pv, hxv, hpv, e58, e57, -⟩ := (hst9.resolve_left (fun z => z.1.elim (fun y => absurd (c_149.symm.trans y) (by decide)) (fun y => absurd (c_149.symm.trans y) (by decide)))).2
                  by_cases hfw : sg 27 xv = sg 51 m
                  · skip
                    refine r_aload_n rfl dc_1_40_152 ?_
                    refine h_get (t := cT e 0) (v := .ref 28) fx_0_74 (hF 0 (by decide)) ⟨by omega, by omega⟩ (rfl) dc_1_40_153 ?_
                    refine h_get (t := cT e 28) (v := .ref 29) fx_0_352 (hF 28 (by decide)) ⟨by omega, by omega⟩ (rfl) dc_1_40_156 ?_
                    refine r_aload rfl dc_1_40_159 ?_
                    refine h_get (t := (11, 0, rl [(6, D 9 m), (5, D 8 m)])) (v := .int (nI xv)) fx_0_356 (hSt m (by omega)).1 (hSt m (by omega)).2.1 (show some (Value.int _) = _ from congrArg (fun z => some (Value.int z)) (((hV1.2.1.2.2.2.2 m (by omega)).2.2.2.1.2.2.2.2.2.2.2).trans e58)) dc_1_40_161 ?_
                    refine r_aload_n rfl dc_1_40_164 ?_
                    refine r_aload rfl dc_1_40_165 ?_
                    refine h_get (t := (11, 0, rl [(6, D 9 m), (5, D 8 m)])) (v := .int (sg 51 m)) fx_0_264 (hSt m (by omega)).1 (hSt m (by omega)).2.1 (show some (Value.int _) = _ from congrArg (fun z => some (Value.int z)) ((hV1.2.1.2.2.2.2 m (by omega)).2.2.2.1.1)) dc_1_40_167 ?_
                    refine r_aload rfl dc_1_40_170 ?_
                    refine h_get (t := (11, 0, rl [(6, D 9 m), (5, D 8 m)])) (v := .int (nI xv)) fx_0_356 (hSt m (by omega)).1 (hSt m (by omega)).2.1 (show some (Value.int _) = _ from congrArg (fun z => some (Value.int z)) (((hV1.2.1.2.2.2.2 m (by omega)).2.2.2.1.2.2.2.2.2.2.2).trans e58)) dc_1_40_172 ?_
                    refine h_callv (t := cT e 0) (as := [.int (sg 51 m), .int (nI xv)]) (rest := [.int (nI xv), .ref 29]) (v := .int (nI 1)) (M1 := hk M T cs1) rfl rfl iv_0_v359 (Or.inl rfl) na_1_120 (hF 0 (by decide)) ⟨by omega, by omega⟩ (show (0 : Nat) < 14 by decide) o_120 rfl (show (2 : Nat) ≤ 8 by decide) dc_1_40_175 (by rw [← (if_pos hfw : (if sg 27 xv = sg 51 m then nI 1 else -1) = nI 1)]; exact mm_Ev_up (by decide : 5 ≤ 6) (k_wayOf hV1 xv hxv (sg 51 m))) ?_
                    refine r_iconst (v := nI 1) (by decide) dc_1_40_178 ?_
                    refine h_call0 (t := cT e 29) (as := [.int (nI xv), .int (nI 1), .int (nI 1)]) (rest := []) (M1 := hk M T (w1 cs1 35 xv (cs1 35 xv + (nI 1) * nI 1))) rfl rfl iv_0_v367 (Or.inl rfl) na_1_125 (hF 29 (by decide)) ⟨by omega, by omega⟩ (show (8 : Nat) < 14 by decide) o_125 rfl (show (0 : Nat) ≤ 8 by decide) dc_1_40_179 (mm_Ev_up (by decide : 1 ≤ 6) (k_addB M hM T e hF cs1 xv (nI 1) (nI 1) (by omega))) ?_
                    refine r_iinc (n := 3) (k := 1) (x := nI m) (v := nI (m + 1)) (ls' := [(3, .int (nI (m + 1))), (5, .int (nI 1)), (4, .ref (D 7 m)), (0, .ref 0), (1, .int (nI 0)), (2, .int (nI 0))]) rfl (nI_1 _) (by decide) rfl dc_1_40_182 ?_
                    refine r_goto (t := 13) (by decide) dc_1_40_185 ?_
                    refine r_ls [(3, .int (nI (m + 1))), (0, .ref 0), (1, .int (nI 0)), (2, .int (nI 0))] (mm_ndk_of [3, 0, 1, 2] rfl (by decide)) (mm_sub_cons rfl (mm_sub_cons rfl (mm_sub_cons rfl (mm_sub_cons rfl (mm_sub_nil _))))) ?_
                    exact ih_m (w1 cs1 35 xv (cs1 35 xv + (nI 1) * nI 1)) (PpI_b hi_m hnc (fun a ha => by rw [w1_n _ _ _ (by omega)]) (PpB_p3 (pv := pv) hi_m.2.2.2.1 hnc c_149 e58 e57 (by omega) (by omega) hfw))
                  · skip
                    refine r_aload_n rfl dc_1_40_152 ?_
                    refine h_get (t := cT e 0) (v := .ref 28) fx_0_74 (hF 0 (by decide)) ⟨by omega, by omega⟩ (rfl) dc_1_40_153 ?_
                    refine h_get (t := cT e 28) (v := .ref 29) fx_0_352 (hF 28 (by decide)) ⟨by omega, by omega⟩ (rfl) dc_1_40_156 ?_
                    refine r_aload rfl dc_1_40_159 ?_
                    refine h_get (t := (11, 0, rl [(6, D 9 m), (5, D 8 m)])) (v := .int (nI xv)) fx_0_356 (hSt m (by omega)).1 (hSt m (by omega)).2.1 (show some (Value.int _) = _ from congrArg (fun z => some (Value.int z)) (((hV1.2.1.2.2.2.2 m (by omega)).2.2.2.1.2.2.2.2.2.2.2).trans e58)) dc_1_40_161 ?_
                    refine r_aload_n rfl dc_1_40_164 ?_
                    refine r_aload rfl dc_1_40_165 ?_
                    refine h_get (t := (11, 0, rl [(6, D 9 m), (5, D 8 m)])) (v := .int (sg 51 m)) fx_0_264 (hSt m (by omega)).1 (hSt m (by omega)).2.1 (show some (Value.int _) = _ from congrArg (fun z => some (Value.int z)) ((hV1.2.1.2.2.2.2 m (by omega)).2.2.2.1.1)) dc_1_40_167 ?_
                    refine r_aload rfl dc_1_40_170 ?_
                    refine h_get (t := (11, 0, rl [(6, D 9 m), (5, D 8 m)])) (v := .int (nI xv)) fx_0_356 (hSt m (by omega)).1 (hSt m (by omega)).2.1 (show some (Value.int _) = _ from congrArg (fun z => some (Value.int z)) (((hV1.2.1.2.2.2.2 m (by omega)).2.2.2.1.2.2.2.2.2.2.2).trans e58)) dc_1_40_172 ?_
                    refine h_callv (t := cT e 0) (as := [.int (sg 51 m), .int (nI xv)]) (rest := [.int (nI xv), .ref 29]) (v := .int ((-1))) (M1 := hk M T cs1) rfl rfl iv_0_v359 (Or.inl rfl) na_1_120 (hF 0 (by decide)) ⟨by omega, by omega⟩ (show (0 : Nat) < 14 by decide) o_120 rfl (show (2 : Nat) ≤ 8 by decide) dc_1_40_175 (by rw [← (if_neg hfw : (if sg 27 xv = sg 51 m then nI 1 else -1) = -1)]; exact mm_Ev_up (by decide : 5 ≤ 6) (k_wayOf hV1 xv hxv (sg 51 m))) ?_
                    refine r_iconst (v := nI 1) (by decide) dc_1_40_178 ?_
                    refine h_call0 (t := cT e 29) (as := [.int (nI xv), .int ((-1)), .int (nI 1)]) (rest := []) (M1 := hk M T (w1 cs1 35 xv (cs1 35 xv + ((-1)) * nI 1))) rfl rfl iv_0_v367 (Or.inl rfl) na_1_125 (hF 29 (by decide)) ⟨by omega, by omega⟩ (show (8 : Nat) < 14 by decide) o_125 rfl (show (0 : Nat) ≤ 8 by decide) dc_1_40_179 (mm_Ev_up (by decide : 1 ≤ 6) (k_addB M hM T e hF cs1 xv ((-1)) (nI 1) (by omega))) ?_
                    refine r_iinc (n := 3) (k := 1) (x := nI m) (v := nI (m + 1)) (ls' := [(3, .int (nI (m + 1))), (5, .int (nI 1)), (4, .ref (D 7 m)), (0, .ref 0), (1, .int (nI 0)), (2, .int (nI 0))]) rfl (nI_1 _) (by decide) rfl dc_1_40_182 ?_
                    refine r_goto (t := 13) (by decide) dc_1_40_185 ?_
                    refine r_ls [(3, .int (nI (m + 1))), (0, .ref 0), (1, .int (nI 0)), (2, .int (nI 0))] (mm_ndk_of [3, 0, 1, 2] rfl (by decide)) (mm_sub_cons rfl (mm_sub_cons rfl (mm_sub_cons rfl (mm_sub_cons rfl (mm_sub_nil _))))) ?_
                    exact ih_m (w1 cs1 35 xv (cs1 35 xv + ((-1)) * nI 1)) (PpI_b hi_m hnc (fun a ha => by rw [w1_n _ _ _ (by omega)]) (PpB_m3 (pv := pv) hi_m.2.2.2.1 hnc c_149 e58 e57 (by omega) (by omega) hfw))
              · skip
                obtain ⟨xv, pv, hxv, hpv, e58, e57, -⟩ := (hst9.resolve_left (fun z => z.1.elim (fun y => absurd (c_102.symm.trans y) (by decide)) (fun y => absurd (c_102.symm.trans y) (by decide)))).2
                have ehs : hst sg m = nI pv := (if_pos c_102).trans e57
                by_cases hfw : sg 27 xv = sg 51 m
                · skip
                  refine r_aload_n rfl dc_1_40_105 ?_
                  refine h_get (t := cT e 0) (v := .ref 28) fx_0_74 (hF 0 (by decide)) ⟨by omega, by omega⟩ (rfl) dc_1_40_106 ?_
                  refine h_get (t := cT e 28) (v := .ref 29) fx_0_352 (hF 28 (by decide)) ⟨by omega, by omega⟩ (rfl) dc_1_40_109 ?_
                  refine r_aload rfl dc_1_40_112 ?_
                  refine h_get (t := (11, 0, rl [(6, D 9 m), (5, D 8 m)])) (v := .int (nI xv)) fx_0_356 (hSt m (by omega)).1 (hSt m (by omega)).2.1 (show some (Value.int _) = _ from congrArg (fun z => some (Value.int z)) (((hV1.2.1.2.2.2.2 m (by omega)).2.2.2.1.2.2.2.2.2.2.2).trans e58)) dc_1_40_114 ?_
                  refine r_aload rfl dc_1_40_117 ?_
                  refine h_callv (t := (11, 0, rl [(6, D 9 m), (5, D 8 m)])) (as := []) (rest := [.int (nI xv), .ref 29]) (v := .int (nI pv)) (M1 := hk M T cs1) rfl rfl iv_0_v261 (Or.inl rfl) na_1_118 (hSt m (by omega)).1 (hSt m (by omega)).2.1 (show (11 : Nat) < 14 by decide) o_118 rfl (show (2 : Nat) ≤ 8 by decide) dc_1_40_119 (by rw [← ehs]; exact mm_Ev_up (by decide : 2 ≤ 6) (k_host M T cs1 sg D m _ (hV1.2.1.2.2.2.2 m (by omega)) (inN_tN (hRt m (by omega)).2.2.2.2.2.2.1 (by decide)).2)) ?_
                  refine r_aload_n rfl dc_1_40_122 ?_
                  refine r_aload rfl dc_1_40_123 ?_
                  refine h_get (t := (11, 0, rl [(6, D 9 m), (5, D 8 m)])) (v := .int (sg 51 m)) fx_0_264 (hSt m (by omega)).1 (hSt m (by omega)).2.1 (show some (Value.int _) = _ from congrArg (fun z => some (Value.int z)) ((hV1.2.1.2.2.2.2 m (by omega)).2.2.2.1.1)) dc_1_40_125 ?_
                  refine r_aload rfl dc_1_40_128 ?_
                  refine h_get (t := (11, 0, rl [(6, D 9 m), (5, D 8 m)])) (v := .int (nI xv)) fx_0_356 (hSt m (by omega)).1 (hSt m (by omega)).2.1 (show some (Value.int _) = _ from congrArg (fun z => some (Value.int z)) (((hV1.2.1.2.2.2.2 m (by omega)).2.2.2.1.2.2.2.2.2.2.2).trans e58)) dc_1_40_130 ?_
                  refine h_callv (t := cT e 0) (as := [.int (sg 51 m), .int (nI xv)]) (rest := [.int (nI pv), .int (nI xv), .ref 29]) (v := .int (nI 1)) (M1 := hk M T cs1) rfl rfl iv_0_v359 (Or.inl rfl) na_1_120 (hF 0 (by decide)) ⟨by omega, by omega⟩ (show (0 : Nat) < 14 by decide) o_120 rfl (show (3 : Nat) ≤ 8 by decide) dc_1_40_133 (by rw [← (if_pos hfw : (if sg 27 xv = sg 51 m then nI 1 else -1) = nI 1)]; exact mm_Ev_up (by decide : 5 ≤ 6) (k_wayOf hV1 xv hxv (sg 51 m))) ?_
                  refine r_iconst (v := nI 1) (by decide) dc_1_40_136 ?_
                  refine h_call0 (t := cT e 29) (as := [.int (nI xv), .int (nI pv), .int (nI 1), .int (nI 1)]) (rest := []) (M1 := hk M T (w1 (w1 (w1 cs1 36 pv (cs1 36 pv + nI 1)) 33 xv (cs1 33 xv + nI 1)) 35 xv (cs1 35 xv + (nI 1) * nI 1))) rfl rfl iv_0_v362 (Or.inl rfl) na_1_124 (hF 29 (by decide)) ⟨by omega, by omega⟩ (show (8 : Nat) < 14 by decide) o_124 rfl (show (0 : Nat) ≤ 8 by decide) dc_1_40_137 (mm_Ev_up (by decide : 1 ≤ 6) (k_addGp M hM T e hF cs1 xv pv (nI 1) (by omega) (by omega))) ?_
                  refine r_goto (t := 182) (by decide) dc_1_40_140 ?_
                  refine r_iinc (n := 3) (k := 1) (x := nI m) (v := nI (m + 1)) (ls' := [(3, .int (nI (m + 1))), (5, .int (nI 1)), (4, .ref (D 7 m)), (0, .ref 0), (1, .int (nI 0)), (2, .int (nI 0))]) rfl (nI_1 _) (by decide) rfl dc_1_40_182 ?_
                  refine r_goto (t := 13) (by decide) dc_1_40_185 ?_
                  refine r_ls [(3, .int (nI (m + 1))), (0, .ref 0), (1, .int (nI 0)), (2, .int (nI 0))] (mm_ndk_of [3, 0, 1, 2] rfl (by decide)) (mm_sub_cons rfl (mm_sub_cons rfl (mm_sub_cons rfl (mm_sub_cons rfl (mm_sub_nil _))))) ?_
                  exact ih_m (w1 (w1 (w1 cs1 36 pv (cs1 36 pv + nI 1)) 33 xv (cs1 33 xv + nI 1)) 35 xv (cs1 35 xv + (nI 1) * nI 1)) (PpI_b hi_m hnc (fun a ha => by rw [w1_n _ _ _ (by omega), w1_n _ _ _ (by omega), w1_n _ _ _ (by omega)]) (PpB_p1 hi_m.2.2.2.1 hnc c_102 e58 e57 (by omega) (by omega) hfw))
                · skip
                  refine r_aload_n rfl dc_1_40_105 ?_
                  refine h_get (t := cT e 0) (v := .ref 28) fx_0_74 (hF 0 (by decide)) ⟨by omega, by omega⟩ (rfl) dc_1_40_106 ?_
                  refine h_get (t := cT e 28) (v := .ref 29) fx_0_352 (hF 28 (by decide)) ⟨by omega, by omega⟩ (rfl) dc_1_40_109 ?_
                  refine r_aload rfl dc_1_40_112 ?_
                  refine h_get (t := (11, 0, rl [(6, D 9 m), (5, D 8 m)])) (v := .int (nI xv)) fx_0_356 (hSt m (by omega)).1 (hSt m (by omega)).2.1 (show some (Value.int _) = _ from congrArg (fun z => some (Value.int z)) (((hV1.2.1.2.2.2.2 m (by omega)).2.2.2.1.2.2.2.2.2.2.2).trans e58)) dc_1_40_114 ?_
                  refine r_aload rfl dc_1_40_117 ?_
                  refine h_callv (t := (11, 0, rl [(6, D 9 m), (5, D 8 m)])) (as := []) (rest := [.int (nI xv), .ref 29]) (v := .int (nI pv)) (M1 := hk M T cs1) rfl rfl iv_0_v261 (Or.inl rfl) na_1_118 (hSt m (by omega)).1 (hSt m (by omega)).2.1 (show (11 : Nat) < 14 by decide) o_118 rfl (show (2 : Nat) ≤ 8 by decide) dc_1_40_119 (by rw [← ehs]; exact mm_Ev_up (by decide : 2 ≤ 6) (k_host M T cs1 sg D m _ (hV1.2.1.2.2.2.2 m (by omega)) (inN_tN (hRt m (by omega)).2.2.2.2.2.2.1 (by decide)).2)) ?_
                  refine r_aload_n rfl dc_1_40_122 ?_
                  refine r_aload rfl dc_1_40_123 ?_
                  refine h_get (t := (11, 0, rl [(6, D 9 m), (5, D 8 m)])) (v := .int (sg 51 m)) fx_0_264 (hSt m (by omega)).1 (hSt m (by omega)).2.1 (show some (Value.int _) = _ from congrArg (fun z => some (Value.int z)) ((hV1.2.1.2.2.2.2 m (by omega)).2.2.2.1.1)) dc_1_40_125 ?_
                  refine r_aload rfl dc_1_40_128 ?_
                  refine h_get (t := (11, 0, rl [(6, D 9 m), (5, D 8 m)])) (v := .int (nI xv)) fx_0_356 (hSt m (by omega)).1 (hSt m (by omega)).2.1 (show some (Value.int _) = _ from congrArg (fun z => some (Value.int z)) (((hV1.2.1.2.2.2.2 m (by omega)).2.2.2.1.2.2.2.2.2.2.2).trans e58)) dc_1_40_130 ?_
                  refine h_callv (t := cT e 0) (as := [.int (sg 51 m), .int (nI xv)]) (rest := [.int (nI pv), .int (nI xv), .ref 29]) (v := .int ((-1))) (M1 := hk M T cs1) rfl rfl iv_0_v359 (Or.inl rfl) na_1_120 (hF 0 (by decide)) ⟨by omega, by omega⟩ (show (0 : Nat) < 14 by decide) o_120 rfl (show (3 : Nat) ≤ 8 by decide) dc_1_40_133 (by rw [← (if_neg hfw : (if sg 27 xv = sg 51 m then nI 1 else -1) = -1)]; exact mm_Ev_up (by decide : 5 ≤ 6) (k_wayOf hV1 xv hxv (sg 51 m))) ?_
                  refine r_iconst (v := nI 1) (by decide) dc_1_40_136 ?_
                  refine h_call0 (t := cT e 29) (as := [.int (nI xv), .int (nI pv), .int ((-1)), .int (nI 1)]) (rest := []) (M1 := hk M T (w1 (w1 (w1 cs1 36 pv (cs1 36 pv + nI 1)) 34 xv (cs1 34 xv + nI 1)) 35 xv (cs1 35 xv + ((-1)) * nI 1))) rfl rfl iv_0_v362 (Or.inl rfl) na_1_124 (hF 29 (by decide)) ⟨by omega, by omega⟩ (show (8 : Nat) < 14 by decide) o_124 rfl (show (0 : Nat) ≤ 8 by decide) dc_1_40_137 (mm_Ev_up (by decide : 1 ≤ 6) (k_addGm M hM T e hF cs1 xv pv (nI 1) (by omega) (by omega))) ?_
                  refine r_goto (t := 182) (by decide) dc_1_40_140 ?_
                  refine r_iinc (n := 3) (k := 1) (x := nI m) (v := nI (m + 1)) (ls' := [(3, .int (nI (m + 1))), (5, .int (nI 1)), (4, .ref (D 7 m)), (0, .ref 0), (1, .int (nI 0)), (2, .int (nI 0))]) rfl (nI_1 _) (by decide) rfl dc_1_40_182 ?_
                  refine r_goto (t := 13) (by decide) dc_1_40_185 ?_
                  refine r_ls [(3, .int (nI (m + 1))), (0, .ref 0), (1, .int (nI 0)), (2, .int (nI 0))] (mm_ndk_of [3, 0, 1, 2] rfl (by decide)) (mm_sub_cons rfl (mm_sub_cons rfl (mm_sub_cons rfl (mm_sub_cons rfl (mm_sub_nil _))))) ?_
                  exact ih_m (w1 (w1 (w1 cs1 36 pv (cs1 36 pv + nI 1)) 34 xv (cs1 34 xv + nI 1)) 35 xv (cs1 35 xv + ((-1)) * nI 1)) (PpI_b hi_m hnc (fun a ha => by rw [w1_n _ _ _ (by omega), w1_n _ _ _ (by omega), w1_n _ _ _ (by omega)]) (PpB_m1 hi_m.2.2.2.1 hnc c_102 e58 e57 (by omega) (by omega) hfw))
            · omega
        · skip
          refine r_iload_n rfl dc_1_40_49 ?_
          refine r_ifeq (t := 66) (by decide) dc_1_40_50 (fun c_50 => ?_) (fun c_50 => ?_)
          · skip
            refine r_iconst (v := nI 0) (by decide) dc_1_40_66 ?_
            refine r_istore (ls' := [(5, .int (nI 0)), (4, .ref (D 7 m)), (3, .int (nI m)), (0, .ref 0), (1, .int (nI 0)), (2, .int (nI 0))]) (by decide) rfl dc_1_40_67 ?_
            refine r_iload rfl dc_1_40_69 ?_
            refine r_ifeq (t := 96) (by decide) dc_1_40_71 (fun c_71 => ?_) (fun c_71 => ?_)
            · skip
              have hnc : ¬ chs (selM 0 0 sg) m := fun z => z.1.2.elim c_46 (fun y => absurd y.1 (by decide))
              refine r_aload rfl dc_1_40_96 ?_
              refine h_get (t := (11, 0, rl [(6, D 9 m), (5, D 8 m)])) (v := .int (sg 56 m)) fx_0_204 (hSt m (by omega)).1 (hSt m (by omega)).2.1 (show some (Value.int _) = _ from congrArg (fun z => some (Value.int z)) ((hV1.2.1.2.2.2.2 m (by omega)).2.2.2.1.2.2.2.2.2.2.1)) dc_1_40_98 ?_
              refine r_iconst (v := nI 1) (by decide) dc_1_40_101 ?_
              refine r_icne (t := 143) (by decide) dc_1_40_102 (fun c_102 => ?_) (fun c_102 => ?_)
              · skip
                refine r_aload rfl dc_1_40_143 ?_
                refine h_get (t := (11, 0, rl [(6, D 9 m), (5, D 8 m)])) (v := .int (sg 56 m)) fx_0_204 (hSt m (by omega)).1 (hSt m (by omega)).2.1 (show some (Value.int _) = _ from congrArg (fun z => some (Value.int z)) ((hV1.2.1.2.2.2.2 m (by omega)).2.2.2.1.2.2.2.2.2.2.1)) dc_1_40_145 ?_
                refine r_iconst (v := nI 3) (by decide) dc_1_40_148 ?_
                refine r_icne (t := 182) (by decide) dc_1_40_149 (fun c_149 => ?_) (fun c_149 => ?_)
                · skip
                  refine r_iinc (n := 3) (k := 1) (x := nI m) (v := nI (m + 1)) (ls' := [(3, .int (nI (m + 1))), (5, .int (nI 0)), (4, .ref (D 7 m)), (0, .ref 0), (1, .int (nI 0)), (2, .int (nI 0))]) rfl (nI_1 _) (by decide) rfl dc_1_40_182 ?_
                  refine r_goto (t := 13) (by decide) dc_1_40_185 ?_
                  refine r_ls [(3, .int (nI (m + 1))), (0, .ref 0), (1, .int (nI 0)), (2, .int (nI 0))] (mm_ndk_of [3, 0, 1, 2] rfl (by decide)) (mm_sub_cons rfl (mm_sub_cons rfl (mm_sub_cons rfl (mm_sub_cons rfl (mm_sub_nil _))))) ?_
                  exact ih_m cs1 (PpI_n hi_m hnc ⟨c_102, c_149⟩)
                · skip
                  obtain ⟨xv, pv, hxv, hpv, e58, e57, -⟩ := (hst9.resolve_left (fun z => z.1.elim (fun y => absurd (c_149.symm.trans y) (by decide)) (fun y => absurd (c_149.symm.trans y) (by decide)))).2
                  by_cases hfw : sg 27 xv = sg 51 m
                  · skip
                    refine r_aload_n rfl dc_1_40_152 ?_
                    refine h_get (t := cT e 0) (v := .ref 28) fx_0_74 (hF 0 (by decide)) ⟨by omega, by omega⟩ (rfl) dc_1_40_153 ?_
                    refine h_get (t := cT e 28) (v := .ref 29) fx_0_352 (hF 28 (by decide)) ⟨by omega, by omega⟩ (rfl) dc_1_40_156 ?_
                    refine r_aload rfl dc_1_40_159 ?_
                    refine h_get (t := (11, 0, rl [(6, D 9 m), (5, D 8 m)])) (v := .int (nI xv)) fx_0_356 (hSt m (by omega)).1 (hSt m (by omega)).2.1 (show some (Value.int _) = _ from congrArg (fun z => some (Value.int z)) (((hV1.2.1.2.2.2.2 m (by omega)).2.2.2.1.2.2.2.2.2.2.2).trans e58)) dc_1_40_161 ?_
                    refine r_aload_n rfl dc_1_40_164 ?_
                    refine r_aload rfl dc_1_40_165 ?_
                    refine h_get (t := (11, 0, rl [(6, D 9 m), (5, D 8 m)])) (v := .int (sg 51 m)) fx_0_264 (hSt m (by omega)).1 (hSt m (by omega)).2.1 (show some (Value.int _) = _ from congrArg (fun z => some (Value.int z)) ((hV1.2.1.2.2.2.2 m (by omega)).2.2.2.1.1)) dc_1_40_167 ?_
                    refine r_aload rfl dc_1_40_170 ?_
                    refine h_get (t := (11, 0, rl [(6, D 9 m), (5, D 8 m)])) (v := .int (nI xv)) fx_0_356 (hSt m (by omega)).1 (hSt m (by omega)).2.1 (show some (Value.int _) = _ from congrArg (fun z => some (Value.int z)) (((hV1.2.1.2.2.2.2 m (by omega)).2.2.2.1.2.2.2.2.2.2.2).trans e58)) dc_1_40_172 ?_
                    refine h_callv (t := cT e 0) (as := [.int (sg 51 m), .int (nI xv)]) (rest := [.int (nI xv), .ref 29]) (v := .int (nI 1)) (M1 := hk M T cs1) rfl rfl iv_0_v359 (Or.inl rfl) na_1_120 (hF 0 (by decide)) ⟨by omega, by omega⟩ (show (0 : Nat) < 14 by decide) o_120 rfl (show (2 : Nat) ≤ 8 by decide) dc_1_40_175 (by rw [← (if_pos hfw : (if sg 27 xv = sg 51 m then nI 1 else -1) = nI 1)]; exact mm_Ev_up (by decide : 5 ≤ 6) (k_wayOf hV1 xv hxv (sg 51 m))) ?_
                    refine r_iconst (v := nI 1) (by decide) dc_1_40_178 ?_
                    refine h_call0 (t := cT e 29) (as := [.int (nI xv), .int (nI 1), .int (nI 1)]) (rest := []) (M1 := hk M T (w1 cs1 35 xv (cs1 35 xv + (nI 1) * nI 1))) rfl rfl iv_0_v367 (Or.inl rfl) na_1_125 (hF 29 (by decide)) ⟨by omega, by omega⟩ (show (8 : Nat) < 14 by decide) o_125 rfl (show (0 : Nat) ≤ 8 by decide) dc_1_40_179 (mm_Ev_up (by decide : 1 ≤ 6) (k_addB M hM T e hF cs1 xv (nI 1) (nI 1) (by omega))) ?_
                    refine r_iinc (n := 3) (k := 1) (x := nI m) (v := nI (m + 1)) (ls' := [(3, .int (nI (m + 1))), (5, .int (nI 0)), (4, .ref (D 7 m)), (0, .ref 0), (1, .int (nI 0)), (2, .int (nI 0))]) rfl (nI_1 _) (by decide) rfl dc_1_40_182 ?_
                    refine r_goto (t := 13) (by decide) dc_1_40_185 ?_
                    refine r_ls [(3, .int (nI (m + 1))), (0, .ref 0), (1, .int (nI 0)), (2, .int (nI 0))] (mm_ndk_of [3, 0, 1, 2] rfl (by decide)) (mm_sub_cons rfl (mm_sub_cons rfl (mm_sub_cons rfl (mm_sub_cons rfl (mm_sub_nil _))))) ?_
                    exact ih_m (w1 cs1 35 xv (cs1 35 xv + (nI 1) * nI 1)) (PpI_b hi_m hnc (fun a ha => by rw [w1_n _ _ _ (by omega)]) (PpB_p3 (pv := pv) hi_m.2.2.2.1 hnc c_149 e58 e57 (by omega) (by omega) hfw))
                  · skip
                    refine r_aload_n rfl dc_1_40_152 ?_
                    refine h_get (t := cT e 0) (v := .ref 28) fx_0_74 (hF 0 (by decide)) ⟨by omega, by omega⟩ (rfl) dc_1_40_153 ?_
                    refine h_get (t := cT e 28) (v := .ref 29) fx_0_352 (hF 28 (by decide)) ⟨by omega, by omega⟩ (rfl) dc_1_40_156 ?_
                    refine r_aload rfl dc_1_40_159 ?_
                    refine h_get (t := (11, 0, rl [(6, D 9 m), (5, D 8 m)])) (v := .int (nI xv)) fx_0_356 (hSt m (by omega)).1 (hSt m (by omega)).2.1 (show some (Value.int _) = _ from congrArg (fun z => some (Value.int z)) (((hV1.2.1.2.2.2.2 m (by omega)).2.2.2.1.2.2.2.2.2.2.2).trans e58)) dc_1_40_161 ?_
                    refine r_aload_n rfl dc_1_40_164 ?_
                    refine r_aload rfl dc_1_40_165 ?_
                    refine h_get (t := (11, 0, rl [(6, D 9 m), (5, D 8 m)])) (v := .int (sg 51 m)) fx_0_264 (hSt m (by omega)).1 (hSt m (by omega)).2.1 (show some (Value.int _) = _ from congrArg (fun z => some (Value.int z)) ((hV1.2.1.2.2.2.2 m (by omega)).2.2.2.1.1)) dc_1_40_167 ?_
                    refine r_aload rfl dc_1_40_170 ?_
                    refine h_get (t := (11, 0, rl [(6, D 9 m), (5, D 8 m)])) (v := .int (nI xv)) fx_0_356 (hSt m (by omega)).1 (hSt m (by omega)).2.1 (show some (Value.int _) = _ from congrArg (fun z => some (Value.int z)) (((hV1.2.1.2.2.2.2 m (by omega)).2.2.2.1.2.2.2.2.2.2.2).trans e58)) dc_1_40_172 ?_
                    refine h_callv (t := cT e 0) (as := [.int (sg 51 m), .int (nI xv)]) (rest := [.int (nI xv), .ref 29]) (v := .int ((-1))) (M1 := hk M T cs1) rfl rfl iv_0_v359 (Or.inl rfl) na_1_120 (hF 0 (by decide)) ⟨by omega, by omega⟩ (show (0 : Nat) < 14 by decide) o_120 rfl (show (2 : Nat) ≤ 8 by decide) dc_1_40_175 (by rw [← (if_neg hfw : (if sg 27 xv = sg 51 m then nI 1 else -1) = -1)]; exact mm_Ev_up (by decide : 5 ≤ 6) (k_wayOf hV1 xv hxv (sg 51 m))) ?_
                    refine r_iconst (v := nI 1) (by decide) dc_1_40_178 ?_
                    refine h_call0 (t := cT e 29) (as := [.int (nI xv), .int ((-1)), .int (nI 1)]) (rest := []) (M1 := hk M T (w1 cs1 35 xv (cs1 35 xv + ((-1)) * nI 1))) rfl rfl iv_0_v367 (Or.inl rfl) na_1_125 (hF 29 (by decide)) ⟨by omega, by omega⟩ (show (8 : Nat) < 14 by decide) o_125 rfl (show (0 : Nat) ≤ 8 by decide) dc_1_40_179 (mm_Ev_up (by decide : 1 ≤ 6) (k_addB M hM T e hF cs1 xv ((-1)) (nI 1) (by omega))) ?_
                    refine r_iinc (n := 3) (k := 1) (x := nI m) (v := nI (m + 1)) (ls' := [(3, .int (nI (m + 1))), (5, .int (nI 0)), (4, .ref (D 7 m)), (0, .ref 0), (1, .int (nI 0)), (2, .int (nI 0))]) rfl (nI_1 _) (by decide) rfl dc_1_40_182 ?_
                    refine r_goto (t := 13) (by decide) dc_1_40_185 ?_
                    refine r_ls [(3, .int (nI (m + 1))), (0, .ref 0), (1, .int (nI 0)), (2, .int (nI 0))] (mm_ndk_of [3, 0, 1, 2] rfl (by decide)) (mm_sub_cons rfl (mm_sub_cons rfl (mm_sub_cons rfl (mm_sub_cons rfl (mm_sub_nil _))))) ?_
                    exact ih_m (w1 cs1 35 xv (cs1 35 xv + ((-1)) * nI 1)) (PpI_b hi_m hnc (fun a ha => by rw [w1_n _ _ _ (by omega)]) (PpB_m3 (pv := pv) hi_m.2.2.2.1 hnc c_149 e58 e57 (by omega) (by omega) hfw))
              · skip
                obtain ⟨xv, pv, hxv, hpv, e58, e57, -⟩ := (hst9.resolve_left (fun z => z.1.elim (fun y => absurd (c_102.symm.trans y) (by decide)) (fun y => absurd (c_102.symm.trans y) (by decide)))).2
                have ehs : hst sg m = nI pv := (if_pos c_102).trans e57
                by_cases hfw : sg 27 xv = sg 51 m
                · skip
                  refine r_aload_n rfl dc_1_40_105 ?_
                  refine h_get (t := cT e 0) (v := .ref 28) fx_0_74 (hF 0 (by decide)) ⟨by omega, by omega⟩ (rfl) dc_1_40_106 ?_
                  refine h_get (t := cT e 28) (v := .ref 29) fx_0_352 (hF 28 (by decide)) ⟨by omega, by omega⟩ (rfl) dc_1_40_109 ?_
                  refine r_aload rfl dc_1_40_112 ?_
                  refine h_get (t := (11, 0, rl [(6, D 9 m), (5, D 8 m)])) (v := .int (nI xv)) fx_0_356 (hSt m (by omega)).1 (hSt m (by omega)).2.1 (show some (Value.int _) = _ from congrArg (fun z => some (Value.int z)) (((hV1.2.1.2.2.2.2 m (by omega)).2.2.2.1.2.2.2.2.2.2.2).trans e58)) dc_1_40_114 ?_
                  refine r_aload rfl dc_1_40_117 ?_
                  refine h_callv (t := (11, 0, rl [(6, D 9 m), (5, D 8 m)])) (as := []) (rest := [.int (nI xv), .ref 29]) (v := .int (nI pv)) (M1 := hk M T cs1) rfl rfl iv_0_v261 (Or.inl rfl) na_1_118 (hSt m (by omega)).1 (hSt m (by omega)).2.1 (show (11 : Nat) < 14 by decide) o_118 rfl (show (2 : Nat) ≤ 8 by decide) dc_1_40_119 (by rw [← ehs]; exact mm_Ev_up (by decide : 2 ≤ 6) (k_host M T cs1 sg D m _ (hV1.2.1.2.2.2.2 m (by omega)) (inN_tN (hRt m (by omega)).2.2.2.2.2.2.1 (by decide)).2)) ?_
                  refine r_aload_n rfl dc_1_40_122 ?_
                  refine r_aload rfl dc_1_40_123 ?_
                  refine h_get (t := (11, 0, rl [(6, D 9 m), (5, D 8 m)])) (v := .int (sg 51 m)) fx_0_264 (hSt m (by omega)).1 (hSt m (by omega)).2.1 (show some (Value.int _) = _ from congrArg (fun z => some (Value.int z)) ((hV1.2.1.2.2.2.2 m (by omega)).2.2.2.1.1)) dc_1_40_125 ?_
                  refine r_aload rfl dc_1_40_128 ?_
                  refine h_get (t := (11, 0, rl [(6, D 9 m), (5, D 8 m)])) (v := .int (nI xv)) fx_0_356 (hSt m (by omega)).1 (hSt m (by omega)).2.1 (show some (Value.int _) = _ from congrArg (fun z => some (Value.int z)) (((hV1.2.1.2.2.2.2 m (by omega)).2.2.2.1.2.2.2.2.2.2.2).trans e58)) dc_1_40_130 ?_
                  refine h_callv (t := cT e 0) (as := [.int (sg 51 m), .int (nI xv)]) (rest := [.int (nI pv), .int (nI xv), .ref 29]) (v := .int (nI 1)) (M1 := hk M T cs1) rfl rfl iv_0_v359 (Or.inl rfl) na_1_120 (hF 0 (by decide)) ⟨by omega, by omega⟩ (show (0 : Nat) < 14 by decide) o_120 rfl (show (3 : Nat) ≤ 8 by decide) dc_1_40_133 (by rw [← (if_pos hfw : (if sg 27 xv = sg 51 m then nI 1 else -1) = nI 1)]; exact mm_Ev_up (by decide : 5 ≤ 6) (k_wayOf hV1 xv hxv (sg 51 m))) ?_
                  refine r_iconst (v := nI 1) (by decide) dc_1_40_136 ?_
                  refine h_call0 (t := cT e 29) (as := [.int (nI xv), .int (nI pv), .int (nI 1), .int (nI 1)]) (rest := []) (M1 := hk M T (w1 (w1 (w1 cs1 36 pv (cs1 36 pv + nI 1)) 33 xv (cs1 33 xv + nI 1)) 35 xv (cs1 35 xv + (nI 1) * nI 1))) rfl rfl iv_0_v362 (Or.inl rfl) na_1_124 (hF 29 (by decide)) ⟨by omega, by omega⟩ (show (8 : Nat) < 14 by decide) o_124 rfl (show (0 : Nat) ≤ 8 by decide) dc_1_40_137 (mm_Ev_up (by decide : 1 ≤ 6) (k_addGp M hM T e hF cs1 xv pv (nI 1) (by omega) (by omega))) ?_
                  refine r_goto (t := 182) (by decide) dc_1_40_140 ?_
                  refine r_iinc (n := 3) (k := 1) (x := nI m) (v := nI (m + 1)) (ls' := [(3, .int (nI (m + 1))), (5, .int (nI 0)), (4, .ref (D 7 m)), (0, .ref 0), (1, .int (nI 0)), (2, .int (nI 0))]) rfl (nI_1 _) (by decide) rfl dc_1_40_182 ?_
                  refine r_goto (t := 13) (by decide) dc_1_40_185 ?_
                  refine r_ls [(3, .int (nI (m + 1))), (0, .ref 0), (1, .int (nI 0)), (2, .int (nI 0))] (mm_ndk_of [3, 0, 1, 2] rfl (by decide)) (mm_sub_cons rfl (mm_sub_cons rfl (mm_sub_cons rfl (mm_sub_cons rfl (mm_sub_nil _))))) ?_
                  exact ih_m (w1 (w1 (w1 cs1 36 pv (cs1 36 pv + nI 1)) 33 xv (cs1 33 xv + nI 1)) 35 xv (cs1 35 xv + (nI 1) * nI 1)) (PpI_b hi_m hnc (fun a ha => by rw [w1_n _ _ _ (by omega), w1_n _ _ _ (by omega), w1_n _ _ _ (by omega)]) (PpB_p1 hi_m.2.2.2.1 hnc c_102 e58 e57 (by omega) (by omega) hfw))
                · skip
                  refine r_aload_n rfl dc_1_40_105 ?_
                  refine h_get (t := cT e 0) (v := .ref 28) fx_0_74 (hF 0 (by decide)) ⟨by omega, by omega⟩ (rfl) dc_1_40_106 ?_
                  refine h_get (t := cT e 28) (v := .ref 29) fx_0_352 (hF 28 (by decide)) ⟨by omega, by omega⟩ (rfl) dc_1_40_109 ?_
                  refine r_aload rfl dc_1_40_112 ?_
                  refine h_get (t := (11, 0, rl [(6, D 9 m), (5, D 8 m)])) (v := .int (nI xv)) fx_0_356 (hSt m (by omega)).1 (hSt m (by omega)).2.1 (show some (Value.int _) = _ from congrArg (fun z => some (Value.int z)) (((hV1.2.1.2.2.2.2 m (by omega)).2.2.2.1.2.2.2.2.2.2.2).trans e58)) dc_1_40_114 ?_
                  refine r_aload rfl dc_1_40_117 ?_
                  refine h_callv (t := (11, 0, rl [(6, D 9 m), (5, D 8 m)])) (as := []) (rest := [.int (nI xv), .ref 29]) (v := .int (nI pv)) (M1 := hk M T cs1) rfl rfl iv_0_v261 (Or.inl rfl) na_1_118 (hSt m (by omega)).1 (hSt m (by omega)).2.1 (show (11 : Nat) < 14 by decide) o_118 rfl (show (2 : Nat) ≤ 8 by decide) dc_1_40_119 (by rw [← ehs]; exact mm_Ev_up (by decide : 2 ≤ 6) (k_host M T cs1 sg D m _ (hV1.2.1.2.2.2.2 m (by omega)) (inN_tN (hRt m (by omega)).2.2.2.2.2.2.1 (by decide)).2)) ?_
                  refine r_aload_n rfl dc_1_40_122 ?_
                  refine r_aload rfl dc_1_40_123 ?_
                  refine h_get (t := (11, 0, rl [(6, D 9 m), (5, D 8 m)])) (v := .int (sg 51 m)) fx_0_264 (hSt m (by omega)).1 (hSt m (by omega)).2.1 (show some (Value.int _) = _ from congrArg (fun z => some (Value.int z)) ((hV1.2.1.2.2.2.2 m (by omega)).2.2.2.1.1)) dc_1_40_125 ?_
                  refine r_aload rfl dc_1_40_128 ?_
                  refine h_get (t := (11, 0, rl [(6, D 9 m), (5, D 8 m)])) (v := .int (nI xv)) fx_0_356 (hSt m (by omega)).1 (hSt m (by omega)).2.1 (show some (Value.int _) = _ from congrArg (fun z => some (Value.int z)) (((hV1.2.1.2.2.2.2 m (by omega)).2.2.2.1.2.2.2.2.2.2.2).trans e58)) dc_1_40_130 ?_
                  refine h_callv (t := cT e 0) (as := [.int (sg 51 m), .int (nI xv)]) (rest := [.int (nI pv), .int (nI xv), .ref 29]) (v := .int ((-1))) (M1 := hk M T cs1) rfl rfl iv_0_v359 (Or.inl rfl) na_1_120 (hF 0 (by decide)) ⟨by omega, by omega⟩ (show (0 : Nat) < 14 by decide) o_120 rfl (show (3 : Nat) ≤ 8 by decide) dc_1_40_133 (by rw [← (if_neg hfw : (if sg 27 xv = sg 51 m then nI 1 else -1) = -1)]; exact mm_Ev_up (by decide : 5 ≤ 6) (k_wayOf hV1 xv hxv (sg 51 m))) ?_
                  refine r_iconst (v := nI 1) (by decide) dc_1_40_136 ?_
                  refine h_call0 (t := cT e 29) (as := [.int (nI xv), .int (nI pv), .int ((-1)), .int (nI 1)]) (rest := []) (M1 := hk M T (w1 (w1 (w1 cs1 36 pv (cs1 36 pv + nI 1)) 34 xv (cs1 34 xv + nI 1)) 35 xv (cs1 35 xv + ((-1)) * nI 1))) rfl rfl iv_0_v362 (Or.inl rfl) na_1_124 (hF 29 (by decide)) ⟨by omega, by omega⟩ (show (8 : Nat) < 14 by decide) o_124 rfl (show (0 : Nat) ≤ 8 by decide) dc_1_40_137 (mm_Ev_up (by decide : 1 ≤ 6) (k_addGm M hM T e hF cs1 xv pv (nI 1) (by omega) (by omega))) ?_
                  refine r_goto (t := 182) (by decide) dc_1_40_140 ?_
                  refine r_iinc (n := 3) (k := 1) (x := nI m) (v := nI (m + 1)) (ls' := [(3, .int (nI (m + 1))), (5, .int (nI 0)), (4, .ref (D 7 m)), (0, .ref 0), (1, .int (nI 0)), (2, .int (nI 0))]) rfl (nI_1 _) (by decide) rfl dc_1_40_182 ?_
                  refine r_goto (t := 13) (by decide) dc_1_40_185 ?_
                  refine r_ls [(3, .int (nI (m + 1))), (0, .ref 0), (1, .int (nI 0)), (2, .int (nI 0))] (mm_ndk_of [3, 0, 1, 2] rfl (by decide)) (mm_sub_cons rfl (mm_sub_cons rfl (mm_sub_cons rfl (mm_sub_cons rfl (mm_sub_nil _))))) ?_
                  exact ih_m (w1 (w1 (w1 cs1 36 pv (cs1 36 pv + nI 1)) 34 xv (cs1 34 xv + nI 1)) 35 xv (cs1 35 xv + ((-1)) * nI 1)) (PpI_b hi_m hnc (fun a ha => by rw [w1_n _ _ _ (by omega), w1_n _ _ _ (by omega), w1_n _ _ _ (by omega)]) (PpB_m1 hi_m.2.2.2.1 hnc c_102 e58 e57 (by omega) (by omega) hfw))
            · exact absurd c_71 (by decide)
          · exact absurd c_50 (by decide)
  obtain ⟨z9, ⟨cs1, p9, e9⟩, h9⟩ := hq9
  subst e9
  exact ⟨cs1, p9, h9⟩
