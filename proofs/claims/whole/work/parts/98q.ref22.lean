/-! the reference: one clause -/
theorem dc_14_25_0 : decode prog_14_method_25_code 0 = .ok (.aload_n 0, 1) := by decide +kernel
theorem dc_14_25_1 : decode prog_14_method_25_code 1 = .ok (.invokevirtual 222, 3) := by decide +kernel
theorem dc_14_25_4 : decode prog_14_method_25_code 4 = .ok (.istore_n 1, 1) := by decide +kernel
theorem dc_14_25_5 : decode prog_14_method_25_code 5 = .ok (.iload_n 1, 1) := by decide +kernel
theorem dc_14_25_6 : decode prog_14_method_25_code 6 = .ok (.bipush 40, 2) := by decide +kernel
theorem dc_14_25_8 : decode prog_14_method_25_code 8 = .ok (.if_icmp .ne 37, 3) := by decide +kernel
theorem dc_14_25_11 : decode prog_14_method_25_code 11 = .ok (.aload_n 0, 1) := by decide +kernel
theorem dc_14_25_12 : decode prog_14_method_25_code 12 = .ok (.invokevirtual 269, 3) := by decide +kernel
theorem dc_14_25_15 : decode prog_14_method_25_code 15 = .ok (.istore_n 2, 1) := by decide +kernel
theorem dc_14_25_16 : decode prog_14_method_25_code 16 = .ok (.iload_n 2, 1) := by decide +kernel
theorem dc_14_25_17 : decode prog_14_method_25_code 17 = .ok (.ifCond .eq 16, 3) := by decide +kernel
theorem dc_14_25_20 : decode prog_14_method_25_code 20 = .ok (.aload_n 0, 1) := by decide +kernel
theorem dc_14_25_21 : decode prog_14_method_25_code 21 = .ok (.getfield 272, 3) := by decide +kernel
theorem dc_14_25_24 : decode prog_14_method_25_code 24 = .ok (.ifCond .le 9, 3) := by decide +kernel
theorem dc_14_25_27 : decode prog_14_method_25_code 27 = .ok (.aload_n 0, 1) := by decide +kernel
theorem dc_14_25_28 : decode prog_14_method_25_code 28 = .ok (.ldc 254, 2) := by decide +kernel
theorem dc_14_25_30 : decode prog_14_method_25_code 30 = .ok (.invokevirtual 250, 3) := by decide +kernel
theorem dc_14_25_33 : decode prog_14_method_25_code 33 = .ok (.aload_n 0, 1) := by decide +kernel
theorem dc_14_25_34 : decode prog_14_method_25_code 34 = .ok (.aload_n 0, 1) := by decide +kernel
theorem dc_14_25_35 : decode prog_14_method_25_code 35 = .ok (.getfield 272, 3) := by decide +kernel
theorem dc_14_25_38 : decode prog_14_method_25_code 38 = .ok (.iconst 1, 1) := by decide +kernel
theorem dc_14_25_39 : decode prog_14_method_25_code 39 = .ok (.iadd, 1) := by decide +kernel
theorem dc_14_25_40 : decode prog_14_method_25_code 40 = .ok (.putfield 272, 3) := by decide +kernel
theorem dc_14_25_43 : decode prog_14_method_25_code 43 = .ok (.iload_n 2, 1) := by decide +kernel
theorem dc_14_25_44 : decode prog_14_method_25_code 44 = .ok (.ireturn, 1) := by decide +kernel
theorem dc_14_25_45 : decode prog_14_method_25_code 45 = .ok (.iload_n 1, 1) := by decide +kernel
theorem dc_14_25_46 : decode prog_14_method_25_code 46 = .ok (.bipush 110, 2) := by decide +kernel
theorem dc_14_25_48 : decode prog_14_method_25_code 48 = .ok (.if_icmp .eq 31, 3) := by decide +kernel
theorem dc_14_25_51 : decode prog_14_method_25_code 51 = .ok (.iload_n 1, 1) := by decide +kernel
theorem dc_14_25_52 : decode prog_14_method_25_code 52 = .ok (.bipush 98, 2) := by decide +kernel
theorem dc_14_25_54 : decode prog_14_method_25_code 54 = .ok (.if_icmp .eq 25, 3) := by decide +kernel
theorem dc_14_25_57 : decode prog_14_method_25_code 57 = .ok (.iload_n 1, 1) := by decide +kernel
theorem dc_14_25_58 : decode prog_14_method_25_code 58 = .ok (.bipush 112, 2) := by decide +kernel
theorem dc_14_25_60 : decode prog_14_method_25_code 60 = .ok (.if_icmp .eq 19, 3) := by decide +kernel
theorem dc_14_25_63 : decode prog_14_method_25_code 63 = .ok (.iload_n 1, 1) := by decide +kernel
theorem dc_14_25_64 : decode prog_14_method_25_code 64 = .ok (.bipush 121, 2) := by decide +kernel
theorem dc_14_25_66 : decode prog_14_method_25_code 66 = .ok (.if_icmp .eq 13, 3) := by decide +kernel
theorem dc_14_25_69 : decode prog_14_method_25_code 69 = .ok (.aload_n 0, 1) := by decide +kernel
theorem dc_14_25_70 : decode prog_14_method_25_code 70 = .ok (.iconst 1, 1) := by decide +kernel
theorem dc_14_25_71 : decode prog_14_method_25_code 71 = .ok (.aload_n 0, 1) := by decide +kernel
theorem dc_14_25_72 : decode prog_14_method_25_code 72 = .ok (.getfield 216, 3) := by decide +kernel
theorem dc_14_25_75 : decode prog_14_method_25_code 75 = .ok (.invokevirtual 236, 3) := by decide +kernel
theorem dc_14_25_78 : decode prog_14_method_25_code 78 = .ok (.ireturn, 1) := by decide +kernel
theorem dc_14_25_79 : decode prog_14_method_25_code 79 = .ok (.aload_n 0, 1) := by decide +kernel
theorem dc_14_25_80 : decode prog_14_method_25_code 80 = .ok (.aload_n 0, 1) := by decide +kernel
theorem dc_14_25_81 : decode prog_14_method_25_code 81 = .ok (.getfield 216, 3) := by decide +kernel
theorem dc_14_25_84 : decode prog_14_method_25_code 84 = .ok (.iconst 1, 1) := by decide +kernel
theorem dc_14_25_85 : decode prog_14_method_25_code 85 = .ok (.iadd, 1) := by decide +kernel
theorem dc_14_25_86 : decode prog_14_method_25_code 86 = .ok (.putfield 216, 3) := by decide +kernel
theorem dc_14_25_89 : decode prog_14_method_25_code 89 = .ok (.aload_n 0, 1) := by decide +kernel
theorem dc_14_25_90 : decode prog_14_method_25_code 90 = .ok (.iconst 0, 1) := by decide +kernel
theorem dc_14_25_91 : decode prog_14_method_25_code 91 = .ok (.iload_n 1, 1) := by decide +kernel
theorem dc_14_25_92 : decode prog_14_method_25_code 92 = .ok (.bipush 110, 2) := by decide +kernel
theorem dc_14_25_94 : decode prog_14_method_25_code 94 = .ok (.if_icmp .ne 8, 3) := by decide +kernel
theorem dc_14_25_97 : decode prog_14_method_25_code 97 = .ok (.bipush 9, 2) := by decide +kernel
theorem dc_14_25_99 : decode prog_14_method_25_code 99 = .ok (.goto 17, 3) := by decide +kernel
theorem dc_14_25_102 : decode prog_14_method_25_code 102 = .ok (.iload_n 1, 1) := by decide +kernel
theorem dc_14_25_103 : decode prog_14_method_25_code 103 = .ok (.bipush 112, 2) := by decide +kernel
theorem dc_14_25_105 : decode prog_14_method_25_code 105 = .ok (.if_icmp .ne 9, 3) := by decide +kernel
theorem dc_14_25_108 : decode prog_14_method_25_code 108 = .ok (.sipush 9999, 3) := by decide +kernel
theorem dc_14_25_111 : decode prog_14_method_25_code 111 = .ok (.goto 5, 3) := by decide +kernel
theorem dc_14_25_114 : decode prog_14_method_25_code 114 = .ok (.bipush 99, 2) := by decide +kernel
theorem dc_14_25_116 : decode prog_14_method_25_code 116 = .ok (.invokevirtual 261, 3) := by decide +kernel
theorem dc_14_25_119 : decode prog_14_method_25_code 119 = .ok (.ifCond .ne 5, 3) := by decide +kernel
theorem dc_14_25_122 : decode prog_14_method_25_code 122 = .ok (.iconst 0, 1) := by decide +kernel
theorem dc_14_25_123 : decode prog_14_method_25_code 123 = .ok (.ireturn, 1) := by decide +kernel
theorem dc_14_25_124 : decode prog_14_method_25_code 124 = .ok (.iload_n 1, 1) := by decide +kernel
theorem dc_14_25_125 : decode prog_14_method_25_code 125 = .ok (.bipush 110, 2) := by decide +kernel
theorem dc_14_25_127 : decode prog_14_method_25_code 127 = .ok (.if_icmp .ne 11, 3) := by decide +kernel
theorem dc_14_25_130 : decode prog_14_method_25_code 130 = .ok (.aload_n 0, 1) := by decide +kernel
theorem dc_14_25_131 : decode prog_14_method_25_code 131 = .ok (.aload_n 0, 1) := by decide +kernel
theorem dc_14_25_132 : decode prog_14_method_25_code 132 = .ok (.getfield 229, 3) := by decide +kernel
theorem dc_14_25_135 : decode prog_14_method_25_code 135 = .ok (.putfield 275, 3) := by decide +kernel
theorem dc_14_25_138 : decode prog_14_method_25_code 138 = .ok (.iload_n 1, 1) := by decide +kernel
theorem dc_14_25_139 : decode prog_14_method_25_code 139 = .ok (.bipush 98, 2) := by decide +kernel
theorem dc_14_25_141 : decode prog_14_method_25_code 141 = .ok (.if_icmp .ne 11, 3) := by decide +kernel
theorem dc_14_25_144 : decode prog_14_method_25_code 144 = .ok (.aload_n 0, 1) := by decide +kernel
theorem dc_14_25_145 : decode prog_14_method_25_code 145 = .ok (.aload_n 0, 1) := by decide +kernel
theorem dc_14_25_146 : decode prog_14_method_25_code 146 = .ok (.getfield 229, 3) := by decide +kernel
theorem dc_14_25_149 : decode prog_14_method_25_code 149 = .ok (.putfield 278, 3) := by decide +kernel
theorem dc_14_25_152 : decode prog_14_method_25_code 152 = .ok (.iload_n 1, 1) := by decide +kernel
theorem dc_14_25_153 : decode prog_14_method_25_code 153 = .ok (.bipush 112, 2) := by decide +kernel
theorem dc_14_25_155 : decode prog_14_method_25_code 155 = .ok (.if_icmp .ne 11, 3) := by decide +kernel
theorem dc_14_25_158 : decode prog_14_method_25_code 158 = .ok (.aload_n 0, 1) := by decide +kernel
theorem dc_14_25_159 : decode prog_14_method_25_code 159 = .ok (.aload_n 0, 1) := by decide +kernel
theorem dc_14_25_160 : decode prog_14_method_25_code 160 = .ok (.getfield 229, 3) := by decide +kernel
theorem dc_14_25_163 : decode prog_14_method_25_code 163 = .ok (.putfield 281, 3) := by decide +kernel
theorem dc_14_25_166 : decode prog_14_method_25_code 166 = .ok (.iload_n 1, 1) := by decide +kernel
theorem dc_14_25_167 : decode prog_14_method_25_code 167 = .ok (.bipush 121, 2) := by decide +kernel
theorem dc_14_25_169 : decode prog_14_method_25_code 169 = .ok (.if_icmp .eq 5, 3) := by decide +kernel
theorem dc_14_25_172 : decode prog_14_method_25_code 172 = .ok (.iconst 1, 1) := by decide +kernel
theorem dc_14_25_173 : decode prog_14_method_25_code 173 = .ok (.ireturn, 1) := by decide +kernel
theorem dc_14_25_174 : decode prog_14_method_25_code 174 = .ok (.aload_n 0, 1) := by decide +kernel
theorem dc_14_25_175 : decode prog_14_method_25_code 175 = .ok (.getfield 229, 3) := by decide +kernel
theorem dc_14_25_178 : decode prog_14_method_25_code 178 = .ok (.istore_n 2, 1) := by decide +kernel
theorem dc_14_25_179 : decode prog_14_method_25_code 179 = .ok (.aload_n 0, 1) := by decide +kernel
theorem dc_14_25_180 : decode prog_14_method_25_code 180 = .ok (.invokevirtual 222, 3) := by decide +kernel
theorem dc_14_25_183 : decode prog_14_method_25_code 183 = .ok (.bipush 45, 2) := by decide +kernel
theorem dc_14_25_185 : decode prog_14_method_25_code 185 = .ok (.if_icmp .eq 13, 3) := by decide +kernel
theorem dc_14_25_188 : decode prog_14_method_25_code 188 = .ok (.aload_n 0, 1) := by decide +kernel
theorem dc_14_25_189 : decode prog_14_method_25_code 189 = .ok (.iconst 1, 1) := by decide +kernel
theorem dc_14_25_190 : decode prog_14_method_25_code 190 = .ok (.aload_n 0, 1) := by decide +kernel
theorem dc_14_25_191 : decode prog_14_method_25_code 191 = .ok (.getfield 216, 3) := by decide +kernel
theorem dc_14_25_194 : decode prog_14_method_25_code 194 = .ok (.invokevirtual 236, 3) := by decide +kernel
theorem dc_14_25_197 : decode prog_14_method_25_code 197 = .ok (.ireturn, 1) := by decide +kernel
theorem dc_14_25_198 : decode prog_14_method_25_code 198 = .ok (.aload_n 0, 1) := by decide +kernel
theorem dc_14_25_199 : decode prog_14_method_25_code 199 = .ok (.aload_n 0, 1) := by decide +kernel
theorem dc_14_25_200 : decode prog_14_method_25_code 200 = .ok (.getfield 216, 3) := by decide +kernel
theorem dc_14_25_203 : decode prog_14_method_25_code 203 = .ok (.iconst 1, 1) := by decide +kernel
theorem dc_14_25_204 : decode prog_14_method_25_code 204 = .ok (.iadd, 1) := by decide +kernel
theorem dc_14_25_205 : decode prog_14_method_25_code 205 = .ok (.putfield 216, 3) := by decide +kernel
theorem dc_14_25_208 : decode prog_14_method_25_code 208 = .ok (.aload_n 0, 1) := by decide +kernel
theorem dc_14_25_209 : decode prog_14_method_25_code 209 = .ok (.iload_n 2, 1) := by decide +kernel
theorem dc_14_25_210 : decode prog_14_method_25_code 210 = .ok (.bipush 99, 2) := by decide +kernel
theorem dc_14_25_212 : decode prog_14_method_25_code 212 = .ok (.invokevirtual 261, 3) := by decide +kernel
theorem dc_14_25_215 : decode prog_14_method_25_code 215 = .ok (.ifCond .ne 5, 3) := by decide +kernel
theorem dc_14_25_218 : decode prog_14_method_25_code 218 = .ok (.iconst 0, 1) := by decide +kernel
theorem dc_14_25_219 : decode prog_14_method_25_code 219 = .ok (.ireturn, 1) := by decide +kernel
theorem dc_14_25_220 : decode prog_14_method_25_code 220 = .ok (.aload_n 0, 1) := by decide +kernel
theorem dc_14_25_221 : decode prog_14_method_25_code 221 = .ok (.iload_n 2, 1) := by decide +kernel
theorem dc_14_25_222 : decode prog_14_method_25_code 222 = .ok (.putfield 284, 3) := by decide +kernel
theorem dc_14_25_225 : decode prog_14_method_25_code 225 = .ok (.aload_n 0, 1) := by decide +kernel
theorem dc_14_25_226 : decode prog_14_method_25_code 226 = .ok (.aload_n 0, 1) := by decide +kernel
theorem dc_14_25_227 : decode prog_14_method_25_code 227 = .ok (.getfield 229, 3) := by decide +kernel
theorem dc_14_25_230 : decode prog_14_method_25_code 230 = .ok (.putfield 287, 3) := by decide +kernel
theorem dc_14_25_233 : decode prog_14_method_25_code 233 = .ok (.iconst 1, 1) := by decide +kernel
theorem dc_14_25_234 : decode prog_14_method_25_code 234 = .ok (.ireturn, 1) := by decide +kernel
theorem iv_13_v269 : mm_iv 13 (.invokevirtual 269) = some (1, 202) := by decide +kernel
theorem o_202 : mm_o 202 = 13 := by decide +kernel
theorem na_1_202 : mm_nas 1 202 = 1 := by decide +kernel
def FrQ (io : Nat → Int32) (sg : Nat → Nat → Int32) (io2 : Nat → Int32) (sg2 : Nat → Nat → Int32) : Prop := (∀ k, ¬ (24 ≤ k ∧ k ≤ 26) → ¬ (39 ≤ k ∧ k ≤ 47) → io2 k = io k) ∧ (∀ k, ¬ k = 37 → ¬ k = 38 → sg2 k = sg k)
theorem FrQ_0 (io : Nat → Int32) (sg : Nat → Nat → Int32) : FrQ io sg io sg := ⟨fun _ _ _ => rfl, fun _ _ _ => rfl⟩
theorem FrQ_t {io io2 io3 : Nat → Int32} {sg sg2 sg3 : Nat → Nat → Int32} (h : FrQ io sg io2 sg2) (k : FrQ io2 sg2 io3 sg3) : FrQ io sg io3 sg3 := ⟨fun j a b => (k.1 j a b).trans (h.1 j a b), fun j a b => (k.2 j a b).trans (h.2 j a b)⟩
theorem FrQ_R {io io2 : Nat → Int32} {sg sg2 : Nat → Nat → Int32} (h : FrR io sg io2 sg2) : FrQ io sg io2 sg2 := ⟨fun j a b => h.1 j (by omega) (by omega) (by omega) (by omega) (by omega), h.2⟩
theorem FrQ_io {io io2 : Nat → Int32} {sg sg2 : Nat → Nat → Int32} (h : FrQ io sg io2 sg2) {k : Nat} (hk : (24 ≤ k ∧ k ≤ 26) ∨ (39 ≤ k ∧ k ≤ 47)) (v : Int32) : FrQ io sg (va_up io2 k v) sg2 := ⟨fun j a b => (if_neg (by omega)).trans (h.1 j a b), h.2⟩
/-- the reference between clauses -/
def RC (sz : Nat) (io0 : Nat → Int32) (sg0 : Nat → Nat → Int32) (io : Nat → Int32) (sg : Nat → Nat → Int32) (p : Nat) (S : List Nat) (q : Nat → Int32) : Prop := (io 24 = nI p ∧ io 25 = nI sz ∧ io 39 = nI S.length ∧ WL (sg 37) S ∧ ∀ k, 6 ≤ k → k ≤ 11 → io (35 + k) = q k) ∧ FrQ io0 sg0 io sg
def CE (sz : Nat) (io0 : Nat → Int32) (sg0 : Nat → Nat → Int32) (r : Except Nat txR) (io2 : Nat → Int32) (sg2 : Nat → Nat → Int32) (v : Int32) : Prop := (∃ p2 S2 q2 E2, r = .ok (p2, S2, q2, E2) ∧ v = nI 1 ∧ RC sz io0 sg0 io2 sg2 p2 S2 q2) ∨ (∃ f, r = .error f ∧ v = nI 0 ∧ io2 26 = -nI f ∧ FrQ io0 sg0 io2 sg2)
section RCs
variable {sz : Nat} {io0 : Nat → Int32} {sg0 : Nat → Nat → Int32} {io : Nat → Int32} {sg : Nat → Nat → Int32} {p : Nat} {S : List Nat} {q : Nat → Int32}
theorem RC_at (h : RC sz io0 sg0 io sg p S q) (p2 : Nat) : RC sz io0 sg0 (va_up io 24 (nI p2)) sg p2 S q := ⟨⟨rfl, h.1.2.1, h.1.2.2.1, h.1.2.2.2.1, fun k h1 h2 => (if_neg (by omega)).trans (h.1.2.2.2.2 k h1 h2)⟩, FrQ_io h.2 (by omega) _⟩
theorem RC_put (h : RC sz io0 sg0 io sg p S q) {k : Nat} (h1 : 6 ≤ k) (h2 : k ≤ 11) (v : Int32) : RC sz io0 sg0 (va_up io (35 + k) v) sg p S (upd q k v) := by
  obtain ⟨⟨a1, a2, a3, a4, a5⟩, a6⟩ := h
  refine ⟨⟨(if_neg (by omega)).trans a1, (if_neg (by omega)).trans a2, (if_neg (by omega)).trans a3, a4, fun j g1 g2 => ?_⟩, FrQ_io a6 (by omega) _⟩
  by_cases z : j = k
  · rw [z, ud_s]
    exact if_pos rfl
  · rw [ud_o _ _ z]
    exact (if_neg (by omega)).trans (a5 j g1 g2)
theorem RC_Q {io2 : Nat → Int32} {sg2 : Nat → Nat → Int32} {p2 : Nat} {W2 S2 : List Nat} (h : RC sz io0 sg0 io sg p S q) (h2 : QS sz io sg io2 sg2 p2 W2 S2) : RC sz io0 sg0 io2 sg2 p2 S2 q := ⟨⟨h2.1.1, h2.1.2.1, h2.1.2.2.2.1, h2.1.2.2.2.2.2, fun k g1 g2 => (h2.2.1 (35 + k) (by omega) (by omega) (by omega) (by omega) (by omega)).trans (h.1.2.2.2.2 k g1 g2)⟩, FrQ_t h.2 (FrQ_R h2.2)⟩
theorem RC_chr (h : RC sz io0 sg0 io sg p S q) : chr sg sz = chr sg0 sz := by
  funext j
  unfold chr
  rw [h.2.2 22 (by decide) (by decide)]
theorem v_sign {M : mH} (hM : 157 ≤ M.1) (h : RC sz io0 sg0 io sg p S q) (hp : p ≤ 80) (hsz : sz ≤ 80) : mm_Ev 1 201 [.ref 100] (rf_mk M io sg) (some (.int (nI (chr sg0 sz p))), rf_mk M io sg) := by
  rw [← RC_chr h]
  exact c_sign M hM io sg p sz h.1.1 h.1.2.1 hp hsz
theorem v_num {M : mH} (hM : 157 ≤ M.1) (h : RC sz io0 sg0 io sg p S q) (hp : p ≤ 70) (hsz : sz ≤ 80) {lo hi : Nat} (hlo : lo ≤ 99999) (hhi : hi ≤ 99999) : (∃ io2 v e, rn (chr sg0 sz) p lo hi = .ok (v, e) ∧ RC sz io0 sg0 io2 sg e S q ∧ io2 47 = nI v ∧ mm_Ev 3 206 [.ref 100, .int (nI lo), .int (nI hi)] (rf_mk M io sg) (some (.int (nI 1)), rf_mk M io2 sg)) ∨ (∃ io2 f, rn (chr sg0 sz) p lo hi = .error f ∧ io2 26 = -nI f ∧ FrQ io0 sg0 io2 sg ∧ mm_Ev 3 206 [.ref 100, .int (nI lo), .int (nI hi)] (rf_mk M io sg) (some (.int (nI 0)), rf_mk M io2 sg)) := by
  obtain ⟨io2, r, ⟨h1, h2⟩, h3⟩ := c_readsNumber M hM io sg p sz h.1.1 h.1.2.1 hp hsz lo hi hlo hhi
  have hF : FrQ io sg io2 sg := ⟨fun j a b => h1 j (by omega) (by omega) (by omega), fun _ _ _ => rfl⟩
  rw [RC_chr h] at h2
  rcases h2 with ⟨v, e, g1, g2, g3, g4, g5⟩ | ⟨f, g1, g2, g3⟩
  · subst g2
    refine Or.inl ⟨io2, v, e, g1, ⟨⟨g3, ?_, ?_, h.1.2.2.2.1, fun k q1 q2 => ?_⟩, FrQ_t h.2 hF⟩, g4, h3⟩
    · exact (h1 25 (by decide) (by decide) (by decide)).trans h.1.2.1
    · exact (h1 39 (by decide) (by decide) (by decide)).trans h.1.2.2.1
    · exact (h1 (35 + k) (by omega) (by omega) (by omega)).trans (h.1.2.2.2.2 k q1 q2)
  · subst g2
    exact Or.inr ⟨io2, f, g1, g3, FrQ_t h.2 hF, h3⟩
end RCs
section NLs
variable {c : Nat → Nat} {p : Nat} {S : List Nat} {q : Nat → Int32} {E k hi v e f : Nat} {r : Except Nat txR}
theorem NL_ok (h : NLr c p S q E k hi r) (h2 : rn c (p + 1) 0 hi = .ok (v, e)) : r = .ok (e, S, upd q k (nI v), E) := by
  rcases h with ⟨v2, e2, g1, g2⟩ | ⟨f, g1, g2⟩
  · rw [h2] at g1
    cases g1
    exact g2
  · rw [h2] at g1
    cases g1
theorem NL_er (h : NLr c p S q E k hi r) (h2 : rn c (p + 1) 0 hi = .error f) : r = .error f := by
  rcases h with ⟨v2, e2, g1, g2⟩ | ⟨f, g1, g2⟩
  · rw [h2] at g1
    cases g1
  · rw [h2] at g1
    cases g1
    exact g2
theorem YL_er (h : YLr c p S q E r) (h2 : rn c (p + 1) 0 99 = .error f) : r = .error f := by
  rcases h with ⟨f, g1, g2⟩ | ⟨v2, e2, g1, g2⟩
  · rw [h2] at g1
    cases g1
    exact g2
  · rw [h2] at g1
    cases g1
theorem YL_ok (h : YLr c p S q E r) (h2 : rn c (p + 1) 0 99 = .ok (v, e)) : (¬ c e = 45 ∧ r = .error (100 + e)) ∨ (c e = 45 ∧ ((∃ f, rn c (e + 1) v 99 = .error f ∧ r = .error f) ∨ (∃ v2 e2, rn c (e + 1) v 99 = .ok (v2, e2) ∧ r = .ok (e2, S, upd (upd q 9 (nI v)) 10 (nI v2), E)))) := by
  rcases h with ⟨f, g1, g2⟩ | ⟨v2, e2, g1, g2⟩
  · rw [h2] at g1
    cases g1
  · rw [h2] at g1
    cases g1
    exact g2
theorem YL_no (h : YLr c p S q E r) (h2 : rn c (p + 1) 0 99 = .ok (v, e)) (h3 : ¬ c e = 45) : r = .error (100 + e) := by
  rcases YL_ok h h2 with g | g
  · exact g.2
  · exact absurd g.1 h3
theorem YL_er2 (h : YLr c p S q E r) (h2 : rn c (p + 1) 0 99 = .ok (v, e)) (h3 : c e = 45) (h4 : rn c (e + 1) v 99 = .error f) : r = .error f := by
  rcases YL_ok h h2 with g | ⟨g, ⟨f2, g1, g2⟩ | ⟨v2, e2, g1, g2⟩⟩
  · exact absurd h3 g.1
  · rw [h4] at g1
    cases g1
    exact g2
  · rw [h4] at g1
    cases g1
theorem YL_ok2 {v2 e2 : Nat} (h : YLr c p S q E r) (h2 : rn c (p + 1) 0 99 = .ok (v, e)) (h3 : c e = 45) (h4 : rn c (e + 1) v 99 = .ok (v2, e2)) : r = .ok (e2, S, upd (upd q 9 (nI v)) 10 (nI v2), E) := by
  rcases YL_ok h h2 with g | ⟨g, ⟨f2, g1, g2⟩ | ⟨v3, e3, g1, g2⟩⟩
  · exact absurd h3 g.1
  · rw [h4] at g1
    cases g1
  · rw [h4] at g1
    cases g1
    exact g2
end NLs
set_option maxHeartbeats 4000000 in
theorem c_cl40 {M : mH} (hM : 157 ≤ M.1) {io0 : Nat → Int32} {sg0 : Nat → Nat → Int32} {sz p : Nat} {S : List Nat} {q : Nat → Int32} {E : Nat} {r : Except Nat txR} {io : Nat → Int32} {sg : Nat → Nat → Int32} (hR : RC sz io0 sg0 io sg p S q) (hq : q 11 = nI E) (hE : E ≤ 60) (hSp : S.length ≤ p) (hp : p ≤ sz) (hsz : sz ≤ 60) (hc1 : chr sg0 sz p = 40) (hX : XLr (chr sg0 sz) p S q E r) : ∃ io2 sg2 v, CE sz io0 sg0 r io2 sg2 v ∧ mm_Ev 5 200 [.ref 100] (rf_mk M io sg) (some (.int v), rf_mk M io2 sg2) := by
  have hc := chr_lt sg0 sz p
  have hin : ¬ chr sg0 sz p = 0 → p < sz := chr_in (sg := sg0)
  have hq9 : ∃ z, (fun r9 => ∃ (io2 : Nat → Int32) (sg2 : Nat → Nat → Int32) (v : Int32), CE sz io0 sg0 r io2 sg2 v ∧ r9 = (some (.int v), rf_mk M io2 sg2)) z ∧ mm_Ev 5 200 [.ref 100] (rf_mk M io sg) z := by
    refine r_evQ (by decide +kernel) (show (1 : Nat) ≤ mm_nL 200 by decide +kernel) ?_
    show mm_Ru 4 (13, 3, false, prog_14_method_25_code, some .boolean) 0 [(0, .ref 100)] [] (rf_mk M io sg) (fun r9 => ∃ (io2 : Nat → Int32) (sg2 : Nat → Nat → Int32) (v : Int32), CE sz io0 sg0 r io2 sg2 v ∧ r9 = (some (.int v), rf_mk M io2 sg2))
    refine r_aload_n rfl dc_14_25_0 ?_
    refine q_calli (as := []) (rest := []) (v := .int (nI (chr sg0 sz p))) (M1 := rf_mk M io sg) iv_13_v222 na_1_201 o_201 hM rfl (show (0 : Nat) ≤ 8 by decide) dc_14_25_1 (mm_Ev_up (by decide : 1 ≤ 4) (v_sign hM (hR) (by omega) (by omega))) ?_
    refine r_istore_n (ls' := [(1, .int (nI (chr sg0 sz p))), (0, .ref 100)]) (by decide) rfl dc_14_25_4 ?_
    refine r_iload_n rfl dc_14_25_5 ?_
    refine r_bipush (v := nI 40) (by decide) dc_14_25_6 ?_
    refine r_ncne (t := 45) (by omega) (by omega) (by decide) dc_14_25_8 (fun c_8 => ?_) (fun c_8 => ?_)
    · omega
    · skip
      refine r_aload_n rfl dc_14_25_11 ?_
      obtain ⟨N, hX⟩ := hX
      rcases hX with ⟨p2, S2, hm, hl6, hr⟩ | ⟨f, hm, hr⟩
      · skip
        obtain ⟨io_1, sg_1, v_1, hP, hE_1⟩ := c_expr hM hR.1.1 hR.1.2.1 hR.1.2.2.1 hR.1.2.2.2.1 hSp hp hsz (N := N) (r := .ok (p2, S2)) (by rw [RC_chr hR]; exact hm)
        rcases hP with ⟨p3, S3, W3, e1, e2, hQ⟩ | ⟨f3, e1, e2, h26, hF⟩
        · cases e1
          subst e2
          refine q_calli (as := []) (rest := []) (v := .int (nI 1)) (M1 := rf_mk M io_1 sg_1) iv_13_v269 na_1_202 o_202 hM rfl (show (0 : Nat) ≤ 8 by decide) dc_14_25_12 (hE_1) ?_
          refine r_istore_n (ls' := [(2, .int (nI 1)), (1, .int (nI (chr sg0 sz p))), (0, .ref 100)]) (by decide) rfl dc_14_25_15 ?_
          refine r_iload_n rfl dc_14_25_16 ?_
          refine r_ifeq (t := 33) (by decide) dc_14_25_17 (fun c_17 => ?_) (fun c_17 => ?_)
          · exact absurd c_17 (by decide)
          · skip
            refine r_aload_n rfl dc_14_25_20 ?_
            refine q_get (v := .int (nI E)) rx_272 hM (congrArg (fun z => some (Value.int z)) (((RC_Q hR hQ).1.2.2.2.2 11 (by decide) (by decide)).trans hq)) dc_14_25_21 ?_
            refine r_nzle (t := 33) (by omega) (by decide) dc_14_25_24 (fun c_24 => ?_) (fun c_24 => ?_)
            · skip
              refine r_aload_n rfl dc_14_25_33 ?_
              refine r_aload_n rfl dc_14_25_34 ?_
              refine q_get (v := .int (nI E)) rx_272 hM (congrArg (fun z => some (Value.int z)) (((RC_Q hR hQ).1.2.2.2.2 11 (by decide) (by decide)).trans hq)) dc_14_25_35 ?_
              refine r_iconst (v := nI 1) (by decide) dc_14_25_38 ?_
              refine r_iadd (v := nI (E + 1)) (nI_add _ _) dc_14_25_39 ?_
              refine q_put rx_272 (by decide +kernel) (by decide +kernel) (by decide) (rs_46 _) hM dc_14_25_40 ?_
              refine r_iload_n rfl dc_14_25_43 ?_
              refine r_zret rfl (by decide) dc_14_25_44 ?_
              exact ⟨_, _, _, Or.inl ⟨_, _, _, E + 1, by rw [hr, if_pos (by omega)], rfl, RC_put (RC_Q hR hQ) (k := 11) (by decide) (by decide) (nI (E + 1))⟩, rfl⟩
            · skip
              refine r_aload_n rfl dc_14_25_27 ?_
              refine r_ldc (v := nI 1000000) nr_13_254 dc_14_25_28 ?_
              obtain ⟨io_2, sg_2, hQ2, hE_2⟩ := w_says hM (hQ) (by omega) (w := 1000000) (by decide)
              refine q_callv (as := [.int (nI 1000000)]) (rest := []) (M1 := rf_mk M io_2 sg_2) iv_13_v250 na_1_208 o_208 hM rfl (show (0 : Nat) ≤ 8 by decide) dc_14_25_30 (mm_Ev_up (by decide : 1 ≤ 4) (hE_2)) ?_
              refine r_aload_n rfl dc_14_25_33 ?_
              refine r_aload_n rfl dc_14_25_34 ?_
              refine q_get (v := .int (nI E)) rx_272 hM (congrArg (fun z => some (Value.int z)) (((RC_Q hR hQ2).1.2.2.2.2 11 (by decide) (by decide)).trans hq)) dc_14_25_35 ?_
              refine r_iconst (v := nI 1) (by decide) dc_14_25_38 ?_
              refine r_iadd (v := nI (E + 1)) (nI_add _ _) dc_14_25_39 ?_
              refine q_put rx_272 (by decide +kernel) (by decide +kernel) (by decide) (rs_46 _) hM dc_14_25_40 ?_
              refine r_iload_n rfl dc_14_25_43 ?_
              refine r_zret rfl (by decide) dc_14_25_44 ?_
              exact ⟨_, _, _, Or.inl ⟨_, _, _, E + 1, by rw [hr, if_neg (by omega)], rfl, RC_put (RC_Q hR hQ2) (k := 11) (by decide) (by decide) (nI (E + 1))⟩, rfl⟩
        · cases e1
      · skip
        obtain ⟨io_1, sg_1, v_1, hP, hE_1⟩ := c_expr hM hR.1.1 hR.1.2.1 hR.1.2.2.1 hR.1.2.2.2.1 hSp hp hsz (N := N) (r := .error f) (by rw [RC_chr hR]; exact hm)
        rcases hP with ⟨p3, S3, W3, e1, e2, hQ⟩ | ⟨f3, e1, e2, h26, hF⟩
        · cases e1
        · cases e1
          subst e2
          refine q_calli (as := []) (rest := []) (v := .int (nI 0)) (M1 := rf_mk M io_1 sg_1) iv_13_v269 na_1_202 o_202 hM rfl (show (0 : Nat) ≤ 8 by decide) dc_14_25_12 (hE_1) ?_
          refine r_istore_n (ls' := [(2, .int (nI 0)), (1, .int (nI (chr sg0 sz p))), (0, .ref 100)]) (by decide) rfl dc_14_25_15 ?_
          refine r_iload_n rfl dc_14_25_16 ?_
          refine r_ifeq (t := 33) (by decide) dc_14_25_17 (fun c_17 => ?_) (fun c_17 => ?_)
          · skip
            refine r_aload_n rfl dc_14_25_33 ?_
            refine r_aload_n rfl dc_14_25_34 ?_
            refine q_get (v := .int (io_1 46)) rx_272 hM rfl dc_14_25_35 ?_
            refine r_iconst (v := nI 1) (by decide) dc_14_25_38 ?_
            refine r_iadd (v := (io_1 46) + (nI 1)) (rfl) dc_14_25_39 ?_
            refine q_put rx_272 (by decide +kernel) (by decide +kernel) (by decide) (rs_46 _) hM dc_14_25_40 ?_
            refine r_iload_n rfl dc_14_25_43 ?_
            refine r_zret rfl (by decide) dc_14_25_44 ?_
            exact ⟨va_up io_1 46 (io_1 46 + nI 1), _, _, Or.inr ⟨_, hr, rfl, h26, FrQ_io (FrQ_t hR.2 (FrQ_R hF)) (by omega) _⟩, rfl⟩
          · exact absurd c_17 (by decide)
  obtain ⟨z9, ⟨io2, sg2, v, p9, e9⟩, h9⟩ := hq9
  subst e9
  exact ⟨io2, sg2, v, p9, h9⟩
set_option maxHeartbeats 4000000 in
theorem c_cl110 {M : mH} (hM : 157 ≤ M.1) {io0 : Nat → Int32} {sg0 : Nat → Nat → Int32} {sz p : Nat} {S : List Nat} {q : Nat → Int32} {E : Nat} {r : Except Nat txR} {io : Nat → Int32} {sg : Nat → Nat → Int32} (hR : RC sz io0 sg0 io sg p S q) (hq : q 11 = nI E) (hE : E ≤ 60) (hSp : S.length ≤ p) (hp : p ≤ sz) (hsz : sz ≤ 60) (hc1 : chr sg0 sz p = 110) (hN : NLr (chr sg0 sz) p S q E 6 9 r) : ∃ io2 sg2 v, CE sz io0 sg0 r io2 sg2 v ∧ mm_Ev 5 200 [.ref 100] (rf_mk M io sg) (some (.int v), rf_mk M io2 sg2) := by
  have hc := chr_lt sg0 sz p
  have hin : ¬ chr sg0 sz p = 0 → p < sz := chr_in (sg := sg0)
  have hq9 : ∃ z, (fun r9 => ∃ (io2 : Nat → Int32) (sg2 : Nat → Nat → Int32) (v : Int32), CE sz io0 sg0 r io2 sg2 v ∧ r9 = (some (.int v), rf_mk M io2 sg2)) z ∧ mm_Ev 5 200 [.ref 100] (rf_mk M io sg) z := by
    refine r_evQ (by decide +kernel) (show (1 : Nat) ≤ mm_nL 200 by decide +kernel) ?_
    show mm_Ru 4 (13, 3, false, prog_14_method_25_code, some .boolean) 0 [(0, .ref 100)] [] (rf_mk M io sg) (fun r9 => ∃ (io2 : Nat → Int32) (sg2 : Nat → Nat → Int32) (v : Int32), CE sz io0 sg0 r io2 sg2 v ∧ r9 = (some (.int v), rf_mk M io2 sg2))
    refine r_aload_n rfl dc_14_25_0 ?_
    refine q_calli (as := []) (rest := []) (v := .int (nI (chr sg0 sz p))) (M1 := rf_mk M io sg) iv_13_v222 na_1_201 o_201 hM rfl (show (0 : Nat) ≤ 8 by decide) dc_14_25_1 (mm_Ev_up (by decide : 1 ≤ 4) (v_sign hM (hR) (by omega) (by omega))) ?_
    refine r_istore_n (ls' := [(1, .int (nI (chr sg0 sz p))), (0, .ref 100)]) (by decide) rfl dc_14_25_4 ?_
    refine r_iload_n rfl dc_14_25_5 ?_
    refine r_bipush (v := nI 40) (by decide) dc_14_25_6 ?_
    refine r_ncne (t := 45) (by omega) (by omega) (by decide) dc_14_25_8 (fun c_8 => ?_) (fun c_8 => ?_)
    · skip
      refine r_iload_n rfl dc_14_25_45 ?_
      refine r_bipush (v := nI 110) (by decide) dc_14_25_46 ?_
      refine r_nceq (t := 79) (by omega) (by omega) (by decide) dc_14_25_48 (fun c_48 => ?_) (fun c_48 => ?_)
      · skip
        refine r_aload_n rfl dc_14_25_79 ?_
        refine r_aload_n rfl dc_14_25_80 ?_
        refine q_get (v := .int (nI p)) rx_216 hM (congrArg (fun z => some (Value.int z)) ((hR).1.1)) dc_14_25_81 ?_
        refine r_iconst (v := nI 1) (by decide) dc_14_25_84 ?_
        refine r_iadd (v := nI (p + 1)) (nI_add _ _) dc_14_25_85 ?_
        refine q_put rx_216 (by decide +kernel) (by decide +kernel) (by decide) (rs_24 _) hM dc_14_25_86 ?_
        refine r_aload_n rfl dc_14_25_89 ?_
        refine r_iconst (v := nI 0) (by decide) dc_14_25_90 ?_
        refine r_iload_n rfl dc_14_25_91 ?_
        refine r_bipush (v := nI 110) (by decide) dc_14_25_92 ?_
        refine r_ncne (t := 102) (by omega) (by omega) (by decide) dc_14_25_94 (fun c_94 => ?_) (fun c_94 => ?_)
        · omega
        · skip
          refine r_bipush (v := nI 9) (by decide) dc_14_25_97 ?_
          refine r_goto (t := 116) (by decide) dc_14_25_99 ?_
          rcases v_num hM (RC_at (hR) (p + 1)) (by omega) (by omega) (lo := 0) (hi := 9) (by omega) (by omega) with ⟨io_1, v_1, e_1, hr_1, hR_1, h47_1, hE_1⟩ | ⟨io_1, f_1, hr_1, h26_1, hF_1, hE_1⟩
          · skip
            have hl_1 := rn_le (chr_z sg0 sz) hr_1
            refine q_calli (as := [.int (nI 0), .int (nI 9)]) (rest := []) (v := .int (nI 1)) (M1 := rf_mk M io_1 sg) iv_13_v261 na_1_206 o_206 hM rfl (show (0 : Nat) ≤ 8 by decide) dc_14_25_116 (mm_Ev_up (by decide : 3 ≤ 4) (hE_1)) ?_
            refine r_ifne (t := 124) (by decide) dc_14_25_119 (fun c_119 => ?_) (fun c_119 => ?_)
            · skip
              refine r_iload_n rfl dc_14_25_124 ?_
              refine r_bipush (v := nI 110) (by decide) dc_14_25_125 ?_
              refine r_ncne (t := 138) (by omega) (by omega) (by decide) dc_14_25_127 (fun c_127 => ?_) (fun c_127 => ?_)
              · omega
              · skip
                refine r_aload_n rfl dc_14_25_130 ?_
                refine r_aload_n rfl dc_14_25_131 ?_
                refine q_get (v := .int (nI v_1)) rx_229 hM (congrArg (fun z => some (Value.int z)) (h47_1)) dc_14_25_132 ?_
                refine q_put rx_275 (by decide +kernel) (by decide +kernel) (by decide) (rs_41 _) hM dc_14_25_135 ?_
                refine r_iload_n rfl dc_14_25_138 ?_
                refine r_bipush (v := nI 98) (by decide) dc_14_25_139 ?_
                refine r_ncne (t := 152) (by omega) (by omega) (by decide) dc_14_25_141 (fun c_141 => ?_) (fun c_141 => ?_)
                · skip
                  refine r_iload_n rfl dc_14_25_152 ?_
                  refine r_bipush (v := nI 112) (by decide) dc_14_25_153 ?_
                  refine r_ncne (t := 166) (by omega) (by omega) (by decide) dc_14_25_155 (fun c_155 => ?_) (fun c_155 => ?_)
                  · skip
                    refine r_iload_n rfl dc_14_25_166 ?_
                    refine r_bipush (v := nI 121) (by decide) dc_14_25_167 ?_
                    refine r_nceq (t := 174) (by omega) (by omega) (by decide) dc_14_25_169 (fun c_169 => ?_) (fun c_169 => ?_)
                    · omega
                    · skip
                      refine r_iconst (v := nI 1) (by decide) dc_14_25_172 ?_
                      refine r_zret rfl (by decide) dc_14_25_173 ?_
                      exact ⟨_, _, _, Or.inl ⟨_, _, _, E, NL_ok hN hr_1, rfl, RC_put (hR_1) (k := 6) (by decide) (by decide) (nI v_1)⟩, rfl⟩
                  · omega
                · omega
            · exact absurd c_119 (by decide)
          · skip
            refine q_calli (as := [.int (nI 0), .int (nI 9)]) (rest := []) (v := .int (nI 0)) (M1 := rf_mk M io_1 sg) iv_13_v261 na_1_206 o_206 hM rfl (show (0 : Nat) ≤ 8 by decide) dc_14_25_116 (mm_Ev_up (by decide : 3 ≤ 4) (hE_1)) ?_
            refine r_ifne (t := 124) (by decide) dc_14_25_119 (fun c_119 => ?_) (fun c_119 => ?_)
            · exact absurd c_119 (by decide)
            · skip
              refine r_iconst (v := nI 0) (by decide) dc_14_25_122 ?_
              refine r_zret rfl (by decide) dc_14_25_123 ?_
              exact ⟨_, _, _, Or.inr ⟨_, NL_er hN hr_1, rfl, h26_1, hF_1⟩, rfl⟩
      · omega
    · omega
  obtain ⟨z9, ⟨io2, sg2, v, p9, e9⟩, h9⟩ := hq9
  subst e9
  exact ⟨io2, sg2, v, p9, h9⟩
set_option maxHeartbeats 4000000 in
theorem c_cl98 {M : mH} (hM : 157 ≤ M.1) {io0 : Nat → Int32} {sg0 : Nat → Nat → Int32} {sz p : Nat} {S : List Nat} {q : Nat → Int32} {E : Nat} {r : Except Nat txR} {io : Nat → Int32} {sg : Nat → Nat → Int32} (hR : RC sz io0 sg0 io sg p S q) (hq : q 11 = nI E) (hE : E ≤ 60) (hSp : S.length ≤ p) (hp : p ≤ sz) (hsz : sz ≤ 60) (hc1 : chr sg0 sz p = 98) (hN : NLr (chr sg0 sz) p S q E 7 99 r) : ∃ io2 sg2 v, CE sz io0 sg0 r io2 sg2 v ∧ mm_Ev 5 200 [.ref 100] (rf_mk M io sg) (some (.int v), rf_mk M io2 sg2) := by
  have hc := chr_lt sg0 sz p
  have hin : ¬ chr sg0 sz p = 0 → p < sz := chr_in (sg := sg0)
  have hq9 : ∃ z, (fun r9 => ∃ (io2 : Nat → Int32) (sg2 : Nat → Nat → Int32) (v : Int32), CE sz io0 sg0 r io2 sg2 v ∧ r9 = (some (.int v), rf_mk M io2 sg2)) z ∧ mm_Ev 5 200 [.ref 100] (rf_mk M io sg) z := by
    refine r_evQ (by decide +kernel) (show (1 : Nat) ≤ mm_nL 200 by decide +kernel) ?_
    show mm_Ru 4 (13, 3, false, prog_14_method_25_code, some .boolean) 0 [(0, .ref 100)] [] (rf_mk M io sg) (fun r9 => ∃ (io2 : Nat → Int32) (sg2 : Nat → Nat → Int32) (v : Int32), CE sz io0 sg0 r io2 sg2 v ∧ r9 = (some (.int v), rf_mk M io2 sg2))
    refine r_aload_n rfl dc_14_25_0 ?_
    refine q_calli (as := []) (rest := []) (v := .int (nI (chr sg0 sz p))) (M1 := rf_mk M io sg) iv_13_v222 na_1_201 o_201 hM rfl (show (0 : Nat) ≤ 8 by decide) dc_14_25_1 (mm_Ev_up (by decide : 1 ≤ 4) (v_sign hM (hR) (by omega) (by omega))) ?_
    refine r_istore_n (ls' := [(1, .int (nI (chr sg0 sz p))), (0, .ref 100)]) (by decide) rfl dc_14_25_4 ?_
    refine r_iload_n rfl dc_14_25_5 ?_
    refine r_bipush (v := nI 40) (by decide) dc_14_25_6 ?_
    refine r_ncne (t := 45) (by omega) (by omega) (by decide) dc_14_25_8 (fun c_8 => ?_) (fun c_8 => ?_)
    · skip
      refine r_iload_n rfl dc_14_25_45 ?_
      refine r_bipush (v := nI 110) (by decide) dc_14_25_46 ?_
      refine r_nceq (t := 79) (by omega) (by omega) (by decide) dc_14_25_48 (fun c_48 => ?_) (fun c_48 => ?_)
      · omega
      · skip
        refine r_iload_n rfl dc_14_25_51 ?_
        refine r_bipush (v := nI 98) (by decide) dc_14_25_52 ?_
        refine r_nceq (t := 79) (by omega) (by omega) (by decide) dc_14_25_54 (fun c_54 => ?_) (fun c_54 => ?_)
        · skip
          refine r_aload_n rfl dc_14_25_79 ?_
          refine r_aload_n rfl dc_14_25_80 ?_
          refine q_get (v := .int (nI p)) rx_216 hM (congrArg (fun z => some (Value.int z)) ((hR).1.1)) dc_14_25_81 ?_
          refine r_iconst (v := nI 1) (by decide) dc_14_25_84 ?_
          refine r_iadd (v := nI (p + 1)) (nI_add _ _) dc_14_25_85 ?_
          refine q_put rx_216 (by decide +kernel) (by decide +kernel) (by decide) (rs_24 _) hM dc_14_25_86 ?_
          refine r_aload_n rfl dc_14_25_89 ?_
          refine r_iconst (v := nI 0) (by decide) dc_14_25_90 ?_
          refine r_iload_n rfl dc_14_25_91 ?_
          refine r_bipush (v := nI 110) (by decide) dc_14_25_92 ?_
          refine r_ncne (t := 102) (by omega) (by omega) (by decide) dc_14_25_94 (fun c_94 => ?_) (fun c_94 => ?_)
          · skip
            refine r_iload_n rfl dc_14_25_102 ?_
            refine r_bipush (v := nI 112) (by decide) dc_14_25_103 ?_
            refine r_ncne (t := 114) (by omega) (by omega) (by decide) dc_14_25_105 (fun c_105 => ?_) (fun c_105 => ?_)
            · skip
              refine r_bipush (v := nI 99) (by decide) dc_14_25_114 ?_
              rcases v_num hM (RC_at (hR) (p + 1)) (by omega) (by omega) (lo := 0) (hi := 99) (by omega) (by omega) with ⟨io_1, v_1, e_1, hr_1, hR_1, h47_1, hE_1⟩ | ⟨io_1, f_1, hr_1, h26_1, hF_1, hE_1⟩
              · skip
                have hl_1 := rn_le (chr_z sg0 sz) hr_1
                refine q_calli (as := [.int (nI 0), .int (nI 99)]) (rest := []) (v := .int (nI 1)) (M1 := rf_mk M io_1 sg) iv_13_v261 na_1_206 o_206 hM rfl (show (0 : Nat) ≤ 8 by decide) dc_14_25_116 (mm_Ev_up (by decide : 3 ≤ 4) (hE_1)) ?_
                refine r_ifne (t := 124) (by decide) dc_14_25_119 (fun c_119 => ?_) (fun c_119 => ?_)
                · skip
                  refine r_iload_n rfl dc_14_25_124 ?_
                  refine r_bipush (v := nI 110) (by decide) dc_14_25_125 ?_
                  refine r_ncne (t := 138) (by omega) (by omega) (by decide) dc_14_25_127 (fun c_127 => ?_) (fun c_127 => ?_)
                  · skip
                    refine r_iload_n rfl dc_14_25_138 ?_
                    refine r_bipush (v := nI 98) (by decide) dc_14_25_139 ?_
                    refine r_ncne (t := 152) (by omega) (by omega) (by decide) dc_14_25_141 (fun c_141 => ?_) (fun c_141 => ?_)
                    · omega
                    · skip
                      refine r_aload_n rfl dc_14_25_144 ?_
                      refine r_aload_n rfl dc_14_25_145 ?_
                      refine q_get (v := .int (nI v_1)) rx_229 hM (congrArg (fun z => some (Value.int z)) (h47_1)) dc_14_25_146 ?_
                      refine q_put rx_278 (by decide +kernel) (by decide +kernel) (by decide) (rs_42 _) hM dc_14_25_149 ?_
                      refine r_iload_n rfl dc_14_25_152 ?_
                      refine r_bipush (v := nI 112) (by decide) dc_14_25_153 ?_
                      refine r_ncne (t := 166) (by omega) (by omega) (by decide) dc_14_25_155 (fun c_155 => ?_) (fun c_155 => ?_)
                      · skip
                        refine r_iload_n rfl dc_14_25_166 ?_
                        refine r_bipush (v := nI 121) (by decide) dc_14_25_167 ?_
                        refine r_nceq (t := 174) (by omega) (by omega) (by decide) dc_14_25_169 (fun c_169 => ?_) (fun c_169 => ?_)
                        · omega
                        · skip
                          refine r_iconst (v := nI 1) (by decide) dc_14_25_172 ?_
                          refine r_zret rfl (by decide) dc_14_25_173 ?_
                          exact ⟨_, _, _, Or.inl ⟨_, _, _, E, NL_ok hN hr_1, rfl, RC_put (hR_1) (k := 7) (by decide) (by decide) (nI v_1)⟩, rfl⟩
                      · omega
                  · omega
                · exact absurd c_119 (by decide)
              · skip
                refine q_calli (as := [.int (nI 0), .int (nI 99)]) (rest := []) (v := .int (nI 0)) (M1 := rf_mk M io_1 sg) iv_13_v261 na_1_206 o_206 hM rfl (show (0 : Nat) ≤ 8 by decide) dc_14_25_116 (mm_Ev_up (by decide : 3 ≤ 4) (hE_1)) ?_
                refine r_ifne (t := 124) (by decide) dc_14_25_119 (fun c_119 => ?_) (fun c_119 => ?_)
                · exact absurd c_119 (by decide)
                · skip
                  refine r_iconst (v := nI 0) (by decide) dc_14_25_122 ?_
                  refine r_zret rfl (by decide) dc_14_25_123 ?_
                  exact ⟨_, _, _, Or.inr ⟨_, NL_er hN hr_1, rfl, h26_1, hF_1⟩, rfl⟩
            · omega
          · omega
        · omega
    · omega
  obtain ⟨z9, ⟨io2, sg2, v, p9, e9⟩, h9⟩ := hq9
  subst e9
  exact ⟨io2, sg2, v, p9, h9⟩
set_option maxHeartbeats 4000000 in
theorem c_cl112 {M : mH} (hM : 157 ≤ M.1) {io0 : Nat → Int32} {sg0 : Nat → Nat → Int32} {sz p : Nat} {S : List Nat} {q : Nat → Int32} {E : Nat} {r : Except Nat txR} {io : Nat → Int32} {sg : Nat → Nat → Int32} (hR : RC sz io0 sg0 io sg p S q) (hq : q 11 = nI E) (hE : E ≤ 60) (hSp : S.length ≤ p) (hp : p ≤ sz) (hsz : sz ≤ 60) (hc1 : chr sg0 sz p = 112) (hN : NLr (chr sg0 sz) p S q E 8 9999 r) : ∃ io2 sg2 v, CE sz io0 sg0 r io2 sg2 v ∧ mm_Ev 5 200 [.ref 100] (rf_mk M io sg) (some (.int v), rf_mk M io2 sg2) := by
  have hc := chr_lt sg0 sz p
  have hin : ¬ chr sg0 sz p = 0 → p < sz := chr_in (sg := sg0)
  have hq9 : ∃ z, (fun r9 => ∃ (io2 : Nat → Int32) (sg2 : Nat → Nat → Int32) (v : Int32), CE sz io0 sg0 r io2 sg2 v ∧ r9 = (some (.int v), rf_mk M io2 sg2)) z ∧ mm_Ev 5 200 [.ref 100] (rf_mk M io sg) z := by
    refine r_evQ (by decide +kernel) (show (1 : Nat) ≤ mm_nL 200 by decide +kernel) ?_
    show mm_Ru 4 (13, 3, false, prog_14_method_25_code, some .boolean) 0 [(0, .ref 100)] [] (rf_mk M io sg) (fun r9 => ∃ (io2 : Nat → Int32) (sg2 : Nat → Nat → Int32) (v : Int32), CE sz io0 sg0 r io2 sg2 v ∧ r9 = (some (.int v), rf_mk M io2 sg2))
    refine r_aload_n rfl dc_14_25_0 ?_
    refine q_calli (as := []) (rest := []) (v := .int (nI (chr sg0 sz p))) (M1 := rf_mk M io sg) iv_13_v222 na_1_201 o_201 hM rfl (show (0 : Nat) ≤ 8 by decide) dc_14_25_1 (mm_Ev_up (by decide : 1 ≤ 4) (v_sign hM (hR) (by omega) (by omega))) ?_
    refine r_istore_n (ls' := [(1, .int (nI (chr sg0 sz p))), (0, .ref 100)]) (by decide) rfl dc_14_25_4 ?_
    refine r_iload_n rfl dc_14_25_5 ?_
    refine r_bipush (v := nI 40) (by decide) dc_14_25_6 ?_
    refine r_ncne (t := 45) (by omega) (by omega) (by decide) dc_14_25_8 (fun c_8 => ?_) (fun c_8 => ?_)
    · skip
      refine r_iload_n rfl dc_14_25_45 ?_
      refine r_bipush (v := nI 110) (by decide) dc_14_25_46 ?_
      refine r_nceq (t := 79) (by omega) (by omega) (by decide) dc_14_25_48 (fun c_48 => ?_) (fun c_48 => ?_)
      · omega
      · skip
        refine r_iload_n rfl dc_14_25_51 ?_
        refine r_bipush (v := nI 98) (by decide) dc_14_25_52 ?_
        refine r_nceq (t := 79) (by omega) (by omega) (by decide) dc_14_25_54 (fun c_54 => ?_) (fun c_54 => ?_)
        · omega
        · skip
          refine r_iload_n rfl dc_14_25_57 ?_
          refine r_bipush (v := nI 112) (by decide) dc_14_25_58 ?_
          refine r_nceq (t := 79) (by omega) (by omega) (by decide) dc_14_25_60 (fun c_60 => ?_) (fun c_60 => ?_)
          · skip
            refine r_aload_n rfl dc_14_25_79 ?_
            refine r_aload_n rfl dc_14_25_80 ?_
            refine q_get (v := .int (nI p)) rx_216 hM (congrArg (fun z => some (Value.int z)) ((hR).1.1)) dc_14_25_81 ?_
            refine r_iconst (v := nI 1) (by decide) dc_14_25_84 ?_
            refine r_iadd (v := nI (p + 1)) (nI_add _ _) dc_14_25_85 ?_
            refine q_put rx_216 (by decide +kernel) (by decide +kernel) (by decide) (rs_24 _) hM dc_14_25_86 ?_
            refine r_aload_n rfl dc_14_25_89 ?_
            refine r_iconst (v := nI 0) (by decide) dc_14_25_90 ?_
            refine r_iload_n rfl dc_14_25_91 ?_
            refine r_bipush (v := nI 110) (by decide) dc_14_25_92 ?_
            refine r_ncne (t := 102) (by omega) (by omega) (by decide) dc_14_25_94 (fun c_94 => ?_) (fun c_94 => ?_)
            · skip
              refine r_iload_n rfl dc_14_25_102 ?_
              refine r_bipush (v := nI 112) (by decide) dc_14_25_103 ?_
              refine r_ncne (t := 114) (by omega) (by omega) (by decide) dc_14_25_105 (fun c_105 => ?_) (fun c_105 => ?_)
              · omega
              · skip
                refine r_sipush (v := nI 9999) (by decide) dc_14_25_108 ?_
                refine r_goto (t := 116) (by decide) dc_14_25_111 ?_
                rcases v_num hM (RC_at (hR) (p + 1)) (by omega) (by omega) (lo := 0) (hi := 9999) (by omega) (by omega) with ⟨io_1, v_1, e_1, hr_1, hR_1, h47_1, hE_1⟩ | ⟨io_1, f_1, hr_1, h26_1, hF_1, hE_1⟩
                · skip
                  have hl_1 := rn_le (chr_z sg0 sz) hr_1
                  refine q_calli (as := [.int (nI 0), .int (nI 9999)]) (rest := []) (v := .int (nI 1)) (M1 := rf_mk M io_1 sg) iv_13_v261 na_1_206 o_206 hM rfl (show (0 : Nat) ≤ 8 by decide) dc_14_25_116 (mm_Ev_up (by decide : 3 ≤ 4) (hE_1)) ?_
                  refine r_ifne (t := 124) (by decide) dc_14_25_119 (fun c_119 => ?_) (fun c_119 => ?_)
                  · skip
                    refine r_iload_n rfl dc_14_25_124 ?_
                    refine r_bipush (v := nI 110) (by decide) dc_14_25_125 ?_
                    refine r_ncne (t := 138) (by omega) (by omega) (by decide) dc_14_25_127 (fun c_127 => ?_) (fun c_127 => ?_)
                    · skip
                      refine r_iload_n rfl dc_14_25_138 ?_
                      refine r_bipush (v := nI 98) (by decide) dc_14_25_139 ?_
                      refine r_ncne (t := 152) (by omega) (by omega) (by decide) dc_14_25_141 (fun c_141 => ?_) (fun c_141 => ?_)
                      · skip
                        refine r_iload_n rfl dc_14_25_152 ?_
                        refine r_bipush (v := nI 112) (by decide) dc_14_25_153 ?_
                        refine r_ncne (t := 166) (by omega) (by omega) (by decide) dc_14_25_155 (fun c_155 => ?_) (fun c_155 => ?_)
                        · omega
                        · skip
                          refine r_aload_n rfl dc_14_25_158 ?_
                          refine r_aload_n rfl dc_14_25_159 ?_
                          refine q_get (v := .int (nI v_1)) rx_229 hM (congrArg (fun z => some (Value.int z)) (h47_1)) dc_14_25_160 ?_
                          refine q_put rx_281 (by decide +kernel) (by decide +kernel) (by decide) (rs_43 _) hM dc_14_25_163 ?_
                          refine r_iload_n rfl dc_14_25_166 ?_
                          refine r_bipush (v := nI 121) (by decide) dc_14_25_167 ?_
                          refine r_nceq (t := 174) (by omega) (by omega) (by decide) dc_14_25_169 (fun c_169 => ?_) (fun c_169 => ?_)
                          · omega
                          · skip
                            refine r_iconst (v := nI 1) (by decide) dc_14_25_172 ?_
                            refine r_zret rfl (by decide) dc_14_25_173 ?_
                            exact ⟨_, _, _, Or.inl ⟨_, _, _, E, NL_ok hN hr_1, rfl, RC_put (hR_1) (k := 8) (by decide) (by decide) (nI v_1)⟩, rfl⟩
                      · omega
                    · omega
                  · exact absurd c_119 (by decide)
                · skip
                  refine q_calli (as := [.int (nI 0), .int (nI 9999)]) (rest := []) (v := .int (nI 0)) (M1 := rf_mk M io_1 sg) iv_13_v261 na_1_206 o_206 hM rfl (show (0 : Nat) ≤ 8 by decide) dc_14_25_116 (mm_Ev_up (by decide : 3 ≤ 4) (hE_1)) ?_
                  refine r_ifne (t := 124) (by decide) dc_14_25_119 (fun c_119 => ?_) (fun c_119 => ?_)
                  · exact absurd c_119 (by decide)
                  · skip
                    refine r_iconst (v := nI 0) (by decide) dc_14_25_122 ?_
                    refine r_zret rfl (by decide) dc_14_25_123 ?_
                    exact ⟨_, _, _, Or.inr ⟨_, NL_er hN hr_1, rfl, h26_1, hF_1⟩, rfl⟩
            · omega
          · omega
    · omega
  obtain ⟨z9, ⟨io2, sg2, v, p9, e9⟩, h9⟩ := hq9
  subst e9
  exact ⟨io2, sg2, v, p9, h9⟩
set_option maxHeartbeats 4000000 in
theorem c_cl121 {M : mH} (hM : 157 ≤ M.1) {io0 : Nat → Int32} {sg0 : Nat → Nat → Int32} {sz p : Nat} {S : List Nat} {q : Nat → Int32} {E : Nat} {r : Except Nat txR} {io : Nat → Int32} {sg : Nat → Nat → Int32} (hR : RC sz io0 sg0 io sg p S q) (hq : q 11 = nI E) (hE : E ≤ 60) (hSp : S.length ≤ p) (hp : p ≤ sz) (hsz : sz ≤ 60) (hc1 : chr sg0 sz p = 121) (hN : YLr (chr sg0 sz) p S q E r) : ∃ io2 sg2 v, CE sz io0 sg0 r io2 sg2 v ∧ mm_Ev 5 200 [.ref 100] (rf_mk M io sg) (some (.int v), rf_mk M io2 sg2) := by
  have hc := chr_lt sg0 sz p
  have hin : ¬ chr sg0 sz p = 0 → p < sz := chr_in (sg := sg0)
  have hq9 : ∃ z, (fun r9 => ∃ (io2 : Nat → Int32) (sg2 : Nat → Nat → Int32) (v : Int32), CE sz io0 sg0 r io2 sg2 v ∧ r9 = (some (.int v), rf_mk M io2 sg2)) z ∧ mm_Ev 5 200 [.ref 100] (rf_mk M io sg) z := by
    refine r_evQ (by decide +kernel) (show (1 : Nat) ≤ mm_nL 200 by decide +kernel) ?_
    show mm_Ru 4 (13, 3, false, prog_14_method_25_code, some .boolean) 0 [(0, .ref 100)] [] (rf_mk M io sg) (fun r9 => ∃ (io2 : Nat → Int32) (sg2 : Nat → Nat → Int32) (v : Int32), CE sz io0 sg0 r io2 sg2 v ∧ r9 = (some (.int v), rf_mk M io2 sg2))
    refine r_aload_n rfl dc_14_25_0 ?_
    refine q_calli (as := []) (rest := []) (v := .int (nI (chr sg0 sz p))) (M1 := rf_mk M io sg) iv_13_v222 na_1_201 o_201 hM rfl (show (0 : Nat) ≤ 8 by decide) dc_14_25_1 (mm_Ev_up (by decide : 1 ≤ 4) (v_sign hM (hR) (by omega) (by omega))) ?_
    refine r_istore_n (ls' := [(1, .int (nI (chr sg0 sz p))), (0, .ref 100)]) (by decide) rfl dc_14_25_4 ?_
    refine r_iload_n rfl dc_14_25_5 ?_
    refine r_bipush (v := nI 40) (by decide) dc_14_25_6 ?_
    refine r_ncne (t := 45) (by omega) (by omega) (by decide) dc_14_25_8 (fun c_8 => ?_) (fun c_8 => ?_)
    · skip
      refine r_iload_n rfl dc_14_25_45 ?_
      refine r_bipush (v := nI 110) (by decide) dc_14_25_46 ?_
      refine r_nceq (t := 79) (by omega) (by omega) (by decide) dc_14_25_48 (fun c_48 => ?_) (fun c_48 => ?_)
      · omega
      · skip
        refine r_iload_n rfl dc_14_25_51 ?_
        refine r_bipush (v := nI 98) (by decide) dc_14_25_52 ?_
        refine r_nceq (t := 79) (by omega) (by omega) (by decide) dc_14_25_54 (fun c_54 => ?_) (fun c_54 => ?_)
        · omega
        · skip
          refine r_iload_n rfl dc_14_25_57 ?_
          refine r_bipush (v := nI 112) (by decide) dc_14_25_58 ?_
          refine r_nceq (t := 79) (by omega) (by omega) (by decide) dc_14_25_60 (fun c_60 => ?_) (fun c_60 => ?_)
          · omega
          · skip
            refine r_iload_n rfl dc_14_25_63 ?_
            refine r_bipush (v := nI 121) (by decide) dc_14_25_64 ?_
            refine r_nceq (t := 79) (by omega) (by omega) (by decide) dc_14_25_66 (fun c_66 => ?_) (fun c_66 => ?_)
            · skip
              refine r_aload_n rfl dc_14_25_79 ?_
              refine r_aload_n rfl dc_14_25_80 ?_
              refine q_get (v := .int (nI p)) rx_216 hM (congrArg (fun z => some (Value.int z)) ((hR).1.1)) dc_14_25_81 ?_
              refine r_iconst (v := nI 1) (by decide) dc_14_25_84 ?_
              refine r_iadd (v := nI (p + 1)) (nI_add _ _) dc_14_25_85 ?_
              refine q_put rx_216 (by decide +kernel) (by decide +kernel) (by decide) (rs_24 _) hM dc_14_25_86 ?_
              refine r_aload_n rfl dc_14_25_89 ?_
              refine r_iconst (v := nI 0) (by decide) dc_14_25_90 ?_
              refine r_iload_n rfl dc_14_25_91 ?_
              refine r_bipush (v := nI 110) (by decide) dc_14_25_92 ?_
              refine r_ncne (t := 102) (by omega) (by omega) (by decide) dc_14_25_94 (fun c_94 => ?_) (fun c_94 => ?_)
              · skip
                refine r_iload_n rfl dc_14_25_102 ?_
                refine r_bipush (v := nI 112) (by decide) dc_14_25_103 ?_
                refine r_ncne (t := 114) (by omega) (by omega) (by decide) dc_14_25_105 (fun c_105 => ?_) (fun c_105 => ?_)
                · skip
                  refine r_bipush (v := nI 99) (by decide) dc_14_25_114 ?_
                  rcases v_num hM (RC_at (hR) (p + 1)) (by omega) (by omega) (lo := 0) (hi := 99) (by omega) (by omega) with ⟨io_1, v_1, e_1, hr_1, hR_1, h47_1, hE_1⟩ | ⟨io_1, f_1, hr_1, h26_1, hF_1, hE_1⟩
                  · skip
                    have hl_1 := rn_le (chr_z sg0 sz) hr_1
                    refine q_calli (as := [.int (nI 0), .int (nI 99)]) (rest := []) (v := .int (nI 1)) (M1 := rf_mk M io_1 sg) iv_13_v261 na_1_206 o_206 hM rfl (show (0 : Nat) ≤ 8 by decide) dc_14_25_116 (mm_Ev_up (by decide : 3 ≤ 4) (hE_1)) ?_
                    refine r_ifne (t := 124) (by decide) dc_14_25_119 (fun c_119 => ?_) (fun c_119 => ?_)
                    · skip
                      refine r_iload_n rfl dc_14_25_124 ?_
                      refine r_bipush (v := nI 110) (by decide) dc_14_25_125 ?_
                      refine r_ncne (t := 138) (by omega) (by omega) (by decide) dc_14_25_127 (fun c_127 => ?_) (fun c_127 => ?_)
                      · skip
                        refine r_iload_n rfl dc_14_25_138 ?_
                        refine r_bipush (v := nI 98) (by decide) dc_14_25_139 ?_
                        refine r_ncne (t := 152) (by omega) (by omega) (by decide) dc_14_25_141 (fun c_141 => ?_) (fun c_141 => ?_)
                        · skip
                          refine r_iload_n rfl dc_14_25_152 ?_
                          refine r_bipush (v := nI 112) (by decide) dc_14_25_153 ?_
                          refine r_ncne (t := 166) (by omega) (by omega) (by decide) dc_14_25_155 (fun c_155 => ?_) (fun c_155 => ?_)
                          · skip
                            refine r_iload_n rfl dc_14_25_166 ?_
                            refine r_bipush (v := nI 121) (by decide) dc_14_25_167 ?_
                            refine r_nceq (t := 174) (by omega) (by omega) (by decide) dc_14_25_169 (fun c_169 => ?_) (fun c_169 => ?_)
                            · skip
                              refine r_aload_n rfl dc_14_25_174 ?_
                              refine q_get (v := .int (nI v_1)) rx_229 hM (congrArg (fun z => some (Value.int z)) (h47_1)) dc_14_25_175 ?_
                              refine r_istore_n (ls' := [(2, .int (nI v_1)), (1, .int (nI (chr sg0 sz p))), (0, .ref 100)]) (by decide) rfl dc_14_25_178 ?_
                              have hc2 := chr_lt sg0 sz e_1
                              have hin2 : ¬ chr sg0 sz e_1 = 0 → e_1 < sz := chr_in (sg := sg0)
                              refine r_aload_n rfl dc_14_25_179 ?_
                              refine q_calli (as := []) (rest := []) (v := .int (nI (chr sg0 sz e_1))) (M1 := rf_mk M io_1 sg) iv_13_v222 na_1_201 o_201 hM rfl (show (0 : Nat) ≤ 8 by decide) dc_14_25_180 (mm_Ev_up (by decide : 1 ≤ 4) (v_sign hM (hR_1) (by omega) (by omega))) ?_
                              refine r_bipush (v := nI 45) (by decide) dc_14_25_183 ?_
                              refine r_nceq (t := 198) (by omega) (by omega) (by decide) dc_14_25_185 (fun c_185 => ?_) (fun c_185 => ?_)
                              · skip
                                refine r_aload_n rfl dc_14_25_198 ?_
                                refine r_aload_n rfl dc_14_25_199 ?_
                                refine q_get (v := .int (nI e_1)) rx_216 hM (congrArg (fun z => some (Value.int z)) ((hR_1).1.1)) dc_14_25_200 ?_
                                refine r_iconst (v := nI 1) (by decide) dc_14_25_203 ?_
                                refine r_iadd (v := nI (e_1 + 1)) (nI_add _ _) dc_14_25_204 ?_
                                refine q_put rx_216 (by decide +kernel) (by decide +kernel) (by decide) (rs_24 _) hM dc_14_25_205 ?_
                                refine r_aload_n rfl dc_14_25_208 ?_
                                refine r_iload_n rfl dc_14_25_209 ?_
                                refine r_bipush (v := nI 99) (by decide) dc_14_25_210 ?_
                                rcases v_num hM (RC_at (hR_1) (e_1 + 1)) (by omega) (by omega) (lo := v_1) (hi := 99) (by omega) (by omega) with ⟨io_2, v_2, e_2, hr_2, hR_2, h47_2, hE_2⟩ | ⟨io_2, f_2, hr_2, h26_2, hF_2, hE_2⟩
                                · skip
                                  have hl_2 := rn_le (chr_z sg0 sz) hr_2
                                  refine q_calli (as := [.int (nI v_1), .int (nI 99)]) (rest := []) (v := .int (nI 1)) (M1 := rf_mk M io_2 sg) iv_13_v261 na_1_206 o_206 hM rfl (show (0 : Nat) ≤ 8 by decide) dc_14_25_212 (mm_Ev_up (by decide : 3 ≤ 4) (hE_2)) ?_
                                  refine r_ifne (t := 220) (by decide) dc_14_25_215 (fun c_215 => ?_) (fun c_215 => ?_)
                                  · skip
                                    refine r_aload_n rfl dc_14_25_220 ?_
                                    refine r_iload_n rfl dc_14_25_221 ?_
                                    refine q_put rx_284 (by decide +kernel) (by decide +kernel) (by decide) (rs_44 _) hM dc_14_25_222 ?_
                                    refine r_aload_n rfl dc_14_25_225 ?_
                                    refine r_aload_n rfl dc_14_25_226 ?_
                                    refine q_get (v := .int (nI v_2)) rx_229 hM (congrArg (fun z => some (Value.int z)) (h47_2)) dc_14_25_227 ?_
                                    refine q_put rx_287 (by decide +kernel) (by decide +kernel) (by decide) (rs_45 _) hM dc_14_25_230 ?_
                                    refine r_iconst (v := nI 1) (by decide) dc_14_25_233 ?_
                                    refine r_zret rfl (by decide) dc_14_25_234 ?_
                                    exact ⟨_, _, _, Or.inl ⟨_, _, _, E, YL_ok2 hN hr_1 c_185 hr_2, rfl, RC_put (RC_put (hR_2) (k := 9) (by decide) (by decide) (nI v_1)) (k := 10) (by decide) (by decide) (nI v_2)⟩, rfl⟩
                                  · exact absurd c_215 (by decide)
                                · skip
                                  refine q_calli (as := [.int (nI v_1), .int (nI 99)]) (rest := []) (v := .int (nI 0)) (M1 := rf_mk M io_2 sg) iv_13_v261 na_1_206 o_206 hM rfl (show (0 : Nat) ≤ 8 by decide) dc_14_25_212 (mm_Ev_up (by decide : 3 ≤ 4) (hE_2)) ?_
                                  refine r_ifne (t := 220) (by decide) dc_14_25_215 (fun c_215 => ?_) (fun c_215 => ?_)
                                  · exact absurd c_215 (by decide)
                                  · skip
                                    refine r_iconst (v := nI 0) (by decide) dc_14_25_218 ?_
                                    refine r_zret rfl (by decide) dc_14_25_219 ?_
                                    exact ⟨_, _, _, Or.inr ⟨_, YL_er2 hN hr_1 c_185 hr_2, rfl, h26_2, hF_2⟩, rfl⟩
                              · skip
                                refine r_aload_n rfl dc_14_25_188 ?_
                                refine r_iconst (v := nI 1) (by decide) dc_14_25_189 ?_
                                refine r_aload_n rfl dc_14_25_190 ?_
                                refine q_get (v := .int (nI e_1)) rx_216 hM (congrArg (fun z => some (Value.int z)) ((hR_1).1.1)) dc_14_25_191 ?_
                                refine q_calli (as := [.int (nI 1), .int (nI e_1)]) (rest := []) (v := .int (nI 0)) (M1 := rf_mk M (va_up io_1 26 (-nI (100 * 1 + e_1))) sg) iv_13_v236 na_1_203 o_203 hM rfl (show (0 : Nat) ≤ 8 by decide) dc_14_25_194 (mm_Ev_up (by decide : 1 ≤ 4) (c_wrong M hM (io_1) (sg) 1 e_1)) ?_
                                refine r_zret rfl (by decide) dc_14_25_197 ?_
                                exact ⟨_, _, _, Or.inr ⟨_, YL_no hN hr_1 c_185, rfl, rfl, FrQ_io (hR_1).2 (by omega) _⟩, rfl⟩
                            · omega
                          · omega
                        · omega
                      · omega
                    · exact absurd c_119 (by decide)
                  · skip
                    refine q_calli (as := [.int (nI 0), .int (nI 99)]) (rest := []) (v := .int (nI 0)) (M1 := rf_mk M io_1 sg) iv_13_v261 na_1_206 o_206 hM rfl (show (0 : Nat) ≤ 8 by decide) dc_14_25_116 (mm_Ev_up (by decide : 3 ≤ 4) (hE_1)) ?_
                    refine r_ifne (t := 124) (by decide) dc_14_25_119 (fun c_119 => ?_) (fun c_119 => ?_)
                    · exact absurd c_119 (by decide)
                    · skip
                      refine r_iconst (v := nI 0) (by decide) dc_14_25_122 ?_
                      refine r_zret rfl (by decide) dc_14_25_123 ?_
                      exact ⟨_, _, _, Or.inr ⟨_, YL_er hN hr_1, rfl, h26_1, hF_1⟩, rfl⟩
                · omega
              · omega
            · omega
    · omega
  obtain ⟨z9, ⟨io2, sg2, v, p9, e9⟩, h9⟩ := hq9
  subst e9
  exact ⟨io2, sg2, v, p9, h9⟩
set_option maxHeartbeats 4000000 in
theorem c_clno {M : mH} (hM : 157 ≤ M.1) {io0 : Nat → Int32} {sg0 : Nat → Nat → Int32} {sz p : Nat} {S : List Nat} {q : Nat → Int32} {E : Nat} {r : Except Nat txR} {io : Nat → Int32} {sg : Nat → Nat → Int32} (hR : RC sz io0 sg0 io sg p S q) (hq : q 11 = nI E) (hE : E ≤ 60) (hSp : S.length ≤ p) (hp : p ≤ sz) (hsz : sz ≤ 60) (hc1 : ¬ chr sg0 sz p = 40 ∧ ¬ chr sg0 sz p = 110 ∧ ¬ chr sg0 sz p = 98 ∧ ¬ chr sg0 sz p = 112 ∧ ¬ chr sg0 sz p = 121) (hr : r = .error (100 + p)) : ∃ io2 sg2 v, CE sz io0 sg0 r io2 sg2 v ∧ mm_Ev 5 200 [.ref 100] (rf_mk M io sg) (some (.int v), rf_mk M io2 sg2) := by
  have hc := chr_lt sg0 sz p
  have hin : ¬ chr sg0 sz p = 0 → p < sz := chr_in (sg := sg0)
  have hq9 : ∃ z, (fun r9 => ∃ (io2 : Nat → Int32) (sg2 : Nat → Nat → Int32) (v : Int32), CE sz io0 sg0 r io2 sg2 v ∧ r9 = (some (.int v), rf_mk M io2 sg2)) z ∧ mm_Ev 5 200 [.ref 100] (rf_mk M io sg) z := by
    refine r_evQ (by decide +kernel) (show (1 : Nat) ≤ mm_nL 200 by decide +kernel) ?_
    show mm_Ru 4 (13, 3, false, prog_14_method_25_code, some .boolean) 0 [(0, .ref 100)] [] (rf_mk M io sg) (fun r9 => ∃ (io2 : Nat → Int32) (sg2 : Nat → Nat → Int32) (v : Int32), CE sz io0 sg0 r io2 sg2 v ∧ r9 = (some (.int v), rf_mk M io2 sg2))
    refine r_aload_n rfl dc_14_25_0 ?_
    refine q_calli (as := []) (rest := []) (v := .int (nI (chr sg0 sz p))) (M1 := rf_mk M io sg) iv_13_v222 na_1_201 o_201 hM rfl (show (0 : Nat) ≤ 8 by decide) dc_14_25_1 (mm_Ev_up (by decide : 1 ≤ 4) (v_sign hM (hR) (by omega) (by omega))) ?_
    refine r_istore_n (ls' := [(1, .int (nI (chr sg0 sz p))), (0, .ref 100)]) (by decide) rfl dc_14_25_4 ?_
    refine r_iload_n rfl dc_14_25_5 ?_
    refine r_bipush (v := nI 40) (by decide) dc_14_25_6 ?_
    refine r_ncne (t := 45) (by omega) (by omega) (by decide) dc_14_25_8 (fun c_8 => ?_) (fun c_8 => ?_)
    · skip
      refine r_iload_n rfl dc_14_25_45 ?_
      refine r_bipush (v := nI 110) (by decide) dc_14_25_46 ?_
      refine r_nceq (t := 79) (by omega) (by omega) (by decide) dc_14_25_48 (fun c_48 => ?_) (fun c_48 => ?_)
      · omega
      · skip
        refine r_iload_n rfl dc_14_25_51 ?_
        refine r_bipush (v := nI 98) (by decide) dc_14_25_52 ?_
        refine r_nceq (t := 79) (by omega) (by omega) (by decide) dc_14_25_54 (fun c_54 => ?_) (fun c_54 => ?_)
        · omega
        · skip
          refine r_iload_n rfl dc_14_25_57 ?_
          refine r_bipush (v := nI 112) (by decide) dc_14_25_58 ?_
          refine r_nceq (t := 79) (by omega) (by omega) (by decide) dc_14_25_60 (fun c_60 => ?_) (fun c_60 => ?_)
          · omega
          · skip
            refine r_iload_n rfl dc_14_25_63 ?_
            refine r_bipush (v := nI 121) (by decide) dc_14_25_64 ?_
            refine r_nceq (t := 79) (by omega) (by omega) (by decide) dc_14_25_66 (fun c_66 => ?_) (fun c_66 => ?_)
            · omega
            · skip
              refine r_aload_n rfl dc_14_25_69 ?_
              refine r_iconst (v := nI 1) (by decide) dc_14_25_70 ?_
              refine r_aload_n rfl dc_14_25_71 ?_
              refine q_get (v := .int (nI p)) rx_216 hM (congrArg (fun z => some (Value.int z)) ((hR).1.1)) dc_14_25_72 ?_
              refine q_calli (as := [.int (nI 1), .int (nI p)]) (rest := []) (v := .int (nI 0)) (M1 := rf_mk M (va_up io 26 (-nI (100 * 1 + p))) sg) iv_13_v236 na_1_203 o_203 hM rfl (show (0 : Nat) ≤ 8 by decide) dc_14_25_75 (mm_Ev_up (by decide : 1 ≤ 4) (c_wrong M hM (io) (sg) 1 p)) ?_
              refine r_zret rfl (by decide) dc_14_25_78 ?_
              exact ⟨_, _, _, Or.inr ⟨_, hr, rfl, rfl, FrQ_io (hR).2 (by omega) _⟩, rfl⟩
    · omega
  obtain ⟨z9, ⟨io2, sg2, v, p9, e9⟩, h9⟩ := hq9
  subst e9
  exact ⟨io2, sg2, v, p9, h9⟩
theorem c_clause {M : mH} (hM : 157 ≤ M.1) {io0 : Nat → Int32} {sg0 : Nat → Nat → Int32} {sz p : Nat} {S : List Nat} {q : Nat → Int32} {E : Nat} {r : Except Nat txR} {io : Nat → Int32} {sg : Nat → Nat → Int32} (hR : RC sz io0 sg0 io sg p S q) (hq : q 11 = nI E) (hE : E ≤ 60) (hSp : S.length ≤ p) (hp : p ≤ sz) (hsz : sz ≤ 60) (hC : CLr (chr sg0 sz) p S q E r) : ∃ io2 sg2 v, CE sz io0 sg0 r io2 sg2 v ∧ mm_Ev 5 200 [.ref 100] (rf_mk M io sg) (some (.int v), rf_mk M io2 sg2) := by
  rcases hC with ⟨h1, h2⟩ | ⟨h1, h2⟩ | ⟨h1, h2⟩ | ⟨h1, h2⟩ | ⟨h1, h2⟩ | ⟨h1, h2, h3, h4, h5, h6⟩
  · exact c_cl40 hM hR hq hE hSp hp hsz h1 h2
  · exact c_cl110 hM hR hq hE hSp hp hsz h1 h2
  · exact c_cl98 hM hR hq hE hSp hp hsz h1 h2
  · exact c_cl112 hM hR hq hE hSp hp hsz h1 h2
  · exact c_cl121 hM hR hq hE hSp hp hsz h1 h2
  · exact c_clno hM hR hq hE hSp hp hsz ⟨h1, h2, h3, h4, h5⟩ h6
