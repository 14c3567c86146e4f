/-! which subjects meet an agreement -/
theorem dc_2_5_0 : decode prog_2_method_5_code 0 = .ok (.iconst 0, 1) := by decide +kernel
theorem dc_2_5_1 : decode prog_2_method_5_code 1 = .ok (.istore 4, 2) := by decide +kernel
theorem dc_2_5_3 : decode prog_2_method_5_code 3 = .ok (.iconst 0, 1) := by decide +kernel
theorem dc_2_5_4 : decode prog_2_method_5_code 4 = .ok (.istore 5, 2) := by decide +kernel
theorem dc_2_5_6 : decode prog_2_method_5_code 6 = .ok (.iload 5, 2) := by decide +kernel
theorem dc_2_5_8 : decode prog_2_method_5_code 8 = .ok (.aload_n 0, 1) := by decide +kernel
theorem dc_2_5_9 : decode prog_2_method_5_code 9 = .ok (.getfield 48, 3) := by decide +kernel
theorem dc_2_5_12 : decode prog_2_method_5_code 12 = .ok (.arraylength, 1) := by decide +kernel
theorem dc_2_5_13 : decode prog_2_method_5_code 13 = .ok (.if_icmp .ge 156, 3) := by decide +kernel
theorem dc_2_5_16 : decode prog_2_method_5_code 16 = .ok (.aload_n 0, 1) := by decide +kernel
theorem dc_2_5_17 : decode prog_2_method_5_code 17 = .ok (.getfield 48, 3) := by decide +kernel
theorem dc_2_5_20 : decode prog_2_method_5_code 20 = .ok (.iload 5, 2) := by decide +kernel
theorem dc_2_5_22 : decode prog_2_method_5_code 22 = .ok (.iaload, 1) := by decide +kernel
theorem dc_2_5_23 : decode prog_2_method_5_code 23 = .ok (.istore 6, 2) := by decide +kernel
theorem dc_2_5_25 : decode prog_2_method_5_code 25 = .ok (.iload 6, 2) := by decide +kernel
theorem dc_2_5_27 : decode prog_2_method_5_code 27 = .ok (.ifCond .lt 34, 3) := by decide +kernel
theorem dc_2_5_30 : decode prog_2_method_5_code 30 = .ok (.iload 4, 2) := by decide +kernel
theorem dc_2_5_32 : decode prog_2_method_5_code 32 = .ok (.aload_n 0, 1) := by decide +kernel
theorem dc_2_5_33 : decode prog_2_method_5_code 33 = .ok (.getfield 51, 3) := by decide +kernel
theorem dc_2_5_36 : decode prog_2_method_5_code 36 = .ok (.arraylength, 1) := by decide +kernel
theorem dc_2_5_37 : decode prog_2_method_5_code 37 = .ok (.if_icmp .ge 24, 3) := by decide +kernel
theorem dc_2_5_40 : decode prog_2_method_5_code 40 = .ok (.aload_n 0, 1) := by decide +kernel
theorem dc_2_5_41 : decode prog_2_method_5_code 41 = .ok (.getfield 51, 3) := by decide +kernel
theorem dc_2_5_44 : decode prog_2_method_5_code 44 = .ok (.iload 4, 2) := by decide +kernel
theorem dc_2_5_46 : decode prog_2_method_5_code 46 = .ok (.iload 6, 2) := by decide +kernel
theorem dc_2_5_48 : decode prog_2_method_5_code 48 = .ok (.iload_n 1, 1) := by decide +kernel
theorem dc_2_5_49 : decode prog_2_method_5_code 49 = .ok (.iload_n 2, 1) := by decide +kernel
theorem dc_2_5_50 : decode prog_2_method_5_code 50 = .ok (.iload_n 3, 1) := by decide +kernel
theorem dc_2_5_51 : decode prog_2_method_5_code 51 = .ok (.invokestatic 62, 3) := by decide +kernel
theorem dc_2_5_54 : decode prog_2_method_5_code 54 = .ok (.iastore, 1) := by decide +kernel
theorem dc_2_5_55 : decode prog_2_method_5_code 55 = .ok (.iinc 4 1, 3) := by decide +kernel
theorem dc_2_5_58 : decode prog_2_method_5_code 58 = .ok (.goto 105, 3) := by decide +kernel
theorem dc_2_5_61 : decode prog_2_method_5_code 61 = .ok (.iload 6, 2) := by decide +kernel
theorem dc_2_5_63 : decode prog_2_method_5_code 63 = .ok (.iconst (-1), 1) := by decide +kernel
theorem dc_2_5_64 : decode prog_2_method_5_code 64 = .ok (.if_icmp .ne 26, 3) := by decide +kernel
theorem dc_2_5_67 : decode prog_2_method_5_code 67 = .ok (.iload 4, 2) := by decide +kernel
theorem dc_2_5_69 : decode prog_2_method_5_code 69 = .ok (.ifCond .le 21, 3) := by decide +kernel
theorem dc_2_5_72 : decode prog_2_method_5_code 72 = .ok (.aload_n 0, 1) := by decide +kernel
theorem dc_2_5_73 : decode prog_2_method_5_code 73 = .ok (.getfield 51, 3) := by decide +kernel
theorem dc_2_5_76 : decode prog_2_method_5_code 76 = .ok (.iload 4, 2) := by decide +kernel
theorem dc_2_5_78 : decode prog_2_method_5_code 78 = .ok (.iconst 1, 1) := by decide +kernel
theorem dc_2_5_79 : decode prog_2_method_5_code 79 = .ok (.isub, 1) := by decide +kernel
theorem dc_2_5_80 : decode prog_2_method_5_code 80 = .ok (.dup2, 1) := by decide +kernel
theorem dc_2_5_81 : decode prog_2_method_5_code 81 = .ok (.iaload, 1) := by decide +kernel
theorem dc_2_5_82 : decode prog_2_method_5_code 82 = .ok (.sipush 255, 3) := by decide +kernel
theorem dc_2_5_85 : decode prog_2_method_5_code 85 = .ok (.ixor, 1) := by decide +kernel
theorem dc_2_5_86 : decode prog_2_method_5_code 86 = .ok (.iastore, 1) := by decide +kernel
theorem dc_2_5_87 : decode prog_2_method_5_code 87 = .ok (.goto 76, 3) := by decide +kernel
theorem dc_2_5_90 : decode prog_2_method_5_code 90 = .ok (.iload 6, 2) := by decide +kernel
theorem dc_2_5_92 : decode prog_2_method_5_code 92 = .ok (.bipush (-2), 2) := by decide +kernel
theorem dc_2_5_94 : decode prog_2_method_5_code 94 = .ok (.if_icmp .ne 34, 3) := by decide +kernel
theorem dc_2_5_97 : decode prog_2_method_5_code 97 = .ok (.iload 4, 2) := by decide +kernel
theorem dc_2_5_99 : decode prog_2_method_5_code 99 = .ok (.iconst 1, 1) := by decide +kernel
theorem dc_2_5_100 : decode prog_2_method_5_code 100 = .ok (.if_icmp .le 28, 3) := by decide +kernel
theorem dc_2_5_103 : decode prog_2_method_5_code 103 = .ok (.iinc 4 (-1), 3) := by decide +kernel
theorem dc_2_5_106 : decode prog_2_method_5_code 106 = .ok (.aload_n 0, 1) := by decide +kernel
theorem dc_2_5_107 : decode prog_2_method_5_code 107 = .ok (.getfield 51, 3) := by decide +kernel
theorem dc_2_5_110 : decode prog_2_method_5_code 110 = .ok (.iload 4, 2) := by decide +kernel
theorem dc_2_5_112 : decode prog_2_method_5_code 112 = .ok (.iconst 1, 1) := by decide +kernel
theorem dc_2_5_113 : decode prog_2_method_5_code 113 = .ok (.isub, 1) := by decide +kernel
theorem dc_2_5_114 : decode prog_2_method_5_code 114 = .ok (.dup2, 1) := by decide +kernel
theorem dc_2_5_115 : decode prog_2_method_5_code 115 = .ok (.iaload, 1) := by decide +kernel
theorem dc_2_5_116 : decode prog_2_method_5_code 116 = .ok (.aload_n 0, 1) := by decide +kernel
theorem dc_2_5_117 : decode prog_2_method_5_code 117 = .ok (.getfield 51, 3) := by decide +kernel
theorem dc_2_5_120 : decode prog_2_method_5_code 120 = .ok (.iload 4, 2) := by decide +kernel
theorem dc_2_5_122 : decode prog_2_method_5_code 122 = .ok (.iaload, 1) := by decide +kernel
theorem dc_2_5_123 : decode prog_2_method_5_code 123 = .ok (.iand, 1) := by decide +kernel
theorem dc_2_5_124 : decode prog_2_method_5_code 124 = .ok (.iastore, 1) := by decide +kernel
theorem dc_2_5_125 : decode prog_2_method_5_code 125 = .ok (.goto 38, 3) := by decide +kernel
theorem dc_2_5_128 : decode prog_2_method_5_code 128 = .ok (.iload 6, 2) := by decide +kernel
theorem dc_2_5_130 : decode prog_2_method_5_code 130 = .ok (.bipush (-3), 2) := by decide +kernel
theorem dc_2_5_132 : decode prog_2_method_5_code 132 = .ok (.if_icmp .ne 31, 3) := by decide +kernel
theorem dc_2_5_135 : decode prog_2_method_5_code 135 = .ok (.iload 4, 2) := by decide +kernel
theorem dc_2_5_137 : decode prog_2_method_5_code 137 = .ok (.iconst 1, 1) := by decide +kernel
theorem dc_2_5_138 : decode prog_2_method_5_code 138 = .ok (.if_icmp .le 25, 3) := by decide +kernel
theorem dc_2_5_141 : decode prog_2_method_5_code 141 = .ok (.iinc 4 (-1), 3) := by decide +kernel
theorem dc_2_5_144 : decode prog_2_method_5_code 144 = .ok (.aload_n 0, 1) := by decide +kernel
theorem dc_2_5_145 : decode prog_2_method_5_code 145 = .ok (.getfield 51, 3) := by decide +kernel
theorem dc_2_5_148 : decode prog_2_method_5_code 148 = .ok (.iload 4, 2) := by decide +kernel
theorem dc_2_5_150 : decode prog_2_method_5_code 150 = .ok (.iconst 1, 1) := by decide +kernel
theorem dc_2_5_151 : decode prog_2_method_5_code 151 = .ok (.isub, 1) := by decide +kernel
theorem dc_2_5_152 : decode prog_2_method_5_code 152 = .ok (.dup2, 1) := by decide +kernel
theorem dc_2_5_153 : decode prog_2_method_5_code 153 = .ok (.iaload, 1) := by decide +kernel
theorem dc_2_5_154 : decode prog_2_method_5_code 154 = .ok (.aload_n 0, 1) := by decide +kernel
theorem dc_2_5_155 : decode prog_2_method_5_code 155 = .ok (.getfield 51, 3) := by decide +kernel
theorem dc_2_5_158 : decode prog_2_method_5_code 158 = .ok (.iload 4, 2) := by decide +kernel
theorem dc_2_5_160 : decode prog_2_method_5_code 160 = .ok (.iaload, 1) := by decide +kernel
theorem dc_2_5_161 : decode prog_2_method_5_code 161 = .ok (.ior, 1) := by decide +kernel
theorem dc_2_5_162 : decode prog_2_method_5_code 162 = .ok (.iastore, 1) := by decide +kernel
theorem dc_2_5_163 : decode prog_2_method_5_code 163 = .ok (.iinc 5 1, 3) := by decide +kernel
theorem dc_2_5_166 : decode prog_2_method_5_code 166 = .ok (.goto (-160), 3) := by decide +kernel
theorem dc_2_5_169 : decode prog_2_method_5_code 169 = .ok (.iload 4, 2) := by decide +kernel
theorem dc_2_5_171 : decode prog_2_method_5_code 171 = .ok (.ifCond .le 12, 3) := by decide +kernel
theorem dc_2_5_174 : decode prog_2_method_5_code 174 = .ok (.aload_n 0, 1) := by decide +kernel
theorem dc_2_5_175 : decode prog_2_method_5_code 175 = .ok (.getfield 51, 3) := by decide +kernel
theorem dc_2_5_178 : decode prog_2_method_5_code 178 = .ok (.iconst 0, 1) := by decide +kernel
theorem dc_2_5_179 : decode prog_2_method_5_code 179 = .ok (.iaload, 1) := by decide +kernel
theorem dc_2_5_180 : decode prog_2_method_5_code 180 = .ok (.goto 6, 3) := by decide +kernel
theorem dc_2_5_183 : decode prog_2_method_5_code 183 = .ok (.sipush 255, 3) := by decide +kernel
theorem dc_2_5_186 : decode prog_2_method_5_code 186 = .ok (.ireturn, 1) := by decide +kernel
theorem iv_10_s62 : mm_iv 10 (.invokestatic 62) = some (0, 87) := by decide +kernel
theorem na_0_87 : mm_nas 0 87 = 4 := by decide +kernel
def mtN (q : Nat → Int32) : List Nat → Prop
  | [] => True
  | x :: S => q S.length = nI x ∧ mtN q S
theorem mtN_up {q : Nat → Int32} {i : Nat} {v : Int32} : ∀ {S : List Nat}, mtN q S → S.length ≤ i → mtN (upd q i v) S
  | [], _, _ => trivial
  | x :: S, h, hi => ⟨(if_neg (by have : (x :: S).length = S.length + 1 := rfl; omega)).trans h.1, mtN_up h.2 (Nat.le_of_succ_le hi)⟩
theorem mtN_push {q : Nat → Int32} {v : Nat} {S : List Nat} (h : mtN q S) : mtN (upd q S.length (nI v)) (v :: S) := ⟨if_pos rfl, mtN_up h (Nat.le_refl _)⟩
theorem nI_tn (a : Nat) (h : a < 256) : (nI a).toBitVec.toNat = a := pk_tn (by omega)
theorem nI_bitand {a b : Nat} (ha : a < 256) (hb : b < 256) : nI a &&& nI b = nI (a &&& b) := by
  apply Int32.toBitVec_inj.mp
  apply BitVec.eq_of_toNat_eq
  rw [Int32.toBitVec_and, BitVec.toNat_and, nI_tn a ha, nI_tn b hb, nI_tn _ (Nat.lt_of_le_of_lt Nat.and_le_left ha)]
theorem nI_bitor {a b : Nat} (ha : a < 256) (hb : b < 256) : nI a ||| nI b = nI (a ||| b) := by
  apply Int32.toBitVec_inj.mp
  apply BitVec.eq_of_toNat_eq
  rw [Int32.toBitVec_or, BitVec.toNat_or, nI_tn a ha, nI_tn b hb, nI_tn _ (Nat.or_lt_two_pow (n := 8) ha hb)]
theorem nI_bitxor {a b : Nat} (ha : a < 256) (hb : b < 256) : nI a ^^^ nI b = nI (a ^^^ b) := by
  apply Int32.toBitVec_inj.mp
  apply BitVec.eq_of_toNat_eq
  rw [Int32.toBitVec_xor, BitVec.toNat_xor, nI_tn a ha, nI_tn b hb, nI_tn _ (Nat.xor_lt_two_pow (n := 8) ha hb)]
theorem bI_and (a b u : Nat) : bI (a &&& b) u = if bI a u = 0 then nI 0 else if bI b u = 0 then nI 0 else nI 1 := by
  unfold bI
  rw [Nat.testBit_and]
  cases a.testBit u <;> cases b.testBit u <;> decide
theorem bI_or (a b u : Nat) : bI (a ||| b) u = if bI a u = 0 then (if bI b u = 0 then nI 0 else nI 1) else nI 1 := by
  unfold bI
  rw [Nat.testBit_or]
  cases a.testBit u <;> cases b.testBit u <;> decide
theorem t255 : ∀ u, u < 8 → (255 : Nat).testBit u = true := by decide
theorem bI_xor (a : Nat) {u : Nat} (hu : u < 8) : bI (a ^^^ 255) u = if bI a u = 0 then nI 1 else nI 0 := by
  unfold bI
  rw [Nat.testBit_xor, t255 u hu]
  cases a.testBit u <;> decide
/-- the masks on the stack, and the reference's stack for each subject -/
def SjI (wc : Nat → Nat) (g t c : Nat) (S : List Nat) (q : Nat → Int32) (m : Nat) : Prop := S.length ≤ m ∧ (∀ k ∈ S, k < 256) ∧ mtN q S ∧ ∀ u, u < 8 → evk wc g t c u m = some (S.map (fun k => bI k u))
theorem SjI_push {wc : Nat → Nat} {g t c m : Nat} {S : List Nat} {q : Nat → Int32} (h : SjI wc g t c S q m) (hw : wc m < 400000 ∧ wc m / 10000 % 10 < 3) : SjI wc g t c (cmk g t c (wc m) :: S) (upd q S.length (nI (cmk g t c (wc m)))) (m + 1) := by
  obtain ⟨h1, h2, h3, h4⟩ := h
  refine ⟨Nat.succ_le_succ h1, fun k hk => ?_, mtN_push h3, fun u hu => ?_⟩
  · rcases List.mem_cons.mp hk with rfl | hk
    · exact cmk_lt g t c hw.1 hw.2
    · exact h2 k hk
  · refine (evk_S (h4 u hu) (tk_cmp (by omega) (by omega) (by omega))).trans ?_
    rw [List.map_cons, cmk_u g t c hw.1 hw.2 hu]
theorem SjI_1 {wc : Nat → Nat} {g t c m n : Nat} {S : List Nat} {q : Nat → Int32} (h : SjI wc g t c S q m) (hm : m < n) (ho : okc wc n) (hw : wc m = 1000002) : ∃ a S1, S = a :: S1 ∧ a < 256 ∧ q S1.length = nI a ∧ SjI wc g t c ((a ^^^ 255) :: S1) (upd q S1.length (nI (a ^^^ 255))) (m + 1) := by
  obtain ⟨h1, h2, h3, h4⟩ := h
  have hE : ∀ u, ∃ S, evk wc g t c u n = some S := fun u => (ho g t c u).elim (fun z => ⟨_, z⟩) (fun z => ⟨_, z.choose_spec⟩)
  cases S with
  | nil =>
    obtain ⟨x, T, e, -⟩ := tk_not hw (evk_tk (hE 0) hm (h4 0 (by decide)))
    cases e
  | cons a S1 =>
    have ha := h2 a List.mem_cons_self
    refine ⟨a, S1, rfl, ha, h3.1, by have : (a :: S1).length = S1.length + 1 := rfl; have : ((a ^^^ 255) :: S1).length = S1.length + 1 := rfl; omega, fun k hk => ?_, mtN_push h3.2, fun u hu => ?_⟩
    · rcases List.mem_cons.mp hk with rfl | hk
      · exact Nat.xor_lt_two_pow (n := 8) ha (by decide)
      · exact h2 k (List.mem_cons_of_mem _ hk)
    · obtain ⟨x, T, e, e2⟩ := tk_not hw (evk_tk (hE u) hm (h4 u hu))
      rw [List.map_cons] at e
      cases e
      refine (evk_S (h4 u hu) e2).trans ?_
      rw [List.map_cons, bI_xor a hu]
theorem SjI_2 {wc : Nat → Nat} {g t c m n : Nat} {S : List Nat} {q : Nat → Int32} (h : SjI wc g t c S q m) (hm : m < n) (ho : okc wc n) (hw : wc m = 1000000 ∨ wc m = 1000001) : ∃ b a S1, S = b :: a :: S1 ∧ a < 256 ∧ b < 256 ∧ q S1.length = nI a ∧ q (S1.length + 1) = nI b ∧ (wc m = 1000000 → SjI wc g t c ((a &&& b) :: S1) (upd q S1.length (nI (a &&& b))) (m + 1)) ∧ (wc m = 1000001 → SjI wc g t c ((a ||| b) :: S1) (upd q S1.length (nI (a ||| b))) (m + 1)) := by
  obtain ⟨h1, h2, h3, h4⟩ := h
  have hE : ∀ u, ∃ S, evk wc g t c u n = some S := fun u => (ho g t c u).elim (fun z => ⟨_, z⟩) (fun z => ⟨_, z.choose_spec⟩)
  have hx : ∀ u, u < 8 → ∃ y x T, S.map (fun k => bI k u) = y :: x :: T := fun u hu => by
    rcases hw with hw | hw
    · obtain ⟨y, x, T, e, -⟩ := tk_and hw (evk_tk (hE u) hm (h4 u hu))
      exact ⟨y, x, T, e⟩
    · obtain ⟨y, x, T, e, -⟩ := tk_or hw (evk_tk (hE u) hm (h4 u hu))
      exact ⟨y, x, T, e⟩
  match S, h1, h2, h3, h4, hx with
  | [], _, _, _, _, hx =>
    obtain ⟨y, x, T, e⟩ := hx 0 (by decide)
    cases e
  | [b], _, _, _, _, hx =>
    obtain ⟨y, x, T, e⟩ := hx 0 (by decide)
    cases e
  | b :: a :: S1, h1, h2, h3, h4, _ =>
    have hb := h2 b List.mem_cons_self
    have ha := h2 a (List.mem_cons_of_mem _ List.mem_cons_self)
    have hl : S1.length + 1 ≤ m + 1 := by
      have : (b :: a :: S1).length = S1.length + 1 + 1 := rfl
      omega
    refine ⟨b, a, S1, rfl, ha, hb, h3.2.1, h3.1, fun hw => ⟨hl, fun k hk => ?_, mtN_push h3.2.2, fun u hu => ?_⟩, fun hw => ⟨hl, fun k hk => ?_, mtN_push h3.2.2, fun u hu => ?_⟩⟩
    · rcases List.mem_cons.mp hk with rfl | hk
      · exact Nat.lt_of_le_of_lt Nat.and_le_left ha
      · exact h2 k (List.mem_cons_of_mem _ (List.mem_cons_of_mem _ hk))
    · obtain ⟨y, x, T, e, e2⟩ := tk_and hw (evk_tk (hE u) hm (h4 u hu))
      rw [List.map_cons, List.map_cons] at e
      cases e
      refine (evk_S (h4 u hu) e2).trans ?_
      rw [List.map_cons, bI_and]
    · rcases List.mem_cons.mp hk with rfl | hk
      · exact Nat.or_lt_two_pow (n := 8) ha hb
      · exact h2 k (List.mem_cons_of_mem _ (List.mem_cons_of_mem _ hk))
    · obtain ⟨y, x, T, e, e2⟩ := tk_or hw (evk_tk (hE u) hm (h4 u hu))
      rw [List.map_cons, List.map_cons] at e
      cases e
      refine (evk_S (h4 u hu) e2).trans ?_
      rw [List.map_cons, bI_or]
theorem SjI_E {wc : Nat → Nat} {g t c n : Nat} {S : List Nat} {q : Nat → Int32} (h : SjI wc g t c S q n) (ho : okc wc n) : (S = [] ∧ ∀ u, u < 8 → bI 255 u = pI (sp_met wc n g t c u)) ∨ ∃ a, S = [a] ∧ a < 256 ∧ q 0 = nI a ∧ ∀ u, u < 8 → bI a u = pI (sp_met wc n g t c u) := by
  obtain ⟨h1, h2, h3, h4⟩ := h
  match S, h2, h3, h4 with
  | [], h2, h3, h4 => exact Or.inl ⟨rfl, fun u hu => by rw [(bI_255 u hu).1, pI_t (P := sp_met wc n g t c u) (Or.inl (h4 u hu))]⟩
  | [a], h2, h3, h4 =>
    refine Or.inr ⟨a, rfl, h2 a List.mem_cons_self, h3.1, fun u hu => ?_⟩
    have h5 := h4 u hu
    by_cases hb : bI a u = 0
    · rw [pI_f (P := sp_met wc n g t c u) (fun z => ?_)]
      · exact hb
      · rcases z with z | ⟨v, z, hv⟩
        · rw [h5] at z
          cases z
        · rw [h5] at z
          cases z
          exact hv hb
    · rw [pI_t (P := sp_met wc n g t c u) (Or.inr ⟨_, h5, hb⟩)]
      unfold bI at hb ⊢
      split
      · rfl
      · rename_i q9
        rw [if_neg q9] at hb
        exact absurd rfl hb
  | b :: a :: S1, h2, h3, h4 =>
    have h5 := h4 0 (by decide)
    rcases ho g t c 0 with z | ⟨v, z⟩
    · rw [h5] at z
      cases z
    · rw [h5] at z
      cases z
set_option maxHeartbeats 4000000 in
theorem k_subj_ (M : mH) (T : Nat → mT) (cs : Nat → Nat → Int32) (sg : Nat → Nat → Int32) (D : Nat → Nat → Nat) (x cn : Nat) (wc : Nat → Nat) (hs : AgR M T cs sg D x cn wc) (g t c : Nat) (hg : g < 2 ^ 31) (ht : t < 2 ^ 31) (hc : c < 2 ^ 31) : ∃ (q : Nat → Int32), ∃ (k : Nat), (k < 256 ∧ ∀ u, u < 8 → bI k u = pI (sp_met wc cn g t c u)) ∧ mm_Ev 3 86 [.ref (D 4 x), .int (nI g), .int (nI t), .int (nI c)] (hk M T (wA cs (D 6 x) (cs (D 6 x)))) ((some (.int (nI k)), hk M T (wA cs (D 6 x) q))) := by
  have hq9 : ∃ z, (fun r9 => ∃ (q : Nat → Int32), ∃ (k : Nat), (k < 256 ∧ ∀ u, u < 8 → bI k u = pI (sp_met wc cn g t c u)) ∧ r9 = ((some (.int (nI k)), hk M T (wA cs (D 6 x) q)))) z ∧ mm_Ev 3 86 [.ref (D 4 x), .int (nI g), .int (nI t), .int (nI c)] (hk M T (wA cs (D 6 x) (cs (D 6 x)))) z := by
    obtain ⟨hS, hSC, ⟨hT5, hC5, hT6, hC6⟩, ⟨f0, f1, f2, f3, f4, f5, f6, f7⟩, fc, hcn, how, hoc, hn56, hn46⟩ := id hs
    refine r_evQ (by decide +kernel) (show (4 : Nat) ≤ mm_nL 86 by decide +kernel) ?_
    show mm_Ru 2 (10, 7, false, prog_2_method_5_code, some .int) 0 [(0, .ref (D 4 x)), (1, .int (nI g)), (2, .int (nI t)), (3, .int (nI c))] [] (hk M T (wA cs (D 6 x) (cs (D 6 x)))) (fun r9 => ∃ (q : Nat → Int32), ∃ (k : Nat), (k < 256 ∧ ∀ u, u < 8 → bI k u = pI (sp_met wc cn g t c u)) ∧ r9 = ((some (.int (nI k)), hk M T (wA cs (D 6 x) q))))
    refine r_iconst (v := nI 0) (by decide) dc_2_5_0 ?_
    refine r_istore (ls' := [(4, .int (nI 0)), (0, .ref (D 4 x)), (1, .int (nI g)), (2, .int (nI t)), (3, .int (nI c))]) (by decide) rfl dc_2_5_1 ?_
    refine r_iconst (v := nI 0) (by decide) dc_2_5_3 ?_
    refine r_istore (ls' := [(5, .int (nI 0)), (4, .int (nI 0)), (0, .ref (D 4 x)), (1, .int (nI g)), (2, .int (nI t)), (3, .int (nI c))]) (by decide) rfl dc_2_5_4 ?_
    refine mm_cnt (P := fun m => ∀ (S : List Nat), ∀ (q : Nat → Int32), (SjI wc g t c S q m) → mm_Ru 2 (10, 7, false, prog_2_method_5_code, some .int) 6 [(5, .int (nI m)), (4, .int (nI S.length)), (0, .ref (D 4 x)), (1, .int (nI g)), (2, .int (nI t)), (3, .int (nI c))] [] (hk M T (wA cs (D 6 x) q)) (fun r9 => ∃ (q : Nat → Int32), ∃ (k : Nat), (k < 256 ∧ ∀ u, u < 8 → bI k u = pI (sp_met wc cn g t c u)) ∧ r9 = ((some (.int (nI k)), hk M T (wA cs (D 6 x) q))))) cn ?_ ?_ 0 (by omega) ([]) (cs (D 6 x)) (⟨Nat.le_refl 0, fun k hk => absurd hk List.not_mem_nil, trivial, fun u hu => rfl⟩)
    · intro S q hi_m
      show mm_Ru 2 (10, 7, false, prog_2_method_5_code, some .int) 6 [(5, .int (nI cn)), (4, .int (nI S.length)), (0, .ref (D 4 x)), (1, .int (nI g)), (2, .int (nI t)), (3, .int (nI c))] [] (hk M T (wA cs (D 6 x) q)) (fun r9 => ∃ (q : Nat → Int32), ∃ (k : Nat), (k < 256 ∧ ∀ u, u < 8 → bI k u = pI (sp_met wc cn g t c u)) ∧ r9 = ((some (.int (nI k)), hk M T (wA cs (D 6 x) q))))
      refine r_iload rfl dc_2_5_6 ?_
      refine r_aload_n rfl dc_2_5_8 ?_
      refine h_get (t := (10, 0, rl [(9, D 6 x), (8, D 5 x)])) (v := .ref (D 5 x)) fx_10_48 hS hSC (rfl) dc_2_5_9 ?_
      refine h_len (c := 20) (n := cn) hT5 (Or.inl rfl) hC5 dc_2_5_12 ?_
      refine r_ncge (t := 169) (by omega) (by omega) (by decide) dc_2_5_13 (fun c_13 => ?_) (fun c_13 => ?_)
      · skip
        rcases SjI_E hi_m hoc with ⟨rfl, hfin⟩ | ⟨a, rfl, ha, hqa, hfin⟩
        · show mm_Ru 2 (10, 7, false, prog_2_method_5_code, some .int) 169 [(5, .int (nI cn)), (4, .int (nI 0)), (0, .ref (D 4 x)), (1, .int (nI g)), (2, .int (nI t)), (3, .int (nI c))] [] (hk M T (wA cs (D 6 x) q)) (fun r9 => ∃ (q : Nat → Int32), ∃ (k : Nat), (k < 256 ∧ ∀ u, u < 8 → bI k u = pI (sp_met wc cn g t c u)) ∧ r9 = ((some (.int (nI k)), hk M T (wA cs (D 6 x) q))))
          refine r_iload rfl dc_2_5_169 ?_
          refine r_ifle (t := 183) (by decide) dc_2_5_171 (fun c_171 => ?_) (fun c_171 => ?_)
          · skip
            refine r_sipush (v := nI 255) (by decide) dc_2_5_183 ?_
            refine r_iret rfl dc_2_5_186 ?_
            exact ⟨q, 255, ⟨by decide, hfin⟩, rfl⟩
          · exact absurd c_171 (by decide)
        · show mm_Ru 2 (10, 7, false, prog_2_method_5_code, some .int) 169 [(5, .int (nI cn)), (4, .int (nI 1)), (0, .ref (D 4 x)), (1, .int (nI g)), (2, .int (nI t)), (3, .int (nI c))] [] (hk M T (wA cs (D 6 x) q)) (fun r9 => ∃ (q : Nat → Int32), ∃ (k : Nat), (k < 256 ∧ ∀ u, u < 8 → bI k u = pI (sp_met wc cn g t c u)) ∧ r9 = ((some (.int (nI k)), hk M T (wA cs (D 6 x) q))))
          refine r_iload rfl dc_2_5_169 ?_
          refine r_ifle (t := 183) (by decide) dc_2_5_171 (fun c_171 => ?_) (fun c_171 => ?_)
          · exact absurd c_171 (by decide)
          · skip
            refine r_aload_n rfl dc_2_5_174 ?_
            refine h_get (t := (10, 0, rl [(9, D 6 x), (8, D 5 x)])) (v := .ref (D 6 x)) fx_10_51 hS hSC (rfl) dc_2_5_175 ?_
            refine r_iconst (v := nI 0) (by decide) dc_2_5_178 ?_
            refine h_ild (n := cn) (e := 0) (v := nI a) hT6 hC6 (show 0 < cn by (have := hi_m.1; have h9 : ([a] : List Nat).length = 1 := rfl; omega)) (by (have := hi_m.1; have h9 : ([a] : List Nat).length = 1 := rfl; omega)) ((congrFun (wA_s _ _ _) _).trans hqa) dc_2_5_179 ?_
            refine r_goto (t := 186) (by decide) dc_2_5_180 ?_
            refine r_iret rfl dc_2_5_186 ?_
            exact ⟨q, a, ⟨ha, hfin⟩, rfl⟩
      · omega
    · intro m h_m ih_m S q hi_m
      have hlS := hi_m.1
      show mm_Ru 2 (10, 7, false, prog_2_method_5_code, some .int) 6 [(5, .int (nI m)), (4, .int (nI S.length)), (0, .ref (D 4 x)), (1, .int (nI g)), (2, .int (nI t)), (3, .int (nI c))] [] (hk M T (wA cs (D 6 x) q)) (fun r9 => ∃ (q : Nat → Int32), ∃ (k : Nat), (k < 256 ∧ ∀ u, u < 8 → bI k u = pI (sp_met wc cn g t c u)) ∧ r9 = ((some (.int (nI k)), hk M T (wA cs (D 6 x) q))))
      refine r_iload rfl dc_2_5_6 ?_
      refine r_aload_n rfl dc_2_5_8 ?_
      refine h_get (t := (10, 0, rl [(9, D 6 x), (8, D 5 x)])) (v := .ref (D 5 x)) fx_10_48 hS hSC (rfl) dc_2_5_9 ?_
      refine h_len (c := 20) (n := cn) hT5 (Or.inl rfl) hC5 dc_2_5_12 ?_
      refine r_ncge (t := 169) (by omega) (by omega) (by decide) dc_2_5_13 (fun c_13 => ?_) (fun c_13 => ?_)
      · omega
      · skip
        refine r_aload_n rfl dc_2_5_16 ?_
        refine h_get (t := (10, 0, rl [(9, D 6 x), (8, D 5 x)])) (v := .ref (D 5 x)) fx_10_48 hS hSC (rfl) dc_2_5_17 ?_
        refine r_iload rfl dc_2_5_20 ?_
        refine h_ild (n := cn) (e := m) (v := enc (wc m)) hT5 hC5 (show m < cn by omega) (by omega) ((congrFun (wA_o _ _ hn56) m).trans (fc m h_m)) dc_2_5_22 ?_
        refine r_istore (ls' := [(6, .int (enc (wc m))), (5, .int (nI m)), (4, .int (nI S.length)), (0, .ref (D 4 x)), (1, .int (nI g)), (2, .int (nI t)), (3, .int (nI c))]) (by decide) rfl dc_2_5_23 ?_
        refine r_iload rfl dc_2_5_25 ?_
        refine r_iflt (t := 61) (by decide) dc_2_5_27 (fun c_27 => ?_) (fun c_27 => ?_)
        · have hw9 := enc_lt (how m h_m) c_27
          have hw8 := enc_m1 hw9
          refine r_iload rfl dc_2_5_61 ?_
          refine r_iconst (v := -1) (by decide) dc_2_5_63 ?_
          refine r_icne (t := 90) (by decide) dc_2_5_64 (fun c_64 => ?_) (fun c_64 => ?_)
          · skip
            refine r_iload rfl dc_2_5_90 ?_
            refine r_bipush (v := -2) (by decide) dc_2_5_92 ?_
            refine r_icne (t := 128) (by decide) dc_2_5_94 (fun c_94 => ?_) (fun c_94 => ?_)
            · skip
              refine r_iload rfl dc_2_5_128 ?_
              refine r_bipush (v := -3) (by decide) dc_2_5_130 ?_
              refine r_icne (t := 163) (by decide) dc_2_5_132 (fun c_132 => ?_) (fun c_132 => ?_)
              · exact absurd hw9 (by rintro (z | z | z); exact c_94 (hw8.2.1.mpr z); exact c_132 (hw8.2.2.mpr z); exact c_64 (hw8.1.mpr z))
              · have hw7 := hw8.2.2.mp c_132
                obtain ⟨b, a, S1, rfl, ha, hb, hqa, hqb, hnA, hnO⟩ := SjI_2 hi_m h_m hoc (Or.inr hw7)
                have hl1 : (b :: a :: S1).length = S1.length + 1 + 1 := rfl
                show mm_Ru 2 (10, 7, false, prog_2_method_5_code, some .int) 135 [(6, .int (enc (wc m))), (5, .int (nI m)), (4, .int (nI (S1.length + 1 + 1))), (0, .ref (D 4 x)), (1, .int (nI g)), (2, .int (nI t)), (3, .int (nI c))] [] (hk M T (wA cs (D 6 x) q)) (fun r9 => ∃ (q : Nat → Int32), ∃ (k : Nat), (k < 256 ∧ ∀ u, u < 8 → bI k u = pI (sp_met wc cn g t c u)) ∧ r9 = ((some (.int (nI k)), hk M T (wA cs (D 6 x) q))))
                refine r_iload rfl dc_2_5_135 ?_
                refine r_iconst (v := nI 1) (by decide) dc_2_5_137 ?_
                refine r_ncle (t := 163) (by omega) (by omega) (by decide) dc_2_5_138 (fun c_138 => ?_) (fun c_138 => ?_)
                · omega
                · skip
                  refine r_iinc (n := 4) (k := -1) (x := nI (S1.length + 1 + 1)) (v := nI (S1.length + 1)) (ls' := [(4, .int (nI (S1.length + 1))), (6, .int (enc (wc m))), (5, .int (nI m)), (0, .ref (D 4 x)), (1, .int (nI g)), (2, .int (nI t)), (3, .int (nI c))]) rfl ((congrArg (fun z9 => nI (S1.length + 1 + 1) + z9) (by decide : Int32.ofInt (-1) = -1)).trans (pk_m1 _)) (by decide) rfl dc_2_5_141 ?_
                  refine r_aload_n rfl dc_2_5_144 ?_
                  refine h_get (t := (10, 0, rl [(9, D 6 x), (8, D 5 x)])) (v := .ref (D 6 x)) fx_10_51 hS hSC (rfl) dc_2_5_145 ?_
                  refine r_iload rfl dc_2_5_148 ?_
                  refine r_iconst (v := nI 1) (by decide) dc_2_5_150 ?_
                  refine r_isub (v := nI S1.length) (nI_pred _) dc_2_5_151 ?_
                  refine r_dup2 ⟨rfl, rfl⟩ dc_2_5_152 ?_
                  refine h_ild (n := cn) (e := S1.length) (v := nI a) hT6 hC6 (show S1.length < cn by omega) (by omega) ((congrFun (wA_s _ _ _) _).trans hqa) dc_2_5_153 ?_
                  refine r_aload_n rfl dc_2_5_154 ?_
                  refine h_get (t := (10, 0, rl [(9, D 6 x), (8, D 5 x)])) (v := .ref (D 6 x)) fx_10_51 hS hSC (rfl) dc_2_5_155 ?_
                  refine r_iload rfl dc_2_5_158 ?_
                  refine h_ild (n := cn) (e := S1.length + 1) (v := nI b) hT6 hC6 (show S1.length + 1 < cn by omega) (by omega) ((congrFun (wA_s _ _ _) _).trans hqb) dc_2_5_160 ?_
                  refine r_ior (v := nI (a ||| b)) (nI_bitor ha hb) dc_2_5_161 ?_
                  refine h_ist (n := cn) (e := S1.length) hT6 hC6 (show S1.length < cn by omega) (by omega) dc_2_5_162 ?_
                  refine r_iinc (n := 5) (k := 1) (x := nI m) (v := nI (m + 1)) (ls' := [(5, .int (nI (m + 1))), (4, .int (nI (S1.length + 1))), (6, .int (enc (wc m))), (0, .ref (D 4 x)), (1, .int (nI g)), (2, .int (nI t)), (3, .int (nI c))]) rfl (nI_1 _) (by decide) rfl dc_2_5_163 ?_
                  refine r_goto (t := 6) (by decide) dc_2_5_166 ?_
                  refine r_ls [(5, .int (nI (m + 1))), (4, .int (nI (S1.length + 1))), (0, .ref (D 4 x)), (1, .int (nI g)), (2, .int (nI t)), (3, .int (nI c))] (mm_ndk_of [5, 4, 0, 1, 2, 3] rfl (by decide)) (mm_sub_cons rfl (mm_sub_cons rfl (mm_sub_cons rfl (mm_sub_cons rfl (mm_sub_cons rfl (mm_sub_cons rfl (mm_sub_nil _))))))) ?_
                  rw [w1_wA]
                  exact ih_m ((a ||| b) :: S1) (upd q S1.length (nI (a ||| b))) (hnO hw7)
            · have hw7 := hw8.2.1.mp c_94
              obtain ⟨b, a, S1, rfl, ha, hb, hqa, hqb, hnA, hnO⟩ := SjI_2 hi_m h_m hoc (Or.inl hw7)
              have hl1 : (b :: a :: S1).length = S1.length + 1 + 1 := rfl
              show mm_Ru 2 (10, 7, false, prog_2_method_5_code, some .int) 97 [(6, .int (enc (wc m))), (5, .int (nI m)), (4, .int (nI (S1.length + 1 + 1))), (0, .ref (D 4 x)), (1, .int (nI g)), (2, .int (nI t)), (3, .int (nI c))] [] (hk M T (wA cs (D 6 x) q)) (fun r9 => ∃ (q : Nat → Int32), ∃ (k : Nat), (k < 256 ∧ ∀ u, u < 8 → bI k u = pI (sp_met wc cn g t c u)) ∧ r9 = ((some (.int (nI k)), hk M T (wA cs (D 6 x) q))))
              refine r_iload rfl dc_2_5_97 ?_
              refine r_iconst (v := nI 1) (by decide) dc_2_5_99 ?_
              refine r_ncle (t := 128) (by omega) (by omega) (by decide) dc_2_5_100 (fun c_100 => ?_) (fun c_100 => ?_)
              · omega
              · skip
                refine r_iinc (n := 4) (k := -1) (x := nI (S1.length + 1 + 1)) (v := nI (S1.length + 1)) (ls' := [(4, .int (nI (S1.length + 1))), (6, .int (enc (wc m))), (5, .int (nI m)), (0, .ref (D 4 x)), (1, .int (nI g)), (2, .int (nI t)), (3, .int (nI c))]) rfl ((congrArg (fun z9 => nI (S1.length + 1 + 1) + z9) (by decide : Int32.ofInt (-1) = -1)).trans (pk_m1 _)) (by decide) rfl dc_2_5_103 ?_
                refine r_aload_n rfl dc_2_5_106 ?_
                refine h_get (t := (10, 0, rl [(9, D 6 x), (8, D 5 x)])) (v := .ref (D 6 x)) fx_10_51 hS hSC (rfl) dc_2_5_107 ?_
                refine r_iload rfl dc_2_5_110 ?_
                refine r_iconst (v := nI 1) (by decide) dc_2_5_112 ?_
                refine r_isub (v := nI S1.length) (nI_pred _) dc_2_5_113 ?_
                refine r_dup2 ⟨rfl, rfl⟩ dc_2_5_114 ?_
                refine h_ild (n := cn) (e := S1.length) (v := nI a) hT6 hC6 (show S1.length < cn by omega) (by omega) ((congrFun (wA_s _ _ _) _).trans hqa) dc_2_5_115 ?_
                refine r_aload_n rfl dc_2_5_116 ?_
                refine h_get (t := (10, 0, rl [(9, D 6 x), (8, D 5 x)])) (v := .ref (D 6 x)) fx_10_51 hS hSC (rfl) dc_2_5_117 ?_
                refine r_iload rfl dc_2_5_120 ?_
                refine h_ild (n := cn) (e := S1.length + 1) (v := nI b) hT6 hC6 (show S1.length + 1 < cn by omega) (by omega) ((congrFun (wA_s _ _ _) _).trans hqb) dc_2_5_122 ?_
                refine r_iand (v := nI (a &&& b)) (nI_bitand ha hb) dc_2_5_123 ?_
                refine h_ist (n := cn) (e := S1.length) hT6 hC6 (show S1.length < cn by omega) (by omega) dc_2_5_124 ?_
                refine r_goto (t := 163) (by decide) dc_2_5_125 ?_
                refine r_iinc (n := 5) (k := 1) (x := nI m) (v := nI (m + 1)) (ls' := [(5, .int (nI (m + 1))), (4, .int (nI (S1.length + 1))), (6, .int (enc (wc m))), (0, .ref (D 4 x)), (1, .int (nI g)), (2, .int (nI t)), (3, .int (nI c))]) rfl (nI_1 _) (by decide) rfl dc_2_5_163 ?_
                refine r_goto (t := 6) (by decide) dc_2_5_166 ?_
                refine r_ls [(5, .int (nI (m + 1))), (4, .int (nI (S1.length + 1))), (0, .ref (D 4 x)), (1, .int (nI g)), (2, .int (nI t)), (3, .int (nI c))] (mm_ndk_of [5, 4, 0, 1, 2, 3] rfl (by decide)) (mm_sub_cons rfl (mm_sub_cons rfl (mm_sub_cons rfl (mm_sub_cons rfl (mm_sub_cons rfl (mm_sub_cons rfl (mm_sub_nil _))))))) ?_
                rw [w1_wA]
                exact ih_m ((a &&& b) :: S1) (upd q S1.length (nI (a &&& b))) (hnA hw7)
          · have hw7 := hw8.1.mp c_64
            obtain ⟨a, S1, rfl, ha, hqa, hnx9⟩ := SjI_1 hi_m h_m hoc hw7
            have hl1 : (a :: S1).length = S1.length + 1 := rfl
            show mm_Ru 2 (10, 7, false, prog_2_method_5_code, some .int) 67 [(6, .int (enc (wc m))), (5, .int (nI m)), (4, .int (nI (S1.length + 1))), (0, .ref (D 4 x)), (1, .int (nI g)), (2, .int (nI t)), (3, .int (nI c))] [] (hk M T (wA cs (D 6 x) q)) (fun r9 => ∃ (q : Nat → Int32), ∃ (k : Nat), (k < 256 ∧ ∀ u, u < 8 → bI k u = pI (sp_met wc cn g t c u)) ∧ r9 = ((some (.int (nI k)), hk M T (wA cs (D 6 x) q))))
            refine r_iload rfl dc_2_5_67 ?_
            refine r_nzle (t := 90) (by omega) (by decide) dc_2_5_69 (fun c_69 => ?_) (fun c_69 => ?_)
            · omega
            · skip
              refine r_aload_n rfl dc_2_5_72 ?_
              refine h_get (t := (10, 0, rl [(9, D 6 x), (8, D 5 x)])) (v := .ref (D 6 x)) fx_10_51 hS hSC (rfl) dc_2_5_73 ?_
              refine r_iload rfl dc_2_5_76 ?_
              refine r_iconst (v := nI 1) (by decide) dc_2_5_78 ?_
              refine r_isub (v := nI S1.length) (nI_pred _) dc_2_5_79 ?_
              refine r_dup2 ⟨rfl, rfl⟩ dc_2_5_80 ?_
              refine h_ild (n := cn) (e := S1.length) (v := nI a) hT6 hC6 (show S1.length < cn by omega) (by omega) ((congrFun (wA_s _ _ _) _).trans hqa) dc_2_5_81 ?_
              refine r_sipush (v := nI 255) (by decide) dc_2_5_82 ?_
              refine r_ixor (v := nI (a ^^^ 255)) (nI_bitxor ha (by decide)) dc_2_5_85 ?_
              refine h_ist (n := cn) (e := S1.length) hT6 hC6 (show S1.length < cn by omega) (by omega) dc_2_5_86 ?_
              refine r_goto (t := 163) (by decide) dc_2_5_87 ?_
              refine r_iinc (n := 5) (k := 1) (x := nI m) (v := nI (m + 1)) (ls' := [(5, .int (nI (m + 1))), (6, .int (enc (wc m))), (4, .int (nI (S1.length + 1))), (0, .ref (D 4 x)), (1, .int (nI g)), (2, .int (nI t)), (3, .int (nI c))]) rfl (nI_1 _) (by decide) rfl dc_2_5_163 ?_
              refine r_goto (t := 6) (by decide) dc_2_5_166 ?_
              refine r_ls [(5, .int (nI (m + 1))), (4, .int (nI (S1.length + 1))), (0, .ref (D 4 x)), (1, .int (nI g)), (2, .int (nI t)), (3, .int (nI c))] (mm_ndk_of [5, 4, 0, 1, 2, 3] rfl (by decide)) (mm_sub_cons rfl (mm_sub_cons rfl (mm_sub_cons rfl (mm_sub_cons rfl (mm_sub_cons rfl (mm_sub_cons rfl (mm_sub_nil _))))))) ?_
              rw [w1_wA]
              exact ih_m ((a ^^^ 255) :: S1) (upd q S1.length (nI (a ^^^ 255))) (hnx9)
        · have hw9 := enc_ge (how m h_m) c_27
          refine r_iload rfl dc_2_5_30 ?_
          refine r_aload_n rfl dc_2_5_32 ?_
          refine h_get (t := (10, 0, rl [(9, D 6 x), (8, D 5 x)])) (v := .ref (D 6 x)) fx_10_51 hS hSC (rfl) dc_2_5_33 ?_
          refine h_len (c := 20) (n := cn) hT6 (Or.inl rfl) hC6 dc_2_5_36 ?_
          refine r_ncge (t := 61) (by omega) (by omega) (by decide) dc_2_5_37 (fun c_37 => ?_) (fun c_37 => ?_)
          · omega
          · skip
            refine r_aload_n rfl dc_2_5_40 ?_
            refine h_get (t := (10, 0, rl [(9, D 6 x), (8, D 5 x)])) (v := .ref (D 6 x)) fx_10_51 hS hSC (rfl) dc_2_5_41 ?_
            refine r_iload rfl dc_2_5_44 ?_
            refine r_iload rfl dc_2_5_46 ?_
            refine r_iload_n rfl dc_2_5_48 ?_
            refine r_iload_n rfl dc_2_5_49 ?_
            refine r_iload_n rfl dc_2_5_50 ?_
            refine h_callS (as := [.int (enc (wc m)), .int (nI g), .int (nI t), .int (nI c)]) (rest := [.int (nI S.length), .ref (D 6 x)]) (v := .int (nI (cmk g t c (wc m)))) rfl rfl iv_10_s62 (Or.inl rfl) na_0_87 rfl (show (2 : Nat) ≤ 8 by decide) dc_2_5_51 ((enc_c hw9.1).symm ▸ k_cmp _ (wc m) g t c hw9.1 hw9.2 (by omega) (by omega) (by omega)) ?_
            refine h_ist (n := cn) (e := S.length) hT6 hC6 (show S.length < cn by omega) (by omega) dc_2_5_54 ?_
            refine r_iinc (n := 4) (k := 1) (x := nI S.length) (v := nI (S.length + 1)) (ls' := [(4, .int (nI (S.length + 1))), (6, .int (enc (wc m))), (5, .int (nI m)), (0, .ref (D 4 x)), (1, .int (nI g)), (2, .int (nI t)), (3, .int (nI c))]) rfl (nI_1 _) (by decide) rfl dc_2_5_55 ?_
            refine r_goto (t := 163) (by decide) dc_2_5_58 ?_
            refine r_iinc (n := 5) (k := 1) (x := nI m) (v := nI (m + 1)) (ls' := [(5, .int (nI (m + 1))), (4, .int (nI (S.length + 1))), (6, .int (enc (wc m))), (0, .ref (D 4 x)), (1, .int (nI g)), (2, .int (nI t)), (3, .int (nI c))]) rfl (nI_1 _) (by decide) rfl dc_2_5_163 ?_
            refine r_goto (t := 6) (by decide) dc_2_5_166 ?_
            refine r_ls [(5, .int (nI (m + 1))), (4, .int (nI (S.length + 1))), (0, .ref (D 4 x)), (1, .int (nI g)), (2, .int (nI t)), (3, .int (nI c))] (mm_ndk_of [5, 4, 0, 1, 2, 3] rfl (by decide)) (mm_sub_cons rfl (mm_sub_cons rfl (mm_sub_cons rfl (mm_sub_cons rfl (mm_sub_cons rfl (mm_sub_cons rfl (mm_sub_nil _))))))) ?_
            rw [w1_wA]
            exact ih_m (cmk g t c (wc m) :: S) (upd q S.length (nI (cmk g t c (wc m)))) (SjI_push hi_m hw9)
  obtain ⟨z9, ⟨q, k, p9, e9⟩, h9⟩ := hq9
  subst e9
  exact ⟨q, k, p9, h9⟩
theorem k_subj (M : mH) (T : Nat → mT) (cs : Nat → Nat → Int32) (sg : Nat → Nat → Int32) (D : Nat → Nat → Nat) (x cn : Nat) (wc : Nat → Nat) (hs : AgR M T cs sg D x cn wc) (g t c : Nat) (hg : g < 2 ^ 31) (ht : t < 2 ^ 31) (hc : c < 2 ^ 31) : ∃ (q : Nat → Int32) (k : Nat), (k < 256 ∧ ∀ u, u < 8 → bI k u = pI (sp_met wc cn g t c u)) ∧ mm_Ev 3 86 [.ref (D 4 x), .int (nI g), .int (nI t), .int (nI c)] (hk M T cs) (some (.int (nI k)), hk M T (wA cs (D 6 x) q)) := by
  have h := k_subj_ M T cs sg D x cn wc hs g t c hg ht hc
  rwa [wA_id] at h
theorem bI_sh : ∀ u, u < 8 → ∀ k, k < 256 → nI k >>> (nI u &&& 31) &&& nI 1 = bI k u := by decide +kernel
