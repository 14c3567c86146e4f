/-! the reference: plans -/
theorem dc_14_58_0 : decode prog_14_method_58_code 0 = .ok (.aload_n 0, 1) := by decide +kernel
theorem dc_14_58_1 : decode prog_14_method_58_code 1 = .ok (.iload_n 1, 1) := by decide +kernel
theorem dc_14_58_2 : decode prog_14_method_58_code 2 = .ok (.invokevirtual 356, 3) := by decide +kernel
theorem dc_14_58_5 : decode prog_14_method_58_code 5 = .ok (.iconst 1, 1) := by decide +kernel
theorem dc_14_58_6 : decode prog_14_method_58_code 6 = .ok (.istore_n 2, 1) := by decide +kernel
theorem dc_14_58_7 : decode prog_14_method_58_code 7 = .ok (.iconst 0, 1) := by decide +kernel
theorem dc_14_58_8 : decode prog_14_method_58_code 8 = .ok (.istore_n 3, 1) := by decide +kernel
theorem dc_14_58_9 : decode prog_14_method_58_code 9 = .ok (.iload_n 3, 1) := by decide +kernel
theorem dc_14_58_10 : decode prog_14_method_58_code 10 = .ok (.aload_n 0, 1) := by decide +kernel
theorem dc_14_58_11 : decode prog_14_method_58_code 11 = .ok (.getfield 353, 3) := by decide +kernel
theorem dc_14_58_14 : decode prog_14_method_58_code 14 = .ok (.if_icmp .ge 13, 3) := by decide +kernel
theorem dc_14_58_17 : decode prog_14_method_58_code 17 = .ok (.iconst 5, 1) := by decide +kernel
theorem dc_14_58_18 : decode prog_14_method_58_code 18 = .ok (.iload_n 2, 1) := by decide +kernel
theorem dc_14_58_19 : decode prog_14_method_58_code 19 = .ok (.imul, 1) := by decide +kernel
theorem dc_14_58_20 : decode prog_14_method_58_code 20 = .ok (.istore_n 2, 1) := by decide +kernel
theorem dc_14_58_21 : decode prog_14_method_58_code 21 = .ok (.iinc 3 1, 3) := by decide +kernel
theorem dc_14_58_24 : decode prog_14_method_58_code 24 = .ok (.goto (-15), 3) := by decide +kernel
theorem dc_14_58_27 : decode prog_14_method_58_code 27 = .ok (.iconst 0, 1) := by decide +kernel
theorem dc_14_58_28 : decode prog_14_method_58_code 28 = .ok (.istore_n 3, 1) := by decide +kernel
theorem dc_14_58_29 : decode prog_14_method_58_code 29 = .ok (.iconst 0, 1) := by decide +kernel
theorem dc_14_58_30 : decode prog_14_method_58_code 30 = .ok (.istore 4, 2) := by decide +kernel
theorem dc_14_58_32 : decode prog_14_method_58_code 32 = .ok (.iload 4, 2) := by decide +kernel
theorem dc_14_58_34 : decode prog_14_method_58_code 34 = .ok (.iload_n 2, 1) := by decide +kernel
theorem dc_14_58_35 : decode prog_14_method_58_code 35 = .ok (.if_icmp .ge 209, 3) := by decide +kernel
theorem dc_14_58_38 : decode prog_14_method_58_code 38 = .ok (.aload_n 0, 1) := by decide +kernel
theorem dc_14_58_39 : decode prog_14_method_58_code 39 = .ok (.iload 4, 2) := by decide +kernel
theorem dc_14_58_41 : decode prog_14_method_58_code 41 = .ok (.invokevirtual 360, 3) := by decide +kernel
theorem dc_14_58_44 : decode prog_14_method_58_code 44 = .ok (.ifCond .ne 6, 3) := by decide +kernel
theorem dc_14_58_47 : decode prog_14_method_58_code 47 = .ok (.goto 191, 3) := by decide +kernel
theorem dc_14_58_50 : decode prog_14_method_58_code 50 = .ok (.iload_n 1, 1) := by decide +kernel
theorem dc_14_58_51 : decode prog_14_method_58_code 51 = .ok (.ifCond .eq 10, 3) := by decide +kernel
theorem dc_14_58_54 : decode prog_14_method_58_code 54 = .ok (.aload_n 0, 1) := by decide +kernel
theorem dc_14_58_55 : decode prog_14_method_58_code 55 = .ok (.invokevirtual 363, 3) := by decide +kernel
theorem dc_14_58_58 : decode prog_14_method_58_code 58 = .ok (.goto 4, 3) := by decide +kernel
theorem dc_14_58_61 : decode prog_14_method_58_code 61 = .ok (.iconst 0, 1) := by decide +kernel
theorem dc_14_58_62 : decode prog_14_method_58_code 62 = .ok (.istore 5, 2) := by decide +kernel
theorem dc_14_58_64 : decode prog_14_method_58_code 64 = .ok (.aload_n 0, 1) := by decide +kernel
theorem dc_14_58_65 : decode prog_14_method_58_code 65 = .ok (.invokevirtual 366, 3) := by decide +kernel
theorem dc_14_58_68 : decode prog_14_method_58_code 68 = .ok (.iload_n 3, 1) := by decide +kernel
theorem dc_14_58_69 : decode prog_14_method_58_code 69 = .ok (.ifCond .eq 31, 3) := by decide +kernel
theorem dc_14_58_72 : decode prog_14_method_58_code 72 = .ok (.iload 5, 2) := by decide +kernel
theorem dc_14_58_74 : decode prog_14_method_58_code 74 = .ok (.aload_n 0, 1) := by decide +kernel
theorem dc_14_58_75 : decode prog_14_method_58_code 75 = .ok (.getfield 369, 3) := by decide +kernel
theorem dc_14_58_78 : decode prog_14_method_58_code 78 = .ok (.if_icmp .gt 160, 3) := by decide +kernel
theorem dc_14_58_81 : decode prog_14_method_58_code 81 = .ok (.iload 5, 2) := by decide +kernel
theorem dc_14_58_83 : decode prog_14_method_58_code 83 = .ok (.aload_n 0, 1) := by decide +kernel
theorem dc_14_58_84 : decode prog_14_method_58_code 84 = .ok (.getfield 369, 3) := by decide +kernel
theorem dc_14_58_87 : decode prog_14_method_58_code 87 = .ok (.if_icmp .ne 13, 3) := by decide +kernel
theorem dc_14_58_90 : decode prog_14_method_58_code 90 = .ok (.aload_n 0, 1) := by decide +kernel
theorem dc_14_58_91 : decode prog_14_method_58_code 91 = .ok (.invokevirtual 372, 3) := by decide +kernel
theorem dc_14_58_94 : decode prog_14_method_58_code 94 = .ok (.ifCond .ne 6, 3) := by decide +kernel
theorem dc_14_58_97 : decode prog_14_method_58_code 97 = .ok (.goto 141, 3) := by decide +kernel
theorem dc_14_58_100 : decode prog_14_method_58_code 100 = .ok (.iconst 0, 1) := by decide +kernel
theorem dc_14_58_101 : decode prog_14_method_58_code 101 = .ok (.istore 6, 2) := by decide +kernel
theorem dc_14_58_103 : decode prog_14_method_58_code 103 = .ok (.iload 6, 2) := by decide +kernel
theorem dc_14_58_105 : decode prog_14_method_58_code 105 = .ok (.aload_n 0, 1) := by decide +kernel
theorem dc_14_58_106 : decode prog_14_method_58_code 106 = .ok (.getfield 353, 3) := by decide +kernel
theorem dc_14_58_109 : decode prog_14_method_58_code 109 = .ok (.if_icmp .ge 22, 3) := by decide +kernel
theorem dc_14_58_112 : decode prog_14_method_58_code 112 = .ok (.aload_n 0, 1) := by decide +kernel
theorem dc_14_58_113 : decode prog_14_method_58_code 113 = .ok (.iload 6, 2) := by decide +kernel
theorem dc_14_58_115 : decode prog_14_method_58_code 115 = .ok (.aload_n 0, 1) := by decide +kernel
theorem dc_14_58_116 : decode prog_14_method_58_code 116 = .ok (.getfield 153, 3) := by decide +kernel
theorem dc_14_58_119 : decode prog_14_method_58_code 119 = .ok (.iload 6, 2) := by decide +kernel
theorem dc_14_58_121 : decode prog_14_method_58_code 121 = .ok (.iaload, 1) := by decide +kernel
theorem dc_14_58_122 : decode prog_14_method_58_code 122 = .ok (.invokevirtual 375, 3) := by decide +kernel
theorem dc_14_58_125 : decode prog_14_method_58_code 125 = .ok (.iinc 6 1, 3) := by decide +kernel
theorem dc_14_58_128 : decode prog_14_method_58_code 128 = .ok (.goto (-25), 3) := by decide +kernel
theorem dc_14_58_131 : decode prog_14_method_58_code 131 = .ok (.aload_n 0, 1) := by decide +kernel
theorem dc_14_58_132 : decode prog_14_method_58_code 132 = .ok (.invokevirtual 350, 3) := by decide +kernel
theorem dc_14_58_135 : decode prog_14_method_58_code 135 = .ok (.istore 6, 2) := by decide +kernel
theorem dc_14_58_137 : decode prog_14_method_58_code 137 = .ok (.iconst 0, 1) := by decide +kernel
theorem dc_14_58_138 : decode prog_14_method_58_code 138 = .ok (.istore 7, 2) := by decide +kernel
theorem dc_14_58_140 : decode prog_14_method_58_code 140 = .ok (.iload 7, 2) := by decide +kernel
theorem dc_14_58_142 : decode prog_14_method_58_code 142 = .ok (.aload_n 0, 1) := by decide +kernel
theorem dc_14_58_143 : decode prog_14_method_58_code 143 = .ok (.getfield 353, 3) := by decide +kernel
theorem dc_14_58_146 : decode prog_14_method_58_code 146 = .ok (.if_icmp .ge 15, 3) := by decide +kernel
theorem dc_14_58_149 : decode prog_14_method_58_code 149 = .ok (.aload_n 0, 1) := by decide +kernel
theorem dc_14_58_150 : decode prog_14_method_58_code 150 = .ok (.iload 7, 2) := by decide +kernel
theorem dc_14_58_152 : decode prog_14_method_58_code 152 = .ok (.invokevirtual 378, 3) := by decide +kernel
theorem dc_14_58_155 : decode prog_14_method_58_code 155 = .ok (.iinc 7 1, 3) := by decide +kernel
theorem dc_14_58_158 : decode prog_14_method_58_code 158 = .ok (.goto (-18), 3) := by decide +kernel
theorem dc_14_58_161 : decode prog_14_method_58_code 161 = .ok (.iload 6, 2) := by decide +kernel
theorem dc_14_58_163 : decode prog_14_method_58_code 163 = .ok (.ifCond .ne 6, 3) := by decide +kernel
theorem dc_14_58_166 : decode prog_14_method_58_code 166 = .ok (.goto 72, 3) := by decide +kernel
theorem dc_14_58_169 : decode prog_14_method_58_code 169 = .ok (.iconst 1, 1) := by decide +kernel
theorem dc_14_58_170 : decode prog_14_method_58_code 170 = .ok (.istore_n 3, 1) := by decide +kernel
theorem dc_14_58_171 : decode prog_14_method_58_code 171 = .ok (.aload_n 0, 1) := by decide +kernel
theorem dc_14_58_172 : decode prog_14_method_58_code 172 = .ok (.iload 5, 2) := by decide +kernel
theorem dc_14_58_174 : decode prog_14_method_58_code 174 = .ok (.putfield 369, 3) := by decide +kernel
theorem dc_14_58_177 : decode prog_14_method_58_code 177 = .ok (.iconst 0, 1) := by decide +kernel
theorem dc_14_58_178 : decode prog_14_method_58_code 178 = .ok (.istore 7, 2) := by decide +kernel
theorem dc_14_58_180 : decode prog_14_method_58_code 180 = .ok (.iload 7, 2) := by decide +kernel
theorem dc_14_58_182 : decode prog_14_method_58_code 182 = .ok (.iconst 4, 1) := by decide +kernel
theorem dc_14_58_183 : decode prog_14_method_58_code 183 = .ok (.if_icmp .ge 23, 3) := by decide +kernel
theorem dc_14_58_186 : decode prog_14_method_58_code 186 = .ok (.aload_n 0, 1) := by decide +kernel
theorem dc_14_58_187 : decode prog_14_method_58_code 187 = .ok (.getfield 165, 3) := by decide +kernel
theorem dc_14_58_190 : decode prog_14_method_58_code 190 = .ok (.iload 7, 2) := by decide +kernel
theorem dc_14_58_192 : decode prog_14_method_58_code 192 = .ok (.aload_n 0, 1) := by decide +kernel
theorem dc_14_58_193 : decode prog_14_method_58_code 193 = .ok (.getfield 162, 3) := by decide +kernel
theorem dc_14_58_196 : decode prog_14_method_58_code 196 = .ok (.iload 7, 2) := by decide +kernel
theorem dc_14_58_198 : decode prog_14_method_58_code 198 = .ok (.iaload, 1) := by decide +kernel
theorem dc_14_58_199 : decode prog_14_method_58_code 199 = .ok (.iastore, 1) := by decide +kernel
theorem dc_14_58_200 : decode prog_14_method_58_code 200 = .ok (.iinc 7 1, 3) := by decide +kernel
theorem dc_14_58_203 : decode prog_14_method_58_code 203 = .ok (.goto (-23), 3) := by decide +kernel
theorem dc_14_58_206 : decode prog_14_method_58_code 206 = .ok (.iconst 0, 1) := by decide +kernel
theorem dc_14_58_207 : decode prog_14_method_58_code 207 = .ok (.istore 7, 2) := by decide +kernel
theorem dc_14_58_209 : decode prog_14_method_58_code 209 = .ok (.iload 7, 2) := by decide +kernel
theorem dc_14_58_211 : decode prog_14_method_58_code 211 = .ok (.aload_n 0, 1) := by decide +kernel
theorem dc_14_58_212 : decode prog_14_method_58_code 212 = .ok (.getfield 353, 3) := by decide +kernel
theorem dc_14_58_215 : decode prog_14_method_58_code 215 = .ok (.if_icmp .ge 23, 3) := by decide +kernel
theorem dc_14_58_218 : decode prog_14_method_58_code 218 = .ok (.aload_n 0, 1) := by decide +kernel
theorem dc_14_58_219 : decode prog_14_method_58_code 219 = .ok (.getfield 156, 3) := by decide +kernel
theorem dc_14_58_222 : decode prog_14_method_58_code 222 = .ok (.iload 7, 2) := by decide +kernel
theorem dc_14_58_224 : decode prog_14_method_58_code 224 = .ok (.aload_n 0, 1) := by decide +kernel
theorem dc_14_58_225 : decode prog_14_method_58_code 225 = .ok (.getfield 153, 3) := by decide +kernel
theorem dc_14_58_228 : decode prog_14_method_58_code 228 = .ok (.iload 7, 2) := by decide +kernel
theorem dc_14_58_230 : decode prog_14_method_58_code 230 = .ok (.iaload, 1) := by decide +kernel
theorem dc_14_58_231 : decode prog_14_method_58_code 231 = .ok (.iastore, 1) := by decide +kernel
theorem dc_14_58_232 : decode prog_14_method_58_code 232 = .ok (.iinc 7 1, 3) := by decide +kernel
theorem dc_14_58_235 : decode prog_14_method_58_code 235 = .ok (.goto (-26), 3) := by decide +kernel
theorem dc_14_58_238 : decode prog_14_method_58_code 238 = .ok (.iinc 4 1, 3) := by decide +kernel
theorem dc_14_58_241 : decode prog_14_method_58_code 241 = .ok (.goto (-209), 3) := by decide +kernel
theorem dc_14_58_244 : decode prog_14_method_58_code 244 = .ok (.iload_n 3, 1) := by decide +kernel
theorem dc_14_58_245 : decode prog_14_method_58_code 245 = .ok (.ireturn, 1) := by decide +kernel
theorem iv_13_v356 : mm_iv 13 (.invokevirtual 356) = some (1, 237) := by decide +kernel
theorem iv_13_v360 : mm_iv 13 (.invokevirtual 360) = some (1, 238) := by decide +kernel
theorem iv_13_v363 : mm_iv 13 (.invokevirtual 363) = some (1, 239) := by decide +kernel
theorem iv_13_v366 : mm_iv 13 (.invokevirtual 366) = some (1, 240) := by decide +kernel
theorem iv_13_v372 : mm_iv 13 (.invokevirtual 372) = some (1, 241) := by decide +kernel
theorem iv_13_v375 : mm_iv 13 (.invokevirtual 375) = some (1, 242) := by decide +kernel
theorem iv_13_v378 : mm_iv 13 (.invokevirtual 378) = some (1, 243) := by decide +kernel
theorem o_237 : mm_o 237 = 13 := by decide +kernel
theorem o_238 : mm_o 238 = 13 := by decide +kernel
theorem o_239 : mm_o 239 = 13 := by decide +kernel
theorem o_240 : mm_o 240 = 13 := by decide +kernel
theorem o_241 : mm_o 241 = 13 := by decide +kernel
theorem o_242 : mm_o 242 = 13 := by decide +kernel
theorem o_243 : mm_o 243 = 13 := by decide +kernel
theorem na_1_237 : mm_nas 1 237 = 2 := by decide +kernel
theorem na_1_238 : mm_nas 1 238 = 2 := by decide +kernel
theorem na_1_239 : mm_nas 1 239 = 1 := by decide +kernel
theorem na_1_240 : mm_nas 1 240 = 1 := by decide +kernel
theorem na_1_241 : mm_nas 1 241 = 1 := by decide +kernel
theorem na_1_242 : mm_nas 1 242 = 3 := by decide +kernel
theorem na_1_243 : mm_nas 1 243 = 2 := by decide +kernel
def p5 : Nat → Nat
  | 0 => 1
  | i + 1 => 5 * p5 i
theorem p5_le : ∀ n, n ≤ 7 → p5 n ≤ 78125 := by decide
theorem p5_lt : ∀ n, n ≤ 7 → p5 n < 2 ^ 31 := by decide
theorem sp_sum_congr {f g : Nat → Int32} : ∀ {n : Nat}, (∀ i, i < n → f i = g i) → sp_sum f n = sp_sum g n
  | 0, _ => rfl
  | n + 1, h => by
    show sp_sum f n + f n = sp_sum g n + g n
    rw [sp_sum_congr (fun i hi => h i (by omega)), h n (by omega)]
/-- the best of the first ones -/
noncomputable def sp_bo (OK : Nat → Prop) (BT : Nat → Nat → Prop) : Nat → Option Nat
  | 0 => none
  | c + 1 => @ite _ (OK c ∧ ∀ b, sp_bo OK BT c = some b → BT c b) (Classical.propDecidable _) (some c) (sp_bo OK BT c)
theorem sp_bo_p {OK : Nat → Prop} {BT : Nat → Nat → Prop} {c : Nat} (h : OK c) (h2 : ∀ b, sp_bo OK BT c = some b → BT c b) : sp_bo OK BT (c + 1) = some c := if_pos ⟨h, h2⟩
theorem sp_bo_n {OK : Nat → Prop} {BT : Nat → Nat → Prop} {c : Nat} (h : ¬ (OK c ∧ ∀ b, sp_bo OK BT c = some b → BT c b)) : sp_bo OK BT (c + 1) = sp_bo OK BT c := if_neg h
def okP (io : Nat → Int32) (sg my : Nat → Nat → Int32) (wh : Nat → Nat) (n ns nh nx code : Nat) : Prop := vdC sg my wh n code ∧ sp_kept io (plS sg my wh (co n code) n) ns nh nx
noncomputable def OTv (pl : Nat) (sg : Nat → Nat → Int32) (wh : Nat → Nat) (n code : Nat) : Int32 := if pl = 0 then nI 0 else sp_ot sg wh (co n code) (fun i => sg 57 (wh i)) n
def BTp (pl : Nat) (sg : Nat → Nat → Int32) (wh : Nat → Nat) (n c b : Nat) : Prop := ¬ OTv pl sg wh n b < OTv pl sg wh n c ∧ (OTv pl sg wh n c = OTv pl sg wh n b → lexgt (fun k => ct (co n c) k n) (fun k => ct (co n b) k n))
/-- the best plan -/
noncomputable def sp_best (pl : Nat) (io : Nat → Int32) (sg my : Nat → Nat → Int32) (wh : Nat → Nat) (n ns nh nx : Nat) : Nat → Option Nat := sp_bo (okP io sg my wh n ns nh nx) (BTp pl sg wh n)
def BIv (pl : Nat) (B : Option Nat) (sg : Nat → Nat → Int32) (wh : Nat → Nat) (n : Nat) (q : Nat → Nat → Int32) (bo sf : Int32) : Prop := sf = 0 ∧ B = none ∨ sf = nI 1 ∧ ∃ b, B = some b ∧ (∀ i, i < n → q 67 i = nI (co n b i)) ∧ bo = OTv pl sg wh n b ∧ ∀ k, k < 4 → q 70 k = nI (ct (co n b) k n)
theorem BIv_z {pl : Nat} {B : Option Nat} {sg : Nat → Nat → Int32} {wh : Nat → Nat} {n : Nat} {q : Nat → Nat → Int32} {bo sf : Int32} (h : BIv pl B sg wh n q bo sf) : sf &&& 1 = sf := h.elim (fun z => by rw [z.1]; rfl) (fun z => by rw [z.1]; rfl)
theorem BIv_0 {pl : Nat} {B : Option Nat} {sg : Nat → Nat → Int32} {wh : Nat → Nat} {n : Nat} {q : Nat → Nat → Int32} {bo sf : Int32} (h : BIv pl B sg wh n q bo sf) (h0 : sf = 0) : B = none := h.elim (fun z => z.2) (fun z => absurd (z.1.symm.trans h0) (by decide))
theorem BIv_1 {pl : Nat} {B : Option Nat} {sg : Nat → Nat → Int32} {wh : Nat → Nat} {n : Nat} {q : Nat → Nat → Int32} {bo sf : Int32} (h : BIv pl B sg wh n q bo sf) (h0 : ¬ sf = 0) : ∃ b, B = some b ∧ (∀ i, i < n → q 67 i = nI (co n b i)) ∧ bo = OTv pl sg wh n b ∧ ∀ k, k < 4 → q 70 k = nI (ct (co n b) k n) := h.elim (fun z => absurd z.1 h0) (fun z => z.2)
theorem BIv_c {pl : Nat} {B B2 : Option Nat} {sg : Nat → Nat → Int32} {wh : Nat → Nat} {n : Nat} {q : Nat → Nat → Int32} {bo sf : Int32} (e : B2 = B) (h : BIv pl B sg wh n q bo sf) : BIv pl B2 sg wh n q bo sf := by rw [e]; exact h
theorem plS_0 (sg my : Nat → Nat → Int32) (wh c : Nat → Nat) : plS sg my wh c 0 = sg := P3_id sg
def bkS (sg my : Nat → Nat → Int32) (wh c : Nat → Nat) (n m : Nat) : Nat → Nat → Int32 := P3 sg (gU (gU (sg 56) wh (P56 c) n) wh (fun i => sg 56 (wh i)) m) (gU (gU (sg 57) wh (P57 sg wh c) n) wh (fun i => sg 57 (wh i)) m) (gU (gU (sg 58) wh (P58 my wh c) n) wh (fun i => sg 58 (wh i)) m)
theorem bkS_n (sg my : Nat → Nat → Int32) (wh c : Nat → Nat) (n : Nat) : bkS sg my wh c n n = sg := by
  unfold bkS
  rw [gU_back (f := sg 56) (wh := wh) (fun _ _ => rfl), gU_back (f := sg 57) (wh := wh) (fun _ _ => rfl), gU_back (f := sg 58) (wh := wh) (fun _ _ => rfl)]
  exact P3_id sg
theorem kept_W (io : Nat → Int32) (sg q : Nat → Nat → Int32) (a b : Int32) (ns nh nx : Nat) : sp_kept (va_up (va_up io 71 a) 72 b) (sW sg q) ns nh nx = sp_kept io sg ns nh nx := rfl
theorem c_goesS (M : mH) (hM : 157 ≤ M.1) (io : Nat → Int32) (sg : Nat → Nat → Int32) {n : Nat} (h71 : io 71 = nI n) (hn7 : n ≤ 7) {wh : Nat → Nat} (hwh : ∀ i, i < n → wh i < 16) {q my : Nat → Nat → Int32} (hq : ∀ i, i < n → q 62 i = nI (wh i)) (c : Nat → Nat) (m : Nat) (hm : m < n) (hc : c m ≤ 4) (h68 : ¬ c m = 4 → q 68 (4 * wh m + c m) = my (wh m) (c m)) : mm_Ev 1 242 [.ref 100, .int (nI m), .int (nI (c m))] (rf_mk M io (sW (plS sg my wh c m) q)) (none, rf_mk M io (sW (plS sg my wh c (m + 1)) q)) := by
  have h := c_goes M hM io (plS sg my wh c m) n h71 hn7 wh hwh q my hq m (c m) hm hc h68
  rw [show plS sg my wh c m = P3 sg (gU (sg 56) wh (P56 c) m) (gU (sg 57) wh (P57 sg wh c) m) (gU (sg 58) wh (P58 my wh c) m) from rfl, P3_P3] at h
  exact h
theorem c_backS (M : mH) (hM : 157 ≤ M.1) (io : Nat → Int32) (sg : Nat → Nat → Int32) {n : Nat} (h71 : io 71 = nI n) (hn7 : n ≤ 7) {wh : Nat → Nat} (hwh : ∀ i, i < n → wh i < 16) {q my : Nat → Nat → Int32} (hq : ∀ i, i < n → q 62 i = nI (wh i)) (c : Nat → Nat) (m : Nat) (hm : m < n) (h63 : q 63 m = sg 56 (wh m)) (h64 : q 64 m = sg 57 (wh m)) (h65 : q 65 m = sg 58 (wh m)) : mm_Ev 1 243 [.ref 100, .int (nI m)] (rf_mk M io (sW (bkS sg my wh c n m) q)) (none, rf_mk M io (sW (bkS sg my wh c n (m + 1)) q)) := by
  have h := c_goesBack M hM io (bkS sg my wh c n m) n h71 hn7 wh hwh q my hq m hm
  rw [show bkS sg my wh c n m = P3 sg (gU (gU (sg 56) wh (P56 c) n) wh (fun i => sg 56 (wh i)) m) (gU (gU (sg 57) wh (P57 sg wh c) n) wh (fun i => sg 57 (wh i)) m) (gU (gU (sg 58) wh (P58 my wh c) n) wh (fun i => sg 58 (wh i)) m) from rfl, P3_P3, h63, h64, h65] at h
  exact h
set_option maxHeartbeats 4000000 in
theorem c_plans_0 (M : mH) (hM : 157 ≤ M.1) (io : Nat → Int32) (sg : Nat → Nat → Int32) (ns : Nat) (h5 : io 5 = nI ns) (hns : ns ≤ 16) (nh : Nat) (h3 : io 3 = nI nh) (hnh : nh ≤ 8) (nx : Nat) (h4 : io 4 = nI nx) (hnx : nx ≤ 12) (cm : Nat → Nat) (w : Nat → Nat → Nat) (hC : CDok sg nx cm w) (hR : RI1 sg ns nh) (n : Nat) (wh : Nat → Nat) (my : Nat → Nat → Int32) (hcn : (cnA (sp_sel sg 0) ns).1 = n) (hcw : (cnA (sp_sel sg 0) ns).2 = wh) (hmy0 : my = (fun s k => sp_mby io sg cm w nx s (sg 60 (4 * s + k)))) : ∃ (q : Nat → Nat → Int32), ∃ (bo : Int32), ∃ (sf : Int32), (WHq io sg cm w nx q n wh ∧ BIv 0 (sp_best 0 io sg my wh n ns nh nx (p5 n)) sg wh n q bo sf) ∧ mm_Ev 4 236 [.ref 100, .int (nI 0)] (rf_mk M io sg) ((some (.int sf), rf_mk M (va_up (va_up io 71 (nI n)) 72 bo) (sW sg q))) := by
  have hq9 : ∃ z, (fun r9 => ∃ (q : Nat → Nat → Int32), ∃ (bo : Int32), ∃ (sf : Int32), (WHq io sg cm w nx q n wh ∧ BIv 0 (sp_best 0 io sg my wh n ns nh nx (p5 n)) sg wh n q bo sf) ∧ r9 = ((some (.int sf), rf_mk M (va_up (va_up io 71 (nI n)) 72 bo) (sW sg q)))) z ∧ mm_Ev 4 236 [.ref 100, .int (nI 0)] (rf_mk M io sg) z := by
    refine r_evQ (by decide +kernel) (show (2 : Nat) ≤ mm_nL 236 by decide +kernel) ?_
    have hn7 : n ≤ 7 := hcn ▸ cnA_le _ _
    have hwh : ∀ i, i < n → wh i < 16 := fun i hi => by have := cnA_lt (sp_sel sg 0) ns i (hcn ▸ hi); rw [hcw] at this; omega
    have h59 : ∀ i, i < n → inN (sg 59 (wh i)) 4 := fun i hi => (hR.2 _ (by have := cnA_lt (sp_sel sg 0) ns i (hcn ▸ hi); rw [hcw] at this; exact this)).2.2.2.2.1
    show mm_Ru 3 (13, 8, false, prog_14_method_58_code, some .boolean) 0 [(0, .ref 100), (1, .int (nI 0))] [] (rf_mk M io sg) (fun r9 => ∃ (q : Nat → Nat → Int32), ∃ (bo : Int32), ∃ (sf : Int32), (WHq io sg cm w nx q n wh ∧ BIv 0 (sp_best 0 io sg my wh n ns nh nx (p5 n)) sg wh n q bo sf) ∧ r9 = ((some (.int sf), rf_mk M (va_up (va_up io 71 (nI n)) 72 bo) (sW sg q))))
    refine r_aload_n rfl dc_14_58_0 ?_
    refine r_iload_n rfl dc_14_58_1 ?_
    obtain ⟨q0, hWH, hbeg⟩ := c_begins M hM io sg ns h5 hns nx h4 hnx nh hnh cm w hC hR 0 (by decide)
    rw [hcn] at hbeg hWH
    rw [hcw] at hWH
    have h5l := p5_le n hn7
    refine q_callv (as := [.int (nI 0)]) (rest := []) (M1 := rf_mk M (va_up io 71 (nI n)) (sW sg q0)) iv_13_v356 na_1_237 o_237 hM rfl (show (0 : Nat) ≤ 8 by decide) dc_14_58_2 (hbeg) ?_
    refine r_iconst (v := nI 1) (by decide) dc_14_58_5 ?_
    refine r_istore_n (ls' := [(2, .int (nI 1)), (0, .ref 100), (1, .int (nI 0))]) (by decide) rfl dc_14_58_6 ?_
    refine r_iconst (v := nI 0) (by decide) dc_14_58_7 ?_
    refine r_istore_n (ls' := [(3, .int (nI 0)), (2, .int (nI 1)), (0, .ref 100), (1, .int (nI 0))]) (by decide) rfl dc_14_58_8 ?_
    refine mm_cnt (P := fun k => mm_Ru 3 (13, 8, false, prog_14_method_58_code, some .boolean) 9 [(3, .int (nI k)), (2, .int (nI (p5 k))), (0, .ref 100), (1, .int (nI 0))] [] (rf_mk M (va_up io 71 (nI n)) (sW sg q0)) (fun r9 => ∃ (q : Nat → Nat → Int32), ∃ (bo : Int32), ∃ (sf : Int32), (WHq io sg cm w nx q n wh ∧ BIv 0 (sp_best 0 io sg my wh n ns nh nx (p5 n)) sg wh n q bo sf) ∧ r9 = ((some (.int sf), rf_mk M (va_up (va_up io 71 (nI n)) 72 bo) (sW sg q))))) n ?_ ?_ 0 (by omega)
    · show mm_Ru 3 (13, 8, false, prog_14_method_58_code, some .boolean) 9 [(3, .int (nI n)), (2, .int (nI (p5 n))), (0, .ref 100), (1, .int (nI 0))] [] (rf_mk M (va_up io 71 (nI n)) (sW sg q0)) (fun r9 => ∃ (q : Nat → Nat → Int32), ∃ (bo : Int32), ∃ (sf : Int32), (WHq io sg cm w nx q n wh ∧ BIv 0 (sp_best 0 io sg my wh n ns nh nx (p5 n)) sg wh n q bo sf) ∧ r9 = ((some (.int sf), rf_mk M (va_up (va_up io 71 (nI n)) 72 bo) (sW sg q))))
      refine r_iload_n rfl dc_14_58_9 ?_
      refine r_aload_n rfl dc_14_58_10 ?_
      refine q_get (v := .int (nI n)) rx_353 hM (congrArg (fun z => some (Value.int z)) (rfl)) dc_14_58_11 ?_
      refine r_ncge (t := 27) (by omega) (by omega) (by decide) dc_14_58_14 (fun c_14 => ?_) (fun c_14 => ?_)
      · skip
        refine r_iconst (v := nI 0) (by decide) dc_14_58_27 ?_
        refine r_istore_n (ls' := [(3, .int (nI 0)), (2, .int (nI (p5 n))), (0, .ref 100), (1, .int (nI 0))]) (by decide) rfl dc_14_58_28 ?_
        refine r_iconst (v := nI 0) (by decide) dc_14_58_29 ?_
        refine r_istore (ls' := [(4, .int (nI 0)), (3, .int (nI 0)), (2, .int (nI (p5 n))), (0, .ref 100), (1, .int (nI 0))]) (by decide) rfl dc_14_58_30 ?_
        rw [show va_up io 71 (nI n) = va_up (va_up io 71 (nI n)) 72 (io 72) from (va_up_id (va_up io 71 (nI n)) 72).symm]
        refine mm_cnt (P := fun cd => ∀ (sf : Int32), ∀ (q : Nat → Nat → Int32), ∀ (bo : Int32), (WHq io sg cm w nx q n wh ∧ BIv 0 (sp_best 0 io sg my wh n ns nh nx cd) sg wh n q bo sf) → mm_Ru 3 (13, 8, false, prog_14_method_58_code, some .boolean) 32 [(4, .int (nI cd)), (3, .int sf), (2, .int (nI (p5 n))), (0, .ref 100), (1, .int (nI 0))] [] (rf_mk M (va_up (va_up io 71 (nI n)) 72 bo) (sW sg q)) (fun r9 => ∃ (q : Nat → Nat → Int32), ∃ (bo : Int32), ∃ (sf : Int32), (WHq io sg cm w nx q n wh ∧ BIv 0 (sp_best 0 io sg my wh n ns nh nx (p5 n)) sg wh n q bo sf) ∧ r9 = ((some (.int sf), rf_mk M (va_up (va_up io 71 (nI n)) 72 bo) (sW sg q))))) (p5 n) ?_ ?_ 0 (by omega) (nI 0) q0 (io 72) (⟨hWH, Or.inl ⟨rfl, rfl⟩⟩)
        · intro sf q bo hi_cd
          show mm_Ru 3 (13, 8, false, prog_14_method_58_code, some .boolean) 32 [(4, .int (nI (p5 n))), (3, .int sf), (2, .int (nI (p5 n))), (0, .ref 100), (1, .int (nI 0))] [] (rf_mk M (va_up (va_up io 71 (nI n)) 72 bo) (sW sg q)) (fun r9 => ∃ (q : Nat → Nat → Int32), ∃ (bo : Int32), ∃ (sf : Int32), (WHq io sg cm w nx q n wh ∧ BIv 0 (sp_best 0 io sg my wh n ns nh nx (p5 n)) sg wh n q bo sf) ∧ r9 = ((some (.int sf), rf_mk M (va_up (va_up io 71 (nI n)) 72 bo) (sW sg q))))
          refine r_iload rfl dc_14_58_32 ?_
          refine r_iload_n rfl dc_14_58_34 ?_
          refine r_ncge (t := 244) (by omega) (by omega) (by decide) dc_14_58_35 (fun c_35 => ?_) (fun c_35 => ?_)
          · skip
            refine r_iload_n rfl dc_14_58_244 ?_
            refine r_zret rfl (BIv_z hi_cd.2) dc_14_58_245 ?_
            exact ⟨q, bo, sf, hi_cd, rfl⟩
          · omega
        · intro cd h_cd ih_cd sf q bo hi_cd
          have hq : ∀ i, i < n → q 62 i = nI (wh i) := fun i hi => (hi_cd.1 i hi).1
          have hmy : ∀ i, i < n → ∀ k, k < tN (sg 59 (wh i)) → q 68 (4 * wh i + k) = my (wh i) k := fun i hi k hk => by rw [hmy0]; exact (hi_cd.1 i hi).2.2.2.2 k hk
          have hco4 : ∀ i, i < n → co n cd i ≤ 4 := fun i _ => Nat.le_of_lt_succ (dgt_lt _ _)
          show mm_Ru 3 (13, 8, false, prog_14_method_58_code, some .boolean) 32 [(4, .int (nI cd)), (3, .int sf), (2, .int (nI (p5 n))), (0, .ref 100), (1, .int (nI 0))] [] (rf_mk M (va_up (va_up io 71 (nI n)) 72 bo) (sW sg q)) (fun r9 => ∃ (q : Nat → Nat → Int32), ∃ (bo : Int32), ∃ (sf : Int32), (WHq io sg cm w nx q n wh ∧ BIv 0 (sp_best 0 io sg my wh n ns nh nx (p5 n)) sg wh n q bo sf) ∧ r9 = ((some (.int sf), rf_mk M (va_up (va_up io 71 (nI n)) 72 bo) (sW sg q))))
          refine r_iload rfl dc_14_58_32 ?_
          refine r_iload_n rfl dc_14_58_34 ?_
          refine r_ncge (t := 244) (by omega) (by omega) (by decide) dc_14_58_35 (fun c_35 => ?_) (fun c_35 => ?_)
          · omega
          · skip
            refine r_aload_n rfl dc_14_58_38 ?_
            refine r_iload rfl dc_14_58_39 ?_
            obtain ⟨ch, hch, hip⟩ := c_isPlan M hM (va_up (va_up io 71 (nI n)) 72 bo) sg n rfl hn7 wh hwh q my hq hmy h59 cd (by omega)
            refine q_calli (as := [.int (nI cd)]) (rest := []) (v := .int (pI (vdC sg my wh n cd))) (M1 := rf_mk M (va_up (va_up io 71 (nI n)) 72 bo) (sW sg (va_up q 66 ch))) iv_13_v360 na_1_238 o_238 hM rfl (show (0 : Nat) ≤ 8 by decide) dc_14_58_41 (mm_Ev_up (by decide : 1 ≤ 3) (hip)) ?_
            refine r_ifne (t := 50) (by decide) dc_14_58_44 (fun c_44 => ?_) (fun c_44 => ?_)
            · have hval := pI_ne c_44
              have hc := hch hval
              refine r_iload_n rfl dc_14_58_50 ?_
              refine r_ifeq (t := 61) (by decide) dc_14_58_51 (fun c_51 => ?_) (fun c_51 => ?_)
              · skip
                refine r_iconst (v := nI 0) (by decide) dc_14_58_61 ?_
                show mm_Ru 3 (13, 8, false, prog_14_method_58_code, some .boolean) 62 [(4, .int (nI cd)), (3, .int sf), (2, .int (nI (p5 n))), (0, .ref 100), (1, .int (nI 0))] [.int (OTv 0 sg wh n cd)] (rf_mk M (va_up (va_up io 71 (nI n)) 72 bo) (sW sg (va_up q 66 ch))) (fun r9 => ∃ (q : Nat → Nat → Int32), ∃ (bo : Int32), ∃ (sf : Int32), (WHq io sg cm w nx q n wh ∧ BIv 0 (sp_best 0 io sg my wh n ns nh nx (p5 n)) sg wh n q bo sf) ∧ r9 = ((some (.int sf), rf_mk M (va_up (va_up io 71 (nI n)) 72 bo) (sW sg q))))
                refine r_istore (ls' := [(5, .int (OTv 0 sg wh n cd)), (4, .int (nI cd)), (3, .int sf), (2, .int (nI (p5 n))), (0, .ref 100), (1, .int (nI 0))]) (by decide) rfl dc_14_58_62 ?_
                refine r_aload_n rfl dc_14_58_64 ?_
                obtain ⟨f9, hf9, hse⟩ := c_serves M hM (va_up (va_up io 71 (nI n)) 72 bo) sg n rfl hn7 wh hwh (va_up q 66 ch) my hq (co n cd) hc hco4
                refine q_callv (as := []) (rest := []) (M1 := rf_mk M (va_up (va_up io 71 (nI n)) 72 bo) (sW sg (va_up (va_up q 66 ch) 69 f9))) iv_13_v366 na_1_240 o_240 hM rfl (show (0 : Nat) ≤ 8 by decide) dc_14_58_65 (mm_Ev_up (by decide : 1 ≤ 3) (hse)) ?_
                have htail : (∀ b, (sp_best 0 io sg my wh n ns nh nx cd) = some b → BTp 0 sg wh n cd b) → mm_Ru 3 (13, 8, false, prog_14_method_58_code, some .boolean) 100 [(5, .int (OTv 0 sg wh n cd)), (4, .int (nI cd)), (3, .int sf), (2, .int (nI (p5 n))), (0, .ref 100), (1, .int (nI 0))] [] (rf_mk M (va_up (va_up io 71 (nI n)) 72 bo) (sW sg (va_up (va_up q 66 ch) 69 f9))) (fun r9 => ∃ (q : Nat → Nat → Int32), ∃ (bo : Int32), ∃ (sf : Int32), (WHq io sg cm w nx q n wh ∧ BIv 0 (sp_best 0 io sg my wh n ns nh nx (p5 n)) sg wh n q bo sf) ∧ r9 = ((some (.int sf), rf_mk M (va_up (va_up io 71 (nI n)) 72 bo) (sW sg q)))) := by
                  intro hbt
                  refine r_iconst (v := nI 0) (by decide) dc_14_58_100 ?_
                  refine r_istore (ls' := [(6, .int (nI 0)), (5, .int (OTv 0 sg wh n cd)), (4, .int (nI cd)), (3, .int sf), (2, .int (nI (p5 n))), (0, .ref 100), (1, .int (nI 0))]) (by decide) rfl dc_14_58_101 ?_
                  rw [show sW sg (va_up (va_up q 66 ch) 69 f9) = sW (plS sg my wh (co n cd) 0) (va_up (va_up q 66 ch) 69 f9) from by rw [plS_0]]
                  refine mm_cnt (P := fun g => mm_Ru 3 (13, 8, false, prog_14_method_58_code, some .boolean) 103 [(6, .int (nI g)), (5, .int (OTv 0 sg wh n cd)), (4, .int (nI cd)), (3, .int sf), (2, .int (nI (p5 n))), (0, .ref 100), (1, .int (nI 0))] [] (rf_mk M (va_up (va_up io 71 (nI n)) 72 bo) (sW (plS sg my wh (co n cd) g) (va_up (va_up q 66 ch) 69 f9))) (fun r9 => ∃ (q : Nat → Nat → Int32), ∃ (bo : Int32), ∃ (sf : Int32), (WHq io sg cm w nx q n wh ∧ BIv 0 (sp_best 0 io sg my wh n ns nh nx (p5 n)) sg wh n q bo sf) ∧ r9 = ((some (.int sf), rf_mk M (va_up (va_up io 71 (nI n)) 72 bo) (sW sg q))))) n ?_ ?_ 0 (by omega)
                  · show mm_Ru 3 (13, 8, false, prog_14_method_58_code, some .boolean) 103 [(6, .int (nI n)), (5, .int (OTv 0 sg wh n cd)), (4, .int (nI cd)), (3, .int sf), (2, .int (nI (p5 n))), (0, .ref 100), (1, .int (nI 0))] [] (rf_mk M (va_up (va_up io 71 (nI n)) 72 bo) (sW (plS sg my wh (co n cd) n) (va_up (va_up q 66 ch) 69 f9))) (fun r9 => ∃ (q : Nat → Nat → Int32), ∃ (bo : Int32), ∃ (sf : Int32), (WHq io sg cm w nx q n wh ∧ BIv 0 (sp_best 0 io sg my wh n ns nh nx (p5 n)) sg wh n q bo sf) ∧ r9 = ((some (.int sf), rf_mk M (va_up (va_up io 71 (nI n)) 72 bo) (sW sg q))))
                    refine r_iload rfl dc_14_58_103 ?_
                    refine r_aload_n rfl dc_14_58_105 ?_
                    refine q_get (v := .int (nI n)) rx_353 hM (congrArg (fun z => some (Value.int z)) (rfl)) dc_14_58_106 ?_
                    refine r_ncge (t := 131) (by omega) (by omega) (by decide) dc_14_58_109 (fun c_109 => ?_) (fun c_109 => ?_)
                    · skip
                      refine r_aload_n rfl dc_14_58_131 ?_
                      have hak := c_areKept M hM (va_up (va_up io 71 (nI n)) 72 bo) (sW (plS sg my wh (co n cd) n) (va_up (va_up q 66 ch) 69 f9)) ns h5 hns nh h3 hnh nx h4 hnx
                      rw [kept_W] at hak
                      refine q_calli (as := []) (rest := []) (v := .int (pI (sp_kept io (plS sg my wh (co n cd) n) ns nh nx))) (M1 := rf_mk M (va_up (va_up io 71 (nI n)) 72 bo) (sW (plS sg my wh (co n cd) n) (va_up (va_up q 66 ch) 69 f9))) iv_13_v350 na_1_230 o_230 hM rfl (show (0 : Nat) ≤ 8 by decide) dc_14_58_132 (mm_Ev_up (by decide : 2 ≤ 3) (hak)) ?_
                      refine r_istore (ls' := [(6, .int (pI (sp_kept io (plS sg my wh (co n cd) n) ns nh nx))), (5, .int (OTv 0 sg wh n cd)), (4, .int (nI cd)), (3, .int sf), (2, .int (nI (p5 n))), (0, .ref 100), (1, .int (nI 0))]) (by decide) rfl dc_14_58_135 ?_
                      refine r_iconst (v := nI 0) (by decide) dc_14_58_137 ?_
                      refine r_istore (ls' := [(7, .int (nI 0)), (6, .int (pI (sp_kept io (plS sg my wh (co n cd) n) ns nh nx))), (5, .int (OTv 0 sg wh n cd)), (4, .int (nI cd)), (3, .int sf), (2, .int (nI (p5 n))), (0, .ref 100), (1, .int (nI 0))]) (by decide) rfl dc_14_58_138 ?_
                      refine mm_cnt (P := fun u9 => mm_Ru 3 (13, 8, false, prog_14_method_58_code, some .boolean) 140 [(7, .int (nI u9)), (6, .int (pI (sp_kept io (plS sg my wh (co n cd) n) ns nh nx))), (5, .int (OTv 0 sg wh n cd)), (4, .int (nI cd)), (3, .int sf), (2, .int (nI (p5 n))), (0, .ref 100), (1, .int (nI 0))] [] (rf_mk M (va_up (va_up io 71 (nI n)) 72 bo) (sW (bkS sg my wh (co n cd) n u9) (va_up (va_up q 66 ch) 69 f9))) (fun r9 => ∃ (q : Nat → Nat → Int32), ∃ (bo : Int32), ∃ (sf : Int32), (WHq io sg cm w nx q n wh ∧ BIv 0 (sp_best 0 io sg my wh n ns nh nx (p5 n)) sg wh n q bo sf) ∧ r9 = ((some (.int sf), rf_mk M (va_up (va_up io 71 (nI n)) 72 bo) (sW sg q))))) n ?_ ?_ 0 (by omega)
                      · show mm_Ru 3 (13, 8, false, prog_14_method_58_code, some .boolean) 140 [(7, .int (nI n)), (6, .int (pI (sp_kept io (plS sg my wh (co n cd) n) ns nh nx))), (5, .int (OTv 0 sg wh n cd)), (4, .int (nI cd)), (3, .int sf), (2, .int (nI (p5 n))), (0, .ref 100), (1, .int (nI 0))] [] (rf_mk M (va_up (va_up io 71 (nI n)) 72 bo) (sW (bkS sg my wh (co n cd) n n) (va_up (va_up q 66 ch) 69 f9))) (fun r9 => ∃ (q : Nat → Nat → Int32), ∃ (bo : Int32), ∃ (sf : Int32), (WHq io sg cm w nx q n wh ∧ BIv 0 (sp_best 0 io sg my wh n ns nh nx (p5 n)) sg wh n q bo sf) ∧ r9 = ((some (.int sf), rf_mk M (va_up (va_up io 71 (nI n)) 72 bo) (sW sg q))))
                        refine r_iload rfl dc_14_58_140 ?_
                        refine r_aload_n rfl dc_14_58_142 ?_
                        refine q_get (v := .int (nI n)) rx_353 hM (congrArg (fun z => some (Value.int z)) (rfl)) dc_14_58_143 ?_
                        refine r_ncge (t := 161) (by omega) (by omega) (by decide) dc_14_58_146 (fun c_146 => ?_) (fun c_146 => ?_)
                        · skip
                          rw [bkS_n]
                          refine r_iload rfl dc_14_58_161 ?_
                          refine r_ifne (t := 169) (by decide) dc_14_58_163 (fun c_163 => ?_) (fun c_163 => ?_)
                          · have hkp := pI_ne c_163
                            refine r_iconst (v := nI 1) (by decide) dc_14_58_169 ?_
                            refine r_istore_n (ls' := [(3, .int (nI 1)), (7, .int (nI n)), (6, .int (pI (sp_kept io (plS sg my wh (co n cd) n) ns nh nx))), (5, .int (OTv 0 sg wh n cd)), (4, .int (nI cd)), (2, .int (nI (p5 n))), (0, .ref 100), (1, .int (nI 0))]) (by decide) rfl dc_14_58_170 ?_
                            refine r_aload_n rfl dc_14_58_171 ?_
                            refine r_iload rfl dc_14_58_172 ?_
                            refine q_put rx_369 (by decide +kernel) (by decide +kernel) (by decide) (rs_72 _) hM dc_14_58_174 ?_
                            rw [va_up_up]
                            refine r_iconst (v := nI 0) (by decide) dc_14_58_177 ?_
                            refine r_istore (ls' := [(7, .int (nI 0)), (3, .int (nI 1)), (6, .int (pI (sp_kept io (plS sg my wh (co n cd) n) ns nh nx))), (5, .int (OTv 0 sg wh n cd)), (4, .int (nI cd)), (2, .int (nI (p5 n))), (0, .ref 100), (1, .int (nI 0))]) (by decide) rfl dc_14_58_178 ?_
                            rw [show sW sg (va_up (va_up q 66 ch) 69 f9) = sW sg (va_up (va_up (va_up q 66 ch) 69 f9) 70 (q 70)) from (congrArg (sW sg) (va_up_id (va_up (va_up q 66 ch) 69 f9) 70)).symm]
                            refine r_ls [(7, .int (nI 0)), (5, .int (OTv 0 sg wh n cd)), (4, .int (nI cd)), (3, .int (nI 1)), (2, .int (nI (p5 n))), (0, .ref 100), (1, .int (nI 0))] (mm_ndk_of [7, 5, 4, 3, 2, 0, 1] rfl (by decide)) (mm_sub_cons rfl (mm_sub_cons rfl (mm_sub_cons rfl (mm_sub_cons rfl (mm_sub_cons rfl (mm_sub_cons rfl (mm_sub_cons rfl (mm_sub_nil _)))))))) ?_
                            refine mm_cnt (P := fun j9 => ∀ (r : Nat → Int32), (∀ j, j < j9 → r j = f9 j) → mm_Ru 3 (13, 8, false, prog_14_method_58_code, some .boolean) 180 [(7, .int (nI j9)), (5, .int (OTv 0 sg wh n cd)), (4, .int (nI cd)), (3, .int (nI 1)), (2, .int (nI (p5 n))), (0, .ref 100), (1, .int (nI 0))] [] (rf_mk M (va_up (va_up io 71 (nI n)) 72 (OTv 0 sg wh n cd)) (sW sg (va_up (va_up (va_up q 66 ch) 69 f9) 70 r))) (fun r9 => ∃ (q : Nat → Nat → Int32), ∃ (bo : Int32), ∃ (sf : Int32), (WHq io sg cm w nx q n wh ∧ BIv 0 (sp_best 0 io sg my wh n ns nh nx (p5 n)) sg wh n q bo sf) ∧ r9 = ((some (.int sf), rf_mk M (va_up (va_up io 71 (nI n)) 72 bo) (sW sg q))))) 4 ?_ ?_ 0 (by omega) (q 70) (fun j hj => absurd hj (Nat.not_lt_zero j))
                            · intro r hi_j9
                              show mm_Ru 3 (13, 8, false, prog_14_method_58_code, some .boolean) 180 [(7, .int (nI 4)), (5, .int (OTv 0 sg wh n cd)), (4, .int (nI cd)), (3, .int (nI 1)), (2, .int (nI (p5 n))), (0, .ref 100), (1, .int (nI 0))] [] (rf_mk M (va_up (va_up io 71 (nI n)) 72 (OTv 0 sg wh n cd)) (sW sg (va_up (va_up (va_up q 66 ch) 69 f9) 70 r))) (fun r9 => ∃ (q : Nat → Nat → Int32), ∃ (bo : Int32), ∃ (sf : Int32), (WHq io sg cm w nx q n wh ∧ BIv 0 (sp_best 0 io sg my wh n ns nh nx (p5 n)) sg wh n q bo sf) ∧ r9 = ((some (.int sf), rf_mk M (va_up (va_up io 71 (nI n)) 72 bo) (sW sg q))))
                              refine r_iload rfl dc_14_58_180 ?_
                              refine r_iconst (v := nI 4) (by decide) dc_14_58_182 ?_
                              refine r_ncge (t := 206) (by omega) (by omega) (by decide) dc_14_58_183 (fun c_183 => ?_) (fun c_183 => ?_)
                              · skip
                                refine r_iconst (v := nI 0) (by decide) dc_14_58_206 ?_
                                refine r_istore (ls' := [(7, .int (nI 0)), (5, .int (OTv 0 sg wh n cd)), (4, .int (nI cd)), (3, .int (nI 1)), (2, .int (nI (p5 n))), (0, .ref 100), (1, .int (nI 0))]) (by decide) rfl dc_14_58_207 ?_
                                rw [show sW sg (va_up (va_up (va_up q 66 ch) 69 f9) 70 r) = sW sg (va_up (va_up (va_up (va_up q 66 ch) 69 f9) 70 r) 67 (q 67)) from (congrArg (sW sg) (va_up_id (va_up (va_up (va_up q 66 ch) 69 f9) 70 r) 67)).symm]
                                refine mm_cnt (P := fun k7 => ∀ (r2 : Nat → Int32), (∀ j, j < k7 → r2 j = ch j) → mm_Ru 3 (13, 8, false, prog_14_method_58_code, some .boolean) 209 [(7, .int (nI k7)), (5, .int (OTv 0 sg wh n cd)), (4, .int (nI cd)), (3, .int (nI 1)), (2, .int (nI (p5 n))), (0, .ref 100), (1, .int (nI 0))] [] (rf_mk M (va_up (va_up io 71 (nI n)) 72 (OTv 0 sg wh n cd)) (sW sg (va_up (va_up (va_up (va_up q 66 ch) 69 f9) 70 r) 67 r2))) (fun r9 => ∃ (q : Nat → Nat → Int32), ∃ (bo : Int32), ∃ (sf : Int32), (WHq io sg cm w nx q n wh ∧ BIv 0 (sp_best 0 io sg my wh n ns nh nx (p5 n)) sg wh n q bo sf) ∧ r9 = ((some (.int sf), rf_mk M (va_up (va_up io 71 (nI n)) 72 bo) (sW sg q))))) n ?_ ?_ 0 (by omega) (q 67) (fun j hj => absurd hj (Nat.not_lt_zero j))
                                · intro r2 hi_k7
                                  show mm_Ru 3 (13, 8, false, prog_14_method_58_code, some .boolean) 209 [(7, .int (nI n)), (5, .int (OTv 0 sg wh n cd)), (4, .int (nI cd)), (3, .int (nI 1)), (2, .int (nI (p5 n))), (0, .ref 100), (1, .int (nI 0))] [] (rf_mk M (va_up (va_up io 71 (nI n)) 72 (OTv 0 sg wh n cd)) (sW sg (va_up (va_up (va_up (va_up q 66 ch) 69 f9) 70 r) 67 r2))) (fun r9 => ∃ (q : Nat → Nat → Int32), ∃ (bo : Int32), ∃ (sf : Int32), (WHq io sg cm w nx q n wh ∧ BIv 0 (sp_best 0 io sg my wh n ns nh nx (p5 n)) sg wh n q bo sf) ∧ r9 = ((some (.int sf), rf_mk M (va_up (va_up io 71 (nI n)) 72 bo) (sW sg q))))
                                  refine r_iload rfl dc_14_58_209 ?_
                                  refine r_aload_n rfl dc_14_58_211 ?_
                                  refine q_get (v := .int (nI n)) rx_353 hM (congrArg (fun z => some (Value.int z)) (rfl)) dc_14_58_212 ?_
                                  refine r_ncge (t := 238) (by omega) (by omega) (by decide) dc_14_58_215 (fun c_215 => ?_) (fun c_215 => ?_)
                                  · skip
                                    refine r_iinc (x := nI cd) (v := nI (cd + 1)) (ls' := [(4, .int (nI (cd + 1))), (7, .int (nI n)), (5, .int (OTv 0 sg wh n cd)), (3, .int (nI 1)), (2, .int (nI (p5 n))), (0, .ref 100), (1, .int (nI 0))]) rfl (nI_1 _) (by decide) rfl dc_14_58_238 ?_
                                    refine r_goto (t := 32) (by decide) dc_14_58_241 ?_
                                    refine r_ls [(4, .int (nI (cd + 1))), (3, .int (nI 1)), (2, .int (nI (p5 n))), (0, .ref 100), (1, .int (nI 0))] (mm_ndk_of [4, 3, 2, 0, 1] rfl (by decide)) (mm_sub_cons rfl (mm_sub_cons rfl (mm_sub_cons rfl (mm_sub_cons rfl (mm_sub_cons rfl (mm_sub_nil _)))))) ?_
                                    exact ih_cd (nI 1) (va_up (va_up (va_up (va_up q 66 ch) 69 f9) 70 r) 67 r2) (OTv 0 sg wh n cd) (⟨hi_cd.1, Or.inr ⟨rfl, cd, sp_bo_p ⟨hval, hkp⟩ hbt, fun i hi => (hi_k7 i hi).trans (hc i hi), rfl, fun k hk => (hi_j9 k hk).trans (hf9 k hk)⟩⟩)
                                  · omega
                                · intro k7 h_k7 ih_k7 r2 hi_k7
                                  show mm_Ru 3 (13, 8, false, prog_14_method_58_code, some .boolean) 209 [(7, .int (nI k7)), (5, .int (OTv 0 sg wh n cd)), (4, .int (nI cd)), (3, .int (nI 1)), (2, .int (nI (p5 n))), (0, .ref 100), (1, .int (nI 0))] [] (rf_mk M (va_up (va_up io 71 (nI n)) 72 (OTv 0 sg wh n cd)) (sW sg (va_up (va_up (va_up (va_up q 66 ch) 69 f9) 70 r) 67 r2))) (fun r9 => ∃ (q : Nat → Nat → Int32), ∃ (bo : Int32), ∃ (sf : Int32), (WHq io sg cm w nx q n wh ∧ BIv 0 (sp_best 0 io sg my wh n ns nh nx (p5 n)) sg wh n q bo sf) ∧ r9 = ((some (.int sf), rf_mk M (va_up (va_up io 71 (nI n)) 72 bo) (sW sg q))))
                                  refine r_iload rfl dc_14_58_209 ?_
                                  refine r_aload_n rfl dc_14_58_211 ?_
                                  refine q_get (v := .int (nI n)) rx_353 hM (congrArg (fun z => some (Value.int z)) (rfl)) dc_14_58_212 ?_
                                  refine r_ncge (t := 238) (by omega) (by omega) (by decide) dc_14_58_215 (fun c_215 => ?_) (fun c_215 => ?_)
                                  · omega
                                  · skip
                                    refine r_aload_n rfl dc_14_58_218 ?_
                                    refine q_get (v := .ref 149) rx_156 hM rfl dc_14_58_219 ?_
                                    refine r_iload rfl dc_14_58_222 ?_
                                    refine r_aload_n rfl dc_14_58_224 ?_
                                    refine q_get (v := .ref 148) rx_153 hM rfl dc_14_58_225 ?_
                                    refine r_iload rfl dc_14_58_228 ?_
                                    refine q_ild (e := k7) (v := ch k7) (by decide) (by decide) hM rfl (show k7 < 7 by omega) (by omega) (rfl) dc_14_58_230 ?_
                                    refine q_ist (e := k7) (k := 67) (by decide) (by decide) hM rfl rfl (show k7 < 7 by omega) (by omega) dc_14_58_231 ?_
                                    rw [sW_s 67 _ rfl, va_up_up]
                                    refine r_iinc (x := nI k7) (v := nI (k7 + 1)) (ls' := [(7, .int (nI (k7 + 1))), (5, .int (OTv 0 sg wh n cd)), (4, .int (nI cd)), (3, .int (nI 1)), (2, .int (nI (p5 n))), (0, .ref 100), (1, .int (nI 0))]) rfl (nI_1 _) (by decide) rfl dc_14_58_232 ?_
                                    refine r_goto (t := 209) (by decide) dc_14_58_235 ?_
                                    exact ih_k7 (upd r2 k7 (ch k7)) (fun j hj => if e : j = k7 then e ▸ if_pos rfl else (if_neg e).trans (hi_k7 j (by omega)))
                              · omega
                            · intro j9 h_j9 ih_j9 r hi_j9
                              show mm_Ru 3 (13, 8, false, prog_14_method_58_code, some .boolean) 180 [(7, .int (nI j9)), (5, .int (OTv 0 sg wh n cd)), (4, .int (nI cd)), (3, .int (nI 1)), (2, .int (nI (p5 n))), (0, .ref 100), (1, .int (nI 0))] [] (rf_mk M (va_up (va_up io 71 (nI n)) 72 (OTv 0 sg wh n cd)) (sW sg (va_up (va_up (va_up q 66 ch) 69 f9) 70 r))) (fun r9 => ∃ (q : Nat → Nat → Int32), ∃ (bo : Int32), ∃ (sf : Int32), (WHq io sg cm w nx q n wh ∧ BIv 0 (sp_best 0 io sg my wh n ns nh nx (p5 n)) sg wh n q bo sf) ∧ r9 = ((some (.int sf), rf_mk M (va_up (va_up io 71 (nI n)) 72 bo) (sW sg q))))
                              refine r_iload rfl dc_14_58_180 ?_
                              refine r_iconst (v := nI 4) (by decide) dc_14_58_182 ?_
                              refine r_ncge (t := 206) (by omega) (by omega) (by decide) dc_14_58_183 (fun c_183 => ?_) (fun c_183 => ?_)
                              · omega
                              · skip
                                refine r_aload_n rfl dc_14_58_186 ?_
                                refine q_get (v := .ref 152) rx_165 hM rfl dc_14_58_187 ?_
                                refine r_iload rfl dc_14_58_190 ?_
                                refine r_aload_n rfl dc_14_58_192 ?_
                                refine q_get (v := .ref 151) rx_162 hM rfl dc_14_58_193 ?_
                                refine r_iload rfl dc_14_58_196 ?_
                                refine q_ild (e := j9) (v := f9 j9) (by decide) (by decide) hM rfl (show j9 < 4 by omega) (by omega) (rfl) dc_14_58_198 ?_
                                refine q_ist (e := j9) (k := 70) (by decide) (by decide) hM rfl rfl (show j9 < 4 by omega) (by omega) dc_14_58_199 ?_
                                rw [sW_s 70 _ rfl, va_up_up]
                                refine r_iinc (x := nI j9) (v := nI (j9 + 1)) (ls' := [(7, .int (nI (j9 + 1))), (5, .int (OTv 0 sg wh n cd)), (4, .int (nI cd)), (3, .int (nI 1)), (2, .int (nI (p5 n))), (0, .ref 100), (1, .int (nI 0))]) rfl (nI_1 _) (by decide) rfl dc_14_58_200 ?_
                                refine r_goto (t := 180) (by decide) dc_14_58_203 ?_
                                exact ih_j9 (upd r j9 (f9 j9)) (fun j hj => if e : j = j9 then e ▸ if_pos rfl else (if_neg e).trans (hi_j9 j (by omega)))
                          · skip
                            refine r_goto (t := 238) (by decide) dc_14_58_166 ?_
                            refine r_iinc (x := nI cd) (v := nI (cd + 1)) (ls' := [(4, .int (nI (cd + 1))), (7, .int (nI n)), (6, .int (pI (sp_kept io (plS sg my wh (co n cd) n) ns nh nx))), (5, .int (OTv 0 sg wh n cd)), (3, .int sf), (2, .int (nI (p5 n))), (0, .ref 100), (1, .int (nI 0))]) rfl (nI_1 _) (by decide) rfl dc_14_58_238 ?_
                            refine r_goto (t := 32) (by decide) dc_14_58_241 ?_
                            refine r_ls [(4, .int (nI (cd + 1))), (3, .int sf), (2, .int (nI (p5 n))), (0, .ref 100), (1, .int (nI 0))] (mm_ndk_of [4, 3, 2, 0, 1] rfl (by decide)) (mm_sub_cons rfl (mm_sub_cons rfl (mm_sub_cons rfl (mm_sub_cons rfl (mm_sub_cons rfl (mm_sub_nil _)))))) ?_
                            exact ih_cd sf (va_up (va_up q 66 ch) 69 f9) bo (⟨hi_cd.1, BIv_c (sp_bo_n (fun z => pI_eq0 c_163 z.1.2)) hi_cd.2⟩)
                        · omega
                      · intro u9 h_u9 ih_u9 
                        show mm_Ru 3 (13, 8, false, prog_14_method_58_code, some .boolean) 140 [(7, .int (nI u9)), (6, .int (pI (sp_kept io (plS sg my wh (co n cd) n) ns nh nx))), (5, .int (OTv 0 sg wh n cd)), (4, .int (nI cd)), (3, .int sf), (2, .int (nI (p5 n))), (0, .ref 100), (1, .int (nI 0))] [] (rf_mk M (va_up (va_up io 71 (nI n)) 72 bo) (sW (bkS sg my wh (co n cd) n u9) (va_up (va_up q 66 ch) 69 f9))) (fun r9 => ∃ (q : Nat → Nat → Int32), ∃ (bo : Int32), ∃ (sf : Int32), (WHq io sg cm w nx q n wh ∧ BIv 0 (sp_best 0 io sg my wh n ns nh nx (p5 n)) sg wh n q bo sf) ∧ r9 = ((some (.int sf), rf_mk M (va_up (va_up io 71 (nI n)) 72 bo) (sW sg q))))
                        refine r_iload rfl dc_14_58_140 ?_
                        refine r_aload_n rfl dc_14_58_142 ?_
                        refine q_get (v := .int (nI n)) rx_353 hM (congrArg (fun z => some (Value.int z)) (rfl)) dc_14_58_143 ?_
                        refine r_ncge (t := 161) (by omega) (by omega) (by decide) dc_14_58_146 (fun c_146 => ?_) (fun c_146 => ?_)
                        · omega
                        · skip
                          refine r_aload_n rfl dc_14_58_149 ?_
                          refine r_iload rfl dc_14_58_150 ?_
                          refine q_callv (as := [.int (nI u9)]) (rest := []) (M1 := rf_mk M (va_up (va_up io 71 (nI n)) 72 bo) (sW (bkS sg my wh (co n cd) n (u9 + 1)) (va_up (va_up q 66 ch) 69 f9))) iv_13_v378 na_1_243 o_243 hM rfl (show (0 : Nat) ≤ 8 by decide) dc_14_58_152 (mm_Ev_up (by decide : 1 ≤ 3) (c_backS M hM (va_up (va_up io 71 (nI n)) 72 bo) sg rfl hn7 hwh (my := my) (q := va_up (va_up q 66 ch) 69 f9) hq (co n cd) u9 h_u9 (hi_cd.1 u9 h_u9).2.1 (hi_cd.1 u9 h_u9).2.2.1 (hi_cd.1 u9 h_u9).2.2.2.1)) ?_
                          refine r_iinc (x := nI u9) (v := nI (u9 + 1)) (ls' := [(7, .int (nI (u9 + 1))), (6, .int (pI (sp_kept io (plS sg my wh (co n cd) n) ns nh nx))), (5, .int (OTv 0 sg wh n cd)), (4, .int (nI cd)), (3, .int sf), (2, .int (nI (p5 n))), (0, .ref 100), (1, .int (nI 0))]) rfl (nI_1 _) (by decide) rfl dc_14_58_155 ?_
                          refine r_goto (t := 140) (by decide) dc_14_58_158 ?_
                          exact ih_u9
                    · omega
                  · intro g h_g ih_g 
                    show mm_Ru 3 (13, 8, false, prog_14_method_58_code, some .boolean) 103 [(6, .int (nI g)), (5, .int (OTv 0 sg wh n cd)), (4, .int (nI cd)), (3, .int sf), (2, .int (nI (p5 n))), (0, .ref 100), (1, .int (nI 0))] [] (rf_mk M (va_up (va_up io 71 (nI n)) 72 bo) (sW (plS sg my wh (co n cd) g) (va_up (va_up q 66 ch) 69 f9))) (fun r9 => ∃ (q : Nat → Nat → Int32), ∃ (bo : Int32), ∃ (sf : Int32), (WHq io sg cm w nx q n wh ∧ BIv 0 (sp_best 0 io sg my wh n ns nh nx (p5 n)) sg wh n q bo sf) ∧ r9 = ((some (.int sf), rf_mk M (va_up (va_up io 71 (nI n)) 72 bo) (sW sg q))))
                    refine r_iload rfl dc_14_58_103 ?_
                    refine r_aload_n rfl dc_14_58_105 ?_
                    refine q_get (v := .int (nI n)) rx_353 hM (congrArg (fun z => some (Value.int z)) (rfl)) dc_14_58_106 ?_
                    refine r_ncge (t := 131) (by omega) (by omega) (by decide) dc_14_58_109 (fun c_109 => ?_) (fun c_109 => ?_)
                    · omega
                    · skip
                      refine r_aload_n rfl dc_14_58_112 ?_
                      refine r_iload rfl dc_14_58_113 ?_
                      refine r_aload_n rfl dc_14_58_115 ?_
                      refine q_get (v := .ref 148) rx_153 hM rfl dc_14_58_116 ?_
                      refine r_iload rfl dc_14_58_119 ?_
                      refine q_ild (e := g) (v := nI (co n cd g)) (by decide) (by decide) hM rfl (show g < 7 by omega) (by omega) (hc g h_g) dc_14_58_121 ?_
                      refine q_callv (as := [.int (nI g), .int (nI (co n cd g))]) (rest := []) (M1 := rf_mk M (va_up (va_up io 71 (nI n)) 72 bo) (sW (plS sg my wh (co n cd) (g + 1)) (va_up (va_up q 66 ch) 69 f9))) iv_13_v375 na_1_242 o_242 hM rfl (show (0 : Nat) ≤ 8 by decide) dc_14_58_122 (mm_Ev_up (by decide : 1 ≤ 3) (c_goesS M hM (va_up (va_up io 71 (nI n)) 72 bo) sg rfl hn7 hwh (my := my) (q := va_up (va_up q 66 ch) 69 f9) hq (co n cd) g h_g (hco4 g h_g) (fun z => (hval g h_g).elim (fun y => absurd y z) (fun y => hmy g h_g _ y.1)))) ?_
                      refine r_iinc (x := nI g) (v := nI (g + 1)) (ls' := [(6, .int (nI (g + 1))), (5, .int (OTv 0 sg wh n cd)), (4, .int (nI cd)), (3, .int sf), (2, .int (nI (p5 n))), (0, .ref 100), (1, .int (nI 0))]) rfl (nI_1 _) (by decide) rfl dc_14_58_125 ?_
                      refine r_goto (t := 103) (by decide) dc_14_58_128 ?_
                      exact ih_g
                refine r_iload_n rfl dc_14_58_68 ?_
                refine r_ifeq (t := 100) (by decide) dc_14_58_69 (fun c_69 => ?_) (fun c_69 => ?_)
                · skip
                  exact htail (fun b z => absurd ((BIv_0 hi_cd.2 c_69).symm.trans z) (by intro y; cases y))
                · obtain ⟨b, hb, hbest, hbo, hbs⟩ := BIv_1 hi_cd.2 c_69
                  refine r_iload rfl dc_14_58_72 ?_
                  refine r_aload_n rfl dc_14_58_74 ?_
                  refine q_get (v := .int bo) rx_369 hM rfl dc_14_58_75 ?_
                  refine r_icgt (t := 238) (by decide) dc_14_58_78 (fun c_78 => ?_) (fun c_78 => ?_)
                  · skip
                    refine r_iinc (x := nI cd) (v := nI (cd + 1)) (ls' := [(4, .int (nI (cd + 1))), (5, .int (OTv 0 sg wh n cd)), (3, .int sf), (2, .int (nI (p5 n))), (0, .ref 100), (1, .int (nI 0))]) rfl (nI_1 _) (by decide) rfl dc_14_58_238 ?_
                    refine r_goto (t := 32) (by decide) dc_14_58_241 ?_
                    refine r_ls [(4, .int (nI (cd + 1))), (3, .int sf), (2, .int (nI (p5 n))), (0, .ref 100), (1, .int (nI 0))] (mm_ndk_of [4, 3, 2, 0, 1] rfl (by decide)) (mm_sub_cons rfl (mm_sub_cons rfl (mm_sub_cons rfl (mm_sub_cons rfl (mm_sub_cons rfl (mm_sub_nil _)))))) ?_
                    exact ih_cd sf (va_up (va_up q 66 ch) 69 f9) bo (⟨hi_cd.1, BIv_c (sp_bo_n (fun z => (z.2 b hb).1 (hbo ▸ c_78))) hi_cd.2⟩)
                  · skip
                    refine r_iload rfl dc_14_58_81 ?_
                    refine r_aload_n rfl dc_14_58_83 ?_
                    refine q_get (v := .int bo) rx_369 hM rfl dc_14_58_84 ?_
                    refine r_icne (t := 100) (by decide) dc_14_58_87 (fun c_87 => ?_) (fun c_87 => ?_)
                    · skip
                      exact htail (fun b2 z => (by cases hb.symm.trans z; exact ⟨hbo ▸ c_78, fun y => absurd (y.trans hbo.symm) c_87⟩))
                    · skip
                      refine r_aload_n rfl dc_14_58_90 ?_
                      refine q_calli (as := []) (rest := []) (v := .int (pI (lexgt (fun k => ct (co n cd) k n) (fun k => ct (co n b) k n)))) (M1 := rf_mk M (va_up (va_up io 71 (nI n)) 72 bo) (sW sg (va_up (va_up q 66 ch) 69 f9))) iv_13_v372 na_1_241 o_241 hM rfl (show (0 : Nat) ≤ 8 by decide) dc_14_58_91 (mm_Ev_up (by decide : 1 ≤ 3) (c_isFairer M hM (va_up (va_up io 71 (nI n)) 72 bo) sg (va_up (va_up q 66 ch) 69 f9) (fun k => ct (co n cd) k n) (fun k => ct (co n b) k n) hf9 hbs (fun k _ => ⟨Nat.le_trans (ct_le _ _ _) hn7, Nat.le_trans (ct_le _ _ _) hn7⟩))) ?_
                      refine r_ifne (t := 100) (by decide) dc_14_58_94 (fun c_94 => ?_) (fun c_94 => ?_)
                      · skip
                        exact htail (fun b2 z => (by cases hb.symm.trans z; exact ⟨hbo ▸ c_78, fun _ => pI_ne c_94⟩))
                      · skip
                        refine r_goto (t := 238) (by decide) dc_14_58_97 ?_
                        refine r_iinc (x := nI cd) (v := nI (cd + 1)) (ls' := [(4, .int (nI (cd + 1))), (5, .int (OTv 0 sg wh n cd)), (3, .int sf), (2, .int (nI (p5 n))), (0, .ref 100), (1, .int (nI 0))]) rfl (nI_1 _) (by decide) rfl dc_14_58_238 ?_
                        refine r_goto (t := 32) (by decide) dc_14_58_241 ?_
                        refine r_ls [(4, .int (nI (cd + 1))), (3, .int sf), (2, .int (nI (p5 n))), (0, .ref 100), (1, .int (nI 0))] (mm_ndk_of [4, 3, 2, 0, 1] rfl (by decide)) (mm_sub_cons rfl (mm_sub_cons rfl (mm_sub_cons rfl (mm_sub_cons rfl (mm_sub_cons rfl (mm_sub_nil _)))))) ?_
                        exact ih_cd sf (va_up (va_up q 66 ch) 69 f9) bo (⟨hi_cd.1, BIv_c (sp_bo_n (fun z => pI_eq0 c_94 ((z.2 b hb).2 (c_87.trans hbo)))) hi_cd.2⟩)
              · exact absurd c_51 (by decide)
            · skip
              refine r_goto (t := 238) (by decide) dc_14_58_47 ?_
              refine r_iinc (x := nI cd) (v := nI (cd + 1)) (ls' := [(4, .int (nI (cd + 1))), (3, .int sf), (2, .int (nI (p5 n))), (0, .ref 100), (1, .int (nI 0))]) rfl (nI_1 _) (by decide) rfl dc_14_58_238 ?_
              refine r_goto (t := 32) (by decide) dc_14_58_241 ?_
              exact ih_cd sf (va_up q 66 ch) bo (⟨hi_cd.1, BIv_c (sp_bo_n (fun z => pI_eq0 c_44 z.1.1)) hi_cd.2⟩)
      · omega
    · intro k h_k ih_k 
      show mm_Ru 3 (13, 8, false, prog_14_method_58_code, some .boolean) 9 [(3, .int (nI k)), (2, .int (nI (p5 k))), (0, .ref 100), (1, .int (nI 0))] [] (rf_mk M (va_up io 71 (nI n)) (sW sg q0)) (fun r9 => ∃ (q : Nat → Nat → Int32), ∃ (bo : Int32), ∃ (sf : Int32), (WHq io sg cm w nx q n wh ∧ BIv 0 (sp_best 0 io sg my wh n ns nh nx (p5 n)) sg wh n q bo sf) ∧ r9 = ((some (.int sf), rf_mk M (va_up (va_up io 71 (nI n)) 72 bo) (sW sg q))))
      refine r_iload_n rfl dc_14_58_9 ?_
      refine r_aload_n rfl dc_14_58_10 ?_
      refine q_get (v := .int (nI n)) rx_353 hM (congrArg (fun z => some (Value.int z)) (rfl)) dc_14_58_11 ?_
      refine r_ncge (t := 27) (by omega) (by omega) (by decide) dc_14_58_14 (fun c_14 => ?_) (fun c_14 => ?_)
      · omega
      · skip
        refine r_iconst (v := nI 5) (by decide) dc_14_58_17 ?_
        refine r_iload_n rfl dc_14_58_18 ?_
        refine r_imul (v := nI (5 * (p5 k))) (pk_mul _ _) dc_14_58_19 ?_
        refine r_istore_n (ls' := [(2, .int (nI (5 * (p5 k)))), (3, .int (nI k)), (0, .ref 100), (1, .int (nI 0))]) (by decide) rfl dc_14_58_20 ?_
        refine r_iinc (x := nI k) (v := nI (k + 1)) (ls' := [(3, .int (nI (k + 1))), (2, .int (nI (5 * (p5 k)))), (0, .ref 100), (1, .int (nI 0))]) rfl (nI_1 _) (by decide) rfl dc_14_58_21 ?_
        refine r_goto (t := 9) (by decide) dc_14_58_24 ?_
        exact ih_k
  obtain ⟨z9, ⟨q, bo, sf, p9, e9⟩, h9⟩ := hq9
  subst e9
  exact ⟨q, bo, sf, p9, h9⟩
set_option maxHeartbeats 4000000 in
theorem c_plans_1 (M : mH) (hM : 157 ≤ M.1) (io : Nat → Int32) (sg : Nat → Nat → Int32) (ns : Nat) (h5 : io 5 = nI ns) (hns : ns ≤ 16) (nh : Nat) (h3 : io 3 = nI nh) (hnh : nh ≤ 8) (nx : Nat) (h4 : io 4 = nI nx) (hnx : nx ≤ 12) (cm : Nat → Nat) (w : Nat → Nat → Nat) (hC : CDok sg nx cm w) (hR : RI1 sg ns nh) (n : Nat) (wh : Nat → Nat) (my : Nat → Nat → Int32) (hcn : (cnA (sp_sel sg 1) ns).1 = n) (hcw : (cnA (sp_sel sg 1) ns).2 = wh) (hmy0 : my = (fun s k => sp_mby io sg cm w nx s (sg 60 (4 * s + k)))) : ∃ (q : Nat → Nat → Int32), ∃ (bo : Int32), ∃ (sf : Int32), (WHq io sg cm w nx q n wh ∧ BIv 1 (sp_best 1 io sg my wh n ns nh nx (p5 n)) sg wh n q bo sf) ∧ mm_Ev 4 236 [.ref 100, .int (nI 1)] (rf_mk M io sg) ((some (.int sf), rf_mk M (va_up (va_up io 71 (nI n)) 72 bo) (sW sg q))) := by
  have hq9 : ∃ z, (fun r9 => ∃ (q : Nat → Nat → Int32), ∃ (bo : Int32), ∃ (sf : Int32), (WHq io sg cm w nx q n wh ∧ BIv 1 (sp_best 1 io sg my wh n ns nh nx (p5 n)) sg wh n q bo sf) ∧ r9 = ((some (.int sf), rf_mk M (va_up (va_up io 71 (nI n)) 72 bo) (sW sg q)))) z ∧ mm_Ev 4 236 [.ref 100, .int (nI 1)] (rf_mk M io sg) z := by
    refine r_evQ (by decide +kernel) (show (2 : Nat) ≤ mm_nL 236 by decide +kernel) ?_
    have hn7 : n ≤ 7 := hcn ▸ cnA_le _ _
    have hwh : ∀ i, i < n → wh i < 16 := fun i hi => by have := cnA_lt (sp_sel sg 1) ns i (hcn ▸ hi); rw [hcw] at this; omega
    have h59 : ∀ i, i < n → inN (sg 59 (wh i)) 4 := fun i hi => (hR.2 _ (by have := cnA_lt (sp_sel sg 1) ns i (hcn ▸ hi); rw [hcw] at this; exact this)).2.2.2.2.1
    show mm_Ru 3 (13, 8, false, prog_14_method_58_code, some .boolean) 0 [(0, .ref 100), (1, .int (nI 1))] [] (rf_mk M io sg) (fun r9 => ∃ (q : Nat → Nat → Int32), ∃ (bo : Int32), ∃ (sf : Int32), (WHq io sg cm w nx q n wh ∧ BIv 1 (sp_best 1 io sg my wh n ns nh nx (p5 n)) sg wh n q bo sf) ∧ r9 = ((some (.int sf), rf_mk M (va_up (va_up io 71 (nI n)) 72 bo) (sW sg q))))
    refine r_aload_n rfl dc_14_58_0 ?_
    refine r_iload_n rfl dc_14_58_1 ?_
    obtain ⟨q0, hWH, hbeg⟩ := c_begins M hM io sg ns h5 hns nx h4 hnx nh hnh cm w hC hR 1 (by decide)
    rw [hcn] at hbeg hWH
    rw [hcw] at hWH
    have h5l := p5_le n hn7
    refine q_callv (as := [.int (nI 1)]) (rest := []) (M1 := rf_mk M (va_up io 71 (nI n)) (sW sg q0)) iv_13_v356 na_1_237 o_237 hM rfl (show (0 : Nat) ≤ 8 by decide) dc_14_58_2 (hbeg) ?_
    refine r_iconst (v := nI 1) (by decide) dc_14_58_5 ?_
    refine r_istore_n (ls' := [(2, .int (nI 1)), (0, .ref 100), (1, .int (nI 1))]) (by decide) rfl dc_14_58_6 ?_
    refine r_iconst (v := nI 0) (by decide) dc_14_58_7 ?_
    refine r_istore_n (ls' := [(3, .int (nI 0)), (2, .int (nI 1)), (0, .ref 100), (1, .int (nI 1))]) (by decide) rfl dc_14_58_8 ?_
    refine mm_cnt (P := fun k => mm_Ru 3 (13, 8, false, prog_14_method_58_code, some .boolean) 9 [(3, .int (nI k)), (2, .int (nI (p5 k))), (0, .ref 100), (1, .int (nI 1))] [] (rf_mk M (va_up io 71 (nI n)) (sW sg q0)) (fun r9 => ∃ (q : Nat → Nat → Int32), ∃ (bo : Int32), ∃ (sf : Int32), (WHq io sg cm w nx q n wh ∧ BIv 1 (sp_best 1 io sg my wh n ns nh nx (p5 n)) sg wh n q bo sf) ∧ r9 = ((some (.int sf), rf_mk M (va_up (va_up io 71 (nI n)) 72 bo) (sW sg q))))) n ?_ ?_ 0 (by omega)
    · show mm_Ru 3 (13, 8, false, prog_14_method_58_code, some .boolean) 9 [(3, .int (nI n)), (2, .int (nI (p5 n))), (0, .ref 100), (1, .int (nI 1))] [] (rf_mk M (va_up io 71 (nI n)) (sW sg q0)) (fun r9 => ∃ (q : Nat → Nat → Int32), ∃ (bo : Int32), ∃ (sf : Int32), (WHq io sg cm w nx q n wh ∧ BIv 1 (sp_best 1 io sg my wh n ns nh nx (p5 n)) sg wh n q bo sf) ∧ r9 = ((some (.int sf), rf_mk M (va_up (va_up io 71 (nI n)) 72 bo) (sW sg q))))
      refine r_iload_n rfl dc_14_58_9 ?_
      refine r_aload_n rfl dc_14_58_10 ?_
      refine q_get (v := .int (nI n)) rx_353 hM (congrArg (fun z => some (Value.int z)) (rfl)) dc_14_58_11 ?_
      refine r_ncge (t := 27) (by omega) (by omega) (by decide) dc_14_58_14 (fun c_14 => ?_) (fun c_14 => ?_)
      · skip
        refine r_iconst (v := nI 0) (by decide) dc_14_58_27 ?_
        refine r_istore_n (ls' := [(3, .int (nI 0)), (2, .int (nI (p5 n))), (0, .ref 100), (1, .int (nI 1))]) (by decide) rfl dc_14_58_28 ?_
        refine r_iconst (v := nI 0) (by decide) dc_14_58_29 ?_
        refine r_istore (ls' := [(4, .int (nI 0)), (3, .int (nI 0)), (2, .int (nI (p5 n))), (0, .ref 100), (1, .int (nI 1))]) (by decide) rfl dc_14_58_30 ?_
        rw [show va_up io 71 (nI n) = va_up (va_up io 71 (nI n)) 72 (io 72) from (va_up_id (va_up io 71 (nI n)) 72).symm]
        refine mm_cnt (P := fun cd => ∀ (sf : Int32), ∀ (q : Nat → Nat → Int32), ∀ (bo : Int32), (WHq io sg cm w nx q n wh ∧ BIv 1 (sp_best 1 io sg my wh n ns nh nx cd) sg wh n q bo sf) → mm_Ru 3 (13, 8, false, prog_14_method_58_code, some .boolean) 32 [(4, .int (nI cd)), (3, .int sf), (2, .int (nI (p5 n))), (0, .ref 100), (1, .int (nI 1))] [] (rf_mk M (va_up (va_up io 71 (nI n)) 72 bo) (sW sg q)) (fun r9 => ∃ (q : Nat → Nat → Int32), ∃ (bo : Int32), ∃ (sf : Int32), (WHq io sg cm w nx q n wh ∧ BIv 1 (sp_best 1 io sg my wh n ns nh nx (p5 n)) sg wh n q bo sf) ∧ r9 = ((some (.int sf), rf_mk M (va_up (va_up io 71 (nI n)) 72 bo) (sW sg q))))) (p5 n) ?_ ?_ 0 (by omega) (nI 0) q0 (io 72) (⟨hWH, Or.inl ⟨rfl, rfl⟩⟩)
        · intro sf q bo hi_cd
          show mm_Ru 3 (13, 8, false, prog_14_method_58_code, some .boolean) 32 [(4, .int (nI (p5 n))), (3, .int sf), (2, .int (nI (p5 n))), (0, .ref 100), (1, .int (nI 1))] [] (rf_mk M (va_up (va_up io 71 (nI n)) 72 bo) (sW sg q)) (fun r9 => ∃ (q : Nat → Nat → Int32), ∃ (bo : Int32), ∃ (sf : Int32), (WHq io sg cm w nx q n wh ∧ BIv 1 (sp_best 1 io sg my wh n ns nh nx (p5 n)) sg wh n q bo sf) ∧ r9 = ((some (.int sf), rf_mk M (va_up (va_up io 71 (nI n)) 72 bo) (sW sg q))))
          refine r_iload rfl dc_14_58_32 ?_
          refine r_iload_n rfl dc_14_58_34 ?_
          refine r_ncge (t := 244) (by omega) (by omega) (by decide) dc_14_58_35 (fun c_35 => ?_) (fun c_35 => ?_)
          · skip
            refine r_iload_n rfl dc_14_58_244 ?_
            refine r_zret rfl (BIv_z hi_cd.2) dc_14_58_245 ?_
            exact ⟨q, bo, sf, hi_cd, rfl⟩
          · omega
        · intro cd h_cd ih_cd sf q bo hi_cd
          have hq : ∀ i, i < n → q 62 i = nI (wh i) := fun i hi => (hi_cd.1 i hi).1
          have hmy : ∀ i, i < n → ∀ k, k < tN (sg 59 (wh i)) → q 68 (4 * wh i + k) = my (wh i) k := fun i hi k hk => by rw [hmy0]; exact (hi_cd.1 i hi).2.2.2.2 k hk
          have hco4 : ∀ i, i < n → co n cd i ≤ 4 := fun i _ => Nat.le_of_lt_succ (dgt_lt _ _)
          show mm_Ru 3 (13, 8, false, prog_14_method_58_code, some .boolean) 32 [(4, .int (nI cd)), (3, .int sf), (2, .int (nI (p5 n))), (0, .ref 100), (1, .int (nI 1))] [] (rf_mk M (va_up (va_up io 71 (nI n)) 72 bo) (sW sg q)) (fun r9 => ∃ (q : Nat → Nat → Int32), ∃ (bo : Int32), ∃ (sf : Int32), (WHq io sg cm w nx q n wh ∧ BIv 1 (sp_best 1 io sg my wh n ns nh nx (p5 n)) sg wh n q bo sf) ∧ r9 = ((some (.int sf), rf_mk M (va_up (va_up io 71 (nI n)) 72 bo) (sW sg q))))
          refine r_iload rfl dc_14_58_32 ?_
          refine r_iload_n rfl dc_14_58_34 ?_
          refine r_ncge (t := 244) (by omega) (by omega) (by decide) dc_14_58_35 (fun c_35 => ?_) (fun c_35 => ?_)
          · omega
          · skip
            refine r_aload_n rfl dc_14_58_38 ?_
            refine r_iload rfl dc_14_58_39 ?_
            obtain ⟨ch, hch, hip⟩ := c_isPlan M hM (va_up (va_up io 71 (nI n)) 72 bo) sg n rfl hn7 wh hwh q my hq hmy h59 cd (by omega)
            refine q_calli (as := [.int (nI cd)]) (rest := []) (v := .int (pI (vdC sg my wh n cd))) (M1 := rf_mk M (va_up (va_up io 71 (nI n)) 72 bo) (sW sg (va_up q 66 ch))) iv_13_v360 na_1_238 o_238 hM rfl (show (0 : Nat) ≤ 8 by decide) dc_14_58_41 (mm_Ev_up (by decide : 1 ≤ 3) (hip)) ?_
            refine r_ifne (t := 50) (by decide) dc_14_58_44 (fun c_44 => ?_) (fun c_44 => ?_)
            · have hval := pI_ne c_44
              have hc := hch hval
              refine r_iload_n rfl dc_14_58_50 ?_
              refine r_ifeq (t := 61) (by decide) dc_14_58_51 (fun c_51 => ?_) (fun c_51 => ?_)
              · exact absurd c_51 (by decide)
              · skip
                refine r_aload_n rfl dc_14_58_54 ?_
                have hot : sp_ot sg wh (co n cd) (q 64) n = OTv 1 sg wh n cd := sp_sum_congr (fun i hi => by rw [(hi_cd.1 i hi).2.2.1])
                refine q_calli (as := []) (rest := []) (v := .int (OTv 1 sg wh n cd)) (M1 := rf_mk M (va_up (va_up io 71 (nI n)) 72 bo) (sW sg (va_up q 66 ch))) iv_13_v363 na_1_239 o_239 hM rfl (show (0 : Nat) ≤ 8 by decide) dc_14_58_55 (mm_Ev_up (by decide : 1 ≤ 3) (hot ▸ c_others M hM (va_up (va_up io 71 (nI n)) 72 bo) sg n rfl hn7 wh hwh (va_up q 66 ch) my hq (co n cd) hc hco4)) ?_
                refine r_goto (t := 62) (by decide) dc_14_58_58 ?_
                refine r_istore (ls' := [(5, .int (OTv 1 sg wh n cd)), (4, .int (nI cd)), (3, .int sf), (2, .int (nI (p5 n))), (0, .ref 100), (1, .int (nI 1))]) (by decide) rfl dc_14_58_62 ?_
                refine r_aload_n rfl dc_14_58_64 ?_
                obtain ⟨f9, hf9, hse⟩ := c_serves M hM (va_up (va_up io 71 (nI n)) 72 bo) sg n rfl hn7 wh hwh (va_up q 66 ch) my hq (co n cd) hc hco4
                refine q_callv (as := []) (rest := []) (M1 := rf_mk M (va_up (va_up io 71 (nI n)) 72 bo) (sW sg (va_up (va_up q 66 ch) 69 f9))) iv_13_v366 na_1_240 o_240 hM rfl (show (0 : Nat) ≤ 8 by decide) dc_14_58_65 (mm_Ev_up (by decide : 1 ≤ 3) (hse)) ?_
                have htail : (∀ b, (sp_best 1 io sg my wh n ns nh nx cd) = some b → BTp 1 sg wh n cd b) → mm_Ru 3 (13, 8, false, prog_14_method_58_code, some .boolean) 100 [(5, .int (OTv 1 sg wh n cd)), (4, .int (nI cd)), (3, .int sf), (2, .int (nI (p5 n))), (0, .ref 100), (1, .int (nI 1))] [] (rf_mk M (va_up (va_up io 71 (nI n)) 72 bo) (sW sg (va_up (va_up q 66 ch) 69 f9))) (fun r9 => ∃ (q : Nat → Nat → Int32), ∃ (bo : Int32), ∃ (sf : Int32), (WHq io sg cm w nx q n wh ∧ BIv 1 (sp_best 1 io sg my wh n ns nh nx (p5 n)) sg wh n q bo sf) ∧ r9 = ((some (.int sf), rf_mk M (va_up (va_up io 71 (nI n)) 72 bo) (sW sg q)))) := by
                  intro hbt
                  refine r_iconst (v := nI 0) (by decide) dc_14_58_100 ?_
                  refine r_istore (ls' := [(6, .int (nI 0)), (5, .int (OTv 1 sg wh n cd)), (4, .int (nI cd)), (3, .int sf), (2, .int (nI (p5 n))), (0, .ref 100), (1, .int (nI 1))]) (by decide) rfl dc_14_58_101 ?_
                  rw [show sW sg (va_up (va_up q 66 ch) 69 f9) = sW (plS sg my wh (co n cd) 0) (va_up (va_up q 66 ch) 69 f9) from by rw [plS_0]]
                  refine mm_cnt (P := fun g => mm_Ru 3 (13, 8, false, prog_14_method_58_code, some .boolean) 103 [(6, .int (nI g)), (5, .int (OTv 1 sg wh n cd)), (4, .int (nI cd)), (3, .int sf), (2, .int (nI (p5 n))), (0, .ref 100), (1, .int (nI 1))] [] (rf_mk M (va_up (va_up io 71 (nI n)) 72 bo) (sW (plS sg my wh (co n cd) g) (va_up (va_up q 66 ch) 69 f9))) (fun r9 => ∃ (q : Nat → Nat → Int32), ∃ (bo : Int32), ∃ (sf : Int32), (WHq io sg cm w nx q n wh ∧ BIv 1 (sp_best 1 io sg my wh n ns nh nx (p5 n)) sg wh n q bo sf) ∧ r9 = ((some (.int sf), rf_mk M (va_up (va_up io 71 (nI n)) 72 bo) (sW sg q))))) n ?_ ?_ 0 (by omega)
                  · show mm_Ru 3 (13, 8, false, prog_14_method_58_code, some .boolean) 103 [(6, .int (nI n)), (5, .int (OTv 1 sg wh n cd)), (4, .int (nI cd)), (3, .int sf), (2, .int (nI (p5 n))), (0, .ref 100), (1, .int (nI 1))] [] (rf_mk M (va_up (va_up io 71 (nI n)) 72 bo) (sW (plS sg my wh (co n cd) n) (va_up (va_up q 66 ch) 69 f9))) (fun r9 => ∃ (q : Nat → Nat → Int32), ∃ (bo : Int32), ∃ (sf : Int32), (WHq io sg cm w nx q n wh ∧ BIv 1 (sp_best 1 io sg my wh n ns nh nx (p5 n)) sg wh n q bo sf) ∧ r9 = ((some (.int sf), rf_mk M (va_up (va_up io 71 (nI n)) 72 bo) (sW sg q))))
                    refine r_iload rfl dc_14_58_103 ?_
                    refine r_aload_n rfl dc_14_58_105 ?_
                    refine q_get (v := .int (nI n)) rx_353 hM (congrArg (fun z => some (Value.int z)) (rfl)) dc_14_58_106 ?_
                    refine r_ncge (t := 131) (by omega) (by omega) (by decide) dc_14_58_109 (fun c_109 => ?_) (fun c_109 => ?_)
                    · skip
                      refine r_aload_n rfl dc_14_58_131 ?_
                      have hak := c_areKept M hM (va_up (va_up io 71 (nI n)) 72 bo) (sW (plS sg my wh (co n cd) n) (va_up (va_up q 66 ch) 69 f9)) ns h5 hns nh h3 hnh nx h4 hnx
                      rw [kept_W] at hak
                      refine q_calli (as := []) (rest := []) (v := .int (pI (sp_kept io (plS sg my wh (co n cd) n) ns nh nx))) (M1 := rf_mk M (va_up (va_up io 71 (nI n)) 72 bo) (sW (plS sg my wh (co n cd) n) (va_up (va_up q 66 ch) 69 f9))) iv_13_v350 na_1_230 o_230 hM rfl (show (0 : Nat) ≤ 8 by decide) dc_14_58_132 (mm_Ev_up (by decide : 2 ≤ 3) (hak)) ?_
                      refine r_istore (ls' := [(6, .int (pI (sp_kept io (plS sg my wh (co n cd) n) ns nh nx))), (5, .int (OTv 1 sg wh n cd)), (4, .int (nI cd)), (3, .int sf), (2, .int (nI (p5 n))), (0, .ref 100), (1, .int (nI 1))]) (by decide) rfl dc_14_58_135 ?_
                      refine r_iconst (v := nI 0) (by decide) dc_14_58_137 ?_
                      refine r_istore (ls' := [(7, .int (nI 0)), (6, .int (pI (sp_kept io (plS sg my wh (co n cd) n) ns nh nx))), (5, .int (OTv 1 sg wh n cd)), (4, .int (nI cd)), (3, .int sf), (2, .int (nI (p5 n))), (0, .ref 100), (1, .int (nI 1))]) (by decide) rfl dc_14_58_138 ?_
                      refine mm_cnt (P := fun u9 => mm_Ru 3 (13, 8, false, prog_14_method_58_code, some .boolean) 140 [(7, .int (nI u9)), (6, .int (pI (sp_kept io (plS sg my wh (co n cd) n) ns nh nx))), (5, .int (OTv 1 sg wh n cd)), (4, .int (nI cd)), (3, .int sf), (2, .int (nI (p5 n))), (0, .ref 100), (1, .int (nI 1))] [] (rf_mk M (va_up (va_up io 71 (nI n)) 72 bo) (sW (bkS sg my wh (co n cd) n u9) (va_up (va_up q 66 ch) 69 f9))) (fun r9 => ∃ (q : Nat → Nat → Int32), ∃ (bo : Int32), ∃ (sf : Int32), (WHq io sg cm w nx q n wh ∧ BIv 1 (sp_best 1 io sg my wh n ns nh nx (p5 n)) sg wh n q bo sf) ∧ r9 = ((some (.int sf), rf_mk M (va_up (va_up io 71 (nI n)) 72 bo) (sW sg q))))) n ?_ ?_ 0 (by omega)
                      · show mm_Ru 3 (13, 8, false, prog_14_method_58_code, some .boolean) 140 [(7, .int (nI n)), (6, .int (pI (sp_kept io (plS sg my wh (co n cd) n) ns nh nx))), (5, .int (OTv 1 sg wh n cd)), (4, .int (nI cd)), (3, .int sf), (2, .int (nI (p5 n))), (0, .ref 100), (1, .int (nI 1))] [] (rf_mk M (va_up (va_up io 71 (nI n)) 72 bo) (sW (bkS sg my wh (co n cd) n n) (va_up (va_up q 66 ch) 69 f9))) (fun r9 => ∃ (q : Nat → Nat → Int32), ∃ (bo : Int32), ∃ (sf : Int32), (WHq io sg cm w nx q n wh ∧ BIv 1 (sp_best 1 io sg my wh n ns nh nx (p5 n)) sg wh n q bo sf) ∧ r9 = ((some (.int sf), rf_mk M (va_up (va_up io 71 (nI n)) 72 bo) (sW sg q))))
                        refine r_iload rfl dc_14_58_140 ?_
                        refine r_aload_n rfl dc_14_58_142 ?_
                        refine q_get (v := .int (nI n)) rx_353 hM (congrArg (fun z => some (Value.int z)) (rfl)) dc_14_58_143 ?_
                        refine r_ncge (t := 161) (by omega) (by omega) (by decide) dc_14_58_146 (fun c_146 => ?_) (fun c_146 => ?_)
                        · skip
                          rw [bkS_n]
                          refine r_iload rfl dc_14_58_161 ?_
                          refine r_ifne (t := 169) (by decide) dc_14_58_163 (fun c_163 => ?_) (fun c_163 => ?_)
                          · have hkp := pI_ne c_163
                            refine r_iconst (v := nI 1) (by decide) dc_14_58_169 ?_
                            refine r_istore_n (ls' := [(3, .int (nI 1)), (7, .int (nI n)), (6, .int (pI (sp_kept io (plS sg my wh (co n cd) n) ns nh nx))), (5, .int (OTv 1 sg wh n cd)), (4, .int (nI cd)), (2, .int (nI (p5 n))), (0, .ref 100), (1, .int (nI 1))]) (by decide) rfl dc_14_58_170 ?_
                            refine r_aload_n rfl dc_14_58_171 ?_
                            refine r_iload rfl dc_14_58_172 ?_
                            refine q_put rx_369 (by decide +kernel) (by decide +kernel) (by decide) (rs_72 _) hM dc_14_58_174 ?_
                            rw [va_up_up]
                            refine r_iconst (v := nI 0) (by decide) dc_14_58_177 ?_
                            refine r_istore (ls' := [(7, .int (nI 0)), (3, .int (nI 1)), (6, .int (pI (sp_kept io (plS sg my wh (co n cd) n) ns nh nx))), (5, .int (OTv 1 sg wh n cd)), (4, .int (nI cd)), (2, .int (nI (p5 n))), (0, .ref 100), (1, .int (nI 1))]) (by decide) rfl dc_14_58_178 ?_
                            rw [show sW sg (va_up (va_up q 66 ch) 69 f9) = sW sg (va_up (va_up (va_up q 66 ch) 69 f9) 70 (q 70)) from (congrArg (sW sg) (va_up_id (va_up (va_up q 66 ch) 69 f9) 70)).symm]
                            refine r_ls [(7, .int (nI 0)), (5, .int (OTv 1 sg wh n cd)), (4, .int (nI cd)), (3, .int (nI 1)), (2, .int (nI (p5 n))), (0, .ref 100), (1, .int (nI 1))] (mm_ndk_of [7, 5, 4, 3, 2, 0, 1] rfl (by decide)) (mm_sub_cons rfl (mm_sub_cons rfl (mm_sub_cons rfl (mm_sub_cons rfl (mm_sub_cons rfl (mm_sub_cons rfl (mm_sub_cons rfl (mm_sub_nil _)))))))) ?_
                            refine mm_cnt (P := fun j9 => ∀ (r : Nat → Int32), (∀ j, j < j9 → r j = f9 j) → mm_Ru 3 (13, 8, false, prog_14_method_58_code, some .boolean) 180 [(7, .int (nI j9)), (5, .int (OTv 1 sg wh n cd)), (4, .int (nI cd)), (3, .int (nI 1)), (2, .int (nI (p5 n))), (0, .ref 100), (1, .int (nI 1))] [] (rf_mk M (va_up (va_up io 71 (nI n)) 72 (OTv 1 sg wh n cd)) (sW sg (va_up (va_up (va_up q 66 ch) 69 f9) 70 r))) (fun r9 => ∃ (q : Nat → Nat → Int32), ∃ (bo : Int32), ∃ (sf : Int32), (WHq io sg cm w nx q n wh ∧ BIv 1 (sp_best 1 io sg my wh n ns nh nx (p5 n)) sg wh n q bo sf) ∧ r9 = ((some (.int sf), rf_mk M (va_up (va_up io 71 (nI n)) 72 bo) (sW sg q))))) 4 ?_ ?_ 0 (by omega) (q 70) (fun j hj => absurd hj (Nat.not_lt_zero j))
                            · intro r hi_j9
                              show mm_Ru 3 (13, 8, false, prog_14_method_58_code, some .boolean) 180 [(7, .int (nI 4)), (5, .int (OTv 1 sg wh n cd)), (4, .int (nI cd)), (3, .int (nI 1)), (2, .int (nI (p5 n))), (0, .ref 100), (1, .int (nI 1))] [] (rf_mk M (va_up (va_up io 71 (nI n)) 72 (OTv 1 sg wh n cd)) (sW sg (va_up (va_up (va_up q 66 ch) 69 f9) 70 r))) (fun r9 => ∃ (q : Nat → Nat → Int32), ∃ (bo : Int32), ∃ (sf : Int32), (WHq io sg cm w nx q n wh ∧ BIv 1 (sp_best 1 io sg my wh n ns nh nx (p5 n)) sg wh n q bo sf) ∧ r9 = ((some (.int sf), rf_mk M (va_up (va_up io 71 (nI n)) 72 bo) (sW sg q))))
                              refine r_iload rfl dc_14_58_180 ?_
                              refine r_iconst (v := nI 4) (by decide) dc_14_58_182 ?_
                              refine r_ncge (t := 206) (by omega) (by omega) (by decide) dc_14_58_183 (fun c_183 => ?_) (fun c_183 => ?_)
                              · skip
                                refine r_iconst (v := nI 0) (by decide) dc_14_58_206 ?_
                                refine r_istore (ls' := [(7, .int (nI 0)), (5, .int (OTv 1 sg wh n cd)), (4, .int (nI cd)), (3, .int (nI 1)), (2, .int (nI (p5 n))), (0, .ref 100), (1, .int (nI 1))]) (by decide) rfl dc_14_58_207 ?_
                                rw [show sW sg (va_up (va_up (va_up q 66 ch) 69 f9) 70 r) = sW sg (va_up (va_up (va_up (va_up q 66 ch) 69 f9) 70 r) 67 (q 67)) from (congrArg (sW sg) (va_up_id (va_up (va_up (va_up q 66 ch) 69 f9) 70 r) 67)).symm]
                                refine mm_cnt (P := fun k7 => ∀ (r2 : Nat → Int32), (∀ j, j < k7 → r2 j = ch j) → mm_Ru 3 (13, 8, false, prog_14_method_58_code, some .boolean) 209 [(7, .int (nI k7)), (5, .int (OTv 1 sg wh n cd)), (4, .int (nI cd)), (3, .int (nI 1)), (2, .int (nI (p5 n))), (0, .ref 100), (1, .int (nI 1))] [] (rf_mk M (va_up (va_up io 71 (nI n)) 72 (OTv 1 sg wh n cd)) (sW sg (va_up (va_up (va_up (va_up q 66 ch) 69 f9) 70 r) 67 r2))) (fun r9 => ∃ (q : Nat → Nat → Int32), ∃ (bo : Int32), ∃ (sf : Int32), (WHq io sg cm w nx q n wh ∧ BIv 1 (sp_best 1 io sg my wh n ns nh nx (p5 n)) sg wh n q bo sf) ∧ r9 = ((some (.int sf), rf_mk M (va_up (va_up io 71 (nI n)) 72 bo) (sW sg q))))) n ?_ ?_ 0 (by omega) (q 67) (fun j hj => absurd hj (Nat.not_lt_zero j))
                                · intro r2 hi_k7
                                  show mm_Ru 3 (13, 8, false, prog_14_method_58_code, some .boolean) 209 [(7, .int (nI n)), (5, .int (OTv 1 sg wh n cd)), (4, .int (nI cd)), (3, .int (nI 1)), (2, .int (nI (p5 n))), (0, .ref 100), (1, .int (nI 1))] [] (rf_mk M (va_up (va_up io 71 (nI n)) 72 (OTv 1 sg wh n cd)) (sW sg (va_up (va_up (va_up (va_up q 66 ch) 69 f9) 70 r) 67 r2))) (fun r9 => ∃ (q : Nat → Nat → Int32), ∃ (bo : Int32), ∃ (sf : Int32), (WHq io sg cm w nx q n wh ∧ BIv 1 (sp_best 1 io sg my wh n ns nh nx (p5 n)) sg wh n q bo sf) ∧ r9 = ((some (.int sf), rf_mk M (va_up (va_up io 71 (nI n)) 72 bo) (sW sg q))))
                                  refine r_iload rfl dc_14_58_209 ?_
                                  refine r_aload_n rfl dc_14_58_211 ?_
                                  refine q_get (v := .int (nI n)) rx_353 hM (congrArg (fun z => some (Value.int z)) (rfl)) dc_14_58_212 ?_
                                  refine r_ncge (t := 238) (by omega) (by omega) (by decide) dc_14_58_215 (fun c_215 => ?_) (fun c_215 => ?_)
                                  · skip
                                    refine r_iinc (x := nI cd) (v := nI (cd + 1)) (ls' := [(4, .int (nI (cd + 1))), (7, .int (nI n)), (5, .int (OTv 1 sg wh n cd)), (3, .int (nI 1)), (2, .int (nI (p5 n))), (0, .ref 100), (1, .int (nI 1))]) rfl (nI_1 _) (by decide) rfl dc_14_58_238 ?_
                                    refine r_goto (t := 32) (by decide) dc_14_58_241 ?_
                                    refine r_ls [(4, .int (nI (cd + 1))), (3, .int (nI 1)), (2, .int (nI (p5 n))), (0, .ref 100), (1, .int (nI 1))] (mm_ndk_of [4, 3, 2, 0, 1] rfl (by decide)) (mm_sub_cons rfl (mm_sub_cons rfl (mm_sub_cons rfl (mm_sub_cons rfl (mm_sub_cons rfl (mm_sub_nil _)))))) ?_
                                    exact ih_cd (nI 1) (va_up (va_up (va_up (va_up q 66 ch) 69 f9) 70 r) 67 r2) (OTv 1 sg wh n cd) (⟨hi_cd.1, Or.inr ⟨rfl, cd, sp_bo_p ⟨hval, hkp⟩ hbt, fun i hi => (hi_k7 i hi).trans (hc i hi), rfl, fun k hk => (hi_j9 k hk).trans (hf9 k hk)⟩⟩)
                                  · omega
                                · intro k7 h_k7 ih_k7 r2 hi_k7
                                  show mm_Ru 3 (13, 8, false, prog_14_method_58_code, some .boolean) 209 [(7, .int (nI k7)), (5, .int (OTv 1 sg wh n cd)), (4, .int (nI cd)), (3, .int (nI 1)), (2, .int (nI (p5 n))), (0, .ref 100), (1, .int (nI 1))] [] (rf_mk M (va_up (va_up io 71 (nI n)) 72 (OTv 1 sg wh n cd)) (sW sg (va_up (va_up (va_up (va_up q 66 ch) 69 f9) 70 r) 67 r2))) (fun r9 => ∃ (q : Nat → Nat → Int32), ∃ (bo : Int32), ∃ (sf : Int32), (WHq io sg cm w nx q n wh ∧ BIv 1 (sp_best 1 io sg my wh n ns nh nx (p5 n)) sg wh n q bo sf) ∧ r9 = ((some (.int sf), rf_mk M (va_up (va_up io 71 (nI n)) 72 bo) (sW sg q))))
                                  refine r_iload rfl dc_14_58_209 ?_
                                  refine r_aload_n rfl dc_14_58_211 ?_
                                  refine q_get (v := .int (nI n)) rx_353 hM (congrArg (fun z => some (Value.int z)) (rfl)) dc_14_58_212 ?_
                                  refine r_ncge (t := 238) (by omega) (by omega) (by decide) dc_14_58_215 (fun c_215 => ?_) (fun c_215 => ?_)
                                  · omega
                                  · skip
                                    refine r_aload_n rfl dc_14_58_218 ?_
                                    refine q_get (v := .ref 149) rx_156 hM rfl dc_14_58_219 ?_
                                    refine r_iload rfl dc_14_58_222 ?_
                                    refine r_aload_n rfl dc_14_58_224 ?_
                                    refine q_get (v := .ref 148) rx_153 hM rfl dc_14_58_225 ?_
                                    refine r_iload rfl dc_14_58_228 ?_
                                    refine q_ild (e := k7) (v := ch k7) (by decide) (by decide) hM rfl (show k7 < 7 by omega) (by omega) (rfl) dc_14_58_230 ?_
                                    refine q_ist (e := k7) (k := 67) (by decide) (by decide) hM rfl rfl (show k7 < 7 by omega) (by omega) dc_14_58_231 ?_
                                    rw [sW_s 67 _ rfl, va_up_up]
                                    refine r_iinc (x := nI k7) (v := nI (k7 + 1)) (ls' := [(7, .int (nI (k7 + 1))), (5, .int (OTv 1 sg wh n cd)), (4, .int (nI cd)), (3, .int (nI 1)), (2, .int (nI (p5 n))), (0, .ref 100), (1, .int (nI 1))]) rfl (nI_1 _) (by decide) rfl dc_14_58_232 ?_
                                    refine r_goto (t := 209) (by decide) dc_14_58_235 ?_
                                    exact ih_k7 (upd r2 k7 (ch k7)) (fun j hj => if e : j = k7 then e ▸ if_pos rfl else (if_neg e).trans (hi_k7 j (by omega)))
                              · omega
                            · intro j9 h_j9 ih_j9 r hi_j9
                              show mm_Ru 3 (13, 8, false, prog_14_method_58_code, some .boolean) 180 [(7, .int (nI j9)), (5, .int (OTv 1 sg wh n cd)), (4, .int (nI cd)), (3, .int (nI 1)), (2, .int (nI (p5 n))), (0, .ref 100), (1, .int (nI 1))] [] (rf_mk M (va_up (va_up io 71 (nI n)) 72 (OTv 1 sg wh n cd)) (sW sg (va_up (va_up (va_up q 66 ch) 69 f9) 70 r))) (fun r9 => ∃ (q : Nat → Nat → Int32), ∃ (bo : Int32), ∃ (sf : Int32), (WHq io sg cm w nx q n wh ∧ BIv 1 (sp_best 1 io sg my wh n ns nh nx (p5 n)) sg wh n q bo sf) ∧ r9 = ((some (.int sf), rf_mk M (va_up (va_up io 71 (nI n)) 72 bo) (sW sg q))))
                              refine r_iload rfl dc_14_58_180 ?_
                              refine r_iconst (v := nI 4) (by decide) dc_14_58_182 ?_
                              refine r_ncge (t := 206) (by omega) (by omega) (by decide) dc_14_58_183 (fun c_183 => ?_) (fun c_183 => ?_)
                              · omega
                              · skip
                                refine r_aload_n rfl dc_14_58_186 ?_
                                refine q_get (v := .ref 152) rx_165 hM rfl dc_14_58_187 ?_
                                refine r_iload rfl dc_14_58_190 ?_
                                refine r_aload_n rfl dc_14_58_192 ?_
                                refine q_get (v := .ref 151) rx_162 hM rfl dc_14_58_193 ?_
                                refine r_iload rfl dc_14_58_196 ?_
                                refine q_ild (e := j9) (v := f9 j9) (by decide) (by decide) hM rfl (show j9 < 4 by omega) (by omega) (rfl) dc_14_58_198 ?_
                                refine q_ist (e := j9) (k := 70) (by decide) (by decide) hM rfl rfl (show j9 < 4 by omega) (by omega) dc_14_58_199 ?_
                                rw [sW_s 70 _ rfl, va_up_up]
                                refine r_iinc (x := nI j9) (v := nI (j9 + 1)) (ls' := [(7, .int (nI (j9 + 1))), (5, .int (OTv 1 sg wh n cd)), (4, .int (nI cd)), (3, .int (nI 1)), (2, .int (nI (p5 n))), (0, .ref 100), (1, .int (nI 1))]) rfl (nI_1 _) (by decide) rfl dc_14_58_200 ?_
                                refine r_goto (t := 180) (by decide) dc_14_58_203 ?_
                                exact ih_j9 (upd r j9 (f9 j9)) (fun j hj => if e : j = j9 then e ▸ if_pos rfl else (if_neg e).trans (hi_j9 j (by omega)))
                          · skip
                            refine r_goto (t := 238) (by decide) dc_14_58_166 ?_
                            refine r_iinc (x := nI cd) (v := nI (cd + 1)) (ls' := [(4, .int (nI (cd + 1))), (7, .int (nI n)), (6, .int (pI (sp_kept io (plS sg my wh (co n cd) n) ns nh nx))), (5, .int (OTv 1 sg wh n cd)), (3, .int sf), (2, .int (nI (p5 n))), (0, .ref 100), (1, .int (nI 1))]) rfl (nI_1 _) (by decide) rfl dc_14_58_238 ?_
                            refine r_goto (t := 32) (by decide) dc_14_58_241 ?_
                            refine r_ls [(4, .int (nI (cd + 1))), (3, .int sf), (2, .int (nI (p5 n))), (0, .ref 100), (1, .int (nI 1))] (mm_ndk_of [4, 3, 2, 0, 1] rfl (by decide)) (mm_sub_cons rfl (mm_sub_cons rfl (mm_sub_cons rfl (mm_sub_cons rfl (mm_sub_cons rfl (mm_sub_nil _)))))) ?_
                            exact ih_cd sf (va_up (va_up q 66 ch) 69 f9) bo (⟨hi_cd.1, BIv_c (sp_bo_n (fun z => pI_eq0 c_163 z.1.2)) hi_cd.2⟩)
                        · omega
                      · intro u9 h_u9 ih_u9 
                        show mm_Ru 3 (13, 8, false, prog_14_method_58_code, some .boolean) 140 [(7, .int (nI u9)), (6, .int (pI (sp_kept io (plS sg my wh (co n cd) n) ns nh nx))), (5, .int (OTv 1 sg wh n cd)), (4, .int (nI cd)), (3, .int sf), (2, .int (nI (p5 n))), (0, .ref 100), (1, .int (nI 1))] [] (rf_mk M (va_up (va_up io 71 (nI n)) 72 bo) (sW (bkS sg my wh (co n cd) n u9) (va_up (va_up q 66 ch) 69 f9))) (fun r9 => ∃ (q : Nat → Nat → Int32), ∃ (bo : Int32), ∃ (sf : Int32), (WHq io sg cm w nx q n wh ∧ BIv 1 (sp_best 1 io sg my wh n ns nh nx (p5 n)) sg wh n q bo sf) ∧ r9 = ((some (.int sf), rf_mk M (va_up (va_up io 71 (nI n)) 72 bo) (sW sg q))))
                        refine r_iload rfl dc_14_58_140 ?_
                        refine r_aload_n rfl dc_14_58_142 ?_
                        refine q_get (v := .int (nI n)) rx_353 hM (congrArg (fun z => some (Value.int z)) (rfl)) dc_14_58_143 ?_
                        refine r_ncge (t := 161) (by omega) (by omega) (by decide) dc_14_58_146 (fun c_146 => ?_) (fun c_146 => ?_)
                        · omega
                        · skip
                          refine r_aload_n rfl dc_14_58_149 ?_
                          refine r_iload rfl dc_14_58_150 ?_
                          refine q_callv (as := [.int (nI u9)]) (rest := []) (M1 := rf_mk M (va_up (va_up io 71 (nI n)) 72 bo) (sW (bkS sg my wh (co n cd) n (u9 + 1)) (va_up (va_up q 66 ch) 69 f9))) iv_13_v378 na_1_243 o_243 hM rfl (show (0 : Nat) ≤ 8 by decide) dc_14_58_152 (mm_Ev_up (by decide : 1 ≤ 3) (c_backS M hM (va_up (va_up io 71 (nI n)) 72 bo) sg rfl hn7 hwh (my := my) (q := va_up (va_up q 66 ch) 69 f9) hq (co n cd) u9 h_u9 (hi_cd.1 u9 h_u9).2.1 (hi_cd.1 u9 h_u9).2.2.1 (hi_cd.1 u9 h_u9).2.2.2.1)) ?_
                          refine r_iinc (x := nI u9) (v := nI (u9 + 1)) (ls' := [(7, .int (nI (u9 + 1))), (6, .int (pI (sp_kept io (plS sg my wh (co n cd) n) ns nh nx))), (5, .int (OTv 1 sg wh n cd)), (4, .int (nI cd)), (3, .int sf), (2, .int (nI (p5 n))), (0, .ref 100), (1, .int (nI 1))]) rfl (nI_1 _) (by decide) rfl dc_14_58_155 ?_
                          refine r_goto (t := 140) (by decide) dc_14_58_158 ?_
                          exact ih_u9
                    · omega
                  · intro g h_g ih_g 
                    show mm_Ru 3 (13, 8, false, prog_14_method_58_code, some .boolean) 103 [(6, .int (nI g)), (5, .int (OTv 1 sg wh n cd)), (4, .int (nI cd)), (3, .int sf), (2, .int (nI (p5 n))), (0, .ref 100), (1, .int (nI 1))] [] (rf_mk M (va_up (va_up io 71 (nI n)) 72 bo) (sW (plS sg my wh (co n cd) g) (va_up (va_up q 66 ch) 69 f9))) (fun r9 => ∃ (q : Nat → Nat → Int32), ∃ (bo : Int32), ∃ (sf : Int32), (WHq io sg cm w nx q n wh ∧ BIv 1 (sp_best 1 io sg my wh n ns nh nx (p5 n)) sg wh n q bo sf) ∧ r9 = ((some (.int sf), rf_mk M (va_up (va_up io 71 (nI n)) 72 bo) (sW sg q))))
                    refine r_iload rfl dc_14_58_103 ?_
                    refine r_aload_n rfl dc_14_58_105 ?_
                    refine q_get (v := .int (nI n)) rx_353 hM (congrArg (fun z => some (Value.int z)) (rfl)) dc_14_58_106 ?_
                    refine r_ncge (t := 131) (by omega) (by omega) (by decide) dc_14_58_109 (fun c_109 => ?_) (fun c_109 => ?_)
                    · omega
                    · skip
                      refine r_aload_n rfl dc_14_58_112 ?_
                      refine r_iload rfl dc_14_58_113 ?_
                      refine r_aload_n rfl dc_14_58_115 ?_
                      refine q_get (v := .ref 148) rx_153 hM rfl dc_14_58_116 ?_
                      refine r_iload rfl dc_14_58_119 ?_
                      refine q_ild (e := g) (v := nI (co n cd g)) (by decide) (by decide) hM rfl (show g < 7 by omega) (by omega) (hc g h_g) dc_14_58_121 ?_
                      refine q_callv (as := [.int (nI g), .int (nI (co n cd g))]) (rest := []) (M1 := rf_mk M (va_up (va_up io 71 (nI n)) 72 bo) (sW (plS sg my wh (co n cd) (g + 1)) (va_up (va_up q 66 ch) 69 f9))) iv_13_v375 na_1_242 o_242 hM rfl (show (0 : Nat) ≤ 8 by decide) dc_14_58_122 (mm_Ev_up (by decide : 1 ≤ 3) (c_goesS M hM (va_up (va_up io 71 (nI n)) 72 bo) sg rfl hn7 hwh (my := my) (q := va_up (va_up q 66 ch) 69 f9) hq (co n cd) g h_g (hco4 g h_g) (fun z => (hval g h_g).elim (fun y => absurd y z) (fun y => hmy g h_g _ y.1)))) ?_
                      refine r_iinc (x := nI g) (v := nI (g + 1)) (ls' := [(6, .int (nI (g + 1))), (5, .int (OTv 1 sg wh n cd)), (4, .int (nI cd)), (3, .int sf), (2, .int (nI (p5 n))), (0, .ref 100), (1, .int (nI 1))]) rfl (nI_1 _) (by decide) rfl dc_14_58_125 ?_
                      refine r_goto (t := 103) (by decide) dc_14_58_128 ?_
                      exact ih_g
                refine r_iload_n rfl dc_14_58_68 ?_
                refine r_ifeq (t := 100) (by decide) dc_14_58_69 (fun c_69 => ?_) (fun c_69 => ?_)
                · skip
                  exact htail (fun b z => absurd ((BIv_0 hi_cd.2 c_69).symm.trans z) (by intro y; cases y))
                · obtain ⟨b, hb, hbest, hbo, hbs⟩ := BIv_1 hi_cd.2 c_69
                  refine r_iload rfl dc_14_58_72 ?_
                  refine r_aload_n rfl dc_14_58_74 ?_
                  refine q_get (v := .int bo) rx_369 hM rfl dc_14_58_75 ?_
                  refine r_icgt (t := 238) (by decide) dc_14_58_78 (fun c_78 => ?_) (fun c_78 => ?_)
                  · skip
                    refine r_iinc (x := nI cd) (v := nI (cd + 1)) (ls' := [(4, .int (nI (cd + 1))), (5, .int (OTv 1 sg wh n cd)), (3, .int sf), (2, .int (nI (p5 n))), (0, .ref 100), (1, .int (nI 1))]) rfl (nI_1 _) (by decide) rfl dc_14_58_238 ?_
                    refine r_goto (t := 32) (by decide) dc_14_58_241 ?_
                    refine r_ls [(4, .int (nI (cd + 1))), (3, .int sf), (2, .int (nI (p5 n))), (0, .ref 100), (1, .int (nI 1))] (mm_ndk_of [4, 3, 2, 0, 1] rfl (by decide)) (mm_sub_cons rfl (mm_sub_cons rfl (mm_sub_cons rfl (mm_sub_cons rfl (mm_sub_cons rfl (mm_sub_nil _)))))) ?_
                    exact ih_cd sf (va_up (va_up q 66 ch) 69 f9) bo (⟨hi_cd.1, BIv_c (sp_bo_n (fun z => (z.2 b hb).1 (hbo ▸ c_78))) hi_cd.2⟩)
                  · skip
                    refine r_iload rfl dc_14_58_81 ?_
                    refine r_aload_n rfl dc_14_58_83 ?_
                    refine q_get (v := .int bo) rx_369 hM rfl dc_14_58_84 ?_
                    refine r_icne (t := 100) (by decide) dc_14_58_87 (fun c_87 => ?_) (fun c_87 => ?_)
                    · skip
                      exact htail (fun b2 z => (by cases hb.symm.trans z; exact ⟨hbo ▸ c_78, fun y => absurd (y.trans hbo.symm) c_87⟩))
                    · skip
                      refine r_aload_n rfl dc_14_58_90 ?_
                      refine q_calli (as := []) (rest := []) (v := .int (pI (lexgt (fun k => ct (co n cd) k n) (fun k => ct (co n b) k n)))) (M1 := rf_mk M (va_up (va_up io 71 (nI n)) 72 bo) (sW sg (va_up (va_up q 66 ch) 69 f9))) iv_13_v372 na_1_241 o_241 hM rfl (show (0 : Nat) ≤ 8 by decide) dc_14_58_91 (mm_Ev_up (by decide : 1 ≤ 3) (c_isFairer M hM (va_up (va_up io 71 (nI n)) 72 bo) sg (va_up (va_up q 66 ch) 69 f9) (fun k => ct (co n cd) k n) (fun k => ct (co n b) k n) hf9 hbs (fun k _ => ⟨Nat.le_trans (ct_le _ _ _) hn7, Nat.le_trans (ct_le _ _ _) hn7⟩))) ?_
                      refine r_ifne (t := 100) (by decide) dc_14_58_94 (fun c_94 => ?_) (fun c_94 => ?_)
                      · skip
                        exact htail (fun b2 z => (by cases hb.symm.trans z; exact ⟨hbo ▸ c_78, fun _ => pI_ne c_94⟩))
                      · skip
                        refine r_goto (t := 238) (by decide) dc_14_58_97 ?_
                        refine r_iinc (x := nI cd) (v := nI (cd + 1)) (ls' := [(4, .int (nI (cd + 1))), (5, .int (OTv 1 sg wh n cd)), (3, .int sf), (2, .int (nI (p5 n))), (0, .ref 100), (1, .int (nI 1))]) rfl (nI_1 _) (by decide) rfl dc_14_58_238 ?_
                        refine r_goto (t := 32) (by decide) dc_14_58_241 ?_
                        refine r_ls [(4, .int (nI (cd + 1))), (3, .int sf), (2, .int (nI (p5 n))), (0, .ref 100), (1, .int (nI 1))] (mm_ndk_of [4, 3, 2, 0, 1] rfl (by decide)) (mm_sub_cons rfl (mm_sub_cons rfl (mm_sub_cons rfl (mm_sub_cons rfl (mm_sub_cons rfl (mm_sub_nil _)))))) ?_
                        exact ih_cd sf (va_up (va_up q 66 ch) 69 f9) bo (⟨hi_cd.1, BIv_c (sp_bo_n (fun z => pI_eq0 c_94 ((z.2 b hb).2 (c_87.trans hbo)))) hi_cd.2⟩)
            · skip
              refine r_goto (t := 238) (by decide) dc_14_58_47 ?_
              refine r_iinc (x := nI cd) (v := nI (cd + 1)) (ls' := [(4, .int (nI (cd + 1))), (3, .int sf), (2, .int (nI (p5 n))), (0, .ref 100), (1, .int (nI 1))]) rfl (nI_1 _) (by decide) rfl dc_14_58_238 ?_
              refine r_goto (t := 32) (by decide) dc_14_58_241 ?_
              exact ih_cd sf (va_up q 66 ch) bo (⟨hi_cd.1, BIv_c (sp_bo_n (fun z => pI_eq0 c_44 z.1.1)) hi_cd.2⟩)
      · omega
    · intro k h_k ih_k 
      show mm_Ru 3 (13, 8, false, prog_14_method_58_code, some .boolean) 9 [(3, .int (nI k)), (2, .int (nI (p5 k))), (0, .ref 100), (1, .int (nI 1))] [] (rf_mk M (va_up io 71 (nI n)) (sW sg q0)) (fun r9 => ∃ (q : Nat → Nat → Int32), ∃ (bo : Int32), ∃ (sf : Int32), (WHq io sg cm w nx q n wh ∧ BIv 1 (sp_best 1 io sg my wh n ns nh nx (p5 n)) sg wh n q bo sf) ∧ r9 = ((some (.int sf), rf_mk M (va_up (va_up io 71 (nI n)) 72 bo) (sW sg q))))
      refine r_iload_n rfl dc_14_58_9 ?_
      refine r_aload_n rfl dc_14_58_10 ?_
      refine q_get (v := .int (nI n)) rx_353 hM (congrArg (fun z => some (Value.int z)) (rfl)) dc_14_58_11 ?_
      refine r_ncge (t := 27) (by omega) (by omega) (by decide) dc_14_58_14 (fun c_14 => ?_) (fun c_14 => ?_)
      · omega
      · skip
        refine r_iconst (v := nI 5) (by decide) dc_14_58_17 ?_
        refine r_iload_n rfl dc_14_58_18 ?_
        refine r_imul (v := nI (5 * (p5 k))) (pk_mul _ _) dc_14_58_19 ?_
        refine r_istore_n (ls' := [(2, .int (nI (5 * (p5 k)))), (3, .int (nI k)), (0, .ref 100), (1, .int (nI 1))]) (by decide) rfl dc_14_58_20 ?_
        refine r_iinc (x := nI k) (v := nI (k + 1)) (ls' := [(3, .int (nI (k + 1))), (2, .int (nI (5 * (p5 k)))), (0, .ref 100), (1, .int (nI 1))]) rfl (nI_1 _) (by decide) rfl dc_14_58_21 ?_
        refine r_goto (t := 9) (by decide) dc_14_58_24 ?_
        exact ih_k
  obtain ⟨z9, ⟨q, bo, sf, p9, e9⟩, h9⟩ := hq9
  subst e9
  exact ⟨q, bo, sf, p9, h9⟩
