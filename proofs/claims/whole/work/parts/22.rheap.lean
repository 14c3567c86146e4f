/-! THE REFERENCE'S HEAP as a function of its ints (by the number of the field) and its rows (by the number of the field, and the place) -/
def rf_len (k : Nat) : Nat := match k with
  | 0 => 4
  | 1 => 4
  | 2 => 44
  | 9 => 8
  | 10 => 8
  | 11 => 8
  | 12 => 8
  | 13 => 8
  | 14 => 8
  | 15 => 8
  | 16 => 8
  | 17 => 48
  | 18 => 48
  | 19 => 48
  | 20 => 48
  | 21 => 48
  | 22 => 80
  | 27 => 12
  | 28 => 12
  | 29 => 12
  | 30 => 12
  | 31 => 12
  | 32 => 12
  | 33 => 12
  | 34 => 12
  | 35 => 960
  | 36 => 12
  | 37 => 80
  | 38 => 80
  | 48 => 80
  | 49 => 400
  | 50 => 4
  | 51 => 16
  | 52 => 16
  | 53 => 16
  | 54 => 16
  | 55 => 16
  | 56 => 16
  | 57 => 16
  | 58 => 16
  | 59 => 16
  | 60 => 64
  | 61 => 64
  | 62 => 7
  | 63 => 7
  | 64 => 7
  | 65 => 7
  | 66 => 7
  | 67 => 7
  | 68 => 64
  | 69 => 4
  | 70 => 4
  | 78 => 200
  | 79 => 200
  | 80 => 200
  | 81 => 200
  | _ => 0
def rf_tag (k : Nat) : Nat := match k with
  | 21 => 2
  | 22 => 1
  | 48 => 2
  | _ => 0
/-- the field whose row lies at an address -/
def rf_k (a : Nat) : Nat := match a with
  | 101 => 0
  | 102 => 1
  | 103 => 2
  | 104 => 9
  | 105 => 10
  | 106 => 11
  | 107 => 12
  | 108 => 13
  | 109 => 14
  | 110 => 15
  | 111 => 16
  | 112 => 17
  | 113 => 18
  | 114 => 19
  | 115 => 20
  | 116 => 21
  | 117 => 22
  | 118 => 27
  | 119 => 28
  | 120 => 29
  | 121 => 30
  | 122 => 31
  | 123 => 32
  | 124 => 33
  | 125 => 34
  | 126 => 35
  | 127 => 36
  | 128 => 37
  | 129 => 38
  | 130 => 48
  | 131 => 49
  | 132 => 50
  | 133 => 51
  | 134 => 52
  | 135 => 53
  | 136 => 54
  | 137 => 55
  | 138 => 56
  | 139 => 57
  | 140 => 58
  | 141 => 59
  | 142 => 60
  | 143 => 61
  | 144 => 62
  | 145 => 63
  | 146 => 64
  | 147 => 65
  | 148 => 66
  | 149 => 67
  | 150 => 68
  | 151 => 69
  | 152 => 70
  | 153 => 78
  | 154 => 79
  | 155 => 80
  | 156 => 81
  | _ => 0
def rf_fs (io : Nat → Int32) : List Value := [.ref 101, .ref 102, .ref 103, .int (io 3), .int (io 4), .int (io 5), .int (io 6), .int (io 7), .int (io 8), .ref 104, .ref 105, .ref 106, .ref 107, .ref 108, .ref 109, .ref 110, .ref 111, .ref 112, .ref 113, .ref 114, .ref 115, .ref 116, .ref 117, .int (io 23), .int (io 24), .int (io 25), .int (io 26), .ref 118, .ref 119, .ref 120, .ref 121, .ref 122, .ref 123, .ref 124, .ref 125, .ref 126, .ref 127, .ref 128, .ref 129, .int (io 39), .int (io 40), .int (io 41), .int (io 42), .int (io 43), .int (io 44), .int (io 45), .int (io 46), .int (io 47), .ref 130, .ref 131, .ref 132, .ref 133, .ref 134, .ref 135, .ref 136, .ref 137, .ref 138, .ref 139, .ref 140, .ref 141, .ref 142, .ref 143, .ref 144, .ref 145, .ref 146, .ref 147, .ref 148, .ref 149, .ref 150, .ref 151, .ref 152, .int (io 71), .int (io 72), .int (io 73), .int (io 74), .int (io 75), .int (io 76), .int (io 77), .ref 153, .ref 154, .ref 155, .ref 156]
def rf_cell (io : Nat → Int32) (sg : Nat → Nat → Int32) (a : Nat) : va_E := if a = 100 then .inr (13, rf_fs io) else .inl (rf_tag (rf_k a), rf_len (rf_k a), .inl (sg (rf_k a)))
def rf_mk (M : mH) (io : Nat → Int32) (sg : Nat → Nat → Int32) : mH := (M.1, M.2.1, fun a => if 100 ≤ a ∧ a < 157 then rf_cell io sg a else M.2.2 a)
theorem rf_inj : ∀ a, a < 157 → ∀ b, b < 157 → 100 < a → 100 < b → rf_k a = rf_k b → a = b := by decide +kernel
theorem rf_at (M : mH) (io : Nat → Int32) (sg : Nat → Nat → Int32) {a : Nat} (h1 : 100 ≤ a) (h2 : a < 157) : (rf_mk M io sg).2.2 a = rf_cell io sg a := if_pos ⟨h1, h2⟩
theorem rf_at0 (M : mH) (io : Nat → Int32) (sg : Nat → Nat → Int32) : (rf_mk M io sg).2.2 100 = .inr (13, rf_fs io) := (rf_at M io sg (Nat.le_refl _) (by decide)).trans (if_pos rfl)
theorem rf_atA (M : mH) (io : Nat → Int32) (sg : Nat → Nat → Int32) {a : Nat} (h1 : 100 < a) (h2 : a < 157) : (rf_mk M io sg).2.2 a = .inl (rf_tag (rf_k a), rf_len (rf_k a), .inl (sg (rf_k a))) := (rf_at M io sg (Nat.le_of_lt h1) h2).trans (if_neg (by omega))
theorem rf_gf {M : mH} {io : Nat → Int32} {sg : Nat → Nat → Int32} {x k : Nat} (hx : mm_fr 13 x = some (13, k)) (h : 157 ≤ M.1) : mm_gf 13 x (rf_mk M io sg) 100 = (rf_fs io)[k]? := by
  unfold mm_gf
  rw [hx, rf_at0]
  dsimp only
  rw [if_pos (show 100 < (rf_mk M io sg).1 by show 100 < M.1; omega), if_pos rfl]
theorem rf_ai {M : mH} {io : Nat → Int32} {sg : Nat → Nat → Int32} {t : Nat → Bool} {a e : Nat} (h1 : 100 < a) (h2 : a < 157) (ht : t (rf_tag (rf_k a)) = true) (h : 157 ≤ M.1) (he : e < rf_len (rf_k a)) (hb : e < 2 ^ 31) : mm_ai t (rf_mk M io sg) a (nI e) = some (sg (rf_k a) e) := by
  unfold mm_ai
  rw [rf_atA M io sg h1 h2]
  dsimp only
  have hok : mm_ok (rf_mk M io sg) a (rf_tag (rf_k a)) = true := by
    unfold mm_ok
    rw [decide_eq_true (show a < (rf_mk M io sg).1 by show a < M.1; omega), Bool.true_or]
  have hin : ¬ (nI e < 0 ∨ rf_len (rf_k a) ≤ (nI e).toNatClampNeg) := by
    rw [nI_clamp hb]
    rintro (q | q)
    · exact nI_pos hb q
    · omega
  rw [if_pos ⟨hok, ht, hin⟩, nI_clamp hb]
theorem rf_pi {M : mH} {io : Nat → Int32} {sg : Nat → Nat → Int32} {t : Nat → Bool} {a e : Nat} {v : Int32} (h1 : 100 < a) (h2 : a < 157) (ht : t (rf_tag (rf_k a)) = true) (h : 157 ≤ M.1) (he : e < rf_len (rf_k a)) (hb : e < 2 ^ 31) : mm_pi t (rf_mk M io sg) a (nI e) v = some (rf_mk M io (va_up sg (rf_k a) (upd (sg (rf_k a)) e (mm_na (rf_tag (rf_k a)) v)))) := by
  unfold mm_pi
  rw [if_pos (show a < (rf_mk M io sg).1 by show a < M.1; omega), rf_atA M io sg h1 h2]
  dsimp only
  have hin : ¬ (nI e < 0 ∨ rf_len (rf_k a) ≤ (nI e).toNatClampNeg) := by
    rw [nI_clamp hb]
    rintro (q | q)
    · exact nI_pos hb q
    · omega
  rw [if_pos ⟨ht, hin⟩, nI_clamp hb]
  refine congrArg some (Prod.ext rfl (Prod.ext rfl (funext fun b => ?_)))
  show va_up (rf_mk M io sg).2.2 a _ b = (rf_mk M io _).2.2 b
  by_cases hb0 : 100 ≤ b ∧ b < 157
  · rw [rf_at M io _ hb0.1 hb0.2]
    by_cases hba : b = a
    · subst hba
      rw [va_up_self]
      unfold rf_cell
      rw [if_neg (by omega), va_up_self]
    · rw [va_up_ne _ _ hba, rf_at M io sg hb0.1 hb0.2]
      unfold rf_cell
      by_cases h100 : b = 100
      · rw [if_pos h100, if_pos h100]
      · rw [if_neg h100, if_neg h100, va_up_ne _ _ (fun hk => hba (rf_inj b hb0.2 a h2 (by omega) h1 hk))]
  · rw [va_up_ne _ _ (by omega)]
    show (if 100 ≤ b ∧ b < 157 then rf_cell io sg b else M.2.2 b) = if 100 ≤ b ∧ b < 157 then _ else M.2.2 b
    rw [if_neg hb0, if_neg hb0]
theorem rf_pf {M : mH} {io : Nat → Int32} {sg : Nat → Nat → Int32} {x k : Nat} {v : Int32} (hx : mm_fr 13 x = some (13, k)) (hf : mm_fin 13 k = false) (ht : mm_ty 13 k = .int) (hk : k < 82) (hs : ∀ w, (rf_fs io).set k (.int w) = rf_fs (va_up io k w)) (h : 157 ≤ M.1) : mm_pf 13 x false (rf_mk M io sg) 100 (.int v) = some (rf_mk M (va_up io k v) sg) := by
  unfold mm_pf
  rw [hx]
  dsimp only
  rw [if_pos ⟨(show 100 < (rf_mk M io sg).1 by show 100 < M.1; omega), Or.inl hf, by rw [ht]; rfl, by rw [ht]; rfl⟩, rf_at0]
  dsimp only
  rw [if_pos ⟨rfl, hk⟩, hs]
  refine congrArg some (Prod.ext rfl (Prod.ext rfl (funext fun b => ?_)))
  show va_up (rf_mk M io sg).2.2 100 _ b = (rf_mk M _ sg).2.2 b
  by_cases hb0 : 100 ≤ b ∧ b < 157
  · rw [rf_at M _ sg hb0.1 hb0.2]
    by_cases hba : b = 100
    · subst hba
      rw [va_up_self]
      rfl
    · rw [va_up_ne _ _ hba, rf_at M io sg hb0.1 hb0.2]
      unfold rf_cell
      rw [if_neg hba, if_neg hba]
  · rw [va_up_ne _ _ (by omega)]
    show (if 100 ≤ b ∧ b < 157 then rf_cell io sg b else M.2.2 b) = if 100 ≤ b ∧ b < 157 then _ else M.2.2 b
    rw [if_neg hb0, if_neg hb0]
theorem rx_7 : mm_fr 13 7 = some (13, 0) := by decide +kernel
theorem rx_13 : mm_fr 13 13 = some (13, 1) := by decide +kernel
theorem rx_16 : mm_fr 13 16 = some (13, 2) := by decide +kernel
theorem rx_200 : mm_fr 13 200 = some (13, 3) := by decide +kernel
theorem rx_290 : mm_fr 13 290 = some (13, 4) := by decide +kernel
theorem rx_320 : mm_fr 13 320 = some (13, 5) := by decide +kernel
theorem rx_329 : mm_fr 13 329 = some (13, 6) := by decide +kernel
theorem rx_419 : mm_fr 13 419 = some (13, 7) := by decide +kernel
theorem rx_425 : mm_fr 13 425 = some (13, 8) := by decide +kernel
theorem rx_19 : mm_fr 13 19 = some (13, 9) := by decide +kernel
theorem rx_22 : mm_fr 13 22 = some (13, 10) := by decide +kernel
theorem rx_25 : mm_fr 13 25 = some (13, 11) := by decide +kernel
theorem rx_28 : mm_fr 13 28 = some (13, 12) := by decide +kernel
theorem rx_31 : mm_fr 13 31 = some (13, 13) := by decide +kernel
theorem rx_34 : mm_fr 13 34 = some (13, 14) := by decide +kernel
theorem rx_37 : mm_fr 13 37 = some (13, 15) := by decide +kernel
theorem rx_40 : mm_fr 13 40 = some (13, 16) := by decide +kernel
theorem rx_43 : mm_fr 13 43 = some (13, 17) := by decide +kernel
theorem rx_46 : mm_fr 13 46 = some (13, 18) := by decide +kernel
theorem rx_49 : mm_fr 13 49 = some (13, 19) := by decide +kernel
theorem rx_52 : mm_fr 13 52 = some (13, 20) := by decide +kernel
theorem rx_55 : mm_fr 13 55 = some (13, 21) := by decide +kernel
theorem rx_59 : mm_fr 13 59 = some (13, 22) := by decide +kernel
theorem rx_209 : mm_fr 13 209 = some (13, 23) := by decide +kernel
theorem rx_216 : mm_fr 13 216 = some (13, 24) := by decide +kernel
theorem rx_219 : mm_fr 13 219 = some (13, 25) := by decide +kernel
theorem rx_226 : mm_fr 13 226 = some (13, 26) := by decide +kernel
theorem rx_63 : mm_fr 13 63 = some (13, 27) := by decide +kernel
theorem rx_66 : mm_fr 13 66 = some (13, 28) := by decide +kernel
theorem rx_69 : mm_fr 13 69 = some (13, 29) := by decide +kernel
theorem rx_72 : mm_fr 13 72 = some (13, 30) := by decide +kernel
theorem rx_75 : mm_fr 13 75 = some (13, 31) := by decide +kernel
theorem rx_78 : mm_fr 13 78 = some (13, 32) := by decide +kernel
theorem rx_81 : mm_fr 13 81 = some (13, 33) := by decide +kernel
theorem rx_84 : mm_fr 13 84 = some (13, 34) := by decide +kernel
theorem rx_87 : mm_fr 13 87 = some (13, 35) := by decide +kernel
theorem rx_90 : mm_fr 13 90 = some (13, 36) := by decide +kernel
theorem rx_93 : mm_fr 13 93 = some (13, 37) := by decide +kernel
theorem rx_96 : mm_fr 13 96 = some (13, 38) := by decide +kernel
theorem rx_240 : mm_fr 13 240 = some (13, 39) := by decide +kernel
theorem rx_243 : mm_fr 13 243 = some (13, 40) := by decide +kernel
theorem rx_275 : mm_fr 13 275 = some (13, 41) := by decide +kernel
theorem rx_278 : mm_fr 13 278 = some (13, 42) := by decide +kernel
theorem rx_281 : mm_fr 13 281 = some (13, 43) := by decide +kernel
theorem rx_284 : mm_fr 13 284 = some (13, 44) := by decide +kernel
theorem rx_287 : mm_fr 13 287 = some (13, 45) := by decide +kernel
theorem rx_272 : mm_fr 13 272 = some (13, 46) := by decide +kernel
theorem rx_229 : mm_fr 13 229 = some (13, 47) := by decide +kernel
theorem rx_99 : mm_fr 13 99 = some (13, 48) := by decide +kernel
theorem rx_102 : mm_fr 13 102 = some (13, 49) := by decide +kernel
theorem rx_105 : mm_fr 13 105 = some (13, 50) := by decide +kernel
theorem rx_108 : mm_fr 13 108 = some (13, 51) := by decide +kernel
theorem rx_111 : mm_fr 13 111 = some (13, 52) := by decide +kernel
theorem rx_114 : mm_fr 13 114 = some (13, 53) := by decide +kernel
theorem rx_117 : mm_fr 13 117 = some (13, 54) := by decide +kernel
theorem rx_120 : mm_fr 13 120 = some (13, 55) := by decide +kernel
theorem rx_123 : mm_fr 13 123 = some (13, 56) := by decide +kernel
theorem rx_126 : mm_fr 13 126 = some (13, 57) := by decide +kernel
theorem rx_129 : mm_fr 13 129 = some (13, 58) := by decide +kernel
theorem rx_132 : mm_fr 13 132 = some (13, 59) := by decide +kernel
theorem rx_135 : mm_fr 13 135 = some (13, 60) := by decide +kernel
theorem rx_138 : mm_fr 13 138 = some (13, 61) := by decide +kernel
theorem rx_141 : mm_fr 13 141 = some (13, 62) := by decide +kernel
theorem rx_144 : mm_fr 13 144 = some (13, 63) := by decide +kernel
theorem rx_147 : mm_fr 13 147 = some (13, 64) := by decide +kernel
theorem rx_150 : mm_fr 13 150 = some (13, 65) := by decide +kernel
theorem rx_153 : mm_fr 13 153 = some (13, 66) := by decide +kernel
theorem rx_156 : mm_fr 13 156 = some (13, 67) := by decide +kernel
theorem rx_159 : mm_fr 13 159 = some (13, 68) := by decide +kernel
theorem rx_162 : mm_fr 13 162 = some (13, 69) := by decide +kernel
theorem rx_165 : mm_fr 13 165 = some (13, 70) := by decide +kernel
theorem rx_353 : mm_fr 13 353 = some (13, 71) := by decide +kernel
theorem rx_369 : mm_fr 13 369 = some (13, 72) := by decide +kernel
theorem rx_395 : mm_fr 13 395 = some (13, 73) := by decide +kernel
theorem rx_398 : mm_fr 13 398 = some (13, 74) := by decide +kernel
theorem rx_401 : mm_fr 13 401 = some (13, 75) := by decide +kernel
theorem rx_404 : mm_fr 13 404 = some (13, 76) := by decide +kernel
theorem rx_407 : mm_fr 13 407 = some (13, 77) := by decide +kernel
theorem rx_168 : mm_fr 13 168 = some (13, 78) := by decide +kernel
theorem rx_171 : mm_fr 13 171 = some (13, 79) := by decide +kernel
theorem rx_174 : mm_fr 13 174 = some (13, 80) := by decide +kernel
theorem rx_177 : mm_fr 13 177 = some (13, 81) := by decide +kernel
theorem rs_3 (io : Nat → Int32) (w : Int32) : (rf_fs io).set 3 (.int w) = rf_fs (va_up io 3 w) := rfl
theorem rs_4 (io : Nat → Int32) (w : Int32) : (rf_fs io).set 4 (.int w) = rf_fs (va_up io 4 w) := rfl
theorem rs_5 (io : Nat → Int32) (w : Int32) : (rf_fs io).set 5 (.int w) = rf_fs (va_up io 5 w) := rfl
theorem rs_6 (io : Nat → Int32) (w : Int32) : (rf_fs io).set 6 (.int w) = rf_fs (va_up io 6 w) := rfl
theorem rs_7 (io : Nat → Int32) (w : Int32) : (rf_fs io).set 7 (.int w) = rf_fs (va_up io 7 w) := rfl
theorem rs_8 (io : Nat → Int32) (w : Int32) : (rf_fs io).set 8 (.int w) = rf_fs (va_up io 8 w) := rfl
theorem rs_23 (io : Nat → Int32) (w : Int32) : (rf_fs io).set 23 (.int w) = rf_fs (va_up io 23 w) := rfl
theorem rs_24 (io : Nat → Int32) (w : Int32) : (rf_fs io).set 24 (.int w) = rf_fs (va_up io 24 w) := rfl
theorem rs_25 (io : Nat → Int32) (w : Int32) : (rf_fs io).set 25 (.int w) = rf_fs (va_up io 25 w) := rfl
theorem rs_26 (io : Nat → Int32) (w : Int32) : (rf_fs io).set 26 (.int w) = rf_fs (va_up io 26 w) := rfl
theorem rs_39 (io : Nat → Int32) (w : Int32) : (rf_fs io).set 39 (.int w) = rf_fs (va_up io 39 w) := rfl
theorem rs_40 (io : Nat → Int32) (w : Int32) : (rf_fs io).set 40 (.int w) = rf_fs (va_up io 40 w) := rfl
theorem rs_41 (io : Nat → Int32) (w : Int32) : (rf_fs io).set 41 (.int w) = rf_fs (va_up io 41 w) := rfl
theorem rs_42 (io : Nat → Int32) (w : Int32) : (rf_fs io).set 42 (.int w) = rf_fs (va_up io 42 w) := rfl
theorem rs_43 (io : Nat → Int32) (w : Int32) : (rf_fs io).set 43 (.int w) = rf_fs (va_up io 43 w) := rfl
theorem rs_44 (io : Nat → Int32) (w : Int32) : (rf_fs io).set 44 (.int w) = rf_fs (va_up io 44 w) := rfl
theorem rs_45 (io : Nat → Int32) (w : Int32) : (rf_fs io).set 45 (.int w) = rf_fs (va_up io 45 w) := rfl
theorem rs_46 (io : Nat → Int32) (w : Int32) : (rf_fs io).set 46 (.int w) = rf_fs (va_up io 46 w) := rfl
theorem rs_47 (io : Nat → Int32) (w : Int32) : (rf_fs io).set 47 (.int w) = rf_fs (va_up io 47 w) := rfl
theorem rs_71 (io : Nat → Int32) (w : Int32) : (rf_fs io).set 71 (.int w) = rf_fs (va_up io 71 w) := rfl
theorem rs_72 (io : Nat → Int32) (w : Int32) : (rf_fs io).set 72 (.int w) = rf_fs (va_up io 72 w) := rfl
theorem rs_73 (io : Nat → Int32) (w : Int32) : (rf_fs io).set 73 (.int w) = rf_fs (va_up io 73 w) := rfl
theorem rs_74 (io : Nat → Int32) (w : Int32) : (rf_fs io).set 74 (.int w) = rf_fs (va_up io 74 w) := rfl
theorem rs_75 (io : Nat → Int32) (w : Int32) : (rf_fs io).set 75 (.int w) = rf_fs (va_up io 75 w) := rfl
theorem rs_76 (io : Nat → Int32) (w : Int32) : (rf_fs io).set 76 (.int w) = rf_fs (va_up io 76 w) := rfl
theorem rs_77 (io : Nat → Int32) (w : Int32) : (rf_fs io).set 77 (.int w) = rf_fs (va_up io 77 w) := rfl
