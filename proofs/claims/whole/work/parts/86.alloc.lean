/-! RULES FOR LISTS THAT GROW, ROWS OF ROWS -/
theorem h_elen {d o nL pc : Nat} {ini : Bool} {b : ByteArray} {ret : Option FieldType} {ls : List (Nat × Value)} {st : List Value} {M : mH} {T : Nat → mT} {cs : Nat → Nat → Int32} {R : Option Value × mH → Prop} (hS : M.1 ≤ 1000000) (hE : M.2.2 1000000 = .inl (3, 0, .inr (.inr (.inr (.inr (fun _ => none)))))) (hd : decode b pc = .ok (.arraylength, 1)) (kk : mm_Ru d (o, nL, ini, b, ret) (pc + 1) ls (.int (nI 0) :: st) (hk M T cs) R) : mm_Ru d (o, nL, ini, b, ret) pc ls (.ref 1000000 :: st) (hk M T cs) R := r_alen (by
  unfold mm_lg
  rw [h_sta hS (by decide), hE]
  dsimp only
  exact if_pos ⟨by unfold mm_ok mm_sta; simp, by decide⟩) hd kk
section AL
variable {d o nL pc : Nat} {ini : Bool} {b : ByteArray} {ret : Option FieldType} {ls : List (Nat × Value)} {st : List Value} {M : mH} {T : Nat → mT} {cs : Nat → Nat → Int32} {R : Option Value × mH → Prop} {N : mH}
theorem r_acT {off : Int} {t : Nat} {x y : Value} (hq : mm_aq x y = some true) (ht : (pc : Int) + off = (t : Int)) (hd : decode b pc = .ok (.if_acmp .eq off, 3)) (kk : mm_Ru d (o, nL, ini, b, ret) t ls st N R) : mm_Ru d (o, nL, ini, b, ret) pc ls (y :: x :: st) N R := r_st (C := (o, nL, ini, b, ret)) (pc' := t) (ls' := ls) (st' := st) (M' := N) hd rfl rfl rfl (by
  simp only [mm_st]
  rw [hq]
  dsimp only
  rw [if_pos (by omega), if_pos rfl, ht]
  rfl) kk
theorem r_acF {off : Int} {x y : Value} (hq : mm_aq x y = some false) (hp : 0 ≤ (pc : Int) + off) (hd : decode b pc = .ok (.if_acmp .eq off, 3)) (kk : mm_Ru d (o, nL, ini, b, ret) (pc + 3) ls st N R) : mm_Ru d (o, nL, ini, b, ret) pc ls (y :: x :: st) N R := r_st (C := (o, nL, ini, b, ret)) hd rfl rfl rfl (by
  simp only [mm_st]
  rw [hq]
  dsimp only
  rw [if_pos hp, if_neg (by decide)]) kk
theorem r_acN {off : Int} {x y : Value} (hq : mm_aq x y = some true) (hp : 0 ≤ (pc : Int) + off) (hd : decode b pc = .ok (.if_acmp .ne off, 3)) (kk : mm_Ru d (o, nL, ini, b, ret) (pc + 3) ls st N R) : mm_Ru d (o, nL, ini, b, ret) pc ls (y :: x :: st) N R := r_st (C := (o, nL, ini, b, ret)) hd rfl rfl rfl (by
  simp only [mm_st]
  rw [hq]
  dsimp only
  rw [if_pos hp, if_neg (by decide)]) kk
theorem r_ldcA {x a : Nat} (h1 : mm_nr o x = none) (h2 : mm_lt o x = some a) (hd : decode b pc = .ok (.ldc x, 2)) (kk : mm_Ru d (o, nL, ini, b, ret) (pc + 2) ls (.ref a :: st) N R) : mm_Ru d (o, nL, ini, b, ret) pc ls st N R := r_st (C := (o, nL, ini, b, ret)) hd rfl rfl rfl (by
  simp only [mm_st]
  rw [h1]
  dsimp only
  rw [h2]) kk
theorem h_gcl {a n : Nat} {r : Nat → Option Nat} {rest : List Value} (ho : o = 15) (hT : T a = (23, n, r)) (ha : inC M a) (hsum : mm_sum rest ≤ 8) (hi : mm_iv o (.invokevirtual 86) = none) (hd : decode b pc = .ok (.invokevirtual 86, 3)) (kk : mm_Ru d (o, nL, ini, b, ret) (pc + 3) ls (.ref 1000008 :: rest) (hk M T cs) R) : mm_Ru d (o, nL, ini, b, ret) pc ls (.ref a :: rest) (hk M T cs) R := r_st (C := (o, nL, ini, b, ret)) hd rfl rfl hi (by
  simp only [mm_st]
  rw [if_pos ⟨ho, hsum, (show a < (hk M T cs).1 from ha.1)⟩, hk_at ha, hT]
  rfl) kk
theorem h_cpa {x a c n0 n1 n : Nat} {r1 r2 : Nat → Option Nat} {rest : List Value} (hx : mm_ac o x = true) (hT : T a = (23, n0, r1)) (ha : inC M a) (hT2 : T c = (23, n1, r2)) (hc : inC M c) (h1 : n ≤ n0) (h2 : n ≤ n1) (hb : n < 2 ^ 31) (hel : ∀ i y, i < n → r1 i = some y → inC M y ∧ (T y).1 < 14) (hsum : mm_sum rest ≤ 8) (hi : mm_iv o (.invokestatic x) = none) (hd : decode b pc = .ok (.invokestatic x, 3)) (kk : mm_Ru d (o, nL, ini, b, ret) (pc + 3) ls rest (hk M (va_up T c (23, n1, va_cpy r1 r2 0 0 n)) cs) R) : mm_Ru d (o, nL, ini, b, ret) pc ls (.int (nI n) :: .int (nI 0) :: .ref c :: .int (nI 0) :: .ref a :: rest) (hk M T cs) R := r_st (C := (o, nL, ini, b, ret)) hd rfl rfl hi (by
  simp only [mm_st]
  rw [if_pos ⟨hx, hsum⟩]
  have h9 : mm_cp (hk M T cs) a c (nI 0) (nI 0) (nI n) = some (hk M (va_up T c (23, n1, va_cpy r1 r2 0 0 n)) cs) := by
    unfold mm_cp
    rw [if_pos ⟨(show a < (hk M T cs).1 from ha.1), (show c < (hk M T cs).1 from hc.1), nI_pos (by omega), nI_pos (by omega), nI_pos (by omega)⟩, hk_at ha, hk_at hc, hT, hT2]
    show (if 3 = 3 ∧ 3 = 3 ∧ (nI 0).toNatClampNeg + (nI n).toNatClampNeg ≤ n0 ∧ (nI 0).toNatClampNeg + (nI n).toNatClampNeg ≤ n1 ∧ (List.range (nI n).toNatClampNeg).all (fun i => match r1 ((nI 0).toNatClampNeg + i) with
        | some y => mm_obj (hk M T cs) y
        | none => true) = true then some (mm_wr (hk M T cs) c (.inl (3, n1, .inr (.inr (.inr (.inr (va_cpy r1 r2 (nI 0).toNatClampNeg (nI 0).toNatClampNeg (nI n).toNatClampNeg))))))) else none) = _
    have hall : (List.range n).all (fun i => match r1 (0 + i) with
        | some y => mm_obj (hk M T cs) y
        | none => true) = true := by
      rw [List.all_eq_true]
      intro i hi2
      have hin := List.mem_range.mp hi2
      rw [Nat.zero_add]
      cases hr : r1 i with
      | none => rfl
      | some y =>
        obtain ⟨h3, h4⟩ := hel i y hin hr
        show mm_obj (hk M T cs) y = true
        unfold mm_obj
        rw [decide_eq_true (show y < (hk M T cs).1 from h3.1), hk_at h3, show T y = ((T y).1, (T y).2.1, (T y).2.2) from rfl, mk_ob (t := ((T y).1, (T y).2.1, (T y).2.2)) h4]
        dsimp only
        rw [decide_eq_true h4]
        rfl
    rw [nI_clamp (show 0 < 2 ^ 31 by omega), nI_clamp hb, if_pos ⟨rfl, rfl, by omega, by omega, hall⟩]
    exact congrArg some (hk_wrT (t := (23, n1, va_cpy r1 r2 0 0 n)) hc)
  rw [h9]) kk
/-- a row of n rows of k ints -/
def mnw2 (M : mH) (n k : Nat) : mH := (M.1 + 1 + n, M.2.1 + n + n * k, M.2.2)
def tw2 (T : Nat → mT) (m n k : Nat) : Nat → mT := fun a => if a = m then (24, n, fun i => if i < n then some (m + 1 + i) else none) else if m < a ∧ a < m + 1 + n then (20, k, fun _ => none) else T a
def cw2 (cs : Nat → Nat → Int32) (m n : Nat) : Nat → Nat → Int32 := fun a => if m < a ∧ a < m + 1 + n then (fun _ => 0) else cs a
theorem hk_al2 {M : mH} {T : Nat → mT} {cs : Nat → Nat → Int32} {n k : Nat} (h : M.1 + 1 + n ≤ 100 ∨ 157 ≤ M.1) : mm_al2 (hk M T cs) n k = hk (mnw2 M n k) (tw2 T M.1 n k) (cw2 cs M.1 n) := by
  refine Prod.ext rfl (Prod.ext rfl (funext fun a => ?_))
  show (if a = M.1 then .inl (4, n, .inr (.inr (.inr (.inr (fun i => if i < n then some (M.1 + 1 + i) else none))))) else if M.1 < a ∧ a < M.1 + 1 + n then .inl (0, k, .inl (fun _ => 0)) else (hk M T cs).2.2 a) = (if a < M.1 + 1 + n ∧ ¬ (100 ≤ a ∧ a < 157) then mk_c (tw2 T M.1 n k a) (cw2 cs M.1 n a) else M.2.2 a)
  unfold tw2 cw2
  by_cases h1 : a = M.1
  · rw [if_pos h1, if_pos (by omega), if_pos h1]
    rfl
  · rw [if_neg h1, if_neg h1]
    by_cases h2 : M.1 < a ∧ a < M.1 + 1 + n
    · rw [if_pos h2, if_pos (by omega), if_pos h2, if_pos h2]
      rfl
    · rw [if_neg h2, if_neg h2, if_neg h2]
      show (if a < M.1 ∧ ¬ (100 ≤ a ∧ a < 157) then mk_c (T a) (cs a) else M.2.2 a) = _
      by_cases h3 : a < M.1 ∧ ¬ (100 ≤ a ∧ a < 157)
      · rw [if_pos h3, if_pos (by omega)]
      · rw [if_neg h3, if_neg (by omega)]
theorem h_mul {x n k : Nat} (hx : mm_mn o x = true) (hM : M.1 + 1 + n ≤ 100 ∨ 157 ≤ M.1) (hm : M.1 + 1 + n ≤ 1000000) (hn : n ≤ 1000) (hk2 : k ≤ 100000) (hd : decode b pc = .ok (.multianewarray x 2, 4)) (kk : mm_Ru d (o, nL, ini, b, ret) (pc + 4) ls (.ref M.1 :: st) (hk (mnw2 M n k) (tw2 T M.1 n k) (cw2 cs M.1 n)) R) : mm_Ru d (o, nL, ini, b, ret) pc ls (.int (nI k) :: .int (nI n) :: st) (hk M T cs) R := r_st (C := (o, nL, ini, b, ret)) hd rfl rfl rfl (by
  simp only [mm_st]
  have e1 := nI_clamp (show n < 2 ^ 31 by omega)
  have e2 := nI_clamp (show k < 2 ^ 31 by omega)
  rw [e1, e2, if_pos ⟨trivial, hx, nI_pos (by omega), nI_pos (by omega), hn, hk2, (show (hk M T cs).1 + 1 + n ≤ 1000000 from hm)⟩, hk_al2 hM]
  rfl) kk
end AL
