/-! THE SYSTEM'S HEAP: shapes (T: kind, length, references) and ints (cs), both by the number of the cell -/
abbrev mT : Type := Nat × Nat × (Nat → Option Nat)
def rl (l : List (Nat × Nat)) : Nat → Option Nat
  | k => match l with
    | [] => none
    | q :: l => if q.1 = k then some q.2 else rl l k
theorem rl_c (x b : Nat) (l : List (Nat × Nat)) (k : Nat) : rl ((x, b) :: l) k = if x = k then some b else rl l k := rfl
theorem rl_up (x b : Nat) (l : List (Nat × Nat)) : va_up (rl l) x (some b) = rl ((x, b) :: l) := by
  funext j
  rw [rl_c]
  unfold va_up
  by_cases h : j = x
  · rw [if_pos h, if_pos h.symm]
  · rw [if_neg h, if_neg (fun q => h q.symm)]
theorem rl_nil : (fun _ => none : Nat → Option Nat) = rl [] := rfl
def ob (c : Nat) (r : Nat → Option Nat) (f : Nat → Int32) : List Value := match c with
  | 0 => [.int (f 0), va_rf (r 1), va_rf (r 2), va_rf (r 3), va_rf (r 4), va_rf (r 5), va_rf (r 6), va_rf (r 7), va_rf (r 8), va_rf (r 9), va_rf (r 10), va_rf (r 11), va_rf (r 12)]
  | 1 => [va_rf (r 0)]
  | 2 => [va_rf (r 0), .int (f 1)]
  | 3 => [va_rf (r 0), .int (f 1), .int (f 2), .int (f 3), va_rf (r 4), .int (f 5), .int (f 6), .int (f 7), .int (f 8), .int (f 9), .int (f 10), .int (f 11)]
  | 4 => [va_rf (r 0)]
  | 5 => [.int (f 0), .int (f 1), va_rf (r 2), va_rf (r 3), va_rf (r 4), va_rf (r 5)]
  | 6 => [va_rf (r 0), .int (f 1), .int (f 2)]
  | 7 => [va_rf (r 0), .int (f 1), va_rf (r 2), va_rf (r 3), va_rf (r 4), va_rf (r 5), va_rf (r 6), va_rf (r 7), va_rf (r 8), va_rf (r 9), va_rf (r 10), va_rf (r 11), va_rf (r 12), va_rf (r 13), .int (f 14)]
  | 8 => [va_rf (r 0), va_rf (r 1), va_rf (r 2), va_rf (r 3), va_rf (r 4), va_rf (r 5), va_rf (r 6)]
  | 9 => [.int (f 0), .int (f 1), .int (f 2), .int (f 3), .int (f 4), .int (f 5), va_rf (r 6)]
  | 10 => [.int (f 0), .int (f 1), .int (f 2), .int (f 3), .int (f 4), .int (f 5), .int (f 6), .int (f 7), va_rf (r 8), va_rf (r 9)]
  | 11 => [.int (f 0), .int (f 1), .int (f 2), .int (f 3), .int (f 4), va_rf (r 5), va_rf (r 6), .int (f 7), .int (f 8), .int (f 9), .int (f 10)]
  | 12 => [.int (f 0), .int (f 1), .int (f 2), .int (f 3), .int (f 4)]
  | _ => []
def mk_c (t : mT) (f : Nat → Int32) : va_E := match t.1 with
  | 20 => .inl (0, t.2.1, .inl f)
  | 23 => .inl (3, t.2.1, .inr (.inr (.inr (.inr t.2.2))))
  | 24 => .inl (4, t.2.1, .inr (.inr (.inr (.inr t.2.2))))
  | c => .inr (c, ob c t.2.2 f)
def w1 (cs : Nat → Nat → Int32) (a k : Nat) (v : Int32) : Nat → Nat → Int32 := fun b j => if b = a ∧ j = k then v else cs b j
theorem w1_a (cs : Nat → Nat → Int32) (a k : Nat) (v : Int32) : w1 cs a k v a = upd (cs a) k v := by
  funext j
  unfold w1 upd
  by_cases h : j = k
  · rw [if_pos ⟨rfl, h⟩, if_pos h]
  · rw [if_neg (fun q => h q.2), if_neg h]
theorem w1_n (cs : Nat → Nat → Int32) {a b : Nat} (k : Nat) (v : Int32) (h : ¬ b = a) : w1 cs a k v b = cs b := by
  funext j
  unfold w1
  rw [if_neg (fun q => h q.1)]
theorem w1_s (cs : Nat → Nat → Int32) (a k : Nat) (v : Int32) : w1 cs a k v a k = v := if_pos ⟨rfl, rfl⟩
theorem w1_o (cs : Nat → Nat → Int32) {a k b j : Nat} (v : Int32) (h : ¬ b = a ∨ ¬ j = k) : w1 cs a k v b j = cs b j := if_neg (fun q => h.elim (fun z => z q.1) (fun z => z q.2))
/-- a whole row anew -/
def wA (cs : Nat → Nat → Int32) (a : Nat) (f : Nat → Int32) : Nat → Nat → Int32 := fun b => if b = a then f else cs b
theorem wA_s (cs : Nat → Nat → Int32) (a : Nat) (f : Nat → Int32) : wA cs a f a = f := if_pos rfl
theorem wA_o (cs : Nat → Nat → Int32) {a b : Nat} (f : Nat → Int32) (h : ¬ b = a) : wA cs a f b = cs b := if_neg h
theorem w1_wA (cs : Nat → Nat → Int32) (a : Nat) (f : Nat → Int32) (k : Nat) (v : Int32) : w1 (wA cs a f) a k v = wA cs a (upd f k v) := by
  funext b
  by_cases h : b = a
  · subst h
    rw [w1_a, wA_s, wA_s]
  · rw [w1_n _ _ _ h, wA_o _ _ h, wA_o _ _ h]
theorem wA_id (cs : Nat → Nat → Int32) (a : Nat) : wA cs a (cs a) = cs := by
  funext b
  unfold wA
  split
  · rename_i h; rw [h]
  · rfl
theorem w1_asA (cs : Nat → Nat → Int32) (a k : Nat) (v : Int32) : w1 cs a k v = wA cs a (upd (cs a) k v) := by
  have := w1_wA cs a (cs a) k v
  rwa [wA_id] at this
theorem wA_wA (cs : Nat → Nat → Int32) (a : Nat) (f g : Nat → Int32) : wA (wA cs a f) a g = wA cs a g := by
  funext b
  unfold wA
  split
  · rfl
  · rfl
def hk (M : mH) (T : Nat → mT) (cs : Nat → Nat → Int32) : mH := (M.1, M.2.1, fun a => if a < M.1 ∧ ¬ (100 ≤ a ∧ a < 157) then mk_c (T a) (cs a) else M.2.2 a)
abbrev inC (M : mH) (a : Nat) : Prop := a < M.1 ∧ ¬ (100 ≤ a ∧ a < 157)
theorem hk_at {M : mH} {T : Nat → mT} {cs : Nat → Nat → Int32} {a : Nat} (h : inC M a) : (hk M T cs).2.2 a = mk_c (T a) (cs a) := if_pos h
theorem hk_wr {M : mH} {T : Nat → mT} {cs : Nat → Nat → Int32} {a : Nat} {t : mT} {f : Nat → Int32} (h : inC M a) : mm_wr (hk M T cs) a (mk_c t f) = hk M (va_up T a t) (wA cs a f) := by
  refine Prod.ext rfl (Prod.ext rfl (funext fun b => ?_))
  show va_up (hk M T cs).2.2 a _ b = (if b < M.1 ∧ ¬ (100 ≤ b ∧ b < 157) then mk_c (va_up T a t b) (wA cs a f b) else M.2.2 b)
  by_cases hb : b = a
  · subst hb
    rw [va_up_self, if_pos h, va_up_self, wA_s]
  · rw [va_up_ne _ _ hb, va_up_ne _ _ hb, wA_o _ _ hb]
    rfl
theorem hk_wri {M : mH} {T : Nat → mT} {cs : Nat → Nat → Int32} {a : Nat} {f : Nat → Int32} (h : inC M a) : mm_wr (hk M T cs) a (mk_c (T a) f) = hk M T (wA cs a f) := by
  rw [hk_wr h, va_up_id]
theorem hk_wrT {M : mH} {T : Nat → mT} {cs : Nat → Nat → Int32} {a : Nat} {t : mT} (h : inC M a) : mm_wr (hk M T cs) a (mk_c t (cs a)) = hk M (va_up T a t) cs := by
  rw [hk_wr h, wA_id]
def mnew (M : mH) (n : Nat) : mH := (M.1 + 1, M.2.1 + n, M.2.2)
theorem hk_al {M : mH} {T : Nat → mT} {cs : Nat → Nat → Int32} {n : Nat} {t : mT} {f : Nat → Int32} (h : ¬ (100 ≤ M.1 ∧ M.1 < 157)) : mm_al (hk M T cs) n (mk_c t f) = hk (mnew M n) (va_up T M.1 t) (wA cs M.1 f) := by
  refine Prod.ext rfl (Prod.ext rfl (funext fun b => ?_))
  show va_up (hk M T cs).2.2 M.1 _ b = (if b < M.1 + 1 ∧ ¬ (100 ≤ b ∧ b < 157) then mk_c (va_up T M.1 t b) (wA cs M.1 f b) else M.2.2 b)
  by_cases hb : b = M.1
  · subst hb
    rw [va_up_self, if_pos ⟨Nat.lt_succ_self _, h⟩, va_up_self, wA_s]
  · rw [va_up_ne _ _ hb, va_up_ne _ _ hb, wA_o _ _ hb]
    show (if b < M.1 ∧ ¬ (100 ≤ b ∧ b < 157) then mk_c (T b) (cs b) else M.2.2 b) = _
    by_cases h2 : b < M.1 ∧ ¬ (100 ≤ b ∧ b < 157)
    · rw [if_pos h2, if_pos ⟨by omega, h2.2⟩]
    · rw [if_neg h2, if_neg (fun q => h2 ⟨by omega, q.2⟩)]
theorem hk_rf (M : mH) (io : Nat → Int32) (sg : Nat → Nat → Int32) (T : Nat → mT) (cs : Nat → Nat → Int32) : rf_mk (hk M T cs) io sg = hk (rf_mk M io sg) T cs := by
  refine Prod.ext rfl (Prod.ext rfl (funext fun b => ?_))
  show (if 100 ≤ b ∧ b < 157 then rf_cell io sg b else if b < M.1 ∧ ¬ (100 ≤ b ∧ b < 157) then mk_c (T b) (cs b) else M.2.2 b) = (if b < M.1 ∧ ¬ (100 ≤ b ∧ b < 157) then mk_c (T b) (cs b) else if 100 ≤ b ∧ b < 157 then rf_cell io sg b else M.2.2 b)
  by_cases h1 : 100 ≤ b ∧ b < 157
  · rw [if_pos h1, if_neg (fun q => q.2 h1), if_pos h1]
  · rw [if_neg h1, if_neg h1]
def g1 (e : va_E) (ci k : Nat) : Option Value := match e with
  | .inr (c, fs) => if c = ci then fs[k]? else none
  | _ => none
def p1 (e : va_E) (ci k : Nat) (v : Value) : Option va_E := match e with
  | .inr (c, fs) => if c = ci ∧ k < fs.length then some (.inr (ci, fs.set k v)) else none
  | _ => none
theorem hk_gf {M : mH} {T : Nat → mT} {cs : Nat → Nat → Int32} {o x a ci k : Nat} (hx : mm_fr o x = some (ci, k)) (ha : inC M a) : mm_gf o x (hk M T cs) a = g1 (mk_c (T a) (cs a)) ci k := by
  unfold mm_gf
  rw [hx, hk_at ha]
  dsimp only
  rw [if_pos (show a < (hk M T cs).1 from ha.1)]
  rfl
theorem hk_pf {M : mH} {T : Nat → mT} {cs : Nat → Nat → Int32} {o x a ci k : Nat} {ini : Bool} {v : Value} {e : va_E} (hx : mm_fr o x = some (ci, k)) (ha : inC M a) (hf : mm_fin ci k = false ∨ (ini = true ∧ o = ci)) (hn : narrow (mm_ty ci k) v = v) (ht : fits (mm_ty ci k) v = true) (hs : p1 (mk_c (T a) (cs a)) ci k v = some e) : mm_pf o x ini (hk M T cs) a v = some (mm_wr (hk M T cs) a e) := by
  unfold mm_pf
  rw [hx]
  dsimp only
  rw [if_pos ⟨(show a < (hk M T cs).1 from ha.1), hf, hn, ht⟩, hk_at ha]
  unfold p1 at hs
  split at hs
  · rename_i c fs hc
    split at hs
    · rename_i h9
      rw [hc]
      dsimp only
      rw [if_pos h9, Option.some.inj hs]
    · cases hs
  · cases hs
theorem hk_ai {M : mH} {T : Nat → mT} {cs : Nat → Nat → Int32} {a n e : Nat} {r : Nat → Option Nat} (hT : T a = (20, n, r)) (ha : inC M a) (he : e < n) (hb : e < 2 ^ 31) : mm_ai (fun u => u == 0) (hk M T cs) a (nI e) = some (cs a e) := by
  unfold mm_ai
  rw [hk_at ha, hT]
  show (if mm_ok (hk M T cs) a 0 = true ∧ (0 == 0) = true ∧ ¬ (nI e < 0 ∨ n ≤ (nI e).toNatClampNeg) then some (cs a (nI e).toNatClampNeg) else none) = _
  have hok : mm_ok (hk M T cs) a 0 = true := by
    unfold mm_ok
    rw [decide_eq_true (show a < (hk M T cs).1 from ha.1), Bool.true_or]
  rw [nI_clamp hb, if_pos ⟨hok, rfl, fun q => q.elim (nI_pos hb) (fun z => by omega)⟩]
theorem hk_pi {M : mH} {T : Nat → mT} {cs : Nat → Nat → Int32} {a n e : Nat} {v : Int32} {r : Nat → Option Nat} (hT : T a = (20, n, r)) (ha : inC M a) (he : e < n) (hb : e < 2 ^ 31) : mm_pi (fun u => u == 0) (hk M T cs) a (nI e) v = some (hk M T (w1 cs a e v)) := by
  unfold mm_pi
  rw [if_pos (show a < (hk M T cs).1 from ha.1), hk_at ha, hT]
  show (if (0 == 0) = true ∧ ¬ (nI e < 0 ∨ n ≤ (nI e).toNatClampNeg) then some (mm_wr (hk M T cs) a (.inl (0, n, .inl (upd (cs a) (nI e).toNatClampNeg v)))) else none) = _
  rw [nI_clamp hb, if_pos ⟨rfl, fun q => q.elim (nI_pos hb) (fun z => by omega)⟩, w1_asA, ← hk_wri ha, hT]
  rfl
theorem hk_aa {M : mH} {T : Nat → mT} {cs : Nat → Nat → Int32} {a n c e : Nat} {r : Nat → Option Nat} (hT : T a = (c, n, r)) (hc : c = 23 ∨ c = 24) (ha : inC M a) (he : e < n) (hb : e < 2 ^ 31) : mm_aa (hk M T cs) a (nI e) = some (r e) := by
  unfold mm_aa
  rw [if_pos (show a < (hk M T cs).1 from ha.1), hk_at ha, hT]
  rcases hc with rfl | rfl
  · show (if (3 = 3 ∨ 3 = 4) ∧ ¬ (nI e < 0 ∨ n ≤ (nI e).toNatClampNeg) then some (r (nI e).toNatClampNeg) else none) = _
    rw [nI_clamp hb, if_pos ⟨Or.inl rfl, fun q => q.elim (nI_pos hb) (fun z => by omega)⟩]
  · show (if (4 = 3 ∨ 4 = 4) ∧ ¬ (nI e < 0 ∨ n ≤ (nI e).toNatClampNeg) then some (r (nI e).toNatClampNeg) else none) = _
    rw [nI_clamp hb, if_pos ⟨Or.inr rfl, fun q => q.elim (nI_pos hb) (fun z => by omega)⟩]
theorem hk_lg {M : mH} {T : Nat → mT} {cs : Nat → Nat → Int32} {a n c : Nat} {r : Nat → Option Nat} (hT : T a = (c, n, r)) (hc : c = 20 ∨ c = 23 ∨ c = 24) (ha : inC M a) : mm_lg (hk M T cs) a = some (nI n) := by
  unfold mm_lg
  have hok : ∀ u, mm_ok (hk M T cs) a u = true := fun u => by
    unfold mm_ok
    rw [decide_eq_true (show a < (hk M T cs).1 from ha.1), Bool.true_or]
  rw [hk_at ha, hT]
  rcases hc with rfl | rfl | rfl
  · show (if mm_ok (hk M T cs) a 0 = true ∧ 0 < 3 then some (Int32.ofNat n) else none) = _
    rw [if_pos ⟨hok 0, by decide⟩]
    rfl
  · show (if mm_ok (hk M T cs) a 3 = true ∧ (3 = 3 ∨ 3 = 4) then some (Int32.ofNat n) else none) = _
    rw [if_pos ⟨hok 3, Or.inl rfl⟩]
    rfl
  · show (if mm_ok (hk M T cs) a 4 = true ∧ (4 = 3 ∨ 4 = 4) then some (Int32.ofNat n) else none) = _
    rw [if_pos ⟨hok 4, Or.inr rfl⟩]
    rfl
theorem mk_ob {t : mT} {f : Nat → Int32} (h : t.1 < 14) : mk_c t f = .inr (t.1, ob t.1 t.2.2 f) := by
  obtain ⟨c, n, r⟩ := t
  dsimp only at h
  unfold mk_c
  dsimp only
  split
  · omega
  · omega
  · omega
  · rfl
theorem hk_rc {M : mH} {T : Nat → mT} {cs : Nat → Nat → Int32} {k j a : Nat} {t : mT} {as : List Value} (hT : T a = t) (ha : inC M a) (h14 : t.1 < 14) (hj : mm_o j = t.1) (hk1 : k = 1 ∨ k = 4 ∨ k = 6) : mm_rc k j (hk M T cs) (.ref a :: as) = true := by
  unfold mm_rc
  rw [if_pos hk1]
  dsimp only
  rw [decide_eq_true (show a < (hk M T cs).1 from ha.1), Bool.true_or, Bool.true_and, hk_at ha, hT, mk_ob h14]
  dsimp only
  rw [hj]
  exact beq_self_eq_true _
theorem pi_0_0 (n : Nat) (r : Nat → Option Nat) (f : Nat → Int32) (v : Int32) : p1 (mk_c (0, n, r) f) 0 0 (.int v) = some (mk_c (0, n, r) (upd f 0 v)) := rfl
theorem fn_0_0 : mm_fin 0 0 = false := by decide +kernel
theorem ty_0_0 : mm_ty 0 0 = .int := rfl
theorem pr_0_1 (n b : Nat) (l : List (Nat × Nat)) (f : Nat → Int32) : p1 (mk_c (0, n, rl l) f) 0 1 (.ref b) = some (mk_c (0, n, rl ((1, b) :: l)) f) := by rw [← rl_up]; rfl
theorem pr_0_2 (n b : Nat) (l : List (Nat × Nat)) (f : Nat → Int32) : p1 (mk_c (0, n, rl l) f) 0 2 (.ref b) = some (mk_c (0, n, rl ((2, b) :: l)) f) := by rw [← rl_up]; rfl
theorem pr_0_3 (n b : Nat) (l : List (Nat × Nat)) (f : Nat → Int32) : p1 (mk_c (0, n, rl l) f) 0 3 (.ref b) = some (mk_c (0, n, rl ((3, b) :: l)) f) := by rw [← rl_up]; rfl
theorem pr_0_4 (n b : Nat) (l : List (Nat × Nat)) (f : Nat → Int32) : p1 (mk_c (0, n, rl l) f) 0 4 (.ref b) = some (mk_c (0, n, rl ((4, b) :: l)) f) := by rw [← rl_up]; rfl
theorem pr_0_5 (n b : Nat) (l : List (Nat × Nat)) (f : Nat → Int32) : p1 (mk_c (0, n, rl l) f) 0 5 (.ref b) = some (mk_c (0, n, rl ((5, b) :: l)) f) := by rw [← rl_up]; rfl
theorem pr_0_6 (n b : Nat) (l : List (Nat × Nat)) (f : Nat → Int32) : p1 (mk_c (0, n, rl l) f) 0 6 (.ref b) = some (mk_c (0, n, rl ((6, b) :: l)) f) := by rw [← rl_up]; rfl
theorem pr_0_7 (n b : Nat) (l : List (Nat × Nat)) (f : Nat → Int32) : p1 (mk_c (0, n, rl l) f) 0 7 (.ref b) = some (mk_c (0, n, rl ((7, b) :: l)) f) := by rw [← rl_up]; rfl
theorem pr_0_8 (n b : Nat) (l : List (Nat × Nat)) (f : Nat → Int32) : p1 (mk_c (0, n, rl l) f) 0 8 (.ref b) = some (mk_c (0, n, rl ((8, b) :: l)) f) := by rw [← rl_up]; rfl
theorem pr_0_9 (n b : Nat) (l : List (Nat × Nat)) (f : Nat → Int32) : p1 (mk_c (0, n, rl l) f) 0 9 (.ref b) = some (mk_c (0, n, rl ((9, b) :: l)) f) := by rw [← rl_up]; rfl
theorem pr_0_10 (n b : Nat) (l : List (Nat × Nat)) (f : Nat → Int32) : p1 (mk_c (0, n, rl l) f) 0 10 (.ref b) = some (mk_c (0, n, rl ((10, b) :: l)) f) := by rw [← rl_up]; rfl
theorem pr_0_11 (n b : Nat) (l : List (Nat × Nat)) (f : Nat → Int32) : p1 (mk_c (0, n, rl l) f) 0 11 (.ref b) = some (mk_c (0, n, rl ((11, b) :: l)) f) := by rw [← rl_up]; rfl
theorem pr_0_12 (n b : Nat) (l : List (Nat × Nat)) (f : Nat → Int32) : p1 (mk_c (0, n, rl l) f) 0 12 (.ref b) = some (mk_c (0, n, rl ((12, b) :: l)) f) := by rw [← rl_up]; rfl
theorem pr_1_0 (n b : Nat) (l : List (Nat × Nat)) (f : Nat → Int32) : p1 (mk_c (1, n, rl l) f) 1 0 (.ref b) = some (mk_c (1, n, rl ((0, b) :: l)) f) := by rw [← rl_up]; rfl
theorem pr_2_0 (n b : Nat) (l : List (Nat × Nat)) (f : Nat → Int32) : p1 (mk_c (2, n, rl l) f) 2 0 (.ref b) = some (mk_c (2, n, rl ((0, b) :: l)) f) := by rw [← rl_up]; rfl
theorem pi_2_1 (n : Nat) (r : Nat → Option Nat) (f : Nat → Int32) (v : Int32) : p1 (mk_c (2, n, r) f) 2 1 (.int v) = some (mk_c (2, n, r) (upd f 1 v)) := rfl
theorem fn_2_1 : mm_fin 2 1 = false := by decide +kernel
theorem ty_2_1 : mm_ty 2 1 = .int := rfl
theorem pr_3_0 (n b : Nat) (l : List (Nat × Nat)) (f : Nat → Int32) : p1 (mk_c (3, n, rl l) f) 3 0 (.ref b) = some (mk_c (3, n, rl ((0, b) :: l)) f) := by rw [← rl_up]; rfl
theorem fn_3_0 : mm_fin 3 0 = false := by decide +kernel
theorem pi_3_1 (n : Nat) (r : Nat → Option Nat) (f : Nat → Int32) (v : Int32) : p1 (mk_c (3, n, r) f) 3 1 (.int v) = some (mk_c (3, n, r) (upd f 1 v)) := rfl
theorem fn_3_1 : mm_fin 3 1 = false := by decide +kernel
theorem ty_3_1 : mm_ty 3 1 = .int := rfl
theorem pi_3_2 (n : Nat) (r : Nat → Option Nat) (f : Nat → Int32) (v : Int32) : p1 (mk_c (3, n, r) f) 3 2 (.int v) = some (mk_c (3, n, r) (upd f 2 v)) := rfl
theorem fn_3_2 : mm_fin 3 2 = false := by decide +kernel
theorem ty_3_2 : mm_ty 3 2 = .int := rfl
theorem pi_3_3 (n : Nat) (r : Nat → Option Nat) (f : Nat → Int32) (v : Int32) : p1 (mk_c (3, n, r) f) 3 3 (.int v) = some (mk_c (3, n, r) (upd f 3 v)) := rfl
theorem fn_3_3 : mm_fin 3 3 = false := by decide +kernel
theorem ty_3_3 : mm_ty 3 3 = .int := rfl
theorem pr_3_4 (n b : Nat) (l : List (Nat × Nat)) (f : Nat → Int32) : p1 (mk_c (3, n, rl l) f) 3 4 (.ref b) = some (mk_c (3, n, rl ((4, b) :: l)) f) := by rw [← rl_up]; rfl
theorem pi_3_5 (n : Nat) (r : Nat → Option Nat) (f : Nat → Int32) (v : Int32) : p1 (mk_c (3, n, r) f) 3 5 (.int v) = some (mk_c (3, n, r) (upd f 5 v)) := rfl
theorem fn_3_5 : mm_fin 3 5 = false := by decide +kernel
theorem ty_3_5 : mm_ty 3 5 = .int := rfl
theorem pi_3_6 (n : Nat) (r : Nat → Option Nat) (f : Nat → Int32) (v : Int32) : p1 (mk_c (3, n, r) f) 3 6 (.int v) = some (mk_c (3, n, r) (upd f 6 v)) := rfl
theorem fn_3_6 : mm_fin 3 6 = false := by decide +kernel
theorem ty_3_6 : mm_ty 3 6 = .int := rfl
theorem pi_3_7 (n : Nat) (r : Nat → Option Nat) (f : Nat → Int32) (v : Int32) : p1 (mk_c (3, n, r) f) 3 7 (.int v) = some (mk_c (3, n, r) (upd f 7 v)) := rfl
theorem fn_3_7 : mm_fin 3 7 = false := by decide +kernel
theorem ty_3_7 : mm_ty 3 7 = .int := rfl
theorem pi_3_8 (n : Nat) (r : Nat → Option Nat) (f : Nat → Int32) (v : Int32) : p1 (mk_c (3, n, r) f) 3 8 (.int v) = some (mk_c (3, n, r) (upd f 8 v)) := rfl
theorem fn_3_8 : mm_fin 3 8 = false := by decide +kernel
theorem ty_3_8 : mm_ty 3 8 = .int := rfl
theorem pi_3_9 (n : Nat) (r : Nat → Option Nat) (f : Nat → Int32) (v : Int32) : p1 (mk_c (3, n, r) f) 3 9 (.int v) = some (mk_c (3, n, r) (upd f 9 v)) := rfl
theorem fn_3_9 : mm_fin 3 9 = false := by decide +kernel
theorem ty_3_9 : mm_ty 3 9 = .int := rfl
theorem pi_3_10 (n : Nat) (r : Nat → Option Nat) (f : Nat → Int32) (v : Int32) : p1 (mk_c (3, n, r) f) 3 10 (.int v) = some (mk_c (3, n, r) (upd f 10 v)) := rfl
theorem fn_3_10 : mm_fin 3 10 = false := by decide +kernel
theorem ty_3_10 : mm_ty 3 10 = .int := rfl
theorem pi_3_11 (n : Nat) (r : Nat → Option Nat) (f : Nat → Int32) (v : Int32) : p1 (mk_c (3, n, r) f) 3 11 (.int v) = some (mk_c (3, n, r) (upd f 11 v)) := rfl
theorem fn_3_11 : mm_fin 3 11 = false := by decide +kernel
theorem ty_3_11 : mm_ty 3 11 = .int := rfl
theorem pr_4_0 (n b : Nat) (l : List (Nat × Nat)) (f : Nat → Int32) : p1 (mk_c (4, n, rl l) f) 4 0 (.ref b) = some (mk_c (4, n, rl ((0, b) :: l)) f) := by rw [← rl_up]; rfl
theorem pi_5_0 (n : Nat) (r : Nat → Option Nat) (f : Nat → Int32) (v : Int32) : p1 (mk_c (5, n, r) f) 5 0 (.int v) = some (mk_c (5, n, r) (upd f 0 v)) := rfl
theorem fn_5_0 : mm_fin 5 0 = false := by decide +kernel
theorem ty_5_0 : mm_ty 5 0 = .int := rfl
theorem pi_5_1 (n : Nat) (r : Nat → Option Nat) (f : Nat → Int32) (v : Int32) : p1 (mk_c (5, n, r) f) 5 1 (.int v) = some (mk_c (5, n, r) (upd f 1 v)) := rfl
theorem fn_5_1 : mm_fin 5 1 = false := by decide +kernel
theorem ty_5_1 : mm_ty 5 1 = .int := rfl
theorem pr_5_2 (n b : Nat) (l : List (Nat × Nat)) (f : Nat → Int32) : p1 (mk_c (5, n, rl l) f) 5 2 (.ref b) = some (mk_c (5, n, rl ((2, b) :: l)) f) := by rw [← rl_up]; rfl
theorem pr_5_3 (n b : Nat) (l : List (Nat × Nat)) (f : Nat → Int32) : p1 (mk_c (5, n, rl l) f) 5 3 (.ref b) = some (mk_c (5, n, rl ((3, b) :: l)) f) := by rw [← rl_up]; rfl
theorem pr_5_4 (n b : Nat) (l : List (Nat × Nat)) (f : Nat → Int32) : p1 (mk_c (5, n, rl l) f) 5 4 (.ref b) = some (mk_c (5, n, rl ((4, b) :: l)) f) := by rw [← rl_up]; rfl
theorem pr_5_5 (n b : Nat) (l : List (Nat × Nat)) (f : Nat → Int32) : p1 (mk_c (5, n, rl l) f) 5 5 (.ref b) = some (mk_c (5, n, rl ((5, b) :: l)) f) := by rw [← rl_up]; rfl
theorem pr_6_0 (n b : Nat) (l : List (Nat × Nat)) (f : Nat → Int32) : p1 (mk_c (6, n, rl l) f) 6 0 (.ref b) = some (mk_c (6, n, rl ((0, b) :: l)) f) := by rw [← rl_up]; rfl
theorem fn_6_0 : mm_fin 6 0 = false := by decide +kernel
theorem pi_6_1 (n : Nat) (r : Nat → Option Nat) (f : Nat → Int32) (v : Int32) : p1 (mk_c (6, n, r) f) 6 1 (.int v) = some (mk_c (6, n, r) (upd f 1 v)) := rfl
theorem fn_6_1 : mm_fin 6 1 = false := by decide +kernel
theorem ty_6_1 : mm_ty 6 1 = .int := rfl
theorem pi_6_2 (n : Nat) (r : Nat → Option Nat) (f : Nat → Int32) (v : Int32) : p1 (mk_c (6, n, r) f) 6 2 (.int v) = some (mk_c (6, n, r) (upd f 2 v)) := rfl
theorem fn_6_2 : mm_fin 6 2 = false := by decide +kernel
theorem ty_6_2 : mm_ty 6 2 = .int := rfl
theorem pr_7_0 (n b : Nat) (l : List (Nat × Nat)) (f : Nat → Int32) : p1 (mk_c (7, n, rl l) f) 7 0 (.ref b) = some (mk_c (7, n, rl ((0, b) :: l)) f) := by rw [← rl_up]; rfl
theorem pi_7_1 (n : Nat) (r : Nat → Option Nat) (f : Nat → Int32) (v : Int32) : p1 (mk_c (7, n, r) f) 7 1 (.int v) = some (mk_c (7, n, r) (upd f 1 v)) := rfl
theorem fn_7_1 : mm_fin 7 1 = false := by decide +kernel
theorem ty_7_1 : mm_ty 7 1 = .int := rfl
theorem pr_7_2 (n b : Nat) (l : List (Nat × Nat)) (f : Nat → Int32) : p1 (mk_c (7, n, rl l) f) 7 2 (.ref b) = some (mk_c (7, n, rl ((2, b) :: l)) f) := by rw [← rl_up]; rfl
theorem pr_7_3 (n b : Nat) (l : List (Nat × Nat)) (f : Nat → Int32) : p1 (mk_c (7, n, rl l) f) 7 3 (.ref b) = some (mk_c (7, n, rl ((3, b) :: l)) f) := by rw [← rl_up]; rfl
theorem pr_7_4 (n b : Nat) (l : List (Nat × Nat)) (f : Nat → Int32) : p1 (mk_c (7, n, rl l) f) 7 4 (.ref b) = some (mk_c (7, n, rl ((4, b) :: l)) f) := by rw [← rl_up]; rfl
theorem pr_7_5 (n b : Nat) (l : List (Nat × Nat)) (f : Nat → Int32) : p1 (mk_c (7, n, rl l) f) 7 5 (.ref b) = some (mk_c (7, n, rl ((5, b) :: l)) f) := by rw [← rl_up]; rfl
theorem pr_7_6 (n b : Nat) (l : List (Nat × Nat)) (f : Nat → Int32) : p1 (mk_c (7, n, rl l) f) 7 6 (.ref b) = some (mk_c (7, n, rl ((6, b) :: l)) f) := by rw [← rl_up]; rfl
theorem pr_7_7 (n b : Nat) (l : List (Nat × Nat)) (f : Nat → Int32) : p1 (mk_c (7, n, rl l) f) 7 7 (.ref b) = some (mk_c (7, n, rl ((7, b) :: l)) f) := by rw [← rl_up]; rfl
theorem pr_7_8 (n b : Nat) (l : List (Nat × Nat)) (f : Nat → Int32) : p1 (mk_c (7, n, rl l) f) 7 8 (.ref b) = some (mk_c (7, n, rl ((8, b) :: l)) f) := by rw [← rl_up]; rfl
theorem pr_7_9 (n b : Nat) (l : List (Nat × Nat)) (f : Nat → Int32) : p1 (mk_c (7, n, rl l) f) 7 9 (.ref b) = some (mk_c (7, n, rl ((9, b) :: l)) f) := by rw [← rl_up]; rfl
theorem pr_7_10 (n b : Nat) (l : List (Nat × Nat)) (f : Nat → Int32) : p1 (mk_c (7, n, rl l) f) 7 10 (.ref b) = some (mk_c (7, n, rl ((10, b) :: l)) f) := by rw [← rl_up]; rfl
theorem pr_7_11 (n b : Nat) (l : List (Nat × Nat)) (f : Nat → Int32) : p1 (mk_c (7, n, rl l) f) 7 11 (.ref b) = some (mk_c (7, n, rl ((11, b) :: l)) f) := by rw [← rl_up]; rfl
theorem pr_7_12 (n b : Nat) (l : List (Nat × Nat)) (f : Nat → Int32) : p1 (mk_c (7, n, rl l) f) 7 12 (.ref b) = some (mk_c (7, n, rl ((12, b) :: l)) f) := by rw [← rl_up]; rfl
theorem pr_7_13 (n b : Nat) (l : List (Nat × Nat)) (f : Nat → Int32) : p1 (mk_c (7, n, rl l) f) 7 13 (.ref b) = some (mk_c (7, n, rl ((13, b) :: l)) f) := by rw [← rl_up]; rfl
theorem pi_7_14 (n : Nat) (r : Nat → Option Nat) (f : Nat → Int32) (v : Int32) : p1 (mk_c (7, n, r) f) 7 14 (.int v) = some (mk_c (7, n, r) (upd f 14 v)) := rfl
theorem fn_7_14 : mm_fin 7 14 = false := by decide +kernel
theorem ty_7_14 : mm_ty 7 14 = .int := rfl
theorem pr_8_0 (n b : Nat) (l : List (Nat × Nat)) (f : Nat → Int32) : p1 (mk_c (8, n, rl l) f) 8 0 (.ref b) = some (mk_c (8, n, rl ((0, b) :: l)) f) := by rw [← rl_up]; rfl
theorem pr_8_1 (n b : Nat) (l : List (Nat × Nat)) (f : Nat → Int32) : p1 (mk_c (8, n, rl l) f) 8 1 (.ref b) = some (mk_c (8, n, rl ((1, b) :: l)) f) := by rw [← rl_up]; rfl
theorem pr_8_2 (n b : Nat) (l : List (Nat × Nat)) (f : Nat → Int32) : p1 (mk_c (8, n, rl l) f) 8 2 (.ref b) = some (mk_c (8, n, rl ((2, b) :: l)) f) := by rw [← rl_up]; rfl
theorem pr_8_3 (n b : Nat) (l : List (Nat × Nat)) (f : Nat → Int32) : p1 (mk_c (8, n, rl l) f) 8 3 (.ref b) = some (mk_c (8, n, rl ((3, b) :: l)) f) := by rw [← rl_up]; rfl
theorem pr_8_4 (n b : Nat) (l : List (Nat × Nat)) (f : Nat → Int32) : p1 (mk_c (8, n, rl l) f) 8 4 (.ref b) = some (mk_c (8, n, rl ((4, b) :: l)) f) := by rw [← rl_up]; rfl
theorem pr_8_5 (n b : Nat) (l : List (Nat × Nat)) (f : Nat → Int32) : p1 (mk_c (8, n, rl l) f) 8 5 (.ref b) = some (mk_c (8, n, rl ((5, b) :: l)) f) := by rw [← rl_up]; rfl
theorem pr_8_6 (n b : Nat) (l : List (Nat × Nat)) (f : Nat → Int32) : p1 (mk_c (8, n, rl l) f) 8 6 (.ref b) = some (mk_c (8, n, rl ((6, b) :: l)) f) := by rw [← rl_up]; rfl
theorem pi_9_0 (n : Nat) (r : Nat → Option Nat) (f : Nat → Int32) (v : Int32) : p1 (mk_c (9, n, r) f) 9 0 (.int v) = some (mk_c (9, n, r) (upd f 0 v)) := rfl
theorem ty_9_0 : mm_ty 9 0 = .int := rfl
theorem pi_9_1 (n : Nat) (r : Nat → Option Nat) (f : Nat → Int32) (v : Int32) : p1 (mk_c (9, n, r) f) 9 1 (.int v) = some (mk_c (9, n, r) (upd f 1 v)) := rfl
theorem ty_9_1 : mm_ty 9 1 = .int := rfl
theorem pi_9_2 (n : Nat) (r : Nat → Option Nat) (f : Nat → Int32) (v : Int32) : p1 (mk_c (9, n, r) f) 9 2 (.int v) = some (mk_c (9, n, r) (upd f 2 v)) := rfl
theorem ty_9_2 : mm_ty 9 2 = .int := rfl
theorem pi_9_3 (n : Nat) (r : Nat → Option Nat) (f : Nat → Int32) (v : Int32) : p1 (mk_c (9, n, r) f) 9 3 (.int v) = some (mk_c (9, n, r) (upd f 3 v)) := rfl
theorem ty_9_3 : mm_ty 9 3 = .int := rfl
theorem pi_9_4 (n : Nat) (r : Nat → Option Nat) (f : Nat → Int32) (v : Int32) : p1 (mk_c (9, n, r) f) 9 4 (.int v) = some (mk_c (9, n, r) (upd f 4 v)) := rfl
theorem ty_9_4 : mm_ty 9 4 = .int := rfl
theorem pi_9_5 (n : Nat) (r : Nat → Option Nat) (f : Nat → Int32) (v : Int32) : p1 (mk_c (9, n, r) f) 9 5 (.int v) = some (mk_c (9, n, r) (upd f 5 v)) := rfl
theorem fn_9_5 : mm_fin 9 5 = false := by decide +kernel
theorem ty_9_5 : mm_ty 9 5 = .int := rfl
theorem pr_9_6 (n b : Nat) (l : List (Nat × Nat)) (f : Nat → Int32) : p1 (mk_c (9, n, rl l) f) 9 6 (.ref b) = some (mk_c (9, n, rl ((6, b) :: l)) f) := by rw [← rl_up]; rfl
theorem pi_10_0 (n : Nat) (r : Nat → Option Nat) (f : Nat → Int32) (v : Int32) : p1 (mk_c (10, n, r) f) 10 0 (.int v) = some (mk_c (10, n, r) (upd f 0 v)) := rfl
theorem ty_10_0 : mm_ty 10 0 = .int := rfl
theorem pi_10_1 (n : Nat) (r : Nat → Option Nat) (f : Nat → Int32) (v : Int32) : p1 (mk_c (10, n, r) f) 10 1 (.int v) = some (mk_c (10, n, r) (upd f 1 v)) := rfl
theorem ty_10_1 : mm_ty 10 1 = .int := rfl
theorem pi_10_2 (n : Nat) (r : Nat → Option Nat) (f : Nat → Int32) (v : Int32) : p1 (mk_c (10, n, r) f) 10 2 (.int v) = some (mk_c (10, n, r) (upd f 2 v)) := rfl
theorem ty_10_2 : mm_ty 10 2 = .int := rfl
theorem pi_10_3 (n : Nat) (r : Nat → Option Nat) (f : Nat → Int32) (v : Int32) : p1 (mk_c (10, n, r) f) 10 3 (.int v) = some (mk_c (10, n, r) (upd f 3 v)) := rfl
theorem ty_10_3 : mm_ty 10 3 = .int := rfl
theorem pi_10_4 (n : Nat) (r : Nat → Option Nat) (f : Nat → Int32) (v : Int32) : p1 (mk_c (10, n, r) f) 10 4 (.int v) = some (mk_c (10, n, r) (upd f 4 v)) := rfl
theorem ty_10_4 : mm_ty 10 4 = .int := rfl
theorem pi_10_5 (n : Nat) (r : Nat → Option Nat) (f : Nat → Int32) (v : Int32) : p1 (mk_c (10, n, r) f) 10 5 (.int v) = some (mk_c (10, n, r) (upd f 5 v)) := rfl
theorem ty_10_5 : mm_ty 10 5 = .int := rfl
theorem pi_10_6 (n : Nat) (r : Nat → Option Nat) (f : Nat → Int32) (v : Int32) : p1 (mk_c (10, n, r) f) 10 6 (.int v) = some (mk_c (10, n, r) (upd f 6 v)) := rfl
theorem ty_10_6 : mm_ty 10 6 = .int := rfl
theorem pi_10_7 (n : Nat) (r : Nat → Option Nat) (f : Nat → Int32) (v : Int32) : p1 (mk_c (10, n, r) f) 10 7 (.int v) = some (mk_c (10, n, r) (upd f 7 v)) := rfl
theorem ty_10_7 : mm_ty 10 7 = .int := rfl
theorem pr_10_8 (n b : Nat) (l : List (Nat × Nat)) (f : Nat → Int32) : p1 (mk_c (10, n, rl l) f) 10 8 (.ref b) = some (mk_c (10, n, rl ((8, b) :: l)) f) := by rw [← rl_up]; rfl
theorem pr_10_9 (n b : Nat) (l : List (Nat × Nat)) (f : Nat → Int32) : p1 (mk_c (10, n, rl l) f) 10 9 (.ref b) = some (mk_c (10, n, rl ((9, b) :: l)) f) := by rw [← rl_up]; rfl
theorem pi_11_0 (n : Nat) (r : Nat → Option Nat) (f : Nat → Int32) (v : Int32) : p1 (mk_c (11, n, r) f) 11 0 (.int v) = some (mk_c (11, n, r) (upd f 0 v)) := rfl
theorem ty_11_0 : mm_ty 11 0 = .int := rfl
theorem pi_11_1 (n : Nat) (r : Nat → Option Nat) (f : Nat → Int32) (v : Int32) : p1 (mk_c (11, n, r) f) 11 1 (.int v) = some (mk_c (11, n, r) (upd f 1 v)) := rfl
theorem ty_11_1 : mm_ty 11 1 = .int := rfl
theorem pi_11_2 (n : Nat) (r : Nat → Option Nat) (f : Nat → Int32) (v : Int32) : p1 (mk_c (11, n, r) f) 11 2 (.int v) = some (mk_c (11, n, r) (upd f 2 v)) := rfl
theorem ty_11_2 : mm_ty 11 2 = .int := rfl
theorem pi_11_3 (n : Nat) (r : Nat → Option Nat) (f : Nat → Int32) (v : Int32) : p1 (mk_c (11, n, r) f) 11 3 (.int v) = some (mk_c (11, n, r) (upd f 3 v)) := rfl
theorem ty_11_3 : mm_ty 11 3 = .int := rfl
theorem pi_11_4 (n : Nat) (r : Nat → Option Nat) (f : Nat → Int32) (v : Int32) : p1 (mk_c (11, n, r) f) 11 4 (.int v) = some (mk_c (11, n, r) (upd f 4 v)) := rfl
theorem ty_11_4 : mm_ty 11 4 = .int := rfl
theorem pr_11_5 (n b : Nat) (l : List (Nat × Nat)) (f : Nat → Int32) : p1 (mk_c (11, n, rl l) f) 11 5 (.ref b) = some (mk_c (11, n, rl ((5, b) :: l)) f) := by rw [← rl_up]; rfl
theorem pr_11_6 (n b : Nat) (l : List (Nat × Nat)) (f : Nat → Int32) : p1 (mk_c (11, n, rl l) f) 11 6 (.ref b) = some (mk_c (11, n, rl ((6, b) :: l)) f) := by rw [← rl_up]; rfl
theorem pi_11_7 (n : Nat) (r : Nat → Option Nat) (f : Nat → Int32) (v : Int32) : p1 (mk_c (11, n, r) f) 11 7 (.int v) = some (mk_c (11, n, r) (upd f 7 v)) := rfl
theorem fn_11_7 : mm_fin 11 7 = false := by decide +kernel
theorem ty_11_7 : mm_ty 11 7 = .int := rfl
theorem pi_11_8 (n : Nat) (r : Nat → Option Nat) (f : Nat → Int32) (v : Int32) : p1 (mk_c (11, n, r) f) 11 8 (.int v) = some (mk_c (11, n, r) (upd f 8 v)) := rfl
theorem fn_11_8 : mm_fin 11 8 = false := by decide +kernel
theorem ty_11_8 : mm_ty 11 8 = .int := rfl
theorem pi_11_9 (n : Nat) (r : Nat → Option Nat) (f : Nat → Int32) (v : Int32) : p1 (mk_c (11, n, r) f) 11 9 (.int v) = some (mk_c (11, n, r) (upd f 9 v)) := rfl
theorem fn_11_9 : mm_fin 11 9 = false := by decide +kernel
theorem ty_11_9 : mm_ty 11 9 = .int := rfl
theorem pi_11_10 (n : Nat) (r : Nat → Option Nat) (f : Nat → Int32) (v : Int32) : p1 (mk_c (11, n, r) f) 11 10 (.int v) = some (mk_c (11, n, r) (upd f 10 v)) := rfl
theorem fn_11_10 : mm_fin 11 10 = false := by decide +kernel
theorem ty_11_10 : mm_ty 11 10 = .int := rfl
theorem pi_12_0 (n : Nat) (r : Nat → Option Nat) (f : Nat → Int32) (v : Int32) : p1 (mk_c (12, n, r) f) 12 0 (.int v) = some (mk_c (12, n, r) (upd f 0 v)) := rfl
theorem ty_12_0 : mm_ty 12 0 = .int := rfl
theorem pi_12_1 (n : Nat) (r : Nat → Option Nat) (f : Nat → Int32) (v : Int32) : p1 (mk_c (12, n, r) f) 12 1 (.int v) = some (mk_c (12, n, r) (upd f 1 v)) := rfl
theorem ty_12_1 : mm_ty 12 1 = .int := rfl
theorem pi_12_2 (n : Nat) (r : Nat → Option Nat) (f : Nat → Int32) (v : Int32) : p1 (mk_c (12, n, r) f) 12 2 (.int v) = some (mk_c (12, n, r) (upd f 2 v)) := rfl
theorem ty_12_2 : mm_ty 12 2 = .int := rfl
theorem pi_12_3 (n : Nat) (r : Nat → Option Nat) (f : Nat → Int32) (v : Int32) : p1 (mk_c (12, n, r) f) 12 3 (.int v) = some (mk_c (12, n, r) (upd f 3 v)) := rfl
theorem ty_12_3 : mm_ty 12 3 = .int := rfl
theorem pi_12_4 (n : Nat) (r : Nat → Option Nat) (f : Nat → Int32) (v : Int32) : p1 (mk_c (12, n, r) f) 12 4 (.int v) = some (mk_c (12, n, r) (upd f 4 v)) := rfl
theorem fn_12_4 : mm_fin 12 4 = false := by decide +kernel
theorem ty_12_4 : mm_ty 12 4 = .boolean := rfl
section HRU
variable {d o nL pc : Nat} {ini : Bool} {b : ByteArray} {ret : Option FieldType} {ls : List (Nat × Value)} {st : List Value} {M : mH} {T : Nat → mT} {cs : Nat → Nat → Int32} {R : Option Value × mH → Prop}
theorem h_get {x a ci k : Nat} {t : mT} {v : Value} (hx : mm_fr o x = some (ci, k)) (hT : T a = t) (ha : inC M a) (hv : g1 (mk_c t (cs a)) ci k = some v) (hd : decode b pc = .ok (.getfield x, 3)) (kk : mm_Ru d (o, nL, ini, b, ret) (pc + 3) ls (v :: st) (hk M T cs) R) : mm_Ru d (o, nL, ini, b, ret) pc ls (.ref a :: st) (hk M T cs) R := r_getf ((hk_gf hx ha).trans (by rw [hT]; exact hv)) hd kk
theorem h_pint {x a ci k : Nat} {t : mT} {v : Int32} (hx : mm_fr o x = some (ci, k)) (hT : T a = t) (ha : inC M a) (hf : mm_fin ci k = false ∨ (ini = true ∧ o = ci)) (ht : mm_ty ci k = .int) (hs : p1 (mk_c t (cs a)) ci k (.int v) = some (mk_c t (upd (cs a) k v))) (hd : decode b pc = .ok (.putfield x, 3)) (kk : mm_Ru d (o, nL, ini, b, ret) (pc + 3) ls st (hk M T (w1 cs a k v)) R) : mm_Ru d (o, nL, ini, b, ret) pc ls (.int v :: .ref a :: st) (hk M T cs) R := by
  subst hT
  refine r_putf ((hk_pf hx ha hf (by rw [ht]; rfl) (by rw [ht]; rfl) hs).trans ?_) hd kk
  rw [hk_wri ha, w1_asA]
theorem h_pboo {x a ci k : Nat} {t : mT} {v : Int32} (hx : mm_fr o x = some (ci, k)) (hT : T a = t) (ha : inC M a) (hf : mm_fin ci k = false ∨ (ini = true ∧ o = ci)) (hn : narrow (mm_ty ci k) (.int v) = .int v) (hft : fits (mm_ty ci k) (.int v) = true) (hs : p1 (mk_c t (cs a)) ci k (.int v) = some (mk_c t (upd (cs a) k v))) (hd : decode b pc = .ok (.putfield x, 3)) (kk : mm_Ru d (o, nL, ini, b, ret) (pc + 3) ls st (hk M T (w1 cs a k v)) R) : mm_Ru d (o, nL, ini, b, ret) pc ls (.int v :: .ref a :: st) (hk M T cs) R := by
  subst hT
  refine r_putf ((hk_pf hx ha hf hn hft hs).trans ?_) hd kk
  rw [hk_wri ha, w1_asA]
theorem h_pref {x a ci k y : Nat} {t t2 : mT} (hx : mm_fr o x = some (ci, k)) (hT : T a = t) (ha : inC M a) (hf : mm_fin ci k = false ∨ (ini = true ∧ o = ci)) (hn : narrow (mm_ty ci k) (.ref y) = .ref y) (hft : fits (mm_ty ci k) (.ref y) = true) (hs : p1 (mk_c t (cs a)) ci k (.ref y) = some (mk_c t2 (cs a))) (hd : decode b pc = .ok (.putfield x, 3)) (kk : mm_Ru d (o, nL, ini, b, ret) (pc + 3) ls st (hk M (va_up T a t2) cs) R) : mm_Ru d (o, nL, ini, b, ret) pc ls (.ref y :: .ref a :: st) (hk M T cs) R := by
  subst hT
  refine r_putf ((hk_pf hx ha hf hn hft hs).trans ?_) hd kk
  rw [hk_wrT ha]
theorem h_ild {a n e : Nat} {r : Nat → Option Nat} {v : Int32} (hT : T a = (20, n, r)) (ha : inC M a) (he : e < n) (hb : e < 2 ^ 31) (hv : cs a e = v) (hd : decode b pc = .ok (.iaload, 1)) (kk : mm_Ru d (o, nL, ini, b, ret) (pc + 1) ls (.int v :: st) (hk M T cs) R) : mm_Ru d (o, nL, ini, b, ret) pc ls (.int (nI e) :: .ref a :: st) (hk M T cs) R := r_iaload ((hk_ai hT ha he hb).trans (congrArg some hv)) hd kk
theorem h_ist {a n e : Nat} {r : Nat → Option Nat} {v : Int32} (hT : T a = (20, n, r)) (ha : inC M a) (he : e < n) (hb : e < 2 ^ 31) (hd : decode b pc = .ok (.iastore, 1)) (kk : mm_Ru d (o, nL, ini, b, ret) (pc + 1) ls st (hk M T (w1 cs a e v)) R) : mm_Ru d (o, nL, ini, b, ret) pc ls (.int v :: .int (nI e) :: .ref a :: st) (hk M T cs) R := r_iastore (hk_pi hT ha he hb) hd kk
theorem h_aal {a n c e y : Nat} {r : Nat → Option Nat} (hT : T a = (c, n, r)) (hc : c = 23 ∨ c = 24) (ha : inC M a) (he : e < n) (hb : e < 2 ^ 31) (hr : r e = some y) (hd : decode b pc = .ok (.aaload, 1)) (kk : mm_Ru d (o, nL, ini, b, ret) (pc + 1) ls (.ref y :: st) (hk M T cs) R) : mm_Ru d (o, nL, ini, b, ret) pc ls (.int (nI e) :: .ref a :: st) (hk M T cs) R := r_aaload ((hk_aa hT hc ha he hb).trans (congrArg some hr)) hd kk
theorem h_len {a n c : Nat} {r : Nat → Option Nat} (hT : T a = (c, n, r)) (hc : c = 20 ∨ c = 23 ∨ c = 24) (ha : inC M a) (hd : decode b pc = .ok (.arraylength, 1)) (kk : mm_Ru d (o, nL, ini, b, ret) (pc + 1) ls (.int (nI n) :: st) (hk M T cs) R) : mm_Ru d (o, nL, ini, b, ret) pc ls (.ref a :: st) (hk M T cs) R := r_alen (hk_lg hT hc ha) hd kk
theorem h_callv {k j a : Nat} {t : mT} {i : Instr} {as rest : List Value} {v : Value} {M1 : mH} {len : Nat} (hl : len = mm_len i len) (hr : mm_isret i = false) (hv : mm_iv o i = some (k, j)) (hk1 : k = 1 ∨ k = 4 ∨ k = 6) (hn : mm_nas k j = as.length + 1) (hT : T a = t) (ha : inC M a) (h14 : t.1 < 14) (hj : mm_o j = t.1) (hst : st = as.reverse ++ .ref a :: rest) (hsum : mm_sum rest ≤ 8) (hd : decode b pc = .ok (i, len)) (hc : mm_Ev d j (.ref a :: as) (hk M T cs) (some v, M1)) (kk : mm_Ru d (o, nL, ini, b, ret) (pc + (if k = 6 then 5 else 3)) ls (v :: rest) M1 R) : mm_Ru d (o, nL, ini, b, ret) pc ls st (hk M T cs) R := r_call (C := (o, nL, ini, b, ret)) (as := .ref a :: as) (rest := rest) hd hl hr hv (by rcases hk1 with h | h | h <;> rw [h] <;> rfl) (by rw [hst]; simp) hn hsum (hk_rc hT ha h14 hj hk1) hc kk
theorem h_call0 {k j a : Nat} {t : mT} {i : Instr} {as rest : List Value} {M1 : mH} {len : Nat} (hl : len = mm_len i len) (hr : mm_isret i = false) (hv : mm_iv o i = some (k, j)) (hk1 : k = 1 ∨ k = 4 ∨ k = 6) (hn : mm_nas k j = as.length + 1) (hT : T a = t) (ha : inC M a) (h14 : t.1 < 14) (hj : mm_o j = t.1) (hst : st = as.reverse ++ .ref a :: rest) (hsum : mm_sum rest ≤ 8) (hd : decode b pc = .ok (i, len)) (hc : mm_Ev d j (.ref a :: as) (hk M T cs) (none, M1)) (kk : mm_Ru d (o, nL, ini, b, ret) (pc + (if k = 6 then 5 else 3)) ls rest M1 R) : mm_Ru d (o, nL, ini, b, ret) pc ls st (hk M T cs) R := r_call (C := (o, nL, ini, b, ret)) (as := .ref a :: as) (rest := rest) hd hl hr hv (by rcases hk1 with h | h | h <;> rw [h] <;> rfl) (by rw [hst]; simp) hn hsum (hk_rc hT ha h14 hj hk1) hc kk
theorem h_callS {k j : Nat} {i : Instr} {as rest : List Value} {v : Value} {N M1 : mH} {len : Nat} (hl : len = mm_len i len) (hr : mm_isret i = false) (hv : mm_iv o i = some (k, j)) (hk1 : k = 0 ∨ k = 3) (hn : mm_nas k j = as.length) (hst : st = as.reverse ++ rest) (hsum : mm_sum rest ≤ 8) (hd : decode b pc = .ok (i, len)) (hc : mm_Ev d j as N (some v, M1)) (kk : mm_Ru d (o, nL, ini, b, ret) (pc + 3) ls (v :: rest) M1 R) : mm_Ru d (o, nL, ini, b, ret) pc ls st N R := r_call (C := (o, nL, ini, b, ret)) (as := as) (rest := rest) hd hl hr hv (by rcases hk1 with h | h <;> rw [h] <;> rfl) hst hn hsum (by rcases hk1 with h | h <;> rw [h] <;> rfl) hc (by rcases hk1 with h | h <;> (subst h; exact kk))
theorem h_callS0 {k j : Nat} {i : Instr} {as rest : List Value} {N M1 : mH} {len : Nat} (hl : len = mm_len i len) (hr : mm_isret i = false) (hv : mm_iv o i = some (k, j)) (hk1 : k = 0 ∨ k = 3) (hn : mm_nas k j = as.length) (hst : st = as.reverse ++ rest) (hsum : mm_sum rest ≤ 8) (hd : decode b pc = .ok (i, len)) (hc : mm_Ev d j as N (none, M1)) (kk : mm_Ru d (o, nL, ini, b, ret) (pc + 3) ls rest M1 R) : mm_Ru d (o, nL, ini, b, ret) pc ls st N R := r_call (C := (o, nL, ini, b, ret)) (as := as) (rest := rest) hd hl hr hv (by rcases hk1 with h | h <;> rw [h] <;> rfl) hst hn hsum (by rcases hk1 with h | h <;> rw [h] <;> rfl) hc (by rcases hk1 with h | h <;> (subst h; exact kk))
theorem h_callI {k j a : Nat} {i : Instr} {as rest : List Value} {N M1 : mH} {len : Nat} (hl : len = mm_len i len) (hr : mm_isret i = false) (hv : mm_iv o i = some (k, j)) (hk1 : k = 2 ∨ k = 5) (hn : mm_nas k j = as.length + 1) (hst : st = as.reverse ++ .ref a :: rest) (hsum : mm_sum rest ≤ 8) (hd : decode b pc = .ok (i, len)) (hc : mm_Ev d j (.ref a :: as) N (none, M1)) (kk : mm_Ru d (o, nL, ini, b, ret) (pc + 3) ls rest M1 R) : mm_Ru d (o, nL, ini, b, ret) pc ls st N R := r_call (C := (o, nL, ini, b, ret)) (as := .ref a :: as) (rest := rest) hd hl hr hv (by rcases hk1 with h | h <;> rw [h] <;> rfl) (by rw [hst]; simp) hn hsum (by rcases hk1 with h | h <;> rw [h] <;> rfl) hc (by rcases hk1 with h | h <;> (subst h; exact kk))
theorem h_cast {x a c : Nat} {t : mT} (hT : T a = t) (ha : inC M a) (h14 : t.1 < 14) (hx : mm_kr o x = some c) (hc : t.1 = c) (hd : decode b pc = .ok (.checkcast x, 3)) (kk : mm_Ru d (o, nL, ini, b, ret) (pc + 3) ls (.ref a :: st) (hk M T cs) R) : mm_Ru d (o, nL, ini, b, ret) pc ls (.ref a :: st) (hk M T cs) R := r_st (C := (o, nL, ini, b, ret)) hd rfl rfl rfl (by
  simp only [mm_st]
  rw [if_pos (show a < (hk M T cs).1 from ha.1), hk_at ha, hT, mk_ob h14]
  dsimp only
  rw [if_pos (hx.trans (congrArg some hc.symm))]) kk
theorem r_aret {a : Nat} (hr : (match ret with
    | some (.object _) => true
    | some (.array _) => true
    | _ => false) = true) {N : mH} (hd : decode b pc = .ok (.areturn, 1)) (hR : R (some (.ref a), N)) : mm_Ru d (o, nL, ini, b, ret) pc ls [.ref a] N R := r_ret (C := (o, nL, ini, b, ret)) hd rfl rfl (by
  unfold mm_rt
  dsimp only
  split at hr
  · rfl
  · rfl
  · cases hr) hR
theorem r_aretZ (hr : (match ret with
    | some (.object _) => true
    | some (.array _) => true
    | _ => false) = true) {N : mH} (hd : decode b pc = .ok (.areturn, 1)) (hR : R (some .null, N)) : mm_Ru d (o, nL, ini, b, ret) pc ls [.null] N R := r_ret (C := (o, nL, ini, b, ret)) hd rfl rfl (by
  unfold mm_rt
  dsimp only
  split at hr
  · rfl
  · rfl
  · cases hr) hR
theorem h_new {x c nf : Nat} (hx : mm_kr o x = some c) (hm : M.1 < 1000000) (hM : ¬ (100 ≤ M.1 ∧ M.1 < 157)) (hc : (Sum.inr (c, mm_df c) : va_E) = mk_c (c, 0, fun _ => none) (fun _ => 0)) (hnf : (mm_df c).length = nf) (hd : decode b pc = .ok (.new x, 3)) (kk : mm_Ru d (o, nL, ini, b, ret) (pc + 3) ls (.ref M.1 :: st) (hk (mnew M nf) (va_up T M.1 (c, 0, fun _ => none)) (wA cs M.1 (fun _ => 0))) R) : mm_Ru d (o, nL, ini, b, ret) pc ls st (hk M T cs) R := r_st (C := (o, nL, ini, b, ret)) hd rfl rfl rfl (by
  simp only [mm_st, hx]
  rw [if_pos (show (hk M T cs).1 < 1000000 from hm), hc, hk_al hM, hnf]
  rfl) kk
theorem h_newi {n : Nat} (hm : M.1 < 1000000) (hM : ¬ (100 ≤ M.1 ∧ M.1 < 157)) (hn : n ≤ 100000) (hd : decode b pc = .ok (.newarray .int, 2)) (kk : mm_Ru d (o, nL, ini, b, ret) (pc + 2) ls (.ref M.1 :: st) (hk (mnew M n) (va_up T M.1 (20, n, fun _ => none)) (wA cs M.1 (fun _ => 0))) R) : mm_Ru d (o, nL, ini, b, ret) pc ls (.int (nI n) :: st) (hk M T cs) R := r_st (C := (o, nL, ini, b, ret)) hd rfl rfl rfl (by
  simp only [mm_st, mm_tag]
  have e := nI_clamp (show n < 2 ^ 31 by omega)
  rw [e, if_pos ⟨nI_pos (by omega), hn, (show (hk M T cs).1 < 1000000 from hm)⟩]
  exact congrArg (fun z => some (pc + 2, ls, Value.ref M.1 :: st, z)) (hk_al (t := (20, n, fun _ => none)) hM)) kk
theorem h_newa {x n : Nat} (hx : mm_an o x = true) (hm : M.1 < 1000000) (hM : ¬ (100 ≤ M.1 ∧ M.1 < 157)) (hn : n ≤ 100000) (hd : decode b pc = .ok (.anewarray x, 3)) (kk : mm_Ru d (o, nL, ini, b, ret) (pc + 3) ls (.ref M.1 :: st) (hk (mnew M n) (va_up T M.1 (23, n, fun _ => none)) (wA cs M.1 (fun _ => 0))) R) : mm_Ru d (o, nL, ini, b, ret) pc ls (.int (nI n) :: st) (hk M T cs) R := r_st (C := (o, nL, ini, b, ret)) hd rfl rfl rfl (by
  simp only [mm_st]
  have e := nI_clamp (show n < 2 ^ 31 by omega)
  rw [e, if_pos ⟨hx, nI_pos (by omega), hn, (show (hk M T cs).1 < 1000000 from hm)⟩]
  exact congrArg (fun z => some (pc + 3, ls, Value.ref M.1 :: st, z)) (hk_al (t := (23, n, fun _ => none)) hM)) kk
theorem h_ast {a n e y : Nat} {r : Nat → Option Nat} {ty : mT} (hT : T a = (23, n, r)) (ha : inC M a) (he : e < n) (hb : e < 2 ^ 31) (hy : T y = ty) (hyC : inC M y) (h14 : ty.1 < 14) (hd : decode b pc = .ok (.aastore, 1)) (kk : mm_Ru d (o, nL, ini, b, ret) (pc + 1) ls st (hk M (va_up T a (23, n, va_up r e (some y))) cs) R) : mm_Ru d (o, nL, ini, b, ret) pc ls (.ref y :: .int (nI e) :: .ref a :: st) (hk M T cs) R := r_st (C := (o, nL, ini, b, ret)) hd rfl rfl rfl (by
  simp only [mm_st]
  have ho : mm_obj (hk M T cs) y = true := by
    unfold mm_obj
    rw [decide_eq_true (show y < (hk M T cs).1 from hyC.1), hk_at hyC, hy, mk_ob h14]
    dsimp only
    rw [decide_eq_true h14]
    rfl
  have h9 : mm_pa (hk M T cs) a (nI e) y = some (hk M (va_up T a (23, n, va_up r e (some y))) cs) := by
    unfold mm_pa
    rw [if_pos ⟨(show a < (hk M T cs).1 from ha.1), ho⟩, hk_at ha, hT]
    show (if 3 = 3 ∧ ¬ (nI e < 0 ∨ n ≤ (nI e).toNatClampNeg) then some (mm_wr (hk M T cs) a (.inl (3, n, .inr (.inr (.inr (.inr (va_up r (nI e).toNatClampNeg (some y)))))))) else none) = _
    rw [nI_clamp hb, if_pos ⟨rfl, fun q => q.elim (nI_pos hb) (fun z => by omega)⟩]
    exact congrArg some (hk_wrT (t := (23, n, va_up r e (some y))) ha)
  rw [h9]) kk
theorem h_cpi {x a c n0 n1 sp dp n : Nat} {r1 r2 : Nat → Option Nat} {rest : List Value} (hx : mm_ac o x = true) (hT : T a = (20, n0, r1)) (ha : inC M a) (hT2 : T c = (20, n1, r2)) (hc : inC M c) (h1 : sp + n ≤ n0) (h2 : dp + n ≤ n1) (hb : n0 < 2 ^ 31 ∧ n1 < 2 ^ 31) (hsum : mm_sum rest ≤ 8) (hi : mm_iv o (.invokestatic x) = none) (hd : decode b pc = .ok (.invokestatic x, 3)) (kk : mm_Ru d (o, nL, ini, b, ret) (pc + 3) ls rest (hk M T (wA cs c (va_cpy (cs a) (cs c) sp dp n))) R) : mm_Ru d (o, nL, ini, b, ret) pc ls (.int (nI n) :: .int (nI dp) :: .ref c :: .int (nI sp) :: .ref a :: rest) (hk M T cs) R := r_st (C := (o, nL, ini, b, ret)) hd rfl rfl hi (by
  simp only [mm_st]
  rw [if_pos ⟨hx, hsum⟩]
  have h9 : mm_cp (hk M T cs) a c (nI sp) (nI dp) (nI n) = some (hk M T (wA cs c (va_cpy (cs a) (cs c) sp dp n))) := by
    unfold mm_cp
    rw [if_pos ⟨(show a < (hk M T cs).1 from ha.1), (show c < (hk M T cs).1 from hc.1), nI_pos (by omega), nI_pos (by omega), nI_pos (by omega)⟩, hk_at ha, hk_at hc, hT, hT2]
    show (if 0 = 0 ∧ 0 = 0 ∧ (nI sp).toNatClampNeg + (nI n).toNatClampNeg ≤ n0 ∧ (nI dp).toNatClampNeg + (nI n).toNatClampNeg ≤ n1 then some (mm_wr (hk M T cs) c (.inl (0, n1, .inl (va_cpy (cs a) (cs c) (nI sp).toNatClampNeg (nI dp).toNatClampNeg (nI n).toNatClampNeg)))) else none) = _
    rw [nI_clamp (show sp < 2 ^ 31 by omega), nI_clamp (show dp < 2 ^ 31 by omega), nI_clamp (show n < 2 ^ 31 by omega), if_pos ⟨rfl, rfl, h1, h2⟩, ← hk_wri hc, hT2]
    rfl
  rw [h9]) kk
end HRU
/-! THE FIXED CELLS, 0 to 99; e: the rows of the three lists (0, 1, 2) and of the reader's bytes (3) -/
def cT (e : Nat → Nat) (a : Nat) : mT := match a with
  | 0 => (0, 0, rl [(1, 1), (2, 2), (3, 3), (4, 4), (5, 10), (6, 12), (7, 15), (8, 20), (9, 25), (10, 26), (11, 27), (12, 28)])
  | 1 => (20, 4, fun _ => none)
  | 2 => (20, 4, fun _ => none)
  | 3 => (20, 360, fun _ => none)
  | 4 => (1, 0, rl [(0, 5)])
  | 5 => (24, 4, fun i => if i < 4 then some (6 + i) else none)
  | 6 => (20, 11, fun _ => none)
  | 7 => (20, 11, fun _ => none)
  | 8 => (20, 11, fun _ => none)
  | 9 => (20, 11, fun _ => none)
  | 10 => (2, 0, rl [(0, 11)])
  | 11 => (20, 80, fun _ => none)
  | 12 => (3, 0, rl [(0, (e 3)), (4, 14)])
  | 13 => (20, 0, fun _ => none)
  | 14 => (20, 60, fun _ => none)
  | 15 => (4, 0, rl [(0, 16)])
  | 16 => (24, 3, fun i => if i < 3 then some (17 + i) else none)
  | 17 => (20, 101, fun _ => none)
  | 18 => (20, 101, fun _ => none)
  | 19 => (20, 101, fun _ => none)
  | 20 => (5, 0, rl [(2, 21), (3, 22), (4, 23), (5, 24)])
  | 21 => (20, 200, fun _ => none)
  | 22 => (20, 200, fun _ => none)
  | 23 => (20, 200, fun _ => none)
  | 24 => (20, 200, fun _ => none)
  | 25 => (6, 0, rl [(0, (e 0))])
  | 26 => (6, 0, rl [(0, (e 1))])
  | 27 => (6, 0, rl [(0, (e 2))])
  | 28 => (7, 0, rl [(0, 29), (2, 37), (3, 38), (4, 39), (5, 47), (6, 55), (7, 63), (8, 71), (9, 79), (10, 80), (11, 89), (12, 98), (13, 99)])
  | 29 => (8, 0, rl [(0, 30), (1, 31), (2, 32), (3, 33), (4, 34), (5, 35), (6, 36)])
  | 30 => (20, 12, fun _ => none)
  | 31 => (20, 12, fun _ => none)
  | 32 => (20, 8, fun _ => none)
  | 33 => (20, 12, fun _ => none)
  | 34 => (20, 12, fun _ => none)
  | 35 => (20, 12, fun _ => none)
  | 36 => (20, 8, fun _ => none)
  | 37 => (20, 7, fun _ => none)
  | 38 => (20, 7, fun _ => none)
  | 39 => (24, 7, fun i => if i < 7 then some (40 + i) else none)
  | 40 => (20, 5, fun _ => none)
  | 41 => (20, 5, fun _ => none)
  | 42 => (20, 5, fun _ => none)
  | 43 => (20, 5, fun _ => none)
  | 44 => (20, 5, fun _ => none)
  | 45 => (20, 5, fun _ => none)
  | 46 => (20, 5, fun _ => none)
  | 47 => (24, 7, fun i => if i < 7 then some (48 + i) else none)
  | 48 => (20, 5, fun _ => none)
  | 49 => (20, 5, fun _ => none)
  | 50 => (20, 5, fun _ => none)
  | 51 => (20, 5, fun _ => none)
  | 52 => (20, 5, fun _ => none)
  | 53 => (20, 5, fun _ => none)
  | 54 => (20, 5, fun _ => none)
  | 55 => (24, 7, fun i => if i < 7 then some (56 + i) else none)
  | 56 => (20, 5, fun _ => none)
  | 57 => (20, 5, fun _ => none)
  | 58 => (20, 5, fun _ => none)
  | 59 => (20, 5, fun _ => none)
  | 60 => (20, 5, fun _ => none)
  | 61 => (20, 5, fun _ => none)
  | 62 => (20, 5, fun _ => none)
  | 63 => (24, 7, fun i => if i < 7 then some (64 + i) else none)
  | 64 => (20, 5, fun _ => none)
  | 65 => (20, 5, fun _ => none)
  | 66 => (20, 5, fun _ => none)
  | 67 => (20, 5, fun _ => none)
  | 68 => (20, 5, fun _ => none)
  | 69 => (20, 5, fun _ => none)
  | 70 => (20, 5, fun _ => none)
  | 71 => (24, 7, fun i => if i < 7 then some (72 + i) else none)
  | 72 => (20, 5, fun _ => none)
  | 73 => (20, 5, fun _ => none)
  | 74 => (20, 5, fun _ => none)
  | 75 => (20, 5, fun _ => none)
  | 76 => (20, 5, fun _ => none)
  | 77 => (20, 5, fun _ => none)
  | 78 => (20, 5, fun _ => none)
  | 79 => (20, 8, fun _ => none)
  | 80 => (24, 8, fun i => if i < 8 then some (81 + i) else none)
  | 81 => (20, 12, fun _ => none)
  | 82 => (20, 12, fun _ => none)
  | 83 => (20, 12, fun _ => none)
  | 84 => (20, 12, fun _ => none)
  | 85 => (20, 12, fun _ => none)
  | 86 => (20, 12, fun _ => none)
  | 87 => (20, 12, fun _ => none)
  | 88 => (20, 12, fun _ => none)
  | 89 => (24, 8, fun i => if i < 8 then some (90 + i) else none)
  | 90 => (20, 12, fun _ => none)
  | 91 => (20, 12, fun _ => none)
  | 92 => (20, 12, fun _ => none)
  | 93 => (20, 12, fun _ => none)
  | 94 => (20, 12, fun _ => none)
  | 95 => (20, 12, fun _ => none)
  | 96 => (20, 12, fun _ => none)
  | 97 => (20, 12, fun _ => none)
  | 98 => (20, 7, fun _ => none)
  | 99 => (20, 7, fun _ => none)
  | _ => (0, 0, fun _ => none)
theorem cR_5 (e : Nat → Nat) : ∀ i, i < 4 → cT e (6 + i) = (20, 11, fun _ => none)
  | 0, _ => rfl
  | 1, _ => rfl
  | 2, _ => rfl
  | 3, _ => rfl
  | n + 4, h => absurd h (by omega)
theorem cR_16 (e : Nat → Nat) : ∀ i, i < 3 → cT e (17 + i) = (20, 101, fun _ => none)
  | 0, _ => rfl
  | 1, _ => rfl
  | 2, _ => rfl
  | n + 3, h => absurd h (by omega)
theorem cR_39 (e : Nat → Nat) : ∀ i, i < 7 → cT e (40 + i) = (20, 5, fun _ => none)
  | 0, _ => rfl
  | 1, _ => rfl
  | 2, _ => rfl
  | 3, _ => rfl
  | 4, _ => rfl
  | 5, _ => rfl
  | 6, _ => rfl
  | n + 7, h => absurd h (by omega)
theorem cR_47 (e : Nat → Nat) : ∀ i, i < 7 → cT e (48 + i) = (20, 5, fun _ => none)
  | 0, _ => rfl
  | 1, _ => rfl
  | 2, _ => rfl
  | 3, _ => rfl
  | 4, _ => rfl
  | 5, _ => rfl
  | 6, _ => rfl
  | n + 7, h => absurd h (by omega)
theorem cR_55 (e : Nat → Nat) : ∀ i, i < 7 → cT e (56 + i) = (20, 5, fun _ => none)
  | 0, _ => rfl
  | 1, _ => rfl
  | 2, _ => rfl
  | 3, _ => rfl
  | 4, _ => rfl
  | 5, _ => rfl
  | 6, _ => rfl
  | n + 7, h => absurd h (by omega)
theorem cR_63 (e : Nat → Nat) : ∀ i, i < 7 → cT e (64 + i) = (20, 5, fun _ => none)
  | 0, _ => rfl
  | 1, _ => rfl
  | 2, _ => rfl
  | 3, _ => rfl
  | 4, _ => rfl
  | 5, _ => rfl
  | 6, _ => rfl
  | n + 7, h => absurd h (by omega)
theorem cR_71 (e : Nat → Nat) : ∀ i, i < 7 → cT e (72 + i) = (20, 5, fun _ => none)
  | 0, _ => rfl
  | 1, _ => rfl
  | 2, _ => rfl
  | 3, _ => rfl
  | 4, _ => rfl
  | 5, _ => rfl
  | 6, _ => rfl
  | n + 7, h => absurd h (by omega)
theorem cR_80 (e : Nat → Nat) : ∀ i, i < 8 → cT e (81 + i) = (20, 12, fun _ => none)
  | 0, _ => rfl
  | 1, _ => rfl
  | 2, _ => rfl
  | 3, _ => rfl
  | 4, _ => rfl
  | 5, _ => rfl
  | 6, _ => rfl
  | 7, _ => rfl
  | n + 8, h => absurd h (by omega)
theorem cR_89 (e : Nat → Nat) : ∀ i, i < 8 → cT e (90 + i) = (20, 12, fun _ => none)
  | 0, _ => rfl
  | 1, _ => rfl
  | 2, _ => rfl
  | 3, _ => rfl
  | 4, _ => rfl
  | 5, _ => rfl
  | 6, _ => rfl
  | 7, _ => rfl
  | n + 8, h => absurd h (by omega)
def ShF (T : Nat → mT) (e : Nat → Nat) : Prop := ∀ a, a < 100 → T a = cT e a
theorem fx_1_13 : mm_fr 1 13 = some (1, 0) := by decide +kernel
theorem fx_2_9 : mm_fr 2 9 = some (2, 0) := by decide +kernel
theorem fx_0_145 : mm_fr 0 145 = some (2, 0) := by decide +kernel
theorem fx_2_13 : mm_fr 2 13 = some (2, 1) := by decide +kernel
theorem fx_0_143 : mm_fr 0 143 = some (2, 1) := by decide +kernel
theorem fx_3_9 : mm_fr 3 9 = some (3, 0) := by decide +kernel
theorem fx_3_24 : mm_fr 3 24 = some (3, 1) := by decide +kernel
theorem fx_3_28 : mm_fr 3 28 = some (3, 2) := by decide +kernel
theorem fx_3_31 : mm_fr 3 31 = some (3, 3) := by decide +kernel
theorem fx_3_15 : mm_fr 3 15 = some (3, 4) := by decide +kernel
theorem fx_3_34 : mm_fr 3 34 = some (3, 5) := by decide +kernel
theorem fx_10_18 : mm_fr 10 18 = some (3, 6) := by decide +kernel
theorem fx_3_37 : mm_fr 3 37 = some (3, 6) := by decide +kernel
theorem fx_10_24 : mm_fr 10 24 = some (3, 7) := by decide +kernel
theorem fx_3_40 : mm_fr 3 40 = some (3, 7) := by decide +kernel
theorem fx_10_28 : mm_fr 10 28 = some (3, 8) := by decide +kernel
theorem fx_3_43 : mm_fr 3 43 = some (3, 8) := by decide +kernel
theorem fx_10_32 : mm_fr 10 32 = some (3, 9) := by decide +kernel
theorem fx_3_46 : mm_fr 3 46 = some (3, 9) := by decide +kernel
theorem fx_10_36 : mm_fr 10 36 = some (3, 10) := by decide +kernel
theorem fx_3_49 : mm_fr 3 49 = some (3, 10) := by decide +kernel
theorem fx_10_40 : mm_fr 10 40 = some (3, 11) := by decide +kernel
theorem fx_3_52 : mm_fr 3 52 = some (3, 11) := by decide +kernel
theorem fx_4_13 : mm_fr 4 13 = some (4, 0) := by decide +kernel
theorem fx_5_9 : mm_fr 5 9 = some (5, 0) := by decide +kernel
theorem fx_0_330 : mm_fr 0 330 = some (5, 0) := by decide +kernel
theorem fx_5_15 : mm_fr 5 15 = some (5, 1) := by decide +kernel
theorem fx_5_18 : mm_fr 5 18 = some (5, 2) := by decide +kernel
theorem fx_5_22 : mm_fr 5 22 = some (5, 3) := by decide +kernel
theorem fx_5_25 : mm_fr 5 25 = some (5, 4) := by decide +kernel
theorem fx_5_28 : mm_fr 5 28 = some (5, 5) := by decide +kernel
theorem fx_6_9 : mm_fr 6 9 = some (6, 0) := by decide +kernel
theorem fx_6_48 : mm_fr 6 48 = some (6, 1) := by decide +kernel
theorem fx_16_7 : mm_fr 16 7 = some (6, 2) := by decide +kernel
theorem fx_6_63 : mm_fr 6 63 = some (6, 2) := by decide +kernel
theorem fx_8_9 : mm_fr 8 9 = some (8, 0) := by decide +kernel
theorem fx_8_15 : mm_fr 8 15 = some (8, 1) := by decide +kernel
theorem fx_8_18 : mm_fr 8 18 = some (8, 2) := by decide +kernel
theorem fx_8_21 : mm_fr 8 21 = some (8, 3) := by decide +kernel
theorem fx_8_24 : mm_fr 8 24 = some (8, 4) := by decide +kernel
theorem fx_8_27 : mm_fr 8 27 = some (8, 5) := by decide +kernel
theorem fx_8_30 : mm_fr 8 30 = some (8, 6) := by decide +kernel
theorem fx_7_14 : mm_fr 7 14 = some (7, 0) := by decide +kernel
theorem fx_0_352 : mm_fr 0 352 = some (7, 0) := by decide +kernel
theorem fx_7_20 : mm_fr 7 20 = some (7, 1) := by decide +kernel
theorem fx_0_347 : mm_fr 0 347 = some (7, 1) := by decide +kernel
theorem fx_7_24 : mm_fr 7 24 = some (7, 2) := by decide +kernel
theorem fx_7_28 : mm_fr 7 28 = some (7, 3) := by decide +kernel
theorem fx_7_33 : mm_fr 7 33 = some (7, 4) := by decide +kernel
theorem fx_7_36 : mm_fr 7 36 = some (7, 5) := by decide +kernel
theorem fx_7_39 : mm_fr 7 39 = some (7, 6) := by decide +kernel
theorem fx_7_42 : mm_fr 7 42 = some (7, 7) := by decide +kernel
theorem fx_7_45 : mm_fr 7 45 = some (7, 8) := by decide +kernel
theorem fx_7_48 : mm_fr 7 48 = some (7, 9) := by decide +kernel
theorem fx_7_51 : mm_fr 7 51 = some (7, 10) := by decide +kernel
theorem fx_7_54 : mm_fr 7 54 = some (7, 11) := by decide +kernel
theorem fx_7_57 : mm_fr 7 57 = some (7, 12) := by decide +kernel
theorem fx_7_60 : mm_fr 7 60 = some (7, 13) := by decide +kernel
theorem fx_7_64 : mm_fr 7 64 = some (7, 14) := by decide +kernel
theorem fx_0_7 : mm_fr 0 7 = some (0, 0) := by decide +kernel
theorem fx_0_13 : mm_fr 0 13 = some (0, 1) := by decide +kernel
theorem fx_0_17 : mm_fr 0 17 = some (0, 2) := by decide +kernel
theorem fx_0_20 : mm_fr 0 20 = some (0, 3) := by decide +kernel
theorem fx_0_26 : mm_fr 0 26 = some (0, 4) := by decide +kernel
theorem fx_0_33 : mm_fr 0 33 = some (0, 5) := by decide +kernel
theorem fx_0_40 : mm_fr 0 40 = some (0, 6) := by decide +kernel
theorem fx_0_47 : mm_fr 0 47 = some (0, 7) := by decide +kernel
theorem fx_0_54 : mm_fr 0 54 = some (0, 8) := by decide +kernel
theorem fx_0_61 : mm_fr 0 61 = some (0, 9) := by decide +kernel
theorem fx_0_65 : mm_fr 0 65 = some (0, 10) := by decide +kernel
theorem fx_0_68 : mm_fr 0 68 = some (0, 11) := by decide +kernel
theorem fx_0_74 : mm_fr 0 74 = some (0, 12) := by decide +kernel
theorem fx_9_16 : mm_fr 9 16 = some (9, 0) := by decide +kernel
theorem fx_0_267 : mm_fr 0 267 = some (9, 0) := by decide +kernel
theorem fx_9_20 : mm_fr 9 20 = some (9, 1) := by decide +kernel
theorem fx_0_238 : mm_fr 0 238 = some (9, 1) := by decide +kernel
theorem fx_9_26 : mm_fr 9 26 = some (9, 2) := by decide +kernel
theorem fx_0_407 : mm_fr 0 407 = some (9, 2) := by decide +kernel
theorem fx_9_29 : mm_fr 9 29 = some (9, 3) := by decide +kernel
theorem fx_0_415 : mm_fr 0 415 = some (9, 3) := by decide +kernel
theorem fx_9_32 : mm_fr 9 32 = some (9, 4) := by decide +kernel
theorem fx_0_282 : mm_fr 0 282 = some (9, 4) := by decide +kernel
theorem fx_9_23 : mm_fr 9 23 = some (9, 5) := by decide +kernel
theorem fx_0_132 : mm_fr 0 132 = some (9, 5) := by decide +kernel
theorem fx_9_10 : mm_fr 9 10 = some (9, 6) := by decide +kernel
theorem fx_0_221 : mm_fr 0 221 = some (9, 6) := by decide +kernel
theorem fx_10_9 : mm_fr 10 9 = some (10, 0) := by decide +kernel
theorem fx_0_303 : mm_fr 0 303 = some (10, 0) := by decide +kernel
theorem fx_10_15 : mm_fr 10 15 = some (10, 1) := by decide +kernel
theorem fx_0_300 : mm_fr 0 300 = some (10, 1) := by decide +kernel
theorem fx_10_23 : mm_fr 10 23 = some (10, 2) := by decide +kernel
theorem fx_0_374 : mm_fr 0 374 = some (10, 2) := by decide +kernel
theorem fx_10_27 : mm_fr 10 27 = some (10, 3) := by decide +kernel
theorem fx_0_377 : mm_fr 0 377 = some (10, 3) := by decide +kernel
theorem fx_10_31 : mm_fr 10 31 = some (10, 4) := by decide +kernel
theorem fx_0_297 : mm_fr 0 297 = some (10, 4) := by decide +kernel
theorem fx_10_35 : mm_fr 10 35 = some (10, 5) := by decide +kernel
theorem fx_10_39 : mm_fr 10 39 = some (10, 6) := by decide +kernel
theorem fx_10_43 : mm_fr 10 43 = some (10, 7) := by decide +kernel
theorem fx_10_48 : mm_fr 10 48 = some (10, 8) := by decide +kernel
theorem fx_4_26 : mm_fr 4 26 = some (10, 8) := by decide +kernel
theorem fx_10_51 : mm_fr 10 51 = some (10, 9) := by decide +kernel
theorem fx_11_31 : mm_fr 11 31 = some (11, 0) := by decide +kernel
theorem fx_0_264 : mm_fr 0 264 = some (11, 0) := by decide +kernel
theorem fx_11_34 : mm_fr 11 34 = some (11, 1) := by decide +kernel
theorem fx_0_340 : mm_fr 0 340 = some (11, 1) := by decide +kernel
theorem fx_11_37 : mm_fr 11 37 = some (11, 2) := by decide +kernel
theorem fx_0_334 : mm_fr 0 334 = some (11, 2) := by decide +kernel
theorem fx_11_40 : mm_fr 11 40 = some (11, 3) := by decide +kernel
theorem fx_0_337 : mm_fr 0 337 = some (11, 3) := by decide +kernel
theorem fx_11_43 : mm_fr 11 43 = some (11, 4) := by decide +kernel
theorem fx_0_235 : mm_fr 0 235 = some (11, 4) := by decide +kernel
theorem fx_11_9 : mm_fr 11 9 = some (11, 5) := by decide +kernel
theorem fx_0_184 : mm_fr 0 184 = some (11, 5) := by decide +kernel
theorem fx_11_15 : mm_fr 11 15 = some (11, 6) := by decide +kernel
theorem fx_11_18 : mm_fr 11 18 = some (11, 7) := by decide +kernel
theorem fx_0_386 : mm_fr 0 386 = some (11, 7) := by decide +kernel
theorem fx_11_22 : mm_fr 11 22 = some (11, 8) := by decide +kernel
theorem fx_0_204 : mm_fr 0 204 = some (11, 8) := by decide +kernel
theorem fx_11_25 : mm_fr 11 25 = some (11, 9) := by decide +kernel
theorem fx_11_28 : mm_fr 11 28 = some (11, 10) := by decide +kernel
theorem fx_0_356 : mm_fr 0 356 = some (11, 10) := by decide +kernel
theorem fx_12_13 : mm_fr 12 13 = some (12, 0) := by decide +kernel
theorem fx_9_70 : mm_fr 9 70 = some (12, 0) := by decide +kernel
theorem fx_12_17 : mm_fr 12 17 = some (12, 1) := by decide +kernel
theorem fx_9_67 : mm_fr 9 67 = some (12, 1) := by decide +kernel
theorem fx_12_20 : mm_fr 12 20 = some (12, 2) := by decide +kernel
theorem fx_9_77 : mm_fr 9 77 = some (12, 2) := by decide +kernel
theorem fx_12_23 : mm_fr 12 23 = some (12, 3) := by decide +kernel
theorem fx_9_80 : mm_fr 9 80 = some (12, 3) := by decide +kernel
theorem fx_12_7 : mm_fr 12 7 = some (12, 4) := by decide +kernel
theorem fx_9_73 : mm_fr 9 73 = some (12, 4) := by decide +kernel
theorem fx_0_231 : mm_fr 0 231 = some (12, 4) := by decide +kernel
