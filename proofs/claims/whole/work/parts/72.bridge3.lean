/-! THE PLAN OF THE SYSTEM, AND THE REFERENCE'S: what is better; the same best plan -/
theorem lex_iff {a b : Nat → Nat} (ha : ∀ k, k < 4 → a k ≤ 7) (hb : ∀ k, k < 4 → b k ≤ 7) : lexgt a b ↔ 512 * b 0 + 64 * b 1 + 8 * b 2 + b 3 < 512 * a 0 + 64 * a 1 + 8 * a 2 + a 3 := by
  have a0 := ha 0 (by decide)
  have a1 := ha 1 (by decide)
  have a2 := ha 2 (by decide)
  have a3 := ha 3 (by decide)
  have b0 := hb 0 (by decide)
  have b1 := hb 1 (by decide)
  have b2 := hb 2 (by decide)
  have b3 := hb 3 (by decide)
  constructor
  · rintro ⟨k, hk, h1, h2⟩
    rcases (by omega : k = 0 ∨ k = 1 ∨ k = 2 ∨ k = 3) with rfl | rfl | rfl | rfl
    · omega
    · have := h1 0 (by decide)
      omega
    · have := h1 0 (by decide)
      have := h1 1 (by decide)
      omega
    · have := h1 0 (by decide)
      have := h1 1 (by decide)
      have := h1 2 (by decide)
      omega
  · intro h
    by_cases z0 : a 0 = b 0
    · by_cases z1 : a 1 = b 1
      · by_cases z2 : a 2 = b 2
        · refine ⟨3, by decide, fun j hj => ?_, by omega⟩
          rcases (by omega : j = 0 ∨ j = 1 ∨ j = 2) with rfl | rfl | rfl <;> assumption
        · refine ⟨2, by decide, fun j hj => ?_, by omega⟩
          rcases (by omega : j = 0 ∨ j = 1) with rfl | rfl <;> assumption
      · refine ⟨1, by decide, fun j hj => ?_, by omega⟩
        obtain rfl : j = 0 := by omega
        exact z0
    · exact ⟨0, by decide, fun j hj => absurd hj (Nat.not_lt_zero j), by omega⟩
def wS (c : Nat → Nat) : Nat → Int
  | 0 => 0
  | i + 1 => wS c i + wInt (c i)
theorem wS_ct (c : Nat → Nat) : ∀ n, wS c n = 512 * (ct c 0 n : Int) + 64 * (ct c 1 n : Int) + 8 * (ct c 2 n : Int) + (ct c 3 n : Int)
  | 0 => rfl
  | n + 1 => by
    have ih := wS_ct c n
    have e : ∀ k, ct c k (n + 1) = if c n = k then ct c k n + 1 else ct c k n := fun k => rfl
    have e2 : wS c (n + 1) = wS c n + wInt (c n) := rfl
    rw [e2, e 0, e 1, e 2, e 3, ih]
    rcases (by omega : c n = 0 ∨ c n = 1 ∨ c n = 2 ∨ c n = 3 ∨ 4 ≤ c n) with h | h | h | h | h
    · rw [h]
      show _ + (512 : Int) = _
      rw [if_pos rfl, if_neg (by decide), if_neg (by decide), if_neg (by decide)]
      omega
    · rw [h]
      show _ + (64 : Int) = _
      rw [if_neg (by decide), if_pos rfl, if_neg (by decide), if_neg (by decide)]
      omega
    · rw [h]
      show _ + (8 : Int) = _
      rw [if_neg (by decide), if_neg (by decide), if_pos rfl, if_neg (by decide)]
      omega
    · rw [h]
      show _ + (1 : Int) = _
      rw [if_neg (by decide), if_neg (by decide), if_neg (by decide), if_pos rfl]
      omega
    · obtain ⟨m, hm⟩ : ∃ m, c n = m + 4 := ⟨c n - 4, by omega⟩
      rw [hm]
      show _ + (0 : Int) = _
      rw [if_neg (by omega), if_neg (by omega), if_neg (by omega), if_neg (by omega)]
      omega
theorem Wo_0 {sg : Nat → Nat → Int32} {wh c : Nat → Nat} : ∀ {n : Nat}, pWo (woP 0 sg wh) c n = wS c n
  | 0 => rfl
  | n + 1 => by
    show pWo (woP 0 sg wh) c n + swo 0 sg (wh n) (c n) = wS c n + wInt (c n)
    rw [Wo_0]
    unfold swo
    rw [show penI 0 = 0 from rfl]
    split <;> split <;> omega
theorem Wo_1 {sg : Nat → Nat → Int32} {wh c : Nat → Nat} : ∀ {n : Nat}, pWo (woP 1 sg wh) c n = wS c n - 4096 * (cnP (fun i => ¬ P57 sg wh c i = hst sg (wh i)) n : Int)
  | 0 => rfl
  | n + 1 => by
    show pWo (woP 1 sg wh) c n + swo 1 sg (wh n) (c n) = wS c n + wInt (c n) - _
    rw [Wo_1]
    have e : swo 1 sg (wh n) (c n) = wInt (c n) - (if P57 sg wh c n = hst sg (wh n) then 0 else 4096) := rfl
    rw [e]
    by_cases z : P57 sg wh c n = hst sg (wh n)
    · rw [if_pos z, cnP_f (P := fun i => ¬ P57 sg wh c i = hst sg (wh i)) (fun y => y z)]
      omega
    · rw [if_neg z, cnP_t (P := fun i => ¬ P57 sg wh c i = hst sg (wh i)) z]
      omega
theorem BT_iff {pl : Nat} (hpl : pl = 0 ∨ pl = 1) {sg : Nat → Nat → Int32} {wh : Nat → Nat} {n : Nat} (hn : n ≤ 7) (hh : ∀ i, i < n → hst sg (wh i) = sg 57 (wh i)) (c b : Nat) : pBT (woP pl sg wh) n c b ↔ BTp pl sg wh n c b := by
  have lc : ∀ k, ct (co n c) k n ≤ 7 := fun k => Nat.le_trans (ct_le _ _ _) hn
  have lb : ∀ k, ct (co n b) k n ≤ 7 := fun k => Nat.le_trans (ct_le _ _ _) hn
  have hl := lex_iff (a := fun k => ct (co n c) k n) (b := fun k => ct (co n b) k n) (fun k _ => lc k) (fun k _ => lb k)
  have c0 := lc 0
  have c1 := lc 1
  have c2 := lc 2
  have c3 := lc 3
  have b0 := lb 0
  have b1 := lb 1
  have b2 := lb 2
  have b3 := lb 3
  unfold pBT BTp
  rw [hl]
  rcases hpl with rfl | rfl
  · rw [Wo_0, Wo_0, wS_ct, wS_ct]
    have e : ∀ code, OTv 0 sg wh n code = nI 0 := fun code => if_pos rfl
    rw [e, e]
    exact ⟨fun z => ⟨by decide, fun _ => by omega⟩, fun z => by have := z.2 rfl; omega⟩
  · rw [Wo_1, Wo_1, wS_ct, wS_ct]
    have e : ∀ code, OTv 1 sg wh n code = nI (cnP (fun i => ¬ P57 sg wh (co n code) i = hst sg (wh i)) n) := fun code => by
      have e1 : OTv 1 sg wh n code = sp_ot sg wh (co n code) (fun i => sg 57 (wh i)) n := if_neg (by decide)
      rw [e1]
      unfold sp_ot
      rw [sum_cn]
      exact congrArg nI (cnP_c (fun j hj => by rw [hh j hj]))
    have m1 := cnP_le (fun i => ¬ P57 sg wh (co n c) i = hst sg (wh i)) n
    have m2 := cnP_le (fun i => ¬ P57 sg wh (co n b) i = hst sg (wh i)) n
    rw [e, e, nI_ltI (by omega) (by omega), nI_eq (by omega) (by omega)]
    constructor
    · intro z
      exact ⟨by omega, fun y => by omega⟩
    · intro z
      by_cases y : cnP (fun i => ¬ P57 sg wh (co n c) i = hst sg (wh i)) n = cnP (fun i => ¬ P57 sg wh (co n b) i = hst sg (wh i)) n
      · have := z.2 y
        omega
      · omega
theorem selM_7 (pl : Nat) (sg : Nat → Nat → Int32) : selM 7 pl sg = sp_sel sg pl := funext fun s => propext ⟨fun z => z.2, fun z => ⟨rfl, z⟩⟩
theorem sel_h {sg : Nat → Nat → Int32} {nh nx s pl : Nat} (h : RVt sg nh nx s) (hs : sp_sel sg pl s) : hst sg s = sg 57 s := by
  unfold hst
  by_cases z : sg 56 s = nI 1
  · rw [if_pos z]
  · rw [if_neg z]
    rcases hs with y | y
    · rcases h.2.2.2.2.2.2.2.2.2 with v | v
      · exact v.2.1.symm
      · rcases v.1 with u | u
        · exact absurd u z
        · rw [y] at u
          exact absurd u (by decide)
    · exact absurd y.2 z
/-- the best plan is the reference's -/
theorem best_eq {io : Nat → Int32} {sg : Nat → Nat → Int32} {nh nx ns nf ny tp : Nat} {cm : Nat → Nat} {w : Nat → Nat → Nat} {cn : Nat → Nat} {wc : Nat → Nat → Nat} (hR : RV io sg nh nx ns nf ny tp cm w cn wc) {pl : Nat} (hpl : pl = 0 ∨ pl = 1) {my : Nat → Nat → Int32} (hmy : my = (fun s k => sp_mby io sg cm w nx s (sg 60 (4 * s + k)))) : sp_bo (pOK (qP io (sp_sel sg pl) sg my nh nx ns) (fun x => blP (sp_sel sg pl) sg x ns) (cnA (sp_sel sg pl) ns).1) (pBT (woP pl sg (cnA (sp_sel sg pl) ns).2) (cnA (sp_sel sg pl) ns).1) (p5 (cnA (sp_sel sg pl) ns).1) = sp_best pl io sg my (cnA (sp_sel sg pl) ns).2 (cnA (sp_sel sg pl) ns).1 ns nh nx (p5 (cnA (sp_sel sg pl) ns).1) := by
  have hRt := hR.2.2.2.2.2.2.2.2.1
  have h4 : ∀ i, i < (cnA (sp_sel sg pl) ns).1 → tN (sg 59 ((cnA (sp_sel sg pl) ns).2 i)) ≤ 4 := fun i hi => (inN_tN (hRt _ (cnA_in _ ns i hi).1).2.2.2.2.2.2.1 (by decide)).2
  refine bo_congr (fun c => ?_) (fun c b _ _ => BT_iff hpl (cnA_le _ ns) (fun i hi => sel_h (hRt _ (cnA_in _ ns i hi).1) (cnA_in _ ns i hi).2.1) c b) _
  unfold pOK okP vdC
  constructor
  · rintro ⟨h1, h2⟩
    have hv := fun i hi => (vdg_iff (h4 i hi)).mp (h1 i hi)
    exact ⟨hv, (KP_iff hR _ hmy _ hv).mp h2⟩
  · rintro ⟨hv, h2⟩
    exact ⟨fun i hi => (vdg_iff (h4 i hi)).mpr (hv i hi), (KP_iff hR _ hmy _ hv).mpr h2⟩
/-- and where nobody moves: what is kept -/
theorem kept_eq {io : Nat → Int32} {sg : Nat → Nat → Int32} {nh nx ns nf ny tp : Nat} {cm : Nat → Nat} {w : Nat → Nat → Nat} {cn : Nat → Nat} {wc : Nat → Nat → Nat} (hR : RV io sg nh nx ns nf ny tp cm w cn wc) {my : Nat → Nat → Int32} (hmy : my = (fun s k => sp_mby io sg cm w nx s (sg 60 (4 * s + k)))) : (¬ sp_bo (pOK (qP io (selM 0 0 sg) sg my nh nx ns) (fun x => blP (selM 0 0 sg) sg x ns) (cnA (selM 0 0 sg) ns).1) (pBT (woP 0 sg (cnA (selM 0 0 sg) ns).2) (cnA (selM 0 0 sg) ns).1) (p5 (cnA (selM 0 0 sg) ns).1) = none) ↔ sp_kept io sg ns nh nx := by
  have e0 : (cnA (selM 0 0 sg) ns).1 = 0 := by
    rcases Nat.eq_zero_or_pos (cnA (selM 0 0 sg) ns).1 with z | z
    · exact z
    · exact absurd (cnA_in _ ns 0 z).2.1.1 (by decide)
  have hk := KP_iff hR (selM 0 0 sg) hmy (co (cnA (selM 0 0 sg) ns).1 0) (fun i hi => by omega)
  rw [e0] at hk ⊢
  rw [plS_0] at hk
  rw [← hk]
  constructor
  · intro z
    cases hb : sp_bo (pOK (qP io (selM 0 0 sg) sg my nh nx ns) (fun x => blP (selM 0 0 sg) sg x ns) 0) (pBT (woP 0 sg (cnA (selM 0 0 sg) ns).2) 0) (p5 0) with
    | none => exact absurd hb z
    | some b =>
      have h1 := sp_bo_ok hb
      have h2 : b = 0 := by
        have : b < 1 := h1.2
        omega
      rw [h2] at h1
      exact h1.1.2
  · intro z y
    have : sp_bo (pOK (qP io (selM 0 0 sg) sg my nh nx ns) (fun x => blP (selM 0 0 sg) sg x ns) 0) (pBT (woP 0 sg (cnA (selM 0 0 sg) ns).2) 0) (0 + 1) = some 0 := sp_bo_p ⟨fun j hj => absurd hj (Nat.not_lt_zero j), z⟩ (fun b hb => by cases hb)
    rw [show p5 0 = 0 + 1 from rfl, this] at y
    cases y
