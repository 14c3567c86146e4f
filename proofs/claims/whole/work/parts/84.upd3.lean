/-! WHAT A CALL CHANGES: the tape, the year -/
def apW (cs : Nat → Nat → Int32) (t : Nat) (v : Int32) : Nat → Nat → Int32 := w1 (w1 (w1 (w1 (w1 (w1 (w1 (w1 cs 11 t (byt v 24)) 10 1 (nI (t + 1))) 11 (t + 1) (byt v 16)) 10 1 (nI (t + 1 + 1))) 11 (t + 1 + 1) (byt v 8)) 10 1 (nI (t + 1 + 1 + 1))) 11 (t + 1 + 1 + 1) (byt v 0)) 10 1 (nI (t + 1 + 1 + 1 + 1))
theorem apW_o (cs : Nat → Nat → Int32) (t : Nat) (v : Int32) {a : Nat} (h : ¬ (a = 10 ∨ a = 11)) : apW cs t v a = cs a := by
  unfold apW
  rw [w1_n _ _ _ (by omega), w1_n _ _ _ (by omega), w1_n _ _ _ (by omega), w1_n _ _ _ (by omega), w1_n _ _ _ (by omega), w1_n _ _ _ (by omega), w1_n _ _ _ (by omega), w1_n _ _ _ (by omega)]
theorem apW_s (cs : Nat → Nat → Int32) (t : Nat) (v : Int32) : apW cs t v 10 1 = nI (t + 4) := w1_s _ _ _ _
theorem apW_b (cs : Nat → Nat → Int32) (t : Nat) (v : Int32) : apW cs t v 11 = upd (upd (upd (upd (cs 11) t (byt v 24)) (t + 1) (byt v 16)) (t + 1 + 1) (byt v 8)) (t + 1 + 1 + 1) (byt v 0) := by
  unfold apW
  rw [w1_n _ _ _ (by decide), w1_a, w1_n _ _ _ (by decide), w1_a, w1_n _ _ _ (by decide), w1_a, w1_n _ _ _ (by decide), w1_a]
def Tp (f g : Nat → Int32) : Prop := ∀ j, j < 80 → g j = nI ((f j).toBitVec.toNat % 256)
theorem Tp_u {f g : Nat → Int32} (h : Tp f g) {x y : Int32} (e : y = nI (x.toBitVec.toNat % 256)) (t : Nat) : Tp (upd f t x) (upd g t y) := fun j hj => by
  by_cases z : j = t
  · rw [z, ud_s, ud_s]
    exact e
  · rw [ud_o _ _ z, ud_o _ _ z]
    exact h j hj
theorem Tp_ap {f : Nat → Int32} {cs : Nat → Nat → Int32} (h : Tp f (cs 11)) (t : Nat) (v : Int32) : Tp (sp_ty f t v 4) (apW cs t v 11) := by
  obtain ⟨b0, b1, b2, b3⟩ := by_eq v
  rw [apW_b]
  exact Tp_u (Tp_u (Tp_u (Tp_u h b0 t) b1 (t + 1)) b2 (t + 1 + 1)) b3 (t + 1 + 1 + 1)
theorem CV_feed {M : mH} {T : Nat → mT} {cs sg : Nat → Nat → Int32} {io : Nat → Int32} {e : Nat → Nat} {D : Nat → Nat → Nat} {nh nx ns nf ny tp : Nat} {cm : Nat → Nat} {w : Nat → Nat → Nat} {cn : Nat → Nat} {wc : Nat → Nat → Nat} (hV : CV M T cs io sg e D nh nx ns nf ny tp cm w cn wc) {a b c d f : Int32} (ht : tp + 20 ≤ 80) : CV M T (apW (apW (apW (apW (apW cs tp a) (tp + 4) b) (tp + 8) c) (tp + 12) d) (tp + 16) f) (va_up io 23 (nI (tp + 20))) (va_up sg 22 (sp_fe (sg 22) tp a b c d f)) e D nh nx ns nf ny (tp + 20) cm w cn wc := by
  obtain ⟨hM, hI, ⟨c1, c2, c3, c4, c5⟩, ⟨⟨q3, q4, q5, q7, q6, q23⟩, r1, r2, r3, r4, r5, r6, r7, r8, r9, r10⟩, hJ⟩ := hV
  have g : ∀ x, ¬ (x = 10 ∨ x = 11) → (apW (apW (apW (apW (apW cs tp a) (tp + 4) b) (tp + 8) c) (tp + 12) d) (tp + 16) f) x = cs x := fun x hx => by rw [apW_o _ _ _ hx, apW_o _ _ _ hx, apW_o _ _ _ hx, apW_o _ _ _ hx, apW_o _ _ _ hx]
  refine ⟨hM, CI_sg hI hJ (fun x hx => g x (by omega)) (fun k h1 h2 h3 => up_o _ _ (by omega)), ⟨?_, fun l hl => ?_, fun i hi m hm => ?_, ⟨?_, fun j hj => ?_⟩, ?_⟩, ⟨⟨q3, q4, q5, q7, q6, ⟨rfl, ht⟩⟩, r1, r2, r3, r4, r5, r6, r7, r8, r9, r10⟩, hJ⟩
  · rw [g 0 (by decide)]
    exact c1
  · rw [g 1 (by decide), g 2 (by decide)]
    exact c2 l hl
  · rw [g (6 + i) (by omega)]
    exact c3 i hi m hm
  · exact apW_s _ _ _
  · exact Tp_ap (Tp_ap (Tp_ap (Tp_ap (Tp_ap c4.2 tp a) (tp + 4) b) (tp + 8) c) (tp + 12) d) (tp + 16) f j hj
  · rw [g 20 (by decide), g 21 (by decide), g 22 (by decide), g 23 (by decide), g 24 (by decide)]
    exact c5
/-- the year -/
theorem CV_yr0 {M : mH} {T : Nat → mT} {cs sg : Nat → Nat → Int32} {io : Nat → Int32} {e : Nat → Nat} {D : Nat → Nat → Nat} {nh nx ns nf ny tp : Nat} {cm : Nat → Nat} {w : Nat → Nat → Nat} {cn : Nat → Nat} {wc : Nat → Nat → Nat} (hV : CV M T cs io sg e D nh nx ns nf ny tp cm w cn wc) (hn : ny < 99) : CV M T (w1 cs 0 0 (nI (ny + 1))) (va_up io 6 (nI (ny + 1))) sg e D nh nx ns nf (ny + 1) tp cm w cn wc := by
  obtain ⟨hM, hI, ⟨c1, c2, c3, c4, c5⟩, ⟨⟨q3, q4, q5, q7, q6, q23⟩, r1, r2, r3, r4, r5, r6, r7, r8, r9, r10⟩, hJ⟩ := hV
  have g : ∀ x, ¬ x = 0 → (w1 cs 0 0 (nI (ny + 1))) x = cs x := fun x hx => w1_n _ _ _ hx
  refine ⟨hM, CI_g hI hJ (fun x hx => g x (by omega)), ⟨w1_s _ _ _ _, fun l hl => ?_, fun i hi m hm => ?_, ?_, ?_⟩, ⟨⟨q3, q4, q5, q7, ⟨rfl, by omega⟩, q23⟩, r1, r2, r3, r4, r5, r6, r7, r8, r9, r10⟩, hJ⟩
  · rw [g 1 (by decide), g 2 (by decide)]
    exact c2 l hl
  · rw [g (6 + i) (by omega)]
    exact c3 i hi m hm
  · rw [g 10 (by decide), g 11 (by decide)]
    exact c4
  · rw [g 20 (by decide), g 21 (by decide), g 22 (by decide), g 23 (by decide), g 24 (by decide)]
    exact c5
theorem CV_yr1 {M : mH} {T : Nat → mT} {cs sg : Nat → Nat → Int32} {io : Nat → Int32} {e : Nat → Nat} {D : Nat → Nat → Nat} {nh nx ns nf ny tp : Nat} {cm : Nat → Nat} {w : Nat → Nat → Nat} {cn : Nat → Nat} {wc : Nat → Nat → Nat} (hV : CV M T cs (va_up io 6 (nI (ny + 1))) sg e D nh nx ns nf (ny + 1) tp cm w cn wc) : CV M T (w1 (w1 cs 20 0 (nI 0)) 20 1 (nI 0)) (va_up (va_up (va_up io 7 (nI 0)) 8 (nI 0)) 6 (nI (ny + 1))) sg e D nh nx ns 0 (ny + 1) tp cm w cn wc := by
  obtain ⟨hM, hI, ⟨c1, c2, c3, c4, c5⟩, ⟨⟨q3, q4, q5, q7, q6, q23⟩, r1, r2, r3, r4, r5, r6, r7, r8, r9, r10⟩, hJ⟩ := hV
  have g : ∀ x, ¬ x = 20 → (w1 (w1 cs 20 0 (nI 0)) 20 1 (nI 0)) x = cs x := fun x hx => by rw [w1_n _ _ _ hx, w1_n _ _ _ hx]
  refine ⟨hM, CI_g hI hJ (fun x hx => g x (by omega)), ⟨?_, fun l hl => ?_, fun i hi m hm => ?_, ?_, ⟨?_, w1_s _ _ _ _, ?_⟩⟩, ⟨⟨q3, q4, q5, ⟨rfl, by omega⟩, q6, q23⟩, r1, r2, r3, r4, r5, r6, r7, r8, r9, fun i hi => absurd hi (Nat.not_lt_zero i)⟩, hJ⟩
  · rw [g 0 (by decide)]
    exact c1
  · rw [g 1 (by decide), g 2 (by decide)]
    exact c2 l hl
  · rw [g (6 + i) (by omega)]
    exact c3 i hi m hm
  · rw [g 10 (by decide), g 11 (by decide)]
    exact c4
  · rw [w1_o _ _ (Or.inr (by decide)), w1_s]
  · rw [g 21 (by decide), g 22 (by decide), g 23 (by decide), g 24 (by decide)]
    exact c5.2.2
def yeF (f : Nat → Int32) (m : Nat) : Nat → Int32 := if f m = nI 1 then upd f m (nI 3) else if f m = nI 2 then upd f m (nI 0) else f
theorem CV_ey {M : mH} {T : Nat → mT} {cs sg : Nat → Nat → Int32} {io : Nat → Int32} {e : Nat → Nat} {D : Nat → Nat → Nat} {nh nx ns nf ny tp : Nat} {cm : Nat → Nat} {w : Nat → Nat → Nat} {cn : Nat → Nat} {wc : Nat → Nat → Nat} (hV : CV M T cs io sg e D nh nx ns nf ny tp cm w cn wc) {m : Nat} (hm : m < ns) : CV M T (eyW cs sg (D 7 m) m) io (va_up sg 56 (yeF (sg 56) m)) e D nh nx ns nf ny tp cm w cn wc := by
  have hJ := hV.2.2.2.2
  have n87 := DJ_ne hJ (dvl_s (k := 8) (by decide) (by decide) hm) (dvl_s (k := 7) (by decide) (by decide) hm : dvl sg nh nx ns 7 m) (by omega)
  have n97 := DJ_ne hJ (dvl_s (k := 9) (by decide) (by decide) hm) (dvl_s (k := 7) (by decide) (by decide) hm : dvl sg nh nx ns 7 m) (by omega)
  obtain ⟨b1, b2, b3, ⟨d0, d1, d2, d3, d4, d7, d8, d10⟩, b5, b6, b7, b8⟩ := hV.2.1.2.2.2.2 m hm
  obtain ⟨a1, a2, a3, a4, a5, a6, a7, a8, a9, a10⟩ := hV.2.2.2.1.2.2.2.2.2.2.2.2.1 m hm
  unfold eyW yeF
  by_cases h1 : sg 56 m = nI 1
  · rw [if_pos h1, if_pos h1]
    have r : ∀ k, ¬ k = 8 → ¬ k = 9 → w1 (w1 cs (D 7 m) 8 (nI 3)) (D 7 m) 9 (-1) (D 7 m) k = cs (D 7 m) k := fun k h8 h9 => by rw [w1_o _ _ (Or.inr h9), w1_o _ _ (Or.inr h8)]
    refine CV_one hV hm (fun a ha => by rw [w1_n _ _ _ ha, w1_n _ _ _ ha]) (fun k hk => up_o _ _ (by omega)) (fun j hj => ⟨ud_o _ _ hj, rfl, rfl⟩) ⟨b1, b2, b3, ⟨(r 0 (by decide) (by decide)).trans d0, (r 1 (by decide) (by decide)).trans d1, (r 2 (by decide) (by decide)).trans d2, (r 3 (by decide) (by decide)).trans d3, (r 4 (by decide) (by decide)).trans d4, (r 7 (by decide) (by decide)).trans d7, ?_, (r 10 (by decide) (by decide)).trans d10⟩, fun t ht => ?_, fun k hk => ?_, fun z => ?_, fun z => w1_s _ _ _ _⟩ ⟨a1, a2, a3, a4, a5, a6, a7, a8, a9, ?_⟩
    · rw [w1_o _ _ (Or.inr (by decide)), w1_s]
      exact (ud_s _ _ _).symm
    · rw [w1_n _ _ _ n87, w1_n _ _ _ n87]
      exact b5 t ht
    · rw [w1_n _ _ _ n97, w1_n _ _ _ n97]
      exact b6 k hk
    · exact absurd ((ud_s (sg 56) m (nI 3)).symm.trans z) (by decide)
    · rcases a10 with z | z
      · exact absurd h1 (fun y => z.1.elim (fun u => absurd (u.symm.trans y) (by decide)) (fun u => absurd (u.symm.trans y) (by decide)))
      · exact Or.inr ⟨Or.inr (ud_s _ _ _), z.2⟩
  · rw [if_neg h1, if_neg h1]
    by_cases h2 : sg 56 m = nI 2
    · rw [if_pos h2, if_pos h2]
      have r : ∀ k, ¬ k = 8 → w1 cs (D 7 m) 8 (nI 0) (D 7 m) k = cs (D 7 m) k := fun k h8 => w1_o _ _ (Or.inr h8)
      refine CV_one hV hm (fun a ha => w1_n _ _ _ ha) (fun k hk => up_o _ _ (by omega)) (fun j hj => ⟨ud_o _ _ hj, rfl, rfl⟩) ⟨b1, b2, b3, ⟨(r 0 (by decide)).trans d0, (r 1 (by decide)).trans d1, (r 2 (by decide)).trans d2, (r 3 (by decide)).trans d3, (r 4 (by decide)).trans d4, (r 7 (by decide)).trans d7, ?_, (r 10 (by decide)).trans d10⟩, fun t ht => ?_, fun k hk => ?_, fun z => ?_, fun z => (r 9 (by decide)).trans (b8 h1)⟩ ⟨a1, a2, a3, a4, a5, a6, a7, a8, a9, ?_⟩
      · rw [w1_s]
        exact (ud_s _ _ _).symm
      · rw [w1_n _ _ _ n87]
        exact b5 t ht
      · rw [w1_n _ _ _ n97]
        exact b6 k hk
      · exact absurd ((ud_s (sg 56) m (nI 0)).symm.trans z) (by decide)
      · rcases a10 with z | z
        · exact Or.inl ⟨Or.inl (ud_s _ _ _), z.2⟩
        · exact absurd h2 (fun y => z.1.elim (fun u => absurd (u.symm.trans y) (by decide)) (fun u => absurd (u.symm.trans y) (by decide)))
    · rw [if_neg h2, if_neg h2, va_up_id]
      exact hV
theorem ye_S (sg : Nat → Nat → Int32) (m : Nat) : va_up (va_up sg 56 (sp_ye (sg 56) m)) 56 (yeF (sp_ye (sg 56) m) m) = va_up sg 56 (sp_ye (sg 56) (m + 1)) := by
  rw [va_up_up, sp_ye_S]
  unfold yeF
  rw [sp_ye_hi (sg 56) m m (Nat.le_refl _)]
