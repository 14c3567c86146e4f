/-! ONE STUDENT'S STATE CHANGES; FACTS ARE FORGOTTEN -/
theorem CI_g {M : mH} {T : Nat → mT} {cs cs2 sg : Nat → Nat → Int32} {e : Nat → Nat} {D : Nat → Nat → Nat} {nh nx ns : Nat} {cn : Nat → Nat} {wc : Nat → Nat → Nat} (h : CI M T cs sg e D nh nx ns cn wc) (hJ : DJ M sg e D nh nx ns) (hf : ∀ a, a = 25 ∨ a = 26 ∨ a = 27 ∨ 157 ≤ a → cs2 a = cs a) : CI M T cs2 sg e D nh nx ns cn wc := by
  obtain ⟨h1, ⟨h2, h3, h4⟩, h5, h6, h7⟩ := h
  have g : ∀ k i, dvl sg nh nx ns k i → cs2 (D k i) = cs (D k i) := fun k i hv => hf _ (Or.inr (Or.inr (Or.inr (DJ_lo hJ hv))))
  refine ⟨h1, ⟨LsR_f h2 (hf 25 (by omega)), LsR_f h3 (hf 26 (by omega)), LsR_f h4 (hf 27 (by omega))⟩, fun h hh => ?_, fun x hx => ?_, fun s hs => ?_⟩
  · exact ScR_f (h5 h hh) (g _ _ (dvl_0 hh)) (g _ _ (dvl_1 hh)) (fun c hc => g _ _ (dvl_3 hh hc))
  · exact AgR_cs (h6 x hx) (g _ _ (dvl_x (by decide) (by decide) hx)) (g _ _ (dvl_x (by decide) (by decide) hx))
  · exact StR_f (h7 s hs) (g _ _ (dvl_s (by decide) (by decide) hs)) (g _ _ (dvl_s (by decide) (by decide) hs)) (g _ _ (dvl_s (by decide) (by decide) hs))
theorem fo_c {f g : Nat → Int32} (v : Int32) (h : ∀ i, i < 200 → f i = g i) : ∀ n, n ≤ 200 → ∀ i, i < 200 → sp_fo f v n i = sp_fo g v n i
  | 0, _, i, hi => h i hi
  | n + 1, hn, i, hi => by
    have ih := fo_c v h n (by omega)
    rw [sp_fo_S, sp_fo_S, h n (by omega)]
    by_cases z : g n = v
    · rw [if_pos z, if_pos z]
      unfold upd
      by_cases y : i = n
      · rw [if_pos y, if_pos y]
      · rw [if_neg y, if_neg y]
        exact ih i hi
    · rw [if_neg z, if_neg z]
      exact ih i hi
theorem CV_fo {M : mH} {T : Nat → mT} {cs sg : Nat → Nat → Int32} {io : Nat → Int32} {e : Nat → Nat} {D : Nat → Nat → Nat} {nh nx ns nf ny tp : Nat} {cm : Nat → Nat} {w : Nat → Nat → Nat} {cn : Nat → Nat} {wc : Nat → Nat → Nat} (hV : CV M T cs io sg e D nh nx ns nf ny tp cm w cn wc) (v : Int32) : CV M T (wA cs 21 (sp_fo (cs 21) v nf)) io (va_up sg 78 (sp_fo (sg 78) v nf)) e D nh nx ns nf ny tp cm w cn wc := by
  have hnf := hV.2.2.2.1.1.2.2.2.1.2
  obtain ⟨c1, c2, c3, c4, c5⟩ := hV.2.2.1
  refine ⟨hV.1, CI_g hV.2.1 hV.2.2.2.2 (fun a ha => wA_o _ _ (by omega)), ⟨?_, fun l hl => ?_, fun i hi m hm => ?_, ?_, ?_⟩, hV.2.2.2.1, hV.2.2.2.2⟩
  · rw [wA_o _ _ (by decide)]
    exact c1
  · rw [wA_o _ _ (by decide), wA_o _ _ (by decide)]
    exact c2 l hl
  · rw [wA_o _ _ (by omega)]
    exact c3 i hi m hm
  · rw [wA_o _ _ (by decide), wA_o _ _ (by decide)]
    exact c4
  · rw [wA_o _ _ (by decide), wA_s, wA_o _ _ (by decide), wA_o _ _ (by decide), wA_o _ _ (by decide)]
    exact ⟨c5.1, c5.2.1, fun i hi => ⟨fo_c v (fun j hj => (c5.2.2 j hj).1) nf hnf i hi, (c5.2.2 i hi).2⟩⟩
/-- student s alone has changed: in cell D 7 s, and in the reference's rows 56, 57, 58 at s -/
theorem CV_one {M : mH} {T : Nat → mT} {cs cs2 sg sg2 : Nat → Nat → Int32} {io : Nat → Int32} {e : Nat → Nat} {D : Nat → Nat → Nat} {nh nx ns nf ny tp : Nat} {cm : Nat → Nat} {w : Nat → Nat → Nat} {cn : Nat → Nat} {wc : Nat → Nat → Nat} (hV : CV M T cs io sg e D nh nx ns nf ny tp cm w cn wc) {s : Nat} (hs : s < ns) (hcs : ∀ a, ¬ a = D 7 s → cs2 a = cs a) (hsg : ∀ k, ¬ (k = 56 ∨ k = 57 ∨ k = 58) → sg2 k = sg k) (ho : ∀ j, ¬ j = s → sg2 56 j = sg 56 j ∧ sg2 57 j = sg 57 j ∧ sg2 58 j = sg 58 j) (hS : StR M T cs2 sg2 D s (tN (sg 59 s))) (hT : RVt sg2 nh nx s) : CV M T cs2 io sg2 e D nh nx ns nf ny tp cm w cn wc := by
  obtain ⟨hM, ⟨hF, ⟨hL0, hL1, hL2⟩, hSc, hAg, hSt⟩, ⟨c1, c2, c3, c4, c5⟩, hR, hJ⟩ := hV
  have g : ∀ k i, dvl sg nh nx ns k i → ¬ (k = 7 ∧ i = s) → cs2 (D k i) = cs (D k i) := fun k i hv hn => hcs _ (DJ_ne hJ hv (dvl_s (by decide) (by decide) hs) hn)
  have hlo := DJ_lo hJ (dvl_s (k := 7) (by decide) (by decide) hs : dvl sg nh nx ns 7 s)
  have g2 : ∀ a, a < 157 → cs2 a = cs a := fun a ha => hcs a (by omega)
  refine ⟨hM, ⟨hF, ⟨LsR_f hL0 (g2 25 (by decide)), LsR_f hL1 (g2 26 (by decide)), LsR_f hL2 (g2 27 (by decide))⟩, fun h hh => ?_, fun x hx => ?_, fun t ht => ?_⟩, ⟨?_, fun l hl => ?_, fun i hi m hm => ?_, ?_, ?_⟩, ?_, ?_⟩
  · have := ScR_f (hSc h hh) (g _ _ (dvl_0 hh) (by omega)) (g _ _ (dvl_1 hh) (by omega)) (fun c hc => g _ _ (dvl_3 hh hc) (by omega))
    unfold ScR CoR at this ⊢
    rw [hsg 9 (by decide), hsg 10 (by decide), hsg 11 (by decide), hsg 13 (by decide), hsg 14 (by decide), hsg 15 (by decide), hsg 16 (by decide), hsg 17 (by decide), hsg 18 (by decide), hsg 19 (by decide), hsg 20 (by decide), hsg 21 (by decide)]
    exact this
  · have := AgR_cs (hAg x hx) (g _ _ (dvl_x (by decide) (by decide) hx) (by omega)) (g _ _ (dvl_x (by decide) (by decide) hx) (by omega))
    unfold AgR at this ⊢
    rw [hsg 27 (by decide), hsg 28 (by decide), hsg 29 (by decide), hsg 30 (by decide), hsg 31 (by decide), hsg 32 (by decide), hsg 33 (by decide), hsg 34 (by decide)]
    exact this
  · by_cases z : t = s
    · subst z
      rw [hsg 59 (by decide)]
      exact hS
    · have := StR_f (hSt t ht) (g _ _ (dvl_s (by decide) (by decide) ht) (by omega)) (g _ _ (dvl_s (by decide) (by decide) ht) (by omega)) (g _ _ (dvl_s (by decide) (by decide) ht) (by omega))
      unfold StR at this ⊢
      rw [hsg 51 (by decide), hsg 52 (by decide), hsg 53 (by decide), hsg 54 (by decide), hsg 55 (by decide), hsg 59 (by decide), hsg 60 (by decide), hsg 61 (by decide), (ho t z).1, (ho t z).2.1, (ho t z).2.2]
      exact this
  · rw [g2 0 (by decide)]
    exact c1
  · rw [g2 1 (by decide), g2 2 (by decide), hsg 0 (by decide), hsg 1 (by decide)]
    exact c2 l hl
  · rw [g2 (6 + i) (by omega), hsg 2 (by decide)]
    exact c3 i hi m hm
  · rw [g2 10 (by decide), g2 11 (by decide), hsg 22 (by decide)]
    exact c4
  · rw [g2 20 (by decide), g2 21 (by decide), g2 22 (by decide), g2 23 (by decide), g2 24 (by decide), hsg 78 (by decide), hsg 79 (by decide), hsg 80 (by decide), hsg 81 (by decide)]
    exact c5
  · obtain ⟨r0, r1, r2, r3, r4, r5, r6, r7, r8, r9, r10⟩ := hR
    refine ⟨r0, ?_, ?_, ?_, ?_, ?_, ?_, ?_, fun t ht => ?_, ?_, ?_⟩
    · rw [hsg 0 (by decide), hsg 1 (by decide)]
      exact r1
    · rw [hsg 2 (by decide)]
      exact r2
    · unfold RVs at r3 ⊢
      rw [hsg 9 (by decide), hsg 10 (by decide), hsg 11 (by decide), hsg 13 (by decide), hsg 14 (by decide), hsg 15 (by decide), hsg 16 (by decide)]
      exact r3
    · rw [hsg 16 (by decide)]
      exact r4
    · rw [hsg 16 (by decide), hsg 21 (by decide)]
      exact r5
    · unfold RVx at r6 ⊢
      rw [hsg 27 (by decide), hsg 28 (by decide), hsg 29 (by decide), hsg 30 (by decide), hsg 31 (by decide), hsg 32 (by decide), hsg 33 (by decide)]
      exact r6
    · unfold CDok at r7 ⊢
      rw [hsg 35 (by decide), hsg 36 (by decide)]
      exact r7
    · by_cases z : t = s
      · subst z
        exact hT
      · have := r8 t ht
        unfold RVt at this ⊢
        rw [hsg 51 (by decide), hsg 52 (by decide), hsg 53 (by decide), hsg 54 (by decide), hsg 55 (by decide), hsg 59 (by decide), hsg 60 (by decide), hsg 61 (by decide), hsg 27 (by decide), hsg 28 (by decide), (ho t z).1, (ho t z).2.1, (ho t z).2.2]
        exact this
    · rw [hsg 59 (by decide)]
      exact r9
    · rw [hsg 80 (by decide)]
      exact r10
  · unfold DJ dvl at hJ ⊢
    rw [hsg 16 (by decide)]
    exact hJ
/-- a student is settled -/
theorem StR_set {M : mH} {T : Nat → mT} {cs sg sg2 : Nat → Nat → Int32} {D : Nat → Nat → Nat} {s wm : Nat} {x y z : Int32} (h : StR M T cs sg D s wm) (h78 : ¬ D 8 s = D 7 s) (h79 : ¬ D 9 s = D 7 s) (hsg : ∀ k, ¬ (k = 56 ∨ k = 57 ∨ k = 58) → sg2 k = sg k) (h56 : sg2 56 s = z) (h58 : sg2 58 s = y) (h1 : z = nI 1 → ∃ v, v < wm ∧ x = nI v ∧ sg 60 (4 * s + v) = sg2 57 s) (h0 : ¬ z = nI 1 → x = -1) : StR M T (w1 (w1 (w1 cs (D 7 s) 9 x) (D 7 s) 10 y) (D 7 s) 8 z) sg2 D s wm := by
  obtain ⟨a1, a2, a3, ⟨b0, b1, b2, b3, b4, b7, b8, b10⟩, a5, a6, a7, a8⟩ := h
  have r : ∀ k, ¬ k = 8 → ¬ k = 9 → ¬ k = 10 → w1 (w1 (w1 cs (D 7 s) 9 x) (D 7 s) 10 y) (D 7 s) 8 z (D 7 s) k = cs (D 7 s) k := fun k h8 h9 h10 => by rw [w1_o _ _ (Or.inr h8), w1_o _ _ (Or.inr h10), w1_o _ _ (Or.inr h9)]
  have r8 : w1 (w1 (w1 cs (D 7 s) 9 x) (D 7 s) 10 y) (D 7 s) 8 z (D 7 s) 8 = z := w1_s _ _ _ _
  have r9 : w1 (w1 (w1 cs (D 7 s) 9 x) (D 7 s) 10 y) (D 7 s) 8 z (D 7 s) 9 = x := by rw [w1_o _ _ (Or.inr (by decide)), w1_o _ _ (Or.inr (by decide)), w1_s]
  have r10 : w1 (w1 (w1 cs (D 7 s) 9 x) (D 7 s) 10 y) (D 7 s) 8 z (D 7 s) 10 = y := by rw [w1_o _ _ (Or.inr (by decide)), w1_s]
  refine ⟨a1, a2, a3, ⟨?_, ?_, ?_, ?_, ?_, ?_, r8.trans h56.symm, r10.trans h58.symm⟩, fun t ht => ?_, fun w hw => ?_, fun hz => ?_, fun hz => ?_⟩
  · rw [r 0 (by decide) (by decide) (by decide), hsg 51 (by decide)]
    exact b0
  · rw [r 1 (by decide) (by decide) (by decide), hsg 52 (by decide)]
    exact b1
  · rw [r 2 (by decide) (by decide) (by decide), hsg 53 (by decide)]
    exact b2
  · rw [r 3 (by decide) (by decide) (by decide), hsg 54 (by decide)]
    exact b3
  · rw [r 4 (by decide) (by decide) (by decide), hsg 55 (by decide)]
    exact b4
  · rw [r 7 (by decide) (by decide) (by decide)]
    exact b7
  · rw [w1_n _ _ _ h78, w1_n _ _ _ h78, w1_n _ _ _ h78, hsg 61 (by decide)]
    exact a5 t ht
  · rw [w1_n _ _ _ h79, w1_n _ _ _ h79, w1_n _ _ _ h79, hsg 60 (by decide)]
    exact a6 w hw
  · obtain ⟨v, v1, v2, v3⟩ := h1 (h56.symm.trans hz)
    exact ⟨v, v1, r9.trans v2, by rw [hsg 60 (by decide)]; exact v3⟩
  · exact r9.trans (h0 (fun y => hz (h56.trans y)))
