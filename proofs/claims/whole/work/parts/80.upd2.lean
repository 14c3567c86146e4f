/-! WHAT A CALL CHANGES: level, wish, out, facts, years, schools -/
theorem CV_level {M : mH} {T : Nat → mT} {cs sg : Nat → Nat → Int32} {io : Nat → Int32} {e : Nat → Nat} {D : Nat → Nat → Nat} {nh nx ns nf ny tp : Nat} {cm : Nat → Nat} {w : Nat → Nat → Nat} {cn : Nat → Nat} {wc : Nat → Nat → Nat} (hV : CV M T cs io sg e D nh nx ns nf ny tp cm w cn wc) {s t : Nat} {n : Int32} (hs : s < ns) (ht : t < 4) (hn : n = -1 ∨ inN n 9) : CV M T (w1 cs (D 8 s) t n) io (va_up sg 61 (upd (sg 61) (4 * s + t) n)) e D nh nx ns nf ny tp cm w cn wc := by
  have hJ := hV.2.2.2.2
  have n78 := DJ_ne hJ (dvl_s (k := 7) (by decide) (by decide) hs) (dvl_s (k := 8) (by decide) (by decide) hs : dvl sg nh nx ns 8 s) (by omega)
  have n98 := DJ_ne hJ (dvl_s (k := 9) (by decide) (by decide) hs) (dvl_s (k := 8) (by decide) (by decide) hs : dvl sg nh nx ns 8 s) (by omega)
  refine CV_stu hV hs (fun a h7 h8 h9 => w1_n _ _ _ h8) (fun k hk => up_o _ _ (by omega)) (fun t2 z k h1 h2 => by rw [up_o _ _ (by omega)]) (fun t2 z j hj => ⟨rfl, ?_⟩) ?_ ?_
  · show upd (sg 61) (4 * s + t) n (4 * t2 + j) = _
    rw [ud_o _ _ (by omega)]
  · obtain ⟨b1, b2, b3, b4, b5, b6, b7, b8⟩ := hV.2.1.2.2.2.2 s hs
    show StR M T _ _ D s (tN (sg 59 s))
    unfold StR
    rw [w1_n cs (b := D 7 s) t n n78, w1_n cs (b := D 9 s) t n n98]
    refine ⟨b1, b2, b3, b4, fun j hj => ?_, b6, b7, b8⟩
    show w1 cs (D 8 s) t n (D 8 s) j = upd (sg 61) (4 * s + t) n (4 * s + j)
    by_cases z : j = t
    · subst z
      rw [w1_s, ud_s]
    · rw [w1_o _ _ (Or.inr z), ud_o _ _ (by omega)]
      exact b5 j hj
  · obtain ⟨a1, a2, a3, a4, a5, a6, a7, a8, a9, a10⟩ := hV.2.2.2.1.2.2.2.2.2.2.2.2.1 s hs
    refine ⟨a1, a2, a3, a4, a5, fun j hj => ?_, a7, a8, a9, a10⟩
    show upd (sg 61) (4 * s + t) n (4 * s + j) = -1 ∨ inN (upd (sg 61) (4 * s + t) n (4 * s + j)) 9
    by_cases z : j = t
    · subst z
      rw [ud_s]
      exact hn
    · rw [ud_o _ _ (by omega)]
      exact a6 j hj
theorem CV_wish {M : mH} {T : Nat → mT} {cs sg : Nat → Nat → Int32} {io : Nat → Int32} {e : Nat → Nat} {D : Nat → Nat → Nat} {nh nx ns nf ny tp : Nat} {cm : Nat → Nat} {w : Nat → Nat → Nat} {cn : Nat → Nat} {wc : Nat → Nat → Nat} (hV : CV M T cs io sg e D nh nx ns nf ny tp cm w cn wc) {s h wm : Nat} (hs : s < ns) (hh : h < nh) (h59 : sg 59 s = nI wm) (hw : wm < 4) (h56 : sg 56 s = 0) (hnw : ∀ j, j < wm → ¬ sg 60 (4 * s + j) = nI h) : CV M T (w1 (w1 cs (D 9 s) wm (nI h)) (D 7 s) 7 (nI (wm + 1))) io (va_up (va_up sg 60 (upd (sg 60) (4 * s + wm) (nI h))) 59 (upd (sg 59) s (nI (wm + 1)))) e D nh nx ns nf ny tp cm w cn wc := by
  have hJ := hV.2.2.2.2
  have n87 := DJ_ne hJ (dvl_s (k := 8) (by decide) (by decide) hs) (dvl_s (k := 7) (by decide) (by decide) hs : dvl sg nh nx ns 7 s) (by omega)
  have n97 := DJ_ne hJ (dvl_s (k := 9) (by decide) (by decide) hs) (dvl_s (k := 7) (by decide) (by decide) hs : dvl sg nh nx ns 7 s) (by omega)
  have n89 := DJ_ne hJ (dvl_s (k := 8) (by decide) (by decide) hs) (dvl_s (k := 9) (by decide) (by decide) hs : dvl sg nh nx ns 9 s) (by omega)
  have n79 := DJ_ne hJ (dvl_s (k := 7) (by decide) (by decide) hs) (dvl_s (k := 9) (by decide) (by decide) hs : dvl sg nh nx ns 9 s) (by omega)
  have t59 : tN (sg 59 s) = wm := by rw [h59, tN_nI (by omega)]
  have e59 : va_up (va_up sg 60 (upd (sg 60) (4 * s + wm) (nI h))) 59 (upd (sg 59) s (nI (wm + 1))) 59 s = nI (wm + 1) := ud_s _ _ _
  have t59' : tN (va_up (va_up sg 60 (upd (sg 60) (4 * s + wm) (nI h))) 59 (upd (sg 59) s (nI (wm + 1))) 59 s) = wm + 1 := by rw [e59, tN_nI (by omega)]
  have e60 : ∀ j, va_up (va_up sg 60 (upd (sg 60) (4 * s + wm) (nI h))) 59 (upd (sg 59) s (nI (wm + 1))) 60 j = upd (sg 60) (4 * s + wm) (nI h) j := fun j => rfl
  refine CV_stu hV hs (fun a h7 h8 h9 => by rw [w1_n _ _ _ h7, w1_n _ _ _ h9]) (fun k hk => (up_o _ _ (by omega)).trans (up_o _ _ (by omega))) (fun t2 z k h1 h2 => ?_) (fun t2 z j hj => ⟨?_, rfl⟩) ?_ ?_
  · by_cases y : k = 59
    · subst y
      exact ud_o _ _ z
    · rw [up_o _ _ y, up_o _ _ (by omega)]
  · rw [e60, ud_o _ _ (by omega)]
  · obtain ⟨b1, b2, b3, ⟨d0, d1, d2, d3, d4, d7, d8, d10⟩, b5, b6, b7, b8⟩ := hV.2.1.2.2.2.2 s hs
    rw [t59'] 
    rw [t59] at b6 b7
    have r : ∀ k, ¬ k = 7 → w1 (w1 cs (D 9 s) wm (nI h)) (D 7 s) 7 (nI (wm + 1)) (D 7 s) k = cs (D 7 s) k := fun k hk => by rw [w1_o _ _ (Or.inr hk), w1_n _ _ _ n79]
    refine ⟨b1, b2, b3, ⟨(r 0 (by decide)).trans d0, (r 1 (by decide)).trans d1, (r 2 (by decide)).trans d2, (r 3 (by decide)).trans d3, (r 4 (by decide)).trans d4, w1_s _ _ _ _, (r 8 (by decide)).trans d8, (r 10 (by decide)).trans d10⟩, fun j hj => ?_, fun j hj => ?_, fun z => ?_, fun z => (r 9 (by decide)).trans (b8 z)⟩
    · rw [w1_n _ _ _ n87, w1_n _ _ _ n89]
      exact b5 j hj
    · rw [w1_n _ _ _ n97, e60]
      by_cases z : j = wm
      · subst z
        rw [w1_s, ud_s]
      · rw [w1_o _ _ (Or.inr z), ud_o _ _ (by omega)]
        exact b6 j (by omega)
    · exact absurd (h56.symm.trans z) (by decide)
  · obtain ⟨a1, a2, a3, a4, a5, a6, a7, a8, a9, a10⟩ := hV.2.2.2.1.2.2.2.2.2.2.2.2.1 s hs
    rw [t59] at a8 a9
    unfold RVt
    rw [t59', e59]
    refine ⟨a1, a2, a3, a4, a5, a6, ⟨wm + 1, by omega, rfl⟩, fun k hk => ?_, fun j k hjk hk => ?_, a10⟩
    · rw [e60]
      by_cases z : k = wm
      · subst z
        rw [ud_s]
        exact ⟨h, hh, rfl⟩
      · rw [ud_o _ _ (by omega)]
        exact a8 k (by omega)
    · rw [e60, e60]
      by_cases z : k = wm
      · subst z
        rw [ud_s, ud_o _ _ (by omega)]
        exact hnw j hjk
      · rw [ud_o _ _ (by omega), ud_o _ _ (by omega)]
        exact a9 j k hjk (by omega)
theorem CV_out {M : mH} {T : Nat → mT} {cs sg : Nat → Nat → Int32} {io : Nat → Int32} {e : Nat → Nat} {D : Nat → Nat → Nat} {nh nx ns nf ny tp : Nat} {cm : Nat → Nat} {w : Nat → Nat → Nat} {cn : Nat → Nat} {wc : Nat → Nat → Nat} (hV : CV M T cs io sg e D nh nx ns nf ny tp cm w cn wc) {s : Nat} (hs : s < ns) : CV M T (w1 (w1 (w1 cs (D 7 s) 9 (-1)) (D 7 s) 10 (-1)) (D 7 s) 8 (nI 2)) io (va_up (va_up (va_up sg 56 (upd (sg 56) s (nI 2))) 57 (upd (sg 57) s (-1))) 58 (upd (sg 58) s (-1))) e D nh nx ns nf ny tp cm w cn wc := by
  have hJ := hV.2.2.2.2
  have g : ∀ k, ¬ (k = 56 ∨ k = 57 ∨ k = 58) → (va_up (va_up (va_up sg 56 (upd (sg 56) s (nI 2))) 57 (upd (sg 57) s (-1))) 58 (upd (sg 58) s (-1))) k = sg k := fun k hk => by rw [up_o _ _ (by omega), up_o _ _ (by omega), up_o _ _ (by omega)]
  refine CV_one hV hs (fun a ha => by rw [w1_n _ _ _ ha, w1_n _ _ _ ha, w1_n _ _ _ ha]) g (fun j hj => ⟨ud_o _ _ hj, ud_o _ _ hj, ud_o _ _ hj⟩) (StR_set (hV.2.1.2.2.2.2 _ hs) (DJ_ne hJ (dvl_s (by decide) (by decide) hs) (dvl_s (by decide) (by decide) hs) (by omega)) (DJ_ne hJ (dvl_s (by decide) (by decide) hs) (dvl_s (by decide) (by decide) hs) (by omega)) g (ud_s _ _ _) (ud_s _ _ _) (fun z => absurd z (by decide)) (fun _ => rfl)) ?_
  obtain ⟨a1, a2, a3, a4, a5, a6, a7, a8, a9, a10⟩ := hV.2.2.2.1.2.2.2.2.2.2.2.2.1 s hs
  exact ⟨a1, a2, a3, a4, a5, a6, a7, a8, a9, Or.inl ⟨Or.inr (ud_s _ _ _), ud_s _ _ _, ud_s _ _ _⟩⟩
theorem CV_fact {M : mH} {T : Nat → mT} {cs sg : Nat → Nat → Int32} {io : Nat → Int32} {e : Nat → Nat} {D : Nat → Nat → Nat} {nh nx ns nf ny tp : Nat} {cm : Nat → Nat} {w : Nat → Nat → Nat} {cn : Nat → Nat} {wc : Nat → Nat → Nat} (hV : CV M T cs io sg e D nh nx ns nf ny tp cm w cn wc) {s k d t : Int32} (hd : d = -1 ∨ inN d 359) (hn : nf < 200) : CV M T (w1 (w1 (w1 (w1 (w1 (w1 cs 21 nf s) 22 nf k) 23 nf d) 24 nf t) 20 0 (nI (nf + 1))) 20 1 t) (va_up (va_up io 7 (nI (nf + 1))) 8 t) (va_up (va_up (va_up (va_up sg 78 (upd (sg 78) nf s)) 79 (upd (sg 79) nf k)) 80 (upd (sg 80) nf d)) 81 (upd (sg 81) nf t)) e D nh nx ns (nf + 1) ny tp cm w cn wc := by
  obtain ⟨hM, hI, ⟨c1, c2, c3, c4, c5⟩, ⟨⟨q3, q4, q5, q7, q6, q23⟩, r1, r2, r3, r4, r5, r6, r7, r8, r9, r10⟩, hJ⟩ := hV
  have g : ∀ a, ¬ (20 ≤ a ∧ a ≤ 24) → (w1 (w1 (w1 (w1 (w1 (w1 cs 21 nf s) 22 nf k) 23 nf d) 24 nf t) 20 0 (nI (nf + 1))) 20 1 t) a = cs a := fun a ha => by rw [w1_n _ _ _ (by omega), w1_n _ _ _ (by omega), w1_n _ _ _ (by omega), w1_n _ _ _ (by omega), w1_n _ _ _ (by omega), w1_n _ _ _ (by omega)]
  refine ⟨hM, CI_sg hI hJ (fun a ha => g a (by omega)) (fun k h1 h2 h3 => by rw [up_o _ _ (by omega), up_o _ _ (by omega), up_o _ _ (by omega), up_o _ _ (by omega)]), ⟨?_, fun l hl => ?_, fun i hi m hm => ?_, ?_, ⟨?_, w1_s _ _ _ _, fun i hi => ?_⟩⟩, ⟨⟨q3, q4, q5, ⟨rfl, by omega⟩, q6, q23⟩, r1, r2, r3, r4, r5, r6, r7, r8, r9, fun i hi => ?_⟩, hJ⟩
  · rw [g 0 (by decide)]
    exact c1
  · rw [g 1 (by decide), g 2 (by decide)]
    exact c2 l hl
  · rw [g (6 + i) (by omega)]
    exact c3 i hi m hm
  · rw [g 10 (by decide), g 11 (by decide)]
    exact c4
  · rw [w1_o _ _ (Or.inr (by decide)), w1_s]
  · show _ = upd (sg 78) nf s i ∧ _ = upd (sg 79) nf k i ∧ _ = upd (sg 80) nf d i ∧ _ = upd (sg 81) nf t i
    have e21 : (w1 (w1 (w1 (w1 (w1 (w1 cs 21 nf s) 22 nf k) 23 nf d) 24 nf t) 20 0 (nI (nf + 1))) 20 1 t) 21 = w1 cs 21 nf s 21 := by rw [w1_n _ _ _ (by decide), w1_n _ _ _ (by decide), w1_n _ _ _ (by decide), w1_n _ _ _ (by decide), w1_n _ _ _ (by decide)]
    have e22 : (w1 (w1 (w1 (w1 (w1 (w1 cs 21 nf s) 22 nf k) 23 nf d) 24 nf t) 20 0 (nI (nf + 1))) 20 1 t) 22 = w1 (w1 cs 21 nf s) 22 nf k 22 := by rw [w1_n _ _ _ (by decide), w1_n _ _ _ (by decide), w1_n _ _ _ (by decide), w1_n _ _ _ (by decide)]
    have e23 : (w1 (w1 (w1 (w1 (w1 (w1 cs 21 nf s) 22 nf k) 23 nf d) 24 nf t) 20 0 (nI (nf + 1))) 20 1 t) 23 = w1 (w1 (w1 cs 21 nf s) 22 nf k) 23 nf d 23 := by rw [w1_n _ _ _ (by decide), w1_n _ _ _ (by decide), w1_n _ _ _ (by decide)]
    have e24 : (w1 (w1 (w1 (w1 (w1 (w1 cs 21 nf s) 22 nf k) 23 nf d) 24 nf t) 20 0 (nI (nf + 1))) 20 1 t) 24 = w1 (w1 (w1 (w1 cs 21 nf s) 22 nf k) 23 nf d) 24 nf t 24 := by rw [w1_n _ _ _ (by decide), w1_n _ _ _ (by decide)]
    rw [e21, e22, e23, e24]
    by_cases z : i = nf
    · subst z
      rw [w1_s, w1_s, w1_s, w1_s, ud_s, ud_s, ud_s, ud_s]
      exact ⟨rfl, rfl, rfl, rfl⟩
    · rw [ud_o _ _ z, ud_o _ _ z, ud_o _ _ z, ud_o _ _ z]
      obtain ⟨y1, y2, y3, y4⟩ := c5.2.2 i hi
      exact ⟨(w1_o _ _ (Or.inr z)).trans y1, (w1_o _ _ (Or.inr z)).trans ((w1_o _ _ (Or.inr z)).trans y2), (w1_o _ _ (Or.inr z)).trans ((w1_o _ _ (Or.inr z)).trans ((w1_o _ _ (Or.inr z)).trans y3)), (w1_o _ _ (Or.inr z)).trans ((w1_o _ _ (Or.inr z)).trans ((w1_o _ _ (Or.inr z)).trans ((w1_o _ _ (Or.inr z)).trans y4)))⟩
  · show upd (sg 80) nf d i = -1 ∨ inN (upd (sg 80) nf d i) 359
    by_cases z : i = nf
    · subst z
      rw [ud_s]
      exact hd
    · rw [ud_o _ _ z]
      exact r10 i (by omega)
/-- a school alone has changed, not how many courses it has -/
theorem CV_sch {M : mH} {T : Nat → mT} {cs cs2 sg sg2 : Nat → Nat → Int32} {io : Nat → Int32} {e : Nat → Nat} {D : Nat → Nat → Nat} {nh nx ns nf ny tp : Nat} {cm : Nat → Nat} {w : Nat → Nat → Nat} {cn : Nat → Nat} {wc : Nat → Nat → Nat} (hV : CV M T cs io sg e D nh nx ns nf ny tp cm w cn wc) {h : Nat} (hh : h < nh) (hcs : ∀ a, ¬ a = D 0 h → (∀ c, c < tN (sg 16 h) → ¬ a = D 3 (6 * h + c)) → cs2 a = cs a) (hsg : ∀ k, ¬ (k = 11 ∨ k = 21) → sg2 k = sg k) (ho : ∀ g, ¬ g = h → sg2 11 g = sg 11 g ∧ ∀ c, c < 6 → sg2 21 (6 * g + c) = sg 21 (6 * g + c)) (hS : ScR M T cs2 sg2 D h (tN (sg 16 h))) (hb : inN (sg2 11 h) 9) (h21 : ∀ c, c < 6 → sg2 21 (6 * h + c) = 0 ∨ sg2 21 (6 * h + c) = nI 1 ∧ c < tN (sg 16 h)) : CV M T cs2 io sg2 e D nh nx ns nf ny tp cm w cn wc := by
  obtain ⟨hM, ⟨hF, ⟨hL0, hL1, hL2⟩, hSc, hAg, hSt⟩, ⟨c1, c2, c3, c4, c5⟩, hR, hJ⟩ := hV
  have g : ∀ k i, dvl sg nh nx ns k i → ¬ (k = 0 ∧ i = h) → (∀ c, c < tN (sg 16 h) → ¬ (k = 3 ∧ i = 6 * h + c)) → cs2 (D k i) = cs (D k i) := fun k i hv hn hn2 => hcs _ (DJ_ne hJ hv (dvl_0 hh) hn) (fun c hc => DJ_ne hJ hv (dvl_3 hh hc) (hn2 c hc))
  have g2 : ∀ a, a < 157 → cs2 a = cs a := fun a ha => hcs a (fun z => by have := DJ_lo hJ (dvl_0 hh : dvl sg nh nx ns 0 h); omega) (fun c hc z => by have := DJ_lo hJ (dvl_3 hh hc : dvl sg nh nx ns 3 (6 * h + c)); omega)
  have h16 : ∀ x, x < nh → tN (sg 16 x) ≤ 6 := fun x hx => (inN_tN (hR.2.2.2.1 x hx).2.2.2.2.2 (by decide)).2
  refine ⟨hM, ⟨hF, ⟨LsR_f hL0 (g2 25 (by decide)), LsR_f hL1 (g2 26 (by decide)), LsR_f hL2 (g2 27 (by decide))⟩, fun x hx => ?_, fun x hx => ?_, fun t ht => ?_⟩, ⟨?_, fun l hl => ?_, fun i hi m hm => ?_, ?_, ?_⟩, ?_, DJ_g hJ (hsg 16 (by decide))⟩
  · rw [hsg 16 (by decide)]
    by_cases z : x = h
    · subst z
      exact hS
    · have q6 := h16 h hh
      have q7 := h16 x hx
      have := ScR_f (hSc x hx) (g _ _ (dvl_0 hx) (by omega) (by omega)) (g _ _ (dvl_1 hx) (by omega) (by omega)) (fun c hc => g _ _ (dvl_3 hx hc) (by omega) (fun c2 hc2 y => z (by omega)))
      unfold ScR CoR at this ⊢
      rw [hsg 9 (by decide), hsg 10 (by decide), hsg 13 (by decide), hsg 14 (by decide), hsg 15 (by decide), hsg 17 (by decide), hsg 18 (by decide), hsg 19 (by decide), hsg 20 (by decide), (ho x z).1]
      obtain ⟨b1, b2, b3, b4, b5⟩ := this
      exact ⟨b1, b2, b3, b4, fun c hc => by rw [(ho x z).2 c (by omega)]; exact b5 c hc⟩
  · exact AgR_g (hAg x hx) (g _ _ (dvl_x (by decide) (by decide) hx) (by omega) (by omega)) (g _ _ (dvl_x (by decide) (by decide) hx) (by omega) (by omega)) (fun k h1 h2 => hsg k (by omega))
  · rw [hsg 59 (by decide)]
    exact StR_g (hSt t ht) (g _ _ (dvl_s (by decide) (by decide) ht) (by omega) (by omega)) (g _ _ (dvl_s (by decide) (by decide) ht) (by omega) (by omega)) (g _ _ (dvl_s (by decide) (by decide) ht) (by omega) (by omega)) (fun k h1 h2 => hsg k (by omega))
  · rw [g2 0 (by decide)]
    exact c1
  · rw [g2 1 (by decide), g2 2 (by decide), hsg 0 (by decide), hsg 1 (by decide)]
    exact c2 l hl
  · rw [g2 (6 + i) (by omega), hsg 2 (by decide)]
    exact c3 i hi m hm
  · rw [g2 10 (by decide), g2 11 (by decide), hsg 22 (by decide)]
    exact c4
  · rw [g2 20 (by decide), g2 21 (by decide), g2 22 (by decide), g2 23 (by decide), g2 24 (by decide), hsg 78 (by decide), hsg 79 (by decide), hsg 80 (by decide), hsg 81 (by decide)]
    exact c5
  · obtain ⟨r0, r1, r2, r3, r4, r5, r6, r7, r8, r9, r10⟩ := hR
    refine ⟨r0, ?_, ?_, fun x hx => ?_, ?_, fun x c hx hc => ?_, fun x hx => RVx_g (r6 x hx) (fun k h1 h2 => hsg k (by omega)), ?_, fun t ht => RVt_g (r8 t ht) (fun k h1 h2 h3 => hsg k (by omega)), ?_, ?_⟩
    · rw [hsg 0 (by decide), hsg 1 (by decide)]
      exact r1
    · rw [hsg 2 (by decide)]
      exact r2
    · have := r3 x hx
      unfold RVs at this ⊢
      rw [hsg 9 (by decide), hsg 10 (by decide), hsg 13 (by decide), hsg 14 (by decide), hsg 15 (by decide), hsg 16 (by decide)]
      by_cases z : x = h
      · subst z
        exact ⟨this.1, this.2.1, hb, this.2.2.2⟩
      · rw [(ho x z).1]
        exact this
    · rw [hsg 16 (by decide)]
      exact r4
    · rw [hsg 16 (by decide)]
      by_cases z : x = h
      · subst z
        exact (h21 c hc).imp id (fun y => ⟨y.1, hh, y.2⟩)
      · rw [(ho x z).2 c hc]
        exact r5 x c hx hc
    · unfold CDok at r7 ⊢
      rw [hsg 35 (by decide), hsg 36 (by decide)]
      exact r7
    · rw [hsg 59 (by decide)]
      exact r9
    · rw [hsg 80 (by decide)]
      exact r10
theorem CV_beds {M : mH} {T : Nat → mT} {cs sg : Nat → Nat → Int32} {io : Nat → Int32} {e : Nat → Nat} {D : Nat → Nat → Nat} {nh nx ns nf ny tp : Nat} {cm : Nat → Nat} {w : Nat → Nat → Nat} {cn : Nat → Nat} {wc : Nat → Nat → Nat} (hV : CV M T cs io sg e D nh nx ns nf ny tp cm w cn wc) {h n : Nat} (hh : h < nh) (hn : n ≤ 9) : CV M T (w1 cs (D 0 h) 5 (nI n)) io (va_up sg 11 (upd (sg 11) h (nI n))) e D nh nx ns nf ny tp cm w cn wc := by
  have hJ := hV.2.2.2.2
  have hR := hV.2.2.2.1
  have h6 := (inN_tN (hR.2.2.2.1 h hh).2.2.2.2.2 (by decide)).2
  refine CV_sch hV hh (fun a h0 _ => w1_n _ _ _ h0) (fun k hk => up_o _ _ (by omega)) (fun g z => ⟨ud_o _ _ z, fun c hc => rfl⟩) ?_ ⟨n, hn, ud_s _ _ _⟩ (fun c hc => ?_)
  · obtain ⟨b1, b2, ⟨d0, d1, d2, d3, d4, d5⟩, b4, b5⟩ := hV.2.1.2.2.1 h hh
    have r : ∀ k, ¬ k = 5 → w1 cs (D 0 h) 5 (nI n) (D 0 h) k = cs (D 0 h) k := fun k hk => w1_o _ _ (Or.inr hk)
    refine ⟨b1, b2, ⟨(r 0 (by decide)).trans d0, (r 1 (by decide)).trans d1, (r 2 (by decide)).trans d2, (r 3 (by decide)).trans d3, (r 4 (by decide)).trans d4, ?_⟩, LsR_f b4 (w1_n _ _ _ (DJ_ne hJ (dvl_1 hh) (dvl_0 hh) (by omega))), fun c hc => ?_⟩
    · rw [w1_s]
      exact (ud_s _ _ _).symm
    · exact CoR_f (b5 c hc) (w1_n _ _ _ (DJ_ne hJ (dvl_3 hh hc) (dvl_0 hh) (by omega)))
  · exact (hR.2.2.2.2.2.1 h c (by have := hR.1.1.2; omega) hc).imp id (fun y => ⟨y.1, y.2.2⟩)
theorem CV_cancel {M : mH} {T : Nat → mT} {cs sg : Nat → Nat → Int32} {io : Nat → Int32} {e : Nat → Nat} {D : Nat → Nat → Nat} {nh nx ns nf ny tp : Nat} {cm : Nat → Nat} {w : Nat → Nat → Nat} {cn : Nat → Nat} {wc : Nat → Nat → Nat} (hV : CV M T cs io sg e D nh nx ns nf ny tp cm w cn wc) {h c : Nat} {z : Int32} (hh : h < nh) (hc : c < tN (sg 16 h)) (hz : z = 0 ∨ z = nI 1) : CV M T (w1 cs (D 3 (6 * h + c)) 4 z) io (va_up sg 21 (upd (sg 21) (6 * h + c) z)) e D nh nx ns nf ny tp cm w cn wc := by
  have hJ := hV.2.2.2.2
  have hR := hV.2.2.2.1
  have h6 := (inN_tN (hR.2.2.2.1 h hh).2.2.2.2.2 (by decide)).2
  refine CV_sch hV hh (fun a _ h3 => w1_n _ _ _ (h3 c hc)) (fun k hk => up_o _ _ (by omega)) (fun g y => ⟨rfl, fun c2 hc2 => ud_o _ _ (by omega)⟩) ?_ (hR.2.2.2.1 h hh).2.2.1 (fun c2 hc2 => ?_)
  · obtain ⟨b1, b2, b3, b4, b5⟩ := hV.2.1.2.2.1 h hh
    refine ⟨b1, b2, ?_, LsR_f b4 (w1_n _ _ _ (DJ_ne hJ (dvl_1 hh) (dvl_3 hh hc) (by omega))), fun c2 hc2 => ?_⟩
    · rw [w1_n _ _ _ (DJ_ne hJ (dvl_0 hh) (dvl_3 hh hc) (by omega))]
      exact b3
    · by_cases y : c2 = c
      · subst y
        obtain ⟨a1, a2, a3, a4, a5, a6, a7⟩ := b5 c2 hc2
        refine ⟨a1, a2, (w1_o _ _ (Or.inr (by decide))).trans a3, (w1_o _ _ (Or.inr (by decide))).trans a4, (w1_o _ _ (Or.inr (by decide))).trans a5, (w1_o _ _ (Or.inr (by decide))).trans a6, ?_⟩
        rw [w1_s]
        exact (ud_s _ _ _).symm
      · obtain ⟨a1, a2, a3, a4, a5, a6, a7⟩ := CoR_f (b5 c2 hc2) (cs2 := w1 cs (D 3 (6 * h + c)) 4 z) (w1_n _ _ _ (DJ_ne hJ (dvl_3 hh hc2) (dvl_3 hh hc) (by omega)))
        refine ⟨a1, a2, a3, a4, a5, a6, ?_⟩
        show _ = upd (sg 21) (6 * h + c) z (6 * h + c2)
        rw [ud_o _ _ (by omega)]
        exact a7
  · show upd (sg 21) (6 * h + c) z (6 * h + c2) = 0 ∨ upd (sg 21) (6 * h + c) z (6 * h + c2) = nI 1 ∧ _
    by_cases y : c2 = c
    · subst y
      rw [ud_s]
      exact hz.imp id (fun u => ⟨u, hc⟩)
    · rw [ud_o _ _ (by omega)]
      exact (hR.2.2.2.2.2.1 h c2 (by have := hR.1.1.2; omega) hc2).imp id (fun u => ⟨u.1, u.2.2⟩)
