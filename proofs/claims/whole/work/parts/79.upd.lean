/-! WHAT A CALL CHANGES -/
theorem w1_w1 (cs : Nat → Nat → Int32) (a k : Nat) (v v2 : Int32) : w1 (w1 cs a k v) a k v2 = w1 cs a k v2 := by
  funext b j
  by_cases h : b = a ∧ j = k
  · obtain ⟨rfl, rfl⟩ := h
    rw [w1_s, w1_s]
  · have h2 : ¬ b = a ∨ ¬ j = k := by
      by_cases z : b = a
      · exact Or.inr (fun y => h ⟨z, y⟩)
      · exact Or.inl z
    rw [w1_o _ _ h2, w1_o _ _ h2, w1_o _ _ h2]
theorem CV_land {M : mH} {T : Nat → mT} {cs sg : Nat → Nat → Int32} {io : Nat → Int32} {e : Nat → Nat} {D : Nat → Nat → Nat} {nh nx ns nf ny tp : Nat} {cm : Nat → Nat} {w : Nat → Nat → Nat} {cn : Nat → Nat} {wc : Nat → Nat → Nat} (hV : CV M T cs io sg e D nh nx ns nf ny tp cm w cn wc) {l a b : Nat} (hl : l < 4) (hab : a ≤ b) (hb : b ≤ 200) : CV M T (w1 (w1 cs 1 l (nI a)) 2 l (nI b)) io (va_up (va_up sg 0 (upd (sg 0) l (nI a))) 1 (upd (sg 1) l (nI b))) e D nh nx ns nf ny tp cm w cn wc := by
  obtain ⟨hM, hI, ⟨c1, c2, c3, c4, c5⟩, ⟨r0, r1, r2, r3, r4, r5, r6, r7, r8, r9, r10⟩, hJ⟩ := hV
  refine ⟨hM, CI_sg hI hJ (fun x hx => by rw [w1_n _ _ _ (by omega), w1_n _ _ _ (by omega)]) (fun k h1 h2 h3 => (up_o _ _ (by omega)).trans (up_o _ _ (by omega))), ⟨?_, fun i hi => ?_, fun i hi m hm => ?_, ?_, ?_⟩, ⟨r0, fun i hi => ?_, r2, r3, r4, r5, r6, r7, r8, r9, r10⟩, hJ⟩
  · rw [w1_n _ _ _ (by decide), w1_n _ _ _ (by decide)]
    exact c1
  · rw [w1_n (w1 cs 1 l (nI a)) (a := 2) (b := 1) _ _ (by decide)]
    show w1 cs 1 l (nI a) 1 i = upd (sg 0) l (nI a) i ∧ w1 (w1 cs 1 l (nI a)) 2 l (nI b) 2 i = upd (sg 1) l (nI b) i
    by_cases z : i = l
    · subst z
      rw [w1_s, w1_s, ud_s, ud_s]
      exact ⟨rfl, rfl⟩
    · rw [w1_o _ _ (Or.inr z), w1_o _ _ (Or.inr z), w1_n _ _ _ (by decide), ud_o _ _ z, ud_o _ _ z]
      exact c2 i hi
  · rw [w1_n _ _ _ (by omega), w1_n _ _ _ (by omega)]
    exact c3 i hi m hm
  · rw [w1_n _ _ _ (by decide), w1_n _ _ _ (by decide), w1_n _ _ _ (by decide), w1_n _ _ _ (by decide)]
    exact c4
  · rw [w1_n _ _ _ (by decide), w1_n _ _ _ (by decide), w1_n _ _ _ (by decide), w1_n _ _ _ (by decide), w1_n _ _ _ (by decide), w1_n _ _ _ (by decide), w1_n _ _ _ (by decide), w1_n _ _ _ (by decide), w1_n _ _ _ (by decide), w1_n _ _ _ (by decide)]
    exact c5
  · show ∃ a2 b2, a2 ≤ b2 ∧ b2 ≤ 200 ∧ upd (sg 0) l (nI a) i = nI a2 ∧ upd (sg 1) l (nI b) i = nI b2
    by_cases z : i = l
    · subst z
      exact ⟨a, b, hab, hb, ud_s _ _ _, ud_s _ _ _⟩
    · rw [ud_o _ _ z, ud_o _ _ z]
      exact r1 i hi
theorem CV_had {M : mH} {T : Nat → mT} {cs sg : Nat → Nat → Int32} {io : Nat → Int32} {e : Nat → Nat} {D : Nat → Nat → Nat} {nh nx ns nf ny tp : Nat} {cm : Nat → Nat} {w : Nat → Nat → Nat} {cn : Nat → Nat} {wc : Nat → Nat → Nat} (hV : CV M T cs io sg e D nh nx ns nf ny tp cm w cn wc) {c m n : Nat} (hc : c < 4) (hm : m < 11) (hn : n ≤ 999) : CV M T (w1 cs (6 + c) m (nI n)) io (va_up sg 2 (upd (sg 2) (11 * c + m) (nI n))) e D nh nx ns nf ny tp cm w cn wc := by
  obtain ⟨hM, hI, ⟨c1, c2, c3, c4, c5⟩, ⟨r0, r1, r2, r3, r4, r5, r6, r7, r8, r9, r10⟩, hJ⟩ := hV
  refine ⟨hM, CI_sg hI hJ (fun x hx => by rw [w1_n _ _ _ (by omega)]) (fun k h1 h2 h3 => up_o _ _ (by omega)), ⟨?_, fun i hi => ?_, fun i hi j hj => ?_, ?_, ?_⟩, ⟨r0, r1, fun j hj => ?_, r3, r4, r5, r6, r7, r8, r9, r10⟩, hJ⟩
  · rw [w1_n _ _ _ (by omega)]
    exact c1
  · rw [w1_n _ _ _ (by omega), w1_n _ _ _ (by omega)]
    exact c2 i hi
  · show w1 cs (6 + c) m (nI n) (6 + i) j = upd (sg 2) (11 * c + m) (nI n) (11 * i + j)
    by_cases z : i = c ∧ j = m
    · obtain ⟨rfl, rfl⟩ := z
      rw [w1_s, ud_s]
    · rw [w1_o _ _ (by omega), ud_o _ _ (by omega)]
      exact c3 i hi j hj
  · rw [w1_n _ _ _ (by omega), w1_n _ _ _ (by omega)]
    exact c4
  · rw [w1_n _ _ _ (by omega), w1_n _ _ _ (by omega), w1_n _ _ _ (by omega), w1_n _ _ _ (by omega), w1_n _ _ _ (by omega)]
    exact c5
  · show inN (upd (sg 2) (11 * c + m) (nI n) j) 999
    by_cases z : j = 11 * c + m
    · rw [z, ud_s]
      exact ⟨n, hn, rfl⟩
    · rw [ud_o _ _ z]
      exact r2 j hj
/-- one student alone has changed -/
theorem CV_stu {M : mH} {T : Nat → mT} {cs cs2 sg sg2 : Nat → Nat → Int32} {io : Nat → Int32} {e : Nat → Nat} {D : Nat → Nat → Nat} {nh nx ns nf ny tp : Nat} {cm : Nat → Nat} {w : Nat → Nat → Nat} {cn : Nat → Nat} {wc : Nat → Nat → Nat} (hV : CV M T cs io sg e D nh nx ns nf ny tp cm w cn wc) {s : Nat} (hs : s < ns) (hcs : ∀ a, ¬ a = D 7 s → ¬ a = D 8 s → ¬ a = D 9 s → cs2 a = cs a) (hsg : ∀ k, ¬ (51 ≤ k ∧ k ≤ 61) → sg2 k = sg k) (ho : ∀ t, ¬ t = s → ∀ k, 51 ≤ k → k ≤ 59 → sg2 k t = sg k t) (ho2 : ∀ t, ¬ t = s → ∀ j, j < 4 → sg2 60 (4 * t + j) = sg 60 (4 * t + j) ∧ sg2 61 (4 * t + j) = sg 61 (4 * t + j)) (hS : StR M T cs2 sg2 D s (tN (sg2 59 s))) (hT : RVt sg2 nh nx s) : CV M T cs2 io sg2 e D nh nx ns nf ny tp cm w cn wc := by
  obtain ⟨hM, ⟨hF, ⟨hL0, hL1, hL2⟩, hSc, hAg, hSt⟩, ⟨c1, c2, c3, c4, c5⟩, hR, hJ⟩ := hV
  have g : ∀ k i, dvl sg nh nx ns k i → ¬ (7 ≤ k ∧ k ≤ 9 ∧ i = s) → cs2 (D k i) = cs (D k i) := fun k i hv hn => hcs _ (DJ_ne hJ hv (dvl_s (by decide) (by decide) hs) (by omega)) (DJ_ne hJ hv (dvl_s (by decide) (by decide) hs) (by omega)) (DJ_ne hJ hv (dvl_s (by decide) (by decide) hs) (by omega))
  have l7 := DJ_lo hJ (dvl_s (k := 7) (by decide) (by decide) hs : dvl sg nh nx ns 7 s)
  have l8 := DJ_lo hJ (dvl_s (k := 8) (by decide) (by decide) hs : dvl sg nh nx ns 8 s)
  have l9 := DJ_lo hJ (dvl_s (k := 9) (by decide) (by decide) hs : dvl sg nh nx ns 9 s)
  have g2 : ∀ a, a < 157 → cs2 a = cs a := fun a ha => hcs a (by omega) (by omega) (by omega)
  have hX : ∀ t, t < ns → ¬ t = s → RVt sg2 nh nx t ∧ StR M T cs2 sg2 D t (tN (sg2 59 t)) := fun t ht z => by
    have o := ho t z
    have o2 := ho2 t z
    obtain ⟨r0, r1, r2, r3, r4, r5, r6, r7, r8, r9, r10⟩ := hR
    obtain ⟨a1, a2, a3, a4, a5, a6, a7, a8, a9, a10⟩ := r8 t ht
    have q59 := inN_tN a7 (by decide)
    refine ⟨⟨?_, ?_, ?_, ?_, ?_, fun j hj => ?_, ?_, fun k hk => ?_, fun j k hjk hk => ?_, ?_⟩, ?_⟩
    · rw [o 51 (by decide) (by decide)]
      exact a1
    · rw [o 52 (by decide) (by decide)]
      exact a2
    · rw [o 53 (by decide) (by decide)]
      exact a3
    · rw [o 54 (by decide) (by decide)]
      exact a4
    · rw [o 55 (by decide) (by decide)]
      exact a5
    · rw [(o2 j hj).2]
      exact a6 j hj
    · rw [o 59 (by decide) (by decide)]
      exact a7
    · rw [o 59 (by decide) (by decide)] at hk
      rw [(o2 k (by omega)).1]
      exact a8 k hk
    · rw [o 59 (by decide) (by decide)] at hk
      rw [(o2 j (by omega)).1, (o2 k (by omega)).1]
      exact a9 j k hjk hk
    · rw [o 51 (by decide) (by decide), o 56 (by decide) (by decide), o 57 (by decide) (by decide), o 58 (by decide) (by decide), hsg 27 (by decide), hsg 28 (by decide)]
      exact a10
    · rw [o 59 (by decide) (by decide)]
      obtain ⟨b1, b2, b3, ⟨d0, d1, d2, d3, d4, d7, d8, d10⟩, b5, b6, b7, b8⟩ := StR_f (hSt t ht) (g _ _ (dvl_s (by decide) (by decide) ht) (by omega)) (g _ _ (dvl_s (by decide) (by decide) ht) (by omega)) (g _ _ (dvl_s (by decide) (by decide) ht) (by omega))
      refine ⟨b1, b2, b3, ⟨d0.trans (o 51 (by decide) (by decide)).symm, d1.trans (o 52 (by decide) (by decide)).symm, d2.trans (o 53 (by decide) (by decide)).symm, d3.trans (o 54 (by decide) (by decide)).symm, d4.trans (o 55 (by decide) (by decide)).symm, d7, d8.trans (o 56 (by decide) (by decide)).symm, d10.trans (o 58 (by decide) (by decide)).symm⟩, fun j hj => (b5 j hj).trans (o2 j hj).2.symm, fun j hj => (b6 j hj).trans (o2 j (by omega)).1.symm, fun h1 => ?_, fun h1 => ?_⟩
      · rw [o 56 (by decide) (by decide)] at h1
        obtain ⟨v, v1, v2, v3⟩ := b7 h1
        refine ⟨v, v1, v2, ?_⟩
        rw [(o2 v (by omega)).1, o 57 (by decide) (by decide)]
        exact v3
      · rw [o 56 (by decide) (by decide)] at h1
        exact b8 h1
  refine ⟨hM, ⟨hF, ⟨LsR_f hL0 (g2 25 (by decide)), LsR_f hL1 (g2 26 (by decide)), LsR_f hL2 (g2 27 (by decide))⟩, fun h hh => ?_, fun x hx => ?_, fun t ht => ?_⟩, ⟨?_, fun l hl => ?_, fun i hi m hm => ?_, ?_, ?_⟩, ?_, DJ_g hJ (hsg 16 (by decide))⟩
  · rw [hsg 16 (by decide)]
    exact ScR_g (hSc h hh) (g _ _ (dvl_0 hh) (by omega)) (g _ _ (dvl_1 hh) (by omega)) (fun c hc => g _ _ (dvl_3 hh hc) (by omega)) (fun k h1 h2 => hsg k (by omega))
  · exact AgR_g (hAg x hx) (g _ _ (dvl_x (by decide) (by decide) hx) (by omega)) (g _ _ (dvl_x (by decide) (by decide) hx) (by omega)) (fun k h1 h2 => hsg k (by omega))
  · by_cases z : t = s
    · subst z
      exact hS
    · exact (hX t ht z).2
  · rw [g2 0 (by decide)]
    exact c1
  · rw [g2 1 (by decide), g2 2 (by decide), hsg 0 (by decide), hsg 1 (by decide)]
    exact c2 l hl
  · rw [g2 (6 + i) (by omega), hsg 2 (by decide)]
    exact c3 i hi m hm
  · rw [g2 10 (by decide), g2 11 (by decide), hsg 22 (by decide)]
    exact c4
  · rw [g2 20 (by decide), g2 21 (by decide), g2 22 (by decide), g2 23 (by decide), g2 24 (by decide), hsg 78 (by decide), hsg 79 (by decide), hsg 80 (by decide), hsg 81 (by decide)]
    exact c5
  · obtain ⟨r0, r1, r2, r3, r4, r5, r6, r7, r8, r9, r10⟩ := hR
    refine ⟨r0, ?_, ?_, fun h hh => RVs_g (r3 h hh) (fun k h1 h2 => hsg k (by omega)), ?_, ?_, fun x hx => RVx_g (r6 x hx) (fun k h1 h2 => hsg k (by omega)), ?_, fun t ht => ?_, fun t h1 h2 => ?_, ?_⟩
    · rw [hsg 0 (by decide), hsg 1 (by decide)]
      exact r1
    · rw [hsg 2 (by decide)]
      exact r2
    · rw [hsg 16 (by decide)]
      exact r4
    · rw [hsg 16 (by decide), hsg 21 (by decide)]
      exact r5
    · unfold CDok at r7 ⊢
      rw [hsg 35 (by decide), hsg 36 (by decide)]
      exact r7
    · by_cases z : t = s
      · subst z
        exact hT
      · exact (hX t ht z).1
    · rw [ho t (by omega) 59 (by decide) (by decide)]
      exact r9 t h1 h2
    · rw [hsg 80 (by decide)]
      exact r10
