/-! ONE MORE COURSE -/
theorem CV_course {M : mH} {T : Nat → mT} {cs sg : Nat → Nat → Int32} {io : Nat → Int32} {e : Nat → Nat} {D : Nat → Nat → Nat} {nh nx ns nf ny tp : Nat} {cm : Nat → Nat} {w : Nat → Nat → Nat} {cn : Nat → Nat} {wc : Nat → Nat → Nat} (hV : CV M T cs io sg e D nh nx ns nf ny tp cm w cn wc) {M1 M2 : mH} {T1 T2 : Nat → mT} {cs1 cs2 : Nat → Nat → Int32} {ed2 h c0 : Nat} (hh : h < nh) (h16 : sg 16 h = nI c0) (hc6 : c0 < 6) (hM1 : M1.1 = M.1 + 1) (hM2 : M2.1 ≤ 900000) (h22 : M1.2.2 = M.2.2) (hT1 : ∀ a, a < M.1 → T1 a = T a) (hc1 : ∀ a, a < M.1 → cs1 a = cs a) (hA : AdP M1 M2 T1 T2 cs1 cs2 (D 1 h) (D 2 h) ed2 c0 (fun c => D 3 (6 * h + c)) M.1) {a b c d : Nat} (hy : T1 M.1 = (12, 0, rl [])) (hv : cs1 M.1 0 = nI a ∧ cs1 M.1 1 = nI b ∧ cs1 M.1 2 = nI c ∧ cs1 M.1 3 = nI d ∧ cs1 M.1 4 = nI 0) : ∃ D2, CV M2 T2 cs2 io (va_up (va_up (va_up (va_up (va_up sg 17 (upd (sg 17) (6 * h + c0) (nI a))) 18 (upd (sg 18) (6 * h + c0) (nI b))) 19 (upd (sg 19) (6 * h + c0) (nI c))) 20 (upd (sg 20) (6 * h + c0) (nI d))) 16 (upd (sg 16) h (nI (c0 + 1)))) e D2 nh nx ns nf ny tp cm w cn wc := by
  obtain ⟨⟨hM, hMs, hW⟩, hI, hT, hR, hJ⟩ := id hV
  obtain ⟨hed, -, h2f, hLn, hT2, hc2⟩ := id hA
  obtain ⟨hF, ⟨hL0, hL1, hL2⟩, hSc, hAg, hSt⟩ := id hI
  obtain ⟨⟨q3, q4, q5, q7, q6, q23⟩, r1, r2, r3, r4, r5, r6, r7, r8, r9, r10⟩ := hR
  have t16 : tN (sg 16 h) = c0 := by rw [h16, tN_nI (by omega)]
  have h6 : ∀ g, g < nh → tN (sg 16 g) ≤ 6 := fun g hg => (inN_tN (r3 g hg).2.2.2.2.2 (by decide)).2
  have h59 : ∀ s, s < ns → tN (sg 59 s) ≤ 4 := fun s hs => (inN_tN (r8 s hs).2.2.2.2.2.2.1 (by decide)).2
  have hmm : M.1 ≤ M2.1 := by omega
  obtain ⟨sb1, sb2, sb3, sb4, sb5⟩ := hSc h hh
  rw [t16] at sb4 sb5
  have l1 : 157 ≤ D 1 h ∧ D 1 h < M.1 := ⟨DJ_lo hJ (dvl_1 hh), sb4.2.1.1⟩
  have l2 : 157 ≤ D 2 h ∧ D 2 h < M.1 ∧ 0 < c0 ∨ D 2 h = 1000000 := by
    rcases sb4.2.2.2.2 with y | ⟨y, c, r, y1, y2, y3⟩
    · exact Or.inr y.2
    · exact Or.inl ⟨DJ_lo hJ (⟨by decide, Or.inr (Or.inl ⟨rfl, hh, by rw [t16]; exact y⟩)⟩ : dvl sg nh nx ns 2 h), y2.1, y⟩
  have o1 : ∀ x, x < M.1 → ¬ x = D 1 h → ¬ x = D 2 h → T2 x = T x := fun x h1 h2 h3 => (hT2 x (by omega) h2 h3).trans (hT1 x h1)
  have o2 : ∀ x, x < M.1 → ¬ x = D 1 h → cs2 x = cs x := fun x h1 h2 => (hc2 x (by omega) h2).trans (hc1 x h1)
  have N0 : T2 M.1 = T1 M.1 ∧ cs2 M.1 = cs1 M.1 := ⟨hT2 _ (by omega) (by omega) (by omega), hc2 _ (by omega) (by omega)⟩
  have od : ∀ k j, dvl sg nh nx ns k j → ¬ (k = 1 ∧ j = h) → ¬ (k = 2 ∧ j = h) → T2 (D k j) = T (D k j) ∧ cs2 (D k j) = cs (D k j) := fun k j hv9 m1 m2 => by
    have g1 := DJ_lo hJ hv9
    have g2 : D k j < M.1 := by
      obtain ⟨-, rk, z⟩ := hJ
      exact (z k j hv9).2.1
    have g3 := DJ_ne hJ hv9 (dvl_1 hh) m1
    have g4 : ¬ D k j = D 2 h := by
      rcases l2 with y | y
      · exact DJ_ne hJ hv9 (⟨by decide, Or.inr (Or.inl ⟨rfl, hh, by rw [t16]; exact y.2.2⟩)⟩ : dvl sg nh nx ns 2 h) m2
      · omega
    exact ⟨o1 _ g2 g3 g4, o2 _ g2 g3⟩
  obtain ⟨D2, eD⟩ : ∃ z, z = fun k j => if k = 3 ∧ j = 6 * h + c0 then M.1 else if k = 2 ∧ j = h then ed2 else D k j := ⟨_, rfl⟩
  have dn : ∀ k j, ¬ (k = 3 ∧ j = 6 * h + c0) → ¬ (k = 2 ∧ j = h) → D2 k j = D k j := fun k j h1 h2 => by
    rw [eD]
    show (if _ then _ else if _ then _ else _) = _
    rw [if_neg h1, if_neg h2]
  have d3 : D2 3 (6 * h + c0) = M.1 := by rw [eD]; exact if_pos ⟨rfl, rfl⟩
  have d2 : D2 2 h = ed2 := by rw [eD]; exact (if_neg (by omega)).trans (if_pos ⟨rfl, rfl⟩)
  obtain ⟨sg2, eS⟩ : ∃ z, z = va_up (va_up (va_up (va_up (va_up sg 17 (upd (sg 17) (6 * h + c0) (nI a))) 18 (upd (sg 18) (6 * h + c0) (nI b))) 19 (upd (sg 19) (6 * h + c0) (nI c))) 20 (upd (sg 20) (6 * h + c0) (nI d))) 16 (upd (sg 16) h (nI (c0 + 1))) := ⟨_, rfl⟩
  rw [← eS]
  have sk : ∀ k, ¬ (16 ≤ k ∧ k ≤ 20) → sg2 k = sg k := fun k hk => by rw [eS, up_o _ _ (by omega), up_o _ _ (by omega), up_o _ _ (by omega), up_o _ _ (by omega), up_o _ _ (by omega)]
  have so : ∀ k, 17 ≤ k → k ≤ 21 → ∀ j, ¬ j = 6 * h + c0 → sg2 k j = sg k j := fun k g1 g2 j hj => by
    rcases (by omega : k = 17 ∨ k = 18 ∨ k = 19 ∨ k = 20 ∨ k = 21) with rfl | rfl | rfl | rfl | rfl
    · rw [eS]; exact ud_o _ _ hj
    · rw [eS]; exact ud_o _ _ hj
    · rw [eS]; exact ud_o _ _ hj
    · rw [eS]; exact ud_o _ _ hj
    · rw [sk 21 (by decide)]
  have sv : sg2 17 (6 * h + c0) = nI a ∧ sg2 18 (6 * h + c0) = nI b ∧ sg2 19 (6 * h + c0) = nI c ∧ sg2 20 (6 * h + c0) = nI d := by
    rw [eS]
    exact ⟨ud_s _ _ _, ud_s _ _ _, ud_s _ _ _, ud_s _ _ _⟩
  have s16 : sg2 16 h = nI (c0 + 1) := by rw [eS]; exact ud_s _ _ _
  have s16o : ∀ g, ¬ g = h → sg2 16 g = sg 16 g := fun g hg => by rw [eS]; exact ud_o _ _ hg
  have u16 : tN (sg2 16 h) = c0 + 1 := by rw [s16, tN_nI (by omega)]
  have s21 : sg 21 (6 * h + c0) = 0 := by
    rcases r5 h c0 (by have := q3.2; omega) hc6 with y | y
    · exact y
    · have := y.2.2
      omega
  refine ⟨D2, ⟨by omega, hM2, by rw [h2f, h22]; exact hW⟩, ⟨fun x hx => ?_, ⟨?_, ?_, ?_⟩, fun g hg => ?_, fun x hx => ?_, fun s hs => ?_⟩, ?_, ⟨⟨q3, q4, q5, q7, q6, q23⟩, ?_, ?_, fun g hg => ?_, fun g g1 g2 => ?_, fun g c g1 g2 => ?_, fun x hx => RVx_g (r6 x hx) (fun k h1 h2 => sk k (by omega)), ?_, fun s hs => RVt_g (r8 s hs) (fun k h1 h2 h3 => sk k (by omega)), ?_, ?_⟩, ?_⟩
  · rw [o1 x (by omega) (by omega) (by omega)]
    exact hF x hx
  · refine LsR_ad (LsR_x hL0 hmm (o1 25 (by omega) (by omega) (by omega)) (fun h0 => ?_) (o2 25 (by omega) (by omega))) (fun i hi => dn 0 i (by omega) (by omega))
    rw [← hJ.1 0 (by decide)]
    exact (od 10 0 (dvl_10 (by decide) h0) (by omega) (by omega)).1
  · refine LsR_ad (LsR_x hL1 hmm (o1 26 (by omega) (by omega) (by omega)) (fun h0 => ?_) (o2 26 (by omega) (by omega))) (fun i hi => dn 4 i (by omega) (by omega))
    rw [← hJ.1 1 (by decide)]
    exact (od 10 1 (dvl_10 (by decide) h0) (by omega) (by omega)).1
  · refine LsR_ad (LsR_x hL2 hmm (o1 27 (by omega) (by omega) (by omega)) (fun h0 => ?_) (o2 27 (by omega) (by omega))) (fun i hi => dn 7 i (by omega) (by omega))
    rw [← hJ.1 2 (by decide)]
    exact (od 10 2 (dvl_10 (by decide) h0) (by omega) (by omega)).1
  · by_cases z : g = h
    · subst z
      rw [u16]
      have f0 := od 0 g (dvl_0 hh) (by omega) (by omega)
      unfold ScR
      rw [dn 0 g (by omega) (by omega), dn 1 g (by omega) (by omega), d2, f0.2, sk 9 (by decide), sk 10 (by decide), sk 11 (by decide), sk 13 (by decide), sk 14 (by decide), sk 15 (by decide)]
      refine ⟨f0.1.trans sb1, inC_x sb2 hmm, sb3, LsR_ad hLn (fun i hi => ?_), fun c hc => ?_⟩
      · by_cases y : i = c0
        · rw [y, d3, if_pos rfl]
        · rw [dn 3 _ (by omega) (by omega), if_neg y]
      · by_cases y : c = c0
        · rw [y, d3]
          unfold CoR
          rw [N0.1, N0.2, sv.1, sv.2.1, sv.2.2.1, sv.2.2.2, sk 21 (by decide), s21]
          exact ⟨hy, ⟨by omega, by omega⟩, hv⟩
        · have hc2 : c < c0 := by omega
          obtain ⟨a1, a2, a3, a4, a5, a6, a7⟩ := sb5 c hc2
          have f3 := od 3 (6 * g + c) (dvl_3 hh (by rw [t16]; exact hc2)) (by omega) (by omega)
          rw [dn 3 _ (by omega) (by omega)]
          unfold CoR
          rw [f3.2, so 17 (by decide) (by decide) _ (by omega), so 18 (by decide) (by decide) _ (by omega), so 19 (by decide) (by decide) _ (by omega), so 20 (by decide) (by decide) _ (by omega), so 21 (by decide) (by decide) _ (by omega)]
          exact ⟨f3.1.trans a1, inC_x a2 hmm, a3, a4, a5, a6, a7⟩
    · have q := h6 g hg
      rw [s16o g z]
      exact ScR_x (hSc g hg) hmm (od 0 g (dvl_0 hg) (by omega) (by omega)) (od 1 g (dvl_1 hg) (by omega) (by omega)) (fun h0 => (od 2 g ⟨by decide, Or.inr (Or.inl ⟨rfl, hg, h0⟩)⟩ (by omega) (by omega)).1) (fun c hc => od 3 _ (dvl_3 hg hc) (by omega) (by omega)) (dn 0 g (by omega) (by omega)) (dn 1 g (by omega) (by omega)) (dn 2 g (by omega) (by omega)) (fun c hc => dn 3 _ (by omega) (by omega)) (fun k h1 h2 h3 => by rw [sk k (by omega)]) (fun c hc k h1 h2 => so k h1 h2 _ (by omega))
  · exact AgR_x (hAg x hx) hmm (od 4 x (dvl_x (by decide) (by decide) hx) (by omega) (by omega)) (od 5 x (dvl_x (by decide) (by decide) hx) (by omega) (by omega)) (od 6 x (dvl_x (by decide) (by decide) hx) (by omega) (by omega)).1 (dn 4 x (by omega) (by omega)) (dn 5 x (by omega) (by omega)) (dn 6 x (by omega) (by omega)) (fun k h1 h2 => by rw [sk k (by omega)])
  · rw [sk 59 (by decide)]
    exact StR_x (hSt s hs) (h59 s hs) hmm (od 7 s (dvl_s (by decide) (by decide) hs) (by omega) (by omega)) (od 8 s (dvl_s (by decide) (by decide) hs) (by omega) (by omega)) (od 9 s (dvl_s (by decide) (by decide) hs) (by omega) (by omega)) (dn 7 s (by omega) (by omega)) (dn 8 s (by omega) (by omega)) (dn 9 s (by omega) (by omega)) (fun k h1 h2 => by rw [sk k (by omega)]) (fun j hj => by rw [sk 60 (by decide), sk 61 (by decide)]; exact ⟨rfl, rfl⟩)
  · exact CT_x hT (fun x hx => o2 x (by omega) (by omega)) (fun k hk => sk k (by omega)) ⟨rfl, rfl⟩
  · rw [sk 0 (by decide), sk 1 (by decide)]
    exact r1
  · rw [sk 2 (by decide)]
    exact r2
  · have := r3 g hg
    unfold RVs at this ⊢
    rw [sk 9 (by decide), sk 10 (by decide), sk 11 (by decide), sk 13 (by decide), sk 14 (by decide), sk 15 (by decide)]
    by_cases z : g = h
    · subst z
      rw [s16]
      exact ⟨this.1, this.2.1, this.2.2.1, this.2.2.2.1, this.2.2.2.2.1, ⟨c0 + 1, by omega, rfl⟩⟩
    · rw [s16o g z]
      exact this
  · rw [s16o g (by omega)]
    exact r4 g g1 g2
  · rw [sk 21 (by decide)]
    refine (r5 g c g1 g2).imp id (fun y => ⟨y.1, y.2.1, ?_⟩)
    by_cases z : g = h
    · subst z
      have := y.2.2
      omega
    · rw [s16o g z]
      exact y.2.2
  · unfold CDok at r7 ⊢
    rw [sk 35 (by decide), sk 36 (by decide)]
    exact r7
  · rw [sk 59 (by decide)]
    exact r9
  · rw [sk 80 (by decide)]
    exact r10
  · obtain ⟨j1, rk, j2⟩ := hJ
    refine ⟨fun j hj => (dn 10 j (by omega) (by omega)).trans (j1 j hj), fun x => if x = M.1 then 16 * (6 * h + c0) + 3 else if x = M.1 + 1 then 16 * h + 2 else rk x, fun k j hv9 => ?_⟩
    by_cases z0 : k = 3 ∧ j = 6 * h + c0
    · rw [z0.1, z0.2, d3]
      exact ⟨hM, by omega, if_pos rfl⟩
    · by_cases z1 : k = 2 ∧ j = h
      · rw [z1.1, z1.2, d2]
        rcases hed with y | y
        · have := j2 2 h ⟨by decide, Or.inr (Or.inl ⟨rfl, hh, by rw [t16]; exact y.2.2⟩)⟩
          rw [← y.2.1] at this
          exact ⟨this.1, by omega, (if_neg (by omega)).trans ((if_neg (by omega)).trans this.2.2)⟩
        · rw [y.2]
          exact ⟨by omega, by omega, (if_neg (by omega)).trans (if_pos (by omega))⟩
      · have hv2 : dvl sg nh nx ns k j := by
          obtain ⟨g1, g2⟩ := hv9
          rcases g2 with g | g | g | g | g | g
          · exact ⟨g1, Or.inl g⟩
          · have : ¬ j = h := by omega
            rw [s16o j this] at g
            exact ⟨g1, Or.inr (Or.inl g)⟩
          · obtain ⟨g3, x, c, g4, g5, g6⟩ := g
            by_cases y : x = h
            · subst y
              rw [u16] at g6
              exact ⟨g1, Or.inr (Or.inr (Or.inl ⟨g3, x, c, g4, g5, by omega⟩))⟩
            · rw [s16o x y] at g6
              exact ⟨g1, Or.inr (Or.inr (Or.inl ⟨g3, x, c, g4, g5, g6⟩))⟩
          · exact ⟨g1, Or.inr (Or.inr (Or.inr (Or.inl g)))⟩
          · exact ⟨g1, Or.inr (Or.inr (Or.inr (Or.inr (Or.inl g))))⟩
          · exact ⟨g1, Or.inr (Or.inr (Or.inr (Or.inr (Or.inr g))))⟩
        have := j2 k j hv2
        rw [dn k j z0 z1]
        exact ⟨this.1, by omega, (if_neg (by omega)).trans ((if_neg (by omega)).trans this.2.2)⟩
