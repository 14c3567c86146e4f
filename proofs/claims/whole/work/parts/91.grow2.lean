/-! ONE MORE SCHOOL, STUDENT, COURSE -/
theorem cT_e {e e2 : Nat → Nat} : ∀ a, a < 100 → ¬ (a = 12 ∨ a = 25 ∨ a = 26 ∨ a = 27) → cT e2 a = cT e a
  | 0, _, _ => rfl
  | 1, _, _ => rfl
  | 2, _, _ => rfl
  | 3, _, _ => rfl
  | 4, _, _ => rfl
  | 5, _, _ => rfl
  | 6, _, _ => rfl
  | 7, _, _ => rfl
  | 8, _, _ => rfl
  | 9, _, _ => rfl
  | 10, _, _ => rfl
  | 11, _, _ => rfl
  | 12, _, h => absurd (by decide) h
  | 13, _, _ => rfl
  | 14, _, _ => rfl
  | 15, _, _ => rfl
  | 16, _, _ => rfl
  | 17, _, _ => rfl
  | 18, _, _ => rfl
  | 19, _, _ => rfl
  | 20, _, _ => rfl
  | 21, _, _ => rfl
  | 22, _, _ => rfl
  | 23, _, _ => rfl
  | 24, _, _ => rfl
  | 25, _, h => absurd (by decide) h
  | 26, _, h => absurd (by decide) h
  | 27, _, h => absurd (by decide) h
  | 28, _, _ => rfl
  | 29, _, _ => rfl
  | 30, _, _ => rfl
  | 31, _, _ => rfl
  | 32, _, _ => rfl
  | 33, _, _ => rfl
  | 34, _, _ => rfl
  | 35, _, _ => rfl
  | 36, _, _ => rfl
  | 37, _, _ => rfl
  | 38, _, _ => rfl
  | 39, _, _ => rfl
  | 40, _, _ => rfl
  | 41, _, _ => rfl
  | 42, _, _ => rfl
  | 43, _, _ => rfl
  | 44, _, _ => rfl
  | 45, _, _ => rfl
  | 46, _, _ => rfl
  | 47, _, _ => rfl
  | 48, _, _ => rfl
  | 49, _, _ => rfl
  | 50, _, _ => rfl
  | 51, _, _ => rfl
  | 52, _, _ => rfl
  | 53, _, _ => rfl
  | 54, _, _ => rfl
  | 55, _, _ => rfl
  | 56, _, _ => rfl
  | 57, _, _ => rfl
  | 58, _, _ => rfl
  | 59, _, _ => rfl
  | 60, _, _ => rfl
  | 61, _, _ => rfl
  | 62, _, _ => rfl
  | 63, _, _ => rfl
  | 64, _, _ => rfl
  | 65, _, _ => rfl
  | 66, _, _ => rfl
  | 67, _, _ => rfl
  | 68, _, _ => rfl
  | 69, _, _ => rfl
  | 70, _, _ => rfl
  | 71, _, _ => rfl
  | 72, _, _ => rfl
  | 73, _, _ => rfl
  | 74, _, _ => rfl
  | 75, _, _ => rfl
  | 76, _, _ => rfl
  | 77, _, _ => rfl
  | 78, _, _ => rfl
  | 79, _, _ => rfl
  | 80, _, _ => rfl
  | 81, _, _ => rfl
  | 82, _, _ => rfl
  | 83, _, _ => rfl
  | 84, _, _ => rfl
  | 85, _, _ => rfl
  | 86, _, _ => rfl
  | 87, _, _ => rfl
  | 88, _, _ => rfl
  | 89, _, _ => rfl
  | 90, _, _ => rfl
  | 91, _, _ => rfl
  | 92, _, _ => rfl
  | 93, _, _ => rfl
  | 94, _, _ => rfl
  | 95, _, _ => rfl
  | 96, _, _ => rfl
  | 97, _, _ => rfl
  | 98, _, _ => rfl
  | 99, _, _ => rfl
  | n + 100, h, _ => absurd h (by omega)
theorem RVx_h {sg : Nat → Nat → Int32} {nh nh2 cm cn : Nat} {w wc : Nat → Nat} {x : Nat} (h : RVx sg nh cm cn w wc x) (hn : nh ≤ nh2) : RVx sg nh2 cm cn w wc x := by
  obtain ⟨⟨a, b, h1, h2, h3⟩, h4⟩ := h
  exact ⟨⟨a, b, by omega, by omega, h3⟩, h4⟩
theorem RVt_h {sg : Nat → Nat → Int32} {nh nh2 nx nx2 s : Nat} (h : RVt sg nh nx s) (hn : nh ≤ nh2) (hx : nx ≤ nx2) : RVt sg nh2 nx2 s := by
  obtain ⟨⟨a, h1, h2⟩, a2, a3, a4, a5, a6, a7, a8, a9, a10⟩ := h
  refine ⟨⟨a, by omega, h2⟩, a2, a3, a4, a5, a6, a7, fun k hk => ?_, a9, a10.imp id (fun z => ?_)⟩
  · obtain ⟨v, v1, v2⟩ := a8 k hk
    exact ⟨v, by omega, v2⟩
  · obtain ⟨z1, x, p, z2, z3, z4⟩ := z
    exact ⟨z1, x, p, by omega, by omega, z4⟩
theorem sc_o (sg : Nat → Nat → Int32) (nh : Nat) (a b c d e f g : Int32) (k : Nat) {j : Nat} (hj : ¬ j = nh) : sg_school sg nh a b c d e f g k j = sg k j := by
  unfold sg_school va_up
  repeat' split
  all_goals first
    | rfl
    | (rename_i h; subst h; exact if_neg hj)
theorem sc_k (sg : Nat → Nat → Int32) (nh : Nat) (a b c d e f g : Int32) {k : Nat} (hk : ¬ (9 ≤ k ∧ k ≤ 15)) : sg_school sg nh a b c d e f g k = sg k := by
  unfold sg_school
  rw [up_o _ _ (by omega), up_o _ _ (by omega), up_o _ _ (by omega), up_o _ _ (by omega), up_o _ _ (by omega), up_o _ _ (by omega), up_o _ _ (by omega)]
theorem su_k (sg : Nat → Nat → Int32) (ns : Nat) (h a b c d : Int32) {k : Nat} (hk : ¬ (51 ≤ k ∧ k ≤ 61)) : sg_student sg ns h a b c d k = sg k := by
  unfold sg_student
  rw [up_o _ _ (by omega), up_o _ _ (by omega), up_o _ _ (by omega), up_o _ _ (by omega), up_o _ _ (by omega), up_o _ _ (by omega), up_o _ _ (by omega), up_o _ _ (by omega), up_o _ _ (by omega)]
theorem su_o (sg : Nat → Nat → Int32) (ns : Nat) (h a b c d : Int32) {k : Nat} (hk : ¬ k = 61) {j : Nat} (hj : ¬ j = ns) : sg_student sg ns h a b c d k j = sg k j := by
  unfold sg_student va_up
  repeat' split
  all_goals first
    | rfl
    | (rename_i h; subst h; exact if_neg hj)
    | (rename_i h; exact absurd h hk)
theorem fill_o {f : Nat → Int32} {b : Nat} {v : Int32} : ∀ {n j : Nat}, ¬ (b ≤ j ∧ j < b + n) → sp_fill f b v n j = f j
  | 0, j, _ => rfl
  | n + 1, j, h => by
    show upd (sp_fill f b v n) (b + n) v j = f j
    rw [ud_o _ _ (by omega)]
    exact fill_o (by omega)
theorem fill_i {f : Nat → Int32} {b : Nat} {v : Int32} : ∀ {n j : Nat}, b ≤ j → j < b + n → sp_fill f b v n j = v
  | 0, j, h1, h2 => absurd h2 (by omega)
  | n + 1, j, h1, h2 => by
    show upd (sp_fill f b v n) (b + n) v j = v
    by_cases z : j = b + n
    · rw [z, ud_s]
    · rw [ud_o _ _ z]
      exact fill_i h1 (by omega)
theorem CV_school {M : mH} {T : Nat → mT} {cs sg : Nat → Nat → Int32} {io : Nat → Int32} {e : Nat → Nat} {D : Nat → Nat → Nat} {nh nx ns nf ny tp : Nat} {cm : Nat → Nat} {w : Nat → Nat → Nat} {cn : Nat → Nat} {wc : Nat → Nat → Nat} (hV : CV M T cs io sg e D nh nx ns nf ny tp cm w cn wc) {M1 M2 : mH} {T1 T2 : Nat → mT} {cs1 cs2 : Nat → Nat → Int32} {ed2 : Nat} (hM1 : M1.1 = M.1 + 2) (hM2 : M2.1 ≤ 900000) (h22 : M1.2.2 = M.2.2) (hT1 : ∀ a, a < M.1 → T1 a = T a) (hc1 : ∀ a, a < M.1 → cs1 a = cs a) (hA : AdP M1 M2 T1 T2 cs1 cs2 25 (e 0) ed2 nh (D 0) M.1) {a b c d ee ff gg : Nat} (hn8 : nh < 8) (ha : a < 4) (hb : b < 4) (hc : c ≤ 9) (hef : ee < ff) (hff : ff < 360) (hg : gg ≤ 99999) (hy : T1 M.1 = (9, 0, rl [(6, M.1 + 1)])) (hl : T1 (M.1 + 1) = (6, 0, rl [(0, 1000000)])) (hv : cs1 M.1 0 = nI a ∧ cs1 M.1 1 = nI b ∧ cs1 M.1 2 = nI ee ∧ cs1 M.1 3 = nI ff ∧ cs1 M.1 4 = nI gg ∧ cs1 M.1 5 = nI c) (hz : cs1 (M.1 + 1) 1 = nI 0) : ∃ e2 D2, CV M2 T2 cs2 (va_up io 3 (nI (nh + 1))) (sg_school sg nh (nI a) (nI b) (nI c) (nI d) (nI ee) (nI ff) (nI gg)) e2 D2 (nh + 1) nx ns nf ny tp cm w cn wc ∧ e2 3 = e 3 := by
  obtain ⟨⟨hM, hMs, hW⟩, hI, hT, hR, hJ⟩ := id hV
  obtain ⟨hed, -, h2f, hLn, hT2, hc2⟩ := id hA
  obtain ⟨hF, ⟨hL0, hL1, hL2⟩, hSc, hAg, hSt⟩ := id hI
  have hmm : M.1 ≤ M2.1 := by omega
  have hei : 157 ≤ e 0 ∧ e 0 < M.1 ∨ e 0 = 1000000 := by
    rcases hL0.2.2.2.2 with y | ⟨y, c, r, y1, y2, y3⟩
    · exact Or.inr y.2
    · refine Or.inl ⟨?_, y2.1⟩
      rw [← hJ.1 0 (by decide)]
      exact DJ_lo hJ (dvl_10 (by decide) y)
  have o1 : ∀ a, a < M.1 → ¬ a = 25 → ¬ a = e 0 → T2 a = T a := fun a h1 h2 h3 => (hT2 a (by omega) h2 h3).trans (hT1 a h1)
  have o2 : ∀ a, a < M.1 → ¬ a = 25 → cs2 a = cs a := fun a h1 h2 => (hc2 a (by omega) h2).trans (hc1 a h1)
  have n1 : ∀ j, j < 2 → T2 (M.1 + j) = T1 (M.1 + j) ∧ cs2 (M.1 + j) = cs1 (M.1 + j) := fun j hj => ⟨hT2 _ (by omega) (by omega) (by omega), hc2 _ (by omega) (by omega)⟩
  have od : ∀ k j, dvl sg nh nx ns k j → ¬ (k = 10 ∧ j = 0) → T2 (D k j) = T (D k j) ∧ cs2 (D k j) = cs (D k j) := fun k j hv hn => old_x (i := 0) hI hJ hMs (by decide) o1 o2 hv hn
  obtain ⟨D2, eD⟩ : ∃ z, z = fun k j => if k = 0 ∧ j = nh then M.1 else if k = 1 ∧ j = nh then M.1 + 1 else if k = 2 ∧ j = nh then 1000000 else if k = 10 ∧ j = 0 then ed2 else D k j := ⟨_, rfl⟩
  have dn : ∀ k j, ¬ (k ≤ 2 ∧ j = nh) → ¬ (k = 10 ∧ j = 0) → D2 k j = D k j := fun k j h1 h2 => by
    rw [eD]
    show (if _ then _ else if _ then _ else if _ then _ else if _ then _ else _) = _
    rw [if_neg (by omega), if_neg (by omega), if_neg (by omega), if_neg (by omega)]
  have d0 : D2 0 nh = M.1 := by rw [eD]; exact if_pos ⟨rfl, rfl⟩
  have d1 : D2 1 nh = M.1 + 1 := by rw [eD]; exact (if_neg (by omega)).trans (if_pos ⟨rfl, rfl⟩)
  have d2 : D2 2 nh = 1000000 := by rw [eD]; exact (if_neg (by omega)).trans ((if_neg (by omega)).trans (if_pos ⟨rfl, rfl⟩))
  have d10 : D2 10 0 = ed2 := by rw [eD]; exact (if_neg (by omega)).trans ((if_neg (by omega)).trans ((if_neg (by omega)).trans (if_pos ⟨rfl, rfl⟩)))
  obtain ⟨sg2, eS⟩ : ∃ z, z = sg_school sg nh (nI a) (nI b) (nI c) (nI d) (nI ee) (nI ff) (nI gg) := ⟨_, rfl⟩
  rw [← eS]
  have so : ∀ k j, ¬ j = nh → sg2 k j = sg k j := fun k j hj => by rw [eS]; exact sc_o sg nh _ _ _ _ _ _ _ k hj
  have sk : ∀ k, ¬ (9 ≤ k ∧ k ≤ 15) → sg2 k = sg k := fun k hk => by rw [eS]; exact sc_k sg nh _ _ _ _ _ _ _ hk
  have s9 : sg2 9 nh = nI a ∧ sg2 10 nh = nI b ∧ sg2 11 nh = nI c ∧ sg2 13 nh = nI ee ∧ sg2 14 nh = nI ff ∧ sg2 15 nh = nI gg := by
    rw [eS]
    exact ⟨ud_s _ _ _, ud_s _ _ _, ud_s _ _ _, ud_s _ _ _, ud_s _ _ _, ud_s _ _ _⟩
  obtain ⟨⟨q3, q4, q5, q7, q6, q23⟩, r1, r2, r3, r4, r5, r6, r7, r8, r9, r10⟩ := hR
  have z16 : sg2 16 nh = nI 0 := by rw [sk 16 (by decide)]; exact r4 nh hn8 (Nat.le_refl _)
  have t16 : tN (sg2 16 nh) = 0 := by rw [z16]; decide
  have h6 : ∀ h, h < nh → tN (sg 16 h) ≤ 6 := fun h hh => (inN_tN (r3 h hh).2.2.2.2.2 (by decide)).2
  have h59 : ∀ s, s < ns → tN (sg 59 s) ≤ 4 := fun s hs => (inN_tN (r8 s hs).2.2.2.2.2.2.1 (by decide)).2
  have N0 := n1 0 (by decide)
  have N1 := n1 1 (by decide)
  rw [Nat.add_zero] at N0
  refine ⟨fun j => if j = 0 then ed2 else e j, D2, ⟨⟨by omega, hM2, by rw [h2f, h22]; exact hW⟩, ⟨fun x hx => ?_, ⟨?_, ?_, ?_⟩, fun h hh => ?_, fun x hx => ?_, fun s hs => ?_⟩, ?_, ⟨⟨⟨rfl, by omega⟩, q4, q5, q7, q6, q23⟩, ?_, ?_, fun h hh => ?_, fun h h1 h2 => ?_, fun h c h1 h2 => ?_, fun x hx => RVx_h (RVx_g (r6 x hx) (fun k h1 h2 => sk k (by omega))) (Nat.le_succ _), ?_, fun s hs => RVt_h (RVt_g (r8 s hs) (fun k h1 h2 h3 => sk k (by omega))) (Nat.le_succ _) (Nat.le_refl _), ?_, ?_⟩, ?_⟩, rfl⟩
  · by_cases z : x = 25
    · subst z
      exact hLn.1
    · rw [o1 x (by omega) z (by omega), hF x hx]
      by_cases y : x = 12 ∨ x = 26 ∨ x = 27
      · rcases y with rfl | rfl | rfl <;> rfl
      · exact (cT_e x hx (by omega)).symm
  · refine LsR_ad hLn (fun i hi => ?_)
    by_cases z : i = nh
    · rw [z, d0, if_pos rfl]
    · rw [dn 0 i (by omega) (by omega), if_neg z]
  · show LsR M2 T2 cs2 26 (e 1) nx _
    exact LsR_ad (LsR_x hL1 hmm (o1 26 (by omega) (by decide) (by omega)) (fun h0 => by rw [← hJ.1 1 (by decide)]; exact (od 10 1 (dvl_10 (by decide) h0) (by decide)).1) (o2 26 (by omega) (by decide))) (fun i hi => dn 4 i (by omega) (by omega))
  · show LsR M2 T2 cs2 27 (e 2) ns _
    exact LsR_ad (LsR_x hL2 hmm (o1 27 (by omega) (by decide) (by omega)) (fun h0 => by rw [← hJ.1 2 (by decide)]; exact (od 10 2 (dvl_10 (by decide) h0) (by decide)).1) (o2 27 (by omega) (by decide))) (fun i hi => dn 7 i (by omega) (by omega))
  · by_cases z : h = nh
    · subst z
      rw [t16]
      unfold ScR
      rw [d0, d1, d2, N0.1, N0.2, s9.1, s9.2.1, s9.2.2.1, s9.2.2.2.1, s9.2.2.2.2.1, s9.2.2.2.2.2]
      exact ⟨hy, ⟨by omega, by omega⟩, hv, ⟨N1.1.trans hl, ⟨by omega, by omega⟩, by rw [N1.2]; exact hz, by decide, Or.inl ⟨rfl, rfl⟩⟩, fun c hc => absurd hc (Nat.not_lt_zero c)⟩
    · have hh2 : h < nh := by omega
      rw [sk 16 (by decide)]
      exact ScR_x (hSc h hh2) hmm (od 0 h (dvl_0 hh2) (by omega)) (od 1 h (dvl_1 hh2) (by omega)) (fun h0 => (od 2 h ⟨by decide, Or.inr (Or.inl ⟨rfl, hh2, h0⟩)⟩ (by omega)).1) (fun c hc => od 3 _ (dvl_3 hh2 hc) (by omega)) (dn 0 h (by omega) (by omega)) (dn 1 h (by omega) (by omega)) (dn 2 h (by omega) (by omega)) (fun c hc => dn 3 _ (by omega) (by omega)) (fun k h1 h2 h3 => so k h z) (fun c hc k h1 h2 => by rw [sk k (by omega)])
  · exact AgR_x (hAg x hx) hmm (od 4 x (dvl_x (by decide) (by decide) hx) (by omega)) (od 5 x (dvl_x (by decide) (by decide) hx) (by omega)) (od 6 x (dvl_x (by decide) (by decide) hx) (by omega)).1 (dn 4 x (by omega) (by omega)) (dn 5 x (by omega) (by omega)) (dn 6 x (by omega) (by omega)) (fun k h1 h2 => by rw [sk k (by omega)])
  · rw [sk 59 (by decide)]
    exact StR_x (hSt s hs) (h59 s hs) hmm (od 7 s (dvl_s (by decide) (by decide) hs) (by omega)) (od 8 s (dvl_s (by decide) (by decide) hs) (by omega)) (od 9 s (dvl_s (by decide) (by decide) hs) (by omega)) (dn 7 s (by omega) (by omega)) (dn 8 s (by omega) (by omega)) (dn 9 s (by omega) (by omega)) (fun k h1 h2 => by rw [sk k (by omega)]) (fun j hj => by rw [sk 60 (by decide), sk 61 (by decide)]; exact ⟨rfl, rfl⟩)
  · exact CT_x hT (fun x hx => o2 x (by omega) (by omega)) (fun k hk => sk k (by omega)) ⟨rfl, rfl⟩
  · rw [sk 0 (by decide), sk 1 (by decide)]
    exact r1
  · rw [sk 2 (by decide)]
    exact r2
  · by_cases z : h = nh
    · subst z
      unfold RVs
      rw [s9.1, s9.2.1, s9.2.2.1, s9.2.2.2.1, s9.2.2.2.2.1, s9.2.2.2.2.2, z16]
      exact ⟨⟨a, by omega, rfl⟩, ⟨b, by omega, rfl⟩, ⟨c, hc, rfl⟩, ⟨ee, ff, hef, hff, rfl, rfl⟩, ⟨gg, hg, rfl⟩, ⟨0, by decide, rfl⟩⟩
    · have := r3 h (by omega)
      unfold RVs at this ⊢
      rw [so 9 h z, so 10 h z, so 11 h z, so 13 h z, so 14 h z, so 15 h z, so 16 h z]
      exact this
  · rw [sk 16 (by decide)]
    exact r4 h h1 (by omega)
  · rw [sk 16 (by decide), sk 21 (by decide)]
    exact (r5 h c h1 h2).imp id (fun y => ⟨y.1, by omega, y.2.2⟩)
  · unfold CDok at r7 ⊢
    rw [sk 35 (by decide), sk 36 (by decide)]
    exact r7
  · rw [sk 59 (by decide)]
    exact r9
  · rw [sk 80 (by decide)]
    exact r10
  · obtain ⟨j1, rk, j2⟩ := hJ
    refine ⟨fun j hj => ?_, fun x => if x = M.1 then 16 * nh else if x = M.1 + 1 then 16 * nh + 1 else if x = M.1 + 2 then 10 else rk x, fun k j hv9 => ?_⟩
    · by_cases z : j = 0
      · subst z
        exact d10
      · rw [dn 10 j (by omega) (by omega)]
        exact (j1 j hj).trans (if_neg z).symm
    · by_cases z0 : k = 0 ∧ j = nh
      · rw [z0.1, z0.2, d0]
        exact ⟨hM, by omega, if_pos rfl⟩
      · by_cases z1 : k = 1 ∧ j = nh
        · rw [z1.1, z1.2, d1]
          exact ⟨by omega, by omega, (if_neg (by omega)).trans (if_pos rfl)⟩
        · by_cases z10 : k = 10 ∧ j = 0
          · rw [z10.1, z10.2, d10]
            rcases hed with y | y
            · have := j2 10 0 (dvl_10 (by decide) y.2.2)
              rw [j1 0 (by decide), ← y.2.1] at this
              exact ⟨this.1, by omega, (if_neg (by omega)).trans ((if_neg (by omega)).trans ((if_neg (by omega)).trans this.2.2))⟩
            · rw [y.2]
              exact ⟨by omega, by omega, (if_neg (by omega)).trans ((if_neg (by omega)).trans (if_pos (by omega)))⟩
          · have hv2 : dvl sg nh nx ns k j ∧ ¬ (k ≤ 2 ∧ j = nh) := by
              obtain ⟨g1, g2⟩ := hv9
              rw [sk 16 (by decide)] at g2
              have t17 : tN (sg 16 nh) = 0 := by rw [← sk 16 (by decide)]; exact t16
              rcases g2 with g | g | g | g | g | g
              · exact ⟨⟨g1, Or.inl ⟨g.1, by omega⟩⟩, by omega⟩
              · have : ¬ j = nh := fun u => by have h0 := g.2.2; rw [u, t17] at h0; omega
                exact ⟨⟨g1, Or.inr (Or.inl ⟨g.1, by omega, g.2.2⟩)⟩, by omega⟩
              · obtain ⟨g3, h, c, g4, g5, g6⟩ := g
                have : ¬ h = nh := fun u => by rw [u, t17] at g6; omega
                exact ⟨⟨g1, Or.inr (Or.inr (Or.inl ⟨g3, h, c, g4, by omega, g6⟩))⟩, by omega⟩
              · exact ⟨⟨g1, Or.inr (Or.inr (Or.inr (Or.inl g)))⟩, by omega⟩
              · exact ⟨⟨g1, Or.inr (Or.inr (Or.inr (Or.inr (Or.inl g))))⟩, by omega⟩
              · exact ⟨⟨g1, Or.inr (Or.inr (Or.inr (Or.inr (Or.inr ⟨g.1, by omega⟩))))⟩, by omega⟩
            have := j2 k j hv2.1
            rw [dn k j hv2.2 z10]
            exact ⟨this.1, by omega, (if_neg (by omega)).trans ((if_neg (by omega)).trans ((if_neg (by omega)).trans this.2.2))⟩
theorem CV_student {M : mH} {T : Nat → mT} {cs sg : Nat → Nat → Int32} {io : Nat → Int32} {e : Nat → Nat} {D : Nat → Nat → Nat} {nh nx ns nf ny tp : Nat} {cm : Nat → Nat} {w : Nat → Nat → Nat} {cn : Nat → Nat} {wc : Nat → Nat → Nat} (hV : CV M T cs io sg e D nh nx ns nf ny tp cm w cn wc) {M1 M2 : mH} {T1 T2 : Nat → mT} {cs1 cs2 : Nat → Nat → Int32} {ed2 : Nat} (hM1 : M1.1 = M.1 + 3) (hM2 : M2.1 ≤ 900000) (h22 : M1.2.2 = M.2.2) (hT1 : ∀ a, a < M.1 → T1 a = T a) (hc1 : ∀ a, a < M.1 → cs1 a = cs a) (hA : AdP M1 M2 T1 T2 cs1 cs2 27 (e 2) ed2 ns (D 7) M.1) {h a b c d : Nat} (hn8 : ns < 16) (hh0 : h < nh) (ha : a < 8) (hb : b ≤ 100) (hc : c ≤ 99) (hd : d ≤ 4095) (hy : T1 M.1 = (11, 0, rl [(6, M.1 + 2), (5, M.1 + 1)])) (hy1 : T1 (M.1 + 1) = (20, 4, fun _ => none)) (hy2 : T1 (M.1 + 2) = (20, 4, fun _ => none)) (hv : cs1 M.1 0 = nI h ∧ cs1 M.1 1 = nI a ∧ cs1 M.1 2 = nI b ∧ cs1 M.1 3 = nI c ∧ cs1 M.1 4 = nI d ∧ cs1 M.1 7 = nI 0 ∧ cs1 M.1 8 = nI 0 ∧ cs1 M.1 9 = -1 ∧ cs1 M.1 10 = -1) (hz : ∀ t, t < 4 → cs1 (M.1 + 1) t = -1) : ∃ e2 D2, CV M2 T2 cs2 (va_up io 5 (nI (ns + 1))) (sg_student sg ns (nI h) (nI a) (nI b) (nI c) (nI d)) e2 D2 nh nx (ns + 1) nf ny tp cm w cn wc ∧ e2 3 = e 3 := by
  obtain ⟨⟨hM, hMs, hW⟩, hI, hT, hR, hJ⟩ := id hV
  obtain ⟨hed, -, h2f, hLn, hT2, hc2⟩ := id hA
  obtain ⟨hF, ⟨hL0, hL1, hL2⟩, hSc, hAg, hSt⟩ := id hI
  have hmm : M.1 ≤ M2.1 := by omega
  have hei : 157 ≤ e 2 ∧ e 2 < M.1 ∨ e 2 = 1000000 := by
    rcases hL2.2.2.2.2 with y | ⟨y, c, r, y1, y2, y3⟩
    · exact Or.inr y.2
    · refine Or.inl ⟨?_, y2.1⟩
      rw [← hJ.1 2 (by decide)]
      exact DJ_lo hJ (dvl_10 (by decide) y)
  have o1 : ∀ a, a < M.1 → ¬ a = 27 → ¬ a = e 2 → T2 a = T a := fun a h1 h2 h3 => (hT2 a (by omega) h2 h3).trans (hT1 a h1)
  have o2 : ∀ a, a < M.1 → ¬ a = 27 → cs2 a = cs a := fun a h1 h2 => (hc2 a (by omega) h2).trans (hc1 a h1)
  have n1 : ∀ j, j < 3 → T2 (M.1 + j) = T1 (M.1 + j) ∧ cs2 (M.1 + j) = cs1 (M.1 + j) := fun j hj => ⟨hT2 _ (by omega) (by omega) (by omega), hc2 _ (by omega) (by omega)⟩
  have od : ∀ k j, dvl sg nh nx ns k j → ¬ (k = 10 ∧ j = 2) → T2 (D k j) = T (D k j) ∧ cs2 (D k j) = cs (D k j) := fun k j hv hn => old_x (i := 2) hI hJ hMs (by decide) o1 o2 hv hn
  obtain ⟨D2, eD⟩ : ∃ z, z = fun k j => if k = 7 ∧ j = ns then M.1 else if k = 8 ∧ j = ns then M.1 + 1 else if k = 9 ∧ j = ns then M.1 + 2 else if k = 10 ∧ j = 2 then ed2 else D k j := ⟨_, rfl⟩
  have dn : ∀ k j, ¬ (7 ≤ k ∧ k ≤ 9 ∧ j = ns) → ¬ (k = 10 ∧ j = 2) → D2 k j = D k j := fun k j h1 h2 => by
    rw [eD]
    show (if _ then _ else if _ then _ else if _ then _ else if _ then _ else _) = _
    rw [if_neg (by omega), if_neg (by omega), if_neg (by omega), if_neg (by omega)]
  have d7 : D2 7 ns = M.1 := by rw [eD]; exact if_pos ⟨rfl, rfl⟩
  have d8 : D2 8 ns = M.1 + 1 := by rw [eD]; exact (if_neg (by omega)).trans (if_pos ⟨rfl, rfl⟩)
  have d9 : D2 9 ns = M.1 + 2 := by rw [eD]; exact (if_neg (by omega)).trans ((if_neg (by omega)).trans (if_pos ⟨rfl, rfl⟩))
  have d10 : D2 10 2 = ed2 := by rw [eD]; exact (if_neg (by omega)).trans ((if_neg (by omega)).trans ((if_neg (by omega)).trans (if_pos ⟨rfl, rfl⟩)))
  obtain ⟨sg2, eS⟩ : ∃ z, z = sg_student sg ns (nI h) (nI a) (nI b) (nI c) (nI d) := ⟨_, rfl⟩
  rw [← eS]
  have so : ∀ k j, ¬ k = 61 → ¬ j = ns → sg2 k j = sg k j := fun k j hk hj => by rw [eS]; exact su_o sg ns _ _ _ _ _ hk hj
  have sk : ∀ k, ¬ (51 ≤ k ∧ k ≤ 61) → sg2 k = sg k := fun k hk => by rw [eS]; exact su_k sg ns _ _ _ _ _ hk
  have s59 : sg2 59 = sg 59 := by rw [eS]; rfl
  have s60 : sg2 60 = sg 60 := by rw [eS]; rfl
  have s61 : sg2 61 = sp_fill (sg 61) (4 * ns) (-1) 4 := by rw [eS]; rfl
  have s9 : sg2 51 ns = nI h ∧ sg2 52 ns = nI a ∧ sg2 53 ns = nI b ∧ sg2 54 ns = nI c ∧ sg2 55 ns = nI d ∧ sg2 56 ns = nI 0 ∧ sg2 57 ns = -1 ∧ sg2 58 ns = -1 := by
    rw [eS]
    exact ⟨ud_s _ _ _, ud_s _ _ _, ud_s _ _ _, ud_s _ _ _, ud_s _ _ _, ud_s _ _ _, ud_s _ _ _, ud_s _ _ _⟩
  obtain ⟨⟨q3, q4, q5, q7, q6, q23⟩, r1, r2, r3, r4, r5, r6, r7, r8, r9, r10⟩ := hR
  have z59 : sg2 59 ns = nI 0 := by rw [s59]; exact r9 ns hn8 (Nat.le_refl _)
  have t59 : tN (sg2 59 ns) = 0 := by rw [z59]; decide
  have h59 : ∀ s, s < ns → tN (sg 59 s) ≤ 4 := fun s hs => (inN_tN (r8 s hs).2.2.2.2.2.2.1 (by decide)).2
  have N0 := n1 0 (by decide)
  have N1 := n1 1 (by decide)
  have N2 := n1 2 (by decide)
  rw [Nat.add_zero] at N0
  have ot : ∀ t, t < ns → ∀ j, j < 4 → sg2 60 (4 * t + j) = sg 60 (4 * t + j) ∧ sg2 61 (4 * t + j) = sg 61 (4 * t + j) := fun t ht j hj => ⟨by rw [s60], by rw [s61]; exact fill_o (by omega)⟩
  refine ⟨fun j => if j = 2 then ed2 else e j, D2, ⟨⟨by omega, hM2, by rw [h2f, h22]; exact hW⟩, ⟨fun x hx => ?_, ⟨?_, ?_, ?_⟩, fun g hg => ?_, fun x hx => ?_, fun s hs => ?_⟩, ?_, ⟨⟨q3, q4, ⟨rfl, by omega⟩, q7, q6, q23⟩, ?_, ?_, fun g hg => RVs_g (r3 g hg) (fun k h1 h2 => sk k (by omega)), ?_, ?_, fun x hx => RVx_g (r6 x hx) (fun k h1 h2 => sk k (by omega)), ?_, fun s hs => ?_, fun s h1 h2 => ?_, ?_⟩, ?_⟩, rfl⟩
  · by_cases z : x = 27
    · subst z
      exact hLn.1
    · rw [o1 x (by omega) z (by omega), hF x hx]
      by_cases y : x = 12 ∨ x = 25 ∨ x = 26
      · rcases y with rfl | rfl | rfl <;> rfl
      · exact (cT_e x hx (by omega)).symm
  · show LsR M2 T2 cs2 25 (e 0) nh _
    exact LsR_ad (LsR_x hL0 hmm (o1 25 (by omega) (by decide) (by omega)) (fun h0 => by rw [← hJ.1 0 (by decide)]; exact (od 10 0 (dvl_10 (by decide) h0) (by decide)).1) (o2 25 (by omega) (by decide))) (fun i hi => dn 0 i (by omega) (by omega))
  · show LsR M2 T2 cs2 26 (e 1) nx _
    exact LsR_ad (LsR_x hL1 hmm (o1 26 (by omega) (by decide) (by omega)) (fun h0 => by rw [← hJ.1 1 (by decide)]; exact (od 10 1 (dvl_10 (by decide) h0) (by decide)).1) (o2 26 (by omega) (by decide))) (fun i hi => dn 4 i (by omega) (by omega))
  · refine LsR_ad hLn (fun i hi => ?_)
    by_cases z : i = ns
    · rw [z, d7, if_pos rfl]
    · rw [dn 7 i (by omega) (by omega), if_neg z]
  · rw [sk 16 (by decide)]
    exact ScR_x (hSc g hg) hmm (od 0 g (dvl_0 hg) (by omega)) (od 1 g (dvl_1 hg) (by omega)) (fun h0 => (od 2 g ⟨by decide, Or.inr (Or.inl ⟨rfl, hg, h0⟩)⟩ (by omega)).1) (fun c hc => od 3 _ (dvl_3 hg hc) (by omega)) (dn 0 g (by omega) (by omega)) (dn 1 g (by omega) (by omega)) (dn 2 g (by omega) (by omega)) (fun c hc => dn 3 _ (by omega) (by omega)) (fun k h1 h2 h3 => by rw [sk k (by omega)]) (fun c hc k h1 h2 => by rw [sk k (by omega)])
  · exact AgR_x (hAg x hx) hmm (od 4 x (dvl_x (by decide) (by decide) hx) (by omega)) (od 5 x (dvl_x (by decide) (by decide) hx) (by omega)) (od 6 x (dvl_x (by decide) (by decide) hx) (by omega)).1 (dn 4 x (by omega) (by omega)) (dn 5 x (by omega) (by omega)) (dn 6 x (by omega) (by omega)) (fun k h1 h2 => by rw [sk k (by omega)])
  · by_cases z : s = ns
    · subst z
      rw [t59]
      unfold StR
      rw [d7, d8, d9, N0.1, N0.2, N1.1, N2.1, N1.2, s9.1, s9.2.1, s9.2.2.1, s9.2.2.2.1, s9.2.2.2.2.1, s9.2.2.2.2.2.1, s9.2.2.2.2.2.2.2, s61]
      exact ⟨hy, ⟨by omega, by omega⟩, ⟨hy1, ⟨by omega, by omega⟩, hy2, ⟨by omega, by omega⟩⟩, ⟨hv.1, hv.2.1, hv.2.2.1, hv.2.2.2.1, hv.2.2.2.2.1, hv.2.2.2.2.2.1, hv.2.2.2.2.2.2.1, hv.2.2.2.2.2.2.2.2⟩, fun t ht => (hz t ht).trans (fill_i (by omega) (by omega)).symm, fun k hk => absurd hk (Nat.not_lt_zero k), fun y => absurd y (by decide), fun _ => hv.2.2.2.2.2.2.2.1⟩
    · have hs2 : s < ns := by omega
      rw [s59]
      exact StR_x (hSt s hs2) (h59 s hs2) hmm (od 7 s (dvl_s (by decide) (by decide) hs2) (by omega)) (od 8 s (dvl_s (by decide) (by decide) hs2) (by omega)) (od 9 s (dvl_s (by decide) (by decide) hs2) (by omega)) (dn 7 s (by omega) (by omega)) (dn 8 s (by omega) (by omega)) (dn 9 s (by omega) (by omega)) (fun k h1 h2 => so k s (by omega) z) (ot s hs2)
  · exact CT_x hT (fun x hx => o2 x (by omega) (by omega)) (fun k hk => sk k (by omega)) ⟨rfl, rfl⟩
  · rw [sk 0 (by decide), sk 1 (by decide)]
    exact r1
  · rw [sk 2 (by decide)]
    exact r2
  · rw [sk 16 (by decide)]
    exact r4
  · rw [sk 16 (by decide), sk 21 (by decide)]
    exact r5
  · unfold CDok at r7 ⊢
    rw [sk 35 (by decide), sk 36 (by decide)]
    exact r7
  · by_cases z : s = ns
    · subst z
      unfold RVt
      rw [t59, z59, s61, s9.1, s9.2.1, s9.2.2.1, s9.2.2.2.1, s9.2.2.2.2.1, s9.2.2.2.2.2.1, s9.2.2.2.2.2.2.1, s9.2.2.2.2.2.2.2]
      exact ⟨⟨h, hh0, rfl⟩, ⟨a, by omega, rfl⟩, ⟨b, hb, rfl⟩, ⟨c, hc, rfl⟩, ⟨d, hd, rfl⟩, fun t ht => Or.inl (fill_i (by omega) (by omega)), ⟨0, by decide, rfl⟩, fun k hk => absurd hk (Nat.not_lt_zero k), fun j k _ hk => absurd hk (Nat.not_lt_zero k), Or.inl ⟨Or.inl rfl, rfl, rfl⟩⟩
    · have hs2 : s < ns := by omega
      have := r8 s hs2
      have h4 := h59 s hs2
      unfold RVt at this ⊢
      rw [so 51 s (by decide) z, so 52 s (by decide) z, so 53 s (by decide) z, so 54 s (by decide) z, so 55 s (by decide) z, so 56 s (by decide) z, so 57 s (by decide) z, so 58 s (by decide) z, s59, s60, sk 27 (by decide), sk 28 (by decide)]
      obtain ⟨p1, p2, p3, p4, p5, p6, p7⟩ := this
      exact ⟨p1, p2, p3, p4, p5, fun t ht => by rw [(ot s hs2 t ht).2]; exact p6 t ht, p7⟩
  · rw [s59]
    exact r9 s h1 (by omega)
  · rw [sk 80 (by decide)]
    exact r10
  · obtain ⟨j1, rk, j2⟩ := hJ
    refine ⟨fun j hj => ?_, fun x => if x = M.1 then 16 * ns + 7 else if x = M.1 + 1 then 16 * ns + 8 else if x = M.1 + 2 then 16 * ns + 9 else if x = M.1 + 3 then 42 else rk x, fun k j hv9 => ?_⟩
    · by_cases z : j = 2
      · subst z
        exact d10
      · rw [dn 10 j (by omega) (by omega)]
        exact (j1 j hj).trans (if_neg z).symm
    · by_cases z0 : k = 7 ∧ j = ns
      · rw [z0.1, z0.2, d7]
        exact ⟨hM, by omega, if_pos rfl⟩
      · by_cases z1 : k = 8 ∧ j = ns
        · rw [z1.1, z1.2, d8]
          exact ⟨by omega, by omega, (if_neg (by omega)).trans (if_pos rfl)⟩
        · by_cases z2 : k = 9 ∧ j = ns
          · rw [z2.1, z2.2, d9]
            exact ⟨by omega, by omega, (if_neg (by omega)).trans ((if_neg (by omega)).trans (if_pos rfl))⟩
          · by_cases z10 : k = 10 ∧ j = 2
            · rw [z10.1, z10.2, d10]
              rcases hed with y | y
              · have := j2 10 2 (dvl_10 (by decide) y.2.2)
                rw [j1 2 (by decide), ← y.2.1] at this
                exact ⟨this.1, by omega, (if_neg (by omega)).trans ((if_neg (by omega)).trans ((if_neg (by omega)).trans ((if_neg (by omega)).trans this.2.2)))⟩
              · rw [y.2]
                exact ⟨by omega, by omega, (if_neg (by omega)).trans ((if_neg (by omega)).trans ((if_neg (by omega)).trans (if_pos (by omega))))⟩
            · have hv2 : dvl sg nh nx ns k j ∧ ¬ (7 ≤ k ∧ k ≤ 9 ∧ j = ns) := by
                obtain ⟨g1, g2⟩ := hv9
                rw [sk 16 (by decide)] at g2
                rcases g2 with g | g | g | g | g | g
                · exact ⟨⟨g1, Or.inl g⟩, by omega⟩
                · exact ⟨⟨g1, Or.inr (Or.inl g)⟩, by omega⟩
                · exact ⟨⟨g1, Or.inr (Or.inr (Or.inl g))⟩, by omega⟩
                · exact ⟨⟨g1, Or.inr (Or.inr (Or.inr (Or.inl g)))⟩, by omega⟩
                · exact ⟨⟨g1, Or.inr (Or.inr (Or.inr (Or.inr (Or.inl ⟨g.1, g.2.1, by omega⟩))))⟩, by omega⟩
                · exact ⟨⟨g1, Or.inr (Or.inr (Or.inr (Or.inr (Or.inr ⟨g.1, by omega⟩))))⟩, by omega⟩
              have := j2 k j hv2.1
              rw [dn k j hv2.2 z10]
              exact ⟨this.1, by omega, (if_neg (by omega)).trans ((if_neg (by omega)).trans ((if_neg (by omega)).trans ((if_neg (by omega)).trans this.2.2)))⟩
