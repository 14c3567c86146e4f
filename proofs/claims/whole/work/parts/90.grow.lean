/-! WHAT STAYS WHEN CELLS ARE MADE -/
theorem LsR_ad {M : mH} {T : Nat → mT} {cs : Nat → Nat → Int32} {l ed n : Nat} {ad ad2 : Nat → Nat} (h : LsR M T cs l ed n ad) (e : ∀ i, i < n → ad2 i = ad i) : LsR M T cs l ed n ad2 := by
  obtain ⟨a1, a2, a3, a4, a5⟩ := h
  refine ⟨a1, a2, a3, a4, a5.imp id (fun z => ?_)⟩
  obtain ⟨b1, c, r, b2, b3, b4, b5, b6⟩ := z
  exact ⟨b1, c, r, b2, b3, b4, b5, fun i hi => by rw [e i hi]; exact b6 i hi⟩
theorem inC_x {M M2 : mH} {a : Nat} (h : inC M a) (hm : M.1 ≤ M2.1) : inC M2 a := ⟨Nat.lt_of_lt_of_le h.1 hm, h.2⟩
theorem LsR_x {M M2 : mH} {T T2 : Nat → mT} {cs cs2 : Nat → Nat → Int32} {l ed n : Nat} {ad : Nat → Nat} (h : LsR M T cs l ed n ad) (hm : M.1 ≤ M2.1) (hl : T2 l = T l) (he : 0 < n → T2 ed = T ed) (hc : cs2 l = cs l) : LsR M2 T2 cs2 l ed n ad := by
  obtain ⟨a1, a2, a3, a4, a5⟩ := h
  refine ⟨hl.trans a1, inC_x a2 hm, by rw [hc]; exact a3, a4, a5.imp id (fun z => ?_)⟩
  obtain ⟨b1, c, r, b2, b3, b4, b5, b6⟩ := z
  exact ⟨b1, c, r, (he b1).trans b2, inC_x b3 hm, b4, b5, b6⟩
theorem ScR_x {M M2 : mH} {T T2 : Nat → mT} {cs cs2 sg sg2 : Nat → Nat → Int32} {D D2 : Nat → Nat → Nat} {h cm : Nat} (hs : ScR M T cs sg D h cm) (hm : M.1 ≤ M2.1) (f0 : T2 (D 0 h) = T (D 0 h) ∧ cs2 (D 0 h) = cs (D 0 h)) (f1 : T2 (D 1 h) = T (D 1 h) ∧ cs2 (D 1 h) = cs (D 1 h)) (f2 : 0 < cm → T2 (D 2 h) = T (D 2 h)) (f3 : ∀ c, c < cm → T2 (D 3 (6 * h + c)) = T (D 3 (6 * h + c)) ∧ cs2 (D 3 (6 * h + c)) = cs (D 3 (6 * h + c))) (d0 : D2 0 h = D 0 h) (d1 : D2 1 h = D 1 h) (d2 : D2 2 h = D 2 h) (d3 : ∀ c, c < cm → D2 3 (6 * h + c) = D 3 (6 * h + c)) (g : ∀ k, 9 ≤ k → k ≤ 15 → ¬ k = 12 → sg2 k h = sg k h) (g2 : ∀ c, c < cm → ∀ k, 17 ≤ k → k ≤ 21 → sg2 k (6 * h + c) = sg k (6 * h + c)) : ScR M2 T2 cs2 sg2 D2 h cm := by
  obtain ⟨b1, b2, ⟨e0, e1, e2, e3, e4, e5⟩, b4, b5⟩ := hs
  unfold ScR
  rw [d0, d1, d2, f0.2]
  refine ⟨f0.1.trans b1, inC_x b2 hm, ⟨e0.trans (g 9 (by decide) (by decide) (by decide)).symm, e1.trans (g 10 (by decide) (by decide) (by decide)).symm, e2.trans (g 13 (by decide) (by decide) (by decide)).symm, e3.trans (g 14 (by decide) (by decide) (by decide)).symm, e4.trans (g 15 (by decide) (by decide) (by decide)).symm, e5.trans (g 11 (by decide) (by decide) (by decide)).symm⟩, LsR_ad (LsR_x b4 hm f1.1 f2 f1.2) (fun i hi => d3 i hi), fun c hc => ?_⟩
  obtain ⟨a1, a2, a3, a4, a5, a6, a7⟩ := b5 c hc
  rw [d3 c hc]
  unfold CoR
  rw [(f3 c hc).2]
  exact ⟨(f3 c hc).1.trans a1, inC_x a2 hm, a3.trans (g2 c hc 17 (by decide) (by decide)).symm, a4.trans (g2 c hc 18 (by decide) (by decide)).symm, a5.trans (g2 c hc 19 (by decide) (by decide)).symm, a6.trans (g2 c hc 20 (by decide) (by decide)).symm, a7.trans (g2 c hc 21 (by decide) (by decide)).symm⟩
theorem AgR_x {M M2 : mH} {T T2 : Nat → mT} {cs cs2 sg sg2 : Nat → Nat → Int32} {D D2 : Nat → Nat → Nat} {x cn : Nat} {wc : Nat → Nat} (h : AgR M T cs sg D x cn wc) (hm : M.1 ≤ M2.1) (f4 : T2 (D 4 x) = T (D 4 x) ∧ cs2 (D 4 x) = cs (D 4 x)) (f5 : T2 (D 5 x) = T (D 5 x) ∧ cs2 (D 5 x) = cs (D 5 x)) (f6 : T2 (D 6 x) = T (D 6 x)) (d4 : D2 4 x = D 4 x) (d5 : D2 5 x = D 5 x) (d6 : D2 6 x = D 6 x) (g : ∀ k, 27 ≤ k → k ≤ 34 → sg2 k x = sg k x) : AgR M2 T2 cs2 sg2 D2 x cn wc := by
  obtain ⟨a1, a2, ⟨b1, b2, b3, b4⟩, ⟨e0, e1, e2, e3, e4, e5, e6, e7⟩, a5⟩ := h
  unfold AgR
  rw [d4, d5, d6, f4.2, f5.2]
  exact ⟨f4.1.trans a1, inC_x a2 hm, ⟨f5.1.trans b1, inC_x b2 hm, f6.trans b3, inC_x b4 hm⟩, ⟨e0.trans (g 27 (by decide) (by decide)).symm, e1.trans (g 28 (by decide) (by decide)).symm, e2.trans (g 29 (by decide) (by decide)).symm, e3.trans (g 30 (by decide) (by decide)).symm, e4.trans (g 31 (by decide) (by decide)).symm, e5.trans (g 32 (by decide) (by decide)).symm, e6.trans (g 33 (by decide) (by decide)).symm, e7.trans (g 34 (by decide) (by decide)).symm⟩, a5⟩
theorem StR_x {M M2 : mH} {T T2 : Nat → mT} {cs cs2 sg sg2 : Nat → Nat → Int32} {D D2 : Nat → Nat → Nat} {s wm : Nat} (hs : StR M T cs sg D s wm) (hw : wm ≤ 4) (hm : M.1 ≤ M2.1) (f7 : T2 (D 7 s) = T (D 7 s) ∧ cs2 (D 7 s) = cs (D 7 s)) (f8 : T2 (D 8 s) = T (D 8 s) ∧ cs2 (D 8 s) = cs (D 8 s)) (f9 : T2 (D 9 s) = T (D 9 s) ∧ cs2 (D 9 s) = cs (D 9 s)) (d7 : D2 7 s = D 7 s) (d8 : D2 8 s = D 8 s) (d9 : D2 9 s = D 9 s) (g : ∀ k, 51 ≤ k → k ≤ 58 → sg2 k s = sg k s) (g2 : ∀ j, j < 4 → sg2 60 (4 * s + j) = sg 60 (4 * s + j) ∧ sg2 61 (4 * s + j) = sg 61 (4 * s + j)) : StR M2 T2 cs2 sg2 D2 s wm := by
  obtain ⟨a1, a2, ⟨b1, b2, b3, b4⟩, ⟨e0, e1, e2, e3, e4, e7, e8, e10⟩, a5, a6, a7, a8⟩ := hs
  unfold StR
  rw [d7, d8, d9, f7.2, f8.2, f9.2]
  refine ⟨f7.1.trans a1, inC_x a2 hm, ⟨f8.1.trans b1, inC_x b2 hm, f9.1.trans b3, inC_x b4 hm⟩, ⟨e0.trans (g 51 (by decide) (by decide)).symm, e1.trans (g 52 (by decide) (by decide)).symm, e2.trans (g 53 (by decide) (by decide)).symm, e3.trans (g 54 (by decide) (by decide)).symm, e4.trans (g 55 (by decide) (by decide)).symm, e7, e8.trans (g 56 (by decide) (by decide)).symm, e10.trans (g 58 (by decide) (by decide)).symm⟩, fun t ht => (a5 t ht).trans (g2 t ht).2.symm, fun k hk => (a6 k hk).trans (g2 k (by omega)).1.symm, fun z => ?_, fun z => ?_⟩
  · rw [g 56 (by decide) (by decide)] at z
    obtain ⟨v, v1, v2, v3⟩ := a7 z
    exact ⟨v, v1, v2, by rw [(g2 v (by omega)).1, g 57 (by decide) (by decide)]; exact v3⟩
  · rw [g 56 (by decide) (by decide)] at z
    exact a8 z
/-- how many each of the three lists has -/
def n3 (nh nx ns i : Nat) : Nat := if i = 0 then nh else if i = 1 then nx else ns
theorem dvl_10 {sg : Nat → Nat → Int32} {nh nx ns i : Nat} (hi : i < 3) (h : 0 < n3 nh nx ns i) : dvl sg nh nx ns 10 i := by
  refine ⟨by decide, Or.inr (Or.inr (Or.inr (Or.inr (Or.inr ⟨rfl, ?_⟩))))⟩
  rcases (by omega : i = 0 ∨ i = 1 ∨ i = 2) with rfl | rfl | rfl
  · exact Or.inl ⟨rfl, h⟩
  · exact Or.inr (Or.inl ⟨rfl, h⟩)
  · exact Or.inr (Or.inr ⟨rfl, h⟩)
theorem Ls_n3 {M : mH} {T : Nat → mT} {cs sg : Nat → Nat → Int32} {e : Nat → Nat} {D : Nat → Nat → Nat} {nh nx ns : Nat} {cn : Nat → Nat} {wc : Nat → Nat → Nat} (h : CI M T cs sg e D nh nx ns cn wc) {i : Nat} (hi : i < 3) : ∃ ad, LsR M T cs (25 + i) (e i) (n3 nh nx ns i) ad := by
  rcases (by omega : i = 0 ∨ i = 1 ∨ i = 2) with rfl | rfl | rfl
  · exact ⟨_, h.2.1.1⟩
  · exact ⟨_, h.2.1.2.1⟩
  · exact ⟨_, h.2.1.2.2⟩
/-- cells of D but the rows of lists are not touched when list i grows -/
theorem old_x {M : mH} {T T2 : Nat → mT} {cs cs2 sg : Nat → Nat → Int32} {e : Nat → Nat} {D : Nat → Nat → Nat} {nh nx ns : Nat} {cn : Nat → Nat} {wc : Nat → Nat → Nat} (hI : CI M T cs sg e D nh nx ns cn wc) (hJ : DJ M sg e D nh nx ns) (hMs : M.1 ≤ 900000) {i : Nat} (hi : i < 3) (hT : ∀ a, a < M.1 → ¬ a = 25 + i → ¬ a = e i → T2 a = T a) (hcs : ∀ a, a < M.1 → ¬ a = 25 + i → cs2 a = cs a) {k j : Nat} (hv : dvl sg nh nx ns k j) (hn : ¬ (k = 10 ∧ j = i)) : T2 (D k j) = T (D k j) ∧ cs2 (D k j) = cs (D k j) := by
  have h1 := DJ_lo hJ hv
  have h2 : D k j < M.1 := by
    obtain ⟨-, rk, h⟩ := hJ
    exact (h k j hv).2.1
  have h3 : ¬ D k j = e i := fun z => by
    obtain ⟨ad, hL⟩ := Ls_n3 hI hi
    rcases hL.2.2.2.2 with y | y
    · rw [y.2] at z
      omega
    · rw [← hJ.1 i hi] at z
      exact DJ_ne hJ hv (dvl_10 hi y.1) hn z
  exact ⟨hT _ h2 (by omega) h3, hcs _ h2 (by omega)⟩
theorem CT_x {cs cs2 sg sg2 : Nat → Nat → Int32} {io io2 : Nat → Int32} {nf tp : Nat} (h : CT cs sg io nf tp) (hc : ∀ a, a < 25 → cs2 a = cs a) (g : ∀ k, k ≤ 2 ∨ k = 22 ∨ 78 ≤ k → sg2 k = sg k) (gi : io2 6 = io 6 ∧ io2 8 = io 8) : CT cs2 sg2 io2 nf tp := by
  obtain ⟨c1, c2, c3, c4, c5⟩ := h
  unfold CT
  rw [hc 0 (by decide), hc 1 (by decide), hc 2 (by decide), hc 10 (by decide), hc 11 (by decide), hc 20 (by decide), hc 21 (by decide), hc 22 (by decide), hc 23 (by decide), hc 24 (by decide), g 0 (by decide), g 1 (by decide), g 2 (by decide), g 22 (by decide), g 78 (by decide), g 79 (by decide), g 80 (by decide), g 81 (by decide), gi.1, gi.2]
  exact ⟨c1, c2, fun i hi m hm => by rw [hc (6 + i) (by omega)]; exact c3 i hi m hm, c4, c5⟩
/-- a call that makes cells -/
def StpG (kc kr : Nat) (as : List Value) : Prop := ∀ (M : mH) (T : Nat → mT) (cs sg : Nat → Nat → Int32) (io : Nat → Int32) (e : Nat → Nat) (D : Nat → Nat → Nat) (nh nx ns nf ny tp : Nat) (cm : Nat → Nat) (w : Nat → Nat → Nat) (cn : Nat → Nat) (wc : Nat → Nat → Nat), CV M T cs io sg e D nh nx ns nf ny tp cm w cn wc → M.1 ≤ 800000 → M.2.2 1000000 = .inl (3, 0, .inr (.inr (.inr (.inr (fun _ => none))))) → (∀ j, 2 ≤ j → j < 8 → M.2.2 (1000000 + j) = mm_hs 0 (fun _ => 0) j) → (e 3 = 11 ∨ e 3 = 13) → ∃ (v : Value) (M2 : mH) (T2 : Nat → mT) (cs2 : Nat → Nat → Int32) (io2 : Nat → Int32) (sg2 : Nat → Nat → Int32), (mm_Ev 30 kr (.ref 100 :: as) (rf_mk (hk M2 T2 cs2) io sg) (some v, rf_mk (hk M2 T2 cs2) io2 sg2) ∧ (M2.2.2 = M.2.2 ∧ M2.1 ≤ M.1 + 20 ∧ M2.2.1 ≤ M.2.1 + 1000) ∧ ∃ (e2 : Nat → Nat) (D2 : Nat → Nat → Nat) (nh2 nx2 ns2 nf2 ny2 tp2 : Nat) (cm2 : Nat → Nat) (w2 : Nat → Nat → Nat) (cn2 : Nat → Nat) (wc2 : Nat → Nat → Nat), CV M2 T2 cs2 io2 sg2 e2 D2 nh2 nx2 ns2 nf2 ny2 tp2 cm2 w2 cn2 wc2 ∧ (e2 3 = 11 ∨ e2 3 = 13)) ∧ mm_Ev 40 kc (.ref 0 :: as) (hk M T cs) (some v, hk M2 T2 cs2)
theorem hs_0 (L : Nat) (xs : Nat → Int32) {j : Nat} (h : j < 9) : mm_hs L xs j = mm_hs 0 (fun _ => 0) j := by
  rcases (by omega : j = 0 ∨ j = 1 ∨ j = 2 ∨ j = 3 ∨ j = 4 ∨ j = 5 ∨ j = 6 ∨ j = 7 ∨ j = 8) with rfl | rfl | rfl | rfl | rfl | rfl | rfl | rfl | rfl <;> rfl
theorem StpA_G {kc kr : Nat} {as : List Value} (h : StpG kc kr as) : StpA kc kr as := by
  intro L xs M T cs io sg hI hM8
  obtain ⟨⟨e, D, nh, nx, ns, nf, ny, tp, cm, w, cn, wc, hV, h3⟩, hs⟩ := hI
  obtain ⟨v, M2, T2, cs2, io2, sg2, ⟨hr, ⟨g1, g2, g3⟩, e2, D2, nh2, nx2, ns2, nf2, ny2, tp2, cm2, w2, cn2, wc2, hV2, h32⟩, hc⟩ := h (rf_mk M io sg) T cs sg io e D nh nx ns nf ny tp cm w cn wc (CV_rf hV rfl (rf_hi M io sg (by decide))) hM8 ((rf_hi M io sg (by decide)).trans (hs 0 (by decide))) (fun j h1 h2 => (rf_hi M io sg (by omega)).trans ((hs j (by omega)).trans (hs_0 L xs (by omega)))) h3
  have eM : M2 = rf_mk (M2.1, M2.2.1, M.2.2) io sg := by
    obtain ⟨x, y, z⟩ := M2
    have : z = (rf_mk M io sg).2.2 := g1
    rw [this]
    rfl
  refine ⟨v, (M2.1, M2.2.1, M.2.2), T2, cs2, io2, sg2, ?_, ?_, ⟨⟨e2, D2, nh2, nx2, ns2, nf2, ny2, tp2, cm2, w2, cn2, wc2, CV_rf hV2 rfl ?_, h32⟩, hs⟩, g2, g3⟩
  · rw [← eM]
    exact mm_Ev_up (by decide) hc
  · rw [hk_rf, hk_rf, eM, rf_rf, rf_rf] at hr
    exact mm_Ev_up (by decide) hr
  · rw [g1]
    exact (rf_hi M io sg (by decide)).symm
theorem StpG_N {kc kr : Nat} {as : List Value} {M : mH} {T : Nat → mT} {cs sg : Nat → Nat → Int32} {io : Nat → Int32} {e : Nat → Nat} {D : Nat → Nat → Nat} {nh nx ns nf ny tp : Nat} {cm : Nat → Nat} {w : Nat → Nat → Nat} {cn : Nat → Nat} {wc : Nat → Nat → Nat} (hV : CV M T cs io sg e D nh nx ns nf ny tp cm w cn wc) (h3 : e 3 = 11 ∨ e 3 = 13) {v : Value} (hr : mm_Ev 8 kr (.ref 100 :: as) (rf_mk (hk M T cs) io sg) (some v, rf_mk (hk M T cs) io sg)) (hc : mm_Ev 20 kc (.ref 0 :: as) (hk M T cs) (some v, hk M T cs)) : ∃ (v : Value) (M2 : mH) (T2 : Nat → mT) (cs2 : Nat → Nat → Int32) (io2 : Nat → Int32) (sg2 : Nat → Nat → Int32), (mm_Ev 30 kr (.ref 100 :: as) (rf_mk (hk M2 T2 cs2) io sg) (some v, rf_mk (hk M2 T2 cs2) io2 sg2) ∧ (M2.2.2 = M.2.2 ∧ M2.1 ≤ M.1 + 20 ∧ M2.2.1 ≤ M.2.1 + 1000) ∧ ∃ (e2 : Nat → Nat) (D2 : Nat → Nat → Nat) (nh2 nx2 ns2 nf2 ny2 tp2 : Nat) (cm2 : Nat → Nat) (w2 : Nat → Nat → Nat) (cn2 : Nat → Nat) (wc2 : Nat → Nat → Nat), CV M2 T2 cs2 io2 sg2 e2 D2 nh2 nx2 ns2 nf2 ny2 tp2 cm2 w2 cn2 wc2 ∧ (e2 3 = 11 ∨ e2 3 = 13)) ∧ mm_Ev 40 kc (.ref 0 :: as) (hk M T cs) (some v, hk M2 T2 cs2) := ⟨v, M, T, cs, io, sg, ⟨mm_Ev_up (by decide) hr, ⟨rfl, by omega, by omega⟩, e, D, nh, nx, ns, nf, ny, tp, cm, w, cn, wc, hV, h3⟩, mm_Ev_up (by decide) hc⟩
