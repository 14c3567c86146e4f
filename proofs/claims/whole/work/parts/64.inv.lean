/-! WHAT HOLDS BETWEEN THE CALLS: the system's cells, the reference's ints, both together -/
def CI (M : mH) (T : Nat → mT) (cs sg : Nat → Nat → Int32) (e : Nat → Nat) (D : Nat → Nat → Nat) (nh nx ns : Nat) (cn : Nat → Nat) (wc : Nat → Nat → Nat) : Prop := ShF T e ∧ (LsR M T cs 25 (e 0) nh (D 0) ∧ LsR M T cs 26 (e 1) nx (D 4) ∧ LsR M T cs 27 (e 2) ns (D 7)) ∧ (∀ h, h < nh → ScR M T cs sg D h (tN (sg 16 h))) ∧ (∀ x, x < nx → AgR M T cs sg D x (cn x) (wc x)) ∧ (∀ s, s < ns → StR M T cs sg D s (tN (sg 59 s)))
def CT (cs sg : Nat → Nat → Int32) (io : Nat → Int32) (nf tp : Nat) : Prop := cs 0 0 = io 6 ∧ (∀ l, l < 4 → cs 1 l = sg 0 l ∧ cs 2 l = sg 1 l) ∧ (∀ i, i < 4 → ∀ m, m < 11 → cs (6 + i) m = sg 2 (11 * i + m)) ∧ (cs 10 1 = nI tp ∧ ∀ j, j < 80 → cs 11 j = nI ((sg 22 j).toBitVec.toNat % 256)) ∧ (cs 20 0 = nI nf ∧ cs 20 1 = io 8 ∧ ∀ i, i < 200 → cs 21 i = sg 78 i ∧ cs 22 i = sg 79 i ∧ cs 23 i = sg 80 i ∧ cs 24 i = sg 81 i)
def RVs (sg : Nat → Nat → Int32) (h : Nat) : Prop := inN (sg 9 h) 3 ∧ inN (sg 10 h) 3 ∧ inN (sg 11 h) 9 ∧ (∃ fr tt, fr < tt ∧ tt < 360 ∧ sg 13 h = nI fr ∧ sg 14 h = nI tt) ∧ inN (sg 15 h) 99999 ∧ inN (sg 16 h) 6
def RVx (sg : Nat → Nat → Int32) (nh : Nat) (cm cn : Nat) (w wc : Nat → Nat) (x : Nat) : Prop := (∃ a b, a < nh ∧ b < nh ∧ ¬ a = b ∧ sg 27 x = nI a ∧ sg 28 x = nI b) ∧ inN (sg 29 x) 9 ∧ inN (sg 30 x) 99 ∧ inN (sg 31 x) 9999 ∧ inN (sg 32 x) 99 ∧ inN (sg 33 x) 99 ∧ (∀ g t c u, sp_met wc cn g t c u ↔ sp_met w cm g t c u) ∧ (∀ l v, bo3 wc cn l v ↔ bo3 w cm l v)
def RVt (sg : Nat → Nat → Int32) (nh nx : Nat) (s : Nat) : Prop := (∃ hm, hm < nh ∧ sg 51 s = nI hm) ∧ inN (sg 52 s) 7 ∧ inN (sg 53 s) 100 ∧ inN (sg 54 s) 99 ∧ inN (sg 55 s) 4095 ∧ (∀ t, t < 4 → sg 61 (4 * s + t) = -1 ∨ inN (sg 61 (4 * s + t)) 9) ∧ inN (sg 59 s) 4 ∧ (∀ k, k < tN (sg 59 s) → ∃ v, v < nh ∧ sg 60 (4 * s + k) = nI v) ∧ (∀ j k, j < k → k < tN (sg 59 s) → ¬ sg 60 (4 * s + j) = sg 60 (4 * s + k)) ∧ ((sg 56 s = nI 0 ∨ sg 56 s = nI 2) ∧ sg 57 s = -1 ∧ sg 58 s = -1 ∨ (sg 56 s = nI 1 ∨ sg 56 s = nI 3) ∧ ∃ x p, x < nx ∧ p < nh ∧ sg 58 s = nI x ∧ sg 57 s = nI p ∧ (sg 51 s = sg 27 x ∨ sg 51 s = sg 28 x))
def RV (io : Nat → Int32) (sg : Nat → Nat → Int32) (nh nx ns nf ny tp : Nat) (cm : Nat → Nat) (w : Nat → Nat → Nat) (cn : Nat → Nat) (wc : Nat → Nat → Nat) : Prop := ((io 3 = nI nh ∧ nh ≤ 8) ∧ (io 4 = nI nx ∧ nx ≤ 12) ∧ (io 5 = nI ns ∧ ns ≤ 16) ∧ (io 7 = nI nf ∧ nf ≤ 200) ∧ (io 6 = nI ny ∧ ny ≤ 99) ∧ (io 23 = nI tp ∧ tp ≤ 80)) ∧ (∀ l, l < 4 → ∃ a b, a ≤ b ∧ b ≤ 200 ∧ sg 0 l = nI a ∧ sg 1 l = nI b) ∧ (∀ j, j < 44 → inN (sg 2 j) 999) ∧ (∀ h, h < nh → RVs sg h) ∧ (∀ h, h < 8 → nh ≤ h → sg 16 h = nI 0) ∧ (∀ h c, h < 8 → c < 6 → sg 21 (6 * h + c) = 0 ∨ sg 21 (6 * h + c) = nI 1 ∧ h < nh ∧ c < tN (sg 16 h)) ∧ (∀ x, x < nx → RVx sg nh (cm x) (cn x) (w x) (wc x) x) ∧ CDok sg nx cm w ∧ (∀ s, s < ns → RVt sg nh nx s) ∧ (∀ s, s < 16 → ns ≤ s → sg 59 s = nI 0) ∧ (∀ i, i < nf → sg 80 i = -1 ∨ inN (sg 80 i) 359)
/-- which addresses of D are taken -/
def dvl (sg : Nat → Nat → Int32) (nh nx ns k i : Nat) : Prop := k < 16 ∧ ((k ≤ 1 ∧ i < nh) ∨ (k = 2 ∧ i < nh ∧ 0 < tN (sg 16 i)) ∨ (k = 3 ∧ ∃ h c, i = 6 * h + c ∧ h < nh ∧ c < tN (sg 16 h)) ∨ (4 ≤ k ∧ k ≤ 6 ∧ i < nx) ∨ (7 ≤ k ∧ k ≤ 9 ∧ i < ns) ∨ (k = 10 ∧ (i = 0 ∧ 0 < nh ∨ i = 1 ∧ 0 < nx ∨ i = 2 ∧ 0 < ns)))
def DJ (M : mH) (sg : Nat → Nat → Int32) (e : Nat → Nat) (D : Nat → Nat → Nat) (nh nx ns : Nat) : Prop := (∀ i, i < 3 → D 10 i = e i) ∧ ∃ rk : Nat → Nat, ∀ k i, dvl sg nh nx ns k i → 157 ≤ D k i ∧ D k i < M.1 ∧ rk (D k i) = 16 * i + k
theorem DJ_ne {M : mH} {sg : Nat → Nat → Int32} {e : Nat → Nat} {D : Nat → Nat → Nat} {nh nx ns k i k2 i2 : Nat} (h : DJ M sg e D nh nx ns) (h1 : dvl sg nh nx ns k i) (h2 : dvl sg nh nx ns k2 i2) (hn : ¬ (k = k2 ∧ i = i2)) : ¬ D k i = D k2 i2 := by
  obtain ⟨-, rk, h⟩ := h
  intro z
  have a := (h k i h1).2.2
  have b := (h k2 i2 h2).2.2
  rw [z, b] at a
  have := h1.1
  have := h2.1
  omega
theorem DJ_lo {M : mH} {sg : Nat → Nat → Int32} {e : Nat → Nat} {D : Nat → Nat → Nat} {nh nx ns k i : Nat} (h : DJ M sg e D nh nx ns) (h1 : dvl sg nh nx ns k i) : 157 ≤ D k i := by
  obtain ⟨-, rk, h⟩ := h
  exact (h k i h1).1
def CV (M : mH) (T : Nat → mT) (cs : Nat → Nat → Int32) (io : Nat → Int32) (sg : Nat → Nat → Int32) (e : Nat → Nat) (D : Nat → Nat → Nat) (nh nx ns nf ny tp : Nat) (cm : Nat → Nat) (w : Nat → Nat → Nat) (cn : Nat → Nat) (wc : Nat → Nat → Nat) : Prop := (157 ≤ M.1 ∧ M.1 ≤ 900000 ∧ M.2.2 1000001 = .inl (0, 4, .inl mm_worth)) ∧ CI M T cs sg e D nh nx ns cn wc ∧ CT cs sg io nf tp ∧ RV io sg nh nx ns nf ny tp cm w cn wc ∧ DJ M sg e D nh nx ns
/-- only scratch has changed: the row of guests, the grid, the plan, the stacks of agreements -/
def FrC (D : Nat → Nat → Nat) (nx : Nat) (cs cs2 : Nat → Nat → Int32) : Prop := ∀ a, ¬ (a = 3 ∨ (12 ≤ a ∧ a < 20) ∨ (28 ≤ a ∧ a < 100)) → (∀ x, x < nx → ¬ a = D 6 x) → cs2 a = cs a
def FrD (D : Nat → Nat → Nat) (nx : Nat) (cs cs2 : Nat → Nat → Int32) : Prop := ∀ a, (∀ x, x < nx → ¬ a = D 6 x) → cs2 a = cs a
theorem FrD_C {D : Nat → Nat → Nat} {nx : Nat} {cs cs2 : Nat → Nat → Int32} (h : FrD D nx cs cs2) : FrC D nx cs cs2 := fun a _ h2 => h a h2
theorem FrD_t {D : Nat → Nat → Nat} {nx : Nat} {a b c : Nat → Nat → Int32} (h : FrD D nx a b) (h2 : FrD D nx b c) : FrD D nx a c := fun x h3 => (h2 x h3).trans (h x h3)
theorem FrC_r (D : Nat → Nat → Nat) (nx : Nat) (cs : Nat → Nat → Int32) : FrC D nx cs cs := fun _ _ _ => rfl
theorem FrC_t {D : Nat → Nat → Nat} {nx : Nat} {a b c : Nat → Nat → Int32} (h : FrC D nx a b) (h2 : FrC D nx b c) : FrC D nx a c := fun x h3 h4 => (h2 x h3 h4).trans (h x h3 h4)
theorem LsR_f {M : mH} {T : Nat → mT} {cs cs2 : Nat → Nat → Int32} {l ed n : Nat} {ad : Nat → Nat} (h : LsR M T cs l ed n ad) (hf : cs2 l = cs l) : LsR M T cs2 l ed n ad := by
  unfold LsR at h ⊢
  rw [hf]
  exact h
theorem CoR_f {M : mH} {T : Nat → mT} {cs cs2 sg : Nat → Nat → Int32} {a j : Nat} (h : CoR M T cs sg a j) (hf : cs2 a = cs a) : CoR M T cs2 sg a j := by
  unfold CoR at h ⊢
  rw [hf]
  exact h
theorem ScR_f {M : mH} {T : Nat → mT} {cs cs2 sg : Nat → Nat → Int32} {D : Nat → Nat → Nat} {h cm : Nat} (hs : ScR M T cs sg D h cm) (h0 : cs2 (D 0 h) = cs (D 0 h)) (h1 : cs2 (D 1 h) = cs (D 1 h)) (h3 : ∀ c, c < cm → cs2 (D 3 (6 * h + c)) = cs (D 3 (6 * h + c))) : ScR M T cs2 sg D h cm := by
  obtain ⟨a1, a2, a3, a4, a5⟩ := hs
  refine ⟨a1, a2, ?_, LsR_f a4 h1, fun c hc => CoR_f (a5 c hc) (h3 c hc)⟩
  rw [h0]
  exact a3
theorem StR_f {M : mH} {T : Nat → mT} {cs cs2 sg : Nat → Nat → Int32} {D : Nat → Nat → Nat} {s wm : Nat} (hs : StR M T cs sg D s wm) (h7 : cs2 (D 7 s) = cs (D 7 s)) (h8 : cs2 (D 8 s) = cs (D 8 s)) (h9 : cs2 (D 9 s) = cs (D 9 s)) : StR M T cs2 sg D s wm := by
  unfold StR at hs ⊢
  rw [h7, h8, h9]
  exact hs
theorem dvl_0 {sg : Nat → Nat → Int32} {nh nx ns h : Nat} (hh : h < nh) : dvl sg nh nx ns 0 h := ⟨by decide, Or.inl ⟨by decide, hh⟩⟩
theorem dvl_1 {sg : Nat → Nat → Int32} {nh nx ns h : Nat} (hh : h < nh) : dvl sg nh nx ns 1 h := ⟨by decide, Or.inl ⟨by decide, hh⟩⟩
theorem dvl_3 {sg : Nat → Nat → Int32} {nh nx ns h c : Nat} (hh : h < nh) (hc : c < tN (sg 16 h)) : dvl sg nh nx ns 3 (6 * h + c) := ⟨by decide, Or.inr (Or.inr (Or.inl ⟨rfl, h, c, rfl, hh, hc⟩))⟩
theorem dvl_x {sg : Nat → Nat → Int32} {nh nx ns k x : Nat} (h4 : 4 ≤ k) (h6 : k ≤ 6) (hx : x < nx) : dvl sg nh nx ns k x := ⟨by omega, Or.inr (Or.inr (Or.inr (Or.inl ⟨h4, h6, hx⟩)))⟩
theorem dvl_s {sg : Nat → Nat → Int32} {nh nx ns k s : Nat} (h4 : 7 ≤ k) (h6 : k ≤ 9) (hx : s < ns) : dvl sg nh nx ns k s := ⟨by omega, Or.inr (Or.inr (Or.inr (Or.inr (Or.inl ⟨h4, h6, hx⟩))))⟩
/-- a cell of the lists, or of D but its stacks, is no scratch -/
theorem FrC_D {M : mH} {sg : Nat → Nat → Int32} {e : Nat → Nat} {D : Nat → Nat → Nat} {nh nx ns k i : Nat} {cs cs2 : Nat → Nat → Int32} (hf : FrC D nx cs cs2) (h : DJ M sg e D nh nx ns) (h1 : dvl sg nh nx ns k i) (h6 : ¬ k = 6) : cs2 (D k i) = cs (D k i) := by
  have := DJ_lo h h1
  exact hf _ (by omega) (fun x hx => DJ_ne h h1 (dvl_x (by decide) (by decide) hx) (fun z => h6 z.1))
theorem FrC_lo {M : mH} {sg : Nat → Nat → Int32} {e : Nat → Nat} {D : Nat → Nat → Nat} {nh nx ns a : Nat} {cs cs2 : Nat → Nat → Int32} (hf : FrC D nx cs cs2) (h : DJ M sg e D nh nx ns) (h1 : a < 28) (h2 : ¬ (a = 3 ∨ (12 ≤ a ∧ a < 20))) : cs2 a = cs a := hf a (by omega) (fun x hx z => by
  have := DJ_lo h (k := 6) (i := x) (dvl_x (by decide) (by decide) hx)
  omega)
theorem CI_f {M : mH} {T : Nat → mT} {cs cs2 sg : Nat → Nat → Int32} {e : Nat → Nat} {D : Nat → Nat → Nat} {nh nx ns : Nat} {cn : Nat → Nat} {wc : Nat → Nat → Nat} (h : CI M T cs sg e D nh nx ns cn wc) (hJ : DJ M sg e D nh nx ns) (hf : FrC D nx cs cs2) : CI M T cs2 sg e D nh nx ns cn wc := by
  obtain ⟨h1, ⟨h2, h3, h4⟩, h5, h6, h7⟩ := h
  refine ⟨h1, ⟨LsR_f h2 (FrC_lo hf hJ (by decide) (by decide)), LsR_f h3 (FrC_lo hf hJ (by decide) (by decide)), LsR_f h4 (FrC_lo hf hJ (by decide) (by decide))⟩, fun h hh => ?_, fun x hx => ?_, fun s hs => ?_⟩
  · exact ScR_f (h5 h hh) (FrC_D hf hJ (dvl_0 hh) (by decide)) (FrC_D hf hJ (dvl_1 hh) (by decide)) (fun c hc => FrC_D hf hJ (dvl_3 hh hc) (by decide))
  · exact AgR_cs (h6 x hx) (FrC_D hf hJ (dvl_x (by decide) (by decide) hx) (by decide)) (FrC_D hf hJ (dvl_x (by decide) (by decide) hx) (by decide))
  · exact StR_f (h7 s hs) (FrC_D hf hJ (dvl_s (by decide) (by decide) hs) (by decide)) (FrC_D hf hJ (dvl_s (by decide) (by decide) hs) (by decide)) (FrC_D hf hJ (dvl_s (by decide) (by decide) hs) (by decide))
theorem CT_f {M : mH} {cs cs2 sg : Nat → Nat → Int32} {io : Nat → Int32} {e : Nat → Nat} {D : Nat → Nat → Nat} {nh nx ns nf tp : Nat} (h : CT cs sg io nf tp) (hJ : DJ M sg e D nh nx ns) (hf : FrC D nx cs cs2) : CT cs2 sg io nf tp := by
  have g : ∀ a, a < 28 → ¬ (a = 3 ∨ (12 ≤ a ∧ a < 20)) → cs2 a = cs a := fun a h1 h2 => FrC_lo hf hJ h1 h2
  obtain ⟨h1, h2, h3, h4, h5⟩ := h
  refine ⟨?_, fun l hl => ?_, fun i hi m hm => ?_, ?_, ?_⟩
  · rw [g 0 (by decide) (by decide)]
    exact h1
  · rw [g 1 (by decide) (by decide), g 2 (by decide) (by decide)]
    exact h2 l hl
  · rw [g (6 + i) (by omega) (by omega)]
    exact h3 i hi m hm
  · rw [g 10 (by decide) (by decide), g 11 (by decide) (by decide)]
    exact h4
  · rw [g 20 (by decide) (by decide), g 21 (by decide) (by decide), g 22 (by decide) (by decide), g 23 (by decide) (by decide), g 24 (by decide) (by decide)]
    exact h5
theorem CV_f {M : mH} {T : Nat → mT} {cs cs2 sg : Nat → Nat → Int32} {io : Nat → Int32} {e : Nat → Nat} {D : Nat → Nat → Nat} {nh nx ns nf ny tp : Nat} {cm : Nat → Nat} {w : Nat → Nat → Nat} {cn : Nat → Nat} {wc : Nat → Nat → Nat} (hV : CV M T cs io sg e D nh nx ns nf ny tp cm w cn wc) (hf : FrC D nx cs cs2) : CV M T cs2 io sg e D nh nx ns nf ny tp cm w cn wc := ⟨hV.1, CI_f hV.2.1 hV.2.2.2.2 hf, CT_f hV.2.2.1 hV.2.2.2.2 hf, hV.2.2.2.1, hV.2.2.2.2⟩
theorem RV_I1 {io : Nat → Int32} {sg : Nat → Nat → Int32} {nh nx ns nf ny tp : Nat} {cm : Nat → Nat} {w : Nat → Nat → Nat} {cn : Nat → Nat} {wc : Nat → Nat → Nat} (h : RV io sg nh nx ns nf ny tp cm w cn wc) : RI1 sg ns nh := by
  obtain ⟨-, -, -, h4, -, -, -, -, h9, -, -⟩ := h
  refine ⟨fun h hh => (h4 h hh).2.1, fun s hs => ?_⟩
  obtain ⟨a1, a2, a3, a4, a5, a6, a7, a8, a9, a10⟩ := h9 s hs
  exact ⟨a2, a3, a4, a6, a7, a8⟩
