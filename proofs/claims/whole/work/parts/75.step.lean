/-! ONE CALL OF THE LAW: what both sides answer, and what holds after it -/
theorem rf_rf (M : mH) (io io2 : Nat → Int32) (sg sg2 : Nat → Nat → Int32) : rf_mk (rf_mk M io sg) io2 sg2 = rf_mk M io2 sg2 := by
  unfold rf_mk
  refine congrArg (fun z => (M.1, M.2.1, z)) (funext fun a => ?_)
  by_cases h : 100 ≤ a ∧ a < 157
  · rw [if_pos h, if_pos h]
  · rw [if_neg h, if_neg h]
    exact if_neg h
theorem rf_hi (M : mH) (io : Nat → Int32) (sg : Nat → Nat → Int32) {a : Nat} (h : 157 ≤ a) : (rf_mk M io sg).2.2 a = M.2.2 a := if_neg (by omega)
theorem CV_rf {M M2 : mH} {T : Nat → mT} {cs sg : Nat → Nat → Int32} {io : Nat → Int32} {e : Nat → Nat} {D : Nat → Nat → Nat} {nh nx ns nf ny tp : Nat} {cm : Nat → Nat} {w : Nat → Nat → Nat} {cn : Nat → Nat} {wc : Nat → Nat → Nat} (hV : CV M T cs io sg e D nh nx ns nf ny tp cm w cn wc) (h1 : M2.1 = M.1) (h2 : M2.2.2 1000001 = M.2.2 1000001) : CV M2 T cs io sg e D nh nx ns nf ny tp cm w cn wc := by
  obtain ⟨a, b, f⟩ := M
  obtain ⟨a2, b2, f2⟩ := M2
  have : a2 = a := h1
  subst this
  exact ⟨⟨hV.1.1, hV.1.2.1, h2.trans hV.1.2.2⟩, hV.2⟩
def IV (L : Nat) (xs : Nat → Int32) (M : mH) (T : Nat → mT) (cs : Nat → Nat → Int32) (io : Nat → Int32) (sg : Nat → Nat → Int32) : Prop := (∃ e D nh nx ns nf ny tp cm w cn wc, CV M T cs io sg e D nh nx ns nf ny tp cm w cn wc ∧ (e 3 = 11 ∨ e 3 = 13)) ∧ ∀ j, j < 10 → M.2.2 (1000000 + j) = mm_hs L xs j
def StpA (kc kr : Nat) (as : List Value) : Prop := ∀ L xs M T cs io sg, IV L xs M T cs io sg → M.1 ≤ 800000 → ∃ v M2 T2 cs2 io2 sg2, mm_Ev 40 kc (.ref 0 :: as) (hk (rf_mk M io sg) T cs) (some v, hk (rf_mk M2 io sg) T2 cs2) ∧ mm_Ev 40 kr (.ref 100 :: as) (hk (rf_mk M2 io sg) T2 cs2) (some v, hk (rf_mk M2 io2 sg2) T2 cs2) ∧ IV L xs M2 T2 cs2 io2 sg2 ∧ M2.1 ≤ M.1 + 20 ∧ M2.2.1 ≤ M.2.1 + 1000
/-- the same of a call that makes no cell -/
def StpN (kc kr : Nat) (as : List Value) : Prop := ∀ (M : mH) (T : Nat → mT) (cs sg : Nat → Nat → Int32) (io : Nat → Int32) (e : Nat → Nat) (D : Nat → Nat → Nat) (nh nx ns nf ny tp : Nat) (cm : Nat → Nat) (w : Nat → Nat → Nat) (cn : Nat → Nat) (wc : Nat → Nat → Nat), CV M T cs io sg e D nh nx ns nf ny tp cm w cn wc → ∃ (v : Value) (cs2 : Nat → Nat → Int32) (io2 : Nat → Int32) (sg2 : Nat → Nat → Int32) (nf2 ny2 tp2 : Nat), (mm_Ev 8 kr (.ref 100 :: as) (rf_mk (hk M T cs2) io sg) (some v, rf_mk (hk M T cs2) io2 sg2) ∧ CV M T cs2 io2 sg2 e D nh nx ns nf2 ny2 tp2 cm w cn wc) ∧ mm_Ev 20 kc (.ref 0 :: as) (hk M T cs) (some v, hk M T cs2)
theorem Stp_N {kc kr : Nat} {as : List Value} (h : StpN kc kr as) : StpA kc kr as := by
  intro L xs M T cs io sg hI _
  obtain ⟨⟨e, D, nh, nx, ns, nf, ny, tp, cm, w, cn, wc, hV, h3⟩, hs⟩ := hI
  obtain ⟨v, cs2, io2, sg2, nf2, ny2, tp2, ⟨hr, hV2⟩, hc⟩ := h (rf_mk M io sg) T cs sg io e D nh nx ns nf ny tp cm w cn wc (CV_rf hV rfl (rf_hi M io sg (by decide)))
  refine ⟨v, M, T, cs2, io2, sg2, mm_Ev_up (by decide) hc, ?_, ⟨⟨e, D, nh, nx, ns, nf2, ny2, tp2, cm, w, cn, wc, CV_rf hV2 rfl (rf_hi M io sg (by decide)).symm, h3⟩, hs⟩, by omega, by omega⟩
  rw [hk_rf, hk_rf, rf_rf, rf_rf] at hr
  exact mm_Ev_up (by decide) hr
/-- numbers out of their guards -/
theorem g_nat {v : Int32} {b : Nat} (h : nI 0 ≤ v ∧ v ≤ nI b) (hb : b < 2 ^ 31) : ∃ n, n ≤ b ∧ v = nI n := by
  have h0 : (0 : Int) ≤ v.toInt := Int32.le_iff_toInt_le.mp h.1
  have h1 : v.toInt ≤ (b : Int) := by
    have := Int32.le_iff_toInt_le.mp h.2
    rwa [nI_toInt hb] at this
  refine ⟨v.toInt.toNat, by omega, Int32.toInt_inj.mp ?_⟩
  rw [nI_toInt (by omega)]
  omega
theorem g_lt {v : Int32} {b : Nat} (h : 0 ≤ v ∧ v < nI b) (hb : b < 2 ^ 31) : ∃ n, n < b ∧ v = nI n := by
  have h0 : (0 : Int) ≤ v.toInt := Int32.le_iff_toInt_le.mp h.1
  have h1 : v.toInt < (b : Int) := by
    have := Int32.lt_iff_toInt_lt.mp h.2
    rwa [nI_toInt hb] at this
  refine ⟨v.toInt.toNat, by omega, Int32.toInt_inj.mp ?_⟩
  rw [nI_toInt (by omega)]
  omega
theorem g_day {v : Int32} : (0 ≤ v ∧ v < nI 360) ↔ (nI 0 ≤ v ∧ v ≤ nI 359) := by
  have a := @Int32.lt_iff_toInt_lt v (nI 360)
  have b := @Int32.le_iff_toInt_le v (nI 359)
  have c : (nI 360).toInt = 360 := by decide
  have d : (nI 359).toInt = 359 := by decide
  rw [c] at a
  rw [d] at b
  exact ⟨fun h => ⟨h.1, b.mpr (by have := a.mp h.2; omega)⟩, fun h => ⟨h.1, a.mpr (by have := b.mp h.2; omega)⟩⟩
/-- what does not reach a part leaves it as it was -/
theorem ScR_g {M : mH} {T : Nat → mT} {cs cs2 sg sg2 : Nat → Nat → Int32} {D : Nat → Nat → Nat} {h cm : Nat} (hs : ScR M T cs sg D h cm) (h0 : cs2 (D 0 h) = cs (D 0 h)) (h1 : cs2 (D 1 h) = cs (D 1 h)) (h3 : ∀ c, c < cm → cs2 (D 3 (6 * h + c)) = cs (D 3 (6 * h + c))) (g : ∀ k, 9 ≤ k → k ≤ 21 → sg2 k = sg k) : ScR M T cs2 sg2 D h cm := by
  have := ScR_f hs h0 h1 h3
  unfold ScR CoR at this ⊢
  rw [g 9 (by decide) (by decide), g 10 (by decide) (by decide), g 11 (by decide) (by decide), g 13 (by decide) (by decide), g 14 (by decide) (by decide), g 15 (by decide) (by decide), g 17 (by decide) (by decide), g 18 (by decide) (by decide), g 19 (by decide) (by decide), g 20 (by decide) (by decide), g 21 (by decide) (by decide)]
  exact this
theorem AgR_g {M : mH} {T : Nat → mT} {cs cs2 sg sg2 : Nat → Nat → Int32} {D : Nat → Nat → Nat} {x cn : Nat} {wc : Nat → Nat} (h : AgR M T cs sg D x cn wc) (h4 : cs2 (D 4 x) = cs (D 4 x)) (h5 : cs2 (D 5 x) = cs (D 5 x)) (g : ∀ k, 27 ≤ k → k ≤ 34 → sg2 k = sg k) : AgR M T cs2 sg2 D x cn wc := by
  have := AgR_cs h h4 h5
  unfold AgR at this ⊢
  rw [g 27 (by decide) (by decide), g 28 (by decide) (by decide), g 29 (by decide) (by decide), g 30 (by decide) (by decide), g 31 (by decide) (by decide), g 32 (by decide) (by decide), g 33 (by decide) (by decide), g 34 (by decide) (by decide)]
  exact this
theorem StR_g {M : mH} {T : Nat → mT} {cs cs2 sg sg2 : Nat → Nat → Int32} {D : Nat → Nat → Nat} {s wm : Nat} (hs : StR M T cs sg D s wm) (h7 : cs2 (D 7 s) = cs (D 7 s)) (h8 : cs2 (D 8 s) = cs (D 8 s)) (h9 : cs2 (D 9 s) = cs (D 9 s)) (g : ∀ k, 51 ≤ k → k ≤ 61 → sg2 k = sg k) : StR M T cs2 sg2 D s wm := by
  have := StR_f hs h7 h8 h9
  unfold StR at this ⊢
  rw [g 51 (by decide) (by decide), g 52 (by decide) (by decide), g 53 (by decide) (by decide), g 54 (by decide) (by decide), g 55 (by decide) (by decide), g 56 (by decide) (by decide), g 57 (by decide) (by decide), g 58 (by decide) (by decide), g 60 (by decide) (by decide), g 61 (by decide) (by decide)]
  exact this
theorem RVs_g {sg sg2 : Nat → Nat → Int32} {h : Nat} (r : RVs sg h) (g : ∀ k, 9 ≤ k → k ≤ 21 → sg2 k = sg k) : RVs sg2 h := by
  unfold RVs at r ⊢
  rw [g 9 (by decide) (by decide), g 10 (by decide) (by decide), g 11 (by decide) (by decide), g 13 (by decide) (by decide), g 14 (by decide) (by decide), g 15 (by decide) (by decide), g 16 (by decide) (by decide)]
  exact r
theorem RVx_g {sg sg2 : Nat → Nat → Int32} {nh cm cn : Nat} {w wc : Nat → Nat} {x : Nat} (r : RVx sg nh cm cn w wc x) (g : ∀ k, 27 ≤ k → k ≤ 36 → sg2 k = sg k) : RVx sg2 nh cm cn w wc x := by
  unfold RVx at r ⊢
  rw [g 27 (by decide) (by decide), g 28 (by decide) (by decide), g 29 (by decide) (by decide), g 30 (by decide) (by decide), g 31 (by decide) (by decide), g 32 (by decide) (by decide), g 33 (by decide) (by decide)]
  exact r
theorem RVt_g {sg sg2 : Nat → Nat → Int32} {nh nx s : Nat} (r : RVt sg nh nx s) (g : ∀ k, 27 ≤ k → k ≤ 61 → ¬ (37 ≤ k ∧ k ≤ 50) → sg2 k = sg k) : RVt sg2 nh nx s := by
  unfold RVt at r ⊢
  rw [g 51 (by decide) (by decide) (by decide), g 52 (by decide) (by decide) (by decide), g 53 (by decide) (by decide) (by decide), g 54 (by decide) (by decide) (by decide), g 55 (by decide) (by decide) (by decide), g 56 (by decide) (by decide) (by decide), g 57 (by decide) (by decide) (by decide), g 58 (by decide) (by decide) (by decide), g 59 (by decide) (by decide) (by decide), g 60 (by decide) (by decide) (by decide), g 61 (by decide) (by decide) (by decide), g 27 (by decide) (by decide) (by decide), g 28 (by decide) (by decide) (by decide)]
  exact r
/-- the cells of D as they were, the reference's rows but some as they were -/
theorem CI_sg {M : mH} {T : Nat → mT} {cs cs2 sg sg2 : Nat → Nat → Int32} {e : Nat → Nat} {D : Nat → Nat → Nat} {nh nx ns : Nat} {cn : Nat → Nat} {wc : Nat → Nat → Nat} (h : CI M T cs sg e D nh nx ns cn wc) (hJ : DJ M sg e D nh nx ns) (hf : ∀ a, a = 25 ∨ a = 26 ∨ a = 27 ∨ 157 ≤ a → cs2 a = cs a) (g : ∀ k, 9 ≤ k → k ≤ 61 → ¬ (22 ≤ k ∧ k ≤ 26 ∨ 37 ≤ k ∧ k ≤ 50) → sg2 k = sg k) : CI M T cs2 sg2 e D nh nx ns cn wc := by
  obtain ⟨h1, ⟨h2, h3, h4⟩, h5, h6, h7⟩ := h
  have f : ∀ k i, dvl sg nh nx ns k i → cs2 (D k i) = cs (D k i) := fun k i hv => hf _ (Or.inr (Or.inr (Or.inr (DJ_lo hJ hv))))
  refine ⟨h1, ⟨LsR_f h2 (hf 25 (by omega)), LsR_f h3 (hf 26 (by omega)), LsR_f h4 (hf 27 (by omega))⟩, fun h hh => ?_, fun x hx => ?_, fun s hs => ?_⟩
  · rw [g 16 (by decide) (by decide) (by decide)]
    exact ScR_g (h5 h hh) (f _ _ (dvl_0 hh)) (f _ _ (dvl_1 hh)) (fun c hc => f _ _ (dvl_3 hh hc)) (fun k h1 h2 => g k h1 (by omega) (by omega))
  · exact AgR_g (h6 x hx) (f _ _ (dvl_x (by decide) (by decide) hx)) (f _ _ (dvl_x (by decide) (by decide) hx)) (fun k h1 h2 => g k (by omega) (by omega) (by omega))
  · rw [g 59 (by decide) (by decide) (by decide)]
    exact StR_g (h7 s hs) (f _ _ (dvl_s (by decide) (by decide) hs)) (f _ _ (dvl_s (by decide) (by decide) hs)) (f _ _ (dvl_s (by decide) (by decide) hs)) (fun k h1 h2 => g k (by omega) (by omega) (by omega))
theorem DJ_g {M : mH} {sg sg2 : Nat → Nat → Int32} {e : Nat → Nat} {D : Nat → Nat → Nat} {nh nx ns : Nat} (h : DJ M sg e D nh nx ns) (g : sg2 16 = sg 16) : DJ M sg2 e D nh nx ns := by
  unfold DJ dvl at h ⊢
  rw [g]
  exact h
/-- rows and ints of the calls' own scratch do not matter -/
theorem CV_sc {M : mH} {T : Nat → mT} {cs cs2 sg sg2 : Nat → Nat → Int32} {io io2 : Nat → Int32} {e : Nat → Nat} {D : Nat → Nat → Nat} {nh nx ns nf ny tp : Nat} {cm : Nat → Nat} {w : Nat → Nat → Nat} {cn : Nat → Nat} {wc : Nat → Nat → Nat} (hV : CV M T cs io sg e D nh nx ns nf ny tp cm w cn wc) (hf : FrC D nx cs cs2) (g : ∀ k, ¬ (37 ≤ k ∧ k ≤ 50) → ¬ (62 ≤ k ∧ k ≤ 77) → sg2 k = sg k) (gi : ∀ k, k = 3 ∨ k = 4 ∨ k = 5 ∨ k = 6 ∨ k = 7 ∨ k = 8 ∨ k = 23 → io2 k = io k) : CV M T cs2 io2 sg2 e D nh nx ns nf ny tp cm w cn wc := by
  obtain ⟨hM, hI, hT, hR, hJ⟩ := CV_f hV hf
  refine ⟨hM, CI_sg hI hJ (fun _ _ => rfl) (fun k h1 h2 h3 => g k (by omega) (by omega)), ?_, ?_, DJ_g hJ (g 16 (by decide) (by decide))⟩
  · unfold CT at hT ⊢
    rw [gi 6 (by decide), gi 8 (by decide), g 0 (by decide) (by decide), g 1 (by decide) (by decide), g 2 (by decide) (by decide), g 22 (by decide) (by decide), g 78 (by decide) (by decide), g 79 (by decide) (by decide), g 80 (by decide) (by decide), g 81 (by decide) (by decide)]
    exact hT
  · obtain ⟨r0, r1, r2, r3, r4, r5, r6, r7, r8, r9, r10⟩ := hR
    refine ⟨?_, ?_, ?_, fun h hh => RVs_g (r3 h hh) (fun k h1 h2 => g k (by omega) (by omega)), ?_, ?_, fun x hx => RVx_g (r6 x hx) (fun k h1 h2 => g k (by omega) (by omega)), ?_, fun s hs => RVt_g (r8 s hs) (fun k h1 h2 h3 => g k (by omega) (by omega)), ?_, ?_⟩
    · rw [gi 3 (by decide), gi 4 (by decide), gi 5 (by decide), gi 6 (by decide), gi 7 (by decide), gi 23 (by decide)]
      exact r0
    · rw [g 0 (by decide) (by decide), g 1 (by decide) (by decide)]
      exact r1
    · rw [g 2 (by decide) (by decide)]
      exact r2
    · rw [g 16 (by decide) (by decide)]
      exact r4
    · rw [g 16 (by decide) (by decide), g 21 (by decide) (by decide)]
      exact r5
    · unfold CDok at r7 ⊢
      rw [g 35 (by decide) (by decide), g 36 (by decide) (by decide)]
      exact r7
    · rw [g 59 (by decide) (by decide)]
      exact r9
    · rw [g 80 (by decide) (by decide)]
      exact r10
theorem sW_o (sg q : Nat → Nat → Int32) {k : Nat} (h : scr k = false) : sW sg q k = sg k := by
  unfold sW
  rw [h]
  rfl
theorem scr_f {k : Nat} (h1 : ¬ (37 ≤ k ∧ k ≤ 50)) (h2 : ¬ (62 ≤ k ∧ k ≤ 77)) : scr k = false := by
  cases h : scr k with
  | false => rfl
  | true =>
    exfalso
    unfold scr at h
    simp [Nat.ble_eq] at h
    omega
theorem g_nat2 {v : Int32} {a b : Nat} (h : nI a ≤ v ∧ v ≤ nI b) (ha : a < 2 ^ 31) (hb : b < 2 ^ 31) : ∃ n, (a ≤ n ∧ n ≤ b) ∧ v = nI n := by
  have h0 : (a : Int) ≤ v.toInt := by
    have := Int32.le_iff_toInt_le.mp h.1
    rwa [nI_toInt ha] at this
  have h1 : v.toInt ≤ (b : Int) := by
    have := Int32.le_iff_toInt_le.mp h.2
    rwa [nI_toInt hb] at this
  refine ⟨v.toInt.toNat, by omega, Int32.toInt_inj.mp ?_⟩
  rw [nI_toInt (by omega)]
  omega
theorem up_o {α : Type} (f : Nat → α) {a k : Nat} (v : α) (h : ¬ k = a) : va_up f a v k = f k := if_neg h
theorem ud_o (f : Nat → Int32) {a k : Nat} (v : Int32) (h : ¬ k = a) : upd f a v k = f k := if_neg h
theorem ud_s (f : Nat → Int32) (a : Nat) (v : Int32) : upd f a v a = v := if_pos rfl
