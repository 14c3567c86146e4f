/-! the reference's reading over lists -/
def WL (f : Nat → Int32) : List Nat → Prop
  | [] => True
  | w :: L => (f L.length = nI w ∧ w ≤ 1000003) ∧ WL f L
theorem WL_up {f : Nat → Int32} {i : Nat} {v : Int32} : ∀ {L : List Nat}, L.length ≤ i → WL f L → WL (upd f i v) L
  | [], _, _ => True.intro
  | w :: L, h, k => ⟨⟨(if_neg (by have : L.length + 1 ≤ i := h; omega)).trans k.1.1, k.1.2⟩, WL_up (Nat.le_trans (Nat.le_succ _) h) k.2⟩
theorem WL_tl {f : Nat → Int32} : ∀ {L : List Nat}, WL f L → WL f L.tail
  | [], _ => True.intro
  | _ :: _, h => h.2
def FrR (io : Nat → Int32) (sg : Nat → Nat → Int32) (io2 : Nat → Int32) (sg2 : Nat → Nat → Int32) : Prop := (∀ k, ¬ k = 24 → ¬ k = 26 → ¬ k = 39 → ¬ k = 40 → ¬ k = 47 → io2 k = io k) ∧ (∀ k, ¬ k = 37 → ¬ k = 38 → sg2 k = sg k)
theorem FrR_0 (io : Nat → Int32) (sg : Nat → Nat → Int32) : FrR io sg io sg := ⟨fun _ _ _ _ _ _ => rfl, fun _ _ _ => rfl⟩
theorem FrR_t {io io2 io3 : Nat → Int32} {sg sg2 sg3 : Nat → Nat → Int32} (h : FrR io sg io2 sg2) (k : FrR io2 sg2 io3 sg3) : FrR io sg io3 sg3 := ⟨fun j a b c d e => (k.1 j a b c d e).trans (h.1 j a b c d e), fun j a b => (k.2 j a b).trans (h.2 j a b)⟩
theorem FrR_io {io io2 : Nat → Int32} {sg sg2 : Nat → Nat → Int32} (h : FrR io sg io2 sg2) {k : Nat} (hk : k = 24 ∨ k = 26 ∨ k = 39 ∨ k = 40 ∨ k = 47) (v : Int32) : FrR io sg (va_up io2 k v) sg2 := ⟨fun j a b c d e => (if_neg (by omega)).trans (h.1 j a b c d e), h.2⟩
def QS (sz : Nat) (io0 : Nat → Int32) (sg0 : Nat → Nat → Int32) (io : Nat → Int32) (sg : Nat → Nat → Int32) (p : Nat) (W S : List Nat) : Prop := (io 24 = nI p ∧ io 25 = nI sz ∧ io 40 = nI W.length ∧ io 39 = nI S.length ∧ WL (sg 38) W ∧ WL (sg 37) S) ∧ FrR io0 sg0 io sg
section QQ
variable {sz : Nat} {io0 : Nat → Int32} {sg0 : Nat → Nat → Int32} {io : Nat → Int32} {sg : Nat → Nat → Int32} {p : Nat} {W S : List Nat}
theorem QS_at (h : QS sz io0 sg0 io sg p W S) (q : Nat) : QS sz io0 sg0 (va_up io 24 (nI q)) sg q W S := ⟨⟨rfl, h.1.2⟩, FrR_io h.2 (Or.inl rfl) _⟩
theorem QS_w (h : QS sz io0 sg0 io sg p W S) (h2 : ¬ W = []) : QS sz io0 sg0 (va_up io 40 (nI (W.length - 1))) sg p W.tail S := ⟨⟨h.1.1, h.1.2.1, congrArg nI (by rw [List.length_tail]), h.1.2.2.2.1, WL_tl h.1.2.2.2.2.1, h.1.2.2.2.2.2⟩, FrR_io h.2 (by omega) _⟩
theorem chr_0 (h : QS sz io0 sg0 io sg p W S) (q : Nat) : chr sg sz q = chr sg0 sz q := by
  unfold chr
  rw [h.2.2 22 (by decide) (by decide)]
theorem w_sign {M : mH} (hM : 157 ≤ M.1) (h : QS sz io0 sg0 io sg p W S) (hp : p ≤ 80) (hsz : sz ≤ 80) : mm_Ev 1 201 [.ref 100] (rf_mk M io sg) (some (.int (nI (chr sg0 sz p))), rf_mk M io sg) := by
  rw [← chr_0 h]
  exact c_sign M hM io sg p sz h.1.1 h.1.2.1 hp hsz
theorem w_says {M : mH} (hM : 157 ≤ M.1) (h : QS sz io0 sg0 io sg p W S) (hn : S.length < 80) {w : Nat} (hw : w ≤ 1000003) : ∃ io2 sg2, QS sz io0 sg0 io2 sg2 p W (w :: S) ∧ mm_Ev 1 208 [.ref 100, .int (nI w)] (rf_mk M io sg) (none, rf_mk M io2 sg2) := by
  refine ⟨_, _, ?_, c_says M hM io sg S.length h.1.2.2.2.1 hn (nI w)⟩
  refine ⟨⟨h.1.1, h.1.2.1, h.1.2.2.1, rfl, h.1.2.2.2.2.1, ⟨⟨if_pos rfl, hw⟩, WL_up (Nat.le_refl _) h.1.2.2.2.2.2⟩⟩, ?_⟩
  exact ⟨fun j a b c d e => (if_neg c).trans (h.2.1 j a b c d e), fun j a b => (if_neg a).trans (h.2.2 j a b)⟩
theorem w_holds {M : mH} (hM : 157 ≤ M.1) (h : QS sz io0 sg0 io sg p W S) (hn : W.length < 80) {w : Nat} (hw : w ≤ 1000003) : ∃ io2 sg2, QS sz io0 sg0 io2 sg2 p (w :: W) S ∧ mm_Ev 1 204 [.ref 100, .int (nI w)] (rf_mk M io sg) (none, rf_mk M io2 sg2) := by
  refine ⟨_, _, ?_, c_holds M hM io sg W.length h.1.2.2.1 hn (nI w)⟩
  refine ⟨⟨h.1.1, h.1.2.1, rfl, h.1.2.2.2.1, ⟨⟨if_pos rfl, hw⟩, WL_up (Nat.le_refl _) h.1.2.2.2.2.1⟩, h.1.2.2.2.2.2⟩, ?_⟩
  exact ⟨fun j a b c d e => (if_neg d).trans (h.2.1 j a b c d e), fun j a b => (if_neg b).trans (h.2.2 j a b)⟩
theorem w_num {M : mH} (hM : 157 ≤ M.1) (h : QS sz io0 sg0 io sg p W S) (hp : p ≤ 70) (hsz : sz ≤ 80) {lo hi : Nat} (hlo : lo ≤ 99999) (hhi : hi ≤ 99999) : (∃ io2 v e, rn (chr sg0 sz) p lo hi = .ok (v, e) ∧ QS sz io0 sg0 io2 sg e W S ∧ io2 47 = nI v ∧ mm_Ev 3 206 [.ref 100, .int (nI lo), .int (nI hi)] (rf_mk M io sg) (some (.int (nI 1)), rf_mk M io2 sg)) ∨ (∃ io2 f, rn (chr sg0 sz) p lo hi = .error f ∧ io2 26 = -nI f ∧ FrR io0 sg0 io2 sg ∧ mm_Ev 3 206 [.ref 100, .int (nI lo), .int (nI hi)] (rf_mk M io sg) (some (.int (nI 0)), rf_mk M io2 sg)) := by
  obtain ⟨io2, r, ⟨h1, h2⟩, h3⟩ := c_readsNumber M hM io sg p sz h.1.1 h.1.2.1 hp hsz lo hi hlo hhi
  have hF : FrR io0 sg0 io2 sg := ⟨fun j a b c d e => (h1 j a b e).trans (h.2.1 j a b c d e), h.2.2⟩
  have hc : chr sg sz = chr sg0 sz := funext (chr_0 h)
  rw [hc] at h2
  rcases h2 with ⟨v, e, g1, g2, g3, g4, g5⟩ | ⟨f, g1, g2, g3⟩
  · subst g2
    refine Or.inl ⟨io2, v, e, g1, ⟨⟨g3, ?_, ?_, ?_, h.1.2.2.2.2⟩, hF⟩, g4, h3⟩
    · exact (h1 25 (by decide) (by decide) (by decide)).trans h.1.2.1
    · exact (h1 40 (by decide) (by decide) (by decide)).trans h.1.2.2.1
    · exact (h1 39 (by decide) (by decide) (by decide)).trans h.1.2.2.2.1
  · subst g2
    exact Or.inr ⟨io2, f, g1, g3, hF, h3⟩
end QQ
/-- closes, over lists -/
def flw (W : List Nat) : Nat → Nat := fun i => W.getD (W.length - 1 - i) 0
theorem fl_c (w : Nat) (V : List Nat) {i : Nat} (h : i < V.length) : flw (w :: V) i = flw V i := by
  unfold flw
  rw [show (w :: V).length - 1 - i = (V.length - 1 - i) + 1 by show V.length + 1 - 1 - i = _; omega]
  rfl
theorem fl_t (w : Nat) (V : List Nat) : flw (w :: V) V.length = w := by
  unfold flw
  rw [show (w :: V).length - 1 - V.length = 0 by show V.length + 1 - 1 - V.length = 0; omega]
  rfl
theorem clk_c {k : Nat} {f g : Nat → Nat} : ∀ {n : Nat}, (∀ i, i < n → f i = g i) → clk k f n = clk k g n
  | 0, _ => rfl
  | n + 1, h => by
    have h1 := h n (Nat.lt_succ_self n)
    have h2 := clk_c (k := k) (n := n) (fun i hi => h i (by omega))
    by_cases z : clC k f n
    · rw [clk_y z, clk_y (show clC k g n by unfold clC at z ⊢; rwa [← h1]), h2]
    · rw [clk_n z, clk_n (show ¬ clC k g n by unfold clC at z ⊢; rwa [← h1])]
theorem pps_c (w : Nat) (V : List Nat) (f : Nat → Int32) (sn : Nat) : ∀ m, m ≤ V.length → pps f sn (flw (w :: V)) (V.length + 1) (m + 1) = pps (upd f sn (nI w)) (sn + 1) (flw V) V.length m
  | 0, _ => by
    show upd f (sn + 0) (nI (flw (w :: V) (V.length + 1 - 0 - 1))) = upd f sn (nI w)
    rw [show V.length + 1 - 0 - 1 = V.length by omega, fl_t, Nat.add_zero]
  | m + 1, h => by
    show upd (pps f sn (flw (w :: V)) (V.length + 1) (m + 1)) (sn + (m + 1)) (nI (flw (w :: V) (V.length + 1 - (m + 1) - 1))) = upd (pps (upd f sn (nI w)) (sn + 1) (flw V) V.length m) (sn + 1 + m) (nI (flw V (V.length - m - 1)))
    rw [pps_c w V f sn m (by omega), show V.length + 1 - (m + 1) - 1 = V.length - m - 1 by omega, fl_c w V (by omega), show sn + (m + 1) = sn + 1 + m by omega]
theorem WL_ix {f : Nat → Int32} : ∀ {W : List Nat}, WL f W → ∀ i, i < W.length → f i = nI (flw W i) ∧ flw W i ≤ 1000003
  | [], _, i, h => absurd h (Nat.not_lt_zero i)
  | w :: V, h, i, hi => by
    by_cases z : i = V.length
    · subst z
      rw [fl_t]
      exact h.1
    · have hi2 : i < V.length + 1 := hi
      rw [fl_c w V (by omega)]
      exact WL_ix h.2 i (by omega)
theorem cl_w (k : Nat) : ∀ (W S : List Nat) (f g : Nat → Int32), WL f S → WL g W → (cl k W S).1.length = W.length - clk k (flw W) W.length ∧ (cl k W S).2.length = S.length + clk k (flw W) W.length ∧ WL g (cl k W S).1 ∧ WL (pps f S.length (flw W) W.length (clk k (flw W) W.length)) (cl k W S).2
  | [], S, f, g, hS, hW => ⟨rfl, rfl, hW, hS⟩
  | w :: V, S, f, g, hS, hW => by
    have e0 : clk k (flw (w :: V)) V.length = clk k (flw V) V.length := clk_c (fun i hi => fl_c w V hi)
    have hc : clC k (flw (w :: V)) V.length ↔ (¬ w = 1000003 ∧ k ≤ bnd w) := by unfold clC; rw [fl_t]
    show (cl k (w :: V) S).1.length = V.length + 1 - clk k (flw (w :: V)) (V.length + 1) ∧ (cl k (w :: V) S).2.length = S.length + clk k (flw (w :: V)) (V.length + 1) ∧ WL g (cl k (w :: V) S).1 ∧ WL (pps f S.length (flw (w :: V)) (V.length + 1) (clk k (flw (w :: V)) (V.length + 1))) (cl k (w :: V) S).2
    by_cases z : ¬ w = 1000003 ∧ k ≤ bnd w
    · rw [show cl k (w :: V) S = cl k V (w :: S) from if_pos z, clk_y (hc.mpr z), e0, pps_c w V f S.length _ (clk_le k (flw V) V.length)]
      obtain ⟨h1, h2, h3, h4⟩ := cl_w k V (w :: S) (upd f S.length (nI w)) g ⟨⟨if_pos rfl, hW.1.2⟩, WL_up (Nat.le_refl _) hS⟩ hW.2
      have := clk_le k (flw V) V.length
      refine ⟨by omega, ?_, h3, h4⟩
      rw [h2]
      show S.length + 1 + _ = _
      omega
    · rw [show cl k (w :: V) S = (w :: V, S) from if_neg z, clk_n (fun y => z (hc.mp y))]
      exact ⟨rfl, rfl, hW, hS⟩
theorem w_closes {sz : Nat} {io0 : Nat → Int32} {sg0 : Nat → Nat → Int32} {io : Nat → Int32} {sg : Nat → Nat → Int32} {p : Nat} {W S : List Nat} {M : mH} (hM : 157 ≤ M.1) (h : QS sz io0 sg0 io sg p W S) {k : Nat} (hk : k ≤ 3) (hn : W.length + S.length ≤ 80) : ∃ io2 sg2, QS sz io0 sg0 io2 sg2 p (cl k W S).1 (cl k W S).2 ∧ mm_Ev 2 209 [.ref 100, .int (nI k)] (rf_mk M io sg) (none, rf_mk M io2 sg2) := by
  obtain ⟨h1, h2, h3, h4⟩ := cl_w k W S (sg 37) (sg 38) h.1.2.2.2.2.2 h.1.2.2.2.2.1
  have hle := clk_le k (flw W) W.length
  refine ⟨_, _, ?_, c_closes M hM io sg k W.length S.length (flw W) hk h.1.2.2.1 h.1.2.2.2.1 (by omega) (by omega) (WL_ix h.1.2.2.2.2.1)⟩
  refine ⟨⟨h.1.1, h.1.2.1, ?_, ?_, h3, h4⟩, ?_⟩
  · rw [h1]
    rfl
  · rw [h2]
    rfl
  · exact ⟨fun j a b c d e => (if_neg c).trans ((if_neg d).trans (h.2.1 j a b c d e)), fun j a b => (if_neg a).trans (h.2.2 j a b)⟩
/-- how many brackets wait -/
def cO : List Nat → Nat
  | [] => 0
  | w :: W => if w = 1000003 then cO W + 1 else cO W
theorem cO_cl (k : Nat) : ∀ (W S : List Nat), cO (cl k W S).1 = cO W
  | [], _ => rfl
  | w :: W, S => by
    by_cases z : ¬ w = 1000003 ∧ k ≤ bnd w
    · rw [show cl k (w :: W) S = cl k W (w :: S) from if_pos z, cO_cl k W]
      exact (if_neg z.1).symm
    · rw [show cl k (w :: W) S = (w :: W, S) from if_neg z]
theorem cl_len (k : Nat) : ∀ (W S : List Nat), (cl k W S).1.length + (cl k W S).2.length = W.length + S.length
  | [], _ => rfl
  | w :: W, S => by
    by_cases z : ¬ w = 1000003 ∧ k ≤ bnd w
    · rw [show cl k (w :: W) S = cl k W (w :: S) from if_pos z, cl_len k W]
      show W.length + (S.length + 1) = W.length + 1 + S.length
      omega
    · rw [show cl k (w :: W) S = (w :: W, S) from if_neg z]
theorem bnd_1 (w : Nat) : 1 ≤ bnd w := by
  unfold bnd
  split
  · decide
  · split <;> decide
theorem cl_1 : ∀ (W S : List Nat), 0 < cO W → ∃ V, (cl 1 W S).1 = 1000003 :: V ∧ cO V + 1 = cO W
  | [], _, h => absurd h (Nat.lt_irrefl 0)
  | w :: W, S, h => by
    by_cases z : w = 1000003
    · subst z
      exact ⟨W, congrArg Prod.fst (if_neg (fun y => y.1 rfl)), (if_pos rfl).symm⟩
    · rw [show cl 1 (w :: W) S = cl 1 W (w :: S) from if_pos ⟨z, bnd_1 w⟩]
      rw [show cO (w :: W) = cO W from if_neg z] at h ⊢
      exact cl_1 W (w :: S) h
def PE (sz : Nat) (io0 : Nat → Int32) (sg0 : Nat → Nat → Int32) (r : Except Nat (Nat × List Nat)) (io2 : Nat → Int32) (sg2 : Nat → Nat → Int32) (v : Int32) : Prop := (∃ p2 S2 W2, r = .ok (p2, S2) ∧ v = nI 1 ∧ QS sz io0 sg0 io2 sg2 p2 W2 S2) ∨ (∃ f, r = .error f ∧ v = nI 0 ∧ io2 26 = -nI f ∧ FrR io0 sg0 io2 sg2)
theorem cm_e {x y v k K : Nat} (h1 : x < 256) (h : ¬ lof x = -1) (h2 : sgo y = nI k) (hk : k < 3) (hK : K = 10000 * k) : nI 100000 * lof x + nI K + nI v = nI (cmc x y v) := by
  rcases lo_3 x h1 with z | ⟨l, hl, z⟩
  · exact absurd z h
  · unfold cmc
    rw [z, h2, tN_nI (by omega), tN_nI (by omega), pk_mul, nI_add, nI_add, hK]
theorem cm_le {x y v : Nat} (h1 : x < 256) (hv : v ≤ 9999) : cmc x y v ≤ 1000003 := by
  have a : tN (lof x) ≤ 3 := by
    rcases lo_3 x h1 with z | ⟨l, hl, z⟩
    · rw [z]
      decide
    · rw [z, tN_nI (by omega)]
      omega
  have b : tN (sgo y) ≤ 2 := by
    rcases sg_2 y with z | ⟨l, hl, z⟩
    · rw [z]
      decide
    · rw [z, tN_nI (by omega)]
      omega
  unfold cmc
  omega
theorem dgk_in {c : Nat → Nat} : ∀ (N p j : Nat), j < dgk c p N → dg9 (c (p + j))
  | 0, p, j, h => absurd h (Nat.not_lt_zero j)
  | N + 1, p, j, h => by
    by_cases z : dg9 (c p)
    · rw [show dgk c p (N + 1) = dgk c (p + 1) N + 1 from if_pos z] at h
      cases j with
      | zero => exact z
      | succ j =>
        have := dgk_in (c := c) N (p + 1) j (by omega)
        rwa [show p + (j + 1) = p + 1 + j by omega]
    · rw [show dgk c p (N + 1) = 0 from if_neg z] at h
      exact absurd h (Nat.not_lt_zero j)
theorem rn_le {c : Nat → Nat} {sz : Nat} (hz : ∀ p, sz ≤ p → c p = 0) {p lo hi v e : Nat} (h : rn c p lo hi = .ok (v, e)) : v ≤ hi ∧ lo ≤ v ∧ p < e ∧ e ≤ sz := by
  unfold rn at h
  by_cases z : dgk c p 5 = 0
  · rw [if_pos z] at h
    exact nomatch h
  · rw [if_neg z] at h
    by_cases y : dgk c p 5 = 5
    · rw [if_pos y] at h
      exact nomatch h
    · rw [if_neg y] at h
      by_cases x : lo ≤ vnk c p (dgk c p 5) ∧ vnk c p (dgk c p 5) ≤ hi
      · rw [if_pos x] at h
        injection h with h
        injection h with h1 h2
        subst h1
        subst h2
        have := dgk_in (c := c) 5 p (dgk c p 5 - 1) (by omega)
        refine ⟨x.2, x.1, by omega, Nat.le_of_not_lt (fun q => ?_)⟩
        have h0 := hz (p + (dgk c p 5 - 1)) (by omega)
        rw [h0] at this
        exact absurd this.1 (by decide)
      · rw [if_neg x] at h
        exact nomatch h
theorem chr_z (sg : Nat → Nat → Int32) (sz : Nat) : ∀ p, sz ≤ p → chr sg sz p = 0 := fun p h => if_neg (by omega)
