/-! the reader, faultless, is the machine: factors, terms, expressions, brackets -/
def flp : Nat → Int32
  | 0 => nI 0
  | j + 1 => if flp j = 0 then nI 1 else nI 0
theorem flp_2 (j : Nat) : flp (j + 2) = flp j := by
  have : ∀ j, flp j = nI 0 ∨ flp j = nI 1 := by
    intro j
    induction j with
    | zero => exact Or.inl rfl
    | succ j ih =>
      unfold flp
      split
      · exact Or.inr rfl
      · exact Or.inl rfl
  show (if (if flp j = 0 then nI 1 else nI 0) = 0 then nI 1 else nI 0) = flp j
  rcases this j with z | z <;> rw [z] <;> decide
theorem nlx_v {b : Nat → Int32} {sz : Nat} {c : Nat → Nat} (hb : BH b sz c) {o : Nat} (ho : 0 < o) {L : List Nat} : ∀ (k m : Nat) {s : rS} {p : Nat}, Sd s p L → p ≤ sz → sz ≤ p + k → ∃ j, (nlx b sz k s (flp m)).2 = flp (m + j) ∧ Sd (nlx b sz k s (flp m)).1 (p + j) L ∧ ¬ c (p + j) = 33 ∧ p + j ≤ sz ∧ ∀ W S, Rch c p o true W S (p + j) o true (List.replicate j 1000002 ++ W) S
  | 0, m, s, p, h, hp, hk => ⟨0, rfl, h, by have := hb.2.2.2 p (by omega); show ¬ c p = 33; omega, hp, fun W S => Rch_0⟩
  | k + 1, m, s, p, h, hp, hk => by
    have hsz := hb.1
    by_cases h3 : c p = 33
    · have hpk : pkx b sz s.1 = nI 33 := by rw [h.1]; exact (pk_is hb (by omega) (by decide) (by decide)).mpr h3
      have hlt := lt_sz hb (p := p) (by omega)
      obtain ⟨j, g1, g2, g3, g4, g5⟩ := nlx_v hb ho k (m + 1) (Sd_adv h) (by omega) (by omega)
      have e : nlx b sz (k + 1) s (flp m) = nlx b sz k (adv s) (flp (m + 1)) := (if_pos h.2.1).trans (if_pos hpk)
      rw [e]
      refine ⟨j + 1, by rw [g1, show m + 1 + j = m + (j + 1) by omega], by rw [show p + (j + 1) = p + 1 + j by omega]; exact g2, by rw [show p + (j + 1) = p + 1 + j by omega]; exact g3, by omega, fun W S => ?_⟩
      have r := g5 (1000002 :: W) S
      rw [rep_c, show p + 1 + j = p + (j + 1) by omega] at r
      exact Rch_t (m_not h3 ho) r
    · have hpk : ¬ pkx b sz s.1 = nI 33 := by rw [h.1]; exact fun z => h3 ((pk_is hb (by omega) (by decide) (by decide)).mp z)
      rw [nlx_n hpk]
      exact ⟨0, rfl, h, h3, hp, fun W S => Rch_0⟩
theorem seg_nots {X X2 : List Nat} (h : Seg X X2) : ∀ j, Seg (List.replicate j 1000002 ++ X) (if flp j = 0 then X2 else 1000002 :: X2)
  | 0 => h
  | 1 => seg_not h
  | j + 2 => by
    rw [flp_2]
    exact seg_not2 (seg_nots h j)
theorem ncl_rep (X : List Nat) : ∀ j, ncl (List.replicate j 1000002 ++ X) = ncl X
  | 0 => rfl
  | j + 1 => ncl_rep X j
/-- what a level of the reader does: l = 3 factor, 2 term, 1 expression -/
def Lv (b : Nat → Int32) (sz : Nat) (c : Nat → Nat) (l o : Nat) (F : rS → rS) : Prop := ∀ (s : rS) (p : Nat) (L : List Nat), Sd s p L → L.length ≤ p → p ≤ sz → (∃ p2 X X2, Sd (F s) p2 (X2 ++ L) ∧ Seg X X2 ∧ p + X.length + 2 * ncl X ≤ p2 ∧ p2 ≤ sz ∧ (l ≤ 2 → ¬ c p2 = 38) ∧ (l ≤ 1 → ¬ c p2 = 124) ∧ ∀ W S, clo l W → ∃ W2 S2, cl l W2 S2 = (W, X ++ S) ∧ Rch c p o true W S p2 o false W2 S2) ∨ (∃ f, 0 < f ∧ f < 1000 ∧ (F s).2.1 = -nI f ∧ ∀ W S, clo l W → Err c p o true W S (.error f))
/-- what a bracket does -/
def Bk (b : Nat → Int32) (sz : Nat) (c : Nat → Nat) (o : Nat) (B : rS → rS) : Prop := ∀ (s : rS) (p : Nat) (L : List Nat), Sd s p L → L.length ≤ p → p ≤ sz → c p = 40 → (∃ p2 X X2, Sd (B s) p2 (X2 ++ L) ∧ Seg X X2 ∧ p + X.length + 2 * ncl X + 2 ≤ p2 ∧ p2 ≤ sz ∧ (0 < o → ∀ W S, Rch c p o true W S p2 o false (cl 3 W (X ++ S)).1 (cl 3 W (X ++ S)).2) ∧ (o = 0 → ∀ S, Err c p o true [] S (.ok (p2, X ++ S)))) ∨ (∃ f, 0 < f ∧ f < 1000 ∧ (B s).2.1 = -nI f ∧ ∀ W S, Err c p o true W S (.error f))
theorem fcx_v {b : Nat → Int32} {sz : Nat} {c : Nat → Nat} (hb : BH b sz c) {o : Nat} (ho : 0 < o) {B : rS → rS} (hB : Bk b sz c o B) (hS : Sty B) : Lv b sz c 3 o (fcx b sz B) := by
  intro s p L h hL hp
  have hsz := hb.1
  obtain ⟨j, g1, g2, g3, g4, g5⟩ := nlx_v hb ho 60 0 h hp (by omega)
  rw [Nat.zero_add] at g1
  rw [show flp 0 = nI 0 from rfl] at g1 g2
  have hop : (∃ p2 X X2, Sd (if pkx b sz (nlx b sz 60 s (nI 0)).1.1 = nI 40 then B (nlx b sz 60 s (nI 0)).1 else cmx b sz (nlx b sz 60 s (nI 0)).1) p2 (X2 ++ L) ∧ Seg X X2 ∧ p + j + X.length + 2 * ncl X ≤ p2 ∧ p2 ≤ sz ∧ ∀ W S, Rch c (p + j) o true W S p2 o false (cl 3 W (X ++ S)).1 (cl 3 W (X ++ S)).2) ∨ (∃ f, 0 < f ∧ f < 1000 ∧ (if pkx b sz (nlx b sz 60 s (nI 0)).1.1 = nI 40 then B (nlx b sz 60 s (nI 0)).1 else cmx b sz (nlx b sz 60 s (nI 0)).1).2.1 = -nI f ∧ ∀ W S, Err c (p + j) o true W S (.error f)) := by
    by_cases h4 : c (p + j) = 40
    · rw [if_pos (by rw [g2.1]; exact (pk_is hb (by omega) (by decide) (by decide)).mpr h4)]
      rcases hB _ _ L g2 (by omega) g4 h4 with ⟨p2, X, X2, k1, k2, k3, k4, k5, k6⟩ | ⟨f, k1, k2, k3, k4⟩
      · exact Or.inl ⟨p2, X, X2, k1, k2, by omega, k4, k5 ho⟩
      · exact Or.inr ⟨f, k1, k2, k3, k4⟩
    · rw [if_neg (by rw [g2.1]; exact fun z => h4 ((pk_is hb (by omega) (by decide) (by decide)).mp z))]
      rcases cmx_v hb g2 (by omega) g4 ho h4 g3 with ⟨p2, w, k1, k2, k3, k4, k5, k6⟩ | ⟨f, k1, k2, k3, k4⟩
      · refine Or.inl ⟨p2, [w], [w], k1, k2, ?_, k5, k6⟩
        show p + j + 1 + 2 * (if w < 1000000 then 0 + 1 else 0) ≤ p2
        rw [if_pos k3]
        omega
      · exact Or.inr ⟨f, k1, k2, k3, k4⟩
  have hf : fcx b sz B s = if flp j = 0 then (if pkx b sz (nlx b sz 60 s (nI 0)).1.1 = nI 40 then B (nlx b sz 60 s (nI 0)).1 else cmx b sz (nlx b sz 60 s (nI 0)).1) else ptx (if pkx b sz (nlx b sz 60 s (nI 0)).1.1 = nI 40 then B (nlx b sz 60 s (nI 0)).1 else cmx b sz (nlx b sz 60 s (nI 0)).1) (-1) := by
    rw [← g1]
    rfl
  rw [hf]
  generalize (if pkx b sz (nlx b sz 60 s (nI 0)).1.1 = nI 40 then B (nlx b sz 60 s (nI 0)).1 else cmx b sz (nlx b sz 60 s (nI 0)).1) = t at hop
  rcases hop with ⟨p2, X, X2, k1, k2, k3, k4, k5⟩ | ⟨f, k1, k2, k3, k4⟩
  · have hX2 := k2.2.2.2.2
    refine Or.inl ⟨p2, List.replicate j 1000002 ++ X, (if flp j = 0 then X2 else 1000002 :: X2), ?_, seg_nots k2 j, ?_, k4, fun z => absurd z (by decide), fun z => absurd z (by decide), fun W S hW => ?_⟩
    · by_cases z : flp j = 0
      · rw [if_pos z, if_pos z]
        exact k1
      · rw [if_neg z, if_neg z]
        have hj : 0 < j := Nat.pos_of_ne_zero (fun y => z (by rw [y]; rfl))
        exact Sd_put k1 (by rw [List.length_append]; omega) 1000002
    · rw [ncl_rep, List.length_append, List.length_replicate]
      omega
    · refine ⟨W, List.replicate j 1000002 ++ X ++ S, hW _, ?_⟩
      have r := k5 (List.replicate j 1000002 ++ W) S
      rw [cl_nots hW, ← List.append_assoc] at r
      exact Rch_t (g5 W S) r
  · refine Or.inr ⟨f, k1, k2, ?_, fun W S _ => Rch_e (g5 W S) (k4 _ _)⟩
    split
    · exact k3
    · rw [ptx_k (by rw [k3]; exact neg_n0 k1 k2)]
      exact k3
/-- an operator of level l -/
def Op (l g w : Nat) (e : Int32) : Prop := (l = 2 ∧ g = 38 ∧ w = 1000000 ∧ e = -2) ∨ (l = 1 ∧ g = 124 ∧ w = 1000001 ∧ e = -3)
theorem op_st {c : Nat → Nat} {l g w : Nat} {e : Int32} (h : Op l g w e) {p o : Nat} {W S : List Nat} (hc : c p = g) : Rch c p o false W S (p + 1) o true (w :: (cl l W S).1) (cl l W S).2 := by
  rcases h with ⟨h1, h2, h3, _⟩ | ⟨h1, h2, h3, _⟩ <;> subst h1 <;> subst h2 <;> subst h3
  · exact m_and hc
  · exact m_or hc
theorem op_b {l g w : Nat} {e : Int32} (h : Op l g w e) : bnd w = l ∧ ¬ w = 1000003 ∧ enc w = e ∧ (w = 1000000 ∨ w = 1000001) ∧ 0 < g ∧ g < 256 ∧ ¬ w < 1000000 ∧ l ≤ 2 ∧ (l = 2 → g = 38) ∧ (l = 1 → g = 124) ∧ 1 ≤ l := by
  rcases h with ⟨h1, h2, h3, h4⟩ | ⟨h1, h2, h3, h4⟩ <;> subst h1 <;> subst h2 <;> subst h3 <;> subst h4
  · exact ⟨rfl, by decide, by decide, Or.inl rfl, by decide, by decide, by decide, by decide, fun _ => rfl, fun z => absurd z (by decide), by decide⟩
  · exact ⟨rfl, by decide, by decide, Or.inr rfl, by decide, by decide, by decide, by decide, fun z => absurd z (by decide), fun _ => rfl, by decide⟩
theorem lpx_v {b : Nat → Int32} {sz : Nat} {c : Nat → Nat} (hb : BH b sz c) {l g w o : Nat} {e : Int32} (hop : Op l g w e) {F : rS → rS} (hF : Lv b sz c (l + 1) o F) (hS : Sty F) {p0 : Nat} {L : List Nat} (hL0 : L.length ≤ p0) : ∀ (k : Nat) (s : rS) (p : Nat) (X X2 : List Nat), Sd s p (X2 ++ L) → Seg X X2 → p0 + X.length + 2 * ncl X ≤ p → p ≤ sz → (l + 1 ≤ 2 → ¬ c p = 38) → sz ≤ p + k → (∃ p2 Y Y2, Sd (lpx b sz (nI g) e F k s) p2 (Y2 ++ L) ∧ Seg Y Y2 ∧ p0 + Y.length + 2 * ncl Y ≤ p2 ∧ p2 ≤ sz ∧ (l ≤ 2 → ¬ c p2 = 38) ∧ (l ≤ 1 → ¬ c p2 = 124) ∧ ∀ W S, clo l W → ∀ W1 S1, cl l W1 S1 = (W, X ++ S) → ∃ W2 S2, cl l W2 S2 = (W, Y ++ S) ∧ Rch c p o false W1 S1 p2 o false W2 S2) ∨ (∃ f, 0 < f ∧ f < 1000 ∧ (lpx b sz (nI g) e F k s).2.1 = -nI f ∧ ∀ W S, clo l W → ∀ W1 S1, cl l W1 S1 = (W, X ++ S) → Err c p o false W1 S1 (.error f)) := by
  obtain ⟨o1, o2, o3, o4, o5, o6, o7, o8, o9, o10, o11⟩ := op_b hop
  have hsz := hb.1
  intro k
  induction k with
  | zero =>
    intro s p X X2 h1 h2 h3 h4 h5 h6
    have := hb.2.2.2 p (by omega)
    exact Or.inl ⟨p, X, X2, h1, h2, h3, h4, fun _ => by omega, fun _ => by omega, fun W S hW W1 S1 hc => ⟨W1, S1, hc, Rch_0⟩⟩
  | succ k ih =>
    intro s p X X2 h1 h2 h3 h4 h5 h6
    by_cases hg : c p = g
    · have hpk : pkx b sz s.1 = nI g := by rw [h1.1]; exact (pk_is hb (by omega) o5 o6).mpr hg
      have hlt := lt_sz hb (p := p) (by omega)
      have e1 : lpx b sz (nI g) e F (k + 1) s = lpx b sz (nI g) e F k (ptx (F (adv s)) e) := (if_pos h1.2.1).trans (if_pos hpk)
      have hX := h2.2.2.2.2
      rw [e1]
      rcases hF (adv s) (p + 1) (X2 ++ L) (Sd_adv h1) (by rw [List.length_append]; omega) (by omega) with ⟨p2, Y, Y2, k1, k2, k3, k4, k5, k6, k7⟩ | ⟨f, k1, k2, k3, k4⟩
      · have hY := k2.2.2.2.2
        have hn : ncl (w :: (Y ++ X)) = ncl Y + ncl X := by
          show (if w < 1000000 then _ else ncl (Y ++ X)) = _
          rw [if_neg o7, ncl_app]
        have hput : Sd (ptx (F (adv s)) e) p2 ((w :: (Y2 ++ X2)) ++ L) := by
          rw [← o3]
          have := Sd_put k1 (by rw [List.length_append, List.length_append]; omega) w
          rw [← List.append_assoc] at this
          exact this
        have hstep : ∀ W S, clo l W → ∀ W1 S1, cl l W1 S1 = (W, X ++ S) → ∃ W2 S2, cl l W2 S2 = (W, (w :: (Y ++ X)) ++ S) ∧ Rch c p o false W1 S1 p2 o false W2 S2 := by
          intro W S hW W1 S1 hc
          have r1 := op_st hop (o := o) (W := W1) (S := S1) hg
          rw [hc] at r1
          obtain ⟨W2, S2, q1, q2⟩ := k7 (w :: W) (X ++ S) (clo_op (by omega))
          refine ⟨W2, S2, ?_, Rch_t r1 q2⟩
          rw [← cl_cl (k := l + 1) (l := l) (by omega) W2 S2, q1]
          show cl l (w :: W) (Y ++ (X ++ S)) = _
          rw [cl_op (by omega) o2, hW, List.cons_append, List.append_assoc]
        rcases ih (ptx (F (adv s)) e) p2 (w :: (Y ++ X)) (w :: (Y2 ++ X2)) hput (seg_bin o4 h2 k2) (by rw [hn, List.length_cons, List.length_append]; omega) k4 (fun z => k5 z) (by omega) with ⟨p3, Z, Z2, m1, m2, m3, m4, m5, m6, m7⟩ | ⟨f, m1, m2, m3, m4⟩
        · refine Or.inl ⟨p3, Z, Z2, m1, m2, m3, m4, m5, m6, fun W S hW W1 S1 hc => ?_⟩
          obtain ⟨W2, S2, q1, q2⟩ := hstep W S hW W1 S1 hc
          obtain ⟨W3, S3, q3, q4⟩ := m7 W S hW W2 S2 q1
          exact ⟨W3, S3, q3, Rch_t q2 q4⟩
        · refine Or.inr ⟨f, m1, m2, m3, fun W S hW W1 S1 hc => ?_⟩
          obtain ⟨W2, S2, q1, q2⟩ := hstep W S hW W1 S1 hc
          exact Rch_e q2 (m4 W S hW W2 S2 q1)
      · refine Or.inr ⟨f, k1, k2, ?_, fun W S hW W1 S1 hc => ?_⟩
        · have n0 := neg_n0 k1 k2
          rw [ptx_k (by rw [k3]; exact n0), lpx_f (by rw [k3]; exact n0)]
          exact k3
        · have r1 := op_st hop (o := o) (W := W1) (S := S1) hg
          rw [hc] at r1
          exact Rch_e r1 (k4 _ _ (clo_op (by omega)))
    · have hpk : ¬ pkx b sz s.1 = nI g := by rw [h1.1]; exact fun z => hg ((pk_is hb (by omega) o5 o6).mp z)
      rw [lpx_n hpk]
      refine Or.inl ⟨p, X, X2, h1, h2, h3, h4, fun z => ?_, fun z => ?_, fun W S hW W1 S1 hc => ⟨W1, S1, hc, Rch_0⟩⟩
      · by_cases y : l = 2
        · have := o9 y
          omega
        · exact h5 (by omega)
      · have := o10 (by omega)
        omega
theorem lv_up {b : Nat → Int32} {sz : Nat} {c : Nat → Nat} (hb : BH b sz c) {l g w o : Nat} {e : Int32} (hop : Op l g w e) {F : rS → rS} (hF : Lv b sz c (l + 1) o F) (hS : Sty F) : Lv b sz c l o (fun s => lpx b sz (nI g) e F 60 (F s)) := by
  intro s p L h hL hp
  have hsz := hb.1
  rcases hF s p L h hL hp with ⟨p2, X, X2, k1, k2, k3, k4, k5, k6, k7⟩ | ⟨f, k1, k2, k3, k4⟩
  · rcases lpx_v hb hop hF hS hL 60 (F s) p2 X X2 k1 k2 k3 k4 k5 (by omega) with ⟨p3, Z, Z2, m1, m2, m3, m4, m5, m6, m7⟩ | ⟨f, m1, m2, m3, m4⟩
    · refine Or.inl ⟨p3, Z, Z2, m1, m2, m3, m4, m5, m6, fun W S hW => ?_⟩
      obtain ⟨W2, S2, q1, q2⟩ := k7 W S (clo_up hW)
      have q3 : cl l W2 S2 = (W, X ++ S) := by
        rw [← cl_cl (k := l + 1) (l := l) (by omega) W2 S2, q1]
        exact hW _
      obtain ⟨W3, S3, q4, q5⟩ := m7 W S hW W2 S2 q3
      exact ⟨W3, S3, q4, Rch_t q2 q5⟩
    · refine Or.inr ⟨f, m1, m2, m3, fun W S hW => ?_⟩
      obtain ⟨W2, S2, q1, q2⟩ := k7 W S (clo_up hW)
      have q3 : cl l W2 S2 = (W, X ++ S) := by
        rw [← cl_cl (k := l + 1) (l := l) (by omega) W2 S2, q1]
        exact hW _
      exact Rch_e q2 (m4 W S hW W2 S2 q3)
  · refine Or.inr ⟨f, k1, k2, ?_, fun W S hW => k4 W S (clo_up hW)⟩
    show (lpx b sz (nI g) e F 60 (F s)).2.1 = _
    rw [lpx_f (by rw [k3]; exact neg_n0 k1 k2)]
    exact k3
theorem exq_y {b : Nat → Int32} {sz : Nat} {g : Int32} {s : rS} (h : s.2.1 = 0) (hf : pkx b sz s.1 = g) : exq b sz g s = adv s := congrArg adv ((if_pos h).trans (if_pos hf))
theorem exq_n {b : Nat → Int32} {sz : Nat} {g : Int32} {s : rS} {p : Nat} (h : s.2.1 = 0) (hp : s.1 = nI p) (hf : ¬ pkx b sz s.1 = g) : exq b sz g s = adv (s.1, -nI (100 + p), s.2.2) := congrArg adv ((if_pos h).trans ((if_neg hf).trans (by rw [hp, fal_0 h, hp])))
theorem brx_v {b : Nat → Int32} {sz : Nat} {c : Nat → Nat} (hb : BH b sz c) : ∀ (k o : Nat), o + k = 6 → Bk b sz c o (brx b sz k)
  | 0, o, ho => by
    intro s p L h hL hp hc
    have hsz := hb.1
    refine Or.inr ⟨300 + p, by omega, by omega, ?_, fun W S => ?_⟩
    · show (fal s (nI 3) s.1).2.1 = _
      rw [h.1, fal_0 h.2.1]
    · rw [show o = 6 by omega]
      exact m_deep hc
  | k + 1, o, ho => by
    intro s p L h hL hp hc
    have hsz := hb.1
    have hlt := lt_sz hb (p := p) (by omega)
    have hX : Lv b sz c 1 (o + 1) (xpx b sz (fcx b sz (brx b sz k))) := lv_up hb (Or.inr ⟨rfl, rfl, rfl, rfl⟩) (lv_up hb (Or.inl ⟨rfl, rfl, rfl, rfl⟩) (fcx_v hb (by omega) (brx_v hb k (o + 1) (by omega)) (brx_k b sz k)) (fcx_k (brx_k b sz k))) (lpx_k (fcx_k (brx_k b sz k)))
    show (∃ p2 X X2, Sd (exq b sz (nI 41) (xpx b sz (fcx b sz (brx b sz k)) (exq b sz (nI 40) s))) p2 (X2 ++ L) ∧ _) ∨ (∃ f, _ ∧ _ ∧ (exq b sz (nI 41) (xpx b sz (fcx b sz (brx b sz k)) (exq b sz (nI 40) s))).2.1 = -nI f ∧ _)
    have e1 : exq b sz (nI 40) s = adv s := exq_y h.2.1 (by rw [h.1]; exact (pk_is hb (by omega) (by decide) (by decide)).mpr hc)
    rw [e1]
    have r0 : ∀ W S, Rch c p o true W S (p + 1) (o + 1) true (1000003 :: W) S := fun W S => m_open hc (by omega)
    rcases hX (adv s) (p + 1) L (Sd_adv h) (by omega) (by omega) with ⟨p2, X, X2, k1, k2, k3, k4, k5, k6, k7⟩ | ⟨f, k1, k2, k3, k4⟩
    · by_cases h4 : c p2 = 41
      · have e2 := exq_y (b := b) (sz := sz) (g := nI 41) k1.2.1 (by rw [k1.1]; exact (pk_is hb (by omega) (by decide) (by decide)).mpr h4)
        have hlt2 := lt_sz hb (p := p2) (by omega)
        rw [e2]
        refine Or.inl ⟨p2 + 1, X, X2, Sd_adv k1, k2, by omega, by omega, fun h0 W S => ?_, fun h0 S => ?_⟩
        · obtain ⟨W2, S2, q1, q2⟩ := k7 (1000003 :: W) S clo_open
          have r2 := m_clo (W := W2) (S := S2) (o := o + 1) h4 (by omega)
          rw [q1] at r2
          exact Rch_t (r0 W S) (Rch_t q2 r2)
        · obtain ⟨W2, S2, q1, q2⟩ := k7 [1000003] S clo_open
          subst h0
          have r2 := m_end (W := W2) (S := S2) h4
          rw [q1] at r2
          exact Rch_e (r0 [] S) (Rch_e q2 r2)
      · have e2 := exq_n (b := b) (sz := sz) (g := nI 41) k1.2.1 k1.1 (by rw [k1.1]; exact fun z => h4 ((pk_is hb (by omega) (by decide) (by decide)).mp z))
        rw [e2]
        refine Or.inr ⟨100 + p2, by omega, by omega, rfl, fun W S => ?_⟩
        obtain ⟨W2, S2, q1, q2⟩ := k7 (1000003 :: W) S clo_open
        exact Rch_e (r0 W S) (Rch_e q2 (m_bad (k5 (by decide)) (k6 (by decide)) h4))
    · refine Or.inr ⟨f, k1, k2, ?_, fun W S => Rch_e (r0 W S) (k4 _ _ clo_open)⟩
      rw [exq_k (by rw [k3]; exact neg_n0 k1 k2)]
      exact k3
