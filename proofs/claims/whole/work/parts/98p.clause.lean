/-! one clause, the whole text: the reader is the reference, pure -/
abbrev txR : Type := Nat × List Nat × (Nat → Int32) × Nat
/-- a clause of one number -/
def NLr (c : Nat → Nat) (p : Nat) (S : List Nat) (q : Nat → Int32) (E k hi : Nat) (r : Except Nat txR) : Prop := (∃ v e, rn c (p + 1) 0 hi = .ok (v, e) ∧ r = .ok (e, S, upd q k (nI v), E)) ∨ (∃ f, rn c (p + 1) 0 hi = .error f ∧ r = .error f)
/-- a clause of years -/
def YLr (c : Nat → Nat) (p : Nat) (S : List Nat) (q : Nat → Int32) (E : Nat) (r : Except Nat txR) : Prop := (∃ f, rn c (p + 1) 0 99 = .error f ∧ r = .error f) ∨ (∃ v e, rn c (p + 1) 0 99 = .ok (v, e) ∧ ((¬ c e = 45 ∧ r = .error (100 + e)) ∨ (c e = 45 ∧ ((∃ f, rn c (e + 1) v 99 = .error f ∧ r = .error f) ∨ (∃ v2 e2, rn c (e + 1) v 99 = .ok (v2, e2) ∧ r = .ok (e2, S, upd (upd q 9 (nI v)) 10 (nI v2), E))))))
/-- a clause that is an expression -/
def XLr (c : Nat → Nat) (p : Nat) (S : List Nat) (q : Nat → Int32) (E : Nat) (r : Except Nat txR) : Prop := ∃ N, (∃ p2 S2, mrun c N p 0 true [] S = some (.ok (p2, S2)) ∧ S2.length < 60 ∧ r = .ok (p2, (if E = 0 then S2 else 1000000 :: S2), upd q 11 (nI (E + 1)), E + 1)) ∨ (∃ f, mrun c N p 0 true [] S = some (.error f) ∧ r = .error f)
/-- one clause of the reference: place, what is said, numbers, expressions -/
def CLr (c : Nat → Nat) (p : Nat) (S : List Nat) (q : Nat → Int32) (E : Nat) (r : Except Nat txR) : Prop := (c p = 40 ∧ XLr c p S q E r) ∨ (c p = 110 ∧ NLr c p S q E 6 9 r) ∨ (c p = 98 ∧ NLr c p S q E 7 99 r) ∨ (c p = 112 ∧ NLr c p S q E 8 9999 r) ∨ (c p = 121 ∧ YLr c p S q E r) ∨ (¬ c p = 40 ∧ ¬ c p = 110 ∧ ¬ c p = 98 ∧ ¬ c p = 112 ∧ ¬ c p = 121 ∧ r = .error (100 + p))
/-- what holds between clauses -/
def TI (sz p : Nat) (S L : List Nat) (q : Nat → Int32) (E : Nat) : Prop := p ≤ sz ∧ E ≤ p ∧ q 11 = nI E ∧ (E = 0 ∧ S = [] ∧ L = [] ∨ 0 < E ∧ Seg S L ∧ S.length + 2 * ncl S + 2 ≤ p) ∧ inN (q 6) 9 ∧ inN (q 7) 99 ∧ inN (q 8) 9999 ∧ inN (q 9) 99 ∧ inN (q 10) 99
theorem TI_p {sz p p2 : Nat} {S L : List Nat} {q : Nat → Int32} {E : Nat} (h : TI sz p S L q E) (h1 : p ≤ p2) (h2 : p2 ≤ sz) : TI sz p2 S L q E := by
  obtain ⟨a1, a2, a3, a4, a5⟩ := h
  exact ⟨h2, by omega, a3, a4.imp id (fun z => ⟨z.1, z.2.1, by omega⟩), a5⟩
theorem TI_len {sz p : Nat} {S L : List Nat} {q : Nat → Int32} {E : Nat} (h : TI sz p S L q E) : L.length ≤ p ∧ S.length ≤ p := by
  obtain ⟨a1, a2, a3, a4, a5⟩ := h
  rcases a4 with ⟨z1, z2, z3⟩ | ⟨z1, z2, z3⟩
  · rw [z2, z3]
    exact ⟨Nat.zero_le _, Nat.zero_le _⟩
  · have := z2.2.2.2.2
    exact ⟨by omega, by omega⟩
theorem TI_6 {sz p : Nat} {S L : List Nat} {q : Nat → Int32} {E v : Nat} (h : TI sz p S L q E) (hv : v ≤ 9) : TI sz p S L (upd q 6 (nI v)) E := ⟨h.1, h.2.1, h.2.2.1, h.2.2.2.1, ⟨v, hv, rfl⟩, h.2.2.2.2.2⟩
theorem TI_7 {sz p : Nat} {S L : List Nat} {q : Nat → Int32} {E v : Nat} (h : TI sz p S L q E) (hv : v ≤ 99) : TI sz p S L (upd q 7 (nI v)) E := ⟨h.1, h.2.1, h.2.2.1, h.2.2.2.1, h.2.2.2.2.1, ⟨v, hv, rfl⟩, h.2.2.2.2.2.2⟩
theorem TI_8 {sz p : Nat} {S L : List Nat} {q : Nat → Int32} {E v : Nat} (h : TI sz p S L q E) (hv : v ≤ 9999) : TI sz p S L (upd q 8 (nI v)) E := ⟨h.1, h.2.1, h.2.2.1, h.2.2.2.1, h.2.2.2.2.1, h.2.2.2.2.2.1, ⟨v, hv, rfl⟩, h.2.2.2.2.2.2.2⟩
theorem TI_y {sz p : Nat} {S L : List Nat} {q : Nat → Int32} {E v u : Nat} (h : TI sz p S L q E) (hv : v ≤ 99) (hu : u ≤ 99) : TI sz p S L (upd (upd q 9 (nI v)) 10 (nI u)) E := ⟨h.1, h.2.1, h.2.2.1, h.2.2.2.1, h.2.2.2.2.1, h.2.2.2.2.2.1, h.2.2.2.2.2.2.1, ⟨v, hv, rfl⟩, ⟨u, hu, rfl⟩⟩
/-- the letters of clauses -/
def lo2 (v : Nat) : Int32 := if v = 110 then nI 0 else if v = 98 then nI 1 else if v = 112 then nI 2 else if v = 121 then nI 3 else -1
theorem at_2 : ∀ v, v < 256 → sp_at (tF 2) ((nI v).toInt8.toInt32) 4 = lo2 v := by decide +kernel
theorem fd_2 {b : Nat → Int32} {sz : Nat} {c : Nat → Nat} (hb : BH b sz c) {p : Nat} (hp : p ≤ 1000) : fdx (tF 2) 4 (pkx b sz (nI p)) = lo2 (c p) := by
  rw [pk_v hb hp]
  by_cases h : p < sz
  · rw [if_pos h, ← at_2 _ (hb.2.2.1 p)]
    exact if_neg (i_nm (hb.2.2.1 p))
  · rw [if_neg h, hb.2.2.2 p (by omega)]
    rfl
/-- both sides after a step -/
def Bth (sz : Nat) (r : Except Nat txR) (F : (Nat → Int32) × rS) (p : Nat) : Prop := (∃ p2 S2 q2 E2 L2, r = .ok (p2, S2, q2, E2) ∧ F.1 = q2 ∧ Sd F.2 p2 L2 ∧ TI sz p2 S2 L2 q2 E2 ∧ p < p2) ∨ (∃ f, r = .error f ∧ 0 < f ∧ f < 1000 ∧ F.2.2.1 = -nI f)
section CV
variable {b : Nat → Int32} {sz : Nat} {c : Nat → Nat} {s : rS} {p : Nat} {S L : List Nat} {q : Nat → Int32} {E : Nat}
theorem clx_y1 (h0 : s.2.1 = 0) (hc : pkx b sz s.1 = nI 40) : clx b sz q s = (upd q 11 (q 11 + nI 1), if q 11 ≤ 0 then brx b sz 6 s else ptx (brx b sz 6 s) (-2)) := (if_pos h0).trans (if_pos hc)
theorem x_v (hb : BH b sz c) (h : Sd s p L) (hI : TI sz p S L q E) (hc : c p = 40) : ∃ r, XLr c p S q E r ∧ Bth sz r (clx b sz q s) p := by
  obtain ⟨a1, a2, a3, a4, a5⟩ := id hI
  have hsz := hb.1
  have hlen := TI_len hI
  rw [clx_y1 h.2.1 (by rw [h.1]; exact (pk_is hb (by omega) (by decide) (by decide)).mpr hc)]
  have hE : q 11 ≤ 0 ↔ E = 0 := by
    rw [a3]
    exact Iff.trans (nI_leI (a := E) (b := 0) (by omega) (by decide)) Nat.le_zero
  have hq : q 11 + nI 1 = nI (E + 1) := by rw [a3, nI_add]
  rcases brx_v hb 6 0 rfl s p L h hlen.1 a1 hc with ⟨p2, X, X2, k1, k2, k3, k4, k5, k6⟩ | ⟨f, k1, k2, k3, k4⟩
  · obtain ⟨j, hj⟩ := k6 rfl S
    have hl6 : (X ++ S).length < 60 := by
      rw [List.length_append]
      rcases a4 with ⟨y1, y2, y3⟩ | ⟨y1, y2, y3⟩
      · rw [y2, List.length_nil]
        omega
      · omega
    refine ⟨_, ⟨j + 0, Or.inl ⟨p2, X ++ S, hj 0, hl6, rfl⟩⟩, Or.inl ⟨p2, _, _, E + 1, (if E = 0 then X2 ++ L else 1000000 :: (X2 ++ L)), rfl, congrArg (upd q 11) hq, ?_, ?_, by omega⟩⟩
    · show Sd (if q 11 ≤ 0 then brx b sz 6 s else ptx (brx b sz 6 s) (-2)) p2 _
      by_cases z : E = 0
      · rw [if_pos (hE.mpr z), if_pos z]
        exact k1
      · rw [if_neg (fun y => z (hE.mp y)), if_neg z]
        rcases a4 with y | ⟨y1, y2, y3⟩
        · exact absurd y.1 z
        · have e1 := k2.2.2.2.2
          have e2 := y2.2.2.2.2
          exact Sd_put k1 (by rw [List.length_append]; omega) 1000000
    · refine ⟨k4, by omega, rfl, Or.inr ⟨Nat.succ_pos _, ?_⟩, a5⟩
      rcases a4 with ⟨y1, y2, y3⟩ | ⟨y1, y2, y3⟩
      · subst y1
        subst y2
        subst y3
        rw [if_pos rfl, if_pos rfl, List.append_nil, List.append_nil]
        exact ⟨k2, by omega⟩
      · rw [if_neg (by omega), if_neg (by omega)]
        refine ⟨seg_bin (Or.inl rfl) y2 k2, ?_⟩
        have hn : ncl (1000000 :: (X ++ S)) = ncl X + ncl S := by
          show (if 1000000 < 1000000 then _ else ncl (X ++ S)) = _
          rw [if_neg (by decide), ncl_app]
        rw [hn, List.length_cons, List.length_append]
        omega
  · obtain ⟨j, hj⟩ := k4 [] S
    refine ⟨_, ⟨j + 0, Or.inr ⟨f, hj 0, rfl⟩⟩, Or.inr ⟨f, rfl, k1, k2, ?_⟩⟩
    show (if q 11 ≤ 0 then brx b sz 6 s else ptx (brx b sz 6 s) (-2)).2.1 = _
    split
    · exact k3
    · rw [ptx_k (by rw [k3]; exact neg_n0 k1 k2)]
      exact k3
theorem n_v (hb : BH b sz c) (h : Sd s p L) (hI : TI sz p S L q E) (hlt : p < sz) {k hi : Nat} (hhi : hi ≤ 9999) (he : eox (tF 2) 4 b sz s = adv s) (hF : clx b sz q s = (upd q k (rnx b sz (nI 0) (nI hi) (eox (tF 2) 4 b sz s)).1, (rnx b sz (nI 0) (nI hi) (eox (tF 2) 4 b sz s)).2)) (hT : ∀ v, v ≤ hi → TI sz p S L (upd q k (nI v)) E) : ∃ r, NLr c p S q E k hi r ∧ Bth sz r (clx b sz q s) p := by
  have hsz := hb.1
  rw [hF, he]
  rcases rnx_v hb (Sd_adv h) (by omega) (lo := 0) (hi := hi) hhi (by omega) with ⟨v, e, r1, r2, r3, r4, r5, r6, r7⟩ | ⟨f, r1, r2, r3, r4⟩
  · refine ⟨_, Or.inl ⟨v, e, r1, rfl⟩, Or.inl ⟨e, S, _, E, L, rfl, congrArg (upd q k) r2, r3, TI_p (hT v r7) (by omega) r5, by omega⟩⟩
  · exact ⟨_, Or.inr ⟨f, r1, rfl⟩, Or.inr ⟨f, rfl, r2, r3, r4⟩⟩
theorem y_v (hb : BH b sz c) (h : Sd s p L) (hI : TI sz p S L q E) (hlt : p < sz) (he : eox (tF 2) 4 b sz s = adv s) (hF : clx b sz q s = (upd (upd q 9 (rnx b sz (nI 0) (nI 99) (eox (tF 2) 4 b sz s)).1) 10 (rnx b sz (rnx b sz (nI 0) (nI 99) (eox (tF 2) 4 b sz s)).1 (nI 99) (exq b sz (nI 45) (rnx b sz (nI 0) (nI 99) (eox (tF 2) 4 b sz s)).2)).1, (rnx b sz (rnx b sz (nI 0) (nI 99) (eox (tF 2) 4 b sz s)).1 (nI 99) (exq b sz (nI 45) (rnx b sz (nI 0) (nI 99) (eox (tF 2) 4 b sz s)).2)).2)) : ∃ r, YLr c p S q E r ∧ Bth sz r (clx b sz q s) p := by
  have hsz := hb.1
  rw [hF, he]
  have hr := rnx_v hb (Sd_adv h) (by omega) (lo := 0) (hi := 99) (by omega) (by omega)
  generalize rnx b sz (nI 0) (nI 99) (adv s) = R at hr
  rcases hr with ⟨v, e, r1, r2, r3, r4, r5, r6, r7⟩ | ⟨f, r1, r2, r3, r4⟩
  · rw [r2]
    by_cases h4 : c e = 45
    · have e2 : exq b sz (nI 45) R.2 = adv R.2 := exq_y r3.2.1 (by rw [r3.1]; exact (pk_is hb (by omega) (by decide) (by decide)).mpr h4)
      have hlt2 := lt_sz hb (p := e) (by omega)
      rw [e2]
      rcases rnx_v hb (Sd_adv r3) (by omega) (lo := v) (hi := 99) (by omega) (by omega) with ⟨v2, g, t1, t2, t3, t4, t5, t6, t7⟩ | ⟨f, t1, t2, t3, t4⟩
      · refine ⟨_, Or.inr ⟨v, e, r1, Or.inr ⟨h4, Or.inr ⟨v2, g, t1, rfl⟩⟩⟩, Or.inl ⟨g, S, _, E, L, rfl, congrArg (upd (upd q 9 (nI v)) 10) t2, t3, TI_p (TI_y hI (by omega) t7) (by omega) t5, by omega⟩⟩
      · exact ⟨_, Or.inr ⟨v, e, r1, Or.inr ⟨h4, Or.inl ⟨f, t1, rfl⟩⟩⟩, Or.inr ⟨f, rfl, t2, t3, t4⟩⟩
    · have e2 : exq b sz (nI 45) R.2 = adv (R.2.1, -nI (100 + e), R.2.2.2) := exq_n r3.2.1 r3.1 (by rw [r3.1]; exact fun z => h4 ((pk_is hb (by omega) (by decide) (by decide)).mp z))
      refine ⟨_, Or.inr ⟨v, e, r1, Or.inl ⟨h4, rfl⟩⟩, Or.inr ⟨100 + e, rfl, by omega, by omega, ?_⟩⟩
      show (rnx b sz (nI v) (nI 99) (exq b sz (nI 45) R.2)).2.2.1 = _
      rw [e2, rnx_k (s := adv (R.2.1, -nI (100 + e), R.2.2.2)) (neg_n0 (f := 100 + e) (by omega) (by omega))]
      rfl
  · refine ⟨_, Or.inl ⟨f, r1, rfl⟩, Or.inr ⟨f, rfl, r2, r3, ?_⟩⟩
    have n0 : ¬ R.2.2.1 = 0 := by rw [r4]; exact neg_n0 r2 r3
    show (rnx b sz R.1 (nI 99) (exq b sz (nI 45) R.2)).2.2.1 = _
    rw [exq_k n0, rnx_k (s := adv R.2) n0]
    exact r4
theorem clx_v (hb : BH b sz c) (h : Sd s p L) (hI : TI sz p S L q E) : ∃ r, CLr c p S q E r ∧ Bth sz r (clx b sz q s) p := by
  have hsz := hb.1
  have hp := hI.1
  have f2 : fdx (tF 2) 4 (pkx b sz s.1) = lo2 (c p) := by rw [h.1]; exact fd_2 hb (by omega)
  have pis : ∀ v, 0 < v → v < 256 → (pkx b sz s.1 = nI v ↔ c p = v) := fun v h1 h2 => by rw [h.1]; exact pk_is hb (by omega) h1 h2
  by_cases c1 : c p = 40
  · obtain ⟨r, r1, r2⟩ := x_v hb h hI c1
    exact ⟨r, Or.inl ⟨c1, r1⟩, r2⟩
  have n1 : ¬ pkx b sz s.1 = nI 40 := fun z => c1 ((pis 40 (by decide) (by decide)).mp z)
  by_cases c2 : c p = 110
  · have he : eox (tF 2) 4 b sz s = adv s := eox_y h.2.1 (by rw [f2, c2]; decide)
    obtain ⟨r, r1, r2⟩ := n_v hb h hI (lt_sz hb (by omega)) (k := 6) (hi := 9) (by decide) he ((if_pos h.2.1).trans ((if_neg n1).trans (if_pos ((pis 110 (by decide) (by decide)).mpr c2)))) (fun v hv => TI_6 hI hv)
    exact ⟨r, Or.inr (Or.inl ⟨c2, r1⟩), r2⟩
  have n2 : ¬ pkx b sz s.1 = nI 110 := fun z => c2 ((pis 110 (by decide) (by decide)).mp z)
  by_cases c3 : c p = 98
  · have he : eox (tF 2) 4 b sz s = adv s := eox_y h.2.1 (by rw [f2, c3]; decide)
    obtain ⟨r, r1, r2⟩ := n_v hb h hI (lt_sz hb (by omega)) (k := 7) (hi := 99) (by decide) he ((if_pos h.2.1).trans ((if_neg n1).trans ((if_neg n2).trans (if_pos ((pis 98 (by decide) (by decide)).mpr c3))))) (fun v hv => TI_7 hI hv)
    exact ⟨r, Or.inr (Or.inr (Or.inl ⟨c3, r1⟩)), r2⟩
  have n3 : ¬ pkx b sz s.1 = nI 98 := fun z => c3 ((pis 98 (by decide) (by decide)).mp z)
  by_cases c4 : c p = 112
  · have he : eox (tF 2) 4 b sz s = adv s := eox_y h.2.1 (by rw [f2, c4]; decide)
    obtain ⟨r, r1, r2⟩ := n_v hb h hI (lt_sz hb (by omega)) (k := 8) (hi := 9999) (by decide) he ((if_pos h.2.1).trans ((if_neg n1).trans ((if_neg n2).trans ((if_neg n3).trans (if_pos ((pis 112 (by decide) (by decide)).mpr c4)))))) (fun v hv => TI_8 hI hv)
    exact ⟨r, Or.inr (Or.inr (Or.inr (Or.inl ⟨c4, r1⟩))), r2⟩
  have n4 : ¬ pkx b sz s.1 = nI 112 := fun z => c4 ((pis 112 (by decide) (by decide)).mp z)
  have hF : clx b sz q s = _ := (if_pos h.2.1).trans ((if_neg n1).trans ((if_neg n2).trans ((if_neg n3).trans (if_neg n4))))
  by_cases c5 : c p = 121
  · have he : eox (tF 2) 4 b sz s = adv s := eox_y h.2.1 (by rw [f2, c5]; decide)
    obtain ⟨r, r1, r2⟩ := y_v hb h hI (lt_sz hb (by omega)) he hF
    exact ⟨r, Or.inr (Or.inr (Or.inr (Or.inr (Or.inl ⟨c5, r1⟩)))), r2⟩
  · have hl : lo2 (c p) = -1 := (if_neg c2).trans ((if_neg c3).trans ((if_neg c4).trans (if_neg c5)))
    have he := eox_n (b := b) (sz := sz) (F := tF 2) (n := 4) h.2.1 h.1 (by rw [f2, hl]; decide)
    refine ⟨_, Or.inr (Or.inr (Or.inr (Or.inr (Or.inr ⟨c1, c2, c3, c4, c5, rfl⟩)))), Or.inr ⟨100 + p, rfl, by omega, by omega, ?_⟩⟩
    have n0 := neg_n0 (f := 100 + p) (by omega) (by omega)
    rw [hF]
    show (rnx b sz (rnx b sz (nI 0) (nI 99) (eox (tF 2) 4 b sz s)).1 (nI 99) (exq b sz (nI 45) (rnx b sz (nI 0) (nI 99) (eox (tF 2) 4 b sz s)).2)).2.2.1 = _
    rw [he, rnx_k (s := adv (s.1, -nI (100 + p), s.2.2)) n0]
    show (rnx b sz (nI 0) (nI 99) (exq b sz (nI 45) (adv (s.1, -nI (100 + p), s.2.2)))).2.2.1 = _
    rw [exq_k (s := adv (s.1, -nI (100 + p), s.2.2)) n0, rnx_k (s := adv (adv (s.1, -nI (100 + p), s.2.2))) n0]
    rfl
end CV
/-- what the reference needs to go on -/
def TB (sz p : Nat) (S : List Nat) (q : Nat → Int32) (E : Nat) : Prop := p ≤ sz ∧ S.length ≤ p ∧ q 11 = nI E ∧ E ≤ p
theorem TI_B {sz p : Nat} {S L : List Nat} {q : Nat → Int32} {E : Nat} (h : TI sz p S L q E) : TB sz p S q E := ⟨h.1, (TI_len h).2, h.2.2.1, h.2.1⟩
/-- the clauses behind the first -/
def TR (c : Nat → Nat) (sz : Nat) : Nat → Nat → List Nat → (Nat → Int32) → Nat → Except Nat txR → Prop
  | 0, p, S, q, E, r => sz ≤ p ∧ r = .ok (p, S, q, E)
  | k + 1, p, S, q, E, r => (sz ≤ p ∧ r = .ok (p, S, q, E)) ∨ (p < sz ∧ ((¬ c p = 59 ∧ r = .error (100 + p)) ∨ (c p = 59 ∧ ∃ r1, CLr c (p + 1) S q E r1 ∧ ((∃ f, r1 = .error f ∧ r = .error f) ∨ (∃ p2 S2 q2 E2, r1 = .ok (p2, S2, q2, E2) ∧ TB sz p2 S2 q2 E2 ∧ TR c sz k p2 S2 q2 E2 r)))))
def TT (c : Nat → Nat) (sz : Nat) (r : Except Nat txR) : Prop := ∃ r1, CLr c 0 [] q00 0 r1 ∧ ((∃ f, r1 = .error f ∧ r = .error f) ∨ (∃ p2 S2 q2 E2, r1 = .ok (p2, S2, q2, E2) ∧ TB sz p2 S2 q2 E2 ∧ TR c sz 60 p2 S2 q2 E2 r))
def Btx (sz : Nat) (r : Except Nat txR) (F : (Nat → Int32) × rS) : Prop := (∃ p2 S2 q2 E2 L2, r = .ok (p2, S2, q2, E2) ∧ F.1 = q2 ∧ Sd F.2 p2 L2 ∧ TI sz p2 S2 L2 q2 E2) ∨ (∃ f, r = .error f ∧ 0 < f ∧ f < 1000 ∧ F.2.2.1 = -nI f)
theorem clx_k {b : Nat → Int32} {sz : Nat} {q : Nat → Int32} {s : rS} (h : ¬ s.2.1 = 0) : clx b sz q s = (q, s) := if_neg h
theorem txx_v {b : Nat → Int32} {sz : Nat} {c : Nat → Nat} (hb : BH b sz c) : ∀ (k : Nat) {s : rS} {p : Nat} {S L : List Nat} {q : Nat → Int32} {E : Nat}, Sd s p L → TI sz p S L q E → sz ≤ p + k → ∃ r, TR c sz k p S q E r ∧ Btx sz r (txx b sz k q s)
  | 0, s, p, S, L, q, E, h, hI, hk => ⟨_, ⟨hk, rfl⟩, Or.inl ⟨p, S, q, E, L, rfl, rfl, h, hI⟩⟩
  | k + 1, s, p, S, L, q, E, h, hI, hk => by
    have hsz := hb.1
    have hp := hI.1
    by_cases h1 : sz ≤ p
    · rw [txx_e (by rw [h.1]; exact (nI_leI (by omega) (by omega)).mpr h1)]
      exact ⟨_, Or.inl ⟨h1, rfl⟩, Or.inl ⟨p, S, q, E, L, rfl, rfl, h, hI⟩⟩
    · have e1 : txx b sz (k + 1) q s = txx b sz k (clx b sz q (exq b sz (nI 59) s)).1 (clx b sz q (exq b sz (nI 59) s)).2 := (if_pos h.2.1).trans (if_neg (by rw [h.1]; exact fun z => h1 ((nI_leI (by omega) (by omega)).mp z)))
      rw [e1]
      by_cases h2 : c p = 59
      · have e2 : exq b sz (nI 59) s = adv s := exq_y h.2.1 (by rw [h.1]; exact (pk_is hb (by omega) (by decide) (by decide)).mpr h2)
        rw [e2]
        obtain ⟨r, r1, r2⟩ := clx_v hb (Sd_adv h) (TI_p hI (Nat.le_succ p) (by omega))
        generalize clx b sz q (adv s) = F at r2
        rcases r2 with ⟨p2, S2, q2, E2, L2, g1, g2, g3, g4, g5⟩ | ⟨f, g1, g2, g3, g4⟩
        · rw [g2]
          obtain ⟨rr, t1, t2⟩ := txx_v hb k g3 g4 (by omega)
          exact ⟨rr, Or.inr ⟨by omega, Or.inr ⟨h2, r, r1, Or.inr ⟨p2, S2, q2, E2, g1, TI_B g4, t1⟩⟩⟩, t2⟩
        · rw [txx_f (by rw [g4]; exact neg_n0 g2 g3)]
          exact ⟨_, Or.inr ⟨by omega, Or.inr ⟨h2, r, r1, Or.inl ⟨f, g1, rfl⟩⟩⟩, Or.inr ⟨f, rfl, g2, g3, g4⟩⟩
      · have e2 : exq b sz (nI 59) s = adv (s.1, -nI (100 + p), s.2.2) := exq_n h.2.1 h.1 (by rw [h.1]; exact fun z => h2 ((pk_is hb (by omega) (by decide) (by decide)).mp z))
        have n0 : ¬ (adv (s.1, -nI (100 + p), s.2.2)).2.1 = 0 := neg_n0 (f := 100 + p) (by omega) (by omega)
        rw [e2, clx_k n0, txx_f n0]
        exact ⟨_, Or.inr ⟨by omega, Or.inl ⟨h2, rfl⟩⟩, Or.inr ⟨100 + p, rfl, by omega, by omega, rfl⟩⟩
theorem ttx_v {b : Nat → Int32} {sz : Nat} {c : Nat → Nat} (hb : BH b sz c) (C : Nat → Int32) : ∃ r, TT c sz r ∧ Btx sz r (ttx b sz C) := by
  have hsz := hb.1
  have hI : TI sz 0 [] [] q00 0 := ⟨Nat.zero_le _, Nat.zero_le _, rfl, Or.inl ⟨rfl, rfl, rfl⟩, ⟨1, by decide, rfl⟩, ⟨1, by decide, rfl⟩, ⟨0, by decide, rfl⟩, ⟨0, by decide, rfl⟩, ⟨99, by decide, rfl⟩⟩
  obtain ⟨r, r1, r2⟩ := clx_v hb (s := (nI 0, nI 0, nI 0, C)) (L := []) ⟨rfl, rfl, rfl, True.intro⟩ hI
  unfold ttx
  generalize clx b sz q00 (nI 0, nI 0, nI 0, C) = F at r2
  rcases r2 with ⟨p2, S2, q2, E2, L2, g1, g2, g3, g4, g5⟩ | ⟨f, g1, g2, g3, g4⟩
  · rw [g2]
    obtain ⟨rr, t1, t2⟩ := txx_v hb 60 g3 g4 (by omega)
    exact ⟨rr, ⟨r, r1, Or.inr ⟨p2, S2, q2, E2, g1, TI_B g4, t1⟩⟩, t2⟩
  · rw [txx_f (by rw [g4]; exact neg_n0 g2 g3)]
    exact ⟨_, ⟨r, r1, Or.inl ⟨f, g1, rfl⟩⟩, Or.inr ⟨f, rfl, g2, g3, g4⟩⟩
