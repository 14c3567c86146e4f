/-! plans: the state of a search, and what it does -/
theorem nI_nm1 {a : Nat} (h : a < 2 ^ 31) : ¬ nI a = -1 := fun z => nI_pos h (by rw [z]; decide)
def vD (d v : Nat) : Int32 := if d = 4 then -1 else nI v
def wD (d v : Nat) : Int32 := if d = 4 then nI 0 else if v = 1 then nI 1 else -1
def SD (cs : Nat → Nat → Int32) (n : Nat) (q : Nat → Nat → Nat → Nat) (wo : Nat → Nat → Int) : Prop := cs 28 1 = nI n ∧ (∀ x, x < 12 → cs 30 x = nI (q 8 x 0) ∧ cs 31 x = nI (q 9 x 0)) ∧ (∀ h, h < 8 → cs 32 h = nI (q 10 h 0)) ∧ ∀ i, i < n → cs 38 i = nI (q 4 i 0) ∧ ∀ o, o < q 4 i 0 → cs (40 + i) o = vD (q 3 i o) (q 3 i o) ∧ cs (48 + i) o = vD (q 3 i o) (q 1 i (q 3 i o)) ∧ cs (56 + i) o = vD (q 3 i o) (q 0 i (q 3 i o)) ∧ cs (64 + i) o = wD (q 3 i o) (q 2 i (q 3 i o)) ∧ cs (72 + i) o = zI (wo i (q 3 i o))
def SL1 (cs : Nat → Nat → Int32) (n : Nat) (q : Nat → Nat → Nat → Nat) (wo : Nat → Nat → Int) (k : Nat) : Prop := cs 79 (n - k) = zI (pLw wo q n k) ∧ ∀ x, x < 12 → cs (81 + (n - k)) x = nI (pLo q n x 1 k) ∧ cs (90 + (n - k)) x = nI (pLo q n x 0 k)
def SL (cs : Nat → Nat → Int32) (n : Nat) (q : Nat → Nat → Nat → Nat) (wo : Nat → Nat → Int) : Prop := ∀ k, k ≤ n → SL1 cs n q wo k
def SB (cs : Nat → Nat → Int32) (q : Nat → Nat → Nat → Nat) (bl : Nat → Int) (c : Nat → Nat) (i : Nat) : Prop := (∀ x, x < 12 → cs 33 x = nI (q 5 x 0 + cnP (pPO q c x) i) ∧ cs 34 x = nI (q 6 x 0 + cnP (pPB q c x) i) ∧ cs 35 x = zI (pBl q bl c x i)) ∧ ∀ h, h < 8 → cs 36 h = nI (q 7 h 0 + cnP (pPH q c h) i)
def pRp (cs : Nat → Nat → Int32) (n : Nat) (q : Nat → Nat → Nat → Nat) (wo : Nat → Nat → Int) (B : Option Nat) : Prop := (B = none ∧ cs 28 14 = -1000000) ∨ ∃ b, B = some b ∧ (∀ j, j < n → vdg q j (co n b j)) ∧ cs 28 14 = zI (pWo wo (co n b) n) ∧ ∀ j, j < n → ∃ o, o < q 4 j 0 ∧ q 3 j o = co n b j ∧ cs 99 j = nI o
def FrS (cs cs2 : Nat → Nat → Int32) : Prop := (∀ a, ¬ (a = 28 ∨ (33 ≤ a ∧ a ≤ 36) ∨ a = 98 ∨ a = 99) → cs2 a = cs a) ∧ cs2 28 1 = cs 28 1
def pRow (cs : Nat → Nat → Int32) (q : Nat → Nat → Nat → Nat) (c : Nat → Nat) (i : Nat) : Prop := ∀ j, j < i → ∃ o, o < q 4 j 0 ∧ q 3 j o = c j ∧ cs 98 j = nI o
theorem FrS_r (cs : Nat → Nat → Int32) : FrS cs cs := ⟨fun _ _ => rfl, rfl⟩
theorem FrS_t {a b c : Nat → Nat → Int32} (h : FrS a b) (h2 : FrS b c) : FrS a c := ⟨fun x hx => (h2.1 x hx).trans (h.1 x hx), h2.2.trans h.2⟩
theorem SD_f {cs cs2 : Nat → Nat → Int32} {n : Nat} {q : Nat → Nat → Nat → Nat} {wo : Nat → Nat → Int} (h : SD cs n q wo) (hn : n ≤ 7) (hf : FrS cs cs2) : SD cs2 n q wo := by
  obtain ⟨h1, h2, h3, h4⟩ := h
  refine ⟨hf.2.trans h1, fun x hx => ?_, fun x hx => ?_, fun i hi => ?_⟩
  · rw [hf.1 30 (by omega), hf.1 31 (by omega)]
    exact h2 x hx
  · rw [hf.1 32 (by omega)]
    exact h3 x hx
  · rw [hf.1 38 (by omega), hf.1 (40 + i) (by omega), hf.1 (48 + i) (by omega), hf.1 (56 + i) (by omega), hf.1 (64 + i) (by omega), hf.1 (72 + i) (by omega)]
    exact h4 i hi
theorem SL_f {cs cs2 : Nat → Nat → Int32} {n : Nat} {q : Nat → Nat → Nat → Nat} {wo : Nat → Nat → Int} (h : SL cs n q wo) (hn : n ≤ 7) (hf : FrS cs cs2) : SL cs2 n q wo := by
  intro k hk
  have := h k hk
  unfold SL1 at this ⊢
  rw [hf.1 79 (by omega), hf.1 (81 + (n - k)) (by omega), hf.1 (90 + (n - k)) (by omega)]
  exact this
theorem SB_f {cs cs2 : Nat → Nat → Int32} {q : Nat → Nat → Nat → Nat} {bl : Nat → Int} {c : Nat → Nat} {i : Nat} (h : SB cs q bl c i) (hf : ∀ a, 33 ≤ a → a ≤ 36 → cs2 a = cs a) : SB cs2 q bl c i := by
  unfold SB at h ⊢
  rw [hf 33 (by omega) (by omega), hf 34 (by omega) (by omega), hf 35 (by omega) (by omega), hf 36 (by omega) (by omega)]
  exact h
theorem pRp_f {cs cs2 : Nat → Nat → Int32} {n : Nat} {q : Nat → Nat → Nat → Nat} {wo : Nat → Nat → Int} {B : Option Nat} (h : pRp cs n q wo B) (h1 : cs2 28 14 = cs 28 14) (h2 : cs2 99 = cs 99) : pRp cs2 n q wo B := by
  unfold pRp at h ⊢
  rw [h1, h2]
  exact h
theorem cnO_up (q : Nat → Nat → Nat → Nat) (c : Nat → Nat) (i d x : Nat) : cnP (pPO q (upn c i d) x) (i + 1) = cnP (pPO q c x) i + (if ¬ d = 4 ∧ q 0 i d = x ∧ q 2 i d = 1 then 1 else 0) := by
  have e := (cn_ext (q := q) (c := upn c i d) (c2 := c) (i := i) (fun j hj => upn_o (by omega))).1 x
  by_cases z : ¬ d = 4 ∧ q 0 i d = x ∧ q 2 i d = 1
  · rw [cnP_t (by unfold pPO; rw [upn_s]; exact z), e, if_pos z]
  · rw [cnP_f (by unfold pPO; rw [upn_s]; exact z), e, if_neg z, Nat.add_zero]
theorem cnB_up (q : Nat → Nat → Nat → Nat) (c : Nat → Nat) (i d x : Nat) : cnP (pPB q (upn c i d) x) (i + 1) = cnP (pPB q c x) i + (if ¬ d = 4 ∧ q 0 i d = x ∧ q 2 i d = 0 then 1 else 0) := by
  have e := (cn_ext (q := q) (c := upn c i d) (c2 := c) (i := i) (fun j hj => upn_o (by omega))).2.1 x
  by_cases z : ¬ d = 4 ∧ q 0 i d = x ∧ q 2 i d = 0
  · rw [cnP_t (by unfold pPB; rw [upn_s]; exact z), e, if_pos z]
  · rw [cnP_f (by unfold pPB; rw [upn_s]; exact z), e, if_neg z, Nat.add_zero]
theorem cnH_up (q : Nat → Nat → Nat → Nat) (c : Nat → Nat) (i d x : Nat) : cnP (pPH q (upn c i d) x) (i + 1) = cnP (pPH q c x) i + (if ¬ d = 4 ∧ q 1 i d = x then 1 else 0) := by
  have e := (cn_ext (q := q) (c := upn c i d) (c2 := c) (i := i) (fun j hj => upn_o (by omega))).2.2 x
  by_cases z : ¬ d = 4 ∧ q 1 i d = x
  · rw [cnP_t (by unfold pPH; rw [upn_s]; exact z), e, if_pos z]
  · rw [cnP_f (by unfold pPH; rw [upn_s]; exact z), e, if_neg z, Nat.add_zero]
theorem SB_4 {cs : Nat → Nat → Int32} {q : Nat → Nat → Nat → Nat} {bl : Nat → Int} {c : Nat → Nat} {i : Nat} : SB cs q bl (upn c i 4) (i + 1) ↔ SB cs q bl c i := by
  have e1 : ∀ x, cnP (pPO q (upn c i 4) x) (i + 1) = cnP (pPO q c x) i := fun x => by rw [cnO_up, if_neg (fun z => z.1 rfl), Nat.add_zero]
  have e2 : ∀ x, cnP (pPB q (upn c i 4) x) (i + 1) = cnP (pPB q c x) i := fun x => by rw [cnB_up, if_neg (fun z => z.1 rfl), Nat.add_zero]
  have e3 : ∀ x, cnP (pPH q (upn c i 4) x) (i + 1) = cnP (pPH q c x) i := fun x => by rw [cnH_up, if_neg (fun z => z.1 rfl), Nat.add_zero]
  unfold SB pBl
  simp only [e1, e2, e3]
theorem NK_4 {q : Nat → Nat → Nat → Nat} {c : Nat → Nat} {i : Nat} (h : pNK q c i) : pNK q (upn c i 4) (i + 1) := by
  have e1 : ∀ x, cnP (pPO q (upn c i 4) x) (i + 1) = cnP (pPO q c x) i := fun x => by rw [cnO_up, if_neg (fun z => z.1 rfl), Nat.add_zero]
  have e2 : ∀ x, cnP (pPB q (upn c i 4) x) (i + 1) = cnP (pPB q c x) i := fun x => by rw [cnB_up, if_neg (fun z => z.1 rfl), Nat.add_zero]
  have e3 : ∀ x, cnP (pPH q (upn c i 4) x) (i + 1) = cnP (pPH q c x) i := fun x => by rw [cnH_up, if_neg (fun z => z.1 rfl), Nat.add_zero]
  unfold pNK at h ⊢
  simp only [e1, e2, e3]
  exact h
theorem SB_pp {cs : Nat → Nat → Int32} {q : Nat → Nat → Nat → Nat} {bl : Nat → Int} {c : Nat → Nat} {i d : Nat} (h : SB cs q bl c i) (hd : ¬ d = 4) (hx : q 0 i d < 12) (hh : q 1 i d < 8) (hw : q 2 i d = 1) : SB (w1 (w1 (w1 cs 36 (q 1 i d) (cs 36 (q 1 i d) + nI 1)) 33 (q 0 i d) (cs 33 (q 0 i d) + nI 1)) 35 (q 0 i d) (cs 35 (q 0 i d) + (nI 1) * (nI 1))) q bl (upn c i d) (i + 1) := by
  refine ⟨fun x h12 => ?_, fun g h8 => ?_⟩
  · obtain ⟨a1, a2, a3⟩ := h.1 x h12
    unfold pBl at a3 ⊢
    rw [cnO_up, cnB_up]
    by_cases z : x = q 0 i d
    · subst z
      rw [if_pos ⟨hd, rfl, hw⟩, if_neg (fun y => by omega)]
      refine ⟨?_, ?_, ?_⟩
      · exact (by simp [w1] : _ = cs 33 (q 0 i d) + nI 1).trans (by rw [a1, nI_add, Nat.add_assoc])
      · exact (by simp [w1] : _ = cs 34 (q 0 i d)).trans a2
      · exact (by simp [w1] : _ = cs 35 (q 0 i d) + (nI 1) * (nI 1)).trans (by rw [a3, show (nI 1) * (nI 1) = zI (1) by decide, zI_add]; exact congrArg zI (by omega))
    · rw [if_neg (fun y => z y.2.1.symm), if_neg (fun y => z y.2.1.symm)]
      exact ⟨(by simp [w1, z] : _ = cs 33 x).trans a1, (by simp [w1, z] : _ = cs 34 x).trans a2, (by simp [w1, z] : _ = cs 35 x).trans (a3.trans (congrArg zI (by omega)))⟩
  · have a1 := h.2 g h8
    rw [cnH_up]
    by_cases z : g = q 1 i d
    · subst z
      rw [if_pos ⟨hd, rfl⟩]
      exact (by simp [w1] : _ = cs 36 (q 1 i d) + nI 1).trans (by rw [a1, nI_add, Nat.add_assoc])
    · rw [if_neg (fun y => z y.2.symm)]
      exact (by simp [w1, z] : _ = cs 36 g).trans a1
theorem SB_pm {cs : Nat → Nat → Int32} {q : Nat → Nat → Nat → Nat} {bl : Nat → Int} {c : Nat → Nat} {i d : Nat} (h : SB cs q bl c i) (hd : ¬ d = 4) (hx : q 0 i d < 12) (hh : q 1 i d < 8) (hw : q 2 i d = 0) : SB (w1 (w1 (w1 cs 36 (q 1 i d) (cs 36 (q 1 i d) + nI 1)) 34 (q 0 i d) (cs 34 (q 0 i d) + nI 1)) 35 (q 0 i d) (cs 35 (q 0 i d) + ((-1)) * (nI 1))) q bl (upn c i d) (i + 1) := by
  refine ⟨fun x h12 => ?_, fun g h8 => ?_⟩
  · obtain ⟨a1, a2, a3⟩ := h.1 x h12
    unfold pBl at a3 ⊢
    rw [cnO_up, cnB_up]
    by_cases z : x = q 0 i d
    · subst z
      rw [if_neg (fun y => by omega), if_pos ⟨hd, rfl, hw⟩]
      refine ⟨?_, ?_, ?_⟩
      · exact (by simp [w1] : _ = cs 33 (q 0 i d)).trans a1
      · exact (by simp [w1] : _ = cs 34 (q 0 i d) + nI 1).trans (by rw [a2, nI_add, Nat.add_assoc])
      · exact (by simp [w1] : _ = cs 35 (q 0 i d) + ((-1)) * (nI 1)).trans (by rw [a3, show ((-1)) * (nI 1) = zI (-1) by decide, zI_add]; exact congrArg zI (by omega))
    · rw [if_neg (fun y => z y.2.1.symm), if_neg (fun y => z y.2.1.symm)]
      exact ⟨(by simp [w1, z] : _ = cs 33 x).trans a1, (by simp [w1, z] : _ = cs 34 x).trans a2, (by simp [w1, z] : _ = cs 35 x).trans (a3.trans (congrArg zI (by omega)))⟩
  · have a1 := h.2 g h8
    rw [cnH_up]
    by_cases z : g = q 1 i d
    · subst z
      rw [if_pos ⟨hd, rfl⟩]
      exact (by simp [w1] : _ = cs 36 (q 1 i d) + nI 1).trans (by rw [a1, nI_add, Nat.add_assoc])
    · rw [if_neg (fun y => z y.2.symm)]
      exact (by simp [w1, z] : _ = cs 36 g).trans a1
theorem SB_qp {cs : Nat → Nat → Int32} {q : Nat → Nat → Nat → Nat} {bl : Nat → Int} {c : Nat → Nat} {i d : Nat} (h : SB cs q bl (upn c i d) (i + 1)) (hd : ¬ d = 4) (hx : q 0 i d < 12) (hh : q 1 i d < 8) (hw : q 2 i d = 1) : SB (w1 (w1 (w1 cs 36 (q 1 i d) (cs 36 (q 1 i d) + (-1))) 33 (q 0 i d) (cs 33 (q 0 i d) + (-1))) 35 (q 0 i d) (cs 35 (q 0 i d) + (nI 1) * ((-1)))) q bl c i := by
  refine ⟨fun x h12 => ?_, fun g h8 => ?_⟩
  · obtain ⟨a1, a2, a3⟩ := h.1 x h12
    unfold pBl at a3 ⊢
    rw [cnO_up] at a1 a3
    rw [cnB_up] at a2 a3
    by_cases z : x = q 0 i d
    · subst z
      rw [if_pos ⟨hd, rfl, hw⟩] at a1 a3
      rw [if_neg (fun y => by omega)] at a2 a3
      refine ⟨?_, ?_, ?_⟩
      · exact (by simp [w1] : _ = cs 33 (q 0 i d) + (-1)).trans (by rw [a1, ← Nat.add_assoc]; exact pk_m1 _)
      · exact (by simp [w1] : _ = cs 34 (q 0 i d)).trans a2
      · exact (by simp [w1] : _ = cs 35 (q 0 i d) + (nI 1) * ((-1))).trans (by rw [a3, show (nI 1) * ((-1)) = zI (-1) by decide, zI_add]; exact congrArg zI (by omega))
    · rw [if_neg (fun y => z y.2.1.symm)] at a1 a3
      rw [if_neg (fun y => z y.2.1.symm)] at a2 a3
      exact ⟨(by simp [w1, z] : _ = cs 33 x).trans a1, (by simp [w1, z] : _ = cs 34 x).trans a2, (by simp [w1, z] : _ = cs 35 x).trans (a3.trans (congrArg zI (by omega)))⟩
  · have a1 := h.2 g h8
    rw [cnH_up] at a1
    by_cases z : g = q 1 i d
    · subst z
      rw [if_pos ⟨hd, rfl⟩] at a1
      exact (by simp [w1] : _ = cs 36 (q 1 i d) + (-1)).trans (by rw [a1, ← Nat.add_assoc]; exact pk_m1 _)
    · rw [if_neg (fun y => z y.2.symm)] at a1
      exact (by simp [w1, z] : _ = cs 36 g).trans a1
theorem SB_qm {cs : Nat → Nat → Int32} {q : Nat → Nat → Nat → Nat} {bl : Nat → Int} {c : Nat → Nat} {i d : Nat} (h : SB cs q bl (upn c i d) (i + 1)) (hd : ¬ d = 4) (hx : q 0 i d < 12) (hh : q 1 i d < 8) (hw : q 2 i d = 0) : SB (w1 (w1 (w1 cs 36 (q 1 i d) (cs 36 (q 1 i d) + (-1))) 34 (q 0 i d) (cs 34 (q 0 i d) + (-1))) 35 (q 0 i d) (cs 35 (q 0 i d) + ((-1)) * ((-1)))) q bl c i := by
  refine ⟨fun x h12 => ?_, fun g h8 => ?_⟩
  · obtain ⟨a1, a2, a3⟩ := h.1 x h12
    unfold pBl at a3 ⊢
    rw [cnO_up] at a1 a3
    rw [cnB_up] at a2 a3
    by_cases z : x = q 0 i d
    · subst z
      rw [if_neg (fun y => by omega)] at a1 a3
      rw [if_pos ⟨hd, rfl, hw⟩] at a2 a3
      refine ⟨?_, ?_, ?_⟩
      · exact (by simp [w1] : _ = cs 33 (q 0 i d)).trans a1
      · exact (by simp [w1] : _ = cs 34 (q 0 i d) + (-1)).trans (by rw [a2, ← Nat.add_assoc]; exact pk_m1 _)
      · exact (by simp [w1] : _ = cs 35 (q 0 i d) + ((-1)) * ((-1))).trans (by rw [a3, show ((-1)) * ((-1)) = zI (1) by decide, zI_add]; exact congrArg zI (by omega))
    · rw [if_neg (fun y => z y.2.1.symm)] at a1 a3
      rw [if_neg (fun y => z y.2.1.symm)] at a2 a3
      exact ⟨(by simp [w1, z] : _ = cs 33 x).trans a1, (by simp [w1, z] : _ = cs 34 x).trans a2, (by simp [w1, z] : _ = cs 35 x).trans (a3.trans (congrArg zI (by omega)))⟩
  · have a1 := h.2 g h8
    rw [cnH_up] at a1
    by_cases z : g = q 1 i d
    · subst z
      rw [if_pos ⟨hd, rfl⟩] at a1
      exact (by simp [w1] : _ = cs 36 (q 1 i d) + (-1)).trans (by rw [a1, ← Nat.add_assoc]; exact pk_m1 _)
    · rw [if_neg (fun y => z y.2.symm)] at a1
      exact (by simp [w1, z] : _ = cs 36 g).trans a1
theorem NK_p {q : Nat → Nat → Nat → Nat} {c : Nat → Nat} {i d : Nat} (h : pNK q c i) (hd : ¬ d = 4) (hx : q 0 i d < 12) (hh : q 1 i d < 8) (hw : q 2 i d = 1) : pNK q (upn c i d) (i + 1) ↔ (q 5 (q 0 i d) 0 + cnP (pPO q c (q 0 i d)) i < q 8 (q 0 i d) 0 ∧ q 7 (q 1 i d) 0 + cnP (pPH q c (q 1 i d)) i < q 10 (q 1 i d) 0) := by
  unfold pNK at h ⊢
  simp only [cnO_up, cnB_up, cnH_up]
  constructor
  · intro g
    have g1 := g.1 _ hx
    have g2 := g.2 _ hh
    rw [if_pos ⟨hd, rfl, hw⟩, if_neg (fun y => by omega)] at g1
    rw [if_pos ⟨hd, rfl⟩] at g2
    omega
  · intro g
    refine ⟨fun x h12 => ?_, fun x h8 => ?_⟩
    · have a := h.1 x h12
      by_cases z : x = q 0 i d
      · subst z
        rw [if_pos ⟨hd, rfl, hw⟩, if_neg (fun y => by omega)]
        omega
      · rw [if_neg (fun y => z y.2.1.symm), if_neg (fun y => z y.2.1.symm)]
        exact a
    · have a := h.2 x h8
      by_cases z : x = q 1 i d
      · subst z
        rw [if_pos ⟨hd, rfl⟩]
        omega
      · rw [if_neg (fun y => z y.2.symm)]
        exact a
theorem NK_m {q : Nat → Nat → Nat → Nat} {c : Nat → Nat} {i d : Nat} (h : pNK q c i) (hd : ¬ d = 4) (hx : q 0 i d < 12) (hh : q 1 i d < 8) (hw : q 2 i d = 0) : pNK q (upn c i d) (i + 1) ↔ (q 6 (q 0 i d) 0 + cnP (pPB q c (q 0 i d)) i < q 8 (q 0 i d) 0 ∧ q 7 (q 1 i d) 0 + cnP (pPH q c (q 1 i d)) i < q 10 (q 1 i d) 0) := by
  unfold pNK at h ⊢
  simp only [cnO_up, cnB_up, cnH_up]
  constructor
  · intro g
    have g1 := g.1 _ hx
    have g2 := g.2 _ hh
    rw [if_neg (fun y => by omega), if_pos ⟨hd, rfl, hw⟩] at g1
    rw [if_pos ⟨hd, rfl⟩] at g2
    omega
  · intro g
    refine ⟨fun x h12 => ?_, fun x h8 => ?_⟩
    · have a := h.1 x h12
      by_cases z : x = q 0 i d
      · subst z
        rw [if_neg (fun y => by omega), if_pos ⟨hd, rfl, hw⟩]
        omega
      · rw [if_neg (fun y => z y.2.1.symm), if_neg (fun y => z y.2.1.symm)]
        exact a
    · have a := h.2 x h8
      by_cases z : x = q 1 i d
      · subst z
        rw [if_pos ⟨hd, rfl⟩]
        omega
      · rw [if_neg (fun y => z y.2.symm)]
        exact a
theorem pr_cov {n : Nat} {q : Nat → Nat → Nat → Nat} {wo : Nat → Nat → Int} {bl : Nat → Int} (hD : pDA n q wo bl) {c : Nat → Nat} {i k code : Nat} (hik : i + k = n) (hv : ∀ j, j < i → vdg q j (c j)) (h1 : pl_pre c i * p5 k ≤ code) (h2 : code < pl_pre c i * p5 k + p5 k) : ∀ j, j < i → co n code j = c j := by
  refine pre_co (by omega) (fun j hj => ?_) ?_
  · obtain ⟨o, ho, e⟩ := hv j hj
    have := ((hD.2.1 j (by omega)).2.2.2 o ho).1
    omega
  · rw [show n - i = k by omega]
    exact rng_div h1 h2
theorem pr_cov2 {n : Nat} {q : Nat → Nat → Nat → Nat} {wo : Nat → Nat → Int} {bl : Nat → Int} (hD : pDA n q wo bl) {c : Nat → Nat} {i k code : Nat} (hik : i + k = n) (hv : ∀ j, j < i → vdg q j (c j)) (h1 : code / p5 k = pl_pre c i) : ∀ j, j < i → co n code j = c j := by
  refine pre_co (by omega) (fun j hj => ?_) ?_
  · obtain ⟨o, ho, e⟩ := hv j hj
    have := ((hD.2.1 j (by omega)).2.2.2 o ho).1
    omega
  · rw [show n - i = k by omega]
    exact h1
theorem pRow_v {cs : Nat → Nat → Int32} {q : Nat → Nat → Nat → Nat} {c : Nat → Nat} {i : Nat} (h : pRow cs q c i) : ∀ j, j < i → vdg q j (c j) := fun j hj => by
  obtain ⟨o, h1, h2, -⟩ := h j hj
  exact ⟨o, h1, h2⟩
/-- a part of a row that can't become better -/
theorem pr_W {n : Nat} {q : Nat → Nat → Nat → Nat} {wo : Nat → Nat → Int} {bl : Nat → Int} (hD : pDA n q wo bl) {cs : Nat → Nat → Int32} {c : Nat → Nat} {i k : Nat} (hik : i + k = n) (hv : ∀ j, j < i → vdg q j (c j)) (hR : pRp cs n q wo (sp_bo (pOK q bl n) (pBT wo n) (pl_pre c i * p5 k))) (hle : zI (pWo wo c i + pLw wo q n k) ≤ cs 28 14) : pRp cs n q wo (sp_bo (pOK q bl n) (pBT wo n) (pl_pre c i * p5 k + p5 k)) := by
  have hn7 := hD.1
  have b1 := pWo_bd hD (c := c) (i := i) (by omega) hv
  have b2 := pLw_bd hD (k := k) (by omega)
  rw [bo_skip (p5 k) (fun code h1 h2 hO => ?_)]
  · exact hR
  · rcases hR with ⟨-, h14⟩ | ⟨b, hb, hbv, h14, -⟩
    · rw [h14, show (-1000000 : Int32) = zI (-1000000) by decide, zI_le (by omega) (by omega) (by omega) (by omega)] at hle
      omega
    · refine ⟨b, hb, fun hB => ?_⟩
      have b3 := pWo_bd hD (c := co n b) (i := n) (Nat.le_refl n) hbv
      rw [h14, zI_le (by omega) (by omega) (by omega) (by omega)] at hle
      have e := pr_cov hD hik hv h1 h2
      have g := pWo_left (wo := wo) hO.1 (k := k) (by omega)
      rw [show n - k = i by omega, pWo_c (c2 := c) e] at g
      unfold pBT at hB
      omega
theorem pr_B {n : Nat} {q : Nat → Nat → Nat → Nat} {wo : Nat → Nat → Int} {bl : Nat → Int} (hD : pDA n q wo bl) {cs : Nat → Nat → Int32} {c : Nat → Nat} {i k : Nat} (hik : i + k = n) (hv : ∀ j, j < i → vdg q j (c j)) (hSD : SD cs n q wo) (hSL : SL cs n q wo) (hSB : SB cs q bl c i) (hR : pRp cs n q wo (sp_bo (pOK q bl n) (pBT wo n) (pl_pre c i * p5 k))) (hB : ¬ canB cs i) : pRp cs n q wo (sp_bo (pOK q bl n) (pBT wo n) (pl_pre c i * p5 k + p5 k)) := by
  have hn7 := hD.1
  rw [bo_skip (p5 k) (fun code h1 h2 hO => absurd (fun x hx => ?_) hB)]
  · exact hR
  · have e := pr_cov hD hik hv h1 h2
    have eO := (cn_ext (q := q) e).1 x
    have eB := (cn_ext (q := q) e).2.1 x
    have lO := cnP_left x 1 (P := pPO q (co n code) x) (fun j => Iff.rfl) hO.1 (k := k) (by omega)
    have lB := cnP_left x 0 (P := pPB q (co n code) x) (fun j => Iff.rfl) hO.1 (k := k) (by omega)
    have kp := hO.2.2 x hx
    have mO := cnP_mono (pPO q (co n code) x) (m := i) (n := n) (by omega)
    have mB := cnP_mono (pPB q (co n code) x) (m := i) (n := n) (by omega)
    have cO := cnP_le (pPO q (co n code) x) n
    have cB := cnP_le (pPB q (co n code) x) n
    have dx := hD.2.2.1 x hx
    have uO := pLo_le hD x 1 (k := k) (by omega)
    have uB := pLo_le hD x 0 (k := k) (by omega)
    have s1 := (hSL k (by omega)).2 x hx
    rw [show n - k = i by omega] at s1 lO lB
    rw [(hSB.1 x hx).2.2, s1.1, s1.2, (hSD.2.1 x hx).2]
    unfold pBl at kp ⊢
    rw [← eO, ← eB, ← zI_n, ← zI_n, ← zI_n, zI_sub, zI_add, zI_neg, zI_le (by omega) (by omega) (by omega) (by omega), zI_le (by omega) (by omega) (by omega) (by omega)]
    omega
theorem pr_L {n : Nat} {q : Nat → Nat → Nat → Nat} {wo : Nat → Nat → Int} {bl : Nat → Int} (hD : pDA n q wo bl) {cs : Nat → Nat → Int32} {c : Nat → Nat} (hr : pRow cs q c n) (hSD : SD cs n q wo) (hSL : SL cs n q wo) (hSB : SB cs q bl c n) (hNK : pNK q c n) (hR : pRp cs n q wo (sp_bo (pOK q bl n) (pBT wo n) (pl_pre c n * p5 0))) (hW : ¬ zI (pWo wo c n + pLw wo q n 0) ≤ cs 28 14) (hB : canB cs n) : pRp (wA (w1 cs 28 14 (zI (pWo wo c n))) 99 (va_cpy (cs 98) (cs 99) 0 0 7)) n q wo (sp_bo (pOK q bl n) (pBT wo n) (pl_pre c n * p5 0 + p5 0)) := by
  have hn7 := hD.1
  have hv := pRow_v hr
  have b1 := pWo_bd hD (c := c) (i := n) (Nat.le_refl n) hv
  have e := pr_cov hD (i := n) (k := 0) (code := pl_pre c n * p5 0) rfl hv (Nat.le_refl _) (Nat.lt_add_of_pos_right (p5_pos 0))
  have eW : pWo wo (co n (pl_pre c n * p5 0)) n = pWo wo c n := pWo_c e
  have hO : pOK q bl n (pl_pre c n * p5 0) := by
    refine ⟨fun j hj => by rw [e j hj]; exact hv j hj, ?_, fun x hx => ?_⟩
    · unfold pNK
      simp only [(cn_ext (q := q) e).1, (cn_ext (q := q) e).2.1, (cn_ext (q := q) e).2.2]
      exact hNK
    · have s1 := (hSL 0 (Nat.zero_le n)).2 x hx
      have g := hB x hx
      have cO := cnP_le (pPO q c x) n
      have cB := cnP_le (pPB q c x) n
      have dx := hD.2.2.1 x hx
      rw [Nat.sub_zero] at s1
      rw [(hSB.1 x hx).2.2, s1.1, s1.2, (hSD.2.1 x hx).2] at g
      unfold pBl at g ⊢
      rw [(cn_ext (q := q) e).1 x, (cn_ext (q := q) e).2.1 x]
      have z1 : pLo q n x 1 0 = 0 := rfl
      have z0 : pLo q n x 0 0 = 0 := rfl
      rw [z1, z0, ← zI_n, ← zI_n, zI_sub, zI_add, zI_neg, zI_le (by omega) (by omega) (by omega) (by omega), zI_le (by omega) (by omega) (by omega) (by omega)] at g
      omega
  have hbo : sp_bo (pOK q bl n) (pBT wo n) (pl_pre c n * p5 0 + p5 0) = some (pl_pre c n * p5 0) := sp_bo_p hO (fun b hb => by
    rcases hR with ⟨h0, -⟩ | ⟨b2, hb2, hbv, h14, -⟩
    · rw [h0] at hb
      cases hb
    · rw [hb2] at hb
      cases hb
      have b3 := pWo_bd hD (c := co n b) (i := n) (Nat.le_refl n) hbv
      have z1 : pLw wo q n 0 = 0 := rfl
      rw [h14, z1, zI_le (by omega) (by omega) (by omega) (by omega)] at hW
      unfold pBT
      rw [eW]
      omega)
  refine Or.inr ⟨_, hbo, hO.1, ?_, fun j hj => ?_⟩
  · rw [eW, wA_o _ _ (by decide), w1_s]
  · obtain ⟨o, o1, o2, o3⟩ := hr j hj
    refine ⟨o, o1, by rw [e j hj]; exact o2, ?_⟩
    rw [wA_s, pk_cpy_in (Nat.zero_le j) (by omega), Nat.zero_add, Nat.sub_zero]
    exact o3
theorem pr_0 {n : Nat} {q : Nat → Nat → Nat → Nat} {wo : Nat → Nat → Int} {bl : Nat → Int} (hD : pDA n q wo bl) {i k : Nat} (c : Nat → Nat) (hik : i + (k + 1) = n) : sp_bo (pOK q bl n) (pBT wo n) (pl_pre c i * p5 (k + 1) + pNd q i 0 * p5 k) = sp_bo (pOK q bl n) (pBT wo n) (pl_pre c i * p5 (k + 1)) := by
  have h := bo_gap (OK := pOK q bl n) (BT := pBT wo n) (n := n) (i := i) (k := k) (c := c) (d1 := 0) (d2 := pNd q i 0) hik.symm (Nat.zero_le _) (pNd_le hD (by omega) 0) (fun code h1 h2 h3 hO => by
    have := pNd_0 hD (by omega) (hO.1 i (by omega))
    omega)
  rwa [Nat.zero_mul, Nat.add_zero] at h
theorem pr_S {n : Nat} {q : Nat → Nat → Nat → Nat} {wo : Nat → Nat → Int} {bl : Nat → Int} (hD : pDA n q wo bl) {i k m : Nat} (c : Nat → Nat) (hik : i + (k + 1) = n) (hm : m < q 4 i 0) : sp_bo (pOK q bl n) (pBT wo n) (pl_pre c i * p5 (k + 1) + pNd q i (m + 1) * p5 k) = sp_bo (pOK q bl n) (pBT wo n) (pl_pre c i * p5 (k + 1) + (q 3 i m + 1) * p5 k) :=
  bo_gap hik.symm (pNd_lt hD (by omega) hm) (pNd_le hD (by omega) _) (fun code h1 h2 h3 hO => by
    have := pNd_S hD (by omega) hm (hO.1 i (by omega)) (by omega)
    omega)
theorem pr_N {n : Nat} {q : Nat → Nat → Nat → Nat} {wo : Nat → Nat → Int} {bl : Nat → Int} (hD : pDA n q wo bl) {i k m : Nat} {c : Nat → Nat} (hik : i + (k + 1) = n) (hv : ∀ j, j < i → vdg q j (c j)) (hm : m < q 4 i 0) (hN : ¬ pNK q (upn c i (q 3 i m)) (i + 1)) : sp_bo (pOK q bl n) (pBT wo n) (pl_pre c i * p5 (k + 1) + (q 3 i m + 1) * p5 k) = sp_bo (pOK q bl n) (pBT wo n) (pl_pre c i * p5 (k + 1) + q 3 i m * p5 k) :=
  bo_gap hik.symm (Nat.le_succ _) (Nat.le_trans (pNd_lt hD (by omega) hm) (pNd_le hD (by omega) _)) (fun code h1 h2 h3 hO => hN (by
    have e := pr_cov2 hD hik hv h1
    have e2 : ∀ j, j < i + 1 → upn c i (q 3 i m) j = co n code j := fun j hj => by
      rcases (by omega : j < i ∨ j = i) with z | rfl
      · rw [upn_o (by omega), e j z]
      · rw [upn_s]
        omega
    have x := cn_ext (q := q) e2
    unfold pNK
    simp only [x.1, x.2.1, x.2.2]
    refine ⟨fun y hy => ?_, fun y hy => ?_⟩
    · have a := hO.2.1.1 y hy
      have mO := cnP_mono (pPO q (co n code) y) (m := i + 1) (n := n) (by omega)
      have mB := cnP_mono (pPB q (co n code) y) (m := i + 1) (n := n) (by omega)
      omega
    · have a := hO.2.1.2 y hy
      have mO := cnP_mono (pPH q (co n code) y) (m := i + 1) (n := n) (by omega)
      omega))
