/-! THE PLAN OF THE SYSTEM, AND THE REFERENCE'S -/
theorem sum_if {P : Nat → Prop} [d : ∀ s, Decidable (P s)] : ∀ {n : Nat}, sp_sum (fun s => if P s then nI 1 else nI 0) n = nI (cnP P n)
  | 0 => rfl
  | n + 1 => by
    rw [sp_S, sum_if]
    by_cases z : P n
    · rw [if_pos z, cnP_t z, nI_add]
    · rw [if_neg z, cnP_f z]
      exact Int32.add_zero _
theorem cnA_in (sel : Nat → Prop) : ∀ m i, i < (cnA sel m).1 → (cnA sel m).2 i < m ∧ chs sel ((cnA sel m).2 i)
  | m + 1, i, h => by
    by_cases z : chs sel m
    · rw [cnA_p z.2 z.1] at h ⊢
      have h2 : i < (cnA sel m).1 + 1 := h
      show upn (cnA sel m).2 (cnA sel m).1 m i < m + 1 ∧ chs sel (upn (cnA sel m).2 (cnA sel m).1 m i)
      by_cases y : i = (cnA sel m).1
      · rw [y, upn_s]
        exact ⟨Nat.lt_succ_self m, z⟩
      · rw [upn_o y]
        have := cnA_in sel m i (by omega)
        exact ⟨by omega, this.2⟩
    · have e : cnA sel (m + 1) = cnA sel m := if_neg (fun y => z ⟨y.2, y.1⟩)
      rw [e] at h ⊢
      have := cnA_in sel m i h
      exact ⟨by omega, this.2⟩
theorem cnA_up (sel : Nat → Prop) : ∀ m i j, i < j → j < (cnA sel m).1 → (cnA sel m).2 i < (cnA sel m).2 j
  | m + 1, i, j, hij, h => by
    by_cases z : chs sel m
    · rw [cnA_p z.2 z.1] at h ⊢
      have h2 : j < (cnA sel m).1 + 1 := h
      show upn (cnA sel m).2 (cnA sel m).1 m i < upn (cnA sel m).2 (cnA sel m).1 m j
      rw [upn_o (by omega)]
      by_cases y : j = (cnA sel m).1
      · rw [y, upn_s]
        exact (cnA_in sel m i (by omega)).1
      · rw [upn_o y]
        exact cnA_up sel m i j hij (by omega)
    · have e : cnA sel (m + 1) = cnA sel m := if_neg (fun y => z ⟨y.2, y.1⟩)
      rw [e] at h ⊢
      exact cnA_up sel m i j hij h
theorem cnA_inj {sel : Nat → Prop} {m i j : Nat} (hi : i < (cnA sel m).1) (hj : j < (cnA sel m).1) (h : (cnA sel m).2 i = (cnA sel m).2 j) : i = j := by
  rcases Nat.lt_trichotomy i j with z | z | z
  · have := cnA_up sel m i j z hj
    omega
  · exact z
  · have := cnA_up sel m j i z hi
    omega
theorem cn_split (sel R : Nat → Prop) : ∀ m, cnP R m = cnP (fun s => ¬ chs sel s ∧ R s) m + cnP (fun i => R ((cnA sel m).2 i)) (cnA sel m).1
  | 0 => rfl
  | m + 1 => by
    have ih := cn_split sel R m
    by_cases z : chs sel m
    · have e1 : cnP (fun s => ¬ chs sel s ∧ R s) (m + 1) = cnP (fun s => ¬ chs sel s ∧ R s) m := cnP_f (fun y => y.1 z)
      rw [cnA_p z.2 z.1, e1]
      show cnP R (m + 1) = cnP (fun s => ¬ chs sel s ∧ R s) m + cnP (fun i => R (upn (cnA sel m).2 (cnA sel m).1 m i)) ((cnA sel m).1 + 1)
      have e2 : cnP (fun i => R (upn (cnA sel m).2 (cnA sel m).1 m i)) (cnA sel m).1 = cnP (fun i => R ((cnA sel m).2 i)) (cnA sel m).1 := cnP_c (fun j hj => by rw [upn_o (show ¬ j = (cnA sel m).1 by omega)])
      by_cases y : R m
      · rw [cnP_t y, cnP_t (P := fun i => R (upn (cnA sel m).2 (cnA sel m).1 m i)) (by show R (upn (cnA sel m).2 (cnA sel m).1 m (cnA sel m).1); rw [upn_s]; exact y), e2]
        omega
      · rw [cnP_f y, cnP_f (P := fun i => R (upn (cnA sel m).2 (cnA sel m).1 m i)) (by show ¬ R (upn (cnA sel m).2 (cnA sel m).1 m (cnA sel m).1); rw [upn_s]; exact y), e2]
        omega
    · have e : cnA sel (m + 1) = cnA sel m := if_neg (fun y => z ⟨y.2, y.1⟩)
      rw [e]
      by_cases y : R m
      · rw [cnP_t y, cnP_t (P := fun s => ¬ chs sel s ∧ R s) ⟨z, y⟩]
        omega
      · rw [cnP_f y, cnP_f (P := fun s => ¬ chs sel s ∧ R s) (fun v => y v.2)]
        omega
theorem gU_at {f : Nat → Int32} {wh : Nat → Nat} {val : Nat → Int32} {i : Nat} : ∀ {n : Nat}, i < n → (∀ a b, a < n → b < n → wh a = wh b → a = b) → gU f wh val n (wh i) = val i
  | n + 1, h, hi => by
    show upd (gU f wh val n) (wh n) (val n) (wh i) = val i
    unfold upd
    by_cases z : i = n
    · rw [if_pos (by rw [z]), z]
    · rw [if_neg (fun y => z (hi i n h (Nat.lt_succ_self n) y))]
      exact gU_at (by omega) (fun a b ha hb => hi a b (by omega) (by omega))
/-- the best of the same plans by the same order is the same -/
theorem bo_congr {OK OK2 : Nat → Prop} {BT BT2 : Nat → Nat → Prop} (h1 : ∀ c, OK c ↔ OK2 c) (h2 : ∀ c b, OK c → OK b → (BT c b ↔ BT2 c b)) : ∀ m, sp_bo OK BT m = sp_bo OK2 BT2 m
  | 0 => rfl
  | m + 1 => by
    have ih := bo_congr h1 h2 m
    by_cases z : OK m ∧ ∀ b, sp_bo OK BT m = some b → BT m b
    · rw [sp_bo_p z.1 z.2]
      exact (sp_bo_p ((h1 m).mp z.1) (fun b hb => by
        have hb2 := ih.trans hb
        exact (h2 m b z.1 (sp_bo_ok hb2).1).mp (z.2 b hb2))).symm
    · rw [sp_bo_n z, ih]
      exact (sp_bo_n (fun y => z ⟨(h1 m).mpr y.1, fun b hb => (h2 m b ((h1 m).mpr y.1) (sp_bo_ok hb).1).mpr (y.2 b (ih.symm.trans hb))⟩)).symm
noncomputable def qP (io : Nat → Int32) (sel : Nat → Prop) (sg my : Nat → Nat → Int32) (nh nx ns k i d : Nat) : Nat := match k with
  | 0 => tN (my ((cnA sel ns).2 i) d)
  | 1 => tN (sg 60 (4 * (cnA sel ns).2 i + d))
  | 2 => sway sg my ((cnA sel ns).2 i) d
  | 3 => sdg sg my ((cnA sel ns).2 i) d
  | 4 => sdn sg my ((cnA sel ns).2 i)
  | 5 => cnP (bsO sel sg i) ns
  | 6 => cnP (bsB sel sg i) ns
  | 7 => cnP (bsG sel sg i) ns
  | 8 => b8 io sg 29 nx i
  | 9 => b8 io sg 30 nx i
  | _ => b10 sg nh i
def woP (pl : Nat) (sg : Nat → Nat → Int32) (wh : Nat → Nat) (i d : Nat) : Int := swo pl sg (wh i) d
theorem PpI_SD {D : Nat → Nat → Nat} {cs cs1 : Nat → Nat → Int32} {io : Nat → Int32} {sel : Nat → Prop} {pl : Nat} {sg my : Nat → Nat → Int32} {nh nx ns : Nat} (h : PpI D cs cs1 io sel pl sg my nh nx ns) (c : Nat → Nat) : SD cs1 (cnA sel ns).1 (qP io sel sg my nh nx ns) (woP pl sg (cnA sel ns).2) ∧ SB cs1 (qP io sel sg my nh nx ns) (fun x => blP sel sg x ns) c 0 := by
  obtain ⟨h1, h2, h3, h4, h5⟩ := h
  refine ⟨⟨h2, fun x hx => ⟨h5.2.1 x hx, h5.2.2 x hx⟩, fun g hg => h5.1 g hg, fun i hi => ⟨(h3 i hi).2.1, fun o ho => (h3 i hi).2.2 o ho⟩⟩, fun x hx => ⟨(h4.1 x hx).1, (h4.1 x hx).2.1, (h4.1 x hx).2.2.trans (congrArg zI ?_)⟩, fun g hg => h4.2 g hg⟩
  show blP sel sg x ns = blP sel sg x ns + ((0 : Nat) : Int) - ((0 : Nat) : Int)
  omega
/-- what the reference says of a student's options -/
theorem my_in {io : Nat → Int32} {sg : Nat → Nat → Int32} {cm : Nat → Nat} {w : Nat → Nat → Nat} {nx s k : Nat} {my : Nat → Nat → Int32} (hmy : my = (fun s k => sp_mby io sg cm w nx s (sg 60 (4 * s + k)))) (h : ¬ my s k = -1) : ∃ j, j < nx ∧ my s k = nI j ∧ sp_join sg s j (sg 60 (4 * s + k)) := by
  rw [hmy] at h ⊢
  show ∃ j, j < nx ∧ sp_mby io sg cm w nx s (sg 60 (4 * s + k)) = nI j ∧ _
  unfold sp_mby
  rcases fst_in (P := sp_mayP io sg cm w s (sg 60 (4 * s + k)) (tN (sg 53 s)) (tN (sp_lev sg s (tN (sg 10 (tN (sg 60 (4 * s + k))))))) (tN (sg 54 s)) (tN (sg 52 s))) nx with z | ⟨j, h1, h2, h3⟩
  · exact absurd z h
  · exact ⟨j, h1, h2, h3.1⟩
theorem sd_lo {sg my : Nat → Nat → Int32} {s o : Nat} (ho : o < sdn sg my s) (h4 : tN (sg 59 s) ≤ 4) : sdg sg my s o = 4 ∧ o + 1 = sdn sg my s ∨ sdg sg my s o < 4 ∧ sdg sg my s o < tN (sg 59 s) ∧ ¬ my s (sdg sg my s o) = -1 ∧ o + 1 < sdn sg my s := by
  unfold sdn at ho ⊢
  unfold sdg
  rcases (by omega : o = (clA (fun d => ¬ my s d = -1) (tN (sg 59 s))).1 ∨ o < (clA (fun d => ¬ my s d = -1) (tN (sg 59 s))).1) with z | z
  · exact Or.inl ⟨clA_hi _ _ _ (by omega), by omega⟩
  · have := clA_lo (fun d => ¬ my s d = -1) (tN (sg 59 s)) o z
    exact Or.inr ⟨by omega, this.1, this.2, by omega⟩
theorem swo_bd (pl : Nat) (sg : Nat → Nat → Int32) (s d : Nat) : -4096 ≤ swo pl sg s d ∧ swo pl sg s d ≤ 512 := by
  have h1 : 0 ≤ wInt d ∧ wInt d ≤ 512 := by
    unfold wInt
    split <;> decide
  have h2 : 0 ≤ penI pl ∧ penI pl ≤ 4096 := by
    unfold penI
    split <;> decide
  unfold swo
  split <;> omega
theorem pDA_P {io : Nat → Int32} {sg : Nat → Nat → Int32} {nh nx ns nf ny tp : Nat} {cm : Nat → Nat} {w : Nat → Nat → Nat} {cn : Nat → Nat} {wc : Nat → Nat → Nat} (hR : RV io sg nh nx ns nf ny tp cm w cn wc) (sel : Nat → Prop) (pl : Nat) {my : Nat → Nat → Int32} (hmy : my = (fun s k => sp_mby io sg cm w nx s (sg 60 (4 * s + k)))) : pDA (cnA sel ns).1 (qP io sel sg my nh nx ns) (woP pl sg (cnA sel ns).2) (fun x => blP sel sg x ns) := by
  obtain ⟨⟨⟨h3, hnh⟩, ⟨h4, hnx⟩, ⟨h5, hns⟩, -, -, -⟩, -, -, hRs, -, -, hRx, -, hRt, -, -⟩ := hR
  refine ⟨cnA_le sel ns, fun i hi => ?_, fun x hx => ?_, fun g hg => ?_⟩
  · have hs := (cnA_in sel ns i hi).1
    obtain ⟨s, es⟩ : ∃ s, s = (cnA sel ns).2 i := ⟨_, rfl⟩
    have hw := (inN_tN (hRt _ hs).2.2.2.2.2.2.1 (by decide)).2
    have hwi := (hRt _ hs).2.2.2.2.2.2.2.1
    rw [← es] at hs hw hwi
    show 1 ≤ sdn sg my ((cnA sel ns).2 i) ∧ sdn sg my ((cnA sel ns).2 i) ≤ 5 ∧ (∀ o, o + 1 < sdn sg my ((cnA sel ns).2 i) → sdg sg my ((cnA sel ns).2 i) o < sdg sg my ((cnA sel ns).2 i) (o + 1)) ∧ ∀ o, o < sdn sg my ((cnA sel ns).2 i) → sdg sg my ((cnA sel ns).2 i) o ≤ 4 ∧ -4096 ≤ swo pl sg ((cnA sel ns).2 i) (sdg sg my ((cnA sel ns).2 i) o) ∧ swo pl sg ((cnA sel ns).2 i) (sdg sg my ((cnA sel ns).2 i) o) ≤ 512 ∧ (¬ sdg sg my ((cnA sel ns).2 i) o = 4 → tN (my ((cnA sel ns).2 i) (sdg sg my ((cnA sel ns).2 i) o)) < 12 ∧ tN (sg 60 (4 * (cnA sel ns).2 i + sdg sg my ((cnA sel ns).2 i) o)) < 8 ∧ (sway sg my ((cnA sel ns).2 i) (sdg sg my ((cnA sel ns).2 i) o) = 0 ∨ sway sg my ((cnA sel ns).2 i) (sdg sg my ((cnA sel ns).2 i) o) = 1))
    rw [← es]
    have hcl := clA_le (fun d => ¬ my s d = -1) (tN (sg 59 s))
    refine ⟨by unfold sdn; omega, by unfold sdn; omega, fun o ho => ?_, fun o ho => ?_⟩
    · rcases sd_lo (my := my) (o := o) (by omega) hw with z | z
      · omega
      · rcases sd_lo ho hw with y | y
        · omega
        · exact clA_mono _ _ o (by unfold sdn at y; omega)
    · refine ⟨?_, (swo_bd pl sg s _).1, (swo_bd pl sg s _).2, fun hd => ?_⟩
      · rcases sd_lo ho hw with z | z <;> omega
      · rcases sd_lo ho hw with z | z
        · exact absurd z.1 hd
        · obtain ⟨j, j1, j2, -⟩ := my_in hmy z.2.2.1
          obtain ⟨v, v1, v2⟩ := hwi _ z.2.1
          refine ⟨by rw [j2, tN_nI (by omega)]; omega, by rw [v2, tN_nI (by omega)]; omega, ?_⟩
          unfold sway
          split
          · exact Or.inr rfl
          · exact Or.inl rfl
  · show cnP (bsO sel sg x) ns ≤ 16 ∧ cnP (bsB sel sg x) ns ≤ 16 ∧ -16 ≤ blP sel sg x ns ∧ blP sel sg x ns ≤ 16 ∧ b8 io sg 29 nx x ≤ 1000 ∧ b8 io sg 30 nx x ≤ 1000
    have a1 := cnP_le (bsO sel sg x) ns
    have a2 := cnP_le (bsB sel sg x) ns
    have a3 := cnP_le (beO sel sg x) ns
    have a4 := cnP_le (beB sel sg x) ns
    refine ⟨by omega, by omega, by unfold blP; omega, by unfold blP; omega, ?_, ?_⟩
    · unfold b8
      split
      · next z =>
        have := (inN_tN (hRx x z.1).2.1 (by decide)).2
        omega
      · exact Nat.le_refl _
    · unfold b8
      split
      · next z =>
        have := (inN_tN (hRx x z.1).2.2.1 (by decide)).2
        omega
      · exact Nat.le_refl _
  · show cnP (bsG sel sg g) ns ≤ 16 ∧ b10 sg nh g ≤ 1000
    have a1 := cnP_le (bsG sel sg g) ns
    refine ⟨by omega, ?_⟩
    unfold b10
    split
    · next z =>
      have := (inN_tN (hRs g z).2.2.1 (by decide)).2
      omega
    · exact Nat.le_refl _
