/-! THE PLAN OF THE SYSTEM, AND THE REFERENCE'S: what is kept, what is better -/
theorem bal_cn {sg : Nat → Nat → Int32} {x : Nat} : ∀ {n : Nat}, sp_bal sg n x = zI ((cnP (fun s => (sg 58 s = nI x ∧ (sg 56 s = nI 1 ∨ sg 56 s = nI 3)) ∧ sg 51 s = sg 27 x) n : Int) - (cnP (fun s => (sg 58 s = nI x ∧ (sg 56 s = nI 1 ∨ sg 56 s = nI 3)) ∧ ¬ sg 51 s = sg 27 x) n : Int))
  | 0 => by
    show (nI 0 : Int32) = zI (((0 : Nat) : Int) - ((0 : Nat) : Int))
    decide
  | n + 1 => by
    have ih := bal_cn (sg := sg) (x := x) (n := n)
    unfold sp_bal at ih ⊢
    rw [sp_S, ih]
    by_cases z : sg 58 n = nI x ∧ (sg 56 n = nI 1 ∨ sg 56 n = nI 3)
    · rw [if_pos z]
      by_cases y : sg 51 n = sg 27 x
      · rw [if_pos y, cnP_t (P := fun s => (sg 58 s = nI x ∧ (sg 56 s = nI 1 ∨ sg 56 s = nI 3)) ∧ sg 51 s = sg 27 x) ⟨z, y⟩, cnP_f (P := fun s => (sg 58 s = nI x ∧ (sg 56 s = nI 1 ∨ sg 56 s = nI 3)) ∧ ¬ sg 51 s = sg 27 x) (fun v => v.2 y), ← zI_n 1, zI_add]
        exact congrArg zI (by omega)
      · rw [if_neg y, cnP_f (P := fun s => (sg 58 s = nI x ∧ (sg 56 s = nI 1 ∨ sg 56 s = nI 3)) ∧ sg 51 s = sg 27 x) (fun v => y v.2), cnP_t (P := fun s => (sg 58 s = nI x ∧ (sg 56 s = nI 1 ∨ sg 56 s = nI 3)) ∧ ¬ sg 51 s = sg 27 x) ⟨z, y⟩, ← zI_m1, zI_add]
        exact congrArg zI (by omega)
    · rw [if_neg z, cnP_f (P := fun s => (sg 58 s = nI x ∧ (sg 56 s = nI 1 ∨ sg 56 s = nI 3)) ∧ sg 51 s = sg 27 x) (fun v => z v.1), cnP_f (P := fun s => (sg 58 s = nI x ∧ (sg 56 s = nI 1 ∨ sg 56 s = nI 3)) ∧ ¬ sg 51 s = sg 27 x) (fun v => z v.1)]
      exact Int32.add_zero _
/-- a plan's state at those who are in it, and at the others -/
theorem plS_in {sg my : Nat → Nat → Int32} {sel : Nat → Prop} {ns : Nat} {c : Nat → Nat} {i : Nat} (hi : i < (cnA sel ns).1) : plS sg my (cnA sel ns).2 c (cnA sel ns).1 56 ((cnA sel ns).2 i) = P56 c i ∧ plS sg my (cnA sel ns).2 c (cnA sel ns).1 57 ((cnA sel ns).2 i) = P57 sg (cnA sel ns).2 c i ∧ plS sg my (cnA sel ns).2 c (cnA sel ns).1 58 ((cnA sel ns).2 i) = P58 my (cnA sel ns).2 c i :=
  ⟨gU_at hi (fun a b ha hb => cnA_inj ha hb), gU_at hi (fun a b ha hb => cnA_inj ha hb), gU_at hi (fun a b ha hb => cnA_inj ha hb)⟩
theorem plS_out {sg my : Nat → Nat → Int32} {sel : Nat → Prop} {ns : Nat} {c : Nat → Nat} {s : Nat} (hs : ¬ chs sel s) : plS sg my (cnA sel ns).2 c (cnA sel ns).1 56 s = sg 56 s ∧ plS sg my (cnA sel ns).2 c (cnA sel ns).1 57 s = sg 57 s ∧ plS sg my (cnA sel ns).2 c (cnA sel ns).1 58 s = sg 58 s := by
  have h : ∀ i, i < (cnA sel ns).1 → ¬ (cnA sel ns).2 i = s := fun i hi z => hs (z ▸ (cnA_in sel ns i hi).2)
  exact ⟨gU_old h, gU_old h, gU_old h⟩
theorem vdg_iff {io : Nat → Int32} {sel : Nat → Prop} {sg my : Nat → Nat → Int32} {nh nx ns i d : Nat} (h4 : tN (sg 59 ((cnA sel ns).2 i)) ≤ 4) : vdg (qP io sel sg my nh nx ns) i d ↔ vdP sg my ((cnA sel ns).2 i) d := by
  show (∃ o, o < sdn sg my ((cnA sel ns).2 i) ∧ sdg sg my ((cnA sel ns).2 i) o = d) ↔ (d = 4 ∨ d < tN (sg 59 ((cnA sel ns).2 i)) ∧ ¬ my ((cnA sel ns).2 i) d = -1)
  constructor
  · rintro ⟨o, ho, rfl⟩
    rcases sd_lo ho h4 with z | z
    · exact Or.inl z.1
    · exact Or.inr ⟨z.2.1, z.2.2.1⟩
  · rintro (rfl | z)
    · exact ⟨_, Nat.lt_succ_self _, clA_hi _ _ _ (Nat.le_refl _)⟩
    · obtain ⟨o, h1, h2⟩ := clA_ex (fun d => ¬ my ((cnA sel ns).2 i) d = -1) _ d z.1 z.2
      exact ⟨o, Nat.lt_succ_of_lt h1, h2⟩
theorem add_c {a b c d : Nat} (h1 : a = c) (h2 : b = d) : a + b = c + d := by rw [h1, h2]
set_option maxHeartbeats 1000000 in
theorem KP_iff {io : Nat → Int32} {sg : Nat → Nat → Int32} {nh nx ns nf ny tp : Nat} {cm : Nat → Nat} {w : Nat → Nat → Nat} {cn : Nat → Nat} {wc : Nat → Nat → Nat} (hR : RV io sg nh nx ns nf ny tp cm w cn wc) (sel : Nat → Prop) {my : Nat → Nat → Int32} (hmy : my = (fun s k => sp_mby io sg cm w nx s (sg 60 (4 * s + k)))) (c : Nat → Nat) (hv : ∀ i, i < (cnA sel ns).1 → vdP sg my ((cnA sel ns).2 i) (c i)) : pKP (qP io sel sg my nh nx ns) (fun x => blP sel sg x ns) (cnA sel ns).1 c ↔ sp_kept io (plS sg my (cnA sel ns).2 c (cnA sel ns).1) ns nh nx := by
  obtain ⟨⟨⟨h3, hnh⟩, ⟨h4, hnx⟩, ⟨h5, hns⟩, -, -, -⟩, -, -, hRs, -, -, hRx, -, hRt, -, -⟩ := hR
  have hn7 := cnA_le sel ns
  -- guests
  have eG : ∀ g, g < nh → sp_pin (plS sg my (cnA sel ns).2 c (cnA sel ns).1) ns (nI g) = nI (cnP (bsG sel sg g) ns + cnP (pPH (qP io sel sg my nh nx ns) c g) (cnA sel ns).1) := fun g hg => by
    unfold sp_pin
    rw [sum_if, cn_split sel]
    refine congrArg nI ?_
    refine add_c (cnP_c (Q := bsG sel sg g) (fun s hs => ?_)) (cnP_c (Q := pPH (qP io sel sg my nh nx ns) c g) (fun i hi => ?_))
    · show (¬ chs sel s ∧ plS sg my (cnA sel ns).2 c (cnA sel ns).1 56 s = nI 1 ∧ plS sg my (cnA sel ns).2 c (cnA sel ns).1 57 s = nI g) ↔ (¬ chs sel s ∧ sg 56 s = nI 1 ∧ sg 57 s = nI g)
      exact and_congr_right (fun hc => by rw [(plS_out hc).1, (plS_out hc).2.1])
    · show (plS sg my (cnA sel ns).2 c (cnA sel ns).1 56 ((cnA sel ns).2 i) = nI 1 ∧ plS sg my (cnA sel ns).2 c (cnA sel ns).1 57 ((cnA sel ns).2 i) = nI g) ↔ (¬ c i = 4 ∧ tN (sg 60 (4 * (cnA sel ns).2 i + c i)) = g)
      rw [(plS_in hi).1, (plS_in hi).2.1]
      unfold P56 P57
      by_cases z : c i = 4
      · rw [if_pos z]
        exact ⟨fun y => absurd y.1 (by decide), fun y => absurd z y.1⟩
      · rw [if_neg z, if_neg z]
        obtain ⟨v, v1, v2⟩ := (hRt _ (cnA_in sel ns i hi).1).2.2.2.2.2.2.2.1 _ ((hv i hi).resolve_left z).1
        rw [v2, tN_nI (by omega)]
        exact ⟨fun y => ⟨z, (nI_eq (by omega) (by omega)).mp y.2⟩, fun y => ⟨rfl, congrArg nI y.2⟩⟩
  -- those who go out, and back
  have eA : ∀ x, x < nx → ∀ i, i < (cnA sel ns).1 → ¬ c i = 4 → my ((cnA sel ns).2 i) (c i) = nI x → (sg 27 x = sg 51 ((cnA sel ns).2 i) ∨ sg 28 x = sg 51 ((cnA sel ns).2 i)) := fun x hx i hi h4 hm => by
    obtain ⟨j, j1, j2, j3⟩ := my_in hmy ((hv i hi).resolve_left h4).2
    have : j = x := (nI_eq (by omega) (by omega)).mp (j2.symm.trans hm)
    rw [← this]
    rcases j3 with y | y
    · exact Or.inl y.1
    · exact Or.inr y.2
  have eT : ∀ i, i < (cnA sel ns).1 → ¬ c i = 4 → ∀ x, x < nx → (my ((cnA sel ns).2 i) (c i) = nI x ↔ tN (my ((cnA sel ns).2 i) (c i)) = x) := fun i hi h4 x hx => by
    obtain ⟨j, j1, j2, j3⟩ := my_in hmy ((hv i hi).resolve_left h4).2
    rw [j2, tN_nI (by omega), nI_eq (by omega) (by omega)]
  have d12 : ∀ x, x < nx → ¬ sg 27 x = sg 28 x := fun x hx z => by
    obtain ⟨a, b, h1, h2, h3, h4, h5⟩ := (hRx x hx).1
    rw [h4, h5, nI_eq (by omega) (by omega)] at z
    exact h3 z
  have eO : ∀ x, x < nx → sp_gof (plS sg my (cnA sel ns).2 c (cnA sel ns).1) ns (nI x) (sg 27 x) = nI (cnP (bsO sel sg x) ns + cnP (pPO (qP io sel sg my nh nx ns) c x) (cnA sel ns).1) := fun x hx => by
    unfold sp_gof
    rw [sum_if, cn_split sel]
    refine congrArg nI ?_
    refine add_c (cnP_c (Q := bsO sel sg x) (fun s hs => ?_)) (cnP_c (Q := pPO (qP io sel sg my nh nx ns) c x) (fun i hi => ?_))
    · show (¬ chs sel s ∧ plS sg my (cnA sel ns).2 c (cnA sel ns).1 56 s = nI 1 ∧ plS sg my (cnA sel ns).2 c (cnA sel ns).1 58 s = nI x ∧ sg 51 s = sg 27 x) ↔ (¬ chs sel s ∧ sg 56 s = nI 1 ∧ sg 58 s = nI x ∧ sg 27 x = sg 51 s)
      exact and_congr_right (fun hc => by rw [(plS_out hc).1, (plS_out hc).2.2, eq_comm (a := sg 51 s)])
    · show (plS sg my (cnA sel ns).2 c (cnA sel ns).1 56 ((cnA sel ns).2 i) = nI 1 ∧ plS sg my (cnA sel ns).2 c (cnA sel ns).1 58 ((cnA sel ns).2 i) = nI x ∧ sg 51 ((cnA sel ns).2 i) = sg 27 x) ↔ (¬ c i = 4 ∧ tN (my ((cnA sel ns).2 i) (c i)) = x ∧ sway sg my ((cnA sel ns).2 i) (c i) = 1)
      rw [(plS_in hi).1, (plS_in hi).2.2]
      unfold P56 P58
      by_cases z : c i = 4
      · rw [if_pos z]
        exact ⟨fun y => absurd y.1 (by decide), fun y => absurd z y.1⟩
      · rw [if_neg z, if_neg z, eT i hi z x hx]
        unfold sway
        constructor
        · rintro ⟨-, y1, y2⟩
          refine ⟨z, y1, if_pos ?_⟩
          rw [y1]
          exact y2.symm
        · rintro ⟨-, y1, y2⟩
          refine ⟨rfl, y1, ?_⟩
          rw [y1] at y2
          exact (Classical.byContradiction (fun v => absurd ((if_neg (fun u => v u.symm)).symm.trans y2) (by decide)))
  have eB : ∀ x, x < nx → sp_gof (plS sg my (cnA sel ns).2 c (cnA sel ns).1) ns (nI x) (sg 28 x) = nI (cnP (bsB sel sg x) ns + cnP (pPB (qP io sel sg my nh nx ns) c x) (cnA sel ns).1) := fun x hx => by
    unfold sp_gof
    rw [sum_if, cn_split sel]
    refine congrArg nI ?_
    refine add_c (cnP_c (Q := bsB sel sg x) (fun s hs => ?_)) (cnP_c (Q := pPB (qP io sel sg my nh nx ns) c x) (fun i hi => ?_))
    · show (¬ chs sel s ∧ plS sg my (cnA sel ns).2 c (cnA sel ns).1 56 s = nI 1 ∧ plS sg my (cnA sel ns).2 c (cnA sel ns).1 58 s = nI x ∧ sg 51 s = sg 28 x) ↔ (¬ chs sel s ∧ sg 56 s = nI 1 ∧ sg 58 s = nI x ∧ ¬ sg 27 x = sg 51 s)
      refine and_congr_right (fun hc => ?_)
      rw [(plS_out hc).1, (plS_out hc).2.2]
      constructor
      · rintro ⟨y1, y2, y3⟩
        exact ⟨y1, y2, fun v => d12 x hx (v.trans y3)⟩
      · rintro ⟨y1, y2, y3⟩
        refine ⟨y1, y2, ?_⟩
        rcases (hRt s hs).2.2.2.2.2.2.2.2.2 with ⟨v, -, v2⟩ | ⟨-, j, p, j1, -, j2, -, j3⟩
        · exact absurd (v2.symm.trans y2).symm (nI_nm1 (by omega))
        · have : j = x := (nI_eq (by omega) (by omega)).mp (j2.symm.trans y2)
          rw [this] at j3
          exact j3.resolve_left (fun u => y3 u.symm)
    · show (plS sg my (cnA sel ns).2 c (cnA sel ns).1 56 ((cnA sel ns).2 i) = nI 1 ∧ plS sg my (cnA sel ns).2 c (cnA sel ns).1 58 ((cnA sel ns).2 i) = nI x ∧ sg 51 ((cnA sel ns).2 i) = sg 28 x) ↔ (¬ c i = 4 ∧ tN (my ((cnA sel ns).2 i) (c i)) = x ∧ sway sg my ((cnA sel ns).2 i) (c i) = 0)
      rw [(plS_in hi).1, (plS_in hi).2.2]
      unfold P56 P58
      by_cases z : c i = 4
      · rw [if_pos z]
        exact ⟨fun y => absurd y.1 (by decide), fun y => absurd z y.1⟩
      · rw [if_neg z, if_neg z]
        unfold sway
        constructor
        · rintro ⟨-, y1, y2⟩
          have y3 := (eT i hi z x hx).mp y1
          refine ⟨z, y3, if_neg ?_⟩
          rw [y3]
          exact fun v => d12 x hx (v.trans y2)
        · rintro ⟨-, y1, y2⟩
          have y3 := (eT i hi z x hx).mpr y1
          refine ⟨rfl, y3, ?_⟩
          rw [y1] at y2
          rcases eA x hx i hi z y3 with v | v
          · exact absurd ((if_pos v).symm.trans y2) (by decide)
          · exact v.symm
  have eL : ∀ x, x < nx → sp_bal (plS sg my (cnA sel ns).2 c (cnA sel ns).1) ns x = zI (pBl (qP io sel sg my nh nx ns) (fun x => blP sel sg x ns) c x (cnA sel ns).1) := fun x hx => by
    have k1 : cnP (fun s => ((plS sg my (cnA sel ns).2 c (cnA sel ns).1) 58 s = nI x ∧ ((plS sg my (cnA sel ns).2 c (cnA sel ns).1) 56 s = nI 1 ∨ (plS sg my (cnA sel ns).2 c (cnA sel ns).1) 56 s = nI 3)) ∧ (plS sg my (cnA sel ns).2 c (cnA sel ns).1) 51 s = (plS sg my (cnA sel ns).2 c (cnA sel ns).1) 27 x) ns = cnP (beO sel sg x) ns + cnP (pPO (qP io sel sg my nh nx ns) c x) (cnA sel ns).1 := by
      refine (cn_split sel _ ns).trans (add_c (cnP_c (fun s hs => ?_)) (cnP_c (fun i hi => ?_)))
      · show (¬ chs sel s ∧ (plS sg my (cnA sel ns).2 c (cnA sel ns).1 58 s = nI x ∧ (plS sg my (cnA sel ns).2 c (cnA sel ns).1 56 s = nI 1 ∨ plS sg my (cnA sel ns).2 c (cnA sel ns).1 56 s = nI 3)) ∧ sg 51 s = sg 27 x) ↔ (¬ chs sel s ∧ (sg 56 s = nI 1 ∨ sg 56 s = nI 3) ∧ sg 58 s = nI x ∧ sg 27 x = sg 51 s)
        refine and_congr_right (fun hc => ?_)
        rw [(plS_out hc).1, (plS_out hc).2.2, eq_comm (a := sg 51 s)]
        exact ⟨fun y => ⟨y.1.2, y.1.1, y.2⟩, fun y => ⟨⟨y.2.1, y.1⟩, y.2.2⟩⟩
      · show ((plS sg my (cnA sel ns).2 c (cnA sel ns).1 58 ((cnA sel ns).2 i) = nI x ∧ (plS sg my (cnA sel ns).2 c (cnA sel ns).1 56 ((cnA sel ns).2 i) = nI 1 ∨ plS sg my (cnA sel ns).2 c (cnA sel ns).1 56 ((cnA sel ns).2 i) = nI 3)) ∧ sg 51 ((cnA sel ns).2 i) = sg 27 x) ↔ (¬ c i = 4 ∧ tN (my ((cnA sel ns).2 i) (c i)) = x ∧ sway sg my ((cnA sel ns).2 i) (c i) = 1)
        rw [(plS_in hi).1, (plS_in hi).2.2]
        unfold P56 P58
        by_cases z : c i = 4
        · rw [if_pos z, if_pos z]
          exact ⟨fun y => absurd y.1.1.symm (nI_nm1 (by omega)), fun y => absurd z y.1⟩
        · rw [if_neg z, if_neg z]
          unfold sway
          constructor
          · rintro ⟨⟨y1, -⟩, y2⟩
            have y3 := (eT i hi z x hx).mp y1
            refine ⟨z, y3, if_pos ?_⟩
            rw [y3]
            exact y2.symm
          · rintro ⟨-, y1, y2⟩
            refine ⟨⟨(eT i hi z x hx).mpr y1, Or.inl rfl⟩, ?_⟩
            rw [y1] at y2
            exact (Classical.byContradiction (fun v => absurd ((if_neg (fun u => v u.symm)).symm.trans y2) (by decide)))
    have k2 : cnP (fun s => ((plS sg my (cnA sel ns).2 c (cnA sel ns).1) 58 s = nI x ∧ ((plS sg my (cnA sel ns).2 c (cnA sel ns).1) 56 s = nI 1 ∨ (plS sg my (cnA sel ns).2 c (cnA sel ns).1) 56 s = nI 3)) ∧ ¬ (plS sg my (cnA sel ns).2 c (cnA sel ns).1) 51 s = (plS sg my (cnA sel ns).2 c (cnA sel ns).1) 27 x) ns = cnP (beB sel sg x) ns + cnP (pPB (qP io sel sg my nh nx ns) c x) (cnA sel ns).1 := by
      refine (cn_split sel _ ns).trans (add_c (cnP_c (fun s hs => ?_)) (cnP_c (fun i hi => ?_)))
      · show (¬ chs sel s ∧ (plS sg my (cnA sel ns).2 c (cnA sel ns).1 58 s = nI x ∧ (plS sg my (cnA sel ns).2 c (cnA sel ns).1 56 s = nI 1 ∨ plS sg my (cnA sel ns).2 c (cnA sel ns).1 56 s = nI 3)) ∧ ¬ sg 51 s = sg 27 x) ↔ (¬ chs sel s ∧ (sg 56 s = nI 1 ∨ sg 56 s = nI 3) ∧ sg 58 s = nI x ∧ ¬ sg 27 x = sg 51 s)
        refine and_congr_right (fun hc => ?_)
        rw [(plS_out hc).1, (plS_out hc).2.2, eq_comm (a := sg 51 s)]
        exact ⟨fun y => ⟨y.1.2, y.1.1, y.2⟩, fun y => ⟨⟨y.2.1, y.1⟩, y.2.2⟩⟩
      · show ((plS sg my (cnA sel ns).2 c (cnA sel ns).1 58 ((cnA sel ns).2 i) = nI x ∧ (plS sg my (cnA sel ns).2 c (cnA sel ns).1 56 ((cnA sel ns).2 i) = nI 1 ∨ plS sg my (cnA sel ns).2 c (cnA sel ns).1 56 ((cnA sel ns).2 i) = nI 3)) ∧ ¬ sg 51 ((cnA sel ns).2 i) = sg 27 x) ↔ (¬ c i = 4 ∧ tN (my ((cnA sel ns).2 i) (c i)) = x ∧ sway sg my ((cnA sel ns).2 i) (c i) = 0)
        rw [(plS_in hi).1, (plS_in hi).2.2]
        unfold P56 P58
        by_cases z : c i = 4
        · rw [if_pos z, if_pos z]
          exact ⟨fun y => absurd y.1.1.symm (nI_nm1 (by omega)), fun y => absurd z y.1⟩
        · rw [if_neg z, if_neg z]
          unfold sway
          constructor
          · rintro ⟨⟨y1, -⟩, y2⟩
            have y3 := (eT i hi z x hx).mp y1
            refine ⟨z, y3, if_neg ?_⟩
            rw [y3]
            exact fun v => y2 v.symm
          · rintro ⟨-, y1, y2⟩
            refine ⟨⟨(eT i hi z x hx).mpr y1, Or.inl rfl⟩, fun v => ?_⟩
            rw [y1] at y2
            exact absurd ((if_pos v.symm).symm.trans y2) (by decide)
    rw [bal_cn, k1, k2]
    refine congrArg zI ?_
    unfold pBl blP
    dsimp only
    omega
  have lO : ∀ x, cnP (pPO (qP io sel sg my nh nx ns) c x) (cnA sel ns).1 ≤ 7 := fun x => Nat.le_trans (cnP_le _ _) hn7
  have lB : ∀ x, cnP (pPB (qP io sel sg my nh nx ns) c x) (cnA sel ns).1 ≤ 7 := fun x => Nat.le_trans (cnP_le _ _) hn7
  have lH : ∀ x, cnP (pPH (qP io sel sg my nh nx ns) c x) (cnA sel ns).1 ≤ 7 := fun x => Nat.le_trans (cnP_le _ _) hn7
  have cO : ∀ x, cnP (bsO sel sg x) ns ≤ 16 := fun x => Nat.le_trans (cnP_le _ _) hns
  have cB : ∀ x, cnP (bsB sel sg x) ns ≤ 16 := fun x => Nat.le_trans (cnP_le _ _) hns
  have cG : ∀ x, cnP (bsG sel sg x) ns ≤ 16 := fun x => Nat.le_trans (cnP_le _ _) hns
  have cl : ∀ x, -16 ≤ blP sel sg x ns ∧ blP sel sg x ns ≤ 16 := fun x => by
    have a3 := cnP_le (beO sel sg x) ns
    have a4 := cnP_le (beB sel sg x) ns
    unfold blP
    omega
  have bb : ∀ x, -23 ≤ pBl (qP io sel sg my nh nx ns) (fun x => blP sel sg x ns) c x (cnA sel ns).1 ∧ pBl (qP io sel sg my nh nx ns) (fun x => blP sel sg x ns) c x (cnA sel ns).1 ≤ 23 := fun x => by
    have := cl x
    have := lO x
    have := lB x
    unfold pBl
    dsimp only
    omega
  have fA : ∀ x, x < nx → (kp_A io (plS sg my (cnA sel ns).2 c (cnA sel ns).1) ns x ↔ (cnP (bsO sel sg x) ns + cnP (pPO (qP io sel sg my nh nx ns) c x) (cnA sel ns).1 ≤ b8 io sg 29 nx x ∧ cnP (bsB sel sg x) ns + cnP (pPB (qP io sel sg my nh nx ns) c x) (cnA sel ns).1 ≤ b8 io sg 29 nx x) ∧ pBl (qP io sel sg my nh nx ns) (fun x => blP sel sg x ns) c x (cnA sel ns).1 ≤ (b8 io sg 30 nx x : Int) ∧ -(b8 io sg 30 nx x : Int) ≤ pBl (qP io sel sg my nh nx ns) (fun x => blP sel sg x ns) c x (cnA sel ns).1) := fun x hx => by
    have := cO x
    have := cB x
    have := lO x
    have := lB x
    have b2 := bb x
    show (sp_inf io sg x = 0 ∨ ¬ sg 29 x < sp_gof (plS sg my (cnA sel ns).2 c (cnA sel ns).1) ns (nI x) (sg 27 x) ∧ ¬ sg 29 x < sp_gof (plS sg my (cnA sel ns).2 c (cnA sel ns).1) ns (nI x) (sg 28 x) ∧ ¬ sg 30 x < sp_bal (plS sg my (cnA sel ns).2 c (cnA sel ns).1) ns x ∧ -sp_bal (plS sg my (cnA sel ns).2 c (cnA sel ns).1) ns x ≤ sg 30 x) ↔ _
    rw [eO x hx, eB x hx, eL x hx]
    unfold b8
    by_cases z : sp_inf io sg x = 0
    · rw [if_neg (fun y => y.2 z), if_neg (fun y => y.2 z)]
      exact ⟨fun _ => by omega, fun _ => Or.inl z⟩
    · rw [if_pos ⟨hx, z⟩, if_pos ⟨hx, z⟩]
      have q9 := inN_tN (hRx x hx).2.1 (by decide)
      have q0 := inN_tN (hRx x hx).2.2.1 (by decide)
      obtain ⟨u, hu⟩ : ∃ u, u = tN (sg 29 x) := ⟨_, rfl⟩
      obtain ⟨v, hv⟩ : ∃ v, v = tN (sg 30 x) := ⟨_, rfl⟩
      rw [← hu] at q9 ⊢
      rw [← hv] at q0 ⊢
      rw [q9.1, q0.1, nI_ltI (by omega) (by omega), nI_ltI (by omega) (by omega), ← zI_n v, zI_neg, zI_lt (by omega) (by omega) (by omega) (by omega), zI_le (by omega) (by omega) (by omega) (by omega)]
      exact ⟨fun y => by have := y.resolve_left z; omega, fun y => Or.inr (by omega)⟩
  have fB : ∀ g, g < nh → (kp_B (plS sg my (cnA sel ns).2 c (cnA sel ns).1) ns g ↔ cnP (bsG sel sg g) ns + cnP (pPH (qP io sel sg my nh nx ns) c g) (cnA sel ns).1 ≤ b10 sg nh g) := fun g hg => by
    have := cG g
    have := lH g
    show sp_pin (plS sg my (cnA sel ns).2 c (cnA sel ns).1) ns (nI g) ≤ sg 11 g ↔ _
    have q9 := inN_tN (hRs g hg).2.2.1 (by decide)
    rw [eG g hg, show b10 sg nh g = tN (sg 11 g) from if_pos hg, q9.1, nI_leI (by omega) (by omega), tN_nI (by omega)]
  constructor
  · rintro ⟨⟨k1, k2⟩, k3⟩
    exact ⟨fun x hx => (fA x hx).mpr ⟨k1 x (by omega), k3 x (by omega)⟩, fun g hg => (fB g hg).mpr (k2 g (by omega))⟩
  · rintro ⟨k1, k2⟩
    refine ⟨⟨fun x hx => ?_, fun g hg => ?_⟩, fun x hx => ?_⟩
    · by_cases z : x < nx
      · exact ((fA x z).mp (k1 x z)).1
      · show cnP (bsO sel sg x) ns + cnP (pPO (qP io sel sg my nh nx ns) c x) (cnA sel ns).1 ≤ b8 io sg 29 nx x ∧ cnP (bsB sel sg x) ns + cnP (pPB (qP io sel sg my nh nx ns) c x) (cnA sel ns).1 ≤ b8 io sg 29 nx x
        have := cO x
        have := cB x
        have := lO x
        have := lB x
        rw [show b8 io sg 29 nx x = 1000 from if_neg (fun y => z y.1)]
        omega
    · by_cases z : g < nh
      · exact (fB g z).mp (k2 g z)
      · show cnP (bsG sel sg g) ns + cnP (pPH (qP io sel sg my nh nx ns) c g) (cnA sel ns).1 ≤ b10 sg nh g
        have := cG g
        have := lH g
        rw [show b10 sg nh g = 1000 from if_neg z]
        omega
    · by_cases z : x < nx
      · exact ((fA x z).mp (k1 x z)).2
      · show pBl (qP io sel sg my nh nx ns) (fun x => blP sel sg x ns) c x (cnA sel ns).1 ≤ (b8 io sg 30 nx x : Int) ∧ -(b8 io sg 30 nx x : Int) ≤ pBl (qP io sel sg my nh nx ns) (fun x => blP sel sg x ns) c x (cnA sel ns).1
        have b2 := bb x
        rw [show b8 io sg 30 nx x = 1000 from if_neg (fun y => z y.1)]
        omega
