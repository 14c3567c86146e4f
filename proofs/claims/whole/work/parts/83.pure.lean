/-! TURNED MARKS, TERMS: the two sides say the same -/
def bN (sg : Nat → Nat → Int32) (sc : Nat) : Nat → Nat
  | 0 => 0
  | m + 1 => bN sg sc m + tN (sg 2 (11 * sc + m))
theorem bel_n {sg : Nat → Nat → Int32} (h : ∀ j, j < 44 → inN (sg 2 j) 999) {sc : Nat} (hs : sc < 4) : ∀ m, m ≤ 11 → sp_below sg sc m = nI (bN sg sc m) ∧ bN sg sc m ≤ 999 * m
  | 0, _ => ⟨rfl, Nat.le_refl _⟩
  | m + 1, hm => by
    obtain ⟨ih1, ih2⟩ := bel_n h hs m (by omega)
    have q := inN_tN (h (11 * sc + m) (by omega)) (by decide)
    refine ⟨?_, ?_⟩
    · show sp_sum (fun m => sg 2 (11 * sc + m)) (m + 1) = nI (bN sg sc m + tN (sg 2 (11 * sc + m)))
      rw [sp_S, ← nI_add, ← q.1]
      exact congrArg (fun z => z + sg 2 (11 * sc + m)) ih1
    · show bN sg sc m + tN (sg 2 (11 * sc + m)) ≤ 999 * (m + 1)
      omega
theorem bN_le (sg : Nat → Nat → Int32) (sc : Nat) {m : Nat} : ∀ {n : Nat}, m ≤ n → bN sg sc m ≤ bN sg sc n
  | 0, h => by rw [Nat.le_zero.mp h]; exact Nat.le_refl _
  | n + 1, h => by
    by_cases z : m = n + 1
    · rw [z]; exact Nat.le_refl _
    · exact Nat.le_trans (bN_le sg sc (n := n) (by omega)) (Nat.le_add_right _ _)
theorem mulb {a b : Nat} (ha : a ≤ 10989) (hb : b ≤ 10989) : a * b < 2 ^ 31 := Nat.lt_of_le_of_lt (Nat.mul_le_mul ha hb) (by decide)
def shN (sg : Nat → Nat → Int32) (fr mk to ot : Nat) : Prop := (0 < tN (sg 2 (11 * fr + mk)) ∧ 0 < tN (sg 2 (11 * to + ot))) ∧ bN sg fr mk * bN sg to 11 < bN sg to (ot + 1) * bN sg fr 11 ∧ bN sg to ot * bN sg fr 11 < bN sg fr (mk + 1) * bN sg to 11
theorem z_iff {x : Int32} (h : inN x 999) : x = 0 ↔ ¬ 0 < tN x := by
  have q := inN_tN h (by decide)
  constructor
  · intro z
    rw [z]
    decide
  · intro z
    rw [q.1, show tN x = 0 by omega]
    rfl
theorem sh_iff {sg : Nat → Nat → Int32} (h : ∀ j, j < 44 → inN (sg 2 j) 999) {fr mk to ot : Nat} (hf : fr < 4) (ht : to < 4) (hk : mk < 11) (ho : ot < 11) : shP sg fr mk to ot ↔ shN sg fr mk to ot := by
  unfold shP shN
  have b1 := bel_n h hf mk (by omega)
  have b2 := bel_n h hf (mk + 1) (by omega)
  have b3 := bel_n h hf 11 (by omega)
  have c1 := bel_n h ht ot (by omega)
  have c2 := bel_n h ht (ot + 1) (by omega)
  have c3 := bel_n h ht 11 (by omega)
  rw [b1.1, b2.1, b3.1, c1.1, c2.1, c3.1, pk_mul, pk_mul, pk_mul, pk_mul, nI_ltI (mulb (by omega) (by omega)) (mulb (by omega) (by omega)), nI_ltI (mulb (by omega) (by omega)) (mulb (by omega) (by omega)), z_iff (h _ (by omega)), z_iff (h _ (by omega)), Classical.not_not, Classical.not_not]
  exact ⟨fun z => ⟨⟨z.1, z.2.1⟩, z.2.2⟩, fun z => ⟨z.1.1, z.1.2, z.2⟩⟩
theorem lt_mx {a b c d : Nat} : (if a ≤ b then b else a) < (if c ≤ d then c else d) ↔ (a < c ∧ a < d) ∧ (b < c ∧ b < d) := by
  by_cases h1 : a ≤ b <;> by_cases h2 : c ≤ d <;> simp [h1, h2] <;> omega
theorem nI_ite {p : Prop} [Decidable p] {a b : Nat} : (if p then nI a else nI b) = nI (if p then a else b) := by
  split <;> rfl
theorem ov_iff {sg : Nat → Nat → Int32} (h : ∀ j, j < 44 → inN (sg 2 j) 999) {fr mk to ot : Nat} (hf : fr < 4) (ht : to < 4) (hk : mk < 11) (ho : ot < 11) (ha : 0 < bN sg fr 11) (hb : 0 < bN sg to 11) : ¬ sp_ov sg fr mk to ot = 0 ↔ shN sg fr mk to ot := by
  unfold sp_ov shN
  have b1 := bel_n h hf mk (by omega)
  have b2 := bel_n h hf (mk + 1) (by omega)
  have b3 := bel_n h hf 11 (by omega)
  have c1 := bel_n h ht ot (by omega)
  have c2 := bel_n h ht (ot + 1) (by omega)
  have c3 := bel_n h ht 11 (by omega)
  have q1 := inN_tN (h (11 * fr + mk) (by omega)) (by decide)
  have q2 := inN_tN (h (11 * to + ot) (by omega)) (by decide)
  have e1 : sp_below sg to ot + sg 2 (11 * to + ot) = nI (bN sg to (ot + 1)) := by rw [c1.1, q2.1, nI_add]; rfl
  have e2 : sp_below sg fr mk + sg 2 (11 * fr + mk) = nI (bN sg fr (mk + 1)) := by rw [b1.1, q1.1, nI_add]; rfl
  rw [e1, e2, b1.1, b3.1, c1.1, c3.1, pk_mul, pk_mul, pk_mul, pk_mul]
  have m1 := mulb (a := bN sg fr mk) (b := bN sg to 11) (by omega) (by omega)
  have m2 := mulb (a := bN sg to ot) (b := bN sg fr 11) (by omega) (by omega)
  have m3 := mulb (a := bN sg to (ot + 1)) (b := bN sg fr 11) (by omega) (by omega)
  have m4 := mulb (a := bN sg fr (mk + 1)) (b := bN sg to 11) (by omega) (by omega)
  have k1 := @nI_leI (bN sg fr mk * bN sg to 11) (bN sg to ot * bN sg fr 11) m1 m2
  have k2 := @nI_leI (bN sg to (ot + 1) * bN sg fr 11) (bN sg fr (mk + 1) * bN sg to 11) m3 m4
  have r1 : (bN sg fr mk * bN sg to 11 < bN sg fr (mk + 1) * bN sg to 11) ↔ 0 < tN (sg 2 (11 * fr + mk)) := by
    rw [Nat.mul_lt_mul_right hb]
    show bN sg fr mk < bN sg fr mk + _ ↔ _
    omega
  have r2 : (bN sg to ot * bN sg fr 11 < bN sg to (ot + 1) * bN sg fr 11) ↔ 0 < tN (sg 2 (11 * to + ot)) := by
    rw [Nat.mul_lt_mul_right ha]
    show bN sg to ot < bN sg to ot + _ ↔ _
    omega
  rw [← r1, ← r2]
  simp only [k1, k2, nI_ite]
  have L := @lt_mx (bN sg fr mk * bN sg to 11) (bN sg to ot * bN sg fr 11) (bN sg to (ot + 1) * bN sg fr 11) (bN sg fr (mk + 1) * bN sg to 11)
  have h1 : (if bN sg fr mk * bN sg to 11 ≤ bN sg to ot * bN sg fr 11 then bN sg to ot * bN sg fr 11 else bN sg fr mk * bN sg to 11) < 2 ^ 31 := by split <;> assumption
  have h2 : (if bN sg to (ot + 1) * bN sg fr 11 ≤ bN sg fr (mk + 1) * bN sg to 11 then bN sg to (ot + 1) * bN sg fr 11 else bN sg fr (mk + 1) * bN sg to 11) < 2 ^ 31 := by split <;> assumption
  have L2 := (nI_ltI h1 h2).trans L
  constructor
  · intro z
    have y := L2.mp (Classical.byContradiction (fun y => z (congrArg nI (if_neg y))))
    exact ⟨⟨y.1.2, y.2.1⟩, y.1.1, y.2.2⟩
  · intro z y
    rw [if_pos (L2.mpr ⟨⟨z.2.1, z.1.1⟩, z.1.2, z.2.2⟩)] at y
    exact absurd y (by decide)
theorem cross {G : Nat → Nat} {X : Nat} (h0 : G 0 ≤ X) : ∀ {n : Nat}, X < G n → ∃ o, o < n ∧ G o ≤ X ∧ X < G (o + 1)
  | 0, h => absurd h0 (by omega)
  | n + 1, h => by
    by_cases z : G n ≤ X
    · exact ⟨n, by omega, z, h⟩
    · obtain ⟨o, h1, h2⟩ := cross h0 (n := n) (by omega)
      exact ⟨o, by omega, h2⟩
theorem sh_ex {sg : Nat → Nat → Int32} {fr mk to : Nat} (hk : mk < 11) (ha : 0 < bN sg fr 11) (hb : 0 < bN sg to 11) (hq : 0 < tN (sg 2 (11 * fr + mk))) : ∃ o, o < 11 ∧ shN sg fr mk to o := by
  have hl : bN sg fr (mk + 1) ≤ bN sg fr 11 := bN_le sg fr (by omega)
  have e : bN sg fr (mk + 1) = bN sg fr mk + tN (sg 2 (11 * fr + mk)) := rfl
  obtain ⟨o, h1, h2, h3⟩ := cross (G := fun o => bN sg to o * bN sg fr 11) (X := bN sg fr mk * bN sg to 11) (by show 0 * _ ≤ _; omega) (n := 11) (by
    show bN sg fr mk * bN sg to 11 < bN sg to 11 * bN sg fr 11
    rw [Nat.mul_comm (bN sg to 11)]
    exact (Nat.mul_lt_mul_right hb).mpr (by omega))
  have h2' : bN sg to o * bN sg fr 11 ≤ bN sg fr mk * bN sg to 11 := h2
  have h3' : bN sg fr mk * bN sg to 11 < bN sg to (o + 1) * bN sg fr 11 := h3
  refine ⟨o, h1, ⟨hq, ?_⟩, h3', Nat.lt_of_le_of_lt h2' ((Nat.mul_lt_mul_right hb).mpr (by omega))⟩
  have := (Nat.mul_lt_mul_right ha).mp (Nat.lt_of_le_of_lt h2' h3')
  have e2 : bN sg to (o + 1) = bN sg to o + tN (sg 2 (11 * to + o)) := rfl
  omega
theorem fi_n {f : Nat → Int32} : ∀ {n : Nat}, (∀ j, j < n → f j = 0) → sp_fi f n = -1
  | 0, _ => rfl
  | n + 1, h => by
    unfold sp_fi
    rw [if_pos (h n (by omega))]
    exact fi_n (fun j hj => h j (by omega))
theorem fi_y {f : Nat → Int32} {m : Nat} (h1 : ∀ j, j < m → f j = 0) (h2 : ¬ f m = 0) (hm : m < 2 ^ 31) : ∀ {n : Nat}, m < n → sp_fi f n = nI m
  | 0, h => absurd h (Nat.not_lt_zero m)
  | n + 1, h => by
    unfold sp_fi
    by_cases z : m = n
    · subst z
      rw [if_neg h2, fi_n h1, if_pos rfl]
    · have ih := fi_y h1 h2 hm (n := n) (by omega)
      rw [ih]
      by_cases y : f n = 0
      · rw [if_pos y]
      · rw [if_neg y, if_neg (nI_nm1 hm)]
theorem la_y {f : Nat → Int32} {m : Nat} (h2 : ¬ f m = 0) : ∀ {n : Nat}, m < n → (∀ j, j < n → m + 1 ≤ j → f j = 0) → sp_la f n = nI m
  | 0, h, _ => absurd h (Nat.not_lt_zero m)
  | n + 1, h, h1 => by
    unfold sp_la
    by_cases z : m = n
    · subst z
      rw [if_neg h2]
    · rw [if_pos (h1 n (by omega) (by omega))]
      exact la_y h2 (by omega) (fun j hj hm => h1 j (by omega) hm)
/-- between two borders nothing changes -/
theorem ev_cong {w : Nat → Nat} {g t c u d : Nat} : ∀ {m : Nat}, (∀ j, j < m → w j < 1000000 → cmpv g t c u (w j) = cmpv g t c d (w j)) → (∀ j, j < m → w j < 1000000 ∨ 1000000 ≤ w j ∧ w j ≤ 1000002) → evk w g t c u m = evk w g t c d m
  | 0, _, _ => rfl
  | m + 1, h, h2 => by
    show (evk w g t c u m).bind (tk g t c u (w m)) = (evk w g t c d m).bind (tk g t c d (w m))
    rw [ev_cong (fun j hj => h j (by omega)) (fun j hj => h2 j (by omega))]
    refine congrArg _ (funext fun S => ?_)
    unfold tk
    rcases h2 m (by omega) with z | z
    · rw [h m (by omega) z]
    · by_cases a : w m = 1000002
      · rw [if_pos a, if_pos a]
      · by_cases b : w m = 1000000
        · rw [if_neg a, if_neg a, if_pos b, if_pos b]
        · rw [if_neg a, if_neg a, if_neg b, if_neg b, if_pos (by omega), if_pos (by omega)]
theorem prd (B : Nat → Prop) : ∀ u, ∃ d, d ≤ u ∧ (d = 0 ∨ B d) ∧ ∀ b, b ≤ u → B b → b ≤ d
  | 0 => ⟨0, Nat.le_refl _, Or.inl rfl, fun b hb _ => hb⟩
  | u + 1 => by
    by_cases z : B (u + 1)
    · exact ⟨u + 1, Nat.le_refl _, Or.inr z, fun b hb _ => hb⟩
    · obtain ⟨d, h1, h2, h3⟩ := prd B u
      exact ⟨d, by omega, h2, fun b hb hB => (by omega : b ≤ u ∨ b = u + 1).elim (fun y => h3 b y hB) (fun y => absurd (y ▸ hB) z)⟩
theorem cmp_cong {g t c u d w : Nat} (hd : d ≤ u) (h : w / 100000 = 3 → (w % 10000 ≤ u → w % 10000 ≤ d) ∧ (w % 10000 + 1 ≤ u → w % 10000 + 1 ≤ d)) (hl : w < 400000) : cmpv g t c u w = cmpv g t c d w := by
  unfold cmpv
  have e : w / 100000 = 0 ∨ w / 100000 = 1 ∨ w / 100000 = 2 ∨ w / 100000 = 3 := by omega
  rcases e with z | z | z | z
  · rw [z]
    rfl
  · rw [z]
    rfl
  · rw [z]
    rfl
  · obtain ⟨h1, h2⟩ := h z
    rw [z]
    show (if w / 10000 % 10 = 0 then (if u < w % 10000 then nI 1 else nI 0) else if w / 10000 % 10 = 1 then (if w % 10000 < u then nI 1 else nI 0) else (if u = w % 10000 then nI 1 else nI 0)) = (if w / 10000 % 10 = 0 then (if d < w % 10000 then nI 1 else nI 0) else if w / 10000 % 10 = 1 then (if w % 10000 < d then nI 1 else nI 0) else (if d = w % 10000 then nI 1 else nI 0))
    have a1 : u < w % 10000 ↔ d < w % 10000 := by omega
    have a2 : w % 10000 < u ↔ w % 10000 < d := by omega
    have a3 : u = w % 10000 ↔ d = w % 10000 := by omega
    simp only [a1, a2, a3]
theorem met_cong {w : Nat → Nat} {cm g t c u d : Nat} (hw : ∀ k, k < cm → w k < 400000 ∨ 1000000 ≤ w k ∧ w k ≤ 1000002) (hd : d ≤ u) (h : ∀ b, b ≤ u → bo3 w cm 3 b → b ≤ d) : sp_met w cm g t c u ↔ sp_met w cm g t c d := by
  unfold sp_met
  rw [ev_cong (u := u) (d := d) (fun j hj h6 => cmp_cong hd (fun z => ⟨fun y => h _ y ⟨j, hj, h6, z, Or.inl rfl⟩, fun y => h _ y ⟨j, hj, h6, z, Or.inr rfl⟩⟩) (by have := hw j hj; omega)) (fun j hj => by have := hw j hj; omega)]
theorem bo_3 {w : Nat → Nat} {m l v : Nat} : bo w m l v ↔ bo3 w m l v ∧ v ≤ mol l := by
  unfold bo bo3
  exact ⟨fun ⟨k, a, b, c, d, e⟩ => ⟨⟨k, a, b, c, d⟩, e⟩, fun ⟨⟨k, a, b, c, d⟩, e⟩ => ⟨k, a, b, c, d, e⟩⟩
theorem some_eq {w1 w2 v1 v2 : Nat → Nat} {c1 c2 n1 n2 wi : Nat} (hm1 : ∀ g t c u, sp_met v1 n1 g t c u ↔ sp_met w1 c1 g t c u) (hm2 : ∀ g t c u, sp_met v2 n2 g t c u ↔ sp_met w2 c2 g t c u) (hb1 : ∀ l v, bo3 v1 n1 l v ↔ bo3 w1 c1 l v) (hb2 : ∀ l v, bo3 v2 n2 l v ↔ bo3 w2 c2 l v) (hw1 : ∀ k, k < c1 → w1 k < 400000 ∨ 1000000 ≤ w1 k ∧ w1 k ≤ 1000002) (hw2 : ∀ k, k < c2 → w2 k < 400000 ∨ 1000000 ≤ w2 k ∧ w2 k ≤ 1000002) : gFn v1 v2 n1 n2 wi ↔ sp_some w1 w2 c1 c2 wi := by
  have F : ∀ l v, v ≤ mol l → (Bf v1 v2 n1 n2 l v ↔ sp_bb w1 w2 c1 c2 l v) := fun l v hv => by
    unfold Bf sp_bb
    rw [bo_3, bo_3, hb1, hb2]
    exact ⟨fun z => z.elim (fun y => y.elim Or.inl (fun x => Or.inr (Or.inl ⟨x, hv⟩))) (fun y => Or.inr (Or.inr ⟨y, hv⟩)), fun z => z.elim (fun y => Or.inl (Or.inl y)) (fun y => y.elim (fun x => Or.inl (Or.inr x.1)) (fun x => Or.inr x.1))⟩
  have G : ∀ l v, sp_bb w1 w2 c1 c2 l v → v ≤ mol l := fun l v z => by
    unfold sp_bb at z
    rw [bo_3, bo_3] at z
    rcases z with z | z | z
    · omega
    · exact z.2
    · exact z.2
  constructor
  · rintro ⟨g, hg, bg, t, ht, bt, c, hc, bc, u, hu, h1, h2⟩
    rw [hm1] at h1
    rw [pI_iff (hm2 g t c u)] at h2
    obtain ⟨d, d1, d2, d3⟩ := prd (fun b => bo3 w1 c1 3 b ∨ bo3 w2 c2 3 b) u
    refine ⟨g, t, c, d, (F 0 g (by show g ≤ 100; omega)).mp bg, (F 1 t (by show t ≤ 9; omega)).mp bt, (F 2 c (by show c ≤ 99; omega)).mp bc, ?_, (met_cong hw1 d1 (fun b hb y => d3 b hb (Or.inl y))).mp h1, ?_⟩
    · unfold sp_bb
      rw [bo_3, bo_3]
      have h7 : d ≤ mol 3 := by
        show d ≤ 7
        omega
      exact d2.imp id (fun y => y.imp (fun x => ⟨x, h7⟩) (fun x => ⟨x, h7⟩))
    · rw [← pI_iff (met_cong hw2 d1 (fun b hb y => d3 b hb (Or.inr y)))]
      exact h2
  · rintro ⟨a, b, c, d, ha, hb, hc, hd, h1, h2⟩
    have la := G 0 a ha
    have lb := G 1 b hb
    have lc := G 2 c hc
    have ld := G 3 d hd
    rw [← hm1] at h1
    rw [← pI_iff (hm2 a b c d)] at h2
    exact ⟨a, Nat.lt_succ_of_le la, (F 0 a la).mpr ha, b, Nat.lt_succ_of_le lb, (F 1 b lb).mpr hb, c, Nat.lt_succ_of_le lc, (F 2 c lc).mpr hc, d, Nat.lt_succ_of_le ld, h1, h2⟩
/-- bytes of the tape -/
theorem by_24 (v : Int32) : (v.toUInt32 >>> (24 : UInt32)).toInt32 &&& 255 = Int32.ofNat (((v >>> (24 : Int32)).toInt8.toInt32).toBitVec.toNat % 256) := by
  apply Int32.toBitVec_inj.mp
  apply BitVec.eq_of_getLsbD_eq
  intro i hi
  simp only [Int32.toBitVec_and, UInt32.toBitVec_toInt32, UInt32.toBitVec_shiftRight, Int32.toBitVec_toUInt32, Int32.toBitVec_ofNat', BitVec.getLsbD_and, BitVec.getLsbD_ofNat, show (256:Nat) = 2 ^ 8 from rfl, Nat.testBit_mod_two_pow, BitVec.testBit_toNat]
  by_cases h : i < 8
  · have h255 : (255 : Int32).toBitVec.getLsbD i = true := by
      have : ∀ i, i < 8 → (255 : Int32).toBitVec.getLsbD i = true := by decide
      exact this i h
    rw [h255]
    simp [h, hi, BitVec.getElem_signExtend, BitVec.getElem_sshiftRight, BitVec.getLsbD_sshiftRight, Int32.toBitVec_shiftRight]
    try (have h9 : 24 + i < 32 := by omega)
    try simp [h9, BitVec.getLsbD_eq_getElem]
  · have h255 : (255 : Int32).toBitVec.getLsbD i = false := by
      have : ∀ i, i < 32 → ¬ i < 8 → (255 : Int32).toBitVec.getLsbD i = false := by decide
      exact this i hi h
    rw [h255]
    simp [h]
theorem by_16 (v : Int32) : (v.toUInt32 >>> (16 : UInt32)).toInt32 &&& 255 = Int32.ofNat (((v >>> (16 : Int32)).toInt8.toInt32).toBitVec.toNat % 256) := by
  apply Int32.toBitVec_inj.mp
  apply BitVec.eq_of_getLsbD_eq
  intro i hi
  simp only [Int32.toBitVec_and, UInt32.toBitVec_toInt32, UInt32.toBitVec_shiftRight, Int32.toBitVec_toUInt32, Int32.toBitVec_ofNat', BitVec.getLsbD_and, BitVec.getLsbD_ofNat, show (256:Nat) = 2 ^ 8 from rfl, Nat.testBit_mod_two_pow, BitVec.testBit_toNat]
  by_cases h : i < 8
  · have h255 : (255 : Int32).toBitVec.getLsbD i = true := by
      have : ∀ i, i < 8 → (255 : Int32).toBitVec.getLsbD i = true := by decide
      exact this i h
    rw [h255]
    simp [h, hi, BitVec.getElem_signExtend, BitVec.getElem_sshiftRight, BitVec.getLsbD_sshiftRight, Int32.toBitVec_shiftRight]
    try (have h9 : 16 + i < 32 := by omega)
    try simp [h9, BitVec.getLsbD_eq_getElem]
  · have h255 : (255 : Int32).toBitVec.getLsbD i = false := by
      have : ∀ i, i < 32 → ¬ i < 8 → (255 : Int32).toBitVec.getLsbD i = false := by decide
      exact this i hi h
    rw [h255]
    simp [h]
theorem by_8 (v : Int32) : (v.toUInt32 >>> (8 : UInt32)).toInt32 &&& 255 = Int32.ofNat (((v >>> (8 : Int32)).toInt8.toInt32).toBitVec.toNat % 256) := by
  apply Int32.toBitVec_inj.mp
  apply BitVec.eq_of_getLsbD_eq
  intro i hi
  simp only [Int32.toBitVec_and, UInt32.toBitVec_toInt32, UInt32.toBitVec_shiftRight, Int32.toBitVec_toUInt32, Int32.toBitVec_ofNat', BitVec.getLsbD_and, BitVec.getLsbD_ofNat, show (256:Nat) = 2 ^ 8 from rfl, Nat.testBit_mod_two_pow, BitVec.testBit_toNat]
  by_cases h : i < 8
  · have h255 : (255 : Int32).toBitVec.getLsbD i = true := by
      have : ∀ i, i < 8 → (255 : Int32).toBitVec.getLsbD i = true := by decide
      exact this i h
    rw [h255]
    simp [h, hi, BitVec.getElem_signExtend, BitVec.getElem_sshiftRight, BitVec.getLsbD_sshiftRight, Int32.toBitVec_shiftRight]
    try (have h9 : 8 + i < 32 := by omega)
    try simp [h9, BitVec.getLsbD_eq_getElem]
  · have h255 : (255 : Int32).toBitVec.getLsbD i = false := by
      have : ∀ i, i < 32 → ¬ i < 8 → (255 : Int32).toBitVec.getLsbD i = false := by decide
      exact this i hi h
    rw [h255]
    simp [h]
theorem by_0 (v : Int32) : (v.toUInt32 >>> (0 : UInt32)).toInt32 &&& 255 = Int32.ofNat (((v >>> (0 : Int32)).toInt8.toInt32).toBitVec.toNat % 256) := by
  apply Int32.toBitVec_inj.mp
  apply BitVec.eq_of_getLsbD_eq
  intro i hi
  simp only [Int32.toBitVec_and, UInt32.toBitVec_toInt32, UInt32.toBitVec_shiftRight, Int32.toBitVec_toUInt32, Int32.toBitVec_ofNat', BitVec.getLsbD_and, BitVec.getLsbD_ofNat, show (256:Nat) = 2 ^ 8 from rfl, Nat.testBit_mod_two_pow, BitVec.testBit_toNat]
  by_cases h : i < 8
  · have h255 : (255 : Int32).toBitVec.getLsbD i = true := by
      have : ∀ i, i < 8 → (255 : Int32).toBitVec.getLsbD i = true := by decide
      exact this i h
    rw [h255]
    simp [h, hi, BitVec.getElem_signExtend, BitVec.getElem_sshiftRight, BitVec.getLsbD_sshiftRight, Int32.toBitVec_shiftRight]
    try (have h9 : 0 + i < 32 := by omega)
    try simp [h9, BitVec.getLsbD_eq_getElem]
  · have h255 : (255 : Int32).toBitVec.getLsbD i = false := by
      have : ∀ i, i < 32 → ¬ i < 8 → (255 : Int32).toBitVec.getLsbD i = false := by decide
      exact this i hi h
    rw [h255]
    simp [h]
theorem by_eq (v : Int32) : byt v 24 = nI ((sp_by v 0).toBitVec.toNat % 256) ∧ byt v 16 = nI ((sp_by v 1).toBitVec.toNat % 256) ∧ byt v 8 = nI ((sp_by v 2).toBitVec.toNat % 256) ∧ byt v 0 = nI ((sp_by v 3).toBitVec.toNat % 256) := by
  unfold byt sp_by
  rw [show ((nI 24).toUInt32 &&& Int32.toUInt32 31) = (24 : UInt32) by decide, show ((nI 16).toUInt32 &&& Int32.toUInt32 31) = (16 : UInt32) by decide, show ((nI 8).toUInt32 &&& Int32.toUInt32 31) = (8 : UInt32) by decide, show ((nI 0).toUInt32 &&& Int32.toUInt32 31) = (0 : UInt32) by decide, show (nI (8 * (3 - 0)) &&& 31) = (24 : Int32) by decide, show (nI (8 * (3 - 1)) &&& 31) = (16 : Int32) by decide, show (nI (8 * (3 - 2)) &&& 31) = (8 : Int32) by decide, show (nI (8 * (3 - 3)) &&& 31) = (0 : Int32) by decide]
  exact ⟨by_24 v, by_16 v, by_8 v, by_0 v⟩
