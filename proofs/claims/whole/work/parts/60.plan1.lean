/-! PLANS, PURELY: codes and prefixes, counts, what is left -/
def zI (z : Int) : Int32 := Int32.ofInt z
theorem zI_n (a : Nat) : zI (a : Int) = nI a := Int32.ofInt_eq_ofNat
theorem zI_add (a b : Int) : zI a + zI b = zI (a + b) := (Int32.ofInt_add a b).symm
theorem zI_sub (a b : Int) : zI a - zI b = zI (a - b) := (Int32.ofInt_sub a b).symm
theorem zI_neg (a : Int) : -zI a = zI (-a) := (Int32.ofInt_neg a).symm
theorem zI_to {a : Int} (h1 : -2147483648 ≤ a) (h2 : a < 2147483648) : (zI a).toInt = a := Int32.toInt_ofInt_of_le h1 h2
theorem zI_le {a b : Int} (h1 : -2147483648 ≤ a) (h2 : a < 2147483648) (h3 : -2147483648 ≤ b) (h4 : b < 2147483648) : zI a ≤ zI b ↔ a ≤ b := by rw [Int32.le_iff_toInt_le, zI_to h1 h2, zI_to h3 h4]
theorem zI_lt {a b : Int} (h1 : -2147483648 ≤ a) (h2 : a < 2147483648) (h3 : -2147483648 ≤ b) (h4 : b < 2147483648) : zI a < zI b ↔ a < b := by rw [Int32.lt_iff_toInt_lt, zI_to h1 h2, zI_to h3 h4]
theorem zI_m1 : zI (-1) = -1 := by decide
theorem bo_skip {OK : Nat → Prop} {BT : Nat → Nat → Prop} {a : Nat} : ∀ k, (∀ c, a ≤ c → c < a + k → OK c → ∃ b, sp_bo OK BT a = some b ∧ ¬ BT c b) → sp_bo OK BT (a + k) = sp_bo OK BT a
  | 0, _ => rfl
  | k + 1, h => by
    have ih := bo_skip k (fun c h1 h2 => h c h1 (by omega))
    refine (sp_bo_n (c := a + k) (fun z => ?_)).trans ih
    obtain ⟨b, hb, hn⟩ := h (a + k) (by omega) (by omega) z.1
    exact hn (z.2 b (ih.trans hb))
theorem p5_pos : ∀ n, 0 < p5 n
  | 0 => by decide
  | n + 1 => by
    have := p5_pos n
    show 0 < 5 * p5 n
    omega
theorem cdq_eq (code : Nat) : ∀ m, cdq code m = code / p5 m
  | 0 => (Nat.div_one code).symm
  | m + 1 => by
    show cdq code m / 5 = code / (5 * p5 m)
    rw [cdq_eq code m, Nat.div_div_eq_div_mul, Nat.mul_comm]
def pl_pre (c : Nat → Nat) : Nat → Nat
  | 0 => 0
  | i + 1 => 5 * pl_pre c i + c i
theorem pre_co {n : Nat} {c : Nat → Nat} {code : Nat} : ∀ {i : Nat}, i ≤ n → (∀ j, j < i → c j < 5) → code / p5 (n - i) = pl_pre c i → ∀ j, j < i → co n code j = c j
  | 0, _, _, _, j, hj => absurd hj (Nat.not_lt_zero j)
  | i + 1, hi, hc, h, j, hj => by
    have e1 : n - i = (n - (i + 1)) + 1 := by omega
    have h2 : code / p5 (n - i) = pl_pre c i := by
      rw [e1]
      show code / (5 * p5 (n - (i + 1))) = pl_pre c i
      rw [Nat.mul_comm, ← Nat.div_div_eq_div_mul, h]
      show (5 * pl_pre c i + c i) / 5 = pl_pre c i
      have := hc i (by omega)
      omega
    rcases (by omega : j < i ∨ j = i) with q | rfl
    · exact pre_co (by omega) (fun j hj => hc j (by omega)) h2 j q
    · show cdq code (n - 1 - j) % 5 = c j
      rw [cdq_eq, show n - 1 - j = n - (j + 1) by omega, h]
      show (5 * pl_pre c j + c j) % 5 = c j
      have := hc j (by omega)
      omega
theorem rng_div {a k code : Nat} (h1 : a * p5 k ≤ code) (h2 : code < a * p5 k + p5 k) : code / p5 k = a := Nat.div_eq_of_lt_le h1 (by rw [Nat.add_mul, Nat.one_mul]; exact h2)
theorem upn_s (f : Nat → Nat) (i v : Nat) : upn f i v i = v := if_pos rfl
theorem upn_o {f : Nat → Nat} {i v j : Nat} (h : ¬ j = i) : upn f i v j = f j := if_neg h
theorem pre_c {c c2 : Nat → Nat} : ∀ {i : Nat}, (∀ j, j < i → c j = c2 j) → pl_pre c i = pl_pre c2 i
  | 0, _ => rfl
  | i + 1, h => by
    show 5 * pl_pre c i + c i = 5 * pl_pre c2 i + c2 i
    rw [pre_c (fun j hj => h j (by omega)), h i (by omega)]
theorem pre_up (c : Nat → Nat) (i d k : Nat) : pl_pre (upn c i d) (i + 1) * p5 k = pl_pre c i * p5 (k + 1) + d * p5 k := by
  show (5 * pl_pre (upn c i d) i + upn c i d i) * p5 k = pl_pre c i * (5 * p5 k) + d * p5 k
  rw [upn_s, pre_c (c2 := c) (fun j hj => upn_o (by omega)), Nat.add_mul, Nat.mul_comm 5, Nat.mul_assoc]
noncomputable def cnP (P : Nat → Prop) : Nat → Nat
  | 0 => 0
  | m + 1 => @ite _ (P m) (Classical.propDecidable _) (cnP P m + 1) (cnP P m)
theorem cnP_t {P : Nat → Prop} {m : Nat} (h : P m) : cnP P (m + 1) = cnP P m + 1 := if_pos h
theorem cnP_f {P : Nat → Prop} {m : Nat} (h : ¬ P m) : cnP P (m + 1) = cnP P m := if_neg h
theorem cnP_c {P Q : Nat → Prop} : ∀ {m : Nat}, (∀ j, j < m → (P j ↔ Q j)) → cnP P m = cnP Q m
  | 0, _ => rfl
  | m + 1, h => by
    have ih := cnP_c (m := m) (fun j hj => h j (by omega))
    by_cases q : P m
    · rw [cnP_t q, cnP_t ((h m (by omega)).mp q), ih]
    · rw [cnP_f q, cnP_f (fun z => q ((h m (by omega)).mpr z)), ih]
theorem cnP_le (P : Nat → Prop) : ∀ m, cnP P m ≤ m
  | 0 => Nat.le_refl 0
  | m + 1 => by
    have ih := cnP_le P m
    by_cases q : P m
    · rw [cnP_t q]
      omega
    · rw [cnP_f q]
      omega
theorem cnP_S (P : Nat → Prop) (m : Nat) : cnP P m ≤ cnP P (m + 1) ∧ cnP P (m + 1) ≤ cnP P m + 1 := by
  by_cases q : P m
  · rw [cnP_t q]
    omega
  · rw [cnP_f q]
    omega
theorem cnP_mono (P : Nat → Prop) {m : Nat} : ∀ {n : Nat}, m ≤ n → cnP P m ≤ cnP P n
  | 0, h => by rw [Nat.le_zero.mp h]; exact Nat.le_refl _
  | n + 1, h => by
    rcases (by omega : m ≤ n ∨ m = n + 1) with q | rfl
    · exact Nat.le_trans (cnP_mono P q) (cnP_S P n).1
    · exact Nat.le_refl _
theorem cnP_pos {P : Nat → Prop} {o m : Nat} (h : P o) (ho : o < m) : 1 ≤ cnP P m := by
  have := cnP_mono P (m := o + 1) (n := m) ho
  rw [cnP_t h] at this
  omega
/-! q: 0 agreement, 1 host, 2 way (1 out), 3 digit of an option, 4 how many options; of the others: 5 out, 6 back, 7 guests; most: 8 going, 9 balance, 10 guests -/
def pPO (q : Nat → Nat → Nat → Nat) (c : Nat → Nat) (x j : Nat) : Prop := ¬ c j = 4 ∧ q 0 j (c j) = x ∧ q 2 j (c j) = 1
def pPB (q : Nat → Nat → Nat → Nat) (c : Nat → Nat) (x j : Nat) : Prop := ¬ c j = 4 ∧ q 0 j (c j) = x ∧ q 2 j (c j) = 0
def pPH (q : Nat → Nat → Nat → Nat) (c : Nat → Nat) (h j : Nat) : Prop := ¬ c j = 4 ∧ q 1 j (c j) = h
def pWo (wo : Nat → Nat → Int) (c : Nat → Nat) : Nat → Int
  | 0 => 0
  | i + 1 => pWo wo c i + wo i (c i)
theorem pWo_c {wo : Nat → Nat → Int} {c c2 : Nat → Nat} : ∀ {i : Nat}, (∀ j, j < i → c j = c2 j) → pWo wo c i = pWo wo c2 i
  | 0, _ => rfl
  | i + 1, h => by
    show pWo wo c i + wo i (c i) = pWo wo c2 i + wo i (c2 i)
    rw [pWo_c (fun j hj => h j (by omega)), h i (by omega)]
def vdg (q : Nat → Nat → Nat → Nat) (j d : Nat) : Prop := ∃ o, o < q 4 j 0 ∧ q 3 j o = d
def pNK (q : Nat → Nat → Nat → Nat) (c : Nat → Nat) (i : Nat) : Prop := (∀ x, x < 12 → q 5 x 0 + cnP (pPO q c x) i ≤ q 8 x 0 ∧ q 6 x 0 + cnP (pPB q c x) i ≤ q 8 x 0) ∧ ∀ h, h < 8 → q 7 h 0 + cnP (pPH q c h) i ≤ q 10 h 0
noncomputable def pBl (q : Nat → Nat → Nat → Nat) (bl : Nat → Int) (c : Nat → Nat) (x i : Nat) : Int := bl x + (cnP (pPO q c x) i : Int) - (cnP (pPB q c x) i : Int)
def pKP (q : Nat → Nat → Nat → Nat) (bl : Nat → Int) (n : Nat) (c : Nat → Nat) : Prop := pNK q c n ∧ ∀ x, x < 12 → pBl q bl c x n ≤ (q 9 x 0 : Int) ∧ -(q 9 x 0 : Int) ≤ pBl q bl c x n
def pOK (q : Nat → Nat → Nat → Nat) (bl : Nat → Int) (n code : Nat) : Prop := (∀ j, j < n → vdg q j (co n code j)) ∧ pKP q bl n (co n code)
def pBT (wo : Nat → Nat → Int) (n c b : Nat) : Prop := pWo wo (co n b) n < pWo wo (co n c) n
def pDA (n : Nat) (q : Nat → Nat → Nat → Nat) (wo : Nat → Nat → Int) (bl : Nat → Int) : Prop := n ≤ 7 ∧ (∀ i, i < n → 1 ≤ q 4 i 0 ∧ q 4 i 0 ≤ 5 ∧ (∀ o, o + 1 < q 4 i 0 → q 3 i o < q 3 i (o + 1)) ∧ ∀ o, o < q 4 i 0 → q 3 i o ≤ 4 ∧ -4096 ≤ wo i (q 3 i o) ∧ wo i (q 3 i o) ≤ 512 ∧ (¬ q 3 i o = 4 → q 0 i (q 3 i o) < 12 ∧ q 1 i (q 3 i o) < 8 ∧ (q 2 i (q 3 i o) = 0 ∨ q 2 i (q 3 i o) = 1))) ∧ (∀ x, x < 12 → q 5 x 0 ≤ 16 ∧ q 6 x 0 ≤ 16 ∧ -16 ≤ bl x ∧ bl x ≤ 16 ∧ q 8 x 0 ≤ 1000 ∧ q 9 x 0 ≤ 1000) ∧ ∀ h, h < 8 → q 7 h 0 ≤ 16 ∧ q 10 h 0 ≤ 1000
/-! what those from one on can do at most; k: how many these are -/
def pLoP (q : Nat → Nat → Nat → Nat) (i x v o : Nat) : Prop := ¬ q 3 i o = 4 ∧ q 0 i (q 3 i o) = x ∧ q 2 i (q 3 i o) = v
noncomputable def pLo (q : Nat → Nat → Nat → Nat) (n x v : Nat) : Nat → Nat
  | 0 => 0
  | k + 1 => pLo q n x v k + cnP (pLoP q (n - (k + 1)) x v) (q 4 (n - (k + 1)) 0)
def pMx (wo : Nat → Nat → Int) (q : Nat → Nat → Nat → Nat) (i : Nat) : Nat → Int
  | 0 => -1000000
  | o + 1 => if pMx wo q i o < wo i (q 3 i o) then wo i (q 3 i o) else pMx wo q i o
def pLw (wo : Nat → Nat → Int) (q : Nat → Nat → Nat → Nat) (n : Nat) : Nat → Int
  | 0 => 0
  | k + 1 => pLw wo q n k + pMx wo q (n - (k + 1)) (q 4 (n - (k + 1)) 0)
theorem pMx_ge {wo : Nat → Nat → Int} {q : Nat → Nat → Nat → Nat} {i : Nat} : ∀ {m o : Nat}, o < m → wo i (q 3 i o) ≤ pMx wo q i m
  | m + 1, o, h => by
    show wo i (q 3 i o) ≤ if pMx wo q i m < wo i (q 3 i m) then wo i (q 3 i m) else pMx wo q i m
    rcases (by omega : o < m ∨ o = m) with z | rfl
    · have ih := pMx_ge (wo := wo) (q := q) (i := i) z
      split <;> omega
    · split <;> omega
theorem pMx_le {wo : Nat → Nat → Int} {q : Nat → Nat → Nat → Nat} {i : Nat} : ∀ {m : Nat}, (∀ o, o < m → wo i (q 3 i o) ≤ 512) → pMx wo q i m ≤ 512
  | 0, _ => by show (-1000000 : Int) ≤ 512; decide
  | m + 1, h => by
    show (if pMx wo q i m < wo i (q 3 i m) then wo i (q 3 i m) else pMx wo q i m) ≤ 512
    have ih := pMx_le (wo := wo) (q := q) (i := i) (m := m) (fun o ho => h o (by omega))
    have := h m (by omega)
    split <;> omega
theorem pMx_bd {n : Nat} {q : Nat → Nat → Nat → Nat} {wo : Nat → Nat → Int} {bl : Nat → Int} (hD : pDA n q wo bl) {i : Nat} (hi : i < n) : -4096 ≤ pMx wo q i (q 4 i 0) ∧ pMx wo q i (q 4 i 0) ≤ 512 := by
  obtain ⟨h1, h2, h3, h4⟩ := hD.2.1 i hi
  have a := pMx_ge (wo := wo) (q := q) (i := i) (m := q 4 i 0) (o := 0) (by omega)
  have b := (h4 0 (by omega)).2.1
  exact ⟨by omega, pMx_le (fun o ho => (h4 o ho).2.2.1)⟩
theorem pLw_bd {n : Nat} {q : Nat → Nat → Nat → Nat} {wo : Nat → Nat → Int} {bl : Nat → Int} (hD : pDA n q wo bl) : ∀ {k : Nat}, k ≤ n → -4096 * (k : Int) ≤ pLw wo q n k ∧ pLw wo q n k ≤ 512 * (k : Int)
  | 0, _ => by
    show -4096 * ((0 : Nat) : Int) ≤ 0 ∧ (0 : Int) ≤ 512 * ((0 : Nat) : Int)
    omega
  | k + 1, h => by
    have ih := pLw_bd hD (k := k) (by omega)
    have b := pMx_bd hD (i := n - (k + 1)) (by omega)
    show -4096 * ((k + 1 : Nat) : Int) ≤ pLw wo q n k + pMx wo q (n - (k + 1)) (q 4 (n - (k + 1)) 0) ∧ pLw wo q n k + pMx wo q (n - (k + 1)) (q 4 (n - (k + 1)) 0) ≤ 512 * ((k + 1 : Nat) : Int)
    omega
theorem pLo_le {n : Nat} {q : Nat → Nat → Nat → Nat} {wo : Nat → Nat → Int} {bl : Nat → Int} (hD : pDA n q wo bl) (x v : Nat) : ∀ {k : Nat}, k ≤ n → pLo q n x v k ≤ 5 * k
  | 0, _ => Nat.le_refl 0
  | k + 1, h => by
    have ih := pLo_le hD x v (k := k) (by omega)
    have b := cnP_le (pLoP q (n - (k + 1)) x v) (q 4 (n - (k + 1)) 0)
    have := (hD.2.1 (n - (k + 1)) (by omega)).2.1
    show pLo q n x v k + cnP (pLoP q (n - (k + 1)) x v) (q 4 (n - (k + 1)) 0) ≤ 5 * (k + 1)
    omega
theorem pWo_bd {n : Nat} {q : Nat → Nat → Nat → Nat} {wo : Nat → Nat → Int} {bl : Nat → Int} (hD : pDA n q wo bl) {c : Nat → Nat} : ∀ {i : Nat}, i ≤ n → (∀ j, j < i → vdg q j (c j)) → -4096 * (i : Int) ≤ pWo wo c i ∧ pWo wo c i ≤ 512 * (i : Int)
  | 0, _, _ => by
    show -4096 * ((0 : Nat) : Int) ≤ 0 ∧ (0 : Int) ≤ 512 * ((0 : Nat) : Int)
    omega
  | i + 1, h, hv => by
    have ih := pWo_bd hD (c := c) (i := i) (by omega) (fun j hj => hv j (by omega))
    obtain ⟨o, ho, e⟩ := hv i (by omega)
    have b := (hD.2.1 i (by omega)).2.2.2 o ho
    rw [e] at b
    show -4096 * ((i + 1 : Nat) : Int) ≤ pWo wo c i + wo i (c i) ∧ pWo wo c i + wo i (c i) ≤ 512 * ((i + 1 : Nat) : Int)
    omega
theorem pWo_left {n : Nat} {q : Nat → Nat → Nat → Nat} {wo : Nat → Nat → Int} {c : Nat → Nat} (hv : ∀ j, j < n → vdg q j (c j)) : ∀ {k : Nat}, k ≤ n → pWo wo c n ≤ pWo wo c (n - k) + pLw wo q n k
  | 0, _ => by
    show pWo wo c n ≤ pWo wo c n + 0
    omega
  | k + 1, h => by
    have ih := pWo_left (wo := wo) hv (k := k) (by omega)
    obtain ⟨o, ho, e⟩ := hv (n - (k + 1)) (by omega)
    have b := pMx_ge (wo := wo) (q := q) (i := n - (k + 1)) ho
    rw [e] at b
    have e2 : n - k = (n - (k + 1)) + 1 := by omega
    rw [e2] at ih
    have e3 : pWo wo c (n - (k + 1) + 1) = pWo wo c (n - (k + 1)) + wo (n - (k + 1)) (c (n - (k + 1))) := rfl
    show pWo wo c n ≤ pWo wo c (n - (k + 1)) + (pLw wo q n k + pMx wo q (n - (k + 1)) (q 4 (n - (k + 1)) 0))
    omega
theorem cnP_left {n : Nat} {q : Nat → Nat → Nat → Nat} {c : Nat → Nat} (x v : Nat) {P : Nat → Prop} (hP : ∀ j, P j ↔ (¬ c j = 4 ∧ q 0 j (c j) = x ∧ q 2 j (c j) = v)) (hv : ∀ j, j < n → vdg q j (c j)) : ∀ {k : Nat}, k ≤ n → cnP P n ≤ cnP P (n - k) + pLo q n x v k
  | 0, _ => Nat.le_refl _
  | k + 1, h => by
    have ih := cnP_left x v hP hv (k := k) (by omega)
    obtain ⟨o, ho, e⟩ := hv (n - (k + 1)) (by omega)
    have e2 : n - k = (n - (k + 1)) + 1 := by omega
    rw [e2] at ih
    show cnP P n ≤ cnP P (n - (k + 1)) + (pLo q n x v k + cnP (pLoP q (n - (k + 1)) x v) (q 4 (n - (k + 1)) 0))
    by_cases z : P (n - (k + 1))
    · rw [cnP_t z] at ih
      have z2 := (hP _).mp z
      have b := cnP_pos (P := pLoP q (n - (k + 1)) x v) (o := o) (by unfold pLoP; rw [e]; exact z2) ho
      omega
    · rw [cnP_f z] at ih
      omega
/-! digits of options -/
theorem dg_lt {n : Nat} {q : Nat → Nat → Nat → Nat} {wo : Nat → Nat → Int} {bl : Nat → Int} (hD : pDA n q wo bl) {i : Nat} (hi : i < n) {o : Nat} : ∀ {p : Nat}, o < p → p < q 4 i 0 → q 3 i o < q 3 i p
  | p + 1, h, hp => by
    have := (hD.2.1 i hi).2.2.1 p hp
    rcases (by omega : o < p ∨ o = p) with z | rfl
    · have := dg_lt hD hi z (by omega)
      omega
    · exact this
def pNd (q : Nat → Nat → Nat → Nat) (i o : Nat) : Nat := if o < q 4 i 0 then q 3 i o else 5
theorem pNd_le {n : Nat} {q : Nat → Nat → Nat → Nat} {wo : Nat → Nat → Int} {bl : Nat → Int} (hD : pDA n q wo bl) {i : Nat} (hi : i < n) (o : Nat) : pNd q i o ≤ 5 := by
  unfold pNd
  split
  · next h =>
    have := ((hD.2.1 i hi).2.2.2 o h).1
    omega
  · exact Nat.le_refl 5
theorem pNd_0 {n : Nat} {q : Nat → Nat → Nat → Nat} {wo : Nat → Nat → Int} {bl : Nat → Int} (hD : pDA n q wo bl) {i : Nat} (hi : i < n) {d : Nat} (h : vdg q i d) : pNd q i 0 ≤ d := by
  obtain ⟨o, ho, rfl⟩ := h
  unfold pNd
  rw [if_pos (by omega)]
  rcases (by omega : o = 0 ∨ 0 < o) with rfl | z
  · exact Nat.le_refl _
  · exact Nat.le_of_lt (dg_lt hD hi z ho)
theorem pNd_S {n : Nat} {q : Nat → Nat → Nat → Nat} {wo : Nat → Nat → Int} {bl : Nat → Int} (hD : pDA n q wo bl) {i : Nat} (hi : i < n) {o d : Nat} (ho : o < q 4 i 0) (h : vdg q i d) (h2 : q 3 i o < d) : pNd q i (o + 1) ≤ d := by
  obtain ⟨p, hp, rfl⟩ := h
  have hop : o < p := Classical.byContradiction (fun z => by
    rcases (by omega : p = o ∨ p < o) with rfl | z2
    · omega
    · have := dg_lt hD hi z2 ho
      omega)
  unfold pNd
  rw [if_pos (by omega)]
  rcases (by omega : p = o + 1 ∨ o + 1 < p) with rfl | z
  · exact Nat.le_refl _
  · exact Nat.le_of_lt (dg_lt hD hi z hp)
theorem pNd_lt {n : Nat} {q : Nat → Nat → Nat → Nat} {wo : Nat → Nat → Int} {bl : Nat → Int} (hD : pDA n q wo bl) {i : Nat} (hi : i < n) {o : Nat} (ho : o < q 4 i 0) : q 3 i o + 1 ≤ pNd q i (o + 1) := by
  unfold pNd
  split
  · next h => exact dg_lt hD hi (Nat.lt_succ_self o) h
  · have := ((hD.2.1 i hi).2.2.2 o ho).1
    omega
/-- no good code with these digits at a place: the best stays -/
theorem bo_gap {OK : Nat → Prop} {BT : Nat → Nat → Prop} {n i k : Nat} {c : Nat → Nat} {d1 d2 : Nat} (hn : n = i + (k + 1)) (h12 : d1 ≤ d2) (h5 : d2 ≤ 5) (h : ∀ code, code / p5 (k + 1) = pl_pre c i → d1 ≤ co n code i → co n code i < d2 → ¬ OK code) : sp_bo OK BT (pl_pre c i * p5 (k + 1) + d2 * p5 k) = sp_bo OK BT (pl_pre c i * p5 (k + 1) + d1 * p5 k) := by
  have hp := p5_pos k
  have e0 : d2 * p5 k = d1 * p5 k + (d2 - d1) * p5 k := by rw [← Nat.add_mul, Nat.add_sub_cancel' h12]
  rw [e0, ← Nat.add_assoc]
  refine bo_skip _ (fun code h1 h2 hO => absurd hO ?_)
  have e1 : pl_pre c i * p5 (k + 1) = 5 * pl_pre c i * p5 k := by
    show pl_pre c i * (5 * p5 k) = _
    rw [← Nat.mul_assoc, Nat.mul_comm 5]
  have hle : (5 * pl_pre c i + d1) * p5 k ≤ code := by
    rw [Nat.add_mul, ← e1]
    exact h1
  have hlt : code < (5 * pl_pre c i + d2) * p5 k := by
    rw [Nat.add_mul, ← e1, e0, ← Nat.add_assoc]
    exact h2
  have g1 : 5 * pl_pre c i + d1 ≤ code / p5 k := (Nat.le_div_iff_mul_le hp).mpr hle
  have g2 : code / p5 k < 5 * pl_pre c i + d2 := (Nat.div_lt_iff_lt_mul hp).mpr hlt
  have g3 : code / p5 (k + 1) = code / p5 k / 5 := by
    show code / (5 * p5 k) = _
    rw [Nat.mul_comm, Nat.div_div_eq_div_mul]
  have g4 : co n code i = code / p5 k % 5 := by
    show cdq code (n - 1 - i) % 5 = _
    rw [cdq_eq, show n - 1 - i = k by omega]
  exact h code (by rw [g3]; omega) (by rw [g4]; omega) (by rw [g4]; omega)
theorem cn_ext {q : Nat → Nat → Nat → Nat} {c c2 : Nat → Nat} {i : Nat} (h : ∀ j, j < i → c j = c2 j) : (∀ x, cnP (pPO q c x) i = cnP (pPO q c2 x) i) ∧ (∀ x, cnP (pPB q c x) i = cnP (pPB q c2 x) i) ∧ ∀ x, cnP (pPH q c x) i = cnP (pPH q c2 x) i :=
  ⟨fun x => cnP_c (fun j hj => by unfold pPO; rw [h j hj]), fun x => cnP_c (fun j hj => by unfold pPB; rw [h j hj]), fun x => cnP_c (fun j hj => by unfold pPH; rw [h j hj])⟩
