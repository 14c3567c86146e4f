/-! the reader, faultless, is the machine -/
/-- the bytes -/
def BH (b : Nat → Int32) (sz : Nat) (c : Nat → Nat) : Prop := sz ≤ 60 ∧ (∀ p, p < sz → b p = nI (c p)) ∧ (∀ p, c p < 256) ∧ (∀ p, sz ≤ p → c p = 0)
theorem pk_v {b : Nat → Int32} {sz : Nat} {c : Nat → Nat} (hb : BH b sz c) {p : Nat} (hp : p ≤ 1000) : pkx b sz (nI p) = if p < sz then nI (c p) else -1 := by
  rw [pkx_n (by have := hb.1; omega) (by omega)]
  by_cases h : p < sz
  · rw [if_pos h, if_pos h, hb.2.1 p h]
  · rw [if_neg h, if_neg h]
theorem pk_is {b : Nat → Int32} {sz : Nat} {c : Nat → Nat} (hb : BH b sz c) {p : Nat} (hp : p ≤ 1000) {v : Nat} (h0 : 0 < v) (hv : v < 256) : pkx b sz (nI p) = nI v ↔ c p = v := by
  rw [pk_v hb hp]
  by_cases h : p < sz
  · rw [if_pos h]
    exact nI_eq (by have := hb.2.2.1 p; omega) (by omega)
  · rw [if_neg h]
    have := hb.2.2.2 p (by omega)
    constructor
    · exact fun z => absurd z.symm (nI_nm1 (by omega))
    · intro z
      omega
theorem lt_sz {b : Nat → Int32} {sz : Nat} {c : Nat → Nat} (hb : BH b sz c) {p : Nat} (h : ¬ c p = 0) : p < sz := Nat.lt_of_not_le (fun z => h (hb.2.2.2 p z))
/-- codes of the system, the last first -/
def CL (C : Nat → Int32) : List Nat → Prop
  | [] => True
  | w :: L => C L.length = enc w ∧ CL C L
theorem CL_up {C : Nat → Int32} {i : Nat} {v : Int32} : ∀ {L : List Nat}, L.length ≤ i → CL C L → CL (upd C i v) L
  | [], _, _ => True.intro
  | w :: L, h, k => ⟨(if_neg (by have : L.length + 1 ≤ i := h; omega)).trans k.1, CL_up (Nat.le_trans (Nat.le_succ _) h) k.2⟩
def Sd (s : rS) (p : Nat) (L : List Nat) : Prop := s.1 = nI p ∧ s.2.1 = 0 ∧ s.2.2.1 = nI L.length ∧ CL s.2.2.2 L
theorem Sd_adv {s : rS} {p : Nat} {L : List Nat} (h : Sd s p L) : Sd (adv s) (p + 1) L := by
  refine ⟨?_, h.2⟩
  show s.1 + nI 1 = _
  rw [h.1, nI_add]
theorem Sd_put {s : rS} {p : Nat} {L : List Nat} (h : Sd s p L) (hL : L.length < 60) (w : Nat) : Sd (ptx s (enc w)) p (w :: L) := by
  obtain ⟨h1, h2, h3, h4⟩ := h
  have e : ptx s (enc w) = (s.1, s.2.1, s.2.2.1 + nI 1, upd s.2.2.2 (tN s.2.2.1) (enc w)) := (if_pos h2).trans ((if_neg (by rw [h3]; exact nI_pos (by omega))).trans (if_neg (by rw [h3]; exact fun z => absurd ((nI_leI (by decide) (by omega)).mp z) (by omega))))
  rw [e]
  refine ⟨h1, h2, ?_, ?_⟩
  · show s.2.2.1 + nI 1 = _
    rw [h3, nI_add]
    rfl
  · show CL (upd s.2.2.2 (tN s.2.2.1) (enc w)) (w :: L)
    rw [h3, tN_nI (by omega)]
    exact ⟨if_pos rfl, CL_up (Nat.le_refl _) h4⟩
/-- a fault stays -/
def Sty (X : rS → rS) : Prop := ∀ s, ¬ s.2.1 = 0 → (X s).2.1 = s.2.1
theorem fal_k {s : rS} {k q : Int32} (h : ¬ s.2.1 = 0) : fal s k q = s := if_neg h
theorem ptx_k {s : rS} {c : Int32} (h : ¬ s.2.1 = 0) : ptx s c = s := if_neg h
theorem exq_k {b : Nat → Int32} {sz : Nat} {g : Int32} {s : rS} (h : ¬ s.2.1 = 0) : exq b sz g s = adv s := congrArg adv (if_neg h)
theorem eox_k {F : Nat → Int32} {n : Nat} {b : Nat → Int32} {sz : Nat} {s : rS} (h : ¬ s.2.1 = 0) : eox F n b sz s = adv s := congrArg adv (if_neg h)
theorem rnx_k {b : Nat → Int32} {sz : Nat} {lo hi : Int32} {s : rS} (h : ¬ s.2.1 = 0) : rnx b sz lo hi s = (nI 0, s) := if_neg h
theorem cmx_k (b : Nat → Int32) (sz : Nat) : Sty (cmx b sz) := by
  intro s h
  unfold cmx
  have h1 : ¬ (adv s).2.1 = 0 := h
  have h2 : ¬ (adv (adv s)).2.1 = 0 := h
  rw [eox_k h, eox_k h1, rnx_k h2]
  rw [ptx_k h2]
  rfl
theorem fcx_k {b : Nat → Int32} {sz : Nat} {B : rS → rS} (hB : Sty B) : Sty (fcx b sz B) := by
  intro s h
  unfold fcx
  rw [nlx_f h]
  show (if nI 0 = 0 then (if pkx b sz s.1 = nI 40 then B s else cmx b sz s) else ptx (if pkx b sz s.1 = nI 40 then B s else cmx b sz s) (-1)).2.1 = _
  rw [if_pos (by decide)]
  split
  · exact hB s h
  · exact cmx_k b sz s h
theorem lpx_k {b : Nat → Int32} {sz : Nat} {g c : Int32} {F : rS → rS} (hF : Sty F) : Sty (fun s => lpx b sz g c F 60 (F s)) := by
  intro s h
  have h1 := hF s h
  show (lpx b sz g c F 60 (F s)).2.1 = _
  rw [lpx_f (by rw [h1]; exact h)]
  exact h1
theorem brx_k (b : Nat → Int32) (sz : Nat) : ∀ k, Sty (brx b sz k)
  | 0 => fun s h => congrArg (fun z : rS => z.2.1) (fal_k h)
  | k + 1 => by
    intro s h
    show (exq b sz (nI 41) (xpx b sz (fcx b sz (brx b sz k)) (exq b sz (nI 40) s))).2.1 = _
    rw [exq_k h]
    have h1 : ¬ (adv s).2.1 = 0 := h
    have h2 : (xpx b sz (fcx b sz (brx b sz k)) (adv s)).2.1 = (adv s).2.1 := lpx_k (lpx_k (fcx_k (brx_k b sz k))) (adv s) h1
    rw [exq_k (by rw [h2]; exact h1)]
    exact h2
/-- numbers -/
theorem sp_no {a lo hi : Nat} (ha : a < 2 ^ 31) (hl : lo < 2 ^ 31) (hh : hi < 2 ^ 31) (h : ¬ (lo ≤ a ∧ a ≤ hi)) : sp_in (nI a) (nI lo) (nI hi) = 0 := if_neg (fun z => h ⟨(nI_leI hl ha).mp z.1, (nI_leI ha hh).mp z.2⟩)
theorem dg_in {b : Nat → Int32} {sz : Nat} {c : Nat → Nat} (hb : BH b sz c) {p : Nat} (hp : p ≤ 1000) : sp_in (pkx b sz (nI p)) (nI 48) (nI 57) = 0 ↔ ¬ dg9 (c p) := by
  rw [pk_v hb hp]
  by_cases h : p < sz
  · rw [if_pos h]
    have := hb.2.2.1 p
    refine ⟨fun z y => ?_, fun z => sp_no (by omega) (by decide) (by decide) z⟩
    rw [sp_in_ok y.1 y.2 (by decide)] at z
    exact absurd z (by decide)
  · rw [if_neg h]
    refine ⟨fun _ z => ?_, fun _ => by decide⟩
    have := hb.2.2.2 p (by omega)
    unfold dg9 at z
    omega
theorem dlx_v {b : Nat → Int32} {sz : Nat} {c : Nat → Nat} (hb : BH b sz c) {p : Nat} (hp : p ≤ 100) : ∀ (k m : Nat), m + k ≤ 4 → ∃ e, e ≤ k ∧ dlx b sz k (nI (p + m)) (nI (vnk c p m)) = (nI (p + (m + e)), nI (vnk c p (m + e))) ∧ (∀ j, j < e → dg9 (c (p + (m + j)))) ∧ (e < k → ¬ dg9 (c (p + (m + e))))
  | 0, m, _ => ⟨0, Nat.le_refl _, rfl, fun j hj => absurd hj (Nat.not_lt_zero j), fun h => absurd h (Nat.lt_irrefl _)⟩
  | k + 1, m, h => by
    by_cases hd : dg9 (c (p + m))
    · have hs : p + m < sz := lt_sz hb (by unfold dg9 at hd; omega)
      have hsz := hb.1
      obtain ⟨e, h1, h2, h3, h4⟩ := dlx_v hb hp k (m + 1) (by omega)
      have hv : pkx b sz (nI (p + m)) = nI (c (p + m)) := (pk_v hb (by omega)).trans (if_pos hs)
      have hval : nI 10 * nI (vnk c p m) + nI (c (p + m)) - nI 48 = nI (vnk c p (m + 1)) := by
        rw [pk_mul, nI_add]
        show nI (10 * vnk c p m + c (p + m)) - nI 48 = nI (10 * vnk c p m + (c (p + m) - 48))
        rw [show 10 * vnk c p m + c (p + m) = 10 * vnk c p m + (c (p + m) - 48) + 48 by unfold dg9 at hd; omega, ← nI_add, Int32.add_sub_cancel]
      refine ⟨e + 1, by omega, ?_, ?_, ?_⟩
      · rw [show m + (e + 1) = m + 1 + e by omega, ← h2]
        refine (if_neg (fun z => absurd ((nI_leI (by omega) (by omega)).mp z) (by omega))).trans ((if_neg (fun z => absurd hd ((dg_in hb (by omega)).mp z))).trans ?_)
        rw [hv, hval, nI_add]
        rfl
      · intro j hj
        cases j with
        | zero => exact hd
        | succ j =>
          have := h3 j (by omega)
          rwa [show m + (j + 1) = m + 1 + j by omega]
      · intro hk
        have := h4 (by omega)
        rwa [show m + (e + 1) = m + 1 + e by omega]
    · exact ⟨0, Nat.zero_le _, dlx_d ((dg_in hb (by omega)).mpr hd) _ _, fun j hj => absurd hj (Nat.not_lt_zero j), fun _ => hd⟩
theorem fal_0 {s : rS} {k p : Nat} (h : s.2.1 = 0) : fal s (nI k) (nI p) = (s.1, -nI (100 * k + p), s.2.2) := by
  rw [← fl_eq]
  exact if_pos h
theorem rnx_v {b : Nat → Int32} {sz : Nat} {c : Nat → Nat} (hb : BH b sz c) {s : rS} {p : Nat} {L : List Nat} (h : Sd s p L) (hp : p ≤ 70) {lo hi : Nat} (hhi : hi ≤ 9999) (hlo : lo ≤ 9999) : (∃ v e, rn c p lo hi = .ok (v, e) ∧ (rnx b sz (nI lo) (nI hi) s).1 = nI v ∧ Sd (rnx b sz (nI lo) (nI hi) s).2 e L ∧ p < e ∧ e ≤ sz ∧ lo ≤ v ∧ v ≤ hi) ∨ (∃ f, rn c p lo hi = .error f ∧ 0 < f ∧ f < 1000 ∧ (rnx b sz (nI lo) (nI hi) s).2.2.1 = -nI f) := by
  obtain ⟨h1, h2, h3, h4⟩ := id h
  obtain ⟨e, k1, k2, k3, k4⟩ := dlx_v hb (p := p) (by omega) 4 0 (by omega)
  rw [Nat.add_zero, Nat.zero_add] at k2
  have k2' : dlx b sz 4 s.1 (nI 0) = (nI (p + e), nI (vnk c p e)) := by rw [h1]; exact k2
  have k3' : ∀ j, j < e → dg9 (c (p + j)) := fun j hj => by have := k3 j hj; rwa [Nat.zero_add] at this
  have k4' : e < 4 → ¬ dg9 (c (p + e)) := fun hj => by have := k4 hj; rwa [Nat.zero_add] at this
  have hv : vnk c p e ≤ 229977 := by
    have := vnk_lt c hb.2.2.1 p
    rcases (by omega : e = 0 ∨ e = 1 ∨ e = 2 ∨ e = 3 ∨ e = 4) with z | z | z | z | z <;> subst z
    · exact Nat.zero_le _
    all_goals omega
  unfold rnx rn
  rw [if_pos h2, k2']
  show (∃ v e2, _ ∧ nI (vnk c p e) = nI v ∧ Sd (if nI (p + e) = s.1 then fal (nI (p + e), s.2) (nI 1) (nI (p + e)) else if sp_in (pkx b sz (nI (p + e))) (nI 48) (nI 57) = 0 then (if sp_in (nI (vnk c p e)) (nI lo) (nI hi) = 0 then fal (nI (p + e), s.2) (nI 2) s.1 else (nI (p + e), s.2)) else fal (nI (p + e), s.2) (nI 1) (nI (p + e))) e2 L ∧ _) ∨ (∃ f, _ ∧ _ ∧ _ ∧ (if nI (p + e) = s.1 then fal (nI (p + e), s.2) (nI 1) (nI (p + e)) else if sp_in (pkx b sz (nI (p + e))) (nI 48) (nI 57) = 0 then (if sp_in (nI (vnk c p e)) (nI lo) (nI hi) = 0 then fal (nI (p + e), s.2) (nI 2) s.1 else (nI (p + e), s.2)) else fal (nI (p + e), s.2) (nI 1) (nI (p + e)) : rS).2.1 = -nI f)
  by_cases e0 : e = 0
  · subst e0
    have hd : dgk c p 5 = 0 := dgk_of (by omega) (fun j hj => absurd hj (Nat.not_lt_zero j)) (fun _ => k4' (by decide))
    refine Or.inr ⟨100 + p, if_pos hd, by omega, by omega, ?_⟩
    rw [if_pos (by rw [h1]; rfl), fal_0 (s := (nI (p + 0), s.2)) h2]
    rfl
  · have hne : ¬ nI (p + e) = s.1 := by rw [h1]; exact fun z => absurd ((nI_eq (by omega) (by omega)).mp z) (by omega)
    rw [if_neg hne]
    by_cases h5 : dg9 (c (p + e))
    · have e4 : e = 4 := Classical.byContradiction (fun z => k4' (by omega) h5)
      subst e4
      have hd : dgk c p 5 = 5 := dgk_of (Nat.le_refl _) (fun j hj => by
        by_cases z : j = 4
        · exact z ▸ h5
        · exact k3' j (by omega)) (fun z => absurd z (by omega))
      refine Or.inr ⟨100 + (p + 4), ?_, by omega, by omega, ?_⟩
      · rw [hd]
        rfl
      · rw [if_neg (fun z => absurd h5 ((dg_in hb (by omega)).mp z)), fal_0 (s := (nI (p + 4), s.2)) h2]
    · have hd : dgk c p 5 = e := dgk_of (by omega) k3' (fun _ => h5)
      rw [if_pos ((dg_in hb (by omega)).mpr h5), hd, if_neg e0, if_neg (by omega)]
      by_cases hr : lo ≤ vnk c p e ∧ vnk c p e ≤ hi
      · refine Or.inl ⟨vnk c p e, p + e, if_pos hr, rfl, ?_, by omega, ?_, hr⟩
        · rw [if_neg (by rw [sp_in_ok hr.1 hr.2 (by omega)]; decide)]
          exact ⟨rfl, h2, h3, h4⟩
        · have h9 := k3' (e - 1) (by omega)
          have := lt_sz hb (p := p + (e - 1)) (by unfold dg9 at h9; omega)
          omega
      · refine Or.inr ⟨200 + p, if_neg hr, by omega, by omega, ?_⟩
        rw [if_pos (sp_no (by omega) (by omega) (by omega) hr), h1, fal_0 (s := (nI (p + e), s.2)) h2]
/-- a comparison -/
theorem at_0 : ∀ v, v < 256 → sp_at (tF 0) ((nI v).toInt8.toInt32) 4 = lof v := by decide +kernel
theorem at_1 : ∀ v, v < 256 → sp_at (tF 1) ((nI v).toInt8.toInt32) 3 = sgo v := by decide +kernel
theorem lo_3 : ∀ v, v < 256 → lof v = -1 ∨ ∃ k, k < 4 ∧ lof v = nI k := fun v _ => by
  unfold lof
  repeat' split
  · exact Or.inr ⟨0, by decide, rfl⟩
  · exact Or.inr ⟨1, by decide, rfl⟩
  · exact Or.inr ⟨2, by decide, rfl⟩
  · exact Or.inr ⟨3, by decide, rfl⟩
  · exact Or.inl rfl
theorem sg_2 (v : Nat) : sgo v = -1 ∨ ∃ k, k < 3 ∧ sgo v = nI k := by
  unfold sgo
  repeat' split
  · exact Or.inr ⟨0, by decide, rfl⟩
  · exact Or.inr ⟨1, by decide, rfl⟩
  · exact Or.inr ⟨2, by decide, rfl⟩
  · exact Or.inl rfl
theorem fd_0 {b : Nat → Int32} {sz : Nat} {c : Nat → Nat} (hb : BH b sz c) {p : Nat} (hp : p ≤ 1000) : fdx (tF 0) 4 (pkx b sz (nI p)) = lof (c p) := by
  rw [pk_v hb hp]
  by_cases h : p < sz
  · rw [if_pos h, ← at_0 _ (hb.2.2.1 p)]
    exact if_neg (i_nm (hb.2.2.1 p))
  · rw [if_neg h, hb.2.2.2 p (by omega)]
    rfl
theorem fd_1 {b : Nat → Int32} {sz : Nat} {c : Nat → Nat} (hb : BH b sz c) {p : Nat} (hp : p ≤ 1000) : fdx (tF 1) 3 (pkx b sz (nI p)) = sgo (c p) := by
  rw [pk_v hb hp]
  by_cases h : p < sz
  · rw [if_pos h, ← at_1 _ (hb.2.2.1 p)]
    exact if_neg (i_nm (hb.2.2.1 p))
  · rw [if_neg h, hb.2.2.2 p (by omega)]
    rfl
theorem eox_y {F : Nat → Int32} {n : Nat} {b : Nat → Int32} {sz : Nat} {s : rS} (h : s.2.1 = 0) (hf : 0 ≤ fdx F n (pkx b sz s.1)) : eox F n b sz s = adv s := congrArg adv ((if_pos h).trans (if_pos hf))
theorem eox_n {F : Nat → Int32} {n : Nat} {b : Nat → Int32} {sz : Nat} {s : rS} {p : Nat} (h : s.2.1 = 0) (hp : s.1 = nI p) (hf : ¬ 0 ≤ fdx F n (pkx b sz s.1)) : eox F n b sz s = adv (s.1, -nI (100 + p), s.2.2) := congrArg adv ((if_pos h).trans ((if_neg hf).trans (by rw [hp, fal_0 h, hp])))
theorem neg_n0 {f : Nat} (h0 : 0 < f) (h : f < 1000) : ¬ -nI f = 0 := by
  intro z
  have h2 : nI f = nI 0 := by
    have h3 := congrArg (fun x => -x) z
    have h4 : nI f = 0 := by simpa using h3
    exact h4
  exact absurd ((nI_eq (by omega) (by decide)).mp h2) (by omega)
theorem neg_inj {f g : Nat} (hf : f < 1000) (hg : g < 1000) (h : -nI f = -nI g) : f = g := (nI_eq (by omega) (by omega)).mp (Int32.neg_inj.mp h)
theorem enc_cm {l k v : Nat} (hl : l < 4) (hk : k < 3) (hv : v ≤ 9999) : enc (100000 * l + 10000 * k + v) = (nI l * nI 3 + nI k) * nI 10000 + nI v := by
  rw [pk_mul, nI_add, pk_mul, nI_add]
  unfold enc encN
  rw [if_neg (by omega), if_neg (by omega), if_neg (by omega)]
  refine congrArg nI ?_
  omega
theorem cmx_v {b : Nat → Int32} {sz : Nat} {c : Nat → Nat} (hb : BH b sz c) {s : rS} {p o : Nat} {L : List Nat} (h : Sd s p L) (hL : L.length ≤ p) (hp : p ≤ sz) (ho : 0 < o) (h1 : ¬ c p = 40) (h2 : ¬ c p = 33) : (∃ p2 w, Sd (cmx b sz s) p2 (w :: L) ∧ Seg [w] [w] ∧ w < 1000000 ∧ p + 3 ≤ p2 ∧ p2 ≤ sz ∧ ∀ W S, Rch c p o true W S p2 o false (cl 3 W (w :: S)).1 (cl 3 W (w :: S)).2) ∨ (∃ f, 0 < f ∧ f < 1000 ∧ (cmx b sz s).2.1 = -nI f ∧ ∀ W S, Err c p o true W S (.error f)) := by
  obtain ⟨q1, q2, q3, q4⟩ := id h
  have hsz := hb.1
  have f0 : fdx (tF 0) 4 (pkx b sz s.1) = lof (c p) := by rw [q1]; exact fd_0 hb (by omega)
  rcases lo_3 (c p) (hb.2.2.1 p) with z | ⟨l, hl, z⟩
  · refine Or.inr ⟨100 + p, by omega, by omega, ?_, fun W S => m_let h1 h2 z⟩
    unfold cmx
    have n0 := neg_n0 (f := 100 + p) (by omega) (by omega)
    rw [eox_n q2 q1 (by rw [f0, z]; decide), eox_k (s := adv (s.1, -nI (100 + p), s.2.2)) n0, rnx_k (s := adv (adv (s.1, -nI (100 + p), s.2.2))) n0, ptx_k (s := adv (adv (s.1, -nI (100 + p), s.2.2))) n0]
    rfl
  · have hA := Sd_adv h
    have hz : ¬ lof (c p) = -1 := by rw [z]; exact nI_nm1 (by omega)
    have f1 : fdx (tF 1) 3 (pkx b sz (adv s).1) = sgo (c (p + 1)) := by rw [hA.1]; exact fd_1 hb (by omega)
    have e0 : eox (tF 0) 4 b sz s = adv s := eox_y q2 (by rw [f0, z]; exact Int32.not_lt.mp (nI_pos (by omega)))
    rcases sg_2 (c (p + 1)) with y | ⟨k, hk, y⟩
    · refine Or.inr ⟨100 + (p + 1), by omega, by omega, ?_, fun W S => m_sig h1 h2 hz ho y⟩
      unfold cmx
      have n0 := neg_n0 (f := 100 + (p + 1)) (by omega) (by omega)
      rw [e0, eox_n (s := adv s) q2 hA.1 (by rw [f1, y]; decide), rnx_k (s := adv ((adv s).1, -nI (100 + (p + 1)), (adv s).2.2)) n0, ptx_k (s := adv ((adv s).1, -nI (100 + (p + 1)), (adv s).2.2)) n0]
      rfl
    · have hA2 := Sd_adv hA
      have hy : ¬ sgo (c (p + 1)) = -1 := by rw [y]; exact nI_nm1 (by omega)
      have e1 : eox (tF 1) 3 b sz (adv s) = adv (adv s) := eox_y (s := adv s) q2 (by rw [f1, y]; exact Int32.not_lt.mp (nI_pos (by omega)))
      have ht : tN (lof (c p)) = l := by rw [z]; exact tN_nI (by omega)
      have ht2 : tN (sgo (c (p + 1))) = k := by rw [y]; exact tN_nI (by omega)
      rcases rnx_v hb hA2 (by omega) (lo := 0) (hi := 9999) (by omega) (by omega) with ⟨v, e, r1, r2, r3, r4, r5, r6, r7⟩ | ⟨f, r1, r2, r3, r4⟩
      · have hw : cmc (c p) (c (p + 1)) v = 100000 * l + 10000 * k + v := by unfold cmc; rw [ht, ht2]
        refine Or.inl ⟨e, 100000 * l + 10000 * k + v, ?_, seg_cmp (by omega) (by omega), by omega, by omega, r5, fun W S => ?_⟩
        · unfold cmx
          rw [e0, e1, f0, f1, z, y, r2, ← enc_cm hl hk r7]
          exact Sd_put r3 (by omega) _
        · have := m_num (W := W) (S := S) h1 h2 hz ho hy r1
          rwa [hw] at this
      · refine Or.inr ⟨f, r2, r3, ?_, fun W S => m_numE h1 h2 hz ho hy r1⟩
        unfold cmx
        rw [e0, e1, ptx_k (by rw [r4]; exact neg_n0 r2 r3)]
        exact r4
