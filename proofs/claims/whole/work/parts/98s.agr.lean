/-! ONE MORE AGREEMENT: what stays, what is new -/
theorem CL_ix {C : Nat → Int32} : ∀ {L : List Nat}, CL C L → ∀ i, i < L.length → C i = enc (flw L i)
  | [], _, i, h => absurd h (Nat.not_lt_zero i)
  | w :: V, h, i, hi => by
    by_cases z : i = V.length
    · subst z
      rw [fl_t]
      exact h.1
    · have hi2 : i < V.length + 1 := hi
      rw [fl_c w V (by omega)]
      exact CL_ix h.2 i (by omega)
theorem evk_c {f g : Nat → Nat} {a t c u : Nat} : ∀ {n : Nat}, (∀ i, i < n → f i = g i) → evk f a t c u n = evk g a t c u n
  | 0, _ => rfl
  | n + 1, h => by
    show (evk f a t c u n).bind (tk a t c u (f n)) = (evk g a t c u n).bind (tk a t c u (g n))
    rw [evk_c (fun i hi => h i (by omega)), h n (Nat.lt_succ_self n)]
theorem ev_fl (a t c u : Nat) : ∀ L : List Nat, evk (flw L) a t c u L.length = evr a t c u L []
  | [] => rfl
  | w :: V => by
    show (evk (flw (w :: V)) a t c u V.length).bind (tk a t c u (flw (w :: V) V.length)) = (evr a t c u V []).bind (tk a t c u w)
    rw [fl_t, evk_c (fun i hi => fl_c w V hi), ev_fl a t c u V]
theorem nc_c {f g : Nat → Nat} : ∀ {n : Nat}, (∀ i, i < n → f i = g i) → nc f n = nc g n
  | 0, _ => rfl
  | n + 1, h => by
    show (if f n < 1000000 then nc f n + 1 else nc f n) = (if g n < 1000000 then nc g n + 1 else nc g n)
    rw [nc_c (fun i hi => h i (by omega)), h n (Nat.lt_succ_self n)]
theorem nc_fl : ∀ L : List Nat, nc (flw L) L.length = ncl L
  | [] => rfl
  | w :: V => by
    show (if flw (w :: V) V.length < 1000000 then nc (flw (w :: V)) V.length + 1 else nc (flw (w :: V)) V.length) = (if w < 1000000 then ncl V + 1 else ncl V)
    rw [fl_t, nc_c (fun i hi => fl_c w V hi), nc_fl V]
theorem fl_in : ∀ (L : List Nat) (j : Nat), j < L.length → flw L j ∈ L
  | [], j, h => absurd h (Nat.not_lt_zero j)
  | w :: V, j, h => by
    by_cases z : j = V.length
    · rw [z, fl_t]
      exact List.mem_cons_self
    · have h2 : j < V.length + 1 := h
      rw [fl_c w V (by omega)]
      exact List.mem_cons_of_mem _ (fl_in V j (by omega))
theorem in_fl : ∀ (L : List Nat) (w : Nat), w ∈ L → ∃ j, j < L.length ∧ flw L j = w
  | [], w, h => nomatch h
  | v :: V, w, h => by
    rcases List.mem_cons.mp h with z | z
    · exact ⟨V.length, Nat.lt_succ_self _, by rw [fl_t, z]⟩
    · obtain ⟨j, h1, h2⟩ := in_fl V w z
      exact ⟨j, Nat.lt_succ_of_lt h1, (fl_c v V h1).trans h2⟩
theorem bo3_mem {L : List Nat} {l v : Nat} : bo3 (flw L) L.length l v ↔ ∃ w, w ∈ L ∧ w < 1000000 ∧ w / 100000 = l ∧ (v = w % 10000 ∨ v = w % 10000 + 1) := by
  constructor
  · rintro ⟨j, h1, h2⟩
    exact ⟨flw L j, fl_in L j h1, h2⟩
  · rintro ⟨w, h1, h2⟩
    obtain ⟨j, g1, g2⟩ := in_fl L w h1
    exact ⟨j, g1, by rw [g2]; exact h2⟩
theorem ncl_le : ∀ L : List Nat, ncl L ≤ L.length
  | [] => Nat.le_refl _
  | w :: V => by
    have := ncl_le V
    show (if w < 1000000 then ncl V + 1 else ncl V) ≤ V.length + 1
    split <;> omega
theorem TI_fin {sz p : Nat} {S L : List Nat} {q : Nat → Int32} {E : Nat} (h : TI sz p S L q E) (hsz : sz ≤ 60) : (∀ g t c u, sp_met (flw L) L.length g t c u ↔ sp_met (flw S) S.length g t c u) ∧ (∀ l v, bo3 (flw L) L.length l v ↔ bo3 (flw S) S.length l v) ∧ okc (flw L) L.length ∧ okc (flw S) S.length ∧ nc (flw S) S.length ≤ 20 ∧ L.length < 60 ∧ S.length ≤ 79 ∧ (∀ k, k < L.length → okW (flw L k)) ∧ (∀ k, k < S.length → flw S k < 400000 ∨ 1000000 ≤ flw S k ∧ flw S k ≤ 1000002) := by
  obtain ⟨a1, a2, a3, a4, a5⟩ := h
  rcases a4 with ⟨z1, z2, z3⟩ | ⟨z1, ⟨y1, y2, y3, y4, y5⟩, z3⟩
  · subst z2
    subst z3
    exact ⟨fun _ _ _ _ => Iff.rfl, fun _ _ => Iff.rfl, fun _ _ _ _ => Or.inl rfl, fun _ _ _ _ => Or.inl rfl, Nat.zero_le _, by decide, by decide, fun k hk => absurd hk (Nat.not_lt_zero k), fun k hk => absurd hk (Nat.not_lt_zero k)⟩
  · have hn := ncl_le S
    refine ⟨fun g t c u => ?_, fun l v => ?_, fun g t c u => ?_, fun g t c u => ?_, ?_, by omega, by omega, fun k hk => y4 _ (fl_in L k hk), fun k hk => (y3 _ (fl_in S k hk)).imp (fun z => z.1) id⟩
    · obtain ⟨v, hv, he⟩ := y1 g t c u
      unfold sp_met
      rw [ev_fl, ev_fl, (he []).1, (he []).2]
    · rw [bo3_mem, bo3_mem]
      exact ⟨fun ⟨w, h1, h2, h3⟩ => ⟨w, (y2 w h2).mpr h1, h2, h3⟩, fun ⟨w, h1, h2, h3⟩ => ⟨w, (y2 w h2).mp h1, h2, h3⟩⟩
    · obtain ⟨v, hv, he⟩ := y1 g t c u
      exact Or.inr ⟨v, (ev_fl g t c u L).trans (he []).2⟩
    · obtain ⟨v, hv, he⟩ := y1 g t c u
      exact Or.inr ⟨v, (ev_fl g t c u S).trans (he []).1⟩
    · rw [nc_fl]
      omega
theorem RS_fr (cs : Nat → Nat → Int32) (v : Int32) (q : Nat → Int32) (s : rS) {a : Nat} (h1 : ¬ a = 12) (h2 : ¬ a = 14) : RS (qs (w1 cs 12 1 v) q) s a = cs a := by
  funext k
  unfold RS qs w1
  repeat rw [if_neg (by omega)]
/-- the text is read: the reader has the tape's bytes, the tape is empty -/
theorem CV_t2 {M : mH} {T : Nat → mT} {cs sg : Nat → Nat → Int32} {io : Nat → Int32} {e : Nat → Nat} {D : Nat → Nat → Nat} {nh nx ns nf ny tp : Nat} {cm : Nat → Nat} {w : Nat → Nat → Nat} {cn : Nat → Nat} {wc : Nat → Nat → Nat} (hV : CV M T cs io sg e D nh nx ns nf ny tp cm w cn wc) : CV M (va_up T 12 (3, 0, rl [(0, 11), (4, 14)])) (w1 cs 10 1 (nI 0)) (va_up io 23 (nI 0)) sg (fun j => if j = 3 then 11 else e j) D nh nx ns nf ny 0 cm w cn wc := by
  obtain ⟨⟨hM, hMs, hW⟩, ⟨hF, ⟨hL0, hL1, hL2⟩, hSc, hAg, hSt⟩, ⟨c1, c2, c3, c4, c5⟩, ⟨⟨q3, q4, q5, q7, q6, q23⟩, r1, r2, r3, r4, r5, r6, r7, r8, r9, r10⟩, hJ⟩ := hV
  have g : ∀ x, ¬ x = 10 → (w1 cs 10 1 (nI 0)) x = cs x := fun x hx => w1_n _ _ _ hx
  have od : ∀ k j, dvl sg nh nx ns k j → (va_up T 12 (3, 0, rl [(0, 11), (4, 14)])) (D k j) = T (D k j) ∧ (w1 cs 10 1 (nI 0)) (D k j) = cs (D k j) := fun k j hv => by
    have := DJ_lo hJ hv
    exact ⟨up_o _ _ (by omega), g _ (by omega)⟩
  have hm : M.1 ≤ M.1 := Nat.le_refl _
  have h59 : ∀ s, s < ns → tN (sg 59 s) ≤ 4 := fun s hs => (inN_tN (r8 s hs).2.2.2.2.2.2.1 (by decide)).2
  refine ⟨⟨hM, hMs, hW⟩, ⟨fun x hx => ?_, ⟨?_, ?_, ?_⟩, fun h hh => ?_, fun x hx => ?_, fun s hs => ?_⟩, ⟨c1, fun l hl => ?_, fun i hi m hm => ?_, ⟨?_, fun j hj => ?_⟩, ?_⟩, ⟨⟨q3, q4, q5, q7, q6, ⟨rfl, by decide⟩⟩, r1, r2, r3, r4, r5, r6, r7, r8, r9, r10⟩, ⟨fun i hi => (hJ.1 i hi).trans (if_neg (by omega)).symm, hJ.2⟩⟩
  · by_cases z : x = 12
    · subst z
      exact if_pos rfl
    · rw [up_o _ _ z, hF x hx]
      by_cases y : x = 25 ∨ x = 26 ∨ x = 27
      · rcases y with rfl | rfl | rfl <;> rfl
      · exact (cT_e x hx (by omega)).symm
  · show LsR M _ _ 25 (e 0) nh _
    exact LsR_x hL0 hm (up_o _ _ (by decide)) (fun h0 => by rw [← hJ.1 0 (by decide)]; exact (od 10 0 (dvl_10 (by decide) h0)).1) (g 25 (by decide))
  · show LsR M _ _ 26 (e 1) nx _
    exact LsR_x hL1 hm (up_o _ _ (by decide)) (fun h0 => by rw [← hJ.1 1 (by decide)]; exact (od 10 1 (dvl_10 (by decide) h0)).1) (g 26 (by decide))
  · show LsR M _ _ 27 (e 2) ns _
    exact LsR_x hL2 hm (up_o _ _ (by decide)) (fun h0 => by rw [← hJ.1 2 (by decide)]; exact (od 10 2 (dvl_10 (by decide) h0)).1) (g 27 (by decide))
  · exact ScR_x (hSc h hh) hm (od 0 h (dvl_0 hh)) (od 1 h (dvl_1 hh)) (fun h0 => (od 2 h ⟨by decide, Or.inr (Or.inl ⟨rfl, hh, h0⟩)⟩).1) (fun c hc => od 3 _ (dvl_3 hh hc)) rfl rfl rfl (fun c hc => rfl) (fun k h1 h2 h3 => rfl) (fun c hc k h1 h2 => rfl)
  · exact AgR_x (hAg x hx) hm (od 4 x (dvl_x (by decide) (by decide) hx)) (od 5 x (dvl_x (by decide) (by decide) hx)) (od 6 x (dvl_x (by decide) (by decide) hx)).1 rfl rfl rfl (fun k h1 h2 => rfl)
  · exact StR_x (hSt s hs) (h59 s hs) hm (od 7 s (dvl_s (by decide) (by decide) hs)) (od 8 s (dvl_s (by decide) (by decide) hs)) (od 9 s (dvl_s (by decide) (by decide) hs)) rfl rfl rfl (fun k h1 h2 => rfl) (fun j hj => ⟨rfl, rfl⟩)
  · rw [g 1 (by decide), g 2 (by decide)]
    exact c2 l hl
  · rw [g (6 + i) (by omega)]
    exact c3 i hi m hm
  · exact if_pos ⟨rfl, rfl⟩
  · rw [g 11 (by decide)]
    exact c4.2 j hj
  · rw [g 20 (by decide), g 21 (by decide), g 22 (by decide), g 23 (by decide), g 24 (by decide)]
    exact c5
theorem CV_rd {M : mH} {T : Nat → mT} {cs sg : Nat → Nat → Int32} {io : Nat → Int32} {e : Nat → Nat} {D : Nat → Nat → Nat} {nh nx ns nf ny tp : Nat} {cm : Nat → Nat} {w : Nat → Nat → Nat} {cn : Nat → Nat} {wc : Nat → Nat → Nat} (hV : CV M T cs io sg e D nh nx ns nf ny tp cm w cn wc) (v : Int32) (q : Nat → Int32) (s : rS) {io1 : Nat → Int32} {sg1 : Nat → Nat → Int32} (hq : FrQ io sg io1 sg1) : CV M (va_up T 12 (3, 0, rl [(0, 11), (4, 14)])) (w1 (RS (qs (w1 cs 12 1 v) q) s) 10 1 (nI 0)) (va_up io1 23 (nI 0)) sg1 (fun j => if j = 3 then 11 else e j) D nh nx ns nf ny 0 cm w cn wc := CV_t2 (CV_sc hV (fun a h1 h2 => RS_fr cs v q s (by omega) (by omega)) (fun k h1 h2 => hq.2 k (by omega) (by omega)) (fun k hk => hq.1 k (by omega) (by omega)))
theorem up_e {α : Type} (f : Nat → α) {a : Nat} {v : α} : va_up f a v a = v := if_pos rfl
theorem sa_k (sg : Nat → Nat → Int32) (x : Nat) (a b : Int32) (q : Nat → Int32) (m : Nat) {k : Nat} (hk : ¬ (27 ≤ k ∧ k ≤ 36)) : sg_agr sg x a b q m k = sg k := by
  unfold sg_agr
  rw [up_o _ _ (by omega), up_o _ _ (by omega), up_o _ _ (by omega), up_o _ _ (by omega), up_o _ _ (by omega), up_o _ _ (by omega), up_o _ _ (by omega), up_o _ _ (by omega), up_o _ _ (by omega), up_o _ _ (by omega)]
theorem sa_o (sg : Nat → Nat → Int32) (x : Nat) (a b : Int32) (q : Nat → Int32) (m : Nat) {k : Nat} (hk : ¬ k = 35) {j : Nat} (hj : ¬ j = x) : sg_agr sg x a b q m k j = sg k j := by
  unfold sg_agr va_up
  repeat' split
  all_goals first
    | rfl
    | (rename_i h; subst h; exact if_neg hj)
    | (rename_i h; exact absurd h hk)
theorem CV_agr {M : mH} {T : Nat → mT} {cs sg : Nat → Nat → Int32} {io : Nat → Int32} {e : Nat → Nat} {D : Nat → Nat → Nat} {nh nx ns nf ny tp : Nat} {cm : Nat → Nat} {w : Nat → Nat → Nat} {cn : Nat → Nat} {wc : Nat → Nat → Nat} (hV : CV M T cs io sg e D nh nx ns nf ny tp cm w cn wc) {M1 M2 : mH} {T1 T2 : Nat → mT} {cs1 cs2 : Nat → Nat → Int32} {ed2 : Nat} (hM1 : M1.1 = M.1 + 3) (hM2 : M2.1 ≤ 900000) (h22 : M1.2.2 = M.2.2) (hT1 : ∀ a, a < M.1 → T1 a = T a) (hc1 : ∀ a, a < M.1 → cs1 a = cs a) (hA : AdP M1 M2 T1 T2 cs1 cs2 26 (e 1) ed2 nx (D 4) M.1) {a b : Nat} {q : Nat → Int32} {S L : List Nat} {sz p E : Nat} (hn8 : nx < 12) (ha : a < nh) (hb : b < nh) (hab : ¬ a = b) (hI0 : TI sz p S L q E) (hsz : sz ≤ 60) (h37 : WL (sg 37) S) (hy : T1 M.1 = (10, 0, rl [(9, M.1 + 2), (8, M.1 + 1)])) (hy1 : T1 (M.1 + 1) = (20, L.length, fun _ => none)) (hy2 : T1 (M.1 + 2) = (20, L.length, fun _ => none)) (hv : cs1 M.1 0 = nI a ∧ cs1 M.1 1 = nI b ∧ cs1 M.1 2 = q 6 ∧ cs1 M.1 3 = q 7 ∧ cs1 M.1 4 = q 8 ∧ cs1 M.1 5 = q 9 ∧ cs1 M.1 6 = q 10 ∧ cs1 M.1 7 = q 11) (hz : ∀ k, k < L.length → cs1 (M.1 + 1) k = enc (flw L k)) : ∃ e2 D2, CV M2 T2 cs2 (va_up io 4 (nI (nx + 1))) (sg_agr sg nx (nI a) (nI b) q S.length) e2 D2 nh (nx + 1) ns nf ny tp (va_up cm nx S.length) (va_up w nx (flw S)) (va_up cn nx L.length) (va_up wc nx (flw L)) ∧ e2 3 = e 3 := by
  obtain ⟨t1, t2, t3, t4, t5, t6, t7, t8, t9⟩ := TI_fin hI0 hsz
  obtain ⟨-, -, -, -, u6, u7, u8, u9, u10⟩ := id hI0
  obtain ⟨⟨hM, hMs, hW⟩, hI, hT, hR, hJ⟩ := id hV
  obtain ⟨hed, -, h2f, hLn, hT2, hc2⟩ := id hA
  obtain ⟨hF, ⟨hL0, hL1, hL2⟩, hSc, hAg, hSt⟩ := id hI
  have hmm : M.1 ≤ M2.1 := by omega
  have hei : 157 ≤ e 1 ∧ e 1 < M.1 ∨ e 1 = 1000000 := by
    rcases hL1.2.2.2.2 with y | ⟨y, c, r, y1, y2, y3⟩
    · exact Or.inr y.2
    · refine Or.inl ⟨?_, y2.1⟩
      rw [← hJ.1 1 (by decide)]
      exact DJ_lo hJ (dvl_10 (by decide) y)
  have o1 : ∀ a, a < M.1 → ¬ a = 26 → ¬ a = e 1 → T2 a = T a := fun a h1 h2 h3 => (hT2 a (by omega) h2 h3).trans (hT1 a h1)
  have o2 : ∀ a, a < M.1 → ¬ a = 26 → cs2 a = cs a := fun a h1 h2 => (hc2 a (by omega) h2).trans (hc1 a h1)
  have n1 : ∀ j, j < 3 → T2 (M.1 + j) = T1 (M.1 + j) ∧ cs2 (M.1 + j) = cs1 (M.1 + j) := fun j hj => ⟨hT2 _ (by omega) (by omega) (by omega), hc2 _ (by omega) (by omega)⟩
  have od : ∀ k j, dvl sg nh nx ns k j → ¬ (k = 10 ∧ j = 1) → T2 (D k j) = T (D k j) ∧ cs2 (D k j) = cs (D k j) := fun k j hv hn => old_x (i := 1) hI hJ hMs (by decide) o1 o2 hv hn
  obtain ⟨D2, eD⟩ : ∃ z, z = fun k j => if k = 4 ∧ j = nx then M.1 else if k = 5 ∧ j = nx then M.1 + 1 else if k = 6 ∧ j = nx then M.1 + 2 else if k = 10 ∧ j = 1 then ed2 else D k j := ⟨_, rfl⟩
  have dn : ∀ k j, ¬ (4 ≤ k ∧ k ≤ 6 ∧ j = nx) → ¬ (k = 10 ∧ j = 1) → D2 k j = D k j := fun k j h1 h2 => by
    rw [eD]
    show (if _ then _ else if _ then _ else if _ then _ else if _ then _ else _) = _
    rw [if_neg (by omega), if_neg (by omega), if_neg (by omega), if_neg (by omega)]
  have d4 : D2 4 nx = M.1 := by rw [eD]; exact if_pos ⟨rfl, rfl⟩
  have d5 : D2 5 nx = M.1 + 1 := by rw [eD]; exact (if_neg (by omega)).trans (if_pos ⟨rfl, rfl⟩)
  have d6 : D2 6 nx = M.1 + 2 := by rw [eD]; exact (if_neg (by omega)).trans ((if_neg (by omega)).trans (if_pos ⟨rfl, rfl⟩))
  have d10 : D2 10 1 = ed2 := by rw [eD]; exact (if_neg (by omega)).trans ((if_neg (by omega)).trans ((if_neg (by omega)).trans (if_pos ⟨rfl, rfl⟩)))
  obtain ⟨sg2, eS⟩ : ∃ z, z = sg_agr sg nx (nI a) (nI b) q S.length := ⟨_, rfl⟩
  rw [← eS]
  have so : ∀ k j, ¬ k = 35 → ¬ j = nx → sg2 k j = sg k j := fun k j hk hj => by rw [eS]; exact sa_o sg nx _ _ _ _ hk hj
  have sk : ∀ k, ¬ (27 ≤ k ∧ k ≤ 36) → sg2 k = sg k := fun k hk => by rw [eS]; exact sa_k sg nx _ _ _ _ hk
  have s35 : sg2 35 = cpS (sg 35) (80 * nx) (sg 37) S.length := by rw [eS]; rfl
  have s9 : sg2 27 nx = nI a ∧ sg2 28 nx = nI b ∧ sg2 29 nx = q 6 ∧ sg2 30 nx = q 7 ∧ sg2 31 nx = q 8 ∧ sg2 32 nx = q 9 ∧ sg2 33 nx = q 10 ∧ sg2 34 nx = q 11 ∧ sg2 36 nx = nI S.length := by
    rw [eS]
    exact ⟨ud_s _ _ _, ud_s _ _ _, ud_s _ _ _, ud_s _ _ _, ud_s _ _ _, ud_s _ _ _, ud_s _ _ _, ud_s _ _ _, ud_s _ _ _⟩
  obtain ⟨⟨q3, q4, q5, q7, q6, q23⟩, r1, r2, r3, r4, r5, r6, r7, r8, r9, r10⟩ := hR
  have h59 : ∀ s, s < ns → tN (sg 59 s) ≤ 4 := fun s hs => (inN_tN (r8 s hs).2.2.2.2.2.2.1 (by decide)).2
  have N0 := n1 0 (by decide)
  have N1 := n1 1 (by decide)
  have N2 := n1 2 (by decide)
  rw [Nat.add_zero] at N0
  refine ⟨fun j => if j = 1 then ed2 else e j, D2, ⟨⟨by omega, hM2, by rw [h2f, h22]; exact hW⟩, ⟨fun x hx => ?_, ⟨?_, ?_, ?_⟩, fun g hg => ?_, fun x hx => ?_, fun s hs => ?_⟩, ?_, ⟨⟨q3, ⟨rfl, by omega⟩, q5, q7, q6, q23⟩, ?_, ?_, fun g hg => RVs_g (r3 g hg) (fun k h1 h2 => sk k (by omega)), ?_, ?_, fun x hx => ?_, fun x hx => ?_, fun s hs => ?_, ?_, ?_⟩, ?_⟩, rfl⟩
  · by_cases z : x = 26
    · subst z
      exact hLn.1
    · rw [o1 x (by omega) z (by omega), hF x hx]
      by_cases y : x = 12 ∨ x = 25 ∨ x = 27
      · rcases y with rfl | rfl | rfl <;> rfl
      · exact (cT_e x hx (by omega)).symm
  · show LsR M2 T2 cs2 25 (e 0) nh _
    exact LsR_ad (LsR_x hL0 hmm (o1 25 (by omega) (by decide) (by omega)) (fun h0 => by rw [← hJ.1 0 (by decide)]; exact (od 10 0 (dvl_10 (by decide) h0) (by decide)).1) (o2 25 (by omega) (by decide))) (fun i hi => dn 0 i (by omega) (by omega))
  · refine LsR_ad hLn (fun i hi => ?_)
    by_cases z : i = nx
    · rw [z, d4, if_pos rfl]
    · rw [dn 4 i (by omega) (by omega), if_neg z]
  · show LsR M2 T2 cs2 27 (e 2) ns _
    exact LsR_ad (LsR_x hL2 hmm (o1 27 (by omega) (by decide) (by omega)) (fun h0 => by rw [← hJ.1 2 (by decide)]; exact (od 10 2 (dvl_10 (by decide) h0) (by decide)).1) (o2 27 (by omega) (by decide))) (fun i hi => dn 7 i (by omega) (by omega))
  · rw [sk 16 (by decide)]
    exact ScR_x (hSc g hg) hmm (od 0 g (dvl_0 hg) (by omega)) (od 1 g (dvl_1 hg) (by omega)) (fun h0 => (od 2 g ⟨by decide, Or.inr (Or.inl ⟨rfl, hg, h0⟩)⟩ (by omega)).1) (fun c hc => od 3 _ (dvl_3 hg hc) (by omega)) (dn 0 g (by omega) (by omega)) (dn 1 g (by omega) (by omega)) (dn 2 g (by omega) (by omega)) (fun c hc => dn 3 _ (by omega) (by omega)) (fun k h1 h2 h3 => by rw [sk k (by omega)]) (fun c hc k h1 h2 => by rw [sk k (by omega)])
  · by_cases z : x = nx
    · subst z
      rw [up_e cn, up_e wc]
      unfold AgR
      rw [d4, d5, d6, N0.1, N0.2, N1.1, N1.2, N2.1, s9.1, s9.2.1, s9.2.2.1, s9.2.2.2.1, s9.2.2.2.2.1, s9.2.2.2.2.2.1, s9.2.2.2.2.2.2.1, s9.2.2.2.2.2.2.2.1]
      exact ⟨hy, ⟨by omega, by omega⟩, ⟨hy1, ⟨by omega, by omega⟩, hy2, ⟨by omega, by omega⟩⟩, hv, hz, by omega, t8, t3, by omega, by omega⟩
    · have hx2 : x < nx := by omega
      rw [up_o cn _ z, up_o wc _ z]
      exact AgR_x (hAg x hx2) hmm (od 4 x (dvl_x (by decide) (by decide) hx2) (by omega)) (od 5 x (dvl_x (by decide) (by decide) hx2) (by omega)) (od 6 x (dvl_x (by decide) (by decide) hx2) (by omega)).1 (dn 4 x (by omega) (by omega)) (dn 5 x (by omega) (by omega)) (dn 6 x (by omega) (by omega)) (fun k h1 h2 => so k x (by omega) z)
  · rw [sk 59 (by decide)]
    exact StR_x (hSt s hs) (h59 s hs) hmm (od 7 s (dvl_s (by decide) (by decide) hs) (by omega)) (od 8 s (dvl_s (by decide) (by decide) hs) (by omega)) (od 9 s (dvl_s (by decide) (by decide) hs) (by omega)) (dn 7 s (by omega) (by omega)) (dn 8 s (by omega) (by omega)) (dn 9 s (by omega) (by omega)) (fun k h1 h2 => by rw [sk k (by omega)]) (fun j hj => by rw [sk 60 (by decide), sk 61 (by decide)]; exact ⟨rfl, rfl⟩)
  · exact CT_x hT (fun x hx => o2 x (by omega) (by omega)) (fun k hk => sk k (by omega)) ⟨rfl, rfl⟩
  · rw [sk 0 (by decide), sk 1 (by decide)]
    exact r1
  · rw [sk 2 (by decide)]
    exact r2
  · rw [sk 16 (by decide)]
    exact r4
  · rw [sk 16 (by decide), sk 21 (by decide)]
    exact r5
  · by_cases z : x = nx
    · subst z
      rw [up_e cn, up_e wc, up_e cm, up_e w]
      unfold RVx
      rw [s9.1, s9.2.1, s9.2.2.1, s9.2.2.2.1, s9.2.2.2.2.1, s9.2.2.2.2.2.1, s9.2.2.2.2.2.2.1]
      exact ⟨⟨a, b, ha, hb, hab, rfl, rfl⟩, u6, u7, u8, u9, u10, t1, t2⟩
    · have hx2 : x < nx := by omega
      rw [up_o cn _ z, up_o wc _ z, up_o cm _ z, up_o w _ z]
      have := r6 x hx2
      unfold RVx at this ⊢
      rw [so 27 x (by decide) z, so 28 x (by decide) z, so 29 x (by decide) z, so 30 x (by decide) z, so 31 x (by decide) z, so 32 x (by decide) z, so 33 x (by decide) z]
      exact this
  · by_cases z : x = nx
    · subst z
      rw [up_e cm, up_e w]
      refine ⟨s9.2.2.2.2.2.2.2.2, t7, fun k hk => ?_, t9, t4, t5⟩
      rw [s35, cpS_i hk]
      exact (WL_ix h37 k hk).1
    · have hx2 : x < nx := by omega
      rw [up_o cm _ z, up_o w _ z]
      obtain ⟨p1, p2, p3, p4⟩ := r7 x hx2
      refine ⟨(so 36 x (by decide) z).trans p1, p2, fun k hk => ?_, p4⟩
      rw [s35, cpS_o (by omega)]
      exact p3 k hk
  · have := r8 s hs
    refine RVt_h (nh := nh) (nx := nx) ?_ (Nat.le_refl _) (Nat.le_succ _)
    unfold RVt at this ⊢
    rw [sk 51 (by decide), sk 52 (by decide), sk 53 (by decide), sk 54 (by decide), sk 55 (by decide), sk 56 (by decide), sk 57 (by decide), sk 58 (by decide), sk 59 (by decide), sk 60 (by decide), sk 61 (by decide)]
    obtain ⟨p1, p2, p3, p4, p5, p6, p7, p8, p9, p10⟩ := this
    refine ⟨p1, p2, p3, p4, p5, p6, p7, p8, p9, p10.imp id (fun y => ⟨y.1, ?_⟩)⟩
    obtain ⟨x, pp, y1, y2, y3, y4, y5⟩ := y.2
    exact ⟨x, pp, y1, y2, y3, y4, by rw [so 27 x (by decide) (by omega), so 28 x (by decide) (by omega)]; exact y5⟩
  · rw [sk 59 (by decide)]
    exact r9
  · rw [sk 80 (by decide)]
    exact r10
  · obtain ⟨j1, rk, j2⟩ := hJ
    refine ⟨fun j hj => ?_, fun x => if x = M.1 then 16 * nx + 4 else if x = M.1 + 1 then 16 * nx + 5 else if x = M.1 + 2 then 16 * nx + 6 else if x = M.1 + 3 then 26 else rk x, fun k j hv9 => ?_⟩
    · by_cases z : j = 1
      · subst z
        exact d10
      · rw [dn 10 j (by omega) (by omega)]
        exact (j1 j hj).trans (if_neg z).symm
    · by_cases z0 : k = 4 ∧ j = nx
      · rw [z0.1, z0.2, d4]
        exact ⟨hM, by omega, if_pos rfl⟩
      · by_cases z1 : k = 5 ∧ j = nx
        · rw [z1.1, z1.2, d5]
          exact ⟨by omega, by omega, (if_neg (by omega)).trans (if_pos rfl)⟩
        · by_cases z2 : k = 6 ∧ j = nx
          · rw [z2.1, z2.2, d6]
            exact ⟨by omega, by omega, (if_neg (by omega)).trans ((if_neg (by omega)).trans (if_pos rfl))⟩
          · by_cases z10 : k = 10 ∧ j = 1
            · rw [z10.1, z10.2, d10]
              rcases hed with y | y
              · have := j2 10 1 (dvl_10 (by decide) y.2.2)
                rw [j1 1 (by decide), ← y.2.1] at this
                exact ⟨this.1, by omega, (if_neg (by omega)).trans ((if_neg (by omega)).trans ((if_neg (by omega)).trans ((if_neg (by omega)).trans this.2.2)))⟩
              · rw [y.2]
                exact ⟨by omega, by omega, (if_neg (by omega)).trans ((if_neg (by omega)).trans ((if_neg (by omega)).trans (if_pos (by omega))))⟩
            · have hv2 : dvl sg nh nx ns k j ∧ ¬ (4 ≤ k ∧ k ≤ 6 ∧ j = nx) := by
                obtain ⟨g1, g2⟩ := hv9
                rw [sk 16 (by decide)] at g2
                rcases g2 with g | g | g | g | g | g
                · exact ⟨⟨g1, Or.inl g⟩, by omega⟩
                · exact ⟨⟨g1, Or.inr (Or.inl g)⟩, by omega⟩
                · exact ⟨⟨g1, Or.inr (Or.inr (Or.inl g))⟩, by omega⟩
                · exact ⟨⟨g1, Or.inr (Or.inr (Or.inr (Or.inl ⟨g.1, g.2.1, by omega⟩)))⟩, by omega⟩
                · exact ⟨⟨g1, Or.inr (Or.inr (Or.inr (Or.inr (Or.inl g))))⟩, by omega⟩
                · exact ⟨⟨g1, Or.inr (Or.inr (Or.inr (Or.inr (Or.inr ⟨g.1, by omega⟩))))⟩, by omega⟩
              have := j2 k j hv2.1
              rw [dn k j hv2.2 z10]
              exact ⟨this.1, by omega, (if_neg (by omega)).trans ((if_neg (by omega)).trans ((if_neg (by omega)).trans ((if_neg (by omega)).trans this.2.2)))⟩
theorem nw_agr {M : mH} (hlo : 157 ≤ M.1) (hhi : M.1 ≤ 800000) (T : Nat → mT) (cs : Nat → Nat → Int32) (v1 v2 : Int32) (hr : T 12 = (3, 0, rl [(0, 11), (4, 14)])) (h14 : T 14 = (20, 60, fun _ => none)) (n : Nat) (hn : cs 12 5 = nI n) (hn6 : n < 60) : ∃ M1 T1 cs1, ((M1.1 = M.1 + 3 ∧ M1.2.1 ≤ M.2.1 + 200 ∧ M1.2.2 = M.2.2) ∧ (∀ a, a < M.1 → T1 a = T a) ∧ (∀ a, a < M.1 → cs1 a = cs a) ∧ T1 M.1 = (10, 0, rl [(9, M.1 + 2), (8, M.1 + 1)]) ∧ T1 (M.1 + 1) = (20, n, fun _ => none) ∧ T1 (M.1 + 2) = (20, n, fun _ => none) ∧ (cs1 M.1 0 = v1 ∧ cs1 M.1 1 = v2 ∧ cs1 M.1 2 = cs 12 6 ∧ cs1 M.1 3 = cs 12 7 ∧ cs1 M.1 4 = cs 12 8 ∧ cs1 M.1 5 = cs 12 9 ∧ cs1 M.1 6 = cs 12 10 ∧ cs1 M.1 7 = cs 12 11) ∧ ∀ k, k < n → cs1 (M.1 + 1) k = cs 14 k) ∧ mm_Ev 4 81 [.ref M.1, .int v1, .int v2, .ref 12] (hk (mnew M 10) (va_up T M.1 (10, 0, fun _ => none)) (wA cs M.1 (fun _ => 0))) (none, hk M1 T1 cs1) := by
  have e12 : wA cs M.1 (fun _ => 0) 12 = cs 12 := wA_o _ _ (by omega)
  have e14 : wA cs M.1 (fun _ => 0) 14 = cs 14 := wA_o _ _ (by omega)
  have h9 := k_iAg (mnew M 10) (by show 157 ≤ M.1 + 1; omega) (by show M.1 + 1 ≤ 900000; omega) (va_up T M.1 (10, 0, fun _ => none)) (wA cs M.1 (fun _ => 0)) M.1 (if_pos rfl) ⟨Nat.lt_succ_self _, by omega⟩ 12 11 ((up_o _ _ (by omega)).trans hr) ⟨by show 12 < M.1 + 1; omega, by omega⟩ ((up_o _ _ (by omega)).trans h14) n (by rw [e12]; exact hn) hn6 (by omega) v1 v2
  have e1 : (mnew M 10).1 = M.1 + 1 := rfl
  rw [e1] at h9
  refine ⟨_, _, _, ?_, h9⟩
  refine ⟨⟨rfl, by show M.2.1 + 10 + n + n ≤ _; omega, rfl⟩, fun a ha => ?_, fun a ha => ?_, if_pos rfl, ?_, ?_, ⟨?_, ?_, ?_, ?_, ?_, ?_, ?_, ?_⟩, fun k hk => ?_⟩
  · rw [up_o _ _ (by omega), up_o _ _ (by omega), up_o _ _ (by omega), up_o _ _ (by omega), up_o _ _ (by omega)]
  · rw [wA_o _ _ (by omega), wA_o _ _ (by omega), wA_o _ _ (by omega), w1_n _ _ _ (by omega), w1_n _ _ _ (by omega), w1_n _ _ _ (by omega), w1_n _ _ _ (by omega), w1_n _ _ _ (by omega), w1_n _ _ _ (by omega), w1_n _ _ _ (by omega), w1_n _ _ _ (by omega), wA_o _ _ (by omega)]
  · rw [up_o _ _ (by omega), up_o _ _ (by omega), up_o _ _ (by omega)]
    exact if_pos rfl
  · rw [up_o _ _ (by omega)]
    exact if_pos rfl
  iterate 8 (rw [wA_o _ _ (by omega), wA_o _ _ (by omega), wA_o _ _ (by omega)]; simp [w1, e12])
  rw [wA_o _ _ (by omega), wA_s]
  refine (if_pos ⟨Nat.zero_le _, by omega⟩).trans ?_
  rw [wA_o _ _ (by omega), w1_n _ _ _ (by omega), w1_n _ _ _ (by omega), w1_n _ _ _ (by omega), w1_n _ _ _ (by omega), w1_n _ _ _ (by omega), w1_n _ _ _ (by omega), w1_n _ _ _ (by omega), w1_n _ _ _ (by omega), e14]
  exact congrArg (cs 14) (by omega)
