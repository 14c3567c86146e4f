/-! the reader against the reference's machine -/
/-- what is closed: from the top of what waits -/
def cl (k : Nat) : List Nat → List Nat → List Nat × List Nat
  | [], S => ([], S)
  | w :: W, S => if ¬ w = 1000003 ∧ k ≤ bnd w then cl k W (w :: S) else (w :: W, S)
def sgo (v : Nat) : Int32 := if v = 60 then nI 0 else if v = 62 then nI 1 else if v = 61 then nI 2 else -1
def cmc (x y v : Nat) : Nat := 100000 * tN (lof x) + 10000 * tN (sgo y) + v
/-- one expression of the reference: fuel, place, open, wants, waits, said -/
noncomputable def mrun (c : Nat → Nat) : Nat → Nat → Nat → Bool → List Nat → List Nat → Option (Except Nat (Nat × List Nat))
  | 0, _, _, _, _, _ => none
  | N + 1, p, o, true, W, S =>
    if c p = 40 then (if o = 6 then some (.error (300 + p)) else mrun c N (p + 1) (o + 1) true (1000003 :: W) S)
    else if c p = 33 ∧ 0 < o then mrun c N (p + 1) o true (1000002 :: W) S
    else if lof (c p) = -1 ∨ o = 0 then some (.error (100 + p))
    else if sgo (c (p + 1)) = -1 then some (.error (100 + (p + 1)))
    else match rn c (p + 2) 0 9999 with
      | .error f => some (.error f)
      | .ok (v, e) => mrun c N e o false (cl 3 W (cmc (c p) (c (p + 1)) v :: S)).1 (cl 3 W (cmc (c p) (c (p + 1)) v :: S)).2
  | N + 1, p, o, false, W, S =>
    if c p = 38 then mrun c N (p + 1) o true (1000000 :: (cl 2 W S).1) (cl 2 W S).2
    else if c p = 124 then mrun c N (p + 1) o true (1000001 :: (cl 1 W S).1) (cl 1 W S).2
    else if c p = 41 then (if o = 1 then some (.ok (p + 1, (cl 3 (cl 1 W S).1.tail (cl 1 W S).2).2)) else mrun c N (p + 1) (o - 1) false (cl 3 (cl 1 W S).1.tail (cl 1 W S).2).1 (cl 3 (cl 1 W S).1.tail (cl 1 W S).2).2)
    else some (.error (100 + p))
def Rch (c : Nat → Nat) (p o : Nat) (b : Bool) (W S : List Nat) (p2 o2 : Nat) (b2 : Bool) (W2 S2 : List Nat) : Prop := ∃ j, ∀ N, mrun c (j + N) p o b W S = mrun c N p2 o2 b2 W2 S2
def Err (c : Nat → Nat) (p o : Nat) (b : Bool) (W S : List Nat) (r : Except Nat (Nat × List Nat)) : Prop := ∃ j, ∀ N, mrun c (j + N) p o b W S = some r
section MC
variable {c : Nat → Nat}
theorem Rch_0 {p o : Nat} {b : Bool} {W S : List Nat} : Rch c p o b W S p o b W S := ⟨0, fun N => by rw [Nat.zero_add]⟩
theorem Rch_t {p o p2 o2 p3 o3 : Nat} {b b2 b3 : Bool} {W S W2 S2 W3 S3 : List Nat} (h1 : Rch c p o b W S p2 o2 b2 W2 S2) (h2 : Rch c p2 o2 b2 W2 S2 p3 o3 b3 W3 S3) : Rch c p o b W S p3 o3 b3 W3 S3 := by
  obtain ⟨i, h1⟩ := h1
  obtain ⟨j, h2⟩ := h2
  exact ⟨i + j, fun N => by rw [Nat.add_assoc, h1, h2]⟩
theorem Rch_e {p o p2 o2 : Nat} {b b2 : Bool} {W S W2 S2 : List Nat} {r : Except Nat (Nat × List Nat)} (h1 : Rch c p o b W S p2 o2 b2 W2 S2) (h2 : Err c p2 o2 b2 W2 S2 r) : Err c p o b W S r := by
  obtain ⟨i, h1⟩ := h1
  obtain ⟨j, h2⟩ := h2
  exact ⟨i + j, fun N => by rw [Nat.add_assoc, h1, h2]⟩
theorem Rch_1 {p o p2 o2 : Nat} {b b2 : Bool} {W S W2 S2 : List Nat} (h : ∀ N, mrun c (N + 1) p o b W S = mrun c N p2 o2 b2 W2 S2) : Rch c p o b W S p2 o2 b2 W2 S2 := ⟨1, fun N => by rw [Nat.add_comm]; exact h N⟩
theorem Err_1 {p o : Nat} {b : Bool} {W S : List Nat} {r : Except Nat (Nat × List Nat)} (h : ∀ N, mrun c (N + 1) p o b W S = some r) : Err c p o b W S r := ⟨1, fun N => by rw [Nat.add_comm]; exact h N⟩
theorem m_open {p o : Nat} {W S : List Nat} (h : c p = 40) (ho : ¬ o = 6) : Rch c p o true W S (p + 1) (o + 1) true (1000003 :: W) S := Rch_1 (fun N => (if_pos h).trans (if_neg ho))
theorem m_deep {p : Nat} {W S : List Nat} (h : c p = 40) : Err c p 6 true W S (.error (300 + p)) := Err_1 (fun N => (if_pos h).trans (if_pos rfl))
theorem m_not {p o : Nat} {W S : List Nat} (h : c p = 33) (ho : 0 < o) : Rch c p o true W S (p + 1) o true (1000002 :: W) S := Rch_1 (fun N => (if_neg (by omega)).trans (if_pos ⟨h, ho⟩))
theorem m_let {p o : Nat} {W S : List Nat} (h1 : ¬ c p = 40) (h2 : ¬ c p = 33) (h : lof (c p) = -1) : Err c p o true W S (.error (100 + p)) := Err_1 (fun N => (if_neg h1).trans ((if_neg (fun z => h2 z.1)).trans (if_pos (Or.inl h))))
theorem m_sig {p o : Nat} {W S : List Nat} (h1 : ¬ c p = 40) (h2 : ¬ c p = 33) (h : ¬ lof (c p) = -1) (ho : 0 < o) (h3 : sgo (c (p + 1)) = -1) : Err c p o true W S (.error (100 + (p + 1))) := Err_1 (fun N => (if_neg h1).trans ((if_neg (fun z => h2 z.1)).trans ((if_neg (fun z => z.elim h (by omega))).trans (if_pos h3))))
theorem m_numE {p o f : Nat} {W S : List Nat} (h1 : ¬ c p = 40) (h2 : ¬ c p = 33) (h : ¬ lof (c p) = -1) (ho : 0 < o) (h3 : ¬ sgo (c (p + 1)) = -1) (h4 : rn c (p + 2) 0 9999 = .error f) : Err c p o true W S (.error f) := Err_1 (fun N => (if_neg h1).trans ((if_neg (fun z => h2 z.1)).trans ((if_neg (fun z => z.elim h (by omega))).trans ((if_neg h3).trans (by rw [h4])))))
theorem m_num {p o v e : Nat} {W S : List Nat} (h1 : ¬ c p = 40) (h2 : ¬ c p = 33) (h : ¬ lof (c p) = -1) (ho : 0 < o) (h3 : ¬ sgo (c (p + 1)) = -1) (h4 : rn c (p + 2) 0 9999 = .ok (v, e)) : Rch c p o true W S e o false (cl 3 W (cmc (c p) (c (p + 1)) v :: S)).1 (cl 3 W (cmc (c p) (c (p + 1)) v :: S)).2 := Rch_1 (fun N => (if_neg h1).trans ((if_neg (fun z => h2 z.1)).trans ((if_neg (fun z => z.elim h (by omega))).trans ((if_neg h3).trans (by rw [h4])))))
theorem m_and {p o : Nat} {W S : List Nat} (h : c p = 38) : Rch c p o false W S (p + 1) o true (1000000 :: (cl 2 W S).1) (cl 2 W S).2 := Rch_1 (fun N => if_pos h)
theorem m_or {p o : Nat} {W S : List Nat} (h : c p = 124) : Rch c p o false W S (p + 1) o true (1000001 :: (cl 1 W S).1) (cl 1 W S).2 := Rch_1 (fun N => (if_neg (by omega)).trans (if_pos h))
theorem m_end {p : Nat} {W S : List Nat} (h : c p = 41) : Err c p 1 false W S (.ok (p + 1, (cl 3 (cl 1 W S).1.tail (cl 1 W S).2).2)) := Err_1 (fun N => (if_neg (by omega)).trans ((if_neg (by omega)).trans ((if_pos h).trans (if_pos rfl))))
theorem m_clo {p o : Nat} {W S : List Nat} (h : c p = 41) (ho : ¬ o = 1) : Rch c p o false W S (p + 1) (o - 1) false (cl 3 (cl 1 W S).1.tail (cl 1 W S).2).1 (cl 3 (cl 1 W S).1.tail (cl 1 W S).2).2 := Rch_1 (fun N => (if_neg (by omega)).trans ((if_neg (by omega)).trans ((if_pos h).trans (if_neg ho))))
theorem m_bad {p o : Nat} {W S : List Nat} (h1 : ¬ c p = 38) (h2 : ¬ c p = 124) (h : ¬ c p = 41) : Err c p o false W S (.error (100 + p)) := Err_1 (fun N => (if_neg h1).trans ((if_neg h2).trans (if_neg h)))
end MC
/-- nothing is closed at this level -/
def clo (k : Nat) (W : List Nat) : Prop := ∀ S, cl k W S = (W, S)
theorem clo_op {k w : Nat} {W : List Nat} (h : bnd w < k) : clo k (w :: W) := fun S => if_neg (fun z => absurd z.2 (by omega))
theorem clo_open {k : Nat} {W : List Nat} : clo k (1000003 :: W) := fun S => if_neg (fun z => z.1 rfl)
theorem cl_op {k w : Nat} {W S : List Nat} (h : k ≤ bnd w) (h2 : ¬ w = 1000003) : cl k (w :: W) S = cl k W (w :: S) := if_pos ⟨h2, h⟩
theorem cl_cl {k l : Nat} (h : l ≤ k) : ∀ (W S : List Nat), cl l (cl k W S).1 (cl k W S).2 = cl l W S
  | [], S => rfl
  | w :: W, S => by
    by_cases z : ¬ w = 1000003 ∧ k ≤ bnd w
    · rw [show cl k (w :: W) S = cl k W (w :: S) from if_pos z, show cl l (w :: W) S = cl l W (w :: S) from if_pos ⟨z.1, by omega⟩]
      exact cl_cl h W (w :: S)
    · rw [show cl k (w :: W) S = (w :: W, S) from if_neg z]
theorem clo_up {k : Nat} {W : List Nat} (h : clo k W) : clo (k + 1) W := by
  cases W with
  | nil => exact fun S => rfl
  | cons w W =>
    intro S
    refine if_neg (fun z => ?_)
    have h1 := h S
    rw [cl_op (by omega) z.1] at h1
    have : ∀ (W2 : List Nat) (S2 : List Nat), (cl k W2 S2).1.length ≤ W2.length := by
      intro W2
      induction W2 with
      | nil => exact fun S2 => Nat.le_refl _
      | cons v V ih =>
        intro S2
        by_cases y : ¬ v = 1000003 ∧ k ≤ bnd v
        · rw [show cl k (v :: V) S2 = cl k V (v :: S2) from if_pos y]
          exact Nat.le_trans (ih _) (Nat.le_succ _)
        · rw [show cl k (v :: V) S2 = (v :: V, S2) from if_neg y]
          exact Nat.le_refl _
    have h2 := this W (w :: S)
    rw [h1] at h2
    exact absurd h2 (by simp)
theorem rep_c (a : Nat) : ∀ (j : Nat) (S : List Nat), List.replicate j a ++ a :: S = a :: (List.replicate j a ++ S)
  | 0, _ => rfl
  | j + 1, S => congrArg (a :: ·) (rep_c a j S)
theorem cl_nots {W : List Nat} (h : clo 3 W) : ∀ (j : Nat) (S : List Nat), cl 3 (List.replicate j 1000002 ++ W) S = (W, List.replicate j 1000002 ++ S)
  | 0, S => h S
  | j + 1, S => by
    rw [List.replicate_succ, List.cons_append, cl_op (by decide) (by decide), cl_nots h j, rep_c]
    rfl
/-- codes, the last first: how they are asked -/
def evr (g t c u : Nat) : List Nat → List Int32 → Option (List Int32)
  | [], st => some st
  | w :: L, st => (evr g t c u L st).bind (tk g t c u w)
theorem evr_app {g t c u : Nat} {st : List Int32} : ∀ (X Y : List Nat), evr g t c u (X ++ Y) st = (evr g t c u Y st).bind (evr g t c u X)
  | [], Y => by
    show evr g t c u Y st = _
    cases evr g t c u Y st <;> rfl
  | w :: X, Y => by
    show (evr g t c u (X ++ Y) st).bind (tk g t c u w) = _
    rw [evr_app X Y]
    cases evr g t c u Y st <;> rfl
def ncl : List Nat → Nat
  | [] => 0
  | w :: L => if w < 1000000 then ncl L + 1 else ncl L
theorem ncl_app : ∀ (X Y : List Nat), ncl (X ++ Y) = ncl X + ncl Y
  | [], Y => (Nat.zero_add _).symm
  | w :: X, Y => by
    show (if w < 1000000 then ncl (X ++ Y) + 1 else ncl (X ++ Y)) = (if w < 1000000 then ncl X + 1 else ncl X) + ncl Y
    rw [ncl_app X Y]
    split <;> omega
def Seg (X X2 : List Nat) : Prop := (∀ g t c u, ∃ v : Int32, (v = nI 0 ∨ v = nI 1) ∧ ∀ st, evr g t c u X st = some (v :: st) ∧ evr g t c u X2 st = some (v :: st)) ∧ (∀ w, w < 1000000 → (w ∈ X ↔ w ∈ X2)) ∧ (∀ w ∈ X, okW w) ∧ (∀ w ∈ X2, okW w) ∧ X2.length ≤ X.length
theorem seg_cmp {w : Nat} (h : w < 400000) (h2 : w / 10000 % 10 < 3) : Seg [w] [w] := by
  refine ⟨fun g t c u => ⟨cmpv g t c u w, ?_, fun st => ?_⟩, fun _ _ => Iff.rfl, ?_, ?_, Nat.le_refl _⟩
  · unfold cmpv
    split <;> split <;> (try split) <;> simp
  · have h3 : evr g t c u [w] st = some (cmpv g t c u w :: st) := tk_cmp (by omega) (by omega) (by omega)
    exact ⟨h3, h3⟩
  · intro v hv
    rw [List.mem_singleton.mp hv]
    exact Or.inl ⟨h, h2⟩
  · intro v hv
    rw [List.mem_singleton.mp hv]
    exact Or.inl ⟨h, h2⟩
theorem seg_not {X X2 : List Nat} (h : Seg X X2) : Seg (1000002 :: X) (1000002 :: X2) := by
  obtain ⟨h1, h2, h3, h4, h5⟩ := h
  refine ⟨fun g t c u => ?_, fun w hw => ?_, ?_, ?_, Nat.succ_le_succ h5⟩
  · obtain ⟨v, hv, he⟩ := h1 g t c u
    refine ⟨if v = 0 then nI 1 else nI 0, by split <;> simp, fun st => ⟨?_, ?_⟩⟩
    · show (evr g t c u X st).bind _ = _
      rw [(he st).1]
      rfl
    · show (evr g t c u X2 st).bind _ = _
      rw [(he st).2]
      rfl
  · rw [List.mem_cons, List.mem_cons, h2 w hw]
  · intro w hw
    rcases List.mem_cons.mp hw with z | z
    · exact z ▸ Or.inr ⟨by decide, by decide⟩
    · exact h3 w z
  · intro w hw
    rcases List.mem_cons.mp hw with z | z
    · exact z ▸ Or.inr ⟨by decide, by decide⟩
    · exact h4 w z
theorem seg_not2 {X X2 : List Nat} (h : Seg X X2) : Seg (1000002 :: 1000002 :: X) X2 := by
  obtain ⟨h1, h2, h3, h4, h5⟩ := h
  refine ⟨fun g t c u => ?_, fun w hw => ?_, ?_, h4, by show _ ≤ X.length + 1 + 1; omega⟩
  · obtain ⟨v, hv, he⟩ := h1 g t c u
    refine ⟨v, hv, fun st => ⟨?_, (he st).2⟩⟩
    show ((evr g t c u X st).bind _).bind _ = _
    rw [(he st).1]
    rcases hv with z | z <;> subst z <;> rfl
  · rw [List.mem_cons, List.mem_cons, h2 w hw]
    constructor
    · rintro (z | z | z)
      · omega
      · omega
      · exact z
    · exact fun z => Or.inr (Or.inr z)
  · intro w hw
    rcases List.mem_cons.mp hw with z | z
    · exact z ▸ Or.inr ⟨by decide, by decide⟩
    · rcases List.mem_cons.mp z with y | y
      · exact y ▸ Or.inr ⟨by decide, by decide⟩
      · exact h3 w y
theorem seg_bin {o : Nat} (ho : o = 1000000 ∨ o = 1000001) {X X2 Y Y2 : List Nat} (h : Seg X X2) (k : Seg Y Y2) : Seg (o :: (Y ++ X)) (o :: (Y2 ++ X2)) := by
  obtain ⟨h1, h2, h3, h4, h5⟩ := h
  obtain ⟨k1, k2, k3, k4, k5⟩ := k
  have hok : okW o := by rcases ho with z | z <;> subst z <;> exact Or.inr ⟨by decide, by decide⟩
  refine ⟨fun g t c u => ?_, fun w hw => ?_, ?_, ?_, by simp; omega⟩
  · obtain ⟨v, hv, he⟩ := h1 g t c u
    obtain ⟨y, hy, hf⟩ := k1 g t c u
    rcases ho with z | z
    · subst z
      refine ⟨if v = 0 then nI 0 else if y = 0 then nI 0 else nI 1, by split <;> (try split) <;> simp, fun st => ⟨?_, ?_⟩⟩
      · show (evr g t c u (Y ++ X) st).bind _ = _
        rw [evr_app, (he st).1]
        show (evr g t c u Y (v :: st)).bind _ = _
        rw [(hf (v :: st)).1]
        rfl
      · show (evr g t c u (Y2 ++ X2) st).bind _ = _
        rw [evr_app, (he st).2]
        show (evr g t c u Y2 (v :: st)).bind _ = _
        rw [(hf (v :: st)).2]
        rfl
    · subst z
      refine ⟨if v = 0 then (if y = 0 then nI 0 else nI 1) else nI 1, by split <;> (try split) <;> simp, fun st => ⟨?_, ?_⟩⟩
      · show (evr g t c u (Y ++ X) st).bind _ = _
        rw [evr_app, (he st).1]
        show (evr g t c u Y (v :: st)).bind _ = _
        rw [(hf (v :: st)).1]
        rfl
      · show (evr g t c u (Y2 ++ X2) st).bind _ = _
        rw [evr_app, (he st).2]
        show (evr g t c u Y2 (v :: st)).bind _ = _
        rw [(hf (v :: st)).2]
        rfl
  · rw [List.mem_cons, List.mem_cons, List.mem_append, List.mem_append, h2 w hw, k2 w hw]
  · intro w hw
    rcases List.mem_cons.mp hw with z | z
    · exact z ▸ hok
    · rcases List.mem_append.mp z with y | y
      · exact k3 w y
      · exact h3 w y
  · intro w hw
    rcases List.mem_cons.mp hw with z | z
    · exact z ▸ hok
    · rcases List.mem_append.mp z with y | y
      · exact k4 w y
      · exact h4 w y
