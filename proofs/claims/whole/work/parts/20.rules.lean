/-! WALKING RULES of the small machine: goal first, a row an instruction -/
/-- what a method is: its owner, its locals, whether it is an init, its bytes, what it returns -/
abbrev mX : Type := Nat × Nat × Bool × ByteArray × Option FieldType
def mm_cx (k : Nat) : mX := (mm_o k, mm_nL k, mm_ini k, mm_b k, mm_re k)
def mm_Ru (d : Nat) (C : mX) (pc : Nat) (ls : List (Nat × Value)) (st : List Value) (M : mH) (Q : Option Value × mH → Prop) : Prop := ∃ R, Q R ∧ ∃ n0, ∀ N n, n0 ≤ N → n0 ≤ n → mm_run (mm_ev N d) C.1 C.2.1 C.2.2.1 C.2.2.2.1 C.2.2.2.2 n pc ls st M = some R
def mm_Ev (d k : Nat) (as : List Value) (M : mH) (R : Option Value × mH) : Prop := ∃ n0, ∀ N, n0 ≤ N → mm_ev N d k as M = some R
theorem r_st {d : Nat} {C : mX} {pc len : Nat} {ls ls' : List (Nat × Value)} {st st' : List Value} {M M' : mH} {R : Option Value × mH → Prop} {i : Instr} {pc' : Nat} (hd : decode C.2.2.2.1 pc = .ok (i, len)) (hl : len = mm_len i len) (hr : mm_isret i = false) (hv : mm_iv C.1 i = none) (hs : mm_st C.1 C.2.1 C.2.2.1 i pc ls st M = some (pc', ls', st', M')) (kk : mm_Ru d C pc' ls' st' M' R) : mm_Ru d C pc ls st M R := by
  obtain ⟨R0, hR0, n0, h⟩ := kk
  refine ⟨R0, hR0, n0 + 1, fun N n hN hn => ?_⟩
  obtain ⟨n', rfl⟩ : ∃ n', n = n' + 1 := ⟨n - 1, by omega⟩
  unfold mm_run
  rw [hd]
  dsimp only
  rw [if_pos hl, if_neg (by rw [hr]; decide), hv]
  dsimp only
  rw [hs]
  exact h N n' (by omega) (by omega)
theorem r_ret {d : Nat} {C : mX} {pc len : Nat} {ls : List (Nat × Value)} {st : List Value} {M : mH} {r : Option Value} {i : Instr} (hd : decode C.2.2.2.1 pc = .ok (i, len)) (hl : len = mm_len i len) (hr : mm_isret i = true) {R : Option Value × mH → Prop} (hs : mm_rt C.2.2.2.2 i st = some r) (hR : R (r, M)) : mm_Ru d C pc ls st M R := by
  refine ⟨(r, M), hR, 1, fun N n hN hn => ?_⟩
  obtain ⟨n', rfl⟩ : ∃ n', n = n' + 1 := ⟨n - 1, by omega⟩
  unfold mm_run
  rw [hd]
  dsimp only
  rw [if_pos hl, if_pos hr, hs]
theorem r_call {d : Nat} {C : mX} {pc len k j : Nat} {ls : List (Nat × Value)} {st as rest : List Value} {M M1 : mH} {R : Option Value × mH → Prop} {i : Instr} {r : Option Value} (hd : decode C.2.2.2.1 pc = .ok (i, len)) (hl : len = mm_len i len) (hr : mm_isret i = false) (hv : mm_iv C.1 i = some (k, j)) (h7 : (k == 7) = false) (hst : st = as.reverse ++ rest) (hna : mm_nas k j = as.length) (hsum : mm_sum rest ≤ 8) (hrc : mm_rc k j M as = true) (hc : mm_Ev d j as M (r, M1)) (kk : mm_Ru d C (pc + (if k = 6 then 5 else 3)) ls (r.toList ++ rest) M1 R) : mm_Ru d C pc ls st M R := by
  obtain ⟨R0, hR0, n0, h⟩ := kk
  obtain ⟨n1, h1⟩ := hc
  refine ⟨R0, hR0, n0 + n1 + 1, fun N n hN hn => ?_⟩
  obtain ⟨n', rfl⟩ : ∃ n', n = n' + 1 := ⟨n - 1, by omega⟩
  have hlen : as.reverse.length = as.length := List.length_reverse
  have ht : (st.take (mm_nas k j)).reverse = as := by rw [hst, hna, List.take_append_of_le_length (by rw [hlen]; exact Nat.le_refl _), List.take_of_length_le (by rw [hlen]; exact Nat.le_refl _), List.reverse_reverse]
  have hdr : st.drop (mm_nas k j) = rest := by rw [hst, hna, List.drop_append_of_le_length (by rw [hlen]; exact Nat.le_refl _), List.drop_of_length_le (by rw [hlen]; exact Nat.le_refl _), List.nil_append]
  unfold mm_run
  rw [hd]
  dsimp only
  rw [if_pos hl, if_neg (by rw [hr]; decide), hv]
  dsimp only
  rw [if_neg (by simpa using h7), ht, hdr, if_pos ⟨by rw [hst, hna, List.length_append, hlen]; exact Nat.le_add_right _ _, hsum, hrc⟩, h1 N (by omega)]
  exact h N n' (by omega) (by omega)
theorem r_obj {d : Nat} {C : mX} {pc len j : Nat} {ls : List (Nat × Value)} {rest : List Value} {M : mH} {R : Option Value × mH → Prop} {i : Instr} {a : Nat} (hd : decode C.2.2.2.1 pc = .ok (i, len)) (hl : len = mm_len i len) (hr : mm_isret i = false) (hv : mm_iv C.1 i = some (7, j)) (hsum : mm_sum rest ≤ 8) (kk : mm_Ru d C (pc + 3) ls rest M R) : mm_Ru d C pc ls (.ref a :: rest) M R := by
  obtain ⟨R0, hR0, n0, h⟩ := kk
  refine ⟨R0, hR0, n0 + 1, fun N n hN hn => ?_⟩
  obtain ⟨n', rfl⟩ : ∃ n', n = n' + 1 := ⟨n - 1, by omega⟩
  unfold mm_run
  rw [hd]
  dsimp only
  rw [if_pos hl, if_neg (by rw [hr]; decide), hv]
  dsimp only
  rw [if_pos rfl, if_pos hsum]
  exact h N n' (by omega) (by omega)
theorem r_ev {d k : Nat} {as : List Value} {M : mH} {R : Option Value × mH} (hk : k < mm_ms.length) (hs : mm_sum as ≤ mm_nL k) (h : mm_Ru d (mm_cx k) 0 (lv_args 0 as) [] M (fun z => z = R)) : mm_Ev (d + 1) k as M R := by
  obtain ⟨R0, hR0, n0, h⟩ := h
  subst hR0
  refine ⟨n0, fun N hN => ?_⟩
  unfold mm_ev
  rw [if_pos ⟨hk, hs⟩]
  exact h N N hN hN
theorem r_evQ {d k : Nat} {as : List Value} {M : mH} {Q : Option Value × mH → Prop} (hk : k < mm_ms.length) (hs : mm_sum as ≤ mm_nL k) (h : mm_Ru d (mm_cx k) 0 (lv_args 0 as) [] M Q) : ∃ R, Q R ∧ mm_Ev (d + 1) k as M R := by
  obtain ⟨R0, hR0, n0, h⟩ := h
  refine ⟨R0, hR0, n0, fun N hN => ?_⟩
  unfold mm_ev
  rw [if_pos ⟨hk, hs⟩]
  exact h N N hN hN
theorem mm_Ru_imp {d : Nat} {C : mX} {pc : Nat} {ls : List (Nat × Value)} {st : List Value} {M : mH} {Q Q2 : Option Value × mH → Prop} (hq : ∀ R, Q R → Q2 R) (h : mm_Ru d C pc ls st M Q) : mm_Ru d C pc ls st M Q2 := by
  obtain ⟨R0, hR0, h⟩ := h
  exact ⟨R0, hq R0 hR0, h⟩
/-- more depth does no harm -/
theorem mm_run_up {cal cal' : Nat → List Value → mH → Option (Option Value × mH)} {o nL : Nat} {ini : Bool} {b : ByteArray} {ret : Option FieldType} (hc : ∀ j as M R, cal j as M = some R → cal' j as M = some R) : ∀ (n pc : Nat) (ls : List (Nat × Value)) (st : List Value) (M : mH) (R : Option Value × mH), mm_run cal o nL ini b ret n pc ls st M = some R → mm_run cal' o nL ini b ret n pc ls st M = some R := by
  intro n
  induction n with
  | zero => intro pc ls st M R h; cases h
  | succ n ih =>
    intro pc ls st M R h
    unfold mm_run at h ⊢
    split at h
    · rename_i i len hd
      try rw [hd]
      try dsimp only
      split at h
      · rename_i hl
        rw [if_pos hl]
        split at h
        · rename_i hr
          rw [if_pos hr]
          exact h
        · rename_i hr
          rw [if_neg hr]
          split at h
          · rename_i k j hv
            try rw [hv]
            try dsimp only
            split at h
            · rename_i h7
              rw [if_pos h7]
              split at h
              · split at h
                · rename_i hsum
                  rw [if_pos hsum]
                  exact ih _ _ _ _ _ h
                · cases h
              · cases h
            · rename_i h7
              rw [if_neg h7]
              split at h
              · rename_i hcn
                rw [if_pos hcn]
                split at h
                · rename_i r M1 hc1
                  rw [hc _ _ _ _ hc1]
                  exact ih _ _ _ _ _ h
                · cases h
              · cases h
          · rename_i hv
            try rw [hv]
            try dsimp only
            split at h
            · rename_i hs
              try rw [hs]
              exact ih _ _ _ _ _ h
            · cases h
      · cases h
    · cases h
theorem mm_ev_up (N : Nat) : ∀ (d k : Nat) (as : List Value) (M : mH) (R : Option Value × mH), mm_ev N d k as M = some R → mm_ev N (d + 1) k as M = some R := by
  intro d
  induction d with
  | zero => intro k as M R h; cases h
  | succ d ih =>
    intro k as M R h
    unfold mm_ev at h ⊢
    split at h
    · rename_i hk
      rw [if_pos hk]
      exact mm_run_up (fun j as M R h => ih j as M R h) _ _ _ _ _ _ h
    · cases h
theorem mm_Ev_up {d d' k : Nat} {as : List Value} {M : mH} {R : Option Value × mH} (hd : d ≤ d') (h : mm_Ev d k as M R) : mm_Ev d' k as M R := by
  obtain ⟨n0, h⟩ := h
  refine ⟨n0, fun N hN => ?_⟩
  obtain ⟨e, rfl⟩ : ∃ e, d' = d + e := ⟨d' - d, by omega⟩
  clear hd
  induction e with
  | zero => exact h N hN
  | succ e ih => exact mm_ev_up N _ _ _ _ _ ih
/-- a loop that counts up to e: from its end downwards -/
theorem mm_cnt {P : Nat → Prop} (e : Nat) (h0 : P e) (hs : ∀ m, m < e → P (m + 1) → P m) : ∀ m, m ≤ e → P m := by
  intro m hm
  obtain ⟨j, rfl⟩ : ∃ j, e = m + j := ⟨e - m, by omega⟩
  clear hm
  induction j generalizing m with
  | zero => exact h0
  | succ j ih => exact hs m (by omega) (ih (m + 1) (by rw [show m + 1 + j = m + (j + 1) by omega]; exact h0) (fun x hx => hs x (by omega)))
