/-! its heap only grows -/
def mm_le (M M' : mH) : Prop := M.1 ≤ M'.1 ∧ M.2.1 ≤ M'.2.1
theorem mm_le_rf (M : mH) : mm_le M M := ⟨Nat.le_refl _, Nat.le_refl _⟩
theorem mm_le_tr {M M1 M2 : mH} (h : mm_le M M1) (h2 : mm_le M1 M2) : mm_le M M2 := ⟨Nat.le_trans h.1 h2.1, Nat.le_trans h.2 h2.2⟩
theorem mm_pf_le {o x a : Nat} {ini : Bool} {M M1 : mH} {v : Value} (h : mm_pf o x ini M a v = some M1) : mm_le M M1 := by
  unfold mm_pf at h
  repeat' split at h
  all_goals first | cases h; exact mm_le_rf _ | cases h
theorem mm_pi_le {t : Nat → Bool} {a : Nat} {M M1 : mH} {i v : Int32} (h : mm_pi t M a i v = some M1) : mm_le M M1 := by
  unfold mm_pi at h
  repeat' split at h
  all_goals first | cases h; exact mm_le_rf _ | cases h
theorem mm_go_le {pc pc' : Nat} {off : Int} {ls ls' : List (Nat × Value)} {st st' : List Value} {M M' : mH} (h : mm_go pc off ls st M = some (pc', ls', st', M')) : mm_le M M' := by
  unfold mm_go at h
  repeat' split at h
  all_goals first | cases h; exact mm_le_rf _ | cases h
theorem mm_i2_le {f : Int32 → Int32 → Int32} {pc pc' : Nat} {ls ls' : List (Nat × Value)} {st st' : List Value} {M M' : mH} (h : mm_i2 f pc ls st M = some (pc', ls', st', M')) : mm_le M M' := by
  unfold mm_i2 at h
  repeat' split at h
  all_goals first | cases h; exact mm_le_rf _ | cases h
theorem mm_l2_le {f : Int64 → Int64 → Int64} {pc pc' : Nat} {ls ls' : List (Nat × Value)} {st st' : List Value} {M M' : mH} (h : mm_l2 f pc ls st M = some (pc', ls', st', M')) : mm_le M M' := by
  unfold mm_l2 at h
  repeat' split at h
  all_goals first | cases h; exact mm_le_rf _ | cases h
theorem mm_al_le (M : mH) (n : Nat) (e : va_E) : mm_le M (mm_al M n e) := ⟨Nat.le_succ _, Nat.le_add_right _ _⟩
theorem mm_al2_le (M : mH) (n k : Nat) : mm_le M (mm_al2 M n k) := ⟨by show M.1 ≤ M.1 + 1 + n; omega, by show M.2.1 ≤ M.2.1 + n + n * k; omega⟩
theorem mm_pa_le {a v : Nat} {M M1 : mH} {i : Int32} (h : mm_pa M a i v = some M1) : mm_le M M1 := by
  unfold mm_pa at h
  repeat' split at h
  all_goals first | cases h; exact mm_le_rf _ | cases h
theorem mm_cp_le {a b : Nat} {M M1 : mH} {sp dp n : Int32} (h : mm_cp M a b sp dp n = some M1) : mm_le M M1 := by
  unfold mm_cp at h
  split at h
  · split at h
    · split at h
      · cases h; exact mm_le_rf _
      · cases h
    · split at h
      · cases h; exact mm_le_rf _
      · cases h
    · cases h
  · cases h
set_option maxHeartbeats 4000000 in
theorem mm_st_le {o nL : Nat} {ini : Bool} {i : Instr} {pc pc' : Nat} {ls ls' : List (Nat × Value)} {st st' : List Value} {M M' : mH} (h : mm_st o nL ini i pc ls st M = some (pc', ls', st', M')) : mm_le M M' := by
  cases i
  all_goals (simp only [mm_st] at h)
  all_goals first
    | exact mm_i2_le h
    | exact mm_l2_le h
    | exact mm_go_le h
    | (cases h; exact mm_le_rf _)
    | cases h
    | (repeat' split at h
       all_goals first
         | (cases h; done)
         | (cases h; exact mm_le_rf _)
         | (cases h; exact mm_al_le _ _ _)
         | (cases h; exact mm_al2_le _ _ _)
         | exact mm_go_le h
         | (rename_i hv; cases h; exact mm_pf_le hv)
         | (rename_i hv; cases h; exact mm_pi_le hv)
         | (rename_i hv; cases h; exact mm_pa_le hv)
         | (rename_i hv; cases h; exact mm_cp_le hv))
theorem mm_run_le {cal : Nat → List Value → mH → Option (Option Value × mH)} {o nL : Nat} {ini : Bool} {b : ByteArray} {ret : Option FieldType} (hc : ∀ j as M r M1, cal j as M = some (r, M1) → mm_le M M1) : ∀ (n pc : Nat) (ls : List (Nat × Value)) (st : List Value) (M : mH) (r : Option Value) (M' : mH), mm_run cal o nL ini b ret n pc ls st M = some (r, M') → mm_le M M' := by
  intro n
  induction n with
  | zero => intro pc ls st M r M' h; cases h
  | succ n ih =>
    intro pc ls st M r M' h
    unfold mm_run at h
    split at h
    · split at h
      · split at h
        · split at h
          · cases h; exact mm_le_rf _
          · cases h
        · split at h
          · split at h
            · split at h
              · split at h
                · exact ih _ _ _ _ _ _ h
                · cases h
              · cases h
            · split at h
              · split at h
                · rename_i r1 M1 hcal
                  exact mm_le_tr (hc _ _ _ _ _ hcal) (ih _ _ _ _ _ _ h)
                · cases h
              · cases h
          · split at h
            · rename_i pc' ls' st' M1 hs
              exact mm_le_tr (mm_st_le hs) (ih _ _ _ _ _ _ h)
            · cases h
      · cases h
    · cases h
theorem mm_ev_le (N : Nat) : ∀ (d k : Nat) (as : List Value) (M : mH) (r : Option Value) (M' : mH), mm_ev N d k as M = some (r, M') → mm_le M M' := by
  intro d
  induction d with
  | zero => intro k as M r M' h; cases h
  | succ d ih =>
    intro k as M r M' h
    unfold mm_ev at h
    split at h
    · exact mm_run_le (fun j as M r M1 h => ih j as M r M1 h) _ _ _ _ _ _ _ h
    · cases h
