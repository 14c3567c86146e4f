/-! the reference: what is closed -/
def clC (k : Nat) (W : Nat → Nat) (i : Nat) : Prop := ¬ W i = 1000003 ∧ k ≤ bnd (W i)
noncomputable def clk (k : Nat) (W : Nat → Nat) : Nat → Nat
  | 0 => 0
  | n + 1 => @ite _ (clC k W n) (Classical.propDecidable _) (clk k W n + 1) 0
def pps (f : Nat → Int32) (sn : Nat) (W : Nat → Nat) (wn : Nat) : Nat → Nat → Int32
  | 0 => f
  | m + 1 => upd (pps f sn W wn m) (sn + m) (nI (W (wn - m - 1)))
theorem clk_y {k : Nat} {W : Nat → Nat} {n : Nat} (h : clC k W n) : clk k W (n + 1) = clk k W n + 1 := if_pos h
theorem clk_n {k : Nat} {W : Nat → Nat} {n : Nat} (h : ¬ clC k W n) : clk k W (n + 1) = 0 := if_neg h
theorem clk_le (k : Nat) (W : Nat → Nat) : ∀ n, clk k W n ≤ n
  | 0 => Nat.le_refl _
  | n + 1 => by
    by_cases z : clC k W n
    · rw [clk_y z]
      have := clk_le k W n
      omega
    · rw [clk_n z]
      exact Nat.zero_le _
theorem clk_in {k : Nat} {W : Nat → Nat} : ∀ {n m : Nat}, m < clk k W n → clC k W (n - m - 1)
  | 0, m, h => absurd h (Nat.not_lt_zero m)
  | n + 1, m, h => by
    by_cases z : clC k W n
    · rw [clk_y z] at h
      cases m with
      | zero => exact z
      | succ m =>
        have := clk_in (k := k) (W := W) (n := n) (m := m) (by omega)
        rwa [show n + 1 - (m + 1) - 1 = n - m - 1 by omega]
    · rw [clk_n z] at h
      exact absurd h (Nat.not_lt_zero m)
theorem clk_end {k : Nat} {W : Nat → Nat} : ∀ {n : Nat}, clk k W n = n ∨ ¬ clC k W (n - clk k W n - 1)
  | 0 => Or.inl rfl
  | n + 1 => by
    by_cases z : clC k W n
    · rw [clk_y z]
      rcases clk_end (k := k) (W := W) (n := n) with y | y
      · exact Or.inl (by omega)
      · refine Or.inr ?_
        rwa [show n + 1 - (clk k W n + 1) - 1 = n - clk k W n - 1 by omega]
    · rw [clk_n z]
      exact Or.inr z
theorem io_cc (io : Nat → Int32) (a b c d : Int32) : va_up (va_up (va_up (va_up io 40 a) 39 b) 40 c) 39 d = va_up (va_up io 40 c) 39 d := by
  funext j
  by_cases h : j = 39
  · subst h
    rfl
  · rw [up_o _ _ h, up_o _ _ h]
    by_cases h2 : j = 40
    · subst h2
      rfl
    · rw [up_o _ _ h2, up_o _ _ h, up_o _ _ h2, up_o _ _ h2]
