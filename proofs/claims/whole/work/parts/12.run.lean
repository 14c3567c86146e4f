/-! a run of the small machine is a run of the machine -/
section MMR
variable {p : Program} {l : Launch} {e : Env} {R : Room} {s : State} {m : MethodId} {args : Array Value} {below : List Frame} {meth : Method} {c : Code} {Q : State → Prop}
variable {cc : ByteArray} {D : va_G} {dA : Nat → Nat} {B : Nat} {sa : Nat → Nat} {hs : Nat → va_E} {M0 : mH} {o nL : Nat} {ini : Bool}
set_option maxHeartbeats 4000000 in
theorem mm_runs {cal : Nat → List Value → mH → Option (Option Value × mH)} {d : Nat} {ret : Option FieldType} {rF : Option Value} {MF : mH} (C0 : mm_Cx p s m args meth c D dA o ini cc) (hml : c.maxLocals = nL) (hK2 : mm_K D dA B sa hs s) (hs0 : s.heap.size = B + M0.1) (hRf : d + 1 ≤ R.frames) (hRl : 64 * (d + 1) ≤ R.locals) (hr1 : MF.1 - M0.1 ≤ R.cells) (hr2 : MF.2.1 - M0.2.1 ≤ R.slots)
    (hcal : ∀ j as M r M1, cal j as M = some (r, M1) → mm_Met l D dA B sa hs d j as M r M1) (hcle : ∀ j as M r M1, cal j as M = some (r, M1) → mm_le M M1)
    (hret : ∀ (pc len : Nat) (i : Instr) (ls : List (Nat × Value)) (st : List Value), decode cc pc = .ok (i, len) → len = mm_len i len → mm_rt ret i st = some rF → mm_Go p l e R s m args below meth c Q D dA B sa hs nL M0 pc ls st MF) :
    ∀ (n pc : Nat) (ls : List (Nat × Value)) (st : List Value) (M : mH), mm_le M0 M → mm_run cal o nL ini cc ret n pc ls st M = some (rF, MF) → mm_Go p l e R s m args below meth c Q D dA B sa hs nL M0 pc ls st M := by
  intro n
  induction n with
  | zero => intro pc ls st M _ h; cases h
  | succ n ih =>
    intro pc ls st M h0 h
    unfold mm_run at h
    split at h
    · rename_i i len hd
      split at h
      · rename_i hlen
        split at h
        · split at h
          · rename_i r hr
            cases h
            exact hret pc len i ls st hd hlen hr
          · cases h
        · split at h
          · rename_i k j hiv
            split at h
            · rename_i h7
              subst h7
              split at h
              · rename_i a q
                split at h
                · rename_i hsum
                  intro lsA H locs hl hR hB hL
                  have hx2 : ∃ x, mm_cr o x = some (7, j) ∧ i = .invokespecial x := by
                    unfold mm_iv at hiv
                    split at hiv
                    · split at hiv
                      · split at hiv
                        · rename_i h9; cases hiv; exact absurd h9 (by decide)
                        · cases hiv
                      · cases hiv
                    · split at hiv
                      · split at hiv
                        · rename_i h9; cases hiv; exact absurd h9 (by decide)
                        · cases hiv
                      · cases hiv
                    · rename_i x
                      split at hiv
                      · rename_i hc
                        split at hiv
                        · cases hiv; exact ⟨_, hc, rfl⟩
                        · cases hiv
                      · cases hiv
                    · split at hiv
                      · cases hiv
                      · cases hiv
                    · cases hiv
                  obtain ⟨x, hcr, rfl⟩ := hx2
                  rw [hlen] at hd
                  have hts := C0.2.2.2.1
                  refine W.objInit C0.1 C0.2.1 C0.2.2.1 (hts _ (mm_crok7 hcr)) (hts _ mm_wo1) (hts _ mm_wo2) rfl (by rw [hml]; exact hl.1) rfl hd (by omega) ?_ ?_
                  · have h9 := lv_room (m := m) (pc := pc) (ls := lsA) (rest := (Value.ref a :: q).map (mm_rv B sa)) (st := q.map (mm_rv B sa)) (by rw [mm_sumr]; exact hsum)
                    omega
                  · exact ih (pc + 3) ls q M h0 h lsA H locs hl hR hB hL
                · cases h
              · cases h
            · rename_i h7
              split at h
              · rename_i hcnd
                obtain ⟨hna, hsum, hrc⟩ := hcnd
                split at h
                · rename_i r1 M1 hc1
                  have hle := hcle _ _ _ _ _ hc1
                  have hle2 := mm_run_le hcle _ _ _ _ _ _ _ h
                  by_cases h6 : k = 6
                  · subst h6
                    have hx2 : ∃ x ct, i = .invokeinterface x ct ∧ mm_it o x = some j := by
                      unfold mm_iv at hiv
                      split at hiv
                      · split at hiv
                        · split at hiv
                          · rename_i h9; cases hiv; exact absurd h9 (by decide)
                          · cases hiv
                        · cases hiv
                      · split at hiv
                        · split at hiv
                          · rename_i h9; cases hiv; exact absurd h9 (by decide)
                          · cases hiv
                        · cases hiv
                      · split at hiv
                        · split at hiv
                          · rename_i h9; cases hiv; exact absurd h9 (by decide)
                          · cases hiv
                        · cases hiv
                      · split at hiv
                        · rename_i hc; cases hiv; exact ⟨_, _, rfl, hc⟩
                        · cases hiv
                      · cases hiv
                    obtain ⟨x, ct, rfl, hit⟩ := hx2
                    exact mm_callF C0 hml hK2 hit hd hlen hna hsum hrc (hcal _ _ _ _ _ hc1) hRf hRl h0 hle (Nat.le_trans (Nat.sub_le_sub_right hle2.1 _) hr1) (Nat.le_trans (Nat.sub_le_sub_right hle2.2 _) hr2) (ih _ _ _ _ (mm_le_tr h0 hle) h)
                  · rw [if_neg h6] at h
                    exact mm_call C0 hml hK2 hiv h7 h6 hd hlen hna hsum hrc (hcal _ _ _ _ _ hc1) hRf hRl h0 hle (Nat.le_trans (Nat.sub_le_sub_right hle2.1 _) hr1) (Nat.le_trans (Nat.sub_le_sub_right hle2.2 _) hr2) (ih _ _ _ _ (mm_le_tr h0 hle) h)
                · cases h
              · cases h
          · split at h
            · rename_i pc' ls' st' M1 hst
              have hle := mm_st_le hst
              have hle2 := mm_run_le hcle _ _ _ _ _ _ _ h
              exact mm_step1 C0 hml hK2.2.2 (mm_K_cast hK2) (mm_K_castI hK2) hs0 (by omega) (by omega) hd hlen hst h0.1 h0.2 (Nat.le_trans (Nat.sub_le_sub_right hle2.1 _) hr1) (Nat.le_trans (Nat.sub_le_sub_right hle2.2 _) hr2) (ih _ _ _ _ (mm_le_tr h0 hle) h)
            · cases h
      · cases h
    · cases h
end MMR
theorem mm_lgs : ∀ vs : List Value, (lg_sl vs).length = mm_sum vs := by
  intro vs
  induction vs with
  | nil => rfl
  | cons v vs ih =>
    have h1 : lg_sl (v :: vs) = (if v.category = 2 then [Slot.val v, Slot.second] else [Slot.val v]) ++ lg_sl vs := rfl
    have h2 : mm_sum (v :: vs) = v.category + mm_sum vs := rfl
    rw [h1, h2, List.length_append, ih]
    rcases lv_cat v with h | h
    · rw [if_neg (by rw [h]; decide), h]; rfl
    · rw [if_pos h, h]; rfl
theorem mm_args (B : Nat) (sa : Nat → Nat) : ∀ (as : List Value) (n : Nat), lv_args n (as.map (mm_rv B sa)) = mm_rl B sa (lv_args n as) := by
  intro as
  induction as with
  | nil => intro n; rfl
  | cons a as ih =>
    intro n
    simp only [List.map_cons, lv_args, mm_cat, ih]
    rfl
set_option maxHeartbeats 4000000 in
/-- THE SMALL MACHINE IS SOUND: what it answers, the machine answers -/
theorem mm_sound (l : Launch) (D : va_G) (dA : Nat → Nat) (B : Nat) (sa : Nat → Nat) (hs : Nat → va_E) (N : Nat) : ∀ (d k : Nat) (as : List Value) (M : mH) (r : Option Value) (M' : mH), mm_ev N d k as M = some (r, M') → mm_Met l D dA B sa hs d k as M r M' := by
  intro d
  induction d with
  | zero => intro k as M r M' h; cases h
  | succ d ih =>
    intro k as M r M' h
    unfold mm_ev at h
    split at h
    · rename_i hk
      obtain ⟨f1, f2, f3, f4, f5⟩ := mm_mef hk.1
      refine va_MetF (cc := mm_b k) (maxL := mm_nL k) (ret := mm_re k) (ws' := mm_tb) f2 rfl ?_
      intro p e s m args below meth c s₁ BB hml hv
      obtain ⟨rfl, hR, hK⟩ := hv
      have hts := atoms_spec (ws := mm_w k) BB.pre
      have hown : s.vm.findClass (mm_cn (mm_o k)) = some m.cls := by rw [← f1]; exact findClass_of_methodNamed BB.named
      have hlocks := BB.notSynchronized
      have hret := BB.returns
      have hnm := (name_of_methodNamed BB.named BB.method).1
      have C0 : mm_Cx p s m ((as.map (mm_rv B sa)).toArray) meth c D dA (mm_o k) (mm_ini k) (mm_b k) := ⟨BB.exec, BB.bytes, hown, fun w hw => hts w (List.mem_cons_of_mem _ hw), hK.1, fun h9 => by rw [hnm]; simpa [mm_ini] using h9⟩
      have hgo := mm_runs (l := l) (e := e) (R := (headSpec (mm_w k) (mm_rm (d + 1) (M'.1 - M.1) (M'.2.1 - M.2.1))).room) (below := below) (Q := MQ below (mm_Qc D dA B sa hs r M') ((as.map (mm_rv B sa)).toArray) s (M'.1 - M.1) (M'.2.1 - M.2.1) (fun q => B ≤ q)) (M0 := M) (B := B) (sa := sa) (hs := hs) (d := d) C0 hml hK hR.1 (Nat.le_refl _) (Nat.le_refl _) (Nat.le_refl _) (Nat.le_refl _) (fun j as M r M1 h => ih j as M r M1 h) (fun j as M r M1 h => mm_ev_le N d j as M r M1 h) ?_ N 0 (lv_args 0 as) [] M (mm_le_rf M) h
      · rw [lg_entry_eq]
        have hle : (lg_sl (as.map (mm_rv B sa))).length ≤ mm_nL k := by rw [mm_lgs]; unfold mm_sum; rw [mm_sumr]; exact hk.2
        have hl := lv_entry (as.map (mm_rv B sa)) (n := mm_nL k) hle
        rw [mm_args] at hl
        have h9 := hgo _ s.heap [] hl hR (fun _ _ => rfl) (fun q hq => absurd hq List.not_mem_nil)
        rw [Nat.sub_self, Nat.sub_self] at h9
        exact h9
      · intro pc len i ls st hd hlen hrt lsA H locs hl hR' hB hL
        rw [hlen] at hd
        have hq : ∀ t : State, t.heap = H → s.WarmedH t.vm → mm_Qc D dA B sa hs r M' ((as.map (mm_rv B sa)).toArray) s (.returned (r.map (mm_rv B sa))) t := fun t ht _ => ⟨rfl, by rw [ht]; exact hR', fun q hq => by rw [ht]; exact hB q hq⟩
        unfold mm_rt at hrt
        split at hrt
        · split at hrt
          · rename_i hn
            cases hrt
            exact W.vret BB.exec BB.bytes (hret.trans hn) hq hL hd
          · cases hrt
        · split at hrt
          · rename_i v ty hty
            split at hrt
            · rename_i hn
              cases hrt
              exact W.zret BB.exec BB.bytes (hret.trans hty) hn hq hL hd
            · cases hrt
          · cases hrt
        · split at hrt
          · rename_i hn
            cases hrt
            exact W.lret BB.exec BB.bytes (hret.trans hn) hq hL hd
          · cases hrt
        · split at hrt
          · rename_i hty
            cases hrt
            exact W.aret BB.exec BB.bytes (hret.trans hty) (Or.inl ⟨_, rfl⟩) (Or.inr ⟨_, rfl⟩) hq hL hd
          · rename_i hty
            cases hrt
            exact W.aret BB.exec BB.bytes (hret.trans hty) (Or.inr ⟨_, rfl⟩) (Or.inr ⟨_, rfl⟩) hq hL hd
          · cases hrt
        · split at hrt
          · rename_i hty
            cases hrt
            exact W.aret BB.exec BB.bytes (hret.trans hty) (Or.inl ⟨_, rfl⟩) (Or.inl rfl) hq hL hd
          · rename_i hty
            cases hrt
            exact W.aret BB.exec BB.bytes (hret.trans hty) (Or.inr ⟨_, rfl⟩) (Or.inl rfl) hq hL hd
          · cases hrt
        · cases hrt
    · cases h
