/-! rules of the reference
-/
section RRU
variable {d nL pc : Nat} {ini : Bool} {b : ByteArray} {ret : Option FieldType} {ls : List (Nat × Value)} {st : List Value} {M : mH} {R : Option Value × mH → Prop} {io : Nat → Int32} {sg : Nat → Nat → Int32}
theorem q_get {x k : Nat} {v : Value} (hx : mm_fr 13 x = some (13, k)) (hM : 157 ≤ M.1) (hv : (rf_fs io)[k]? = some v) (hd : decode b pc = .ok (.getfield x, 3)) (kk : mm_Ru d (13, nL, ini, b, ret) (pc + 3) ls (v :: st) (rf_mk M io sg) R) : mm_Ru d (13, nL, ini, b, ret) pc ls (.ref 100 :: st) (rf_mk M io sg) R := r_getf ((rf_gf hx hM).trans hv) hd kk
theorem q_put {x k : Nat} {v : Int32} (hx : mm_fr 13 x = some (13, k)) (hf : mm_fin 13 k = false) (ht : mm_ty 13 k = .int) (hk : k < 82) (hs : ∀ w, (rf_fs io).set k (.int w) = rf_fs (va_up io k w)) (hM : 157 ≤ M.1) (hd : decode b pc = .ok (.putfield x, 3)) (kk : mm_Ru d (13, nL, false, b, ret) (pc + 3) ls st (rf_mk M (va_up io k v) sg) R) : mm_Ru d (13, nL, false, b, ret) pc ls (.int v :: .ref 100 :: st) (rf_mk M io sg) R := r_putf (rf_pf hx hf ht hk hs hM) hd kk
theorem q_ild {a e : Nat} {v : Int32} (h1 : 100 < a) (h2 : a < 157) (hM : 157 ≤ M.1) (ht : rf_tag (rf_k a) = 0) (he : e < rf_len (rf_k a)) (hb : e < 2 ^ 31) (hv : sg (rf_k a) e = v) (hd : decode b pc = .ok (.iaload, 1)) (kk : mm_Ru d (13, nL, ini, b, ret) (pc + 1) ls (.int v :: st) (rf_mk M io sg) R) : mm_Ru d (13, nL, ini, b, ret) pc ls (.int (nI e) :: .ref a :: st) (rf_mk M io sg) R := r_iaload ((rf_ai h1 h2 (by rw [ht]; rfl) hM he hb).trans (congrArg some hv)) hd kk
theorem q_bld {a e : Nat} {v : Int32} (h1 : 100 < a) (h2 : a < 157) (hM : 157 ≤ M.1) (ht : (rf_tag (rf_k a) == 1 || rf_tag (rf_k a) == 2) = true) (he : e < rf_len (rf_k a)) (hb : e < 2 ^ 31) (hv : sg (rf_k a) e = v) (hd : decode b pc = .ok (.baload, 1)) (kk : mm_Ru d (13, nL, ini, b, ret) (pc + 1) ls (.int v :: st) (rf_mk M io sg) R) : mm_Ru d (13, nL, ini, b, ret) pc ls (.int (nI e) :: .ref a :: st) (rf_mk M io sg) R := r_baload ((rf_ai (t := fun u => u == 1 || u == 2) h1 h2 ht hM he hb).trans (congrArg some hv)) hd kk
theorem q_ist {a e k : Nat} {v : Int32} (h1 : 100 < a) (h2 : a < 157) (hM : 157 ≤ M.1) (hk : rf_k a = k) (ht : rf_tag k = 0) (he : e < rf_len k) (hb : e < 2 ^ 31) (hd : decode b pc = .ok (.iastore, 1)) (kk : mm_Ru d (13, nL, ini, b, ret) (pc + 1) ls st (rf_mk M io (va_up sg k (upd (sg k) e v))) R) : mm_Ru d (13, nL, ini, b, ret) pc ls (.int v :: .int (nI e) :: .ref a :: st) (rf_mk M io sg) R := by
  subst hk
  refine r_iastore (rf_pi h1 h2 (by rw [ht]; rfl) hM he hb) hd ?_
  rw [ht]
  exact kk
theorem q_bst {a e k u : Nat} {v w : Int32} (h1 : 100 < a) (h2 : a < 157) (hM : 157 ≤ M.1) (hk : rf_k a = k) (hu : rf_tag k = u) (ht : (u == 1 || u == 2) = true) (hw : mm_na u v = w) (he : e < rf_len k) (hb : e < 2 ^ 31) (hd : decode b pc = .ok (.bastore, 1)) (kk : mm_Ru d (13, nL, ini, b, ret) (pc + 1) ls st (rf_mk M io (va_up sg k (upd (sg k) e w))) R) : mm_Ru d (13, nL, ini, b, ret) pc ls (.int v :: .int (nI e) :: .ref a :: st) (rf_mk M io sg) R := by
  subst hk
  subst hu
  subst hw
  exact r_bastore (rf_pi (t := fun u => u == 1 || u == 2) h1 h2 ht hM he hb) hd kk
theorem q_rc (j : Nat) (hj : mm_o j = 13) (hM : 157 ≤ M.1) (as : List Value) : mm_rc 1 j (rf_mk M io sg) (.ref 100 :: as) = true := by
  unfold mm_rc
  rw [if_pos (Or.inl rfl)]
  dsimp only
  rw [rf_at0, decide_eq_true (show 100 < (rf_mk M io sg).1 by show 100 < M.1; omega), Bool.true_or, Bool.true_and]
  dsimp only
  rw [hj]
  rfl
theorem q_calli {x j : Nat} {as rest : List Value} {v : Value} {M1 : mH} (hv : mm_iv 13 (.invokevirtual x) = some (1, j)) (hn : mm_nas 1 j = as.length + 1) (hj : mm_o j = 13) (hM : 157 ≤ M.1) (hst : st = as.reverse ++ .ref 100 :: rest) (hsum : mm_sum rest ≤ 8) (hd : decode b pc = .ok (.invokevirtual x, 3)) (hc : mm_Ev d j (.ref 100 :: as) (rf_mk M io sg) (some v, M1)) (kk : mm_Ru d (13, nL, ini, b, ret) (pc + 3) ls (v :: rest) M1 R) : mm_Ru d (13, nL, ini, b, ret) pc ls st (rf_mk M io sg) R := r_call (C := (13, nL, ini, b, ret)) (as := .ref 100 :: as) (rest := rest) hd rfl rfl hv rfl (by rw [hst]; simp) hn hsum (q_rc j hj hM as) hc kk
theorem q_callv {x j : Nat} {as rest : List Value} {M1 : mH} (hv : mm_iv 13 (.invokevirtual x) = some (1, j)) (hn : mm_nas 1 j = as.length + 1) (hj : mm_o j = 13) (hM : 157 ≤ M.1) (hst : st = as.reverse ++ .ref 100 :: rest) (hsum : mm_sum rest ≤ 8) (hd : decode b pc = .ok (.invokevirtual x, 3)) (hc : mm_Ev d j (.ref 100 :: as) (rf_mk M io sg) (none, M1)) (kk : mm_Ru d (13, nL, ini, b, ret) (pc + 3) ls rest M1 R) : mm_Ru d (13, nL, ini, b, ret) pc ls st (rf_mk M io sg) R := r_call (C := (13, nL, ini, b, ret)) (as := .ref 100 :: as) (rest := rest) hd rfl rfl hv rfl (by rw [hst]; simp) hn hsum (q_rc j hj hM as) hc kk
theorem q_calls {x j : Nat} {as rest : List Value} {v : Value} {N : mH} (hv : mm_iv 13 (.invokestatic x) = some (0, j)) (hn : mm_nas 0 j = as.length) (hst : st = as.reverse ++ rest) (hsum : mm_sum rest ≤ 8) (hd : decode b pc = .ok (.invokestatic x, 3)) (hc : mm_Ev d j as N (some v, N)) (kk : mm_Ru d (13, nL, ini, b, ret) (pc + 3) ls (v :: rest) N R) : mm_Ru d (13, nL, ini, b, ret) pc ls st N R := r_call (C := (13, nL, ini, b, ret)) (as := as) (rest := rest) hd rfl rfl hv rfl hst hn hsum rfl hc kk
end RRU
