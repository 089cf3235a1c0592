/-! blocks as bytes -/
theorem upd_le {s g : Nat → Int32} {m : Nat} (hs : ∀ j, j < m → s j = g j) : ∀ j, j ≤ m → upd s m (g m) j = g j := by
  intro j hj
  simp only [upd]
  split
  · next e => rw [e]
  · exact hs j (by omega)
/-- where the k-th transaction begins -/
def bk_st (f : Nat → Int32) (e : Nat) : Nat → Nat
  | 0 => 81
  | k + 1 => bk_st f e k + tx_len f (bk_st f e k) e
def bk_ok (f : Nat → Int32) (e : Nat) : Nat → Bool
  | 0 => true
  | k + 1 => bk_ok f e k && decide (¬ tx_len f (bk_st f e k) e = 0)
/-- how many transactions a block of just e bytes has; 0: it is none -/
def bk_n (f : Nat → Int32) (e : Nat) : Nat :=
  if e < 81 then 0 else if 128 ≤ bb (f 64) then 0 else if bb (f 80) < 1 ∨ 8 < bb (f 80) then 0
  else if bk_ok f e (bb (f 80)) = true ∧ bk_st f e (bb (f 80)) = e then bb (f 80) else 0
theorem bk_ok_f {f : Nat → Int32} {e k : Nat} (h : tx_len f (bk_st f e k) e = 0) : ∀ n, k < n → bk_ok f e n = false := by
  intro n
  induction n with
  | zero => intro q; omega
  | succ n ih =>
    intro q
    rcases Nat.lt_or_ge k n with r | r
    · simp [bk_ok, ih r]
    · have e1 : n = k := by omega
      subst e1
      simp [bk_ok, h]
theorem bk_st_le {f : Nat → Int32} {e : Nat} (he : 81 ≤ e) : ∀ k, bk_ok f e k = true → 81 ≤ bk_st f e k ∧ bk_st f e k ≤ e := by
  intro k
  induction k with
  | zero => intro _; exact ⟨Nat.le_refl 81, he⟩
  | succ k ih =>
    intro h
    simp only [bk_ok, Bool.and_eq_true, decide_eq_true_eq] at h
    have q := ih h.1
    have r := tx_len_e f (bk_st f e k) e
    simp only [bk_st]
    omega
theorem bk_0 {f : Nat → Int32} {e : Nat} (h : e < 81) : bk_n f e = 0 := by unfold bk_n; rw [if_pos h]
theorem bk_1 {f : Nat → Int32} {e : Nat} (h : 128 ≤ bb (f 64)) : bk_n f e = 0 := by
  unfold bk_n
  split
  · rfl
  · first | rfl | rw [if_pos h]
theorem bk_2 {f : Nat → Int32} {e m : Nat} (hm : bb (f 80) = m) (h : m < 1 ∨ 8 < m) : bk_n f e = 0 := by
  subst hm
  unfold bk_n
  split
  · rfl
  · split
    · rfl
    · first | rfl | rw [if_pos h]
theorem bk_3 {f : Nat → Int32} {e m : Nat} (hm : bb (f 80) = m) (h : ¬ (bk_ok f e m = true ∧ bk_st f e m = e)) : bk_n f e = 0 := by
  subst hm
  unfold bk_n
  split
  · rfl
  · split
    · rfl
    · split
      · rfl
      · first | rfl | rw [if_neg h]
theorem bk_4 {f : Nat → Int32} {e m : Nat} (hm : bb (f 80) = m) (h0 : 81 ≤ e) (h1 : bb (f 64) < 128) (h2 : 1 ≤ m ∧ m ≤ 8) (h : bk_ok f e m = true ∧ bk_st f e m = e) : bk_n f e = m := by
  subst hm
  unfold bk_n
  rw [if_neg (by omega), if_neg (by omega), if_neg (by omega), if_pos h]
theorem bk_n_le (f : Nat → Int32) (e : Nat) : bk_n f e ≤ 8 := by
  unfold bk_n
  split
  · omega
  · split
    · omega
    · split
      · omega
      · split <;> omega
theorem bk_n_ok {f : Nat → Int32} {e : Nat} (h : ¬ bk_n f e = 0) : bk_n f e = bb (f 80) ∧ 81 ≤ e ∧ bb (f 64) < 128 ∧ bk_ok f e (bb (f 80)) = true ∧ bk_st f e (bb (f 80)) = e := by
  unfold bk_n at h ⊢
  by_cases h1 : e < 81
  · rw [if_pos h1] at h; exact absurd rfl h
  · rw [if_neg h1] at h ⊢
    by_cases h2 : 128 ≤ bb (f 64)
    · rw [if_pos h2] at h; exact absurd rfl h
    · rw [if_neg h2] at h ⊢
      by_cases h3 : bb (f 80) < 1 ∨ 8 < bb (f 80)
      · rw [if_pos h3] at h; exact absurd rfl h
      · rw [if_neg h3] at h ⊢
        by_cases h4 : bk_ok f e (bb (f 80)) = true ∧ bk_st f e (bb (f 80)) = e
        · rw [if_pos h4]; exact ⟨rfl, by omega, by omega, h4.1, h4.2⟩
        · rw [if_neg h4] at h; exact absurd rfl h

set_option maxHeartbeats 4000000 in
set_option maxRecDepth 100000 in
theorem l_bks {κ : hz_C} {z : Nat} {M : hz_M} {P : hz_P} {b n sA : Nat} {f s0 : Nat → Int32} (hM : M b = .inl (1, n, .inl f)) (ha : 8 ≤ b) (hz : b < z) (hn : n < 2 ^ 29) (hS : M sA = .inl (0, 9, .inl s0)) (hs8 : 8 ≤ sA) (hsz : sA < z) (hbs : b ≠ sA) {e : Nat} (he : e ≤ n) {m : Nat} (hm : bb (f 80) = m) (h0 : 81 ≤ e) (h1 : bb (f 64) < 128) (h2 : 1 ≤ m ∧ m ≤ 8) (K0 : ∀ s : Nat → Int32, bk_n f e = 0 → P (some (.int (nI 0))) z (va_up M sA (.inl (0, 9, .inl (s))))) (K1 : ∀ s : Nat → Int32, bk_n f e = m → (∀ j, j ≤ m → s j = nI (bk_st f e j)) → P (some (.int (nI m))) z (va_up M sA (.inl (0, 9, .inl (s))))) : ∀ k i s, k = m - i → i ≤ m → bk_ok f e i = true → (∀ j, j < i → s j = nI (bk_st f e j)) → hz_W κ xX0_blockStarts 1 0 0 P 0 0 56 [(5, .int (nI i)), (4, .int (nI (bk_st f e i))), (3, .int (nI m)), (0, .ref b), (1, .int (nI e)), (2, .ref sA)] [] z (va_up M sA (.inl (0, 9, .inl (s)))) := by
  intro k
  induction k using Nat.strongRecOn with
  | ind k ih =>
  intro i s hk hi hok hs
  have hle := bk_st_le h0 i hok
  refine hz_iload (pc := 56) 0 (hz_dec kX0_blockStarts 35 rfl) rfl ?_
  refine hz_iloadn (pc := 58) 2 (hz_dec kX0_blockStarts 36 rfl) rfl ?_
  refine hz_n_ge (pc := 59) (tgt := 97) (hz_dec kX0_blockStarts 37 rfl) (by decide) (by omega) (by omega) (fun h4 => ?_) (fun h4 => ?_)
  · skip
    have ei : i = m := by omega
    subst ei
    refine hz_aloadn (pc := 97) 5 (hz_dec kX0_blockStarts 57 rfl) rfl ?_
    refine hz_iloadn (pc := 98) 2 (hz_dec kX0_blockStarts 58 rfl) rfl ?_
    refine hz_iload (pc := 99) 1 (hz_dec kX0_blockStarts 59 rfl) rfl ?_
    refine hz_iast (pc := 101) (j := i) (hz_dec kX0_blockStarts 60 rfl) (va_up_self _ _ _) hs8 hsz rfl (by omega) (by decide) ?_
    refine hz_mem (pc := 102) (M2 := (va_up M sA (.inl (0, 9, .inl (upd s i ((nI (bk_st f e i)))))))) (bx_uu _ _ _ _) ?_
    refine hz_iload (pc := 102) 1 (hz_dec kX0_blockStarts 61 rfl) rfl ?_
    refine hz_iloadn (pc := 104) 4 (hz_dec kX0_blockStarts 62 rfl) rfl ?_
    refine hz_n_ne (pc := 105) (tgt := 112) (hz_dec kX0_blockStarts 63 rfl) (by decide) (by omega) (by omega) (fun h5 => ?_) (fun h5 => ?_)
    · skip
      refine hz_iconst (pc := 112) (v := nI 0) (hz_dec kX0_blockStarts 66 rfl) (by decide) ?_
      exact hz_iret (pc := 113) (hz_dec kX0_blockStarts 67 rfl) rfl (K0 _ (bk_3 hm (fun q => h5 q.2)))
    · skip
      refine hz_iloadn (pc := 108) 2 (hz_dec kX0_blockStarts 64 rfl) rfl ?_
      refine hz_goto (pc := 109) (tgt := 113) (hz_dec kX0_blockStarts 65 rfl) (by decide) ?_
      exact hz_iret (pc := 113) (hz_dec kX0_blockStarts 67 rfl) rfl (K1 _ (bk_4 hm h0 h1 h2 ⟨hok, h5⟩) (upd_le (g := fun j => nI (bk_st f e j)) hs))
  · skip
    refine hz_aloadn (pc := 62) 5 (hz_dec kX0_blockStarts 38 rfl) rfl ?_
    refine hz_iload (pc := 63) 0 (hz_dec kX0_blockStarts 39 rfl) rfl ?_
    refine hz_iload (pc := 65) 1 (hz_dec kX0_blockStarts 40 rfl) rfl ?_
    refine hz_iast (pc := 67) (j := i) (hz_dec kX0_blockStarts 41 rfl) (va_up_self _ _ _) hs8 hsz rfl (by omega) (by decide) ?_
    refine hz_mem (pc := 68) (M2 := (va_up M sA (.inl (0, 9, .inl (upd s i ((nI (bk_st f e i)))))))) (bx_uu _ _ _ _) ?_
    refine hz_aloadn (pc := 68) 3 (hz_dec kX0_blockStarts 42 rfl) rfl ?_
    refine hz_iload (pc := 69) 1 (hz_dec kX0_blockStarts 43 rfl) rfl ?_
    refine hz_iloadn (pc := 71) 4 (hz_dec kX0_blockStarts 44 rfl) rfl ?_
    refine hz_xS (pc := 72) (As := [.ref b, .int (nI (bk_st f e i)), .int (nI e)]) (st := []) (hz_dec kX0_blockStarts 45 rfl) co_X0_15 sc_X0_transactionLength (c_txl (hz_mne hM hbs) ha hz (by omega) he (by omega)) rfl (by decide) ⟨Nat.le_refl _, Nat.le_refl _⟩ (Nat.le_of_ble_eq_true rfl) rfl ?_
    have htl := tx_len_le f (bk_st f e i) e
    have hte := tx_len_e f (bk_st f e i) e
    refine hz_istore (pc := 75) (i := 6) (lo2 := [(6, .int (nI (tx_len f (bk_st f e i) e))), (5, .int (nI i)), (4, .int (nI (bk_st f e i))), (3, .int (nI m)), (0, .ref b), (1, .int (nI e)), (2, .ref sA)]) (hz_dec kX0_blockStarts 46 rfl) (by decide) rfl ?_
    refine hz_iload (pc := 77) 0 (hz_dec kX0_blockStarts 47 rfl) rfl ?_
    refine hz_z_ne (pc := 79) (tgt := 84) (hz_dec kX0_blockStarts 48 rfl) (by decide) (by omega) (fun h5 => ?_) (fun h5 => ?_)
    · skip
      refine hz_iload (pc := 84) 2 (hz_dec kX0_blockStarts 51 rfl) rfl ?_
      refine hz_iload (pc := 86) 0 (hz_dec kX0_blockStarts 52 rfl) rfl ?_
      refine hz_addN (pc := 88) (hz_dec kX0_blockStarts 53 rfl) ?_
      refine hz_istore (pc := 89) (i := 4) (lo2 := [(4, .int (nI ((bk_st f e i) + (tx_len f (bk_st f e i) e)))), (6, .int (nI (tx_len f (bk_st f e i) e))), (5, .int (nI i)), (3, .int (nI m)), (0, .ref b), (1, .int (nI e)), (2, .ref sA)]) (hz_dec kX0_blockStarts 54 rfl) (by decide) rfl ?_
      refine hz_incN (pc := 91) (i := 5) (lo2 := [(5, .int (nI (i + 1))), (4, .int (nI ((bk_st f e i) + (tx_len f (bk_st f e i) e)))), (6, .int (nI (tx_len f (bk_st f e i) e))), (3, .int (nI m)), (0, .ref b), (1, .int (nI e)), (2, .ref sA)]) 2 (hz_dec kX0_blockStarts 55 rfl) rfl (by decide) rfl ?_
      refine hz_goto (pc := 94) (tgt := 56) (hz_dec kX0_blockStarts 56 rfl) (by decide) ?_
      refine hz_pick (pc := 56) [0, 1, 3, 4, 5, 6] rfl ?_
      refine ih (m - (i + 1)) (by omega) (i + 1) _ rfl (by omega) (by simp only [bk_ok, hok, Bool.true_and, decide_eq_true_eq]; omega) (fun j hj => ?_)
      simp only [upd]
      split
      · next e1 => subst e1; rfl
      · exact hs j (by omega)
    · skip
      refine hz_iconst (pc := 82) (v := nI 0) (hz_dec kX0_blockStarts 49 rfl) (by decide) ?_
      exact hz_iret (pc := 83) (hz_dec kX0_blockStarts 50 rfl) rfl (K0 _ (bk_3 hm (fun q => by rw [bk_ok_f h5 m h4] at q; exact absurd q.1 (by decide))))
def bk_P (M : hz_M) (z sA : Nat) (f : Nat → Int32) (e : Nat) : hz_P := fun r z2 M2 => some (.int (nI (bk_n f e))) = r ∧ z = z2 ∧ ∃ s : Nat → Int32, (¬ bk_n f e = 0 → ∀ j, j ≤ bk_n f e → s j = nI (bk_st f e j)) ∧ (va_up M sA (.inl (0, 9, .inl (s)))) = M2
set_option maxHeartbeats 4000000 in
set_option maxRecDepth 100000 in
theorem c_bks {κ : hz_C} {z : Nat} {M : hz_M} {b n sA : Nat} {f s0 : Nat → Int32} (hM : M b = .inl (1, n, .inl f)) (ha : 8 ≤ b) (hz : b < z) (hn : n < 2 ^ 29) (hS : M sA = .inl (0, 9, .inl s0)) (hs8 : 8 ≤ sA) (hsz : sA < z) {e : Nat} (he : e ≤ n) : hz_Mt κ xX0_blockStarts 1 0 0 [.ref b, .int (nI e), .ref sA] z M (bk_P M z sA f e) := by
  refine hz_ent (lo := [(0, .ref b), (1, .int (nI e)), (2, .ref sA)]) (by decide) (Nat.le_of_ble_eq_true rfl) rfl ?_
  have hbs : b ≠ sA := hz_tt hM hS (by decide)
  refine hz_bytes hM ha hz (fun hby => ?_)
  have K0 : ∀ s : Nat → Int32, bk_n f e = 0 → bk_P M z sA f e (some (.int (nI 0))) z (va_up M sA (.inl (0, 9, .inl (s)))) := fun s h => ⟨by rw [h], rfl, s, fun q => absurd h q, rfl⟩
  have K00 : bk_n f e = 0 → bk_P M z sA f e (some (.int (nI 0))) z M := fun h => ⟨by rw [h], rfl, s0, fun q => absurd h q, hz_upid hS⟩
  refine hz_iloadn (pc := 0) 1 (hz_dec kX0_blockStarts 0 rfl) rfl ?_
  refine hz_bipush (pc := 1) (v := nI 81) (hz_dec kX0_blockStarts 1 rfl) (by decide) ?_
  refine hz_n_lt (pc := 3) (tgt := 19) (hz_dec kX0_blockStarts 2 rfl) (by decide) (by omega) (by omega) (fun h0 => ?_) (fun h0 => ?_)
  · skip
    refine hz_iconst (pc := 19) (v := nI 0) (hz_dec kX0_blockStarts 11 rfl) (by decide) ?_
    exact hz_iret (pc := 20) (hz_dec kX0_blockStarts 12 rfl) rfl (K00 (bk_0 (by omega)))
  · skip
    refine hz_iloadn (pc := 6) 1 (hz_dec kX0_blockStarts 3 rfl) rfl ?_
    refine hz_aloadn (pc := 7) 0 (hz_dec kX0_blockStarts 4 rfl) rfl ?_
    refine hz_alen (pc := 8) (hz_dec kX0_blockStarts 5 rfl) hM (by decide) ha hz ?_
    refine hz_n_gt (pc := 9) (tgt := 19) (hz_dec kX0_blockStarts 6 rfl) (by decide) (by omega) (by omega) (fun h1 => ?_) (fun h1 => ?_)
    · skip
      exact absurd h1 (by omega)
    · skip
      refine hz_aloadn (pc := 12) 0 (hz_dec kX0_blockStarts 7 rfl) rfl ?_
      refine hz_bipush (pc := 13) (v := nI 64) (hz_dec kX0_blockStarts 8 rfl) (by decide) ?_
      refine hz_bald (pc := 15) (j := 64) (hz_dec kX0_blockStarts 9 rfl) hM ha hz rfl (by omega) (by omega) ?_
      refine hz_if_ge (pc := 16) (tgt := 21) (hz_dec kX0_blockStarts 10 rfl) (by decide) (fun h2 => ?_) (fun h2 => ?_)
      · skip
        have h8b : bb (f 64) < 128 := by have q9 := by_neg (hby 64 (by omega)); rcases Nat.lt_or_ge (bb (f 64)) 128 with r | r; exact r; exact absurd (q9.mpr r) (Int32.not_lt.mpr h2)
        refine hz_aloadn (pc := 21) 0 (hz_dec kX0_blockStarts 13 rfl) rfl ?_
        refine hz_bipush (pc := 22) (v := nI 80) (hz_dec kX0_blockStarts 14 rfl) (by decide) ?_
        refine hz_bald (pc := 24) (j := 80) (hz_dec kX0_blockStarts 15 rfl) hM ha hz rfl (by omega) (by omega) ?_
        refine hz_sipush (pc := 25) (v := nI 255) (hz_dec kX0_blockStarts 16 rfl) (by decide) ?_
        refine hz_andB (pc := 28) (hz_dec kX0_blockStarts 17 rfl) ?_
        generalize hm : bb (f 80) = m
        have hml : m < 256 := hm ▸ bb_lt _
        refine hz_istoren (pc := 29) (i := 3) (lo2 := [(3, .int (nI m)), (0, .ref b), (1, .int (nI e)), (2, .ref sA)]) (hz_dec kX0_blockStarts 18 rfl) rfl (by decide) rfl ?_
        refine hz_iloadn (pc := 30) 0 (hz_dec kX0_blockStarts 19 rfl) rfl ?_
        refine hz_iconst (pc := 31) (v := nI 1) (hz_dec kX0_blockStarts 20 rfl) (by decide) ?_
        refine hz_n_lt (pc := 32) (tgt := 47) (hz_dec kX0_blockStarts 21 rfl) (by decide) (by omega) (by omega) (fun h3 => ?_) (fun h3 => ?_)
        · skip
          refine hz_iconst (pc := 47) (v := nI 0) (hz_dec kX0_blockStarts 29 rfl) (by decide) ?_
          exact hz_iret (pc := 48) (hz_dec kX0_blockStarts 30 rfl) rfl (K00 (bk_2 hm (by omega)))
        · skip
          refine hz_iloadn (pc := 35) 0 (hz_dec kX0_blockStarts 22 rfl) rfl ?_
          refine hz_bipush (pc := 36) (v := nI 8) (hz_dec kX0_blockStarts 23 rfl) (by decide) ?_
          refine hz_n_gt (pc := 38) (tgt := 47) (hz_dec kX0_blockStarts 24 rfl) (by decide) (by omega) (by omega) (fun h4 => ?_) (fun h4 => ?_)
          · skip
            refine hz_iconst (pc := 47) (v := nI 0) (hz_dec kX0_blockStarts 29 rfl) (by decide) ?_
            exact hz_iret (pc := 48) (hz_dec kX0_blockStarts 30 rfl) rfl (K00 (bk_2 hm (by omega)))
          · skip
            refine hz_aloadn (pc := 41) 3 (hz_dec kX0_blockStarts 25 rfl) rfl ?_
            refine hz_alen (pc := 42) (hz_dec kX0_blockStarts 26 rfl) hS (by decide) hs8 hsz ?_
            refine hz_iloadn (pc := 43) 0 (hz_dec kX0_blockStarts 27 rfl) rfl ?_
            refine hz_n_gt (pc := 44) (tgt := 49) (hz_dec kX0_blockStarts 28 rfl) (by decide) (by omega) (by omega) (fun h5 => ?_) (fun h5 => ?_)
            · skip
              refine hz_bipush (pc := 49) (v := nI 81) (hz_dec kX0_blockStarts 31 rfl) (by decide) ?_
              refine hz_istore (pc := 51) (i := 4) (lo2 := [(4, .int (nI 81)), (3, .int (nI m)), (0, .ref b), (1, .int (nI e)), (2, .ref sA)]) (hz_dec kX0_blockStarts 32 rfl) (by decide) rfl ?_
              refine hz_iconst (pc := 53) (v := nI 0) (hz_dec kX0_blockStarts 33 rfl) (by decide) ?_
              refine hz_istore (pc := 54) (i := 5) (lo2 := [(5, .int (nI 0)), (4, .int (nI 81)), (3, .int (nI m)), (0, .ref b), (1, .int (nI e)), (2, .ref sA)]) (hz_dec kX0_blockStarts 34 rfl) (by decide) rfl ?_
              refine hz_pick (pc := 56) [0, 1, 2, 3, 4, 5] rfl ?_
              refine hz_mem (hz_upid hS).symm ?_
              exact l_bks hM ha hz hn hS hs8 hsz hbs he hm (by omega) h8b (by omega) K0 (fun s h1 h2 => ⟨by rw [h1], rfl, s, fun _ => by rw [h1]; exact h2, rfl⟩) m 0 s0 rfl (by omega) rfl (fun j hj => absurd hj (by omega))
            · skip
              exact absurd h5 (by omega)
      · skip
        have h8b : 128 ≤ bb (f 64) := (by_neg (hby 64 (by omega))).mp (Int32.not_le.mp h2)
        refine hz_iconst (pc := 19) (v := nI 0) (hz_dec kX0_blockStarts 11 rfl) (by decide) ?_
        exact hz_iret (pc := 20) (hz_dec kX0_blockStarts 12 rfl) rfl (K00 (bk_1 h8b))
