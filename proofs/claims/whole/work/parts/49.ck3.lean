/-! the class: parts into bytes; two words as one number -/
set_option maxHeartbeats 4000000 in
set_option maxRecDepth 100000 in
theorem c_save_l {κ : hz_C} {z : Nat} {M : hz_M} (hk : M 13 = .inr (4, [.ref 9, .ref 14, .ref 15, .ref 16, .ref 17, .ref 18, .ref 19])) (hz : 63 ≤ z) {p0 : Nat → Int64} (h14 : M 14 = .inl (2, 8, .inr (.inl p0))) {b nb at_ : Nat} {f0 : Nat → Int32} (hB : M b = .inl (1, nb, .inl f0)) (hb8 : 8 ≤ b) (hbz : b < z) (hnb : nb < 2 ^ 30) (hr : at_ + 64 ≤ nb) {P : hz_P} (K : ∀ f : Nat → Int32, (∀ j, j < 8 * 8 → f (at_ + j) = sb_b (byl (p0 (j / 8)) (j % 8))) → (∀ q, q < at_ ∨ at_ + 64 ≤ q → f q = f0 q) → P none z (va_up M b (.inl (1, nb, .inl f)))) : ∀ k i f, k = 8 - i → i ≤ 8 → (∀ j, j < 8 * i → f (at_ + j) = sb_b (byl (p0 (j / 8)) (j % 8))) → (∀ q, q < at_ ∨ at_ + 64 ≤ q → f q = f0 q) → hz_W κ xX4_save 1 0 0 P 0 0 2 [(3, .int (nI i)), (0, .ref 13), (1, .ref b), (2, .int (nI at_))] [] z (va_up M b (.inl (1, nb, .inl f))) := by
  intro k
  induction k using Nat.strongRecOn with
  | ind k ih =>
  intro i f hk2 hi hs ho
  have hne : b ≠ 14 := fun e => by rw [e, h14] at hB; cases hB
  have hnk : b ≠ 13 := fun e => by rw [e, hk] at hB; cases hB
  refine hz_iloadn (pc := 2) 0 (hz_dec kX4_save 2 rfl) rfl ?_
  refine hz_bipush (pc := 3) (v := nI 8) (hz_dec kX4_save 3 rfl) (by decide) ?_
  refine hz_n_ge (pc := 5) (tgt := 32) (hz_dec kX4_save 4 rfl) (by decide) (by omega) (by omega) (fun h1 => ?_) (fun h1 => ?_)
  · skip
    have e : i = 8 := by omega
    subst e
    exact hz_vret (pc := 32) (hz_dec kX4_save 19 rfl) rfl (K f hs ho)
  · skip
    refine hz_aloadn (pc := 8) 2 (hz_dec kX4_save 5 rfl) rfl ?_
    refine hz_iloadn (pc := 9) 3 (hz_dec kX4_save 6 rfl) rfl ?_
    refine hz_bipush (pc := 10) (v := nI 8) (hz_dec kX4_save 7 rfl) (by decide) ?_
    refine hz_iloadn (pc := 12) 0 (hz_dec kX4_save 8 rfl) rfl ?_
    refine hz_mulN (pc := 13) (hz_dec kX4_save 9 rfl) ?_
    refine hz_addN (pc := 14) (hz_dec kX4_save 10 rfl) ?_
    refine hz_aloadn (pc := 15) 1 (hz_dec kX4_save 11 rfl) rfl ?_
    refine hz_get (pc := 16) (hz_dec kX4_save 12 rfl) fo_X4_9 (hz_mne hk (Ne.symm hnk)) (by decide) (by omega) rfl ?_
    refine hz_iloadn (pc := 19) 0 (hz_dec kX4_save 13 rfl) rfl ?_
    refine hz_lald (pc := 20) (j := i) (hz_dec kX4_save 14 rfl) (hz_mne h14 (Ne.symm hne)) (by decide) (by omega) rfl (by omega) (by decide) ?_
    refine hz_bipush (pc := 21) (v := nI 8) (hz_dec kX4_save 15 rfl) (by decide) ?_
    refine hz_xS (pc := 23) (As := [.ref b, .int (nI (at_ + (8 * i))), .long (p0 i), .int (nI 8)]) (st := []) (hz_dec kX4_save 16 rfl) co_X4_36 sc_X0_put (c_put (va_up_self _ _ _) hb8 hbz (by omega) (by omega)) rfl (by decide) ⟨Nat.le_refl _, Nat.le_refl _⟩ (Nat.le_of_ble_eq_true rfl) rfl ?_
    refine hz_mem (pc := 26) (M2 := (va_up M b (.inl (1, nb, .inl (bn_put (at_ + 8 * i) 8 (p0 i) f))))) (bx_uu _ _ _ _) ?_
    refine hz_incN (pc := 26) (i := 3) (lo2 := [(3, .int (nI (i + 1))), (0, .ref 13), (1, .ref b), (2, .int (nI at_))]) 0 (hz_dec kX4_save 17 rfl) rfl (by decide) rfl ?_
    refine hz_goto (pc := 29) (tgt := 2) (hz_dec kX4_save 18 rfl) (by decide) ?_
    refine hz_pick (pc := 2) [0, 1, 2, 3] rfl ?_
    refine ih (8 - (i + 1)) (by omega) (i + 1) _ rfl (by omega) (fun j hj => ?_) (fun q hq => ?_)
    · rcases Nat.lt_or_ge j (8 * i) with c | c
      · rw [bn_put_out 8 _ _ _ (Or.inl (by omega))]; exact hs j c
      · rw [show at_ + j = at_ + 8 * i + (j - 8 * i) by omega, bn_put_l (by omega), show j / 8 = i by omega, show j % 8 = j - 8 * i by omega]
    · rw [bn_put_out 8 _ _ _ (by omega)]; exact ho q hq
set_option maxHeartbeats 4000000 in
set_option maxRecDepth 100000 in
theorem c_save {κ : hz_C} {z : Nat} {M : hz_M} (hk : M 13 = .inr (4, [.ref 9, .ref 14, .ref 15, .ref 16, .ref 17, .ref 18, .ref 19])) (hz : 63 ≤ z) {p0 : Nat → Int64} (h14 : M 14 = .inl (2, 8, .inr (.inl p0))) {b nb at_ : Nat} {f0 : Nat → Int32} (hB : M b = .inl (1, nb, .inl f0)) (hb8 : 8 ≤ b) (hbz : b < z) (hnb : nb < 2 ^ 30) (hr : at_ + 64 ≤ nb) : hz_Mt κ xX4_save 1 0 0 [.ref 13, .ref b, .int (nI at_)] z M (fun r z2 M2 => none = r ∧ z = z2 ∧ ∃ f : Nat → Int32, (∀ j, j < 8 * 8 → f (at_ + j) = sb_b (byl (p0 (j / 8)) (j % 8))) ∧ (∀ q, q < at_ ∨ at_ + 64 ≤ q → f q = f0 q) ∧ (va_up M b (.inl (1, nb, .inl f))) = M2) := by
  refine hz_ent (lo := [(0, .ref 13), (1, .ref b), (2, .int (nI at_))]) (by decide) (Nat.le_of_ble_eq_true rfl) rfl ?_
  refine hz_iconst (pc := 0) (v := nI 0) (hz_dec kX4_save 0 rfl) (by decide) ?_
  refine hz_istoren (pc := 1) (i := 3) (lo2 := [(3, .int (nI 0)), (0, .ref 13), (1, .ref b), (2, .int (nI at_))]) (hz_dec kX4_save 1 rfl) rfl (by decide) rfl ?_
  refine hz_pick (pc := 2) [0, 1, 2, 3] rfl ?_
  refine hz_mem (hz_upid hB).symm ?_
  exact c_save_l hk hz h14 hB hb8 hbz hnb hr (fun f h1 h2 => ⟨rfl, rfl, f, h1, h2, rfl⟩) 8 0 f0 rfl (by omega) (fun j hj => absurd hj (by omega)) (fun _ _ => rfl)
set_option maxHeartbeats 4000000 in
set_option maxRecDepth 100000 in
theorem c_tlimb {κ : hz_C} {z : Nat} {M : hz_M} {b n : Nat} {f : Nat → Int32} (hM : M b = .inl (0, n, .inl f)) (ha : 8 ≤ b) (hz : b < z) (hn : n < 2 ^ 30) {i : Nat} (hi : i + 2 ≤ n) : hz_Mt κ xX9_limbOf 0 0 0 [.ref b, .int (nI i)] z M (hz_ex (some (.long (lN (un (f i) * 4294967296 + un (f (i + 1)))))) z M) := by
  refine hz_ent (lo := [(0, .ref b), (1, .int (nI i))]) (by decide) (Nat.le_of_ble_eq_true rfl) rfl ?_
  refine hz_iloadn (pc := 0) 1 (hz_dec kX9_limbOf 0 rfl) rfl ?_
  refine hz_z_lt (pc := 1) (tgt := 12) (hz_dec kX9_limbOf 1 rfl) (by decide) (by omega) ?_
  refine hz_iloadn (pc := 4) 1 (hz_dec kX9_limbOf 2 rfl) rfl ?_
  refine hz_aloadn (pc := 5) 0 (hz_dec kX9_limbOf 3 rfl) rfl ?_
  refine hz_alen (pc := 6) (hz_dec kX9_limbOf 4 rfl) hM (by decide) ha hz ?_
  refine hz_iconst (pc := 7) (v := nI 2) (hz_dec kX9_limbOf 5 rfl) (by decide) ?_
  refine hz_subN (pc := 8) (hz_dec kX9_limbOf 6 rfl) (by omega) ?_
  refine hz_n_le (pc := 9) (tgt := 16) (hz_dec kX9_limbOf 7 rfl) (by decide) (by omega) (by omega) (fun h2 => ?_) (fun h2 => ?_)
  · skip
    refine hz_aloadn (pc := 16) 0 (hz_dec kX9_limbOf 10 rfl) rfl ?_
    refine hz_iloadn (pc := 17) 1 (hz_dec kX9_limbOf 11 rfl) rfl ?_
    refine hz_iald (pc := 18) (j := i) (hz_dec kX9_limbOf 12 rfl) hM ha hz rfl (by omega) (by omega) ?_
    refine hz_i2l (pc := 19) (hz_dec kX9_limbOf 13 rfl) ?_
    refine hz_bipush (pc := 20) (v := nI 32) (hz_dec kX9_limbOf 14 rfl) (by decide) ?_
    refine hz_lshl (pc := 22) (hz_dec kX9_limbOf 15 rfl) ?_
    refine hz_aloadn (pc := 23) 0 (hz_dec kX9_limbOf 16 rfl) rfl ?_
    refine hz_iloadn (pc := 24) 1 (hz_dec kX9_limbOf 17 rfl) rfl ?_
    refine hz_iconst (pc := 25) (v := nI 1) (hz_dec kX9_limbOf 18 rfl) (by decide) ?_
    refine hz_addN (pc := 26) (hz_dec kX9_limbOf 19 rfl) ?_
    refine hz_iald (pc := 27) (j := i + 1) (hz_dec kX9_limbOf 20 rfl) hM ha hz rfl (by omega) (by omega) ?_
    refine hz_i2l (pc := 28) (hz_dec kX9_limbOf 21 rfl) ?_
    refine hz_ldc2 (pc := 29) (v := (4294967295)) (hz_dec kX9_limbOf 22 rfl) ks_X9_28 ?_
    refine hz_land (pc := 32) (hz_dec kX9_limbOf 23 rfl) ?_
    refine hz_lor (pc := 33) (hz_dec kX9_limbOf 24 rfl) ?_
    exact hz_lret (pc := 34) (hz_dec kX9_limbOf 25 rfl) rfl ⟨by rw [← sh_lim_i], rfl, rfl⟩
  · skip
    exact absurd h2 (by omega)
