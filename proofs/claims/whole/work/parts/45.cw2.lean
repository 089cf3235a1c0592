theorem mw_a {w D r i : Nat} (hD : 2 ≤ D) (hDl : D ≤ 2 ^ 253) (hv : w * D + r = 2 ^ i) (hr : r < D) (h1 : i < 256) : 2 * r < 4294967296 ^ 8 ∧ 2 * w < 4294967296 ^ 8 := by
  have hW2 : (2 : Nat) ^ 253 + 2 ^ 253 < 4294967296 ^ 8 := by decide +kernel
  have hW3 : (2 : Nat) ^ 255 < 4294967296 ^ 8 := by decide +kernel
  have hwm := Nat.mul_le_mul_left w hD
  have hE : (2 : Nat) ^ i ≤ 2 ^ 255 := Nat.pow_le_pow_right (by decide) (by omega)
  generalize (4294967296 : Nat) ^ 8 = W8 at *
  generalize (2 : Nat) ^ 253 = W3 at *
  generalize (2 : Nat) ^ 255 = W5 at *
  generalize (2 : Nat) ^ i = W4 at *
  omega
theorem mw_b {w2 D r2 i : Nat} (h : w2 * D + r2 = 2 * 2 ^ i + 0) : w2 * D + r2 = 2 ^ (i + 1) := by
  rw [h, Nat.pow_succ, Nat.add_zero, Nat.mul_comm]
set_option maxHeartbeats 4000000 in
set_option maxRecDepth 100000 in
theorem c_mw_2 {κ : hz_C} {z : Nat} {M : hz_M} {wb : Int32} (hO : M 20 = .inr (9, [.ref 21, .ref 22, .ref 23, .ref 24, .int wb])) (hz : 25 ≤ z) {d a23 a24 : Nat → Int32} (h22 : M 22 = .inl (0, 8, .inl d)) (h23 : M 23 = .inl (0, 8, .inl a23)) (h24 : M 24 = .inl (0, 8, .inl a24)) (hD : 2 ≤ bg d 0 8) (hDl : bg d 0 8 ≤ 2 ^ 253) {P : hz_P} (K : ∀ r w : Nat → Int32, bg w 0 8 = 2 ^ 256 / bg d 0 8 → P none z (va_up (va_up M 23 (.inl (0, 8, .inl r))) 24 (.inl (0, 8, .inl w)))) : ∀ k i (r w : Nat → Int32), k = 256 - i → i ≤ 256 → bg w 0 8 * bg d 0 8 + bg r 0 8 = 2 ^ i → bg r 0 8 < bg d 0 8 → hz_W κ xX9_makeWork 2 0 0 P 0 0 92 [(4, .int (nI i)), (0, .ref 20)] [] z (va_up (va_up M 23 (.inl (0, 8, .inl r))) 24 (.inl (0, 8, .inl w))) := by
  intro k
  induction k using Nat.strongRecOn with
  | ind k ih =>
  intro i r w hk hi hv hr
  refine hz_iload (pc := 92) 0 (hz_dec kX9_makeWork 54 rfl) rfl ?_
  refine hz_sipush (pc := 94) (v := nI 256) (hz_dec kX9_makeWork 55 rfl) (by decide) ?_
  refine hz_n_ge (pc := 97) (tgt := 151) (hz_dec kX9_makeWork 56 rfl) (by decide) (by omega) (by omega) (fun h1 => ?_) (fun h1 => ?_)
  · skip
    have e : i = 256 := by omega
    subst e
    exact hz_vret (pc := 151) (hz_dec kX9_makeWork 83 rfl) rfl (K r w (wk_div hv hr))
  · skip
    have hb := mw_a hD hDl hv hr h1
    refine hz_aloadn (pc := 100) 1 (hz_dec kX9_makeWork 57 rfl) rfl ?_
    refine hz_get (pc := 101) (hz_dec kX9_makeWork 58 rfl) fo_X9_18 (hz_mne (hz_mne hO (by decide)) (by decide)) (by decide) (by omega) rfl ?_
    refine hz_callS (pc := 104) (As := [.ref 23]) (st := []) (hz_dec kX9_makeWork 59 rfl) co_X9_61 sc_X9_twice (c_twice (hz_mne (va_up_self _ _ _) (by decide)) (by decide) (by omega) hb.1) rfl (by decide) ⟨Nat.le_refl _, Nat.le_refl _⟩ (Nat.le_of_ble_eq_true rfl) rfl (fun r9 z9 M9 hp9 => ?_)
    obtain ⟨rfl, rfl, r1, hr1, rfl⟩ := hp9
    refine hz_mem (pc := 107) (M2 := (va_up (va_up M 23 (.inl (0, 8, .inl (r1)))) 24 (.inl (0, 8, .inl (w))))) (hz_upc (by decide)) ?_
    refine hz_aloadn (pc := 107) 1 (hz_dec kX9_makeWork 60 rfl) rfl ?_
    refine hz_get (pc := 108) (hz_dec kX9_makeWork 61 rfl) fo_X9_21 (hz_mne (hz_mne hO (by decide)) (by decide)) (by decide) (by omega) rfl ?_
    refine hz_callS (pc := 111) (As := [.ref 24]) (st := []) (hz_dec kX9_makeWork 62 rfl) co_X9_61 sc_X9_twice (c_twice (va_up_self _ _ _) (by decide) (by omega) hb.2) rfl (by decide) ⟨Nat.le_refl _, Nat.le_refl _⟩ (Nat.le_of_ble_eq_true rfl) rfl (fun r9 z9 M9 hp9 => ?_)
    obtain ⟨rfl, rfl, w1, hw1, rfl⟩ := hp9
    refine hz_mem (pc := 114) (M2 := (va_up (va_up M 23 (.inl (0, 8, .inl (r1)))) 24 (.inl (0, 8, .inl (w1))))) (bx_uu _ _ _ _) ?_
    refine hz_aloadn (pc := 114) 1 (hz_dec kX9_makeWork 63 rfl) rfl ?_
    refine hz_get (pc := 115) (hz_dec kX9_makeWork 64 rfl) fo_X9_18 (hz_mne (hz_mne hO (by decide)) (by decide)) (by decide) (by omega) rfl ?_
    refine hz_iconst (pc := 118) (v := nI 0) (hz_dec kX9_makeWork 65 rfl) (by decide) ?_
    refine hz_aloadn (pc := 119) 1 (hz_dec kX9_makeWork 66 rfl) rfl ?_
    refine hz_get (pc := 120) (hz_dec kX9_makeWork 67 rfl) fo_X9_15 (hz_mne (hz_mne hO (by decide)) (by decide)) (by decide) (by omega) rfl ?_
    refine hz_iconst (pc := 123) (v := nI 0) (hz_dec kX9_makeWork 68 rfl) (by decide) ?_
    refine hz_xS (pc := 124) (As := [.ref 23, .int (nI 0), .ref 22, .int (nI 0)]) (st := []) (hz_dec kX9_makeWork 69 rfl) co_X9_40 sc_X9_compareWords (c_cmpW (hz_mne (va_up_self _ _ _) (by decide)) (by decide) (by omega) (by decide) (hz_mne (hz_mne h22 (by decide)) (by decide)) (by decide) (by omega) (by decide) (by decide) (by decide)) rfl (by decide) ⟨Nat.le_refl _, Nat.le_refl _⟩ (Nat.le_of_ble_eq_true rfl) rfl ?_
    refine hz_if_lt (pc := 127) (tgt := 145) (hz_dec kX9_makeWork 70 rfl) (by decide) (fun h2 => ?_) (fun h2 => ?_)
    · skip
      have hl : ¬ bg d 0 8 ≤ 2 * bg r 0 8 + 0 := fun q => Int32.not_lt.mpr (cmpN_ge.mpr (by rw [Nat.add_zero] at q; rw [hr1]; exact q)) h2
      have fin := wk_st (b := 0) (w2 := bg w1 0 8) (r2 := bg r1 0 8) (show 0 < bg d 0 8 by omega) hv hr (by decide) (by rw [if_neg hl, Nat.add_zero]; exact hw1) (by rw [if_neg hl, Nat.add_zero]; exact hr1)
      refine hz_incN (pc := 145) (i := 4) (lo2 := [(4, .int (nI (i + 1))), (0, .ref 20)]) 0 (hz_dec kX9_makeWork 81 rfl) rfl (by decide) rfl ?_
      refine hz_goto (pc := 148) (tgt := 92) (hz_dec kX9_makeWork 82 rfl) (by decide) ?_
      refine hz_pick (pc := 92) [0, 1] rfl ?_
      exact ih (256 - (i + 1)) (by omega) (i + 1) _ _ rfl (by omega) (mw_b fin.1) fin.2
    · skip
      have hl0 : bg d 0 8 ≤ bg r1 0 8 := cmpN_ge.mp (Int32.not_lt.mp h2)
      have hl : bg d 0 8 ≤ 2 * bg r 0 8 + 0 := by rw [hr1] at hl0; rw [Nat.add_zero]; exact hl0
      refine hz_aloadn (pc := 130) 1 (hz_dec kX9_makeWork 71 rfl) rfl ?_
      refine hz_callV (pc := 131) (a := 20) (As := []) (st := []) (hz_dec kX9_makeWork 72 rfl) co_X9_65 im_X9_lessen se_X9_lessen rfl (hz_mne (hz_mne hO (by decide)) (by decide)) (by decide) (by omega) (c_lessen (hz_mne (hz_mne hO (by decide)) (by decide)) hz (hz_mne (hz_mne h22 (by decide)) (by decide)) (hz_mne (va_up_self _ _ _) (by decide)) hl0) rfl (by decide) ⟨Nat.le_refl _, Nat.le_refl _⟩ (Nat.le_of_ble_eq_true rfl) rfl (fun r9 z9 M9 hp9 => ?_)
      obtain ⟨rfl, rfl, r2, hr2, rfl⟩ := hp9
      refine hz_mem (pc := 134) (M2 := (va_up (va_up M 23 (.inl (0, 8, .inl (r2)))) 24 (.inl (0, 8, .inl (w1))))) (hz_upc (by decide)) ?_
      refine hz_aloadn (pc := 134) 1 (hz_dec kX9_makeWork 73 rfl) rfl ?_
      refine hz_get (pc := 135) (hz_dec kX9_makeWork 74 rfl) fo_X9_21 (hz_mne (hz_mne hO (by decide)) (by decide)) (by decide) (by omega) rfl ?_
      refine hz_bipush (pc := 138) (v := nI 7) (hz_dec kX9_makeWork 75 rfl) (by decide) ?_
      refine hz_dup2 (pc := 140) (hz_dec kX9_makeWork 76 rfl) rfl rfl ?_
      refine hz_iald (pc := 141) (j := 7) (hz_dec kX9_makeWork 77 rfl) (va_up_self _ _ _) (by decide) (by omega) rfl (by omega) (by decide) ?_
      refine hz_iconst (pc := 142) (v := nI 1) (hz_dec kX9_makeWork 78 rfl) (by decide) ?_
      refine hz_ior (pc := 143) (hz_dec kX9_makeWork 79 rfl) ?_
      refine hz_iast (pc := 144) (j := 7) (hz_dec kX9_makeWork 80 rfl) (va_up_self _ _ _) (by decide) (by omega) rfl (by omega) (by decide) ?_
      refine hz_mem (pc := 145) (M2 := (va_up (va_up M 23 (.inl (0, 8, .inl (r2)))) 24 (.inl (0, 8, .inl (upd w1 7 (((w1 7) ||| (nI (1))))))))) (bx_uu _ _ _ _) ?_
      have ho := bg_or1 (f := w1) (n := 7) (b := 1) (by decide) (by rw [hw1]; omega)
      rw [hw1] at ho
      have fin := wk_st (b := 0) (w2 := bg (upd w1 7 (w1 7 ||| nI 1)) 0 8) (r2 := bg r2 0 8) (show 0 < bg d 0 8 by omega) hv hr (by decide) (by rw [if_pos hl]; exact ho) (by rw [if_pos hl, hr2, hr1, Nat.add_zero])
      refine hz_incN (pc := 145) (i := 4) (lo2 := [(4, .int (nI (i + 1))), (0, .ref 20)]) 0 (hz_dec kX9_makeWork 81 rfl) rfl (by decide) rfl ?_
      refine hz_goto (pc := 148) (tgt := 92) (hz_dec kX9_makeWork 82 rfl) (by decide) ?_
      refine hz_pick (pc := 92) [0, 1] rfl ?_
      exact ih (256 - (i + 1)) (by omega) (i + 1) _ _ rfl (by omega) (mw_b fin.1) fin.2
