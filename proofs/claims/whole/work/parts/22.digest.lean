set_option maxHeartbeats 4000000 in
set_option maxRecDepth 100000 in
theorem l_dgB {κ : hz_C} {z : Nat} {P : hz_P} {M : hz_M} {s vA wA oA b nb at_ n : Nat} {fv fw f : Nat → Int32} (hS : M s = .inr (8, [.ref vA, .ref wA, .ref oA])) (hV : M vA = .inl (0, 8, .inl fv)) (hW : M wA = .inl (0, 64, .inl fw)) (hB : M b = .inl (1, nb, .inl f)) (hT : ∀ k, k < 4 → M k = hz_st k) (hb : (8 ≤ s ∧ s < z) ∧ (8 ≤ vA ∧ vA < z) ∧ (8 ≤ wA ∧ wA < z) ∧ 8 ≤ b ∧ b < z) (hn : nb < 2 ^ 24) (hr : at_ + n ≤ nb) (hne : vA ≠ wA ∧ s ≠ vA ∧ s ≠ wA ∧ b ≠ vA ∧ b ≠ wA) {u : Nat → Int32} {fr i : Nat} (hf : fr < 2 ^ 25) (hi : i < 16) (K : hz_W κ xX8_digest 0 0 0 P 0 0 140 [(7, .int (nI (fr + 4 * i + 4))), (6, .int (sh_w1 f at_ n (fr + 4 * i) 4)), (5, .int (nI i)), (4, .int (nI fr)), (0, .ref s), (1, .ref b), (2, .int (nI at_)), (3, .int (nI n))] [] z (va_up M wA (.inl (0, 64, .inl (u))))) : ∀ k q, k = 4 - q → q ≤ 4 → hz_W κ xX8_digest 0 0 0 P 0 0 80 [(7, .int (nI (fr + 4 * i + q))), (6, .int (sh_w1 f at_ n (fr + 4 * i) q)), (5, .int (nI i)), (4, .int (nI fr)), (0, .ref s), (1, .ref b), (2, .int (nI at_)), (3, .int (nI n))] [] z (va_up M wA (.inl (0, 64, .inl (u)))) := by
  intro k
  induction k using Nat.strongRecOn with
  | ind k ih =>
  intro q hk hq
  refine hz_iload (pc := 80) 0 (hz_dec kX8_digest 45 rfl) rfl ?_
  refine hz_iload (pc := 82) 3 (hz_dec kX8_digest 46 rfl) rfl ?_
  refine hz_iconst (pc := 84) (v := nI 4) (hz_dec kX8_digest 47 rfl) (by decide) ?_
  refine hz_iload (pc := 85) 2 (hz_dec kX8_digest 48 rfl) rfl ?_
  refine hz_mulN (pc := 87) (hz_dec kX8_digest 49 rfl) ?_
  refine hz_addN (pc := 88) (hz_dec kX8_digest 50 rfl) ?_
  refine hz_iconst (pc := 89) (v := nI 4) (hz_dec kX8_digest 51 rfl) (by decide) ?_
  refine hz_addN (pc := 90) (hz_dec kX8_digest 52 rfl) ?_
  refine hz_n_ge (pc := 91) (tgt := 140) (hz_dec kX8_digest 53 rfl) (by decide) (by omega) (by omega) (fun h1 => ?_) (fun h1 => ?_)
  · skip
    have e : q = 4 := by omega
    subst e
    exact K
  · skip
    refine hz_iload (pc := 94) 1 (hz_dec kX8_digest 54 rfl) rfl ?_
    refine hz_bipush (pc := 96) (v := nI 8) (hz_dec kX8_digest 55 rfl) (by decide) ?_
    refine hz_ishl (pc := 98) (hz_dec kX8_digest 56 rfl) ?_
    refine hz_iload (pc := 99) 0 (hz_dec kX8_digest 57 rfl) rfl ?_
    refine hz_iloadn (pc := 101) 7 (hz_dec kX8_digest 58 rfl) rfl ?_
    refine hz_n_ge (pc := 102) (tgt := 118) (hz_dec kX8_digest 59 rfl) (by decide) (by omega) (by omega) (fun h2 => ?_) (fun h2 => ?_)
    · skip
      refine hz_iload (pc := 118) 0 (hz_dec kX8_digest 68 rfl) rfl ?_
      refine hz_iloadn (pc := 120) 7 (hz_dec kX8_digest 69 rfl) rfl ?_
      refine hz_n_ne (pc := 121) (tgt := 130) (hz_dec kX8_digest 70 rfl) (by decide) (by omega) (by omega) (fun h3 => ?_) (fun h3 => ?_)
      · skip
        refine hz_iconst (pc := 130) (v := nI 0) (hz_dec kX8_digest 73 rfl) (by decide) ?_
        refine hz_ior (pc := 131) (hz_dec kX8_digest 74 rfl) ?_
        refine hz_eqi (pc := 132) (w := sh_w1 f at_ n (fr + 4 * i) (q + 1)) (by simp only [sh_w1, sh_by, if_neg (Nat.not_lt.mpr h2), if_neg h3]) ?_
        refine hz_istore (pc := 132) (i := 6) (lo2 := [(6, .int (sh_w1 f at_ n (fr + 4 * i) (q + 1))), (7, .int (nI (fr + 4 * i + q))), (5, .int (nI i)), (4, .int (nI fr)), (0, .ref s), (1, .ref b), (2, .int (nI at_)), (3, .int (nI n))]) (hz_dec kX8_digest 75 rfl) (by decide) rfl ?_
        refine hz_incN (pc := 134) (i := 7) (lo2 := [(7, .int (nI (fr + 4 * i + q + 1))), (6, .int (sh_w1 f at_ n (fr + 4 * i) (q + 1))), (5, .int (nI i)), (4, .int (nI fr)), (0, .ref s), (1, .ref b), (2, .int (nI at_)), (3, .int (nI n))]) 1 (hz_dec kX8_digest 76 rfl) rfl (by decide) rfl ?_
        refine hz_goto (pc := 137) (tgt := 80) (hz_dec kX8_digest 77 rfl) (by decide) ?_
        refine hz_pick (pc := 80) [0, 1, 2, 3, 4, 5, 6, 7] rfl ?_
        exact ih (4 - (q + 1)) (by omega) (q + 1) rfl (by omega)
      · skip
        refine hz_sipush (pc := 124) (v := nI 128) (hz_dec kX8_digest 71 rfl) (by decide) ?_
        refine hz_goto (pc := 127) (tgt := 131) (hz_dec kX8_digest 72 rfl) (by decide) ?_
        refine hz_ior (pc := 131) (hz_dec kX8_digest 74 rfl) ?_
        refine hz_eqi (pc := 132) (w := sh_w1 f at_ n (fr + 4 * i) (q + 1)) (by simp only [sh_w1, sh_by, if_neg (Nat.not_lt.mpr h2), if_pos h3]) ?_
        refine hz_istore (pc := 132) (i := 6) (lo2 := [(6, .int (sh_w1 f at_ n (fr + 4 * i) (q + 1))), (7, .int (nI (fr + 4 * i + q))), (5, .int (nI i)), (4, .int (nI fr)), (0, .ref s), (1, .ref b), (2, .int (nI at_)), (3, .int (nI n))]) (hz_dec kX8_digest 75 rfl) (by decide) rfl ?_
        refine hz_incN (pc := 134) (i := 7) (lo2 := [(7, .int (nI (fr + 4 * i + q + 1))), (6, .int (sh_w1 f at_ n (fr + 4 * i) (q + 1))), (5, .int (nI i)), (4, .int (nI fr)), (0, .ref s), (1, .ref b), (2, .int (nI at_)), (3, .int (nI n))]) 1 (hz_dec kX8_digest 76 rfl) rfl (by decide) rfl ?_
        refine hz_goto (pc := 137) (tgt := 80) (hz_dec kX8_digest 77 rfl) (by decide) ?_
        refine hz_pick (pc := 80) [0, 1, 2, 3, 4, 5, 6, 7] rfl ?_
        exact ih (4 - (q + 1)) (by omega) (q + 1) rfl (by omega)
    · skip
      refine hz_aloadn (pc := 105) 5 (hz_dec kX8_digest 60 rfl) rfl ?_
      refine hz_iloadn (pc := 106) 6 (hz_dec kX8_digest 61 rfl) rfl ?_
      refine hz_iload (pc := 107) 0 (hz_dec kX8_digest 62 rfl) rfl ?_
      refine hz_addN (pc := 109) (hz_dec kX8_digest 63 rfl) ?_
      refine hz_bald (pc := 110) (j := at_ + (fr + 4 * i + q)) (hz_dec kX8_digest 64 rfl) (hz_mne hB hne.2.2.2.2) hb.2.2.2.1 hb.2.2.2.2 rfl (by omega) (by omega) ?_
      refine hz_sipush (pc := 111) (v := nI 255) (hz_dec kX8_digest 65 rfl) (by decide) ?_
      refine hz_andB (pc := 114) (hz_dec kX8_digest 66 rfl) ?_
      refine hz_goto (pc := 115) (tgt := 131) (hz_dec kX8_digest 67 rfl) (by decide) ?_
      refine hz_ior (pc := 131) (hz_dec kX8_digest 74 rfl) ?_
      refine hz_eqi (pc := 132) (w := sh_w1 f at_ n (fr + 4 * i) (q + 1)) (by simp only [sh_w1, sh_by, if_pos h2]) ?_
      refine hz_istore (pc := 132) (i := 6) (lo2 := [(6, .int (sh_w1 f at_ n (fr + 4 * i) (q + 1))), (7, .int (nI (fr + 4 * i + q))), (5, .int (nI i)), (4, .int (nI fr)), (0, .ref s), (1, .ref b), (2, .int (nI at_)), (3, .int (nI n))]) (hz_dec kX8_digest 75 rfl) (by decide) rfl ?_
      refine hz_incN (pc := 134) (i := 7) (lo2 := [(7, .int (nI (fr + 4 * i + q + 1))), (6, .int (sh_w1 f at_ n (fr + 4 * i) (q + 1))), (5, .int (nI i)), (4, .int (nI fr)), (0, .ref s), (1, .ref b), (2, .int (nI at_)), (3, .int (nI n))]) 1 (hz_dec kX8_digest 76 rfl) rfl (by decide) rfl ?_
      refine hz_goto (pc := 137) (tgt := 80) (hz_dec kX8_digest 77 rfl) (by decide) ?_
      refine hz_pick (pc := 80) [0, 1, 2, 3, 4, 5, 6, 7] rfl ?_
      exact ih (4 - (q + 1)) (by omega) (q + 1) rfl (by omega)
set_option maxHeartbeats 4000000 in
set_option maxRecDepth 100000 in
theorem l_dgF {κ : hz_C} {z : Nat} {P : hz_P} {M : hz_M} {s vA wA oA b nb at_ n : Nat} {fv fw f : Nat → Int32} (hS : M s = .inr (8, [.ref vA, .ref wA, .ref oA])) (hV : M vA = .inl (0, 8, .inl fv)) (hW : M wA = .inl (0, 64, .inl fw)) (hB : M b = .inl (1, nb, .inl f)) (hT : ∀ k, k < 4 → M k = hz_st k) (hb : (8 ≤ s ∧ s < z) ∧ (8 ≤ vA ∧ vA < z) ∧ (8 ≤ wA ∧ wA < z) ∧ 8 ≤ b ∧ b < z) (hn : nb < 2 ^ 24) (hr : at_ + n ≤ nb) (hne : vA ≠ wA ∧ s ≠ vA ∧ s ≠ wA ∧ b ≠ vA ∧ b ≠ wA) {fr : Nat} (hf : fr < 2 ^ 25) (K : ∀ u : Nat → Int32, (∀ j, j < 16 → u j = sh_w1 f at_ n (fr + 4 * j) 4) → hz_W κ xX8_digest 0 0 0 P 0 0 155 [(5, .int (nI 16)), (4, .int (nI fr)), (0, .ref s), (1, .ref b), (2, .int (nI at_)), (3, .int (nI n))] [] z (va_up M wA (.inl (0, 64, .inl (u))))) : ∀ k i u, k = 16 - i → i ≤ 16 → (∀ j, j < i → u j = sh_w1 f at_ n (fr + 4 * j) 4) → hz_W κ xX8_digest 0 0 0 P 0 0 61 [(5, .int (nI i)), (4, .int (nI fr)), (0, .ref s), (1, .ref b), (2, .int (nI at_)), (3, .int (nI n))] [] z (va_up M wA (.inl (0, 64, .inl (u)))) := by
  intro k
  induction k using Nat.strongRecOn with
  | ind k ih =>
  intro i u hk hi hu
  refine hz_iload (pc := 61) 0 (hz_dec kX8_digest 34 rfl) rfl ?_
  refine hz_bipush (pc := 63) (v := nI 16) (hz_dec kX8_digest 35 rfl) (by decide) ?_
  refine hz_n_ge (pc := 65) (tgt := 155) (hz_dec kX8_digest 36 rfl) (by decide) (by omega) (by omega) (fun h1 => ?_) (fun h1 => ?_)
  · skip
    have e : i = 16 := by omega
    subst e
    exact K u hu
  · skip
    refine hz_iconst (pc := 68) (v := nI 0) (hz_dec kX8_digest 37 rfl) (by decide) ?_
    refine hz_istore (pc := 69) (i := 6) (lo2 := [(6, .int (nI 0)), (5, .int (nI i)), (4, .int (nI fr)), (0, .ref s), (1, .ref b), (2, .int (nI at_)), (3, .int (nI n))]) (hz_dec kX8_digest 38 rfl) (by decide) rfl ?_
    refine hz_iload (pc := 71) 2 (hz_dec kX8_digest 39 rfl) rfl ?_
    refine hz_iconst (pc := 73) (v := nI 4) (hz_dec kX8_digest 40 rfl) (by decide) ?_
    refine hz_iload (pc := 74) 1 (hz_dec kX8_digest 41 rfl) rfl ?_
    refine hz_mulN (pc := 76) (hz_dec kX8_digest 42 rfl) ?_
    refine hz_addN (pc := 77) (hz_dec kX8_digest 43 rfl) ?_
    refine hz_istore (pc := 78) (i := 7) (lo2 := [(7, .int (nI (fr + (4 * i)))), (6, .int (nI 0)), (5, .int (nI i)), (4, .int (nI fr)), (0, .ref s), (1, .ref b), (2, .int (nI at_)), (3, .int (nI n))]) (hz_dec kX8_digest 44 rfl) (by decide) rfl ?_
    refine hz_pick (pc := 80) [0, 1, 2, 3, 4, 5, 6, 7] rfl ?_
    refine l_dgB hS hV hW hB hT hb hn hr hne hf h1 ?_ 4 0 rfl (by omega)
    refine hz_aloadn (pc := 140) 4 (hz_dec kX8_digest 78 rfl) rfl ?_
    refine hz_get (pc := 141) (hz_dec kX8_digest 79 rfl) fo_X8_15 (hz_mne hS hne.2.2.1) hb.1.1 hb.1.2 rfl ?_
    refine hz_iload (pc := 144) 2 (hz_dec kX8_digest 80 rfl) rfl ?_
    refine hz_iload (pc := 146) 1 (hz_dec kX8_digest 81 rfl) rfl ?_
    refine hz_iast (pc := 148) (j := i) (hz_dec kX8_digest 82 rfl) (va_up_self _ _ _) hb.2.2.1.1 hb.2.2.1.2 rfl (by omega) (by decide) ?_
    refine hz_mem (pc := 149) (M2 := (va_up M wA (.inl (0, 64, .inl (upd u i ((sh_w1 f at_ n (fr + 4 * i) 4))))))) (bx_uu _ _ _ _) ?_
    refine hz_incN (pc := 149) (i := 5) (lo2 := [(5, .int (nI (i + 1))), (7, .int (nI (fr + 4 * i + 4))), (6, .int (sh_w1 f at_ n (fr + 4 * i) 4)), (4, .int (nI fr)), (0, .ref s), (1, .ref b), (2, .int (nI at_)), (3, .int (nI n))]) 2 (hz_dec kX8_digest 83 rfl) rfl (by decide) rfl ?_
    refine hz_goto (pc := 152) (tgt := 61) (hz_dec kX8_digest 84 rfl) (by decide) ?_
    refine hz_pick (pc := 61) [0, 3, 4, 5, 6, 7] rfl ?_
    refine ih (16 - (i + 1)) (by omega) (i + 1) _ rfl (by omega) (fun j hj => ?_)
    simp only [upd]
    split
    · next e => subst e; rfl
    · exact hu j (by omega)
set_option maxHeartbeats 4000000 in
set_option maxRecDepth 100000 in
theorem l_dgS {κ : hz_C} {z : Nat} {P : hz_P} {M : hz_M} {s vA wA oA b nb at_ n : Nat} {fv fw f : Nat → Int32} (hS : M s = .inr (8, [.ref vA, .ref wA, .ref oA])) (hV : M vA = .inl (0, 8, .inl fv)) (hW : M wA = .inl (0, 64, .inl fw)) (hB : M b = .inl (1, nb, .inl f)) (hT : ∀ k, k < 4 → M k = hz_st k) (hb : (8 ≤ s ∧ s < z) ∧ (8 ≤ vA ∧ vA < z) ∧ (8 ≤ wA ∧ wA < z) ∧ 8 ≤ b ∧ b < z) (hn : nb < 2 ^ 24) (hr : at_ + n ≤ nb) (hne : vA ≠ wA ∧ s ≠ vA ∧ s ≠ wA ∧ b ≠ vA ∧ b ≠ wA) {u v : Nat → Int32} {fr : Nat} (K : hz_W κ xX8_digest 0 0 0 P 0 0 315 [(4, .int (nI fr)), (0, .ref s), (1, .ref b), (2, .int (nI at_)), (3, .int (nI n))] [] z (va_up (va_up M vA (.inl (0, 8, .inl (v)))) wA (.inl (0, 64, .inl (sh_ext u 48))))) : ∀ k q, k = 48 - q → q ≤ 48 → hz_W κ xX8_digest 0 0 0 P 0 0 192 [(5, .int (nI (16 + q))), (4, .int (nI fr)), (0, .ref s), (1, .ref b), (2, .int (nI at_)), (3, .int (nI n))] [] z (va_up (va_up M vA (.inl (0, 8, .inl (v)))) wA (.inl (0, 64, .inl (sh_ext u q)))) := by
  intro k
  induction k using Nat.strongRecOn with
  | ind k ih =>
  intro q hk hq
  refine hz_iload (pc := 192) 0 (hz_dec kX8_digest 108 rfl) rfl ?_
  refine hz_bipush (pc := 194) (v := nI 64) (hz_dec kX8_digest 109 rfl) (by decide) ?_
  refine hz_n_ge (pc := 196) (tgt := 315) (hz_dec kX8_digest 110 rfl) (by decide) (by omega) (by omega) (fun h1 => ?_) (fun h1 => ?_)
  · skip
    have e : q = 48 := by omega
    subst e
    refine hz_pick (pc := 315) [1, 2, 3, 4, 5] rfl ?_
    exact K
  · skip
    refine hz_aloadn (pc := 199) 2 (hz_dec kX8_digest 111 rfl) rfl ?_
    refine hz_get (pc := 200) (hz_dec kX8_digest 112 rfl) fo_X8_15 (hz_mne (hz_mne hS hne.2.1) hne.2.2.1) hb.1.1 hb.1.2 rfl ?_
    refine hz_iload (pc := 203) 0 (hz_dec kX8_digest 113 rfl) rfl ?_
    refine hz_bipush (pc := 205) (v := nI 15) (hz_dec kX8_digest 114 rfl) (by decide) ?_
    refine hz_subN (pc := 207) (hz_dec kX8_digest 115 rfl) (by omega) ?_
    refine hz_iald (pc := 208) (j := q + 1) (hz_dec kX8_digest 116 rfl) (va_up_self _ _ _) hb.2.2.1.1 hb.2.2.1.2 (by rw [show 16 + q - 15 = q + 1 by omega]) (by omega) (by decide) ?_
    refine hz_topi (pc := 209) (fun y1 ey1 => ?_)
    refine hz_istore (pc := 209) (i := 6) (lo2 := [(6, .int y1), (5, .int (nI (16 + q))), (4, .int (nI fr)), (0, .ref s), (1, .ref b), (2, .int (nI at_)), (3, .int (nI n))]) (hz_dec kX8_digest 117 rfl) (by decide) rfl ?_
    refine hz_aloadn (pc := 211) 3 (hz_dec kX8_digest 118 rfl) rfl ?_
    refine hz_get (pc := 212) (hz_dec kX8_digest 119 rfl) fo_X8_15 (hz_mne (hz_mne hS hne.2.1) hne.2.2.1) hb.1.1 hb.1.2 rfl ?_
    refine hz_iload (pc := 215) 1 (hz_dec kX8_digest 120 rfl) rfl ?_
    refine hz_iconst (pc := 217) (v := nI 2) (hz_dec kX8_digest 121 rfl) (by decide) ?_
    refine hz_subN (pc := 218) (hz_dec kX8_digest 122 rfl) (by omega) ?_
    refine hz_iald (pc := 219) (j := q + 14) (hz_dec kX8_digest 123 rfl) (va_up_self _ _ _) hb.2.2.1.1 hb.2.2.1.2 (by rw [show 16 + q - 2 = q + 14 by omega]) (by omega) (by decide) ?_
    refine hz_topi (pc := 220) (fun y2 ey2 => ?_)
    refine hz_istore (pc := 220) (i := 7) (lo2 := [(7, .int y2), (6, .int y1), (5, .int (nI (16 + q))), (4, .int (nI fr)), (0, .ref s), (1, .ref b), (2, .int (nI at_)), (3, .int (nI n))]) (hz_dec kX8_digest 124 rfl) (by decide) rfl ?_
    refine hz_aloadn (pc := 222) 4 (hz_dec kX8_digest 125 rfl) rfl ?_
    refine hz_get (pc := 223) (hz_dec kX8_digest 126 rfl) fo_X8_15 (hz_mne (hz_mne hS hne.2.1) hne.2.2.1) hb.1.1 hb.1.2 rfl ?_
    refine hz_iload (pc := 226) 2 (hz_dec kX8_digest 127 rfl) rfl ?_
    refine hz_aloadn (pc := 228) 4 (hz_dec kX8_digest 128 rfl) rfl ?_
    refine hz_get (pc := 229) (hz_dec kX8_digest 129 rfl) fo_X8_15 (hz_mne (hz_mne hS hne.2.1) hne.2.2.1) hb.1.1 hb.1.2 rfl ?_
    refine hz_iload (pc := 232) 2 (hz_dec kX8_digest 130 rfl) rfl ?_
    refine hz_bipush (pc := 234) (v := nI 16) (hz_dec kX8_digest 131 rfl) (by decide) ?_
    refine hz_subN (pc := 236) (hz_dec kX8_digest 132 rfl) (by omega) ?_
    refine hz_iald (pc := 237) (j := q) (hz_dec kX8_digest 133 rfl) (va_up_self _ _ _) hb.2.2.1.1 hb.2.2.1.2 (by rw [show 16 + q - 16 = q by omega]) (by omega) (by decide) ?_
    refine hz_aloadn (pc := 238) 4 (hz_dec kX8_digest 134 rfl) rfl ?_
    refine hz_get (pc := 239) (hz_dec kX8_digest 135 rfl) fo_X8_15 (hz_mne (hz_mne hS hne.2.1) hne.2.2.1) hb.1.1 hb.1.2 rfl ?_
    refine hz_iload (pc := 242) 2 (hz_dec kX8_digest 136 rfl) rfl ?_
    refine hz_bipush (pc := 244) (v := nI 7) (hz_dec kX8_digest 137 rfl) (by decide) ?_
    refine hz_subN (pc := 246) (hz_dec kX8_digest 138 rfl) (by omega) ?_
    refine hz_iald (pc := 247) (j := q + 9) (hz_dec kX8_digest 139 rfl) (va_up_self _ _ _) hb.2.2.1.1 hb.2.2.1.2 (by rw [show 16 + q - 7 = q + 9 by omega]) (by omega) (by decide) ?_
    refine hz_iadd (pc := 248) (hz_dec kX8_digest 140 rfl) ?_
    refine hz_iload (pc := 249) 1 (hz_dec kX8_digest 141 rfl) rfl ?_
    refine hz_bipush (pc := 251) (v := nI 7) (hz_dec kX8_digest 142 rfl) (by decide) ?_
    refine hz_iushr (pc := 253) (hz_dec kX8_digest 143 rfl) ?_
    refine hz_iload (pc := 254) 1 (hz_dec kX8_digest 144 rfl) rfl ?_
    refine hz_bipush (pc := 256) (v := nI 25) (hz_dec kX8_digest 145 rfl) (by decide) ?_
    refine hz_ishl (pc := 258) (hz_dec kX8_digest 146 rfl) ?_
    refine hz_ior (pc := 259) (hz_dec kX8_digest 147 rfl) ?_
    refine hz_iload (pc := 260) 1 (hz_dec kX8_digest 148 rfl) rfl ?_
    refine hz_bipush (pc := 262) (v := nI 18) (hz_dec kX8_digest 149 rfl) (by decide) ?_
    refine hz_iushr (pc := 264) (hz_dec kX8_digest 150 rfl) ?_
    refine hz_iload (pc := 265) 1 (hz_dec kX8_digest 151 rfl) rfl ?_
    refine hz_bipush (pc := 267) (v := nI 14) (hz_dec kX8_digest 152 rfl) (by decide) ?_
    refine hz_ishl (pc := 269) (hz_dec kX8_digest 153 rfl) ?_
    refine hz_ior (pc := 270) (hz_dec kX8_digest 154 rfl) ?_
    refine hz_ixor (pc := 271) (hz_dec kX8_digest 155 rfl) ?_
    refine hz_iload (pc := 272) 1 (hz_dec kX8_digest 156 rfl) rfl ?_
    refine hz_iconst (pc := 274) (v := nI 3) (hz_dec kX8_digest 157 rfl) (by decide) ?_
    refine hz_iushr (pc := 275) (hz_dec kX8_digest 158 rfl) ?_
    refine hz_ixor (pc := 276) (hz_dec kX8_digest 159 rfl) ?_
    refine hz_iadd (pc := 277) (hz_dec kX8_digest 160 rfl) ?_
    refine hz_iload (pc := 278) 0 (hz_dec kX8_digest 161 rfl) rfl ?_
    refine hz_bipush (pc := 280) (v := nI 17) (hz_dec kX8_digest 162 rfl) (by decide) ?_
    refine hz_iushr (pc := 282) (hz_dec kX8_digest 163 rfl) ?_
    refine hz_iload (pc := 283) 0 (hz_dec kX8_digest 164 rfl) rfl ?_
    refine hz_bipush (pc := 285) (v := nI 15) (hz_dec kX8_digest 165 rfl) (by decide) ?_
    refine hz_ishl (pc := 287) (hz_dec kX8_digest 166 rfl) ?_
    refine hz_ior (pc := 288) (hz_dec kX8_digest 167 rfl) ?_
    refine hz_iload (pc := 289) 0 (hz_dec kX8_digest 168 rfl) rfl ?_
    refine hz_bipush (pc := 291) (v := nI 19) (hz_dec kX8_digest 169 rfl) (by decide) ?_
    refine hz_iushr (pc := 293) (hz_dec kX8_digest 170 rfl) ?_
    refine hz_iload (pc := 294) 0 (hz_dec kX8_digest 171 rfl) rfl ?_
    refine hz_bipush (pc := 296) (v := nI 13) (hz_dec kX8_digest 172 rfl) (by decide) ?_
    refine hz_ishl (pc := 298) (hz_dec kX8_digest 173 rfl) ?_
    refine hz_ior (pc := 299) (hz_dec kX8_digest 174 rfl) ?_
    refine hz_ixor (pc := 300) (hz_dec kX8_digest 175 rfl) ?_
    refine hz_iload (pc := 301) 0 (hz_dec kX8_digest 176 rfl) rfl ?_
    refine hz_bipush (pc := 303) (v := nI 10) (hz_dec kX8_digest 177 rfl) (by decide) ?_
    refine hz_iushr (pc := 305) (hz_dec kX8_digest 178 rfl) ?_
    refine hz_ixor (pc := 306) (hz_dec kX8_digest 179 rfl) ?_
    refine hz_iadd (pc := 307) (hz_dec kX8_digest 180 rfl) ?_
    refine hz_iast (pc := 308) (j := 16 + q) (hz_dec kX8_digest 181 rfl) (va_up_self _ _ _) hb.2.2.1.1 hb.2.2.1.2 rfl (by omega) (by decide) ?_
    refine hz_mem (pc := 309) (M2 := (va_up (va_up M vA (.inl (0, 8, .inl (v)))) wA (.inl (0, 64, .inl (upd (sh_ext u q) (16 + q) ((((((sh_ext u q) q) + ((sh_ext u q) (q + 9))) + ((((((y1).toUInt32 >>> ((nI (7)).toUInt32 &&& Int32.toUInt32 31)).toInt32) ||| ((y1) <<< ((nI (25)) &&& 31))) ^^^ ((((y1).toUInt32 >>> ((nI (18)).toUInt32 &&& Int32.toUInt32 31)).toInt32) ||| ((y1) <<< ((nI (14)) &&& 31)))) ^^^ (((y1).toUInt32 >>> ((nI (3)).toUInt32 &&& Int32.toUInt32 31)).toInt32))) + ((((((y2).toUInt32 >>> ((nI (17)).toUInt32 &&& Int32.toUInt32 31)).toInt32) ||| ((y2) <<< ((nI (15)) &&& 31))) ^^^ ((((y2).toUInt32 >>> ((nI (19)).toUInt32 &&& Int32.toUInt32 31)).toInt32) ||| ((y2) <<< ((nI (13)) &&& 31)))) ^^^ (((y2).toUInt32 >>> ((nI (10)).toUInt32 &&& Int32.toUInt32 31)).toInt32))))))))) (bx_uu _ _ _ _) ?_
    refine hz_incN (pc := 309) (i := 5) (lo2 := [(5, .int (nI (16 + q + 1))), (7, .int y2), (6, .int y1), (4, .int (nI fr)), (0, .ref s), (1, .ref b), (2, .int (nI at_)), (3, .int (nI n))]) 2 (hz_dec kX8_digest 182 rfl) rfl (by decide) rfl ?_
    refine hz_goto (pc := 312) (tgt := 192) (hz_dec kX8_digest 183 rfl) (by decide) ?_
    rw [show 16 + q + 1 = 16 + (q + 1) by omega]
    refine hz_pick (pc := 192) [0, 3, 4, 5, 6, 7] rfl ?_
    subst ey1 ey2
    exact ih (48 - (q + 1)) (by omega) (q + 1) rfl (by omega)
set_option maxHeartbeats 4000000 in
set_option maxRecDepth 100000 in
theorem l_dgR {κ : hz_C} {z : Nat} {P : hz_P} {M : hz_M} {s vA wA oA b nb at_ n : Nat} {fv fw f : Nat → Int32} (hS : M s = .inr (8, [.ref vA, .ref wA, .ref oA])) (hV : M vA = .inl (0, 8, .inl fv)) (hW : M wA = .inl (0, 64, .inl fw)) (hB : M b = .inl (1, nb, .inl f)) (hT : ∀ k, k < 4 → M k = hz_st k) (hb : (8 ≤ s ∧ s < z) ∧ (8 ≤ vA ∧ vA < z) ∧ (8 ≤ wA ∧ wA < z) ∧ 8 ≤ b ∧ b < z) (hn : nb < 2 ^ 24) (hr : at_ + n ≤ nb) (hne : vA ≠ wA ∧ s ≠ vA ∧ s ≠ wA ∧ b ≠ vA ∧ b ≠ wA) {w v : Nat → Int32} {fr : Nat} (K : hz_W κ xX8_digest 0 0 0 P 0 0 558 [(5, .int ((sh_rd w (sh_of v) 64).1)), (6, .int ((sh_rd w (sh_of v) 64).2.1)), (7, .int ((sh_rd w (sh_of v) 64).2.2.1)), (8, .int ((sh_rd w (sh_of v) 64).2.2.2.1)), (9, .int ((sh_rd w (sh_of v) 64).2.2.2.2.1)), (10, .int ((sh_rd w (sh_of v) 64).2.2.2.2.2.1)), (11, .int ((sh_rd w (sh_of v) 64).2.2.2.2.2.2.1)), (12, .int ((sh_rd w (sh_of v) 64).2.2.2.2.2.2.2)), (4, .int (nI fr)), (0, .ref s), (1, .ref b), (2, .int (nI at_)), (3, .int (nI n))] [] z (va_up (va_up M vA (.inl (0, 8, .inl (v)))) wA (.inl (0, 64, .inl (w))))) : ∀ k q, k = 64 - q → q ≤ 64 → hz_W κ xX8_digest 0 0 0 P 0 0 384 [(13, .int (nI q)), (5, .int ((sh_rd w (sh_of v) q).1)), (6, .int ((sh_rd w (sh_of v) q).2.1)), (7, .int ((sh_rd w (sh_of v) q).2.2.1)), (8, .int ((sh_rd w (sh_of v) q).2.2.2.1)), (9, .int ((sh_rd w (sh_of v) q).2.2.2.2.1)), (10, .int ((sh_rd w (sh_of v) q).2.2.2.2.2.1)), (11, .int ((sh_rd w (sh_of v) q).2.2.2.2.2.2.1)), (12, .int ((sh_rd w (sh_of v) q).2.2.2.2.2.2.2)), (4, .int (nI fr)), (0, .ref s), (1, .ref b), (2, .int (nI at_)), (3, .int (nI n))] [] z (va_up (va_up M vA (.inl (0, 8, .inl (v)))) wA (.inl (0, 64, .inl (w)))) := by
  intro k
  induction k using Nat.strongRecOn with
  | ind k ih =>
  intro q hk hq
  refine hz_iload (pc := 384) 0 (hz_dec kX8_digest 226 rfl) rfl ?_
  refine hz_bipush (pc := 386) (v := nI 64) (hz_dec kX8_digest 227 rfl) (by decide) ?_
  refine hz_n_ge (pc := 388) (tgt := 558) (hz_dec kX8_digest 228 rfl) (by decide) (by omega) (by omega) (fun h1 => ?_) (fun h1 => ?_)
  · skip
    have e : q = 64 := by omega
    subst e
    refine hz_pick (pc := 558) [1, 2, 3, 4, 5, 6, 7, 8, 9, 10, 11, 12, 13] rfl ?_
    exact K
  · skip
    refine hz_iload (pc := 391) 8 (hz_dec kX8_digest 229 rfl) rfl ?_
    refine hz_iload (pc := 393) 5 (hz_dec kX8_digest 230 rfl) rfl ?_
    refine hz_bipush (pc := 395) (v := nI 6) (hz_dec kX8_digest 231 rfl) (by decide) ?_
    refine hz_iushr (pc := 397) (hz_dec kX8_digest 232 rfl) ?_
    refine hz_iload (pc := 398) 5 (hz_dec kX8_digest 233 rfl) rfl ?_
    refine hz_bipush (pc := 400) (v := nI 26) (hz_dec kX8_digest 234 rfl) (by decide) ?_
    refine hz_ishl (pc := 402) (hz_dec kX8_digest 235 rfl) ?_
    refine hz_ior (pc := 403) (hz_dec kX8_digest 236 rfl) ?_
    refine hz_iload (pc := 404) 5 (hz_dec kX8_digest 237 rfl) rfl ?_
    refine hz_bipush (pc := 406) (v := nI 11) (hz_dec kX8_digest 238 rfl) (by decide) ?_
    refine hz_iushr (pc := 408) (hz_dec kX8_digest 239 rfl) ?_
    refine hz_iload (pc := 409) 5 (hz_dec kX8_digest 240 rfl) rfl ?_
    refine hz_bipush (pc := 411) (v := nI 21) (hz_dec kX8_digest 241 rfl) (by decide) ?_
    refine hz_ishl (pc := 413) (hz_dec kX8_digest 242 rfl) ?_
    refine hz_ior (pc := 414) (hz_dec kX8_digest 243 rfl) ?_
    refine hz_ixor (pc := 415) (hz_dec kX8_digest 244 rfl) ?_
    refine hz_iload (pc := 416) 5 (hz_dec kX8_digest 245 rfl) rfl ?_
    refine hz_bipush (pc := 418) (v := nI 25) (hz_dec kX8_digest 246 rfl) (by decide) ?_
    refine hz_iushr (pc := 420) (hz_dec kX8_digest 247 rfl) ?_
    refine hz_iload (pc := 421) 5 (hz_dec kX8_digest 248 rfl) rfl ?_
    refine hz_bipush (pc := 423) (v := nI 7) (hz_dec kX8_digest 249 rfl) (by decide) ?_
    refine hz_ishl (pc := 425) (hz_dec kX8_digest 250 rfl) ?_
    refine hz_ior (pc := 426) (hz_dec kX8_digest 251 rfl) ?_
    refine hz_ixor (pc := 427) (hz_dec kX8_digest 252 rfl) ?_
    refine hz_iadd (pc := 428) (hz_dec kX8_digest 253 rfl) ?_
    refine hz_iload (pc := 429) 5 (hz_dec kX8_digest 254 rfl) rfl ?_
    refine hz_iload (pc := 431) 6 (hz_dec kX8_digest 255 rfl) rfl ?_
    refine hz_iand (pc := 433) (hz_dec kX8_digest 256 rfl) ?_
    refine hz_iload (pc := 434) 5 (hz_dec kX8_digest 257 rfl) rfl ?_
    refine hz_iconst (pc := 436) (v := (-1)) (hz_dec kX8_digest 258 rfl) (by decide) ?_
    refine hz_ixor (pc := 437) (hz_dec kX8_digest 259 rfl) ?_
    refine hz_iload (pc := 438) 7 (hz_dec kX8_digest 260 rfl) rfl ?_
    refine hz_iand (pc := 440) (hz_dec kX8_digest 261 rfl) ?_
    refine hz_ixor (pc := 441) (hz_dec kX8_digest 262 rfl) ?_
    refine hz_iadd (pc := 442) (hz_dec kX8_digest 263 rfl) ?_
    refine hz_gets (pc := 443) (k := 1) (hz_dec kX8_digest 264 rfl) (by decide) gs_X8_25 ?_
    refine hz_iload (pc := 446) 0 (hz_dec kX8_digest 265 rfl) rfl ?_
    refine hz_ialdS (pc := 448) (j := q) (hz_dec kX8_digest 266 rfl) (hz_mne (hz_mne (show M 1 = .inl (0, 64, .inl (hz_sf 1)) from hT 1 (by decide)) (by omega)) (by omega)) (by decide) rfl (by omega) (by decide) ?_
    refine hz_iadd (pc := 449) (hz_dec kX8_digest 267 rfl) ?_
    refine hz_aloadn (pc := 450) 10 (hz_dec kX8_digest 268 rfl) rfl ?_
    refine hz_get (pc := 451) (hz_dec kX8_digest 269 rfl) fo_X8_15 (hz_mne (hz_mne hS hne.2.1) hne.2.2.1) hb.1.1 hb.1.2 rfl ?_
    refine hz_iload (pc := 454) 0 (hz_dec kX8_digest 270 rfl) rfl ?_
    refine hz_iald (pc := 456) (j := q) (hz_dec kX8_digest 271 rfl) (va_up_self _ _ _) hb.2.2.1.1 hb.2.2.1.2 rfl (by omega) (by decide) ?_
    refine hz_iadd (pc := 457) (hz_dec kX8_digest 272 rfl) ?_
    refine hz_topi (pc := 458) (fun y1 ey1 => ?_)
    refine hz_istore (pc := 458) (i := 14) (lo2 := [(14, .int y1), (13, .int (nI q)), (5, .int ((sh_rd w (sh_of v) q).1)), (6, .int ((sh_rd w (sh_of v) q).2.1)), (7, .int ((sh_rd w (sh_of v) q).2.2.1)), (8, .int ((sh_rd w (sh_of v) q).2.2.2.1)), (9, .int ((sh_rd w (sh_of v) q).2.2.2.2.1)), (10, .int ((sh_rd w (sh_of v) q).2.2.2.2.2.1)), (11, .int ((sh_rd w (sh_of v) q).2.2.2.2.2.2.1)), (12, .int ((sh_rd w (sh_of v) q).2.2.2.2.2.2.2)), (4, .int (nI fr)), (0, .ref s), (1, .ref b), (2, .int (nI at_)), (3, .int (nI n))]) (hz_dec kX8_digest 273 rfl) (by decide) rfl ?_
    refine hz_iload (pc := 460) 2 (hz_dec kX8_digest 274 rfl) rfl ?_
    refine hz_iconst (pc := 462) (v := nI 2) (hz_dec kX8_digest 275 rfl) (by decide) ?_
    refine hz_iushr (pc := 463) (hz_dec kX8_digest 276 rfl) ?_
    refine hz_iload (pc := 464) 2 (hz_dec kX8_digest 277 rfl) rfl ?_
    refine hz_bipush (pc := 466) (v := nI 30) (hz_dec kX8_digest 278 rfl) (by decide) ?_
    refine hz_ishl (pc := 468) (hz_dec kX8_digest 279 rfl) ?_
    refine hz_ior (pc := 469) (hz_dec kX8_digest 280 rfl) ?_
    refine hz_iload (pc := 470) 2 (hz_dec kX8_digest 281 rfl) rfl ?_
    refine hz_bipush (pc := 472) (v := nI 13) (hz_dec kX8_digest 282 rfl) (by decide) ?_
    refine hz_iushr (pc := 474) (hz_dec kX8_digest 283 rfl) ?_
    refine hz_iload (pc := 475) 2 (hz_dec kX8_digest 284 rfl) rfl ?_
    refine hz_bipush (pc := 477) (v := nI 19) (hz_dec kX8_digest 285 rfl) (by decide) ?_
    refine hz_ishl (pc := 479) (hz_dec kX8_digest 286 rfl) ?_
    refine hz_ior (pc := 480) (hz_dec kX8_digest 287 rfl) ?_
    refine hz_ixor (pc := 481) (hz_dec kX8_digest 288 rfl) ?_
    refine hz_iload (pc := 482) 2 (hz_dec kX8_digest 289 rfl) rfl ?_
    refine hz_bipush (pc := 484) (v := nI 22) (hz_dec kX8_digest 290 rfl) (by decide) ?_
    refine hz_iushr (pc := 486) (hz_dec kX8_digest 291 rfl) ?_
    refine hz_iload (pc := 487) 2 (hz_dec kX8_digest 292 rfl) rfl ?_
    refine hz_bipush (pc := 489) (v := nI 10) (hz_dec kX8_digest 293 rfl) (by decide) ?_
    refine hz_ishl (pc := 491) (hz_dec kX8_digest 294 rfl) ?_
    refine hz_ior (pc := 492) (hz_dec kX8_digest 295 rfl) ?_
    refine hz_ixor (pc := 493) (hz_dec kX8_digest 296 rfl) ?_
    refine hz_iload (pc := 494) 2 (hz_dec kX8_digest 297 rfl) rfl ?_
    refine hz_iload (pc := 496) 3 (hz_dec kX8_digest 298 rfl) rfl ?_
    refine hz_iand (pc := 498) (hz_dec kX8_digest 299 rfl) ?_
    refine hz_iload (pc := 499) 2 (hz_dec kX8_digest 300 rfl) rfl ?_
    refine hz_iload (pc := 501) 4 (hz_dec kX8_digest 301 rfl) rfl ?_
    refine hz_iand (pc := 503) (hz_dec kX8_digest 302 rfl) ?_
    refine hz_ixor (pc := 504) (hz_dec kX8_digest 303 rfl) ?_
    refine hz_iload (pc := 505) 3 (hz_dec kX8_digest 304 rfl) rfl ?_
    refine hz_iload (pc := 507) 4 (hz_dec kX8_digest 305 rfl) rfl ?_
    refine hz_iand (pc := 509) (hz_dec kX8_digest 306 rfl) ?_
    refine hz_ixor (pc := 510) (hz_dec kX8_digest 307 rfl) ?_
    refine hz_iadd (pc := 511) (hz_dec kX8_digest 308 rfl) ?_
    refine hz_topi (pc := 512) (fun y2 ey2 => ?_)
    refine hz_istore (pc := 512) (i := 15) (lo2 := [(15, .int y2), (14, .int y1), (13, .int (nI q)), (5, .int ((sh_rd w (sh_of v) q).1)), (6, .int ((sh_rd w (sh_of v) q).2.1)), (7, .int ((sh_rd w (sh_of v) q).2.2.1)), (8, .int ((sh_rd w (sh_of v) q).2.2.2.1)), (9, .int ((sh_rd w (sh_of v) q).2.2.2.2.1)), (10, .int ((sh_rd w (sh_of v) q).2.2.2.2.2.1)), (11, .int ((sh_rd w (sh_of v) q).2.2.2.2.2.2.1)), (12, .int ((sh_rd w (sh_of v) q).2.2.2.2.2.2.2)), (4, .int (nI fr)), (0, .ref s), (1, .ref b), (2, .int (nI at_)), (3, .int (nI n))]) (hz_dec kX8_digest 309 rfl) (by decide) rfl ?_
    refine hz_iload (pc := 514) 9 (hz_dec kX8_digest 310 rfl) rfl ?_
    refine hz_istore (pc := 516) (i := 12) (lo2 := [(12, .int ((sh_rd w (sh_of v) q).2.2.2.2.2.2.1)), (15, .int y2), (14, .int y1), (13, .int (nI q)), (5, .int ((sh_rd w (sh_of v) q).1)), (6, .int ((sh_rd w (sh_of v) q).2.1)), (7, .int ((sh_rd w (sh_of v) q).2.2.1)), (8, .int ((sh_rd w (sh_of v) q).2.2.2.1)), (9, .int ((sh_rd w (sh_of v) q).2.2.2.2.1)), (10, .int ((sh_rd w (sh_of v) q).2.2.2.2.2.1)), (11, .int ((sh_rd w (sh_of v) q).2.2.2.2.2.2.1)), (4, .int (nI fr)), (0, .ref s), (1, .ref b), (2, .int (nI at_)), (3, .int (nI n))]) (hz_dec kX8_digest 311 rfl) (by decide) rfl ?_
    refine hz_iload (pc := 518) 9 (hz_dec kX8_digest 312 rfl) rfl ?_
    refine hz_istore (pc := 520) (i := 11) (lo2 := [(11, .int ((sh_rd w (sh_of v) q).2.2.2.2.2.1)), (12, .int ((sh_rd w (sh_of v) q).2.2.2.2.2.2.1)), (15, .int y2), (14, .int y1), (13, .int (nI q)), (5, .int ((sh_rd w (sh_of v) q).1)), (6, .int ((sh_rd w (sh_of v) q).2.1)), (7, .int ((sh_rd w (sh_of v) q).2.2.1)), (8, .int ((sh_rd w (sh_of v) q).2.2.2.1)), (9, .int ((sh_rd w (sh_of v) q).2.2.2.2.1)), (10, .int ((sh_rd w (sh_of v) q).2.2.2.2.2.1)), (4, .int (nI fr)), (0, .ref s), (1, .ref b), (2, .int (nI at_)), (3, .int (nI n))]) (hz_dec kX8_digest 313 rfl) (by decide) rfl ?_
    refine hz_iload (pc := 522) 9 (hz_dec kX8_digest 314 rfl) rfl ?_
    refine hz_istore (pc := 524) (i := 10) (lo2 := [(10, .int ((sh_rd w (sh_of v) q).2.2.2.2.1)), (11, .int ((sh_rd w (sh_of v) q).2.2.2.2.2.1)), (12, .int ((sh_rd w (sh_of v) q).2.2.2.2.2.2.1)), (15, .int y2), (14, .int y1), (13, .int (nI q)), (5, .int ((sh_rd w (sh_of v) q).1)), (6, .int ((sh_rd w (sh_of v) q).2.1)), (7, .int ((sh_rd w (sh_of v) q).2.2.1)), (8, .int ((sh_rd w (sh_of v) q).2.2.2.1)), (9, .int ((sh_rd w (sh_of v) q).2.2.2.2.1)), (4, .int (nI fr)), (0, .ref s), (1, .ref b), (2, .int (nI at_)), (3, .int (nI n))]) (hz_dec kX8_digest 315 rfl) (by decide) rfl ?_
    refine hz_iload (pc := 526) 9 (hz_dec kX8_digest 316 rfl) rfl ?_
    refine hz_iload (pc := 528) 4 (hz_dec kX8_digest 317 rfl) rfl ?_
    refine hz_iadd (pc := 530) (hz_dec kX8_digest 318 rfl) ?_
    refine hz_istore (pc := 531) (i := 9) (lo2 := [(9, .int (((sh_rd w (sh_of v) q).2.2.2.1) + (y1))), (10, .int ((sh_rd w (sh_of v) q).2.2.2.2.1)), (11, .int ((sh_rd w (sh_of v) q).2.2.2.2.2.1)), (12, .int ((sh_rd w (sh_of v) q).2.2.2.2.2.2.1)), (15, .int y2), (14, .int y1), (13, .int (nI q)), (5, .int ((sh_rd w (sh_of v) q).1)), (6, .int ((sh_rd w (sh_of v) q).2.1)), (7, .int ((sh_rd w (sh_of v) q).2.2.1)), (8, .int ((sh_rd w (sh_of v) q).2.2.2.1)), (4, .int (nI fr)), (0, .ref s), (1, .ref b), (2, .int (nI at_)), (3, .int (nI n))]) (hz_dec kX8_digest 319 rfl) (by decide) rfl ?_
    refine hz_iload (pc := 533) 9 (hz_dec kX8_digest 320 rfl) rfl ?_
    refine hz_istore (pc := 535) (i := 8) (lo2 := [(8, .int ((sh_rd w (sh_of v) q).2.2.1)), (9, .int (((sh_rd w (sh_of v) q).2.2.2.1) + (y1))), (10, .int ((sh_rd w (sh_of v) q).2.2.2.2.1)), (11, .int ((sh_rd w (sh_of v) q).2.2.2.2.2.1)), (12, .int ((sh_rd w (sh_of v) q).2.2.2.2.2.2.1)), (15, .int y2), (14, .int y1), (13, .int (nI q)), (5, .int ((sh_rd w (sh_of v) q).1)), (6, .int ((sh_rd w (sh_of v) q).2.1)), (7, .int ((sh_rd w (sh_of v) q).2.2.1)), (4, .int (nI fr)), (0, .ref s), (1, .ref b), (2, .int (nI at_)), (3, .int (nI n))]) (hz_dec kX8_digest 321 rfl) (by decide) rfl ?_
    refine hz_iload (pc := 537) 9 (hz_dec kX8_digest 322 rfl) rfl ?_
    refine hz_istore (pc := 539) (i := 7) (lo2 := [(7, .int ((sh_rd w (sh_of v) q).2.1)), (8, .int ((sh_rd w (sh_of v) q).2.2.1)), (9, .int (((sh_rd w (sh_of v) q).2.2.2.1) + (y1))), (10, .int ((sh_rd w (sh_of v) q).2.2.2.2.1)), (11, .int ((sh_rd w (sh_of v) q).2.2.2.2.2.1)), (12, .int ((sh_rd w (sh_of v) q).2.2.2.2.2.2.1)), (15, .int y2), (14, .int y1), (13, .int (nI q)), (5, .int ((sh_rd w (sh_of v) q).1)), (6, .int ((sh_rd w (sh_of v) q).2.1)), (4, .int (nI fr)), (0, .ref s), (1, .ref b), (2, .int (nI at_)), (3, .int (nI n))]) (hz_dec kX8_digest 323 rfl) (by decide) rfl ?_
    refine hz_iload (pc := 541) 9 (hz_dec kX8_digest 324 rfl) rfl ?_
    refine hz_istore (pc := 543) (i := 6) (lo2 := [(6, .int ((sh_rd w (sh_of v) q).1)), (7, .int ((sh_rd w (sh_of v) q).2.1)), (8, .int ((sh_rd w (sh_of v) q).2.2.1)), (9, .int (((sh_rd w (sh_of v) q).2.2.2.1) + (y1))), (10, .int ((sh_rd w (sh_of v) q).2.2.2.2.1)), (11, .int ((sh_rd w (sh_of v) q).2.2.2.2.2.1)), (12, .int ((sh_rd w (sh_of v) q).2.2.2.2.2.2.1)), (15, .int y2), (14, .int y1), (13, .int (nI q)), (5, .int ((sh_rd w (sh_of v) q).1)), (4, .int (nI fr)), (0, .ref s), (1, .ref b), (2, .int (nI at_)), (3, .int (nI n))]) (hz_dec kX8_digest 325 rfl) (by decide) rfl ?_
    refine hz_iload (pc := 545) 8 (hz_dec kX8_digest 326 rfl) rfl ?_
    refine hz_iload (pc := 547) 7 (hz_dec kX8_digest 327 rfl) rfl ?_
    refine hz_iadd (pc := 549) (hz_dec kX8_digest 328 rfl) ?_
    refine hz_istore (pc := 550) (i := 5) (lo2 := [(5, .int ((y1) + (y2))), (6, .int ((sh_rd w (sh_of v) q).1)), (7, .int ((sh_rd w (sh_of v) q).2.1)), (8, .int ((sh_rd w (sh_of v) q).2.2.1)), (9, .int (((sh_rd w (sh_of v) q).2.2.2.1) + (y1))), (10, .int ((sh_rd w (sh_of v) q).2.2.2.2.1)), (11, .int ((sh_rd w (sh_of v) q).2.2.2.2.2.1)), (12, .int ((sh_rd w (sh_of v) q).2.2.2.2.2.2.1)), (15, .int y2), (14, .int y1), (13, .int (nI q)), (4, .int (nI fr)), (0, .ref s), (1, .ref b), (2, .int (nI at_)), (3, .int (nI n))]) (hz_dec kX8_digest 329 rfl) (by decide) rfl ?_
    refine hz_incN (pc := 552) (i := 13) (lo2 := [(13, .int (nI (q + 1))), (5, .int ((y1) + (y2))), (6, .int ((sh_rd w (sh_of v) q).1)), (7, .int ((sh_rd w (sh_of v) q).2.1)), (8, .int ((sh_rd w (sh_of v) q).2.2.1)), (9, .int (((sh_rd w (sh_of v) q).2.2.2.1) + (y1))), (10, .int ((sh_rd w (sh_of v) q).2.2.2.2.1)), (11, .int ((sh_rd w (sh_of v) q).2.2.2.2.2.1)), (12, .int ((sh_rd w (sh_of v) q).2.2.2.2.2.2.1)), (15, .int y2), (14, .int y1), (4, .int (nI fr)), (0, .ref s), (1, .ref b), (2, .int (nI at_)), (3, .int (nI n))]) 10 (hz_dec kX8_digest 330 rfl) rfl (by decide) rfl ?_
    refine hz_goto (pc := 555) (tgt := 384) (hz_dec kX8_digest 331 rfl) (by decide) ?_
    refine hz_pick (pc := 384) [0, 1, 2, 3, 4, 5, 6, 7, 8, 11, 12, 13, 14, 15] rfl ?_
    subst ey1 ey2
    exact ih (64 - (q + 1)) (by omega) (q + 1) rfl (by omega)
set_option maxHeartbeats 4000000 in
set_option maxRecDepth 100000 in
theorem l_dg0 {κ : hz_C} {z : Nat} {P : hz_P} {M : hz_M} {s vA wA oA b nb at_ n : Nat} {fv fw f : Nat → Int32} (hS : M s = .inr (8, [.ref vA, .ref wA, .ref oA])) (hV : M vA = .inl (0, 8, .inl fv)) (hW : M wA = .inl (0, 64, .inl fw)) (hB : M b = .inl (1, nb, .inl f)) (hT : ∀ k, k < 4 → M k = hz_st k) (hb : (8 ≤ s ∧ s < z) ∧ (8 ≤ vA ∧ vA < z) ∧ (8 ≤ wA ∧ wA < z) ∧ 8 ≤ b ∧ b < z) (hn : nb < 2 ^ 24) (hr : at_ + n ≤ nb) (hne : vA ≠ wA ∧ s ≠ vA ∧ s ≠ wA ∧ b ≠ vA ∧ b ≠ wA) (K : ∀ v : Nat → Int32, (∀ j, j < 8 → v j = hz_sf 0 j) → hz_W κ xX8_digest 0 0 0 P 0 0 46 [(0, .ref s), (1, .ref b), (2, .int (nI at_)), (3, .int (nI n))] [] z (va_up M vA (.inl (0, 8, .inl (v))))) : ∀ k q v, k = 8 - q → q ≤ 8 → (∀ j, j < q → v j = hz_sf 0 j) → hz_W κ xX8_digest 0 0 0 P 0 0 20 [(4, .int (nI q)), (0, .ref s), (1, .ref b), (2, .int (nI at_)), (3, .int (nI n))] [] z (va_up M vA (.inl (0, 8, .inl (v)))) := by
  intro k
  induction k using Nat.strongRecOn with
  | ind k ih =>
  intro q v hk hq hv
  refine hz_iload (pc := 20) 0 (hz_dec kX8_digest 13 rfl) rfl ?_
  refine hz_bipush (pc := 22) (v := nI 8) (hz_dec kX8_digest 14 rfl) (by decide) ?_
  refine hz_n_ge (pc := 24) (tgt := 46) (hz_dec kX8_digest 15 rfl) (by decide) (by omega) (by omega) (fun h1 => ?_) (fun h1 => ?_)
  · skip
    have e : q = 8 := by omega
    subst e
    refine hz_pick (pc := 46) [1, 2, 3, 4] rfl ?_
    exact K v hv
  · skip
    refine hz_aloadn (pc := 27) 1 (hz_dec kX8_digest 16 rfl) rfl ?_
    refine hz_get (pc := 28) (hz_dec kX8_digest 17 rfl) fo_X8_9 (hz_mne hS hne.2.1) hb.1.1 hb.1.2 rfl ?_
    refine hz_iload (pc := 31) 0 (hz_dec kX8_digest 18 rfl) rfl ?_
    refine hz_gets (pc := 33) (k := 0) (hz_dec kX8_digest 19 rfl) (by decide) gs_X8_22 ?_
    refine hz_iload (pc := 36) 0 (hz_dec kX8_digest 20 rfl) rfl ?_
    refine hz_ialdS (pc := 38) (j := q) (hz_dec kX8_digest 21 rfl) (hz_mne (show M 0 = .inl (0, 8, .inl (hz_sf 0)) from hT 0 (by decide)) (by omega)) (by decide) rfl (by omega) (by decide) ?_
    refine hz_iast (pc := 39) (j := q) (hz_dec kX8_digest 22 rfl) (va_up_self _ _ _) hb.2.1.1 hb.2.1.2 rfl (by omega) (by decide) ?_
    refine hz_mem (pc := 40) (M2 := (va_up M vA (.inl (0, 8, .inl (upd v q (((hz_sf 0) q))))))) (bx_uu _ _ _ _) ?_
    refine hz_incN (pc := 40) (i := 4) (lo2 := [(4, .int (nI (q + 1))), (0, .ref s), (1, .ref b), (2, .int (nI at_)), (3, .int (nI n))]) 0 (hz_dec kX8_digest 23 rfl) rfl (by decide) rfl ?_
    refine hz_goto (pc := 43) (tgt := 20) (hz_dec kX8_digest 24 rfl) (by decide) ?_
    refine hz_pick (pc := 20) [0, 1, 2, 3, 4] rfl ?_
    refine ih (8 - (q + 1)) (by omega) (q + 1) _ rfl (by omega) (fun j hj => ?_)
    simp only [upd]
    split
    · next e => subst e; rfl
    · exact hv j (by omega)
theorem sh_val {v w : Nat → Int32} (s : sh_8) (hs : s = sh_rd (sh_ext w 48) (sh_of v) 64) : ∀ j, j < 8 → upd (upd (upd (upd (upd (upd (upd (upd v 0 (v 0 + s.1)) 1 (v 1 + s.2.1)) 2 (v 2 + s.2.2.1)) 3 (v 3 + s.2.2.2.1)) 4 (v 4 + s.2.2.2.2.1)) 5 (v 5 + s.2.2.2.2.2.1)) 6 (v 6 + s.2.2.2.2.2.2.1)) 7 (v 7 + s.2.2.2.2.2.2.2) j = sh_blk v w j := by
  intro j hj
  unfold sh_blk
  rw [← hs]
  rcases (show j = 0 ∨ j = 1 ∨ j = 2 ∨ j = 3 ∨ j = 4 ∨ j = 5 ∨ j = 6 ∨ j = 7 by omega) with rfl | rfl | rfl | rfl | rfl | rfl | rfl | rfl <;> simp [upd, sh_pr]
set_option maxHeartbeats 4000000 in
set_option maxRecDepth 100000 in
theorem l_dg1 {κ : hz_C} {z : Nat} {P : hz_P} {M : hz_M} {s vA wA oA b nb at_ n : Nat} {fv fw f : Nat → Int32} (hS : M s = .inr (8, [.ref vA, .ref wA, .ref oA])) (hV : M vA = .inl (0, 8, .inl fv)) (hW : M wA = .inl (0, 64, .inl fw)) (hB : M b = .inl (1, nb, .inl f)) (hT : ∀ k, k < 4 → M k = hz_st k) (hb : (8 ≤ s ∧ s < z) ∧ (8 ≤ vA ∧ vA < z) ∧ (8 ≤ wA ∧ wA < z) ∧ 8 ≤ b ∧ b < z) (hn : nb < 2 ^ 24) (hr : at_ + n ≤ nb) (hne : vA ≠ wA ∧ s ≠ vA ∧ s ≠ wA ∧ b ≠ vA ∧ b ≠ wA) {u v : Nat → Int32} {fr : Nat} (hf : fr < 2 ^ 25) (K : ∀ v2 u2 : Nat → Int32, (∀ j, j < 8 → v2 j = sh_blk v u j) → hz_W κ xX8_digest 0 0 0 P 0 0 49 [(4, .int (nI (fr + 64))), (0, .ref s), (1, .ref b), (2, .int (nI at_)), (3, .int (nI n))] [] z (va_up (va_up M vA (.inl (0, 8, .inl v2))) wA (.inl (0, 64, .inl u2)))) : hz_W κ xX8_digest 0 0 0 P 0 0 188 [(4, .int (nI fr)), (0, .ref s), (1, .ref b), (2, .int (nI at_)), (3, .int (nI n))] [] z (va_up (va_up M vA (.inl (0, 8, .inl (v)))) wA (.inl (0, 64, .inl (u)))) := by
  refine hz_bipush (pc := 188) (v := nI 16) (hz_dec kX8_digest 106 rfl) (by decide) ?_
  refine hz_istore (pc := 190) (i := 5) (lo2 := [(5, .int (nI 16)), (4, .int (nI fr)), (0, .ref s), (1, .ref b), (2, .int (nI at_)), (3, .int (nI n))]) (hz_dec kX8_digest 107 rfl) (by decide) rfl ?_
  refine hz_pick (pc := 192) [0, 1, 2, 3, 4, 5] rfl ?_
  refine l_dgS hS hV hW hB hT hb hn hr hne ?_ 48 0 rfl (by omega)
  refine hz_aloadn (pc := 315) 1 (hz_dec kX8_digest 184 rfl) rfl ?_
  refine hz_get (pc := 316) (hz_dec kX8_digest 185 rfl) fo_X8_9 (hz_mne (hz_mne hS hne.2.1) hne.2.2.1) hb.1.1 hb.1.2 rfl ?_
  refine hz_iconst (pc := 319) (v := nI 0) (hz_dec kX8_digest 186 rfl) (by decide) ?_
  refine hz_iald (pc := 320) (j := 0) (hz_dec kX8_digest 187 rfl) (hz_mne (va_up_self _ _ _) hne.1) hb.2.1.1 hb.2.1.2 rfl (by omega) (by decide) ?_
  refine hz_istore (pc := 321) (i := 5) (lo2 := [(5, .int (v 0)), (4, .int (nI fr)), (0, .ref s), (1, .ref b), (2, .int (nI at_)), (3, .int (nI n))]) (hz_dec kX8_digest 188 rfl) (by decide) rfl ?_
  refine hz_aloadn (pc := 323) 2 (hz_dec kX8_digest 189 rfl) rfl ?_
  refine hz_get (pc := 324) (hz_dec kX8_digest 190 rfl) fo_X8_9 (hz_mne (hz_mne hS hne.2.1) hne.2.2.1) hb.1.1 hb.1.2 rfl ?_
  refine hz_iconst (pc := 327) (v := nI 1) (hz_dec kX8_digest 191 rfl) (by decide) ?_
  refine hz_iald (pc := 328) (j := 1) (hz_dec kX8_digest 192 rfl) (hz_mne (va_up_self _ _ _) hne.1) hb.2.1.1 hb.2.1.2 rfl (by omega) (by decide) ?_
  refine hz_istore (pc := 329) (i := 6) (lo2 := [(6, .int (v 1)), (5, .int (v 0)), (4, .int (nI fr)), (0, .ref s), (1, .ref b), (2, .int (nI at_)), (3, .int (nI n))]) (hz_dec kX8_digest 193 rfl) (by decide) rfl ?_
  refine hz_aloadn (pc := 331) 3 (hz_dec kX8_digest 194 rfl) rfl ?_
  refine hz_get (pc := 332) (hz_dec kX8_digest 195 rfl) fo_X8_9 (hz_mne (hz_mne hS hne.2.1) hne.2.2.1) hb.1.1 hb.1.2 rfl ?_
  refine hz_iconst (pc := 335) (v := nI 2) (hz_dec kX8_digest 196 rfl) (by decide) ?_
  refine hz_iald (pc := 336) (j := 2) (hz_dec kX8_digest 197 rfl) (hz_mne (va_up_self _ _ _) hne.1) hb.2.1.1 hb.2.1.2 rfl (by omega) (by decide) ?_
  refine hz_istore (pc := 337) (i := 7) (lo2 := [(7, .int (v 2)), (6, .int (v 1)), (5, .int (v 0)), (4, .int (nI fr)), (0, .ref s), (1, .ref b), (2, .int (nI at_)), (3, .int (nI n))]) (hz_dec kX8_digest 198 rfl) (by decide) rfl ?_
  refine hz_aloadn (pc := 339) 4 (hz_dec kX8_digest 199 rfl) rfl ?_
  refine hz_get (pc := 340) (hz_dec kX8_digest 200 rfl) fo_X8_9 (hz_mne (hz_mne hS hne.2.1) hne.2.2.1) hb.1.1 hb.1.2 rfl ?_
  refine hz_iconst (pc := 343) (v := nI 3) (hz_dec kX8_digest 201 rfl) (by decide) ?_
  refine hz_iald (pc := 344) (j := 3) (hz_dec kX8_digest 202 rfl) (hz_mne (va_up_self _ _ _) hne.1) hb.2.1.1 hb.2.1.2 rfl (by omega) (by decide) ?_
  refine hz_istore (pc := 345) (i := 8) (lo2 := [(8, .int (v 3)), (7, .int (v 2)), (6, .int (v 1)), (5, .int (v 0)), (4, .int (nI fr)), (0, .ref s), (1, .ref b), (2, .int (nI at_)), (3, .int (nI n))]) (hz_dec kX8_digest 203 rfl) (by decide) rfl ?_
  refine hz_aloadn (pc := 347) 5 (hz_dec kX8_digest 204 rfl) rfl ?_
  refine hz_get (pc := 348) (hz_dec kX8_digest 205 rfl) fo_X8_9 (hz_mne (hz_mne hS hne.2.1) hne.2.2.1) hb.1.1 hb.1.2 rfl ?_
  refine hz_iconst (pc := 351) (v := nI 4) (hz_dec kX8_digest 206 rfl) (by decide) ?_
  refine hz_iald (pc := 352) (j := 4) (hz_dec kX8_digest 207 rfl) (hz_mne (va_up_self _ _ _) hne.1) hb.2.1.1 hb.2.1.2 rfl (by omega) (by decide) ?_
  refine hz_istore (pc := 353) (i := 9) (lo2 := [(9, .int (v 4)), (8, .int (v 3)), (7, .int (v 2)), (6, .int (v 1)), (5, .int (v 0)), (4, .int (nI fr)), (0, .ref s), (1, .ref b), (2, .int (nI at_)), (3, .int (nI n))]) (hz_dec kX8_digest 208 rfl) (by decide) rfl ?_
  refine hz_aloadn (pc := 355) 6 (hz_dec kX8_digest 209 rfl) rfl ?_
  refine hz_get (pc := 356) (hz_dec kX8_digest 210 rfl) fo_X8_9 (hz_mne (hz_mne hS hne.2.1) hne.2.2.1) hb.1.1 hb.1.2 rfl ?_
  refine hz_iconst (pc := 359) (v := nI 5) (hz_dec kX8_digest 211 rfl) (by decide) ?_
  refine hz_iald (pc := 360) (j := 5) (hz_dec kX8_digest 212 rfl) (hz_mne (va_up_self _ _ _) hne.1) hb.2.1.1 hb.2.1.2 rfl (by omega) (by decide) ?_
  refine hz_istore (pc := 361) (i := 10) (lo2 := [(10, .int (v 5)), (9, .int (v 4)), (8, .int (v 3)), (7, .int (v 2)), (6, .int (v 1)), (5, .int (v 0)), (4, .int (nI fr)), (0, .ref s), (1, .ref b), (2, .int (nI at_)), (3, .int (nI n))]) (hz_dec kX8_digest 213 rfl) (by decide) rfl ?_
  refine hz_aloadn (pc := 363) 7 (hz_dec kX8_digest 214 rfl) rfl ?_
  refine hz_get (pc := 364) (hz_dec kX8_digest 215 rfl) fo_X8_9 (hz_mne (hz_mne hS hne.2.1) hne.2.2.1) hb.1.1 hb.1.2 rfl ?_
  refine hz_bipush (pc := 367) (v := nI 6) (hz_dec kX8_digest 216 rfl) (by decide) ?_
  refine hz_iald (pc := 369) (j := 6) (hz_dec kX8_digest 217 rfl) (hz_mne (va_up_self _ _ _) hne.1) hb.2.1.1 hb.2.1.2 rfl (by omega) (by decide) ?_
  refine hz_istore (pc := 370) (i := 11) (lo2 := [(11, .int (v 6)), (10, .int (v 5)), (9, .int (v 4)), (8, .int (v 3)), (7, .int (v 2)), (6, .int (v 1)), (5, .int (v 0)), (4, .int (nI fr)), (0, .ref s), (1, .ref b), (2, .int (nI at_)), (3, .int (nI n))]) (hz_dec kX8_digest 218 rfl) (by decide) rfl ?_
  refine hz_aloadn (pc := 372) 8 (hz_dec kX8_digest 219 rfl) rfl ?_
  refine hz_get (pc := 373) (hz_dec kX8_digest 220 rfl) fo_X8_9 (hz_mne (hz_mne hS hne.2.1) hne.2.2.1) hb.1.1 hb.1.2 rfl ?_
  refine hz_bipush (pc := 376) (v := nI 7) (hz_dec kX8_digest 221 rfl) (by decide) ?_
  refine hz_iald (pc := 378) (j := 7) (hz_dec kX8_digest 222 rfl) (hz_mne (va_up_self _ _ _) hne.1) hb.2.1.1 hb.2.1.2 rfl (by omega) (by decide) ?_
  refine hz_istore (pc := 379) (i := 12) (lo2 := [(12, .int (v 7)), (11, .int (v 6)), (10, .int (v 5)), (9, .int (v 4)), (8, .int (v 3)), (7, .int (v 2)), (6, .int (v 1)), (5, .int (v 0)), (4, .int (nI fr)), (0, .ref s), (1, .ref b), (2, .int (nI at_)), (3, .int (nI n))]) (hz_dec kX8_digest 223 rfl) (by decide) rfl ?_
  refine hz_iconst (pc := 381) (v := nI 0) (hz_dec kX8_digest 224 rfl) (by decide) ?_
  refine hz_istore (pc := 382) (i := 13) (lo2 := [(13, .int (nI 0)), (12, .int (v 7)), (11, .int (v 6)), (10, .int (v 5)), (9, .int (v 4)), (8, .int (v 3)), (7, .int (v 2)), (6, .int (v 1)), (5, .int (v 0)), (4, .int (nI fr)), (0, .ref s), (1, .ref b), (2, .int (nI at_)), (3, .int (nI n))]) (hz_dec kX8_digest 225 rfl) (by decide) rfl ?_
  refine hz_pick (pc := 384) [0, 8, 7, 6, 5, 4, 3, 2, 1, 9, 10, 11, 12, 13] rfl ?_
  refine l_dgR hS hV hW hB hT hb hn hr hne (w := sh_ext u 48) (v := v) ?_ 64 0 rfl (by omega)
  generalize hs : sh_rd (sh_ext u 48) (sh_of v) 64 = s8
  refine hz_aloadn (pc := 558) 9 (hz_dec kX8_digest 332 rfl) rfl ?_
  refine hz_get (pc := 559) (hz_dec kX8_digest 333 rfl) fo_X8_9 (hz_mne (hz_mne hS hne.2.1) hne.2.2.1) hb.1.1 hb.1.2 rfl ?_
  refine hz_iconst (pc := 562) (v := nI 0) (hz_dec kX8_digest 334 rfl) (by decide) ?_
  refine hz_dup2 (pc := 563) (hz_dec kX8_digest 335 rfl) rfl rfl ?_
  refine hz_iald (pc := 564) (j := 0) (hz_dec kX8_digest 336 rfl) (hz_mne (va_up_self _ _ _) hne.1) hb.2.1.1 hb.2.1.2 rfl (by omega) (by decide) ?_
  refine hz_iload (pc := 565) 0 (hz_dec kX8_digest 337 rfl) rfl ?_
  refine hz_iadd (pc := 567) (hz_dec kX8_digest 338 rfl) ?_
  refine hz_iast (pc := 568) (j := 0) (hz_dec kX8_digest 339 rfl) (hz_mne (va_up_self _ _ _) hne.1) hb.2.1.1 hb.2.1.2 rfl (by omega) (by decide) ?_
  refine hz_mem (pc := 569) (M2 := (va_up (va_up M vA (.inl (0, 8, .inl (upd v 0 (((v 0) + (s8.1))))))) wA (.inl (0, 64, .inl (sh_ext u 48))))) (hz_upc hne.1) ?_
  refine hz_aloadn (pc := 569) 9 (hz_dec kX8_digest 340 rfl) rfl ?_
  refine hz_get (pc := 570) (hz_dec kX8_digest 341 rfl) fo_X8_9 (hz_mne (hz_mne hS hne.2.1) hne.2.2.1) hb.1.1 hb.1.2 rfl ?_
  refine hz_iconst (pc := 573) (v := nI 1) (hz_dec kX8_digest 342 rfl) (by decide) ?_
  refine hz_dup2 (pc := 574) (hz_dec kX8_digest 343 rfl) rfl rfl ?_
  refine hz_iald (pc := 575) (j := 1) (hz_dec kX8_digest 344 rfl) (hz_mne (va_up_self _ _ _) hne.1) hb.2.1.1 hb.2.1.2 rfl (by omega) (by decide) ?_
  refine hz_iload (pc := 576) 1 (hz_dec kX8_digest 345 rfl) rfl ?_
  refine hz_iadd (pc := 578) (hz_dec kX8_digest 346 rfl) ?_
  refine hz_iast (pc := 579) (j := 1) (hz_dec kX8_digest 347 rfl) (hz_mne (va_up_self _ _ _) hne.1) hb.2.1.1 hb.2.1.2 rfl (by omega) (by decide) ?_
  refine hz_mem (pc := 580) (M2 := (va_up (va_up M vA (.inl (0, 8, .inl (upd (upd v 0 (((v 0) + (s8.1)))) 1 ((((upd v 0 (((v 0) + (s8.1)))) 1) + (s8.2.1))))))) wA (.inl (0, 64, .inl (sh_ext u 48))))) (hz_upc hne.1) ?_
  refine hz_aloadn (pc := 580) 9 (hz_dec kX8_digest 348 rfl) rfl ?_
  refine hz_get (pc := 581) (hz_dec kX8_digest 349 rfl) fo_X8_9 (hz_mne (hz_mne hS hne.2.1) hne.2.2.1) hb.1.1 hb.1.2 rfl ?_
  refine hz_iconst (pc := 584) (v := nI 2) (hz_dec kX8_digest 350 rfl) (by decide) ?_
  refine hz_dup2 (pc := 585) (hz_dec kX8_digest 351 rfl) rfl rfl ?_
  refine hz_iald (pc := 586) (j := 2) (hz_dec kX8_digest 352 rfl) (hz_mne (va_up_self _ _ _) hne.1) hb.2.1.1 hb.2.1.2 rfl (by omega) (by decide) ?_
  refine hz_iload (pc := 587) 2 (hz_dec kX8_digest 353 rfl) rfl ?_
  refine hz_iadd (pc := 589) (hz_dec kX8_digest 354 rfl) ?_
  refine hz_iast (pc := 590) (j := 2) (hz_dec kX8_digest 355 rfl) (hz_mne (va_up_self _ _ _) hne.1) hb.2.1.1 hb.2.1.2 rfl (by omega) (by decide) ?_
  refine hz_mem (pc := 591) (M2 := (va_up (va_up M vA (.inl (0, 8, .inl (upd (upd (upd v 0 (((v 0) + (s8.1)))) 1 ((((upd v 0 (((v 0) + (s8.1)))) 1) + (s8.2.1)))) 2 ((((upd (upd v 0 (((v 0) + (s8.1)))) 1 ((((upd v 0 (((v 0) + (s8.1)))) 1) + (s8.2.1)))) 2) + (s8.2.2.1))))))) wA (.inl (0, 64, .inl (sh_ext u 48))))) (hz_upc hne.1) ?_
  refine hz_aloadn (pc := 591) 9 (hz_dec kX8_digest 356 rfl) rfl ?_
  refine hz_get (pc := 592) (hz_dec kX8_digest 357 rfl) fo_X8_9 (hz_mne (hz_mne hS hne.2.1) hne.2.2.1) hb.1.1 hb.1.2 rfl ?_
  refine hz_iconst (pc := 595) (v := nI 3) (hz_dec kX8_digest 358 rfl) (by decide) ?_
  refine hz_dup2 (pc := 596) (hz_dec kX8_digest 359 rfl) rfl rfl ?_
  refine hz_iald (pc := 597) (j := 3) (hz_dec kX8_digest 360 rfl) (hz_mne (va_up_self _ _ _) hne.1) hb.2.1.1 hb.2.1.2 rfl (by omega) (by decide) ?_
  refine hz_iload (pc := 598) 3 (hz_dec kX8_digest 361 rfl) rfl ?_
  refine hz_iadd (pc := 600) (hz_dec kX8_digest 362 rfl) ?_
  refine hz_iast (pc := 601) (j := 3) (hz_dec kX8_digest 363 rfl) (hz_mne (va_up_self _ _ _) hne.1) hb.2.1.1 hb.2.1.2 rfl (by omega) (by decide) ?_
  refine hz_mem (pc := 602) (M2 := (va_up (va_up M vA (.inl (0, 8, .inl (upd (upd (upd (upd v 0 (((v 0) + (s8.1)))) 1 ((((upd v 0 (((v 0) + (s8.1)))) 1) + (s8.2.1)))) 2 ((((upd (upd v 0 (((v 0) + (s8.1)))) 1 ((((upd v 0 (((v 0) + (s8.1)))) 1) + (s8.2.1)))) 2) + (s8.2.2.1)))) 3 ((((upd (upd (upd v 0 (((v 0) + (s8.1)))) 1 ((((upd v 0 (((v 0) + (s8.1)))) 1) + (s8.2.1)))) 2 ((((upd (upd v 0 (((v 0) + (s8.1)))) 1 ((((upd v 0 (((v 0) + (s8.1)))) 1) + (s8.2.1)))) 2) + (s8.2.2.1)))) 3) + (s8.2.2.2.1))))))) wA (.inl (0, 64, .inl (sh_ext u 48))))) (hz_upc hne.1) ?_
  refine hz_aloadn (pc := 602) 9 (hz_dec kX8_digest 364 rfl) rfl ?_
  refine hz_get (pc := 603) (hz_dec kX8_digest 365 rfl) fo_X8_9 (hz_mne (hz_mne hS hne.2.1) hne.2.2.1) hb.1.1 hb.1.2 rfl ?_
  refine hz_iconst (pc := 606) (v := nI 4) (hz_dec kX8_digest 366 rfl) (by decide) ?_
  refine hz_dup2 (pc := 607) (hz_dec kX8_digest 367 rfl) rfl rfl ?_
  refine hz_iald (pc := 608) (j := 4) (hz_dec kX8_digest 368 rfl) (hz_mne (va_up_self _ _ _) hne.1) hb.2.1.1 hb.2.1.2 rfl (by omega) (by decide) ?_
  refine hz_iload (pc := 609) 4 (hz_dec kX8_digest 369 rfl) rfl ?_
  refine hz_iadd (pc := 611) (hz_dec kX8_digest 370 rfl) ?_
  refine hz_iast (pc := 612) (j := 4) (hz_dec kX8_digest 371 rfl) (hz_mne (va_up_self _ _ _) hne.1) hb.2.1.1 hb.2.1.2 rfl (by omega) (by decide) ?_
  refine hz_mem (pc := 613) (M2 := (va_up (va_up M vA (.inl (0, 8, .inl (upd (upd (upd (upd (upd v 0 (((v 0) + (s8.1)))) 1 ((((upd v 0 (((v 0) + (s8.1)))) 1) + (s8.2.1)))) 2 ((((upd (upd v 0 (((v 0) + (s8.1)))) 1 ((((upd v 0 (((v 0) + (s8.1)))) 1) + (s8.2.1)))) 2) + (s8.2.2.1)))) 3 ((((upd (upd (upd v 0 (((v 0) + (s8.1)))) 1 ((((upd v 0 (((v 0) + (s8.1)))) 1) + (s8.2.1)))) 2 ((((upd (upd v 0 (((v 0) + (s8.1)))) 1 ((((upd v 0 (((v 0) + (s8.1)))) 1) + (s8.2.1)))) 2) + (s8.2.2.1)))) 3) + (s8.2.2.2.1)))) 4 ((((upd (upd (upd (upd v 0 (((v 0) + (s8.1)))) 1 ((((upd v 0 (((v 0) + (s8.1)))) 1) + (s8.2.1)))) 2 ((((upd (upd v 0 (((v 0) + (s8.1)))) 1 ((((upd v 0 (((v 0) + (s8.1)))) 1) + (s8.2.1)))) 2) + (s8.2.2.1)))) 3 ((((upd (upd (upd v 0 (((v 0) + (s8.1)))) 1 ((((upd v 0 (((v 0) + (s8.1)))) 1) + (s8.2.1)))) 2 ((((upd (upd v 0 (((v 0) + (s8.1)))) 1 ((((upd v 0 (((v 0) + (s8.1)))) 1) + (s8.2.1)))) 2) + (s8.2.2.1)))) 3) + (s8.2.2.2.1)))) 4) + (s8.2.2.2.2.1))))))) wA (.inl (0, 64, .inl (sh_ext u 48))))) (hz_upc hne.1) ?_
  refine hz_aloadn (pc := 613) 9 (hz_dec kX8_digest 372 rfl) rfl ?_
  refine hz_get (pc := 614) (hz_dec kX8_digest 373 rfl) fo_X8_9 (hz_mne (hz_mne hS hne.2.1) hne.2.2.1) hb.1.1 hb.1.2 rfl ?_
  refine hz_iconst (pc := 617) (v := nI 5) (hz_dec kX8_digest 374 rfl) (by decide) ?_
  refine hz_dup2 (pc := 618) (hz_dec kX8_digest 375 rfl) rfl rfl ?_
  refine hz_iald (pc := 619) (j := 5) (hz_dec kX8_digest 376 rfl) (hz_mne (va_up_self _ _ _) hne.1) hb.2.1.1 hb.2.1.2 rfl (by omega) (by decide) ?_
  refine hz_iload (pc := 620) 5 (hz_dec kX8_digest 377 rfl) rfl ?_
  refine hz_iadd (pc := 622) (hz_dec kX8_digest 378 rfl) ?_
  refine hz_iast (pc := 623) (j := 5) (hz_dec kX8_digest 379 rfl) (hz_mne (va_up_self _ _ _) hne.1) hb.2.1.1 hb.2.1.2 rfl (by omega) (by decide) ?_
  refine hz_mem (pc := 624) (M2 := (va_up (va_up M vA (.inl (0, 8, .inl (upd (upd (upd (upd (upd (upd v 0 (((v 0) + (s8.1)))) 1 ((((upd v 0 (((v 0) + (s8.1)))) 1) + (s8.2.1)))) 2 ((((upd (upd v 0 (((v 0) + (s8.1)))) 1 ((((upd v 0 (((v 0) + (s8.1)))) 1) + (s8.2.1)))) 2) + (s8.2.2.1)))) 3 ((((upd (upd (upd v 0 (((v 0) + (s8.1)))) 1 ((((upd v 0 (((v 0) + (s8.1)))) 1) + (s8.2.1)))) 2 ((((upd (upd v 0 (((v 0) + (s8.1)))) 1 ((((upd v 0 (((v 0) + (s8.1)))) 1) + (s8.2.1)))) 2) + (s8.2.2.1)))) 3) + (s8.2.2.2.1)))) 4 ((((upd (upd (upd (upd v 0 (((v 0) + (s8.1)))) 1 ((((upd v 0 (((v 0) + (s8.1)))) 1) + (s8.2.1)))) 2 ((((upd (upd v 0 (((v 0) + (s8.1)))) 1 ((((upd v 0 (((v 0) + (s8.1)))) 1) + (s8.2.1)))) 2) + (s8.2.2.1)))) 3 ((((upd (upd (upd v 0 (((v 0) + (s8.1)))) 1 ((((upd v 0 (((v 0) + (s8.1)))) 1) + (s8.2.1)))) 2 ((((upd (upd v 0 (((v 0) + (s8.1)))) 1 ((((upd v 0 (((v 0) + (s8.1)))) 1) + (s8.2.1)))) 2) + (s8.2.2.1)))) 3) + (s8.2.2.2.1)))) 4) + (s8.2.2.2.2.1)))) 5 ((((upd (upd (upd (upd (upd v 0 (((v 0) + (s8.1)))) 1 ((((upd v 0 (((v 0) + (s8.1)))) 1) + (s8.2.1)))) 2 ((((upd (upd v 0 (((v 0) + (s8.1)))) 1 ((((upd v 0 (((v 0) + (s8.1)))) 1) + (s8.2.1)))) 2) + (s8.2.2.1)))) 3 ((((upd (upd (upd v 0 (((v 0) + (s8.1)))) 1 ((((upd v 0 (((v 0) + (s8.1)))) 1) + (s8.2.1)))) 2 ((((upd (upd v 0 (((v 0) + (s8.1)))) 1 ((((upd v 0 (((v 0) + (s8.1)))) 1) + (s8.2.1)))) 2) + (s8.2.2.1)))) 3) + (s8.2.2.2.1)))) 4 ((((upd (upd (upd (upd v 0 (((v 0) + (s8.1)))) 1 ((((upd v 0 (((v 0) + (s8.1)))) 1) + (s8.2.1)))) 2 ((((upd (upd v 0 (((v 0) + (s8.1)))) 1 ((((upd v 0 (((v 0) + (s8.1)))) 1) + (s8.2.1)))) 2) + (s8.2.2.1)))) 3 ((((upd (upd (upd v 0 (((v 0) + (s8.1)))) 1 ((((upd v 0 (((v 0) + (s8.1)))) 1) + (s8.2.1)))) 2 ((((upd (upd v 0 (((v 0) + (s8.1)))) 1 ((((upd v 0 (((v 0) + (s8.1)))) 1) + (s8.2.1)))) 2) + (s8.2.2.1)))) 3) + (s8.2.2.2.1)))) 4) + (s8.2.2.2.2.1)))) 5) + (s8.2.2.2.2.2.1))))))) wA (.inl (0, 64, .inl (sh_ext u 48))))) (hz_upc hne.1) ?_
  refine hz_aloadn (pc := 624) 9 (hz_dec kX8_digest 380 rfl) rfl ?_
  refine hz_get (pc := 625) (hz_dec kX8_digest 381 rfl) fo_X8_9 (hz_mne (hz_mne hS hne.2.1) hne.2.2.1) hb.1.1 hb.1.2 rfl ?_
  refine hz_bipush (pc := 628) (v := nI 6) (hz_dec kX8_digest 382 rfl) (by decide) ?_
  refine hz_dup2 (pc := 630) (hz_dec kX8_digest 383 rfl) rfl rfl ?_
  refine hz_iald (pc := 631) (j := 6) (hz_dec kX8_digest 384 rfl) (hz_mne (va_up_self _ _ _) hne.1) hb.2.1.1 hb.2.1.2 rfl (by omega) (by decide) ?_
  refine hz_iload (pc := 632) 6 (hz_dec kX8_digest 385 rfl) rfl ?_
  refine hz_iadd (pc := 634) (hz_dec kX8_digest 386 rfl) ?_
  refine hz_iast (pc := 635) (j := 6) (hz_dec kX8_digest 387 rfl) (hz_mne (va_up_self _ _ _) hne.1) hb.2.1.1 hb.2.1.2 rfl (by omega) (by decide) ?_
  refine hz_mem (pc := 636) (M2 := (va_up (va_up M vA (.inl (0, 8, .inl (upd (upd (upd (upd (upd (upd (upd v 0 (((v 0) + (s8.1)))) 1 ((((upd v 0 (((v 0) + (s8.1)))) 1) + (s8.2.1)))) 2 ((((upd (upd v 0 (((v 0) + (s8.1)))) 1 ((((upd v 0 (((v 0) + (s8.1)))) 1) + (s8.2.1)))) 2) + (s8.2.2.1)))) 3 ((((upd (upd (upd v 0 (((v 0) + (s8.1)))) 1 ((((upd v 0 (((v 0) + (s8.1)))) 1) + (s8.2.1)))) 2 ((((upd (upd v 0 (((v 0) + (s8.1)))) 1 ((((upd v 0 (((v 0) + (s8.1)))) 1) + (s8.2.1)))) 2) + (s8.2.2.1)))) 3) + (s8.2.2.2.1)))) 4 ((((upd (upd (upd (upd v 0 (((v 0) + (s8.1)))) 1 ((((upd v 0 (((v 0) + (s8.1)))) 1) + (s8.2.1)))) 2 ((((upd (upd v 0 (((v 0) + (s8.1)))) 1 ((((upd v 0 (((v 0) + (s8.1)))) 1) + (s8.2.1)))) 2) + (s8.2.2.1)))) 3 ((((upd (upd (upd v 0 (((v 0) + (s8.1)))) 1 ((((upd v 0 (((v 0) + (s8.1)))) 1) + (s8.2.1)))) 2 ((((upd (upd v 0 (((v 0) + (s8.1)))) 1 ((((upd v 0 (((v 0) + (s8.1)))) 1) + (s8.2.1)))) 2) + (s8.2.2.1)))) 3) + (s8.2.2.2.1)))) 4) + (s8.2.2.2.2.1)))) 5 ((((upd (upd (upd (upd (upd v 0 (((v 0) + (s8.1)))) 1 ((((upd v 0 (((v 0) + (s8.1)))) 1) + (s8.2.1)))) 2 ((((upd (upd v 0 (((v 0) + (s8.1)))) 1 ((((upd v 0 (((v 0) + (s8.1)))) 1) + (s8.2.1)))) 2) + (s8.2.2.1)))) 3 ((((upd (upd (upd v 0 (((v 0) + (s8.1)))) 1 ((((upd v 0 (((v 0) + (s8.1)))) 1) + (s8.2.1)))) 2 ((((upd (upd v 0 (((v 0) + (s8.1)))) 1 ((((upd v 0 (((v 0) + (s8.1)))) 1) + (s8.2.1)))) 2) + (s8.2.2.1)))) 3) + (s8.2.2.2.1)))) 4 ((((upd (upd (upd (upd v 0 (((v 0) + (s8.1)))) 1 ((((upd v 0 (((v 0) + (s8.1)))) 1) + (s8.2.1)))) 2 ((((upd (upd v 0 (((v 0) + (s8.1)))) 1 ((((upd v 0 (((v 0) + (s8.1)))) 1) + (s8.2.1)))) 2) + (s8.2.2.1)))) 3 ((((upd (upd (upd v 0 (((v 0) + (s8.1)))) 1 ((((upd v 0 (((v 0) + (s8.1)))) 1) + (s8.2.1)))) 2 ((((upd (upd v 0 (((v 0) + (s8.1)))) 1 ((((upd v 0 (((v 0) + (s8.1)))) 1) + (s8.2.1)))) 2) + (s8.2.2.1)))) 3) + (s8.2.2.2.1)))) 4) + (s8.2.2.2.2.1)))) 5) + (s8.2.2.2.2.2.1)))) 6 ((((upd (upd (upd (upd (upd (upd v 0 (((v 0) + (s8.1)))) 1 ((((upd v 0 (((v 0) + (s8.1)))) 1) + (s8.2.1)))) 2 ((((upd (upd v 0 (((v 0) + (s8.1)))) 1 ((((upd v 0 (((v 0) + (s8.1)))) 1) + (s8.2.1)))) 2) + (s8.2.2.1)))) 3 ((((upd (upd (upd v 0 (((v 0) + (s8.1)))) 1 ((((upd v 0 (((v 0) + (s8.1)))) 1) + (s8.2.1)))) 2 ((((upd (upd v 0 (((v 0) + (s8.1)))) 1 ((((upd v 0 (((v 0) + (s8.1)))) 1) + (s8.2.1)))) 2) + (s8.2.2.1)))) 3) + (s8.2.2.2.1)))) 4 ((((upd (upd (upd (upd v 0 (((v 0) + (s8.1)))) 1 ((((upd v 0 (((v 0) + (s8.1)))) 1) + (s8.2.1)))) 2 ((((upd (upd v 0 (((v 0) + (s8.1)))) 1 ((((upd v 0 (((v 0) + (s8.1)))) 1) + (s8.2.1)))) 2) + (s8.2.2.1)))) 3 ((((upd (upd (upd v 0 (((v 0) + (s8.1)))) 1 ((((upd v 0 (((v 0) + (s8.1)))) 1) + (s8.2.1)))) 2 ((((upd (upd v 0 (((v 0) + (s8.1)))) 1 ((((upd v 0 (((v 0) + (s8.1)))) 1) + (s8.2.1)))) 2) + (s8.2.2.1)))) 3) + (s8.2.2.2.1)))) 4) + (s8.2.2.2.2.1)))) 5 ((((upd (upd (upd (upd (upd v 0 (((v 0) + (s8.1)))) 1 ((((upd v 0 (((v 0) + (s8.1)))) 1) + (s8.2.1)))) 2 ((((upd (upd v 0 (((v 0) + (s8.1)))) 1 ((((upd v 0 (((v 0) + (s8.1)))) 1) + (s8.2.1)))) 2) + (s8.2.2.1)))) 3 ((((upd (upd (upd v 0 (((v 0) + (s8.1)))) 1 ((((upd v 0 (((v 0) + (s8.1)))) 1) + (s8.2.1)))) 2 ((((upd (upd v 0 (((v 0) + (s8.1)))) 1 ((((upd v 0 (((v 0) + (s8.1)))) 1) + (s8.2.1)))) 2) + (s8.2.2.1)))) 3) + (s8.2.2.2.1)))) 4 ((((upd (upd (upd (upd v 0 (((v 0) + (s8.1)))) 1 ((((upd v 0 (((v 0) + (s8.1)))) 1) + (s8.2.1)))) 2 ((((upd (upd v 0 (((v 0) + (s8.1)))) 1 ((((upd v 0 (((v 0) + (s8.1)))) 1) + (s8.2.1)))) 2) + (s8.2.2.1)))) 3 ((((upd (upd (upd v 0 (((v 0) + (s8.1)))) 1 ((((upd v 0 (((v 0) + (s8.1)))) 1) + (s8.2.1)))) 2 ((((upd (upd v 0 (((v 0) + (s8.1)))) 1 ((((upd v 0 (((v 0) + (s8.1)))) 1) + (s8.2.1)))) 2) + (s8.2.2.1)))) 3) + (s8.2.2.2.1)))) 4) + (s8.2.2.2.2.1)))) 5) + (s8.2.2.2.2.2.1)))) 6) + (s8.2.2.2.2.2.2.1))))))) wA (.inl (0, 64, .inl (sh_ext u 48))))) (hz_upc hne.1) ?_
  refine hz_aloadn (pc := 636) 9 (hz_dec kX8_digest 388 rfl) rfl ?_
  refine hz_get (pc := 637) (hz_dec kX8_digest 389 rfl) fo_X8_9 (hz_mne (hz_mne hS hne.2.1) hne.2.2.1) hb.1.1 hb.1.2 rfl ?_
  refine hz_bipush (pc := 640) (v := nI 7) (hz_dec kX8_digest 390 rfl) (by decide) ?_
  refine hz_dup2 (pc := 642) (hz_dec kX8_digest 391 rfl) rfl rfl ?_
  refine hz_iald (pc := 643) (j := 7) (hz_dec kX8_digest 392 rfl) (hz_mne (va_up_self _ _ _) hne.1) hb.2.1.1 hb.2.1.2 rfl (by omega) (by decide) ?_
  refine hz_iload (pc := 644) 7 (hz_dec kX8_digest 393 rfl) rfl ?_
  refine hz_iadd (pc := 646) (hz_dec kX8_digest 394 rfl) ?_
  refine hz_iast (pc := 647) (j := 7) (hz_dec kX8_digest 395 rfl) (hz_mne (va_up_self _ _ _) hne.1) hb.2.1.1 hb.2.1.2 rfl (by omega) (by decide) ?_
  refine hz_mem (pc := 648) (M2 := (va_up (va_up M vA (.inl (0, 8, .inl (upd (upd (upd (upd (upd (upd (upd (upd v 0 (((v 0) + (s8.1)))) 1 ((((upd v 0 (((v 0) + (s8.1)))) 1) + (s8.2.1)))) 2 ((((upd (upd v 0 (((v 0) + (s8.1)))) 1 ((((upd v 0 (((v 0) + (s8.1)))) 1) + (s8.2.1)))) 2) + (s8.2.2.1)))) 3 ((((upd (upd (upd v 0 (((v 0) + (s8.1)))) 1 ((((upd v 0 (((v 0) + (s8.1)))) 1) + (s8.2.1)))) 2 ((((upd (upd v 0 (((v 0) + (s8.1)))) 1 ((((upd v 0 (((v 0) + (s8.1)))) 1) + (s8.2.1)))) 2) + (s8.2.2.1)))) 3) + (s8.2.2.2.1)))) 4 ((((upd (upd (upd (upd v 0 (((v 0) + (s8.1)))) 1 ((((upd v 0 (((v 0) + (s8.1)))) 1) + (s8.2.1)))) 2 ((((upd (upd v 0 (((v 0) + (s8.1)))) 1 ((((upd v 0 (((v 0) + (s8.1)))) 1) + (s8.2.1)))) 2) + (s8.2.2.1)))) 3 ((((upd (upd (upd v 0 (((v 0) + (s8.1)))) 1 ((((upd v 0 (((v 0) + (s8.1)))) 1) + (s8.2.1)))) 2 ((((upd (upd v 0 (((v 0) + (s8.1)))) 1 ((((upd v 0 (((v 0) + (s8.1)))) 1) + (s8.2.1)))) 2) + (s8.2.2.1)))) 3) + (s8.2.2.2.1)))) 4) + (s8.2.2.2.2.1)))) 5 ((((upd (upd (upd (upd (upd v 0 (((v 0) + (s8.1)))) 1 ((((upd v 0 (((v 0) + (s8.1)))) 1) + (s8.2.1)))) 2 ((((upd (upd v 0 (((v 0) + (s8.1)))) 1 ((((upd v 0 (((v 0) + (s8.1)))) 1) + (s8.2.1)))) 2) + (s8.2.2.1)))) 3 ((((upd (upd (upd v 0 (((v 0) + (s8.1)))) 1 ((((upd v 0 (((v 0) + (s8.1)))) 1) + (s8.2.1)))) 2 ((((upd (upd v 0 (((v 0) + (s8.1)))) 1 ((((upd v 0 (((v 0) + (s8.1)))) 1) + (s8.2.1)))) 2) + (s8.2.2.1)))) 3) + (s8.2.2.2.1)))) 4 ((((upd (upd (upd (upd v 0 (((v 0) + (s8.1)))) 1 ((((upd v 0 (((v 0) + (s8.1)))) 1) + (s8.2.1)))) 2 ((((upd (upd v 0 (((v 0) + (s8.1)))) 1 ((((upd v 0 (((v 0) + (s8.1)))) 1) + (s8.2.1)))) 2) + (s8.2.2.1)))) 3 ((((upd (upd (upd v 0 (((v 0) + (s8.1)))) 1 ((((upd v 0 (((v 0) + (s8.1)))) 1) + (s8.2.1)))) 2 ((((upd (upd v 0 (((v 0) + (s8.1)))) 1 ((((upd v 0 (((v 0) + (s8.1)))) 1) + (s8.2.1)))) 2) + (s8.2.2.1)))) 3) + (s8.2.2.2.1)))) 4) + (s8.2.2.2.2.1)))) 5) + (s8.2.2.2.2.2.1)))) 6 ((((upd (upd (upd (upd (upd (upd v 0 (((v 0) + (s8.1)))) 1 ((((upd v 0 (((v 0) + (s8.1)))) 1) + (s8.2.1)))) 2 ((((upd (upd v 0 (((v 0) + (s8.1)))) 1 ((((upd v 0 (((v 0) + (s8.1)))) 1) + (s8.2.1)))) 2) + (s8.2.2.1)))) 3 ((((upd (upd (upd v 0 (((v 0) + (s8.1)))) 1 ((((upd v 0 (((v 0) + (s8.1)))) 1) + (s8.2.1)))) 2 ((((upd (upd v 0 (((v 0) + (s8.1)))) 1 ((((upd v 0 (((v 0) + (s8.1)))) 1) + (s8.2.1)))) 2) + (s8.2.2.1)))) 3) + (s8.2.2.2.1)))) 4 ((((upd (upd (upd (upd v 0 (((v 0) + (s8.1)))) 1 ((((upd v 0 (((v 0) + (s8.1)))) 1) + (s8.2.1)))) 2 ((((upd (upd v 0 (((v 0) + (s8.1)))) 1 ((((upd v 0 (((v 0) + (s8.1)))) 1) + (s8.2.1)))) 2) + (s8.2.2.1)))) 3 ((((upd (upd (upd v 0 (((v 0) + (s8.1)))) 1 ((((upd v 0 (((v 0) + (s8.1)))) 1) + (s8.2.1)))) 2 ((((upd (upd v 0 (((v 0) + (s8.1)))) 1 ((((upd v 0 (((v 0) + (s8.1)))) 1) + (s8.2.1)))) 2) + (s8.2.2.1)))) 3) + (s8.2.2.2.1)))) 4) + (s8.2.2.2.2.1)))) 5 ((((upd (upd (upd (upd (upd v 0 (((v 0) + (s8.1)))) 1 ((((upd v 0 (((v 0) + (s8.1)))) 1) + (s8.2.1)))) 2 ((((upd (upd v 0 (((v 0) + (s8.1)))) 1 ((((upd v 0 (((v 0) + (s8.1)))) 1) + (s8.2.1)))) 2) + (s8.2.2.1)))) 3 ((((upd (upd (upd v 0 (((v 0) + (s8.1)))) 1 ((((upd v 0 (((v 0) + (s8.1)))) 1) + (s8.2.1)))) 2 ((((upd (upd v 0 (((v 0) + (s8.1)))) 1 ((((upd v 0 (((v 0) + (s8.1)))) 1) + (s8.2.1)))) 2) + (s8.2.2.1)))) 3) + (s8.2.2.2.1)))) 4 ((((upd (upd (upd (upd v 0 (((v 0) + (s8.1)))) 1 ((((upd v 0 (((v 0) + (s8.1)))) 1) + (s8.2.1)))) 2 ((((upd (upd v 0 (((v 0) + (s8.1)))) 1 ((((upd v 0 (((v 0) + (s8.1)))) 1) + (s8.2.1)))) 2) + (s8.2.2.1)))) 3 ((((upd (upd (upd v 0 (((v 0) + (s8.1)))) 1 ((((upd v 0 (((v 0) + (s8.1)))) 1) + (s8.2.1)))) 2 ((((upd (upd v 0 (((v 0) + (s8.1)))) 1 ((((upd v 0 (((v 0) + (s8.1)))) 1) + (s8.2.1)))) 2) + (s8.2.2.1)))) 3) + (s8.2.2.2.1)))) 4) + (s8.2.2.2.2.1)))) 5) + (s8.2.2.2.2.2.1)))) 6) + (s8.2.2.2.2.2.2.1)))) 7 ((((upd (upd (upd (upd (upd (upd (upd v 0 (((v 0) + (s8.1)))) 1 ((((upd v 0 (((v 0) + (s8.1)))) 1) + (s8.2.1)))) 2 ((((upd (upd v 0 (((v 0) + (s8.1)))) 1 ((((upd v 0 (((v 0) + (s8.1)))) 1) + (s8.2.1)))) 2) + (s8.2.2.1)))) 3 ((((upd (upd (upd v 0 (((v 0) + (s8.1)))) 1 ((((upd v 0 (((v 0) + (s8.1)))) 1) + (s8.2.1)))) 2 ((((upd (upd v 0 (((v 0) + (s8.1)))) 1 ((((upd v 0 (((v 0) + (s8.1)))) 1) + (s8.2.1)))) 2) + (s8.2.2.1)))) 3) + (s8.2.2.2.1)))) 4 ((((upd (upd (upd (upd v 0 (((v 0) + (s8.1)))) 1 ((((upd v 0 (((v 0) + (s8.1)))) 1) + (s8.2.1)))) 2 ((((upd (upd v 0 (((v 0) + (s8.1)))) 1 ((((upd v 0 (((v 0) + (s8.1)))) 1) + (s8.2.1)))) 2) + (s8.2.2.1)))) 3 ((((upd (upd (upd v 0 (((v 0) + (s8.1)))) 1 ((((upd v 0 (((v 0) + (s8.1)))) 1) + (s8.2.1)))) 2 ((((upd (upd v 0 (((v 0) + (s8.1)))) 1 ((((upd v 0 (((v 0) + (s8.1)))) 1) + (s8.2.1)))) 2) + (s8.2.2.1)))) 3) + (s8.2.2.2.1)))) 4) + (s8.2.2.2.2.1)))) 5 ((((upd (upd (upd (upd (upd v 0 (((v 0) + (s8.1)))) 1 ((((upd v 0 (((v 0) + (s8.1)))) 1) + (s8.2.1)))) 2 ((((upd (upd v 0 (((v 0) + (s8.1)))) 1 ((((upd v 0 (((v 0) + (s8.1)))) 1) + (s8.2.1)))) 2) + (s8.2.2.1)))) 3 ((((upd (upd (upd v 0 (((v 0) + (s8.1)))) 1 ((((upd v 0 (((v 0) + (s8.1)))) 1) + (s8.2.1)))) 2 ((((upd (upd v 0 (((v 0) + (s8.1)))) 1 ((((upd v 0 (((v 0) + (s8.1)))) 1) + (s8.2.1)))) 2) + (s8.2.2.1)))) 3) + (s8.2.2.2.1)))) 4 ((((upd (upd (upd (upd v 0 (((v 0) + (s8.1)))) 1 ((((upd v 0 (((v 0) + (s8.1)))) 1) + (s8.2.1)))) 2 ((((upd (upd v 0 (((v 0) + (s8.1)))) 1 ((((upd v 0 (((v 0) + (s8.1)))) 1) + (s8.2.1)))) 2) + (s8.2.2.1)))) 3 ((((upd (upd (upd v 0 (((v 0) + (s8.1)))) 1 ((((upd v 0 (((v 0) + (s8.1)))) 1) + (s8.2.1)))) 2 ((((upd (upd v 0 (((v 0) + (s8.1)))) 1 ((((upd v 0 (((v 0) + (s8.1)))) 1) + (s8.2.1)))) 2) + (s8.2.2.1)))) 3) + (s8.2.2.2.1)))) 4) + (s8.2.2.2.2.1)))) 5) + (s8.2.2.2.2.2.1)))) 6 ((((upd (upd (upd (upd (upd (upd v 0 (((v 0) + (s8.1)))) 1 ((((upd v 0 (((v 0) + (s8.1)))) 1) + (s8.2.1)))) 2 ((((upd (upd v 0 (((v 0) + (s8.1)))) 1 ((((upd v 0 (((v 0) + (s8.1)))) 1) + (s8.2.1)))) 2) + (s8.2.2.1)))) 3 ((((upd (upd (upd v 0 (((v 0) + (s8.1)))) 1 ((((upd v 0 (((v 0) + (s8.1)))) 1) + (s8.2.1)))) 2 ((((upd (upd v 0 (((v 0) + (s8.1)))) 1 ((((upd v 0 (((v 0) + (s8.1)))) 1) + (s8.2.1)))) 2) + (s8.2.2.1)))) 3) + (s8.2.2.2.1)))) 4 ((((upd (upd (upd (upd v 0 (((v 0) + (s8.1)))) 1 ((((upd v 0 (((v 0) + (s8.1)))) 1) + (s8.2.1)))) 2 ((((upd (upd v 0 (((v 0) + (s8.1)))) 1 ((((upd v 0 (((v 0) + (s8.1)))) 1) + (s8.2.1)))) 2) + (s8.2.2.1)))) 3 ((((upd (upd (upd v 0 (((v 0) + (s8.1)))) 1 ((((upd v 0 (((v 0) + (s8.1)))) 1) + (s8.2.1)))) 2 ((((upd (upd v 0 (((v 0) + (s8.1)))) 1 ((((upd v 0 (((v 0) + (s8.1)))) 1) + (s8.2.1)))) 2) + (s8.2.2.1)))) 3) + (s8.2.2.2.1)))) 4) + (s8.2.2.2.2.1)))) 5 ((((upd (upd (upd (upd (upd v 0 (((v 0) + (s8.1)))) 1 ((((upd v 0 (((v 0) + (s8.1)))) 1) + (s8.2.1)))) 2 ((((upd (upd v 0 (((v 0) + (s8.1)))) 1 ((((upd v 0 (((v 0) + (s8.1)))) 1) + (s8.2.1)))) 2) + (s8.2.2.1)))) 3 ((((upd (upd (upd v 0 (((v 0) + (s8.1)))) 1 ((((upd v 0 (((v 0) + (s8.1)))) 1) + (s8.2.1)))) 2 ((((upd (upd v 0 (((v 0) + (s8.1)))) 1 ((((upd v 0 (((v 0) + (s8.1)))) 1) + (s8.2.1)))) 2) + (s8.2.2.1)))) 3) + (s8.2.2.2.1)))) 4 ((((upd (upd (upd (upd v 0 (((v 0) + (s8.1)))) 1 ((((upd v 0 (((v 0) + (s8.1)))) 1) + (s8.2.1)))) 2 ((((upd (upd v 0 (((v 0) + (s8.1)))) 1 ((((upd v 0 (((v 0) + (s8.1)))) 1) + (s8.2.1)))) 2) + (s8.2.2.1)))) 3 ((((upd (upd (upd v 0 (((v 0) + (s8.1)))) 1 ((((upd v 0 (((v 0) + (s8.1)))) 1) + (s8.2.1)))) 2 ((((upd (upd v 0 (((v 0) + (s8.1)))) 1 ((((upd v 0 (((v 0) + (s8.1)))) 1) + (s8.2.1)))) 2) + (s8.2.2.1)))) 3) + (s8.2.2.2.1)))) 4) + (s8.2.2.2.2.1)))) 5) + (s8.2.2.2.2.2.1)))) 6) + (s8.2.2.2.2.2.2.1)))) 7) + (s8.2.2.2.2.2.2.2))))))) wA (.inl (0, 64, .inl (sh_ext u 48))))) (hz_upc hne.1) ?_
  refine hz_iinc (pc := 648) (i := 4) (w := nI (fr + 64)) (lo2 := [(4, .int (nI (fr + 64))), (5, .int s8.1), (6, .int s8.2.1), (7, .int s8.2.2.1), (8, .int s8.2.2.2.1), (9, .int s8.2.2.2.2.1), (10, .int s8.2.2.2.2.2.1), (11, .int s8.2.2.2.2.2.2.1), (12, .int s8.2.2.2.2.2.2.2), (0, .ref s), (1, .ref b), (2, .int (nI at_)), (3, .int (nI n))]) 8 (hz_dec kX8_digest 396 rfl) rfl (nI_add _ 64) (by decide) rfl ?_
  refine hz_goto (pc := 651) (tgt := 49) (hz_dec kX8_digest 397 rfl) (by decide) ?_
  refine hz_pick (pc := 49) [0, 9, 10, 11, 12] rfl ?_
  refine K _ _ (fun j hj => ?_)
  rw [← sh_val s8 hs.symm j hj]
  rfl
theorem sh_by0 {f : Nat → Int32} {at_ n p : Nat} (h : n < p) : sh_by f at_ n p = 0 := by
  unfold sh_by
  rw [if_neg (by omega), if_neg (by omega)]
theorem sh_w10 {f : Nat → Int32} {at_ n p : Nat} (h : n < p) : ∀ k, sh_w1 f at_ n p k = 0 := by
  intro k
  induction k with
  | zero => rfl
  | succ k ih => simp only [sh_w1, ih, sh_by0 (show n < p + k by omega)]; decide
theorem sh_u29 {n : Nat} (h : n < 2 ^ 28) : ((nI n).toUInt32 >>> ((nI 29).toUInt32 &&& Int32.toUInt32 31)).toInt32 = 0 := by
  have e : ((nI n).toUInt32 >>> ((nI 29).toUInt32 &&& Int32.toUInt32 31)).toInt32 = nI (n / 2 ^ 29) := pk_ushrN (by omega) (nI 29) 29 (by decide)
  rw [e, Nat.div_eq_of_lt (by omega)]
  decide
theorem sh_l3 {n : Nat} (h : n < 2 ^ 28) : nI n <<< (nI 3 &&& 31) = nI (8 * n) := by
  have e := pk_shlN (n := n) (nI 3 &&& 31) 3 (by decide) (by omega)
  rw [e, show n * 2 ^ 3 = 8 * n by omega]
theorem sh_lastw {u1 f : Nat → Int32} {at_ n fr : Nat} (hu : ∀ j, j < 16 → u1 j = sh_w1 f at_ n (fr + 4 * j) 4) (h2 : n + 9 ≤ fr + 64) (hn : n < 2 ^ 28) : ∀ j, j < 16 → (upd (upd u1 14 ((nI n).toUInt32 >>> ((nI 29).toUInt32 &&& Int32.toUInt32 31)).toInt32) 15 (nI n <<< (nI 3 &&& 31))) j = sh_wd f at_ n fr j := by
  intro j hj
  unfold sh_wd
  by_cases h15 : j = 15
  · subst h15
    rw [if_pos ⟨h2, rfl⟩]
    simp only [upd, if_pos]
    exact sh_l3 hn
  · rw [if_neg (fun q => h15 q.2)]
    by_cases h14 : j = 14
    · subst h14
      have e : (upd (upd u1 14 ((nI n).toUInt32 >>> ((nI 29).toUInt32 &&& Int32.toUInt32 31)).toInt32) 15 (nI n <<< (nI 3 &&& 31))) 14 = ((nI n).toUInt32 >>> ((nI 29).toUInt32 &&& Int32.toUInt32 31)).toInt32 := by simp [upd]
      rw [e, sh_u29 hn, sh_w10 (by omega)]
    · simp only [upd, if_neg h15, if_neg h14]
      exact hu j hj
set_option maxHeartbeats 4000000 in
set_option maxRecDepth 100000 in
theorem l_dgO {κ : hz_C} {z : Nat} {P : hz_P} {M : hz_M} {s vA wA oA b nb at_ n : Nat} {fv fw f : Nat → Int32} (hS : M s = .inr (8, [.ref vA, .ref wA, .ref oA])) (hV : M vA = .inl (0, 8, .inl fv)) (hW : M wA = .inl (0, 64, .inl fw)) (hB : M b = .inl (1, nb, .inl f)) (hT : ∀ k, k < 4 → M k = hz_st k) (hb : (8 ≤ s ∧ s < z) ∧ (8 ≤ vA ∧ vA < z) ∧ (8 ≤ wA ∧ wA < z) ∧ 8 ≤ b ∧ b < z) (hn : nb < 2 ^ 24) (hr : at_ + n ≤ nb) (hne : vA ≠ wA ∧ s ≠ vA ∧ s ≠ wA ∧ b ≠ vA ∧ b ≠ wA) (K : ∀ v u : Nat → Int32, (∀ j, j < 8 → v j = sh_h f at_ n j) → P none z (va_up (va_up M vA (.inl (0, 8, .inl (v)))) wA (.inl (0, 64, .inl (u))))) : ∀ k q v u, k = (n + 8) / 64 + 1 - q → q ≤ (n + 8) / 64 + 1 → (∀ j, j < 8 → v j = sh_all f at_ n q j) → hz_W κ xX8_digest 0 0 0 P 0 0 49 [(4, .int (nI (64 * q))), (0, .ref s), (1, .ref b), (2, .int (nI at_)), (3, .int (nI n))] [] z (va_up (va_up M vA (.inl (0, 8, .inl (v)))) wA (.inl (0, 64, .inl (u)))) := by
  intro k
  induction k using Nat.strongRecOn with
  | ind k ih =>
  intro q v u hk hq hv
  refine hz_iload (pc := 49) 0 (hz_dec kX8_digest 27 rfl) rfl ?_
  refine hz_iloadn (pc := 51) 4 (hz_dec kX8_digest 28 rfl) rfl ?_
  refine hz_bipush (pc := 52) (v := nI 9) (hz_dec kX8_digest 29 rfl) (by decide) ?_
  refine hz_addN (pc := 54) (hz_dec kX8_digest 30 rfl) ?_
  refine hz_n_ge (pc := 55) (tgt := 654) (hz_dec kX8_digest 31 rfl) (by decide) (by omega) (by omega) (fun h1 => ?_) (fun h1 => ?_)
  · skip
    have e : q = (n + 8) / 64 + 1 := by omega
    subst e
    exact hz_vret (pc := 654) (hz_dec kX8_digest 398 rfl) rfl (K v u hv)
  · skip
    refine hz_iconst (pc := 58) (v := nI 0) (hz_dec kX8_digest 32 rfl) (by decide) ?_
    refine hz_istore (pc := 59) (i := 5) (lo2 := [(5, .int (nI 0)), (4, .int (nI (64 * q))), (0, .ref s), (1, .ref b), (2, .int (nI at_)), (3, .int (nI n))]) (hz_dec kX8_digest 33 rfl) (by decide) rfl ?_
    refine hz_pick (pc := 61) [0, 1, 2, 3, 4, 5] rfl ?_
    refine l_dgF (M := va_up M vA (.inl (0, 8, .inl v))) (hz_mne hS hne.2.1) (va_up_self _ _ _) (hz_mne hW (Ne.symm hne.1)) (hz_mne hB hne.2.2.2.1) (fun k hk => hz_mne (hT k hk) (by omega)) hb hn hr hne (by omega) (fun u1 hu1 => ?_) 16 0 u rfl (by omega) (fun j hj => absurd hj (by omega))
    refine hz_iload (pc := 155) 1 (hz_dec kX8_digest 85 rfl) rfl ?_
    refine hz_bipush (pc := 157) (v := nI 64) (hz_dec kX8_digest 86 rfl) (by decide) ?_
    refine hz_addN (pc := 159) (hz_dec kX8_digest 87 rfl) ?_
    refine hz_iloadn (pc := 160) 5 (hz_dec kX8_digest 88 rfl) rfl ?_
    refine hz_bipush (pc := 161) (v := nI 9) (hz_dec kX8_digest 89 rfl) (by decide) ?_
    refine hz_addN (pc := 163) (hz_dec kX8_digest 90 rfl) ?_
    refine hz_n_lt (pc := 164) (tgt := 188) (hz_dec kX8_digest 91 rfl) (by decide) (by omega) (by omega) (fun h2 => ?_) (fun h2 => ?_)
    · skip
      refine hz_pick (pc := 188) [1, 2, 3, 4, 5] rfl ?_
      have hw2 : ∀ j, j < 16 → (u1) j = sh_wd f at_ n (64 * q) j := fun j hj => by rw [hu1 j hj, sh_wd, if_neg (by omega)]
      refine l_dg1 hS hV hW hB hT hb hn hr hne (by omega) (fun v2 u2 hv2 => ?_)
      have hv3 : ∀ j, j < 8 → v2 j = sh_all f at_ n (q + 1) j := fun j hj => (hv2 j hj).trans (sh_blk_c hv hw2 j hj)
      rw [show 64 * q + 64 = 64 * (q + 1) by omega]
      exact ih ((n + 8) / 64 + 1 - (q + 1)) (by omega) (q + 1) v2 u2 rfl (by omega) hv3
    · skip
      refine hz_aloadn (pc := 167) 2 (hz_dec kX8_digest 92 rfl) rfl ?_
      refine hz_get (pc := 168) (hz_dec kX8_digest 93 rfl) fo_X8_15 (hz_mne (hz_mne hS hne.2.1) hne.2.2.1) hb.1.1 hb.1.2 rfl ?_
      refine hz_bipush (pc := 171) (v := nI 14) (hz_dec kX8_digest 94 rfl) (by decide) ?_
      refine hz_iloadn (pc := 173) 5 (hz_dec kX8_digest 95 rfl) rfl ?_
      refine hz_bipush (pc := 174) (v := nI 29) (hz_dec kX8_digest 96 rfl) (by decide) ?_
      refine hz_iushr (pc := 176) (hz_dec kX8_digest 97 rfl) ?_
      refine hz_iast (pc := 177) (j := 14) (hz_dec kX8_digest 98 rfl) (va_up_self _ _ _) hb.2.2.1.1 hb.2.2.1.2 rfl (by omega) (by decide) ?_
      refine hz_mem (pc := 178) (M2 := (va_up (va_up M vA (.inl (0, 8, .inl (v)))) wA (.inl (0, 64, .inl (upd u1 14 ((((nI (n)).toUInt32 >>> ((nI (29)).toUInt32 &&& Int32.toUInt32 31)).toInt32))))))) (bx_uu _ _ _ _) ?_
      refine hz_aloadn (pc := 178) 2 (hz_dec kX8_digest 99 rfl) rfl ?_
      refine hz_get (pc := 179) (hz_dec kX8_digest 100 rfl) fo_X8_15 (hz_mne (hz_mne hS hne.2.1) hne.2.2.1) hb.1.1 hb.1.2 rfl ?_
      refine hz_bipush (pc := 182) (v := nI 15) (hz_dec kX8_digest 101 rfl) (by decide) ?_
      refine hz_iloadn (pc := 184) 5 (hz_dec kX8_digest 102 rfl) rfl ?_
      refine hz_iconst (pc := 185) (v := nI 3) (hz_dec kX8_digest 103 rfl) (by decide) ?_
      refine hz_ishl (pc := 186) (hz_dec kX8_digest 104 rfl) ?_
      refine hz_iast (pc := 187) (j := 15) (hz_dec kX8_digest 105 rfl) (va_up_self _ _ _) hb.2.2.1.1 hb.2.2.1.2 rfl (by omega) (by decide) ?_
      refine hz_mem (pc := 188) (M2 := (va_up (va_up M vA (.inl (0, 8, .inl (v)))) wA (.inl (0, 64, .inl (upd (upd u1 14 ((((nI (n)).toUInt32 >>> ((nI (29)).toUInt32 &&& Int32.toUInt32 31)).toInt32))) 15 (((nI (n)) <<< ((nI (3)) &&& 31)))))))) (bx_uu _ _ _ _) ?_
      refine hz_pick (pc := 188) [1, 2, 3, 4, 5] rfl ?_
      have hw2 : ∀ j, j < 16 → (upd (upd u1 14 ((((nI (n)).toUInt32 >>> ((nI (29)).toUInt32 &&& Int32.toUInt32 31)).toInt32))) 15 (((nI (n)) <<< ((nI (3)) &&& 31)))) j = sh_wd f at_ n (64 * q) j := sh_lastw hu1 h2 (by omega)
      refine l_dg1 hS hV hW hB hT hb hn hr hne (by omega) (fun v2 u2 hv2 => ?_)
      have hv3 : ∀ j, j < 8 → v2 j = sh_all f at_ n (q + 1) j := fun j hj => (hv2 j hj).trans (sh_blk_c hv hw2 j hj)
      rw [show 64 * q + 64 = 64 * (q + 1) by omega]
      exact ih ((n + 8) / 64 + 1 - (q + 1)) (by omega) (q + 1) v2 u2 rfl (by omega) hv3
def sh_P (M : hz_M) (z vA wA : Nat) (f : Nat → Int32) (at_ n : Nat) : hz_P := fun r z2 M2 => none = r ∧ z = z2 ∧ ∃ v u : Nat → Int32, (∀ j, j < 8 → v j = sh_h f at_ n j) ∧ (va_up (va_up M vA (.inl (0, 8, .inl (v)))) wA (.inl (0, 64, .inl (u)))) = M2
set_option maxHeartbeats 4000000 in
set_option maxRecDepth 100000 in
theorem c_digest {κ : hz_C} {z : Nat} {M : hz_M} {s vA wA oA b nb at_ n : Nat} {fv fw f : Nat → Int32} (hS : M s = .inr (8, [.ref vA, .ref wA, .ref oA])) (hV : M vA = .inl (0, 8, .inl fv)) (hW : M wA = .inl (0, 64, .inl fw)) (hB : M b = .inl (1, nb, .inl f)) (hb : (8 ≤ s ∧ s < z) ∧ (8 ≤ vA ∧ vA < z) ∧ (8 ≤ wA ∧ wA < z) ∧ 8 ≤ b ∧ b < z) (hn : nb < 2 ^ 24) (hr : at_ + n ≤ nb) (hvw : vA ≠ wA) : hz_Mt κ xX8_digest 0 0 0 [.ref s, .ref b, .int (nI at_), .int (nI n)] z M (sh_P M z vA wA f at_ n) := by
  refine hz_ent (lo := [(0, .ref s), (1, .ref b), (2, .int (nI at_)), (3, .int (nI n))]) (by decide) (Nat.le_of_ble_eq_true rfl) rfl ?_
  have hne : vA ≠ wA ∧ s ≠ vA ∧ s ≠ wA ∧ b ≠ vA ∧ b ≠ wA := ⟨hvw, hz_oa hS hV, hz_oa hS hW, hz_tt hB hV (by decide), hz_tt hB hW (by decide)⟩
  refine hz_stat (fun hT => ?_)
  refine hz_iloadn (pc := 0) 2 (hz_dec kX8_digest 0 rfl) rfl ?_
  refine hz_z_lt (pc := 1) (tgt := 16) (hz_dec kX8_digest 1 rfl) (by decide) (by omega) ?_
  refine hz_iloadn (pc := 4) 3 (hz_dec kX8_digest 2 rfl) rfl ?_
  refine hz_z_lt (pc := 5) (tgt := 16) (hz_dec kX8_digest 3 rfl) (by decide) (by omega) ?_
  refine hz_iloadn (pc := 8) 2 (hz_dec kX8_digest 4 rfl) rfl ?_
  refine hz_aloadn (pc := 9) 1 (hz_dec kX8_digest 5 rfl) rfl ?_
  refine hz_alen (pc := 10) (hz_dec kX8_digest 6 rfl) hB (by decide) hb.2.2.2.1 hb.2.2.2.2 ?_
  refine hz_iloadn (pc := 11) 3 (hz_dec kX8_digest 7 rfl) rfl ?_
  refine hz_subN (pc := 12) (hz_dec kX8_digest 8 rfl) (by omega) ?_
  refine hz_n_le (pc := 13) (tgt := 17) (hz_dec kX8_digest 9 rfl) (by decide) (by omega) (by omega) (fun h1 => ?_) (fun h1 => ?_)
  · skip
    refine hz_iconst (pc := 17) (v := nI 0) (hz_dec kX8_digest 11 rfl) (by decide) ?_
    refine hz_istore (pc := 18) (i := 4) (lo2 := [(4, .int (nI 0)), (0, .ref s), (1, .ref b), (2, .int (nI at_)), (3, .int (nI n))]) (hz_dec kX8_digest 12 rfl) (by decide) rfl ?_
    refine hz_pick (pc := 20) [0, 1, 2, 3, 4] rfl ?_
    refine hz_mem (hz_upid hV).symm ?_
    refine l_dg0 hS hV hW hB hT hb hn hr hne (fun v hv => ?_) 8 0 fv rfl (by omega) (fun j hj => absurd hj (by omega))
    refine hz_iconst (pc := 46) (v := nI 0) (hz_dec kX8_digest 25 rfl) (by decide) ?_
    refine hz_istore (pc := 47) (i := 4) (lo2 := [(4, .int (nI 0)), (0, .ref s), (1, .ref b), (2, .int (nI at_)), (3, .int (nI n))]) (hz_dec kX8_digest 26 rfl) (by decide) rfl ?_
    refine hz_pick (pc := 49) [0, 1, 2, 3, 4] rfl ?_
    have hWW : va_up M vA (.inl (0, 8, .inl v)) wA = .inl (0, 64, .inl fw) := hz_mne hW (Ne.symm hvw)
    refine hz_mem (hz_upid hWW).symm ?_
    exact l_dgO hS hV hW hB hT hb hn hr hne (fun v u h => ⟨rfl, rfl, v, u, h, rfl⟩) ((n + 8) / 64 + 1) 0 v fw rfl (by omega) hv
  · skip
    exact absurd h1 (by omega)
