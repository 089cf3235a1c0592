set_option maxHeartbeats 4000000 in
set_option maxRecDepth 100000 in
theorem l_ho0 {κ : hz_C} {z : Nat} {M : hz_M} {P : hz_P} {B : Nat} {fs : List Value} (hO : M B = .inr (12, fs)) (hF : md_F B fs) (h8 : 8 ≤ B) (hz : B + 88 ≤ z) {ff fa fv fw fd : Nat → Int32} (hfi : M (B + 1) = .inl (0, 8, .inl ff)) (hff : ∀ j, j < 8 → ff j = hz_sf 0 j) (had : M (B + 2) = .inl (0, 64, .inl fa)) (hfa : ∀ j, j < 64 → fa j = hz_sf 1 j) (hst : M (B + 3) = .inl (0, 8, .inl fv)) (hwo : M (B + 4) = .inl (0, 64, .inl fw)) (hdi : M (B + 5) = .inl (1, 32, .inl fd)) {r nb at_ n : Nat} {f : Nat → Int32} (hR : M r = .inl (1, nb, .inl f)) (hr8 : 8 ≤ r) (hrz : r < z) (hnb : nb < 2 ^ 24) (hrr : at_ + n ≤ nb) (hr3 : r ≠ B + 3) (hr4 : r ≠ B + 4) (K : ∀ v : Nat → Int32, (∀ j, j < 8 → v j = hz_sf 0 j) → hz_W κ xX12_hashOf 2 0 0 P 0 0 30 [(0, .ref B), (1, .ref r), (2, .int (nI at_)), (3, .int (nI n))] [] z (va_up M (B + 3) (.inl (0, 8, .inl (v))))) : ∀ k q v, k = 8 - q → q ≤ 8 → (∀ j, j < q → v j = hz_sf 0 j) → hz_W κ xX12_hashOf 2 0 0 P 0 0 3 [(4, .int (nI q)), (0, .ref B), (1, .ref r), (2, .int (nI at_)), (3, .int (nI n))] [] z (va_up M (B + 3) (.inl (0, 8, .inl (v)))) := by
  intro k
  induction k using Nat.strongRecOn with
  | ind k ih =>
  intro q v hk hq hv
  refine hz_iload (pc := 3) 0 (hz_dec kX12_hashOf 2 rfl) rfl ?_
  refine hz_bipush (pc := 5) (v := nI 8) (hz_dec kX12_hashOf 3 rfl) (by decide) ?_
  refine hz_n_ge (pc := 7) (tgt := 30) (hz_dec kX12_hashOf 4 rfl) (by decide) (by omega) (by omega) (fun h1 => ?_) (fun h1 => ?_)
  · skip
    have e : q = 8 := by omega
    subst e
    refine hz_pick (pc := 30) [1, 2, 3, 4] rfl ?_
    exact K v hv
  · skip
    refine hz_aloadn (pc := 10) 1 (hz_dec kX12_hashOf 5 rfl) rfl ?_
    refine hz_get (pc := 11) (v := .ref (B + 3)) (hz_dec kX12_hashOf 6 rfl) fo_X12_16 (hz_mne hO (by omega)) h8 (by omega) (hF.2 4 (by decide) (by decide)) ?_
    refine hz_iload (pc := 14) 0 (hz_dec kX12_hashOf 7 rfl) rfl ?_
    refine hz_aloadn (pc := 16) 1 (hz_dec kX12_hashOf 8 rfl) rfl ?_
    refine hz_get (pc := 17) (v := .ref (B + 1)) (hz_dec kX12_hashOf 9 rfl) fo_X12_7 (hz_mne hO (by omega)) h8 (by omega) (hF.2 2 (by decide) (by decide)) ?_
    refine hz_iload (pc := 20) 0 (hz_dec kX12_hashOf 10 rfl) rfl ?_
    refine hz_iald (pc := 22) (j := q) (hz_dec kX12_hashOf 11 rfl) (hz_mne hfi (by omega)) (by omega) (by omega) rfl (by omega) (by decide) ?_
    refine hz_iast (pc := 23) (j := q) (hz_dec kX12_hashOf 12 rfl) (va_up_self _ _ _) (by omega) (by omega) rfl (by omega) (by decide) ?_
    refine hz_mem (pc := 24) (M2 := (va_up M (B + 3) (.inl (0, 8, .inl (upd v q ((ff q))))))) (bx_uu _ _ _ _) ?_
    refine hz_incN (pc := 24) (i := 4) (lo2 := [(4, .int (nI (q + 1))), (0, .ref B), (1, .ref r), (2, .int (nI at_)), (3, .int (nI n))]) 0 (hz_dec kX12_hashOf 13 rfl) rfl (by decide) rfl ?_
    refine hz_goto (pc := 27) (tgt := 3) (hz_dec kX12_hashOf 14 rfl) (by decide) ?_
    refine hz_pick (pc := 3) [0, 1, 2, 3, 4] rfl ?_
    refine ih (8 - (q + 1)) (by omega) (q + 1) _ rfl (by omega) (fun j hj => ?_)
    simp only [upd]
    split
    · next e => subst e; exact hff j h1
    · exact hv j (by omega)
set_option maxHeartbeats 4000000 in
set_option maxRecDepth 100000 in
theorem l_hoB {κ : hz_C} {z : Nat} {M : hz_M} {P : hz_P} {B : Nat} {fs : List Value} (hO : M B = .inr (12, fs)) (hF : md_F B fs) (h8 : 8 ≤ B) (hz : B + 88 ≤ z) {ff fa fv fw fd : Nat → Int32} (hfi : M (B + 1) = .inl (0, 8, .inl ff)) (hff : ∀ j, j < 8 → ff j = hz_sf 0 j) (had : M (B + 2) = .inl (0, 64, .inl fa)) (hfa : ∀ j, j < 64 → fa j = hz_sf 1 j) (hst : M (B + 3) = .inl (0, 8, .inl fv)) (hwo : M (B + 4) = .inl (0, 64, .inl fw)) (hdi : M (B + 5) = .inl (1, 32, .inl fd)) {r nb at_ n : Nat} {f : Nat → Int32} (hR : M r = .inl (1, nb, .inl f)) (hr8 : 8 ≤ r) (hrz : r < z) (hnb : nb < 2 ^ 24) (hrr : at_ + n ≤ nb) (hr3 : r ≠ B + 3) (hr4 : r ≠ B + 4) {u v : Nat → Int32} {b i : Nat} (hb : b < (n + 8) / 64 + 1) (hi : i < 16) (K : hz_W κ xX12_hashOf 2 0 0 P 0 0 134 [(7, .int (sh_w1 f at_ n (64 * b + 4 * i) 4)), (6, .int (nI i)), (5, .int (nI b)), (4, .int (nI ((n + 8) / 64 + 1))), (0, .ref B), (1, .ref r), (2, .int (nI at_)), (3, .int (nI n))] [] z (va_up (va_up M (B + 3) (.inl (0, 8, .inl (v)))) (B + 4) (.inl (0, 64, .inl (u))))) : ∀ k q, k = 4 - q → q ≤ 4 → hz_W κ xX12_hashOf 2 0 0 P 0 0 67 [(8, .int (nI q)), (7, .int (sh_w1 f at_ n (64 * b + 4 * i) q)), (6, .int (nI i)), (5, .int (nI b)), (4, .int (nI ((n + 8) / 64 + 1))), (0, .ref B), (1, .ref r), (2, .int (nI at_)), (3, .int (nI n))] [] z (va_up (va_up M (B + 3) (.inl (0, 8, .inl (v)))) (B + 4) (.inl (0, 64, .inl (u)))) := by
  intro k
  induction k using Nat.strongRecOn with
  | ind k ih =>
  intro q hk hq
  refine hz_iload (pc := 67) 0 (hz_dec kX12_hashOf 37 rfl) rfl ?_
  refine hz_iconst (pc := 69) (v := nI 4) (hz_dec kX12_hashOf 38 rfl) (by decide) ?_
  refine hz_n_ge (pc := 70) (tgt := 134) (hz_dec kX12_hashOf 39 rfl) (by decide) (by omega) (by omega) (fun h1 => ?_) (fun h1 => ?_)
  · skip
    have e : q = 4 := by omega
    subst e
    refine hz_pick (pc := 134) [1, 2, 3, 4, 5, 6, 7, 8] rfl ?_
    exact K
  · skip
    refine hz_bipush (pc := 73) (v := nI 64) (hz_dec kX12_hashOf 40 rfl) (by decide) ?_
    refine hz_iload (pc := 75) 3 (hz_dec kX12_hashOf 41 rfl) rfl ?_
    refine hz_mulN (pc := 77) (hz_dec kX12_hashOf 42 rfl) ?_
    refine hz_iconst (pc := 78) (v := nI 4) (hz_dec kX12_hashOf 43 rfl) (by decide) ?_
    refine hz_iload (pc := 79) 2 (hz_dec kX12_hashOf 44 rfl) rfl ?_
    refine hz_mulN (pc := 81) (hz_dec kX12_hashOf 45 rfl) ?_
    refine hz_addN (pc := 82) (hz_dec kX12_hashOf 46 rfl) ?_
    refine hz_iload (pc := 83) 0 (hz_dec kX12_hashOf 47 rfl) rfl ?_
    refine hz_addN (pc := 85) (hz_dec kX12_hashOf 48 rfl) ?_
    refine hz_istore (pc := 86) (i := 9) (lo2 := [(9, .int (nI (((64 * b) + (4 * i)) + q))), (8, .int (nI q)), (7, .int (sh_w1 f at_ n (64 * b + 4 * i) q)), (6, .int (nI i)), (5, .int (nI b)), (4, .int (nI ((n + 8) / 64 + 1))), (0, .ref B), (1, .ref r), (2, .int (nI at_)), (3, .int (nI n))]) (hz_dec kX12_hashOf 49 rfl) (by decide) rfl ?_
    refine hz_iload (pc := 88) 2 (hz_dec kX12_hashOf 50 rfl) rfl ?_
    refine hz_bipush (pc := 90) (v := nI 8) (hz_dec kX12_hashOf 51 rfl) (by decide) ?_
    refine hz_ishl (pc := 92) (hz_dec kX12_hashOf 52 rfl) ?_
    refine hz_iload (pc := 93) 0 (hz_dec kX12_hashOf 53 rfl) rfl ?_
    refine hz_iloadn (pc := 95) 9 (hz_dec kX12_hashOf 54 rfl) rfl ?_
    refine hz_n_ge (pc := 96) (tgt := 112) (hz_dec kX12_hashOf 55 rfl) (by decide) (by omega) (by omega) (fun h2 => ?_) (fun h2 => ?_)
    · skip
      refine hz_iload (pc := 112) 0 (hz_dec kX12_hashOf 64 rfl) rfl ?_
      refine hz_iloadn (pc := 114) 9 (hz_dec kX12_hashOf 65 rfl) rfl ?_
      refine hz_n_ne (pc := 115) (tgt := 124) (hz_dec kX12_hashOf 66 rfl) (by decide) (by omega) (by omega) (fun h3 => ?_) (fun h3 => ?_)
      · skip
        refine hz_iconst (pc := 124) (v := nI 0) (hz_dec kX12_hashOf 69 rfl) (by decide) ?_
        refine hz_ior (pc := 125) (hz_dec kX12_hashOf 70 rfl) ?_
        refine hz_eqi (pc := 126) (w := sh_w1 f at_ n (64 * b + 4 * i) (q + 1)) (by simp only [sh_w1, sh_by, if_neg (Nat.not_lt.mpr h2), if_neg h3]) ?_
        refine hz_istore (pc := 126) (i := 7) (lo2 := [(7, .int (sh_w1 f at_ n (64 * b + 4 * i) (q + 1))), (9, .int (nI (((64 * b) + (4 * i)) + q))), (8, .int (nI q)), (6, .int (nI i)), (5, .int (nI b)), (4, .int (nI ((n + 8) / 64 + 1))), (0, .ref B), (1, .ref r), (2, .int (nI at_)), (3, .int (nI n))]) (hz_dec kX12_hashOf 71 rfl) (by decide) rfl ?_
        refine hz_incN (pc := 128) (i := 8) (lo2 := [(8, .int (nI (q + 1))), (7, .int (sh_w1 f at_ n (64 * b + 4 * i) (q + 1))), (9, .int (nI (((64 * b) + (4 * i)) + q))), (6, .int (nI i)), (5, .int (nI b)), (4, .int (nI ((n + 8) / 64 + 1))), (0, .ref B), (1, .ref r), (2, .int (nI at_)), (3, .int (nI n))]) 2 (hz_dec kX12_hashOf 72 rfl) rfl (by decide) rfl ?_
        refine hz_goto (pc := 131) (tgt := 67) (hz_dec kX12_hashOf 73 rfl) (by decide) ?_
        refine hz_pick (pc := 67) [0, 1, 3, 4, 5, 6, 7, 8, 9] rfl ?_
        exact ih (4 - (q + 1)) (by omega) (q + 1) rfl (by omega)
      · skip
        refine hz_sipush (pc := 118) (v := nI 128) (hz_dec kX12_hashOf 67 rfl) (by decide) ?_
        refine hz_goto (pc := 121) (tgt := 125) (hz_dec kX12_hashOf 68 rfl) (by decide) ?_
        refine hz_ior (pc := 125) (hz_dec kX12_hashOf 70 rfl) ?_
        refine hz_eqi (pc := 126) (w := sh_w1 f at_ n (64 * b + 4 * i) (q + 1)) (by simp only [sh_w1, sh_by, if_neg (Nat.not_lt.mpr h2), if_pos h3]) ?_
        refine hz_istore (pc := 126) (i := 7) (lo2 := [(7, .int (sh_w1 f at_ n (64 * b + 4 * i) (q + 1))), (9, .int (nI (((64 * b) + (4 * i)) + q))), (8, .int (nI q)), (6, .int (nI i)), (5, .int (nI b)), (4, .int (nI ((n + 8) / 64 + 1))), (0, .ref B), (1, .ref r), (2, .int (nI at_)), (3, .int (nI n))]) (hz_dec kX12_hashOf 71 rfl) (by decide) rfl ?_
        refine hz_incN (pc := 128) (i := 8) (lo2 := [(8, .int (nI (q + 1))), (7, .int (sh_w1 f at_ n (64 * b + 4 * i) (q + 1))), (9, .int (nI (((64 * b) + (4 * i)) + q))), (6, .int (nI i)), (5, .int (nI b)), (4, .int (nI ((n + 8) / 64 + 1))), (0, .ref B), (1, .ref r), (2, .int (nI at_)), (3, .int (nI n))]) 2 (hz_dec kX12_hashOf 72 rfl) rfl (by decide) rfl ?_
        refine hz_goto (pc := 131) (tgt := 67) (hz_dec kX12_hashOf 73 rfl) (by decide) ?_
        refine hz_pick (pc := 67) [0, 1, 3, 4, 5, 6, 7, 8, 9] rfl ?_
        exact ih (4 - (q + 1)) (by omega) (q + 1) rfl (by omega)
    · skip
      refine hz_aloadn (pc := 99) 7 (hz_dec kX12_hashOf 56 rfl) rfl ?_
      refine hz_iloadn (pc := 100) 8 (hz_dec kX12_hashOf 57 rfl) rfl ?_
      refine hz_iload (pc := 101) 0 (hz_dec kX12_hashOf 58 rfl) rfl ?_
      refine hz_addN (pc := 103) (hz_dec kX12_hashOf 59 rfl) ?_
      refine hz_bald (pc := 104) (j := at_ + (((64 * b) + (4 * i)) + q)) (hz_dec kX12_hashOf 60 rfl) (hz_mne (hz_mne hR hr3) hr4) hr8 hrz rfl (by omega) (by omega) ?_
      refine hz_sipush (pc := 105) (v := nI 255) (hz_dec kX12_hashOf 61 rfl) (by decide) ?_
      refine hz_andB (pc := 108) (hz_dec kX12_hashOf 62 rfl) ?_
      refine hz_goto (pc := 109) (tgt := 125) (hz_dec kX12_hashOf 63 rfl) (by decide) ?_
      refine hz_ior (pc := 125) (hz_dec kX12_hashOf 70 rfl) ?_
      refine hz_eqi (pc := 126) (w := sh_w1 f at_ n (64 * b + 4 * i) (q + 1)) (by simp only [sh_w1, sh_by, if_pos h2]) ?_
      refine hz_istore (pc := 126) (i := 7) (lo2 := [(7, .int (sh_w1 f at_ n (64 * b + 4 * i) (q + 1))), (9, .int (nI (((64 * b) + (4 * i)) + q))), (8, .int (nI q)), (6, .int (nI i)), (5, .int (nI b)), (4, .int (nI ((n + 8) / 64 + 1))), (0, .ref B), (1, .ref r), (2, .int (nI at_)), (3, .int (nI n))]) (hz_dec kX12_hashOf 71 rfl) (by decide) rfl ?_
      refine hz_incN (pc := 128) (i := 8) (lo2 := [(8, .int (nI (q + 1))), (7, .int (sh_w1 f at_ n (64 * b + 4 * i) (q + 1))), (9, .int (nI (((64 * b) + (4 * i)) + q))), (6, .int (nI i)), (5, .int (nI b)), (4, .int (nI ((n + 8) / 64 + 1))), (0, .ref B), (1, .ref r), (2, .int (nI at_)), (3, .int (nI n))]) 2 (hz_dec kX12_hashOf 72 rfl) rfl (by decide) rfl ?_
      refine hz_goto (pc := 131) (tgt := 67) (hz_dec kX12_hashOf 73 rfl) (by decide) ?_
      refine hz_pick (pc := 67) [0, 1, 3, 4, 5, 6, 7, 8, 9] rfl ?_
      exact ih (4 - (q + 1)) (by omega) (q + 1) rfl (by omega)
set_option maxHeartbeats 4000000 in
set_option maxRecDepth 100000 in
theorem l_hoF {κ : hz_C} {z : Nat} {M : hz_M} {P : hz_P} {B : Nat} {fs : List Value} (hO : M B = .inr (12, fs)) (hF : md_F B fs) (h8 : 8 ≤ B) (hz : B + 88 ≤ z) {ff fa fv fw fd : Nat → Int32} (hfi : M (B + 1) = .inl (0, 8, .inl ff)) (hff : ∀ j, j < 8 → ff j = hz_sf 0 j) (had : M (B + 2) = .inl (0, 64, .inl fa)) (hfa : ∀ j, j < 64 → fa j = hz_sf 1 j) (hst : M (B + 3) = .inl (0, 8, .inl fv)) (hwo : M (B + 4) = .inl (0, 64, .inl fw)) (hdi : M (B + 5) = .inl (1, 32, .inl fd)) {r nb at_ n : Nat} {f : Nat → Int32} (hR : M r = .inl (1, nb, .inl f)) (hr8 : 8 ≤ r) (hrz : r < z) (hnb : nb < 2 ^ 24) (hrr : at_ + n ≤ nb) (hr3 : r ≠ B + 3) (hr4 : r ≠ B + 4) {v : Nat → Int32} {b : Nat} (hb : b < (n + 8) / 64 + 1) (K : ∀ u : Nat → Int32, (∀ j, j < 16 → u j = sh_w1 f at_ n (64 * b + 4 * j) 4) → hz_W κ xX12_hashOf 2 0 0 P 0 0 149 [(5, .int (nI b)), (4, .int (nI ((n + 8) / 64 + 1))), (0, .ref B), (1, .ref r), (2, .int (nI at_)), (3, .int (nI n))] [] z (va_up (va_up M (B + 3) (.inl (0, 8, .inl (v)))) (B + 4) (.inl (0, 64, .inl (u))))) : ∀ k i u, k = 16 - i → i ≤ 16 → (∀ j, j < i → u j = sh_w1 f at_ n (64 * b + 4 * j) 4) → hz_W κ xX12_hashOf 2 0 0 P 0 0 54 [(6, .int (nI i)), (5, .int (nI b)), (4, .int (nI ((n + 8) / 64 + 1))), (0, .ref B), (1, .ref r), (2, .int (nI at_)), (3, .int (nI n))] [] z (va_up (va_up M (B + 3) (.inl (0, 8, .inl (v)))) (B + 4) (.inl (0, 64, .inl (u)))) := by
  intro k
  induction k using Nat.strongRecOn with
  | ind k ih =>
  intro i u hk hi hu
  refine hz_iload (pc := 54) 0 (hz_dec kX12_hashOf 30 rfl) rfl ?_
  refine hz_bipush (pc := 56) (v := nI 16) (hz_dec kX12_hashOf 31 rfl) (by decide) ?_
  refine hz_n_ge (pc := 58) (tgt := 149) (hz_dec kX12_hashOf 32 rfl) (by decide) (by omega) (by omega) (fun h1 => ?_) (fun h1 => ?_)
  · skip
    have e : i = 16 := by omega
    subst e
    refine hz_pick (pc := 149) [1, 2, 3, 4, 5, 6] rfl ?_
    exact K u hu
  · skip
    refine hz_iconst (pc := 61) (v := nI 0) (hz_dec kX12_hashOf 33 rfl) (by decide) ?_
    refine hz_istore (pc := 62) (i := 7) (lo2 := [(7, .int (nI 0)), (6, .int (nI i)), (5, .int (nI b)), (4, .int (nI ((n + 8) / 64 + 1))), (0, .ref B), (1, .ref r), (2, .int (nI at_)), (3, .int (nI n))]) (hz_dec kX12_hashOf 34 rfl) (by decide) rfl ?_
    refine hz_iconst (pc := 64) (v := nI 0) (hz_dec kX12_hashOf 35 rfl) (by decide) ?_
    refine hz_istore (pc := 65) (i := 8) (lo2 := [(8, .int (nI 0)), (7, .int (nI 0)), (6, .int (nI i)), (5, .int (nI b)), (4, .int (nI ((n + 8) / 64 + 1))), (0, .ref B), (1, .ref r), (2, .int (nI at_)), (3, .int (nI n))]) (hz_dec kX12_hashOf 36 rfl) (by decide) rfl ?_
    refine hz_pick (pc := 67) [0, 1, 2, 3, 4, 5, 6, 7, 8] rfl ?_
    refine l_hoB hO hF h8 hz hfi hff had hfa hst hwo hdi hR hr8 hrz hnb hrr hr3 hr4 hb h1 ?_ 4 0 rfl (by omega)
    refine hz_aloadn (pc := 134) 4 (hz_dec kX12_hashOf 74 rfl) rfl ?_
    refine hz_get (pc := 135) (v := .ref (B + 4)) (hz_dec kX12_hashOf 75 rfl) fo_X12_19 (hz_mne (hz_mne hO (by omega)) (by omega)) h8 (by omega) (hF.2 5 (by decide) (by decide)) ?_
    refine hz_iload (pc := 138) 1 (hz_dec kX12_hashOf 76 rfl) rfl ?_
    refine hz_iload (pc := 140) 0 (hz_dec kX12_hashOf 77 rfl) rfl ?_
    refine hz_iast (pc := 142) (j := i) (hz_dec kX12_hashOf 78 rfl) (va_up_self _ _ _) (by omega) (by omega) rfl (by omega) (by decide) ?_
    refine hz_mem (pc := 143) (M2 := (va_up (va_up M (B + 3) (.inl (0, 8, .inl (v)))) (B + 4) (.inl (0, 64, .inl (upd u i ((sh_w1 f at_ n (64 * b + 4 * i) 4))))))) (bx_uu _ _ _ _) ?_
    refine hz_incN (pc := 143) (i := 6) (lo2 := [(6, .int (nI (i + 1))), (7, .int (sh_w1 f at_ n (64 * b + 4 * i) 4)), (5, .int (nI b)), (4, .int (nI ((n + 8) / 64 + 1))), (0, .ref B), (1, .ref r), (2, .int (nI at_)), (3, .int (nI n))]) 1 (hz_dec kX12_hashOf 79 rfl) rfl (by decide) rfl ?_
    refine hz_goto (pc := 146) (tgt := 54) (hz_dec kX12_hashOf 80 rfl) (by decide) ?_
    refine hz_pick (pc := 54) [0, 2, 3, 4, 5, 6, 7] rfl ?_
    refine ih (16 - (i + 1)) (by omega) (i + 1) _ rfl (by omega) (fun j hj => ?_)
    simp only [upd]
    split
    · next e => subst e; rfl
    · exact hu j (by omega)
set_option maxHeartbeats 4000000 in
set_option maxRecDepth 100000 in
theorem l_hoD {κ : hz_C} {z : Nat} {M : hz_M} {P : hz_P} {B : Nat} {fs : List Value} (hO : M B = .inr (12, fs)) (hF : md_F B fs) (h8 : 8 ≤ B) (hz : B + 88 ≤ z) {ff fa fv fw fd : Nat → Int32} (hfi : M (B + 1) = .inl (0, 8, .inl ff)) (hff : ∀ j, j < 8 → ff j = hz_sf 0 j) (had : M (B + 2) = .inl (0, 64, .inl fa)) (hfa : ∀ j, j < 64 → fa j = hz_sf 1 j) (hst : M (B + 3) = .inl (0, 8, .inl fv)) (hwo : M (B + 4) = .inl (0, 64, .inl fw)) (hdi : M (B + 5) = .inl (1, 32, .inl fd)) {r nb at_ n : Nat} {f : Nat → Int32} (hR : M r = .inl (1, nb, .inl f)) (hr8 : 8 ≤ r) (hrz : r < z) (hnb : nb < 2 ^ 24) (hrr : at_ + n ≤ nb) (hr3 : r ≠ B + 3) (hr4 : r ≠ B + 4) {v u : Nat → Int32} (K : ∀ dg : Nat → Int32, (∀ i, i < 32 → dg i = sh_dg v i) → P none z (va_up (va_up (va_up M (B + 3) (.inl (0, 8, .inl (v)))) (B + 4) (.inl (0, 64, .inl (u)))) (B + 5) (.inl (1, 32, .inl (dg))))) : ∀ k q dg, k = 32 - q → q ≤ 32 → (∀ i, i < q → dg i = sh_dg v i) → hz_W κ xX12_hashOf 2 0 0 P 0 0 182 [(5, .int (nI q)), (0, .ref B)] [] z (va_up (va_up (va_up M (B + 3) (.inl (0, 8, .inl (v)))) (B + 4) (.inl (0, 64, .inl (u)))) (B + 5) (.inl (1, 32, .inl (dg)))) := by
  intro k
  induction k using Nat.strongRecOn with
  | ind k ih =>
  intro q dg hk hq hd
  refine hz_iload (pc := 182) 0 (hz_dec kX12_hashOf 99 rfl) rfl ?_
  refine hz_bipush (pc := 184) (v := nI 32) (hz_dec kX12_hashOf 100 rfl) (by decide) ?_
  refine hz_n_ge (pc := 186) (tgt := 223) (hz_dec kX12_hashOf 101 rfl) (by decide) (by omega) (by omega) (fun h1 => ?_) (fun h1 => ?_)
  · skip
    have e : q = 32 := by omega
    subst e
    exact hz_vret (pc := 223) (hz_dec kX12_hashOf 123 rfl) rfl (K dg hd)
  · skip
    refine hz_aloadn (pc := 189) 1 (hz_dec kX12_hashOf 102 rfl) rfl ?_
    refine hz_get (pc := 190) (v := .ref (B + 5)) (hz_dec kX12_hashOf 103 rfl) fo_X12_22 (hz_mne (hz_mne (hz_mne hO (by omega)) (by omega)) (by omega)) h8 (by omega) (hF.2 6 (by decide) (by decide)) ?_
    refine hz_iload (pc := 193) 0 (hz_dec kX12_hashOf 104 rfl) rfl ?_
    refine hz_aloadn (pc := 195) 1 (hz_dec kX12_hashOf 105 rfl) rfl ?_
    refine hz_get (pc := 196) (v := .ref (B + 3)) (hz_dec kX12_hashOf 106 rfl) fo_X12_16 (hz_mne (hz_mne (hz_mne hO (by omega)) (by omega)) (by omega)) h8 (by omega) (hF.2 4 (by decide) (by decide)) ?_
    refine hz_iload (pc := 199) 0 (hz_dec kX12_hashOf 107 rfl) rfl ?_
    refine hz_iconst (pc := 201) (v := nI 4) (hz_dec kX12_hashOf 108 rfl) (by decide) ?_
    refine hz_divN (pc := 202) (hz_dec kX12_hashOf 109 rfl) (by omega) (by decide) (by decide) ?_
    refine hz_iald (pc := 203) (j := q / 4) (hz_dec kX12_hashOf 110 rfl) (hz_mne (hz_mne (va_up_self _ _ _) (by omega)) (by omega)) (by omega) (by omega) rfl (by omega) (by decide) ?_
    refine hz_bipush (pc := 204) (v := nI 24) (hz_dec kX12_hashOf 111 rfl) (by decide) ?_
    refine hz_bipush (pc := 206) (v := nI 8) (hz_dec kX12_hashOf 112 rfl) (by decide) ?_
    refine hz_iload (pc := 208) 0 (hz_dec kX12_hashOf 113 rfl) rfl ?_
    refine hz_iconst (pc := 210) (v := nI 4) (hz_dec kX12_hashOf 114 rfl) (by decide) ?_
    refine hz_remN (pc := 211) (hz_dec kX12_hashOf 115 rfl) (by omega) (by decide) (by decide) ?_
    refine hz_mulN (pc := 212) (hz_dec kX12_hashOf 116 rfl) ?_
    refine hz_subN (pc := 213) (hz_dec kX12_hashOf 117 rfl) (by omega) ?_
    refine hz_ishr (pc := 214) (hz_dec kX12_hashOf 118 rfl) ?_
    refine hz_i2b (pc := 215) (hz_dec kX12_hashOf 119 rfl) ?_
    refine hz_bast (pc := 216) (j := q) (hz_dec kX12_hashOf 120 rfl) (va_up_self _ _ _) (by omega) (by omega) rfl (by omega) (by decide) ?_
    refine hz_mem (pc := 217) (M2 := (va_up (va_up (va_up M (B + 3) (.inl (0, 8, .inl (v)))) (B + 4) (.inl (0, 64, .inl (u)))) (B + 5) (.inl (1, 32, .inl (upd dg q ((((v (q / 4)) >>> ((nI (24 - (8 * (q % 4)))) &&& 31)).toInt8.toInt32).toInt8.toInt32)))))) (bx_uu _ _ _ _) ?_
    refine hz_incN (pc := 217) (i := 5) (lo2 := [(5, .int (nI (q + 1))), (0, .ref B)]) 0 (hz_dec kX12_hashOf 121 rfl) rfl (by decide) rfl ?_
    refine hz_goto (pc := 220) (tgt := 182) (hz_dec kX12_hashOf 122 rfl) (by decide) ?_
    refine hz_pick (pc := 182) [0, 1] rfl ?_
    refine ih (32 - (q + 1)) (by omega) (q + 1) _ rfl (by omega) (fun j hj => ?_)
    simp only [upd]
    split
    · next e => subst e; rfl
    · exact hd j (by omega)
theorem sh_lastm {u1 f : Nat → Int32} {at_ n fr : Nat} (hu : ∀ j, j < 16 → u1 j = sh_w1 f at_ n (fr + 4 * j) 4) (h2 : n + 9 ≤ fr + 64) : ∀ j, j < 16 → (upd u1 15 (nI (8 * n))) j = sh_wd f at_ n fr j := by
  intro j hj
  unfold sh_wd
  by_cases h15 : j = 15
  · subst h15
    rw [if_pos ⟨h2, rfl⟩]
    simp [upd]
  · rw [if_neg (fun q => h15 q.2)]
    simp only [upd, if_neg h15]
    exact hu j hj
set_option maxHeartbeats 4000000 in
set_option maxRecDepth 100000 in
theorem l_hoO {κ : hz_C} {z : Nat} {M : hz_M} {P : hz_P} {B : Nat} {fs : List Value} (hO : M B = .inr (12, fs)) (hF : md_F B fs) (h8 : 8 ≤ B) (hz : B + 88 ≤ z) {ff fa fv fw fd : Nat → Int32} (hfi : M (B + 1) = .inl (0, 8, .inl ff)) (hff : ∀ j, j < 8 → ff j = hz_sf 0 j) (had : M (B + 2) = .inl (0, 64, .inl fa)) (hfa : ∀ j, j < 64 → fa j = hz_sf 1 j) (hst : M (B + 3) = .inl (0, 8, .inl fv)) (hwo : M (B + 4) = .inl (0, 64, .inl fw)) (hdi : M (B + 5) = .inl (1, 32, .inl fd)) {r nb at_ n : Nat} {f : Nat → Int32} (hR : M r = .inl (1, nb, .inl f)) (hr8 : 8 ≤ r) (hrz : r < z) (hnb : nb < 2 ^ 24) (hrr : at_ + n ≤ nb) (hr3 : r ≠ B + 3) (hr4 : r ≠ B + 4) (K : ∀ v u : Nat → Int32, (∀ j, j < 8 → v j = sh_h f at_ n j) → hz_W κ xX12_hashOf 2 0 0 P 0 0 179 [(0, .ref B)] [] z (va_up (va_up M (B + 3) (.inl (0, 8, .inl (v)))) (B + 4) (.inl (0, 64, .inl (u))))) : ∀ k b v u, k = (n + 8) / 64 + 1 - b → b ≤ (n + 8) / 64 + 1 → (∀ j, j < 8 → v j = sh_all f at_ n b j) → hz_W κ xX12_hashOf 2 0 0 P 0 0 44 [(5, .int (nI b)), (4, .int (nI ((n + 8) / 64 + 1))), (0, .ref B), (1, .ref r), (2, .int (nI at_)), (3, .int (nI n))] [] z (va_up (va_up M (B + 3) (.inl (0, 8, .inl (v)))) (B + 4) (.inl (0, 64, .inl (u)))) := by
  intro k
  induction k using Nat.strongRecOn with
  | ind k ih =>
  intro b v u hk hb hv
  refine hz_iload (pc := 44) 0 (hz_dec kX12_hashOf 25 rfl) rfl ?_
  refine hz_iload (pc := 46) 1 (hz_dec kX12_hashOf 26 rfl) rfl ?_
  refine hz_n_ge (pc := 48) (tgt := 179) (hz_dec kX12_hashOf 27 rfl) (by decide) (by omega) (by omega) (fun h1 => ?_) (fun h1 => ?_)
  · skip
    have e : b = (n + 8) / 64 + 1 := by omega
    subst e
    refine hz_pick (pc := 179) [2] rfl ?_
    exact K v u hv
  · skip
    refine hz_iconst (pc := 51) (v := nI 0) (hz_dec kX12_hashOf 28 rfl) (by decide) ?_
    refine hz_istore (pc := 52) (i := 6) (lo2 := [(6, .int (nI 0)), (5, .int (nI b)), (4, .int (nI ((n + 8) / 64 + 1))), (0, .ref B), (1, .ref r), (2, .int (nI at_)), (3, .int (nI n))]) (hz_dec kX12_hashOf 29 rfl) (by decide) rfl ?_
    refine hz_pick (pc := 54) [0, 1, 2, 3, 4, 5, 6] rfl ?_
    refine l_hoF hO hF h8 hz hfi hff had hfa hst hwo hdi hR hr8 hrz hnb hrr hr3 hr4 h1 (fun u1 hu1 => ?_) 16 0 u rfl (by omega) (fun j hj => absurd hj (by omega))
    refine hz_iload (pc := 149) 0 (hz_dec kX12_hashOf 81 rfl) rfl ?_
    refine hz_iload (pc := 151) 1 (hz_dec kX12_hashOf 82 rfl) rfl ?_
    refine hz_iconst (pc := 153) (v := nI 1) (hz_dec kX12_hashOf 83 rfl) (by decide) ?_
    refine hz_subN (pc := 154) (hz_dec kX12_hashOf 84 rfl) (by omega) ?_
    refine hz_n_ne (pc := 155) (tgt := 169) (hz_dec kX12_hashOf 85 rfl) (by decide) (by omega) (by omega) (fun h2 => ?_) (fun h2 => ?_)
    · skip
      have hw2 : ∀ j, j < 16 → (u1) j = sh_wd f at_ n (64 * b) j := fun j hj => by rw [hu1 j hj, sh_wd, if_neg (by omega)]
      refine hz_aloadn (pc := 169) 2 (hz_dec kX12_hashOf 93 rfl) rfl ?_
      refine hz_callV (pc := 170) (a := B) (As := []) (st := []) (hz_dec kX12_hashOf 94 rfl) co_X12_323 im_X12_turnWords se_X12_turnWords rfl (hz_mne (hz_mne hO (by omega)) (by omega)) h8 (by omega) (c_turnWords (hz_mne (hz_mne hO (by omega)) (by omega)) hF h8 hz (hz_mne (va_up_self _ _ _) (by omega)) (va_up_self _ _ _) (hz_mne (hz_mne had (by omega)) (by omega)) hfa) rfl (by decide) ⟨Nat.le_refl _, Nat.le_refl _⟩ (Nat.le_of_ble_eq_true rfl) rfl (fun r9 z9 M9 hp9 => ?_)
      obtain ⟨rfl, rfl, v2, u2, hv2, rfl⟩ := hp9
      refine hz_mem (pc := 173) (M2 := (va_up (va_up M (B + 3) (.inl (0, 8, .inl (v2)))) (B + 4) (.inl (0, 64, .inl (u2))))) (by rw [hz_upc (by omega), hz_upc (by omega)]) ?_
      refine hz_incN (pc := 173) (i := 5) (lo2 := [(5, .int (nI (b + 1))), (4, .int (nI ((n + 8) / 64 + 1))), (0, .ref B), (1, .ref r), (2, .int (nI at_)), (3, .int (nI n))]) 0 (hz_dec kX12_hashOf 95 rfl) rfl (by decide) rfl ?_
      refine hz_goto (pc := 176) (tgt := 44) (hz_dec kX12_hashOf 96 rfl) (by decide) ?_
      refine hz_pick (pc := 44) [0, 1, 2, 3, 4, 5] rfl ?_
      have hv3 : ∀ j, j < 8 → v2 j = sh_all f at_ n (b + 1) j := fun j hj => (hv2 j hj).trans (sh_blk_c hv hw2 j hj)
      exact ih ((n + 8) / 64 + 1 - (b + 1)) (by omega) (b + 1) v2 u2 rfl (by omega) hv3
    · skip
      refine hz_aloadn (pc := 158) 2 (hz_dec kX12_hashOf 86 rfl) rfl ?_
      refine hz_get (pc := 159) (v := .ref (B + 4)) (hz_dec kX12_hashOf 87 rfl) fo_X12_19 (hz_mne (hz_mne hO (by omega)) (by omega)) h8 (by omega) (hF.2 5 (by decide) (by decide)) ?_
      refine hz_bipush (pc := 162) (v := nI 15) (hz_dec kX12_hashOf 88 rfl) (by decide) ?_
      refine hz_bipush (pc := 164) (v := nI 8) (hz_dec kX12_hashOf 89 rfl) (by decide) ?_
      refine hz_iloadn (pc := 166) 5 (hz_dec kX12_hashOf 90 rfl) rfl ?_
      refine hz_mulN (pc := 167) (hz_dec kX12_hashOf 91 rfl) ?_
      refine hz_iast (pc := 168) (j := 15) (hz_dec kX12_hashOf 92 rfl) (va_up_self _ _ _) (by omega) (by omega) rfl (by omega) (by decide) ?_
      refine hz_mem (pc := 169) (M2 := (va_up (va_up M (B + 3) (.inl (0, 8, .inl (v)))) (B + 4) (.inl (0, 64, .inl (upd u1 15 ((nI (8 * n)))))))) (bx_uu _ _ _ _) ?_
      have hw2 : ∀ j, j < 16 → (upd u1 15 ((nI (8 * n)))) j = sh_wd f at_ n (64 * b) j := sh_lastm hu1 (by omega)
      refine hz_aloadn (pc := 169) 2 (hz_dec kX12_hashOf 93 rfl) rfl ?_
      refine hz_callV (pc := 170) (a := B) (As := []) (st := []) (hz_dec kX12_hashOf 94 rfl) co_X12_323 im_X12_turnWords se_X12_turnWords rfl (hz_mne (hz_mne hO (by omega)) (by omega)) h8 (by omega) (c_turnWords (hz_mne (hz_mne hO (by omega)) (by omega)) hF h8 hz (hz_mne (va_up_self _ _ _) (by omega)) (va_up_self _ _ _) (hz_mne (hz_mne had (by omega)) (by omega)) hfa) rfl (by decide) ⟨Nat.le_refl _, Nat.le_refl _⟩ (Nat.le_of_ble_eq_true rfl) rfl (fun r9 z9 M9 hp9 => ?_)
      obtain ⟨rfl, rfl, v2, u2, hv2, rfl⟩ := hp9
      refine hz_mem (pc := 173) (M2 := (va_up (va_up M (B + 3) (.inl (0, 8, .inl (v2)))) (B + 4) (.inl (0, 64, .inl (u2))))) (by rw [hz_upc (by omega), hz_upc (by omega)]) ?_
      refine hz_incN (pc := 173) (i := 5) (lo2 := [(5, .int (nI (b + 1))), (4, .int (nI ((n + 8) / 64 + 1))), (0, .ref B), (1, .ref r), (2, .int (nI at_)), (3, .int (nI n))]) 0 (hz_dec kX12_hashOf 95 rfl) rfl (by decide) rfl ?_
      refine hz_goto (pc := 176) (tgt := 44) (hz_dec kX12_hashOf 96 rfl) (by decide) ?_
      refine hz_pick (pc := 44) [0, 1, 2, 3, 4, 5] rfl ?_
      have hv3 : ∀ j, j < 8 → v2 j = sh_all f at_ n (b + 1) j := fun j hj => (hv2 j hj).trans (sh_blk_c hv hw2 j hj)
      exact ih ((n + 8) / 64 + 1 - (b + 1)) (by omega) (b + 1) v2 u2 rfl (by omega) hv3
def md_hP (M : hz_M) (z B : Nat) (f : Nat → Int32) (at_ n : Nat) : hz_P := fun r z2 M2 => none = r ∧ z = z2 ∧ ∃ v u dg : Nat → Int32, (∀ j, j < 8 → v j = sh_h f at_ n j) ∧ (∀ i, i < 32 → dg i = sh_dg (sh_h f at_ n) i) ∧ (va_up (va_up (va_up M (B + 3) (.inl (0, 8, .inl (v)))) (B + 4) (.inl (0, 64, .inl (u)))) (B + 5) (.inl (1, 32, .inl (dg)))) = M2
set_option maxHeartbeats 4000000 in
set_option maxRecDepth 100000 in
theorem c_hashOf {κ : hz_C} {z : Nat} {M : hz_M} {B : Nat} {fs : List Value} (hO : M B = .inr (12, fs)) (hF : md_F B fs) (h8 : 8 ≤ B) (hz : B + 88 ≤ z) {ff fa fv fw fd : Nat → Int32} (hfi : M (B + 1) = .inl (0, 8, .inl ff)) (hff : ∀ j, j < 8 → ff j = hz_sf 0 j) (had : M (B + 2) = .inl (0, 64, .inl fa)) (hfa : ∀ j, j < 64 → fa j = hz_sf 1 j) (hst : M (B + 3) = .inl (0, 8, .inl fv)) (hwo : M (B + 4) = .inl (0, 64, .inl fw)) (hdi : M (B + 5) = .inl (1, 32, .inl fd)) {r nb at_ n : Nat} {f : Nat → Int32} (hR : M r = .inl (1, nb, .inl f)) (hr8 : 8 ≤ r) (hrz : r < z) (hnb : nb < 2 ^ 24) (hrr : at_ + n ≤ nb) : hz_Mt κ xX12_hashOf 2 0 0 [.ref B, .ref r, .int (nI at_), .int (nI n)] z M (md_hP M z B f at_ n) := by
  refine hz_ent (lo := [(0, .ref B), (1, .ref r), (2, .int (nI at_)), (3, .int (nI n))]) (by decide) (Nat.le_of_ble_eq_true rfl) rfl ?_
  have hr3 : r ≠ B + 3 := hz_tt hR hst (by decide)
  have hr4 : r ≠ B + 4 := hz_tt hR hwo (by decide)
  refine hz_iconst (pc := 0) (v := nI 0) (hz_dec kX12_hashOf 0 rfl) (by decide) ?_
  refine hz_istore (pc := 1) (i := 4) (lo2 := [(4, .int (nI 0)), (0, .ref B), (1, .ref r), (2, .int (nI at_)), (3, .int (nI n))]) (hz_dec kX12_hashOf 1 rfl) (by decide) rfl ?_
  refine hz_pick (pc := 3) [0, 1, 2, 3, 4] rfl ?_
  refine hz_mem (hz_upid hst).symm ?_
  refine l_ho0 hO hF h8 hz hfi hff had hfa hst hwo hdi hR hr8 hrz hnb hrr hr3 hr4 (fun v hv => ?_) 8 0 fv rfl (by omega) (fun j hj => absurd hj (by omega))
  refine hz_iloadn (pc := 30) 3 (hz_dec kX12_hashOf 15 rfl) rfl ?_
  refine hz_bipush (pc := 31) (v := nI 8) (hz_dec kX12_hashOf 16 rfl) (by decide) ?_
  refine hz_addN (pc := 33) (hz_dec kX12_hashOf 17 rfl) ?_
  refine hz_bipush (pc := 34) (v := nI 64) (hz_dec kX12_hashOf 18 rfl) (by decide) ?_
  refine hz_divN (pc := 36) (hz_dec kX12_hashOf 19 rfl) (by omega) (by decide) (by decide) ?_
  refine hz_iconst (pc := 37) (v := nI 1) (hz_dec kX12_hashOf 20 rfl) (by decide) ?_
  refine hz_addN (pc := 38) (hz_dec kX12_hashOf 21 rfl) ?_
  refine hz_istore (pc := 39) (i := 4) (lo2 := [(4, .int (nI (((n + 8) / 64) + 1))), (0, .ref B), (1, .ref r), (2, .int (nI at_)), (3, .int (nI n))]) (hz_dec kX12_hashOf 22 rfl) (by decide) rfl ?_
  refine hz_iconst (pc := 41) (v := nI 0) (hz_dec kX12_hashOf 23 rfl) (by decide) ?_
  refine hz_istore (pc := 42) (i := 5) (lo2 := [(5, .int (nI 0)), (4, .int (nI (((n + 8) / 64) + 1))), (0, .ref B), (1, .ref r), (2, .int (nI at_)), (3, .int (nI n))]) (hz_dec kX12_hashOf 24 rfl) (by decide) rfl ?_
  refine hz_pick (pc := 44) [0, 1, 2, 3, 4, 5] rfl ?_
  have hWW : va_up M (B + 3) (.inl (0, 8, .inl v)) (B + 4) = .inl (0, 64, .inl fw) := hz_mne hwo (by omega)
  refine hz_mem (hz_upid hWW).symm ?_
  refine l_hoO hO hF h8 hz hfi hff had hfa hst hwo hdi hR hr8 hrz hnb hrr hr3 hr4 (fun v u hv => ?_) ((n + 8) / 64 + 1) 0 v fw rfl (by omega) hv
  refine hz_iconst (pc := 179) (v := nI 0) (hz_dec kX12_hashOf 97 rfl) (by decide) ?_
  refine hz_istore (pc := 180) (i := 5) (lo2 := [(5, .int (nI 0)), (0, .ref B)]) (hz_dec kX12_hashOf 98 rfl) (by decide) rfl ?_
  refine hz_pick (pc := 182) [0, 1] rfl ?_
  have hDD : (va_up (va_up M (B + 3) (.inl (0, 8, .inl (v)))) (B + 4) (.inl (0, 64, .inl (u)))) (B + 5) = .inl (1, 32, .inl fd) := hz_mne (hz_mne hdi (by omega)) (by omega)
  refine hz_mem (hz_upid hDD).symm ?_
  refine l_hoD hO hF h8 hz hfi hff had hfa hst hwo hdi hR hr8 hrz hnb hrr hr3 hr4 (fun dg hd => ⟨rfl, rfl, v, u, dg, hv, fun i hi => ?_, rfl⟩) 32 0 fd rfl (by omega) (fun j hj => absurd hj (by omega))
  rw [hd i hi]; unfold sh_dg; rw [hv (i / 4) (by omega)]
