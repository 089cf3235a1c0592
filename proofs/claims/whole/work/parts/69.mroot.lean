/-! the reference: findRoot -/
set_option maxHeartbeats 4000000 in
set_option maxRecDepth 100000 in
theorem c_fr_c {κ : hz_C} {z : Nat} {M : hz_M} {B r l hf q : Nat} {fs : List Value} (hO : M B = .inr (12, fs)) (hF : md_F B fs) (h8 : 8 ≤ B) (hz : B + 88 ≤ z) {fr : Nat → Int32} (h15 : M (B + 15) = .inl (1, 256, .inl fr)) (hq : 1 ≤ q) (hq2 : 64 * q + 32 ≤ 256) {P : hz_P} (K : ∀ fx : Nat → Int32, (∀ j, j < 32 → fx (32 * q + j) = fr (64 * q + j)) → (∀ x, x < 32 * q ∨ 32 * q + 32 ≤ x → fx x = fr x) → hz_W κ xX12_findRoot 4 0 0 P 0 0 159 [(4, .int (nI q)), (3, .int (nI hf)), (2, .int (nI l)), (0, .ref B), (1, .ref r)] [] z (va_up M (B + 15) (.inl (1, 256, .inl fx)))) : ∀ k i fx, k = 32 - i → i ≤ 32 → (∀ j, j < i → fx (32 * q + j) = fr (64 * q + j)) → (∀ x, x < 32 * q ∨ 32 * q + i ≤ x → fx x = fr x) → (∀ x, x < 256 → (fx x).toInt8.toInt32 = fx x) → hz_W κ xX12_findRoot 4 0 0 P 0 0 120 [(5, .int (nI i)), (4, .int (nI q)), (3, .int (nI hf)), (2, .int (nI l)), (0, .ref B), (1, .ref r)] [] z (va_up M (B + 15) (.inl (1, 256, .inl fx))) := by
  intro k
  induction k using Nat.strongRecOn with
  | ind k ih =>
  intro i fx hk_ hi h1 h2 hby
  refine hz_iload (pc := 120) 0 (hz_dec kX12_findRoot 74 rfl) rfl ?_
  refine hz_bipush (pc := 122) (v := nI 32) (hz_dec kX12_findRoot 75 rfl) (by decide) ?_
  refine hz_n_ge (pc := 124) (tgt := 159) (hz_dec kX12_findRoot 76 rfl) (by decide) (by omega) (by omega) (fun h9 => ?_) (fun h9 => ?_)
  · skip
    have e : i = 32 := by omega
    subst e
    refine hz_pick (pc := 159) [1, 2, 3, 4, 5] rfl ?_
    exact K fx h1 h2
  · skip
    refine hz_aloadn (pc := 127) 4 (hz_dec kX12_findRoot 77 rfl) rfl ?_
    refine hz_get (pc := 128) (v := .ref (B + 15)) (hz_dec kX12_findRoot 78 rfl) fo_X12_54 (hz_mne hO (by omega)) h8 (by omega) (hF.2 17 (by decide) (by decide)) ?_
    refine hz_bipush (pc := 131) (v := nI 32) (hz_dec kX12_findRoot 79 rfl) (by decide) ?_
    refine hz_iload (pc := 133) 1 (hz_dec kX12_findRoot 80 rfl) rfl ?_
    refine hz_mulN (pc := 135) (hz_dec kX12_findRoot 81 rfl) ?_
    refine hz_iload (pc := 136) 0 (hz_dec kX12_findRoot 82 rfl) rfl ?_
    refine hz_addN (pc := 138) (hz_dec kX12_findRoot 83 rfl) ?_
    refine hz_aloadn (pc := 139) 4 (hz_dec kX12_findRoot 84 rfl) rfl ?_
    refine hz_get (pc := 140) (v := .ref (B + 15)) (hz_dec kX12_findRoot 85 rfl) fo_X12_54 (hz_mne hO (by omega)) h8 (by omega) (hF.2 17 (by decide) (by decide)) ?_
    refine hz_bipush (pc := 143) (v := nI 64) (hz_dec kX12_findRoot 86 rfl) (by decide) ?_
    refine hz_iload (pc := 145) 1 (hz_dec kX12_findRoot 87 rfl) rfl ?_
    refine hz_mulN (pc := 147) (hz_dec kX12_findRoot 88 rfl) ?_
    refine hz_iload (pc := 148) 0 (hz_dec kX12_findRoot 89 rfl) rfl ?_
    refine hz_addN (pc := 150) (hz_dec kX12_findRoot 90 rfl) ?_
    refine hz_bald (pc := 151) (j := (64 * q) + i) (hz_dec kX12_findRoot 91 rfl) (va_up_self _ _ _) (by omega) (by omega) rfl (by omega) (by omega) ?_
    refine hz_bast (pc := 152) (j := (32 * q) + i) (hz_dec kX12_findRoot 92 rfl) (va_up_self _ _ _) (by omega) (by omega) rfl (by omega) (by omega) ?_
    refine hz_mem (pc := 153) (M2 := (va_up M (B + 15) (.inl (1, 256, .inl (upd fx ((32 * q) + i) ((fx ((64 * q) + i)).toInt8.toInt32)))))) (bx_uu _ _ _ _) ?_
    refine hz_incN (pc := 153) (i := 5) (lo2 := [(5, .int (nI (i + 1))), (4, .int (nI q)), (3, .int (nI hf)), (2, .int (nI l)), (0, .ref B), (1, .ref r)]) 0 (hz_dec kX12_findRoot 93 rfl) rfl (by decide) rfl ?_
    refine hz_goto (pc := 156) (tgt := 120) (hz_dec kX12_findRoot 94 rfl) (by decide) ?_
    refine hz_pick (pc := 120) [0, 1, 2, 3, 4, 5] rfl ?_
    refine ih (32 - (i + 1)) (by omega) (i + 1) _ rfl (by omega) (fun j hj => ?_) (fun x hx => ?_) (fun x hx => ?_)
    · simp only [upd]
      split
      · next e => rw [show j = i by omega, hby _ (by omega), h2 _ (by omega)]
      · exact h1 j (by omega)
    · simp only [upd]
      rw [if_neg (by omega)]
      exact h2 x (by omega)
    · simp only [upd]
      split
      · rw [hby _ (by omega), hby _ (by omega)]
      · exact hby x hx
set_option maxHeartbeats 4000000 in
set_option maxRecDepth 100000 in
theorem c_fr_i {κ : hz_C} {z : Nat} {M0 : hz_M} {B : Nat} (hk0 : md_k B M0 z) {r l : Nat} {P : hz_P} (hl8 : l ≤ 8) {g : Nat → by_L} (hl2 : 2 ≤ l) (hg : ∀ i, i < l → (g i).length = 32) (K : ∀ M fr, mfr B [] [3, 4, 5, 7, 15] M0 M → md_s B M → M (B + 15) = .inl (1, 256, .inl fr) → lvI fr g l ((l + 1) / 2) → hz_W κ xX12_findRoot 4 0 0 P 0 0 165 [(3, .int (nI ((l + 1) / 2))), (2, .int (nI l)), (0, .ref B), (1, .ref r)] [] z M) : ∀ k q M fr, k = (l + 1) / 2 - q → q ≤ (l + 1) / 2 → mfr B [] [3, 4, 5, 7, 15] M0 M → md_s B M → M (B + 15) = .inl (1, 256, .inl fr) → lvI fr g l q → hz_W κ xX12_findRoot 4 0 0 P 0 0 70 [(4, .int (nI q)), (3, .int (nI ((l + 1) / 2))), (2, .int (nI l)), (0, .ref B), (1, .ref r)] [] z M := by
  intro k
  induction k using Nat.strongRecOn with
  | ind k ih =>
  intro q M fr hk_ hq hfr hs h15 hi
  have hk : md_k B M z := hk0.mf hfr rfl rfl
  obtain ⟨⟨fs, hO, hF⟩, -, -, h8, hz⟩ := id hk
  refine hz_iload (pc := 70) 0 (hz_dec kX12_findRoot 46 rfl) rfl ?_
  refine hz_iloadn (pc := 72) 1 (hz_dec kX12_findRoot 47 rfl) rfl ?_
  refine hz_n_ge (pc := 73) (tgt := 165) (hz_dec kX12_findRoot 48 rfl) (by decide) (by omega) (by omega) (fun h1 => ?_) (fun h1 => ?_)
  · skip
    have e : q = (l + 1) / 2 := by omega
    subst e
    refine hz_pick (pc := 165) [1, 2, 3, 4] rfl ?_
    exact K M fr hfr hs h15 hi
  · skip
    refine hz_iconst (pc := 76) (v := nI 2) (hz_dec kX12_findRoot 49 rfl) (by decide) ?_
    refine hz_iload (pc := 77) 0 (hz_dec kX12_findRoot 50 rfl) rfl ?_
    refine hz_mulN (pc := 79) (hz_dec kX12_findRoot 51 rfl) ?_
    refine hz_iconst (pc := 80) (v := nI 1) (hz_dec kX12_findRoot 52 rfl) (by decide) ?_
    refine hz_addN (pc := 81) (hz_dec kX12_findRoot 53 rfl) ?_
    refine hz_iloadn (pc := 82) 2 (hz_dec kX12_findRoot 54 rfl) rfl ?_
    refine hz_n_ge (pc := 83) (tgt := 117) (hz_dec kX12_findRoot 55 rfl) (by decide) (by omega) (by omega) (fun h2 => ?_) (fun h2 => ?_)
    · skip
      refine hz_bytes h15 (by omega) (by omega) (fun hby => ?_)
      refine hz_iconst (pc := 117) (v := nI 0) (hz_dec kX12_findRoot 72 rfl) (by decide) ?_
      refine hz_istore (pc := 118) (i := 5) (lo2 := [(5, .int (nI 0)), (4, .int (nI q)), (3, .int (nI ((l + 1) / 2))), (2, .int (nI l)), (0, .ref B), (1, .ref r)]) (hz_dec kX12_findRoot 73 rfl) (by decide) rfl ?_
      refine hz_pick (pc := 120) [0, 1, 2, 3, 4, 5] rfl ?_
      refine hz_mem (pc := 120) (hz_upid h15).symm ?_
      refine c_fr_c hO hF h8 hz h15 (by omega) (by omega) (fun fx e1 e2 => ?_) 32 0 fr rfl (by omega) (fun j hj => absurd hj (by omega)) (fun x _ => rfl) hby
      refine hz_incN (pc := 159) (i := 4) (lo2 := [(4, .int (nI (q + 1))), (3, .int (nI ((l + 1) / 2))), (2, .int (nI l)), (0, .ref B), (1, .ref r)]) 0 (hz_dec kX12_findRoot 95 rfl) rfl (by decide) rfl ?_
      refine hz_goto (pc := 162) (tgt := 70) (hz_dec kX12_findRoot 96 rfl) (by decide) ?_
      refine hz_pick (pc := 70) [0, 1, 2, 3, 4] rfl ?_
      obtain ⟨⟨v3, q3⟩, ⟨v4, q4⟩, ⟨v5, q5⟩, ⟨v6, q6⟩, ⟨v7, q7⟩, ⟨v8, q8⟩, ⟨v9, q9⟩⟩ := id hs
      refine ih ((l + 1) / 2 - (q + 1)) (by omega) (q + 1) _ _ rfl (by omega) (hfr.upA (o := 15) rfl (by decide)) ⟨⟨v3, hz_mne q3 (by omega)⟩, ⟨v4, hz_mne q4 (by omega)⟩, ⟨v5, hz_mne q5 (by omega)⟩, ⟨v6, hz_mne q6 (by omega)⟩, ⟨v7, hz_mne q7 (by omega)⟩, ⟨v8, hz_mne q8 (by omega)⟩, ⟨v9, hz_mne q9 (by omega)⟩⟩ (va_up_self _ _ _) (hi.st hg (by omega) (fun i hi9 => ?_) e2)
      unfold lvl at hi9 ⊢
      rw [if_neg (by omega)] at hi9 ⊢
      rw [hg _ (by omega)] at hi9
      rw [e1 i hi9, show 64 * q + i = 32 * (2 * q) + i by omega]
      exact hi.2 (2 * q) (by omega) (by omega) i (by rw [hg _ (by omega)]; exact hi9)
    · skip
      refine hz_aloadn (pc := 86) 3 (hz_dec kX12_findRoot 56 rfl) rfl ?_
      refine hz_aloadn (pc := 87) 3 (hz_dec kX12_findRoot 57 rfl) rfl ?_
      refine hz_get (pc := 88) (v := .ref (B + 15)) (hz_dec kX12_findRoot 58 rfl) fo_X12_54 hO h8 (by omega) (hF.2 17 (by decide) (by decide)) ?_
      refine hz_bipush (pc := 91) (v := nI 64) (hz_dec kX12_findRoot 59 rfl) (by decide) ?_
      refine hz_iload (pc := 93) 0 (hz_dec kX12_findRoot 60 rfl) rfl ?_
      refine hz_mulN (pc := 95) (hz_dec kX12_findRoot 61 rfl) ?_
      refine hz_bipush (pc := 96) (v := nI 64) (hz_dec kX12_findRoot 62 rfl) (by decide) ?_
      refine hz_callV (pc := 98) (a := B) (As := [.ref (B + 15), .int (nI (64 * q)), .int (nI 64)]) (st := []) (hz_dec kX12_findRoot 63 rfl) co_X12_412 im_X12_twiceOf se_X12_twiceOf rfl hO h8 (by omega) (c_twiceOf (at_ := 64 * q) (n := 64) hk hs h15 (by omega) (by omega) (by decide) (by omega)) rfl (by decide) ⟨Nat.le_refl _, Nat.le_refl _⟩ (Nat.le_of_ble_eq_true rfl) rfl (fun r9 z9 M1 hp9 => ?_)
      obtain ⟨rfl, rfl, hf1, hs1, d, hd, hdc⟩ := hp9
      have h15a : M1 (B + 15) = .inl (1, 256, .inl fr) := (hf1.at 15 rfl).trans h15
      have hO1 : M1 B = .inr (12, fs) := (hf1.at0 rfl).trans hO
      refine hz_aloadn (pc := 101) 3 (hz_dec kX12_findRoot 64 rfl) rfl ?_
      refine hz_aloadn (pc := 102) 3 (hz_dec kX12_findRoot 65 rfl) rfl ?_
      refine hz_get (pc := 103) (v := .ref (B + 15)) (hz_dec kX12_findRoot 66 rfl) fo_X12_54 hO1 h8 (by omega) (hF.2 17 (by decide) (by decide)) ?_
      refine hz_bipush (pc := 106) (v := nI 32) (hz_dec kX12_findRoot 67 rfl) (by decide) ?_
      refine hz_iload (pc := 108) 0 (hz_dec kX12_findRoot 68 rfl) rfl ?_
      refine hz_mulN (pc := 110) (hz_dec kX12_findRoot 69 rfl) ?_
      refine hz_bytes hd (by omega) (by omega) (fun hbd => ?_)
      refine hz_callV (pc := 111) (a := B) (As := [.ref (B + 15), .int (nI (32 * q))]) (st := []) (hz_dec kX12_findRoot 70 rfl) co_X12_415 im_X12_keepDigest se_X12_keepDigest rfl hO1 h8 (by omega) (c_keepD (at_ := 32 * q) hO1 hF h8 hz hd hbd h15a (by omega) (by omega) (by decide) (by omega) (by omega)) rfl (by decide) ⟨Nat.le_refl _, Nat.le_refl _⟩ (Nat.le_of_ble_eq_true rfl) rfl (fun r9 z9 M9 hp9 => ?_)
      obtain ⟨rfl, rfl, fr2, hw1, hw2, rfl⟩ := hp9
      refine hz_goto (pc := 114) (tgt := 159) (hz_dec kX12_findRoot 71 rfl) (by decide) ?_
      refine hz_incN (pc := 159) (i := 4) (lo2 := [(4, .int (nI (q + 1))), (3, .int (nI ((l + 1) / 2))), (2, .int (nI l)), (0, .ref B), (1, .ref r)]) 0 (hz_dec kX12_findRoot 95 rfl) rfl (by decide) rfl ?_
      refine hz_goto (pc := 162) (tgt := 70) (hz_dec kX12_findRoot 96 rfl) (by decide) ?_
      refine hz_pick (pc := 70) [0, 1, 2, 3, 4] rfl ?_
      have hfr1 : mfr B [] [3, 4, 5, 7, 15] M0 M1 := hfr.tr ((mfr.ofl (ks := []) ⟨fs, hO, hF⟩ hf1 rfl).mono rfl rfl)
      obtain ⟨⟨v3, q3⟩, ⟨v4, q4⟩, ⟨v5, q5⟩, ⟨v6, q6⟩, ⟨v7, q7⟩, ⟨v8, q8⟩, ⟨v9, q9⟩⟩ := id hs1
      refine ih ((l + 1) / 2 - (q + 1)) (by omega) (q + 1) _ _ rfl (by omega) (hfr1.upA (o := 15) rfl (by decide)) ⟨⟨v3, hz_mne q3 (by omega)⟩, ⟨v4, hz_mne q4 (by omega)⟩, ⟨v5, hz_mne q5 (by omega)⟩, ⟨v6, hz_mne q6 (by omega)⟩, ⟨v7, hz_mne q7 (by omega)⟩, ⟨v8, hz_mne q8 (by omega)⟩, ⟨v9, hz_mne q9 (by omega)⟩⟩ (va_up_self _ _ _) (hi.st hg (by omega) ?_ hw2)
      unfold lvl
      rw [if_pos (by omega)]
      have hA := hi.2 (2 * q) (by omega) (by omega)
      have hA2 := hi.2 (2 * q + 1) (by omega) (by omega)
      rw [← pr2_of (f := fr) (a := 64 * q) (by rw [show 64 * q = 32 * (2 * q) by omega]; exact hA) (by rw [show 64 * q + 32 = 32 * (2 * q + 1) by omega]; exact hA2) (hg _ (by omega)) (hg _ (by omega))]
      refine isA_dg (fun i hi9 => ?_)
      rw [hw1 i hi9, hdc i hi9]
set_option maxHeartbeats 4000000 in
set_option maxRecDepth 100000 in
theorem c_fr_o {κ : hz_C} {z : Nat} {M0 : hz_M} {B : Nat} (hk0 : md_k B M0 z) {r : Nat} {R : by_L} {P : hz_P} (KK : ∀ M fr, mfr B [] [3, 4, 5, 7, 15] M0 M → md_s B M → M (B + 15) = .inl (1, 256, .inl fr) → isA fr 0 R → R.length = 32 → hz_W κ xX12_findRoot 4 0 0 P 0 0 170 [(0, .ref B)] [] z M) : ∀ k l g M fr, l ≤ 8 → 1 ≤ l → l ≤ k + 1 → mfr B [] [3, 4, 5, 7, 15] M0 M → md_s B M → M (B + 15) = .inl (1, 256, .inl fr) → (∀ i, i < l → (g i).length = 32) → lvI fr g l 0 → rtF k g l = R → hz_W κ xX12_findRoot 4 0 0 P 0 0 56 [(2, .int (nI l)), (0, .ref B), (1, .ref r)] [] z M := by
  intro k
  induction k with
  | zero =>
    intro l g M fr hl8 hl1 hlk hfr hs h15 hg hi hR
    have e : l = 1 := by omega
    subst e
    refine hz_iloadn (pc := 56) 0 (hz_dec kX12_findRoot 35 rfl) rfl ?_
    refine hz_iconst (pc := 57) (v := nI 1) (hz_dec kX12_findRoot 36 rfl) (by decide) ?_
    refine hz_n_le (pc := 58) (tgt := 170) (hz_dec kX12_findRoot 37 rfl) (by decide) (by omega) (by omega) (fun h1 => ?_) (fun h1 => ?_)
    · skip
      refine hz_pick (pc := 170) [1] rfl ?_
      refine KK M fr hfr hs h15 ?_ ?_
      · rw [← hR]
        exact hi.2 0 (by omega) (by omega)
      · rw [← hR]
        exact hg 0 (by omega)
    · skip
      exact absurd h1 (by omega)
  | succ k ih =>
    intro l g M fr hl8 hl1 hlk hfr hs h15 hg hi hR
    refine hz_iloadn (pc := 56) 0 (hz_dec kX12_findRoot 35 rfl) rfl ?_
    refine hz_iconst (pc := 57) (v := nI 1) (hz_dec kX12_findRoot 36 rfl) (by decide) ?_
    refine hz_n_le (pc := 58) (tgt := 170) (hz_dec kX12_findRoot 37 rfl) (by decide) (by omega) (by omega) (fun h1 => ?_) (fun h1 => ?_)
    · skip
      have e : l = 1 := by omega
      subst e
      refine hz_pick (pc := 170) [1] rfl ?_
      refine KK M fr hfr hs h15 ?_ ?_
      · rw [← hR, rtF, if_pos (by omega)]
        exact hi.2 0 (by omega) (by omega)
      · rw [← hR, rtF, if_pos (by omega)]
        exact hg 0 (by omega)
    · skip
      refine hz_iloadn (pc := 61) 0 (hz_dec kX12_findRoot 38 rfl) rfl ?_
      refine hz_iconst (pc := 62) (v := nI 1) (hz_dec kX12_findRoot 39 rfl) (by decide) ?_
      refine hz_addN (pc := 63) (hz_dec kX12_findRoot 40 rfl) ?_
      refine hz_iconst (pc := 64) (v := nI 2) (hz_dec kX12_findRoot 41 rfl) (by decide) ?_
      refine hz_divN (pc := 65) (hz_dec kX12_findRoot 42 rfl) (by omega) (by decide) (by decide) ?_
      refine hz_istoren (pc := 66) (i := 3) (lo2 := [(3, .int (nI ((l + 1) / 2))), (2, .int (nI l)), (0, .ref B), (1, .ref r)]) (hz_dec kX12_findRoot 43 rfl) rfl (by decide) rfl ?_
      refine hz_iconst (pc := 67) (v := nI 0) (hz_dec kX12_findRoot 44 rfl) (by decide) ?_
      refine hz_istore (pc := 68) (i := 4) (lo2 := [(4, .int (nI 0)), (3, .int (nI ((l + 1) / 2))), (2, .int (nI l)), (0, .ref B), (1, .ref r)]) (hz_dec kX12_findRoot 45 rfl) (by decide) rfl ?_
      refine hz_pick (pc := 70) [0, 1, 2, 3, 4] rfl ?_
      refine c_fr_i hk0 hl8 (by omega) hg (fun M2 fr2 hfr2 hs2 h15b hi2 => ?_) ((l + 1) / 2) 0 M fr rfl (by omega) hfr hs h15 hi
      refine hz_iloadn (pc := 165) 0 (hz_dec kX12_findRoot 97 rfl) rfl ?_
      refine hz_istoren (pc := 166) (i := 2) (lo2 := [(2, .int (nI ((l + 1) / 2))), (3, .int (nI ((l + 1) / 2))), (0, .ref B), (1, .ref r)]) (hz_dec kX12_findRoot 98 rfl) rfl (by decide) rfl ?_
      refine hz_goto (pc := 167) (tgt := 56) (hz_dec kX12_findRoot 99 rfl) (by decide) ?_
      refine hz_pick (pc := 56) [0, 2, 3] rfl ?_
      refine ih _ (lvl g l) M2 fr2 (by omega) (by omega) (by omega) hfr2 hs2 h15b (lvl_len hg) hi2.nx ?_
      rw [← hR, rtF, if_neg (by omega)]
set_option maxHeartbeats 4000000 in
set_option maxRecDepth 100000 in
theorem c_fr_d {κ : hz_C} {z : Nat} {M : hz_M} {B : Nat} {fs : List Value} (hO : M B = .inr (12, fs)) (hF : md_F B fs) (h8 : 8 ≤ B) (hz : B + 88 ≤ z) {fr d0 : Nat → Int32} (h15 : M (B + 15) = .inl (1, 256, .inl fr)) (h5 : M (B + 5) = .inl (1, 32, .inl d0)) (hby : ∀ x, x < 256 → (fr x).toInt8.toInt32 = fr x) {P : hz_P} (K : ∀ dx : Nat → Int32, (∀ j, j < 32 → dx j = fr j) → P none z (va_up M (B + 5) (.inl (1, 32, .inl dx)))) : ∀ k i dx, k = 32 - i → i ≤ 32 → (∀ j, j < i → dx j = fr j) → hz_W κ xX12_findRoot 4 0 0 P 0 0 172 [(3, .int (nI i)), (0, .ref B)] [] z (va_up M (B + 5) (.inl (1, 32, .inl dx))) := by
  intro k
  induction k using Nat.strongRecOn with
  | ind k ih =>
  intro i dx hk_ hi h1
  refine hz_iloadn (pc := 172) 0 (hz_dec kX12_findRoot 102 rfl) rfl ?_
  refine hz_bipush (pc := 173) (v := nI 32) (hz_dec kX12_findRoot 103 rfl) (by decide) ?_
  refine hz_n_ge (pc := 175) (tgt := 196) (hz_dec kX12_findRoot 104 rfl) (by decide) (by omega) (by omega) (fun h9 => ?_) (fun h9 => ?_)
  · skip
    have e : i = 32 := by omega
    subst e
    exact hz_vret (pc := 196) (hz_dec kX12_findRoot 115 rfl) rfl (K dx h1)
  · skip
    refine hz_aloadn (pc := 178) 1 (hz_dec kX12_findRoot 105 rfl) rfl ?_
    refine hz_get (pc := 179) (v := .ref (B + 5)) (hz_dec kX12_findRoot 106 rfl) fo_X12_22 (hz_mne hO (by omega)) h8 (by omega) (hF.2 6 (by decide) (by decide)) ?_
    refine hz_iloadn (pc := 182) 0 (hz_dec kX12_findRoot 107 rfl) rfl ?_
    refine hz_aloadn (pc := 183) 1 (hz_dec kX12_findRoot 108 rfl) rfl ?_
    refine hz_get (pc := 184) (v := .ref (B + 15)) (hz_dec kX12_findRoot 109 rfl) fo_X12_54 (hz_mne hO (by omega)) h8 (by omega) (hF.2 17 (by decide) (by decide)) ?_
    refine hz_iloadn (pc := 187) 0 (hz_dec kX12_findRoot 110 rfl) rfl ?_
    refine hz_bald (pc := 188) (j := i) (hz_dec kX12_findRoot 111 rfl) (hz_mne h15 (by omega)) (by omega) (by omega) rfl (by omega) (by omega) ?_
    refine hz_bast (pc := 189) (j := i) (hz_dec kX12_findRoot 112 rfl) (va_up_self _ _ _) (by omega) (by omega) rfl (by omega) (by omega) ?_
    refine hz_mem (pc := 190) (M2 := (va_up M (B + 5) (.inl (1, 32, .inl (upd dx i ((fr i).toInt8.toInt32)))))) (bx_uu _ _ _ _) ?_
    refine hz_incN (pc := 190) (i := 3) (lo2 := [(3, .int (nI (i + 1))), (0, .ref B)]) 0 (hz_dec kX12_findRoot 113 rfl) rfl (by decide) rfl ?_
    refine hz_goto (pc := 193) (tgt := 172) (hz_dec kX12_findRoot 114 rfl) (by decide) ?_
    refine hz_pick (pc := 172) [0, 1] rfl ?_
    refine ih (32 - (i + 1)) (by omega) (i + 1) _ rfl (by omega) (fun j hj => ?_)
    simp only [upd]
    split
    · next e => rw [e, hby _ (by omega)]
    · exact h1 j (by omega)
set_option maxHeartbeats 4000000 in
set_option maxRecDepth 100000 in
theorem c_fr_1 {κ : hz_C} {z : Nat} {M0 : hz_M} {B : Nat} (hk0 : md_k B M0 z) {r n m : Nat} {f s : Nat → Int32} (hB0 : M0 r = .inl (1, n, .inl f)) (hr8 : 8 ≤ r) (hrz : r < z) (hro : ∀ o ∈ (0 :: [3, 4, 5, 7, 15]), r ≠ B + o) (hn : n < 2 ^ 24) (h140 : M0 (B + 14) = .inl (0, 9, .inl s)) (hm : m ≤ 8) {st : Nat → Nat} (hst : ∀ j, j ≤ m → s j = nI (st j)) {T : Nat → by_L} (hT : ∀ j, j < m → isA f (st j) (T j) ∧ st (j + 1) = st j + (T j).length ∧ st (j + 1) ≤ n) {P : hz_P} (K : ∀ M fr, mfr B [] [3, 4, 5, 7, 15] M0 M → md_s B M → M (B + 15) = .inl (1, 256, .inl fr) → (∀ q, q < m → isA fr (32 * q) (hhS (T q))) → hz_W κ xX12_findRoot 4 0 0 P 0 0 56 [(2, .int (nI m)), (0, .ref B), (1, .ref r)] [] z M) : ∀ k j M fr, k = m - j → j ≤ m → mfr B [] [3, 4, 5, 7, 15] M0 M → md_s B M → M (B + 15) = .inl (1, 256, .inl fr) → (∀ q, q < j → isA fr (32 * q) (hhS (T q))) → hz_W κ xX12_findRoot 4 0 0 P 0 0 7 [(3, .int (nI j)), (2, .int (nI m)), (0, .ref B), (1, .ref r)] [] z M := by
  intro k
  induction k using Nat.strongRecOn with
  | ind k ih =>
  intro j M fr hk_ hjm hfr hs h15 hi2
  have hk : md_k B M z := hk0.mf hfr rfl rfl
  obtain ⟨⟨fs, hO, hF⟩, -, -, h8, hz⟩ := id hk
  have hB : M r = .inl (1, n, .inl f) := (hfr.1 r hro).trans hB0
  have h14 : M (B + 14) = .inl (0, 9, .inl s) := (hfr.at 14 (by decide) rfl).trans h140
  refine hz_iloadn (pc := 7) 0 (hz_dec kX12_findRoot 5 rfl) rfl ?_
  refine hz_iloadn (pc := 8) 1 (hz_dec kX12_findRoot 6 rfl) rfl ?_
  refine hz_n_ge (pc := 9) (tgt := 56) (hz_dec kX12_findRoot 7 rfl) (by decide) (by omega) (by omega) (fun h1 => ?_) (fun h1 => ?_)
  · skip
    have e : j = m := by omega
    subst e
    refine hz_pick (pc := 56) [1, 2, 3] rfl ?_
    exact K M fr hfr hs h15 hi2
  · skip
    obtain ⟨t1, t2, t3⟩ := hT j (by omega)
    refine hz_aloadn (pc := 12) 2 (hz_dec kX12_findRoot 8 rfl) rfl ?_
    refine hz_aloadn (pc := 13) 3 (hz_dec kX12_findRoot 9 rfl) rfl ?_
    refine hz_aloadn (pc := 14) 2 (hz_dec kX12_findRoot 10 rfl) rfl ?_
    refine hz_get (pc := 15) (v := .ref (B + 14)) (hz_dec kX12_findRoot 11 rfl) fo_X12_51 hO h8 (by omega) (hF.2 15 (by decide) (by decide)) ?_
    refine hz_iloadn (pc := 18) 0 (hz_dec kX12_findRoot 12 rfl) rfl ?_
    refine hz_iald (pc := 19) (j := j) (hz_dec kX12_findRoot 13 rfl) h14 (by omega) (by omega) rfl (by omega) (by omega) ?_
    refine hz_eqi (pc := 20) (hst (j) (by omega)) ?_
    refine hz_aloadn (pc := 20) 2 (hz_dec kX12_findRoot 14 rfl) rfl ?_
    refine hz_get (pc := 21) (v := .ref (B + 14)) (hz_dec kX12_findRoot 15 rfl) fo_X12_51 hO h8 (by omega) (hF.2 15 (by decide) (by decide)) ?_
    refine hz_iloadn (pc := 24) 0 (hz_dec kX12_findRoot 16 rfl) rfl ?_
    refine hz_iconst (pc := 25) (v := nI 1) (hz_dec kX12_findRoot 17 rfl) (by decide) ?_
    refine hz_addN (pc := 26) (hz_dec kX12_findRoot 18 rfl) ?_
    refine hz_iald (pc := 27) (j := j + 1) (hz_dec kX12_findRoot 19 rfl) h14 (by omega) (by omega) rfl (by omega) (by omega) ?_
    refine hz_eqi (pc := 28) (hst (j + 1) (by omega)) ?_
    refine hz_aloadn (pc := 28) 2 (hz_dec kX12_findRoot 20 rfl) rfl ?_
    refine hz_get (pc := 29) (v := .ref (B + 14)) (hz_dec kX12_findRoot 21 rfl) fo_X12_51 hO h8 (by omega) (hF.2 15 (by decide) (by decide)) ?_
    refine hz_iloadn (pc := 32) 0 (hz_dec kX12_findRoot 22 rfl) rfl ?_
    refine hz_iald (pc := 33) (j := j) (hz_dec kX12_findRoot 23 rfl) h14 (by omega) (by omega) rfl (by omega) (by omega) ?_
    refine hz_eqi (pc := 34) (hst (j) (by omega)) ?_
    refine hz_subN (pc := 34) (hz_dec kX12_findRoot 24 rfl) (by omega) ?_
    refine hz_callV (pc := 35) (a := B) (As := [.ref r, .int (nI (st (j))), .int (nI ((st (j + 1)) - (st (j))))]) (st := []) (hz_dec kX12_findRoot 25 rfl) co_X12_412 im_X12_twiceOf se_X12_twiceOf rfl hO h8 (by omega) (c_twiceOf (at_ := st j) (n := st (j + 1) - st j) hk hs hB hr8 hrz (by omega) (by omega)) rfl (by decide) ⟨Nat.le_refl _, Nat.le_refl _⟩ (Nat.le_of_ble_eq_true rfl) rfl (fun r9 z9 M1 hp9 => ?_)
    obtain ⟨rfl, rfl, hf1, hs1, d, hd, hdc⟩ := hp9
    rw [shS_of t1 (by omega)] at hdc
    have h15a : M1 (B + 15) = .inl (1, 256, .inl fr) := (hf1.at 15 rfl).trans h15
    have hO1 : M1 B = .inr (12, fs) := (hf1.at0 rfl).trans hO
    refine hz_aloadn (pc := 38) 2 (hz_dec kX12_findRoot 26 rfl) rfl ?_
    refine hz_aloadn (pc := 39) 2 (hz_dec kX12_findRoot 27 rfl) rfl ?_
    refine hz_get (pc := 40) (v := .ref (B + 15)) (hz_dec kX12_findRoot 28 rfl) fo_X12_54 hO1 h8 (by omega) (hF.2 17 (by decide) (by decide)) ?_
    refine hz_bipush (pc := 43) (v := nI 32) (hz_dec kX12_findRoot 29 rfl) (by decide) ?_
    refine hz_iloadn (pc := 45) 0 (hz_dec kX12_findRoot 30 rfl) rfl ?_
    refine hz_mulN (pc := 46) (hz_dec kX12_findRoot 31 rfl) ?_
    refine hz_bytes hd (by omega) (by omega) (fun hbd => ?_)
    refine hz_callV (pc := 47) (a := B) (As := [.ref (B + 15), .int (nI (32 * j))]) (st := []) (hz_dec kX12_findRoot 32 rfl) co_X12_415 im_X12_keepDigest se_X12_keepDigest rfl hO1 h8 (by omega) (c_keepD (at_ := 32 * j) hO1 hF h8 hz hd hbd h15a (by omega) (by omega) (by decide) (by omega) (by omega)) rfl (by decide) ⟨Nat.le_refl _, Nat.le_refl _⟩ (Nat.le_of_ble_eq_true rfl) rfl (fun r9 z9 M9 hp9 => ?_)
    obtain ⟨rfl, rfl, fr2, hw1, hw2, rfl⟩ := hp9
    refine hz_incN (pc := 50) (i := 3) (lo2 := [(3, .int (nI (j + 1))), (2, .int (nI m)), (0, .ref B), (1, .ref r)]) 0 (hz_dec kX12_findRoot 33 rfl) rfl (by decide) rfl ?_
    refine hz_goto (pc := 53) (tgt := 7) (hz_dec kX12_findRoot 34 rfl) (by decide) ?_
    refine hz_pick (pc := 7) [0, 1, 2, 3] rfl ?_
    have hfr1 : mfr B [] [3, 4, 5, 7, 15] M0 M1 := hfr.tr ((mfr.ofl (ks := []) ⟨fs, hO, hF⟩ hf1 rfl).mono rfl rfl)
    obtain ⟨⟨v3, q3⟩, ⟨v4, q4⟩, ⟨v5, q5⟩, ⟨v6, q6⟩, ⟨v7, q7⟩, ⟨v8, q8⟩, ⟨v9, q9⟩⟩ := id hs1
    refine ih (m - (j + 1)) (by omega) (j + 1) _ _ rfl (by omega) (hfr1.upA (o := 15) rfl (by decide)) ⟨⟨v3, hz_mne q3 (by omega)⟩, ⟨v4, hz_mne q4 (by omega)⟩, ⟨v5, hz_mne q5 (by omega)⟩, ⟨v6, hz_mne q6 (by omega)⟩, ⟨v7, hz_mne q7 (by omega)⟩, ⟨v8, hz_mne q8 (by omega)⟩, ⟨v9, hz_mne q9 (by omega)⟩⟩ (va_up_self _ _ _) (fun q hq => ?_)
    rcases (show q = j ∨ q < j by omega) with rfl | c
    · refine isA_dg (fun i hi9 => ?_)
      rw [hw1 i hi9, hdc i hi9]
    · refine isA_c (hi2 q c) (fun i hi9 => hw2 _ (Or.inl ?_))
      have e32 : (hhS (T q)).length = 32 := dgS_len _
      omega
set_option maxHeartbeats 4000000 in
set_option maxRecDepth 100000 in
theorem c_findRoot {κ : hz_C} {z : Nat} {M : hz_M} {B : Nat} (hk0 : md_k B M z) {r n m : Nat} {f s : Nat → Int32} (hB0 : M r = .inl (1, n, .inl f)) (hr8 : 8 ≤ r) (hrz : r < z) (hro : ∀ o ∈ (0 :: [3, 4, 5, 7, 15]), r ≠ B + o) (hn : n < 2 ^ 24) (h140 : M (B + 14) = .inl (0, 9, .inl s)) (hm : m ≤ 8) {st : Nat → Nat} (hst : ∀ j, j ≤ m → s j = nI (st j)) {T : Nat → by_L} (hT : ∀ j, j < m → isA f (st j) (T j) ∧ st (j + 1) = st j + (T j).length ∧ st (j + 1) ≤ n) (hm1 : 1 ≤ m) (hs : md_s B M) (h16 : fdB M B 16 = some (.int (nI m))) {fr : Nat → Int32} (h15 : M (B + 15) = .inl (1, 256, .inl fr)) : hz_Mt κ xX12_findRoot 4 0 0 [.ref B, .ref r] z M (fun rr z2 M2 => none = rr ∧ z = z2 ∧ mfr B [] [3, 4, 5, 7, 15] M M2 ∧ md_s B M2 ∧ (∃ g : Nat → Int32, M2 (B + 15) = .inl (1, 256, .inl g)) ∧ ∃ d : Nat → Int32, M2 (B + 5) = .inl (1, 32, .inl d) ∧ isA d 0 (rtF 8 (fun q => hhS (T q)) m)) := by
  refine hz_ent (lo := [(0, .ref B), (1, .ref r)]) (by decide) (Nat.le_of_ble_eq_true rfl) rfl ?_
  obtain ⟨⟨fs, hO, hF⟩, -, -, h8, hz⟩ := id hk0
  rw [fdB_of hO] at h16
  refine hz_aloadn (pc := 0) 0 (hz_dec kX12_findRoot 0 rfl) rfl ?_
  refine hz_get (pc := 1) (v := .int (nI m)) (hz_dec kX12_findRoot 1 rfl) fo_X12_409 hO h8 (by omega) h16 ?_
  refine hz_istoren (pc := 4) (i := 2) (lo2 := [(2, .int (nI m)), (0, .ref B), (1, .ref r)]) (hz_dec kX12_findRoot 2 rfl) rfl (by decide) rfl ?_
  refine hz_iconst (pc := 5) (v := nI 0) (hz_dec kX12_findRoot 3 rfl) (by decide) ?_
  refine hz_istoren (pc := 6) (i := 3) (lo2 := [(3, .int (nI 0)), (2, .int (nI m)), (0, .ref B), (1, .ref r)]) (hz_dec kX12_findRoot 4 rfl) rfl (by decide) rfl ?_
  refine hz_pick (pc := 7) [0, 1, 2, 3] rfl ?_
  refine c_fr_1 hk0 hB0 hr8 hrz hro hn h140 hm hst hT (fun M1 fr1 hf1 hs1 h151 hi2 => ?_) m 0 M fr rfl (by omega) (mfr.rf ⟨fs, hO, hF⟩) hs h15 (fun q hq => absurd hq (by omega))
  refine c_fr_o hk0 (R := rtF 8 (fun q => hhS (T q)) m) (fun M2 fr2 hf2 hs2 h152 hA hR32 => ?_) 8 m (fun q => hhS (T q)) M1 fr1 hm hm1 (by omega) hf1 hs1 h151 (fun i _ => dgS_len _) ⟨fun i hi => absurd hi (by omega), fun i _ hi => hi2 i hi⟩ rfl
  obtain ⟨fs2, hO2, hF2⟩ := id hf2.2.1
  obtain ⟨⟨v3, q3⟩, ⟨v4, q4⟩, ⟨v5, q5⟩, ⟨v6, q6⟩, ⟨v7, q7⟩, ⟨v8, q8⟩, ⟨v9, q9⟩⟩ := id hs2
  refine hz_iconst (pc := 170) (v := nI 0) (hz_dec kX12_findRoot 100 rfl) (by decide) ?_
  refine hz_istoren (pc := 171) (i := 3) (lo2 := [(3, .int (nI 0)), (0, .ref B)]) (hz_dec kX12_findRoot 101 rfl) rfl (by decide) rfl ?_
  refine hz_pick (pc := 172) [0, 1] rfl ?_
  refine hz_bytes h152 (by omega) (by omega) (fun hby => ?_)
  refine hz_mem (pc := 172) (hz_upid q5).symm ?_
  refine c_fr_d hO2 hF2 h8 hz h152 q5 hby (fun dx e1 => ?_) 32 0 v5 rfl (by omega) (fun j hj => absurd hj (by omega))
  refine ⟨rfl, rfl, hf2.upA (o := 5) rfl (by decide), ⟨⟨v3, hz_mne q3 (by omega)⟩, ⟨v4, hz_mne q4 (by omega)⟩, ⟨dx, va_up_self _ _ _⟩, ⟨v6, hz_mne q6 (by omega)⟩, ⟨v7, hz_mne q7 (by omega)⟩, ⟨v8, hz_mne q8 (by omega)⟩, ⟨v9, hz_mne q9 (by omega)⟩⟩, ⟨fr2, hz_mne h152 (by omega)⟩, dx, va_up_self _ _ _, fun j hj => ?_⟩
  rw [hR32] at hj
  rw [Nat.zero_add, e1 j hj, ← hA j (by omega), Nat.zero_add]
